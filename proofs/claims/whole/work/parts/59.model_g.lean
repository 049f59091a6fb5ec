set_option maxHeartbeats 4000000 in
set_option maxRecDepth 100000 in
theorem m_place (l : Launch) (dC : Nat → ClassId) (dI : Nat → Nat → Nat) (sz : Nat) (mo ad asu aru ast afo : Nat) (mth mw mh mro msd mmn : Int32) (MN : Int) (hmn : mmn.toInt = MN) (s0 : 0 ≤ MN) (s1 : MN ≤ 300) (kF : ClassId) (ff : Nat → Int32) (a1 a2 : Int32) (k wh : Int) (g1 : a1.toInt = k) (g2 : a2.toInt = wh) : Met l y_Model_place (.code y_Model_place b_Model_place 3 (some .int) :: allw) ({ frames := 0, cells := 0, slots := 0, locals := 0 }) (va_Pc [.ref mo, .int a1, .int a2] (rw_B (dC, dI) vwCl [(mo, .inr (5, [.int mth, .int mw, .int mh, .ref ad, .ref asu, .ref aru, .int mro, .ref ast, .int msd, .ref afo, .int mmn])), (afo, .inl (kF, 1800, .inl ff))] [(kF, .int)] sz)) (va_Qi (fun (r : Int32) (u : Int32) => (¬ (0 ≤ wh ∧ wh ≤ 5) ∧ u = 1) ∨ ((0 ≤ wh ∧ wh ≤ 5) ∧ u = 0 ∧ ((0 ≤ k ∧ k < MN) ∧ r = ff (6 * k + wh).toNat ∨ ¬ (0 ≤ k ∧ k < MN) ∧ r = -1))) (fun u t => rw_E (dC, dI) vwCl [(mo, .inr (5, [.int u, .int mw, .int mh, .ref ad, .ref asu, .ref aru, .int mro, .ref ast, .int msd, .ref afo, .int mmn])), (afo, .inl (kF, 1800, .inl ff))] [(kF, .int)] (va_A [(mo, .inr (5, [.int mth, .int mw, .int mh, .ref ad, .ref asu, .ref aru, .int mro, .ref ast, .int msd, .ref afo, .int mmn])), (afo, .inl (kF, 1800, .inl ff))] sz) t) (va_A [(mo, .inr (5, [.int mth, .int mw, .int mh, .ref ad, .ref asu, .ref aru, .int mro, .ref ast, .int msd, .ref afo, .int mmn])), (afo, .inl (kF, 1800, .inl ff))] sz)) 0 0 (va_A [(mo, .inr (5, [.int mth, .int mw, .int mh, .ref ad, .ref asu, .ref aru, .int mro, .ref ast, .int msd, .ref afo, .int mmn])), (afo, .inl (kF, 1800, .inl ff))] sz) := by
  refine Met.ofW (cc := b_Model_place) (maxL := 3) (ret := (some .int)) (by decide) rfl ?_
  intro p e s m args below meth c s₁ B hml hv
  obtain ⟨rfl, hsz, hP, hK, hD0⟩ := hv
  have hx := B.exec
  have hb := B.bytes
  have hr := B.returns
  have hts : ∀ w ∈ allw, w.before _ s = true := fun w h => atoms_spec (ws := .code y_Model_place b_Model_place 3 (some .int) :: allw) B.pre w (List.mem_cons_of_mem _ h)
  have hown : s.vm.findClass R_Model = some m.cls := findClass_of_methodNamed B.named
  have hlocks := B.notSynchronized
  subst hsz
  have hD := hD0.self (sz := s.heap.size)
  generalize hAe : va_A [(mo, .inr (5, [.int mth, .int mw, .int mh, .ref ad, .ref asu, .ref aru, .int mro, .ref ast, .int msd, .ref afo, .int mmn])), (afo, .inl (kF, 1800, .inl ff))] s.heap.size = A at hD ⊢
  have hA : ∀ q : Nat, s.heap.size ≤ q → A q := fun q h => by rw [← hAe]; exact Or.inr h
  have hS : va_S A s.heap s.heap [] := va_S.rf
  have hP : va_P (dC, dI) vwCl [(mo, .inr (5, [.int mth, .int mw, .int mh, .ref ad, .ref asu, .ref aru, .int mro, .ref ast, .int msd, .ref afo, .int mmn])), (afo, .inl (kF, 1800, .inl ff))] s.heap := hP
  have hl := lv_entry ([.ref mo, .int a1, .int a2]) (n := 3) (Nat.le_of_ble_eq_true rfl)
  rw [lg_entry_eq]
  generalize (lg_sl ([.ref mo, .int a1, .int a2]) ++ List.replicate (3 - (lg_sl ([.ref mo, .int a1, .int a2])).length) Slot.unset).toArray = ls at hl ⊢
  have hl : lv_has ls 3 [(0, .ref mo), (1, .int a1), (2, .int a2)] := hl
  have q1 := ti_rng a1
  have q2 := ti_rng a2
  refine lv_aload_n hx hb d_Model_place_0 rfl (lv_at hl 0 rfl) ?_
  refine w_cut (I := fun H' locs' g' => ∃ (tv : Int32) (ztv : Int) (ls : Array Slot), g' = F0 m 15 ls [.int tv, .ref mo] ∧ lv_has ls 3 [(0, .ref mo), (1, .int a1), (2, .int a2)] ∧ tv.toInt = ztv ∧ ((0 ≤ wh ∧ wh ≤ 5) ∧ ztv = 0 ∨ ¬ (0 ≤ wh ∧ wh ≤ 5) ∧ ztv = 1) ∧ va_P (dC, dI) vwCl [(mo, .inr (5, [.int mth, .int mw, .int mh, .ref ad, .ref asu, .ref aru, .int mro, .ref ast, .int msd, .ref afo, .int mmn])), (afo, .inl (kF, 1800, .inl ff))] H' ∧ va_D A [(mo, .inr (5, [.int mth, .int mw, .int mh, .ref ad, .ref asu, .ref aru, .int mro, .ref ast, .int msd, .ref afo, .int mmn])), (afo, .inl (kF, 1800, .inl ff))] ∧ va_S A s.heap H' locs') ?_ ?_
  · skip
    intro H15 locs g' hI
    obtain ⟨tv, ztv, ls, rfl, hl, htv, itv, hP, hD, hS⟩ := hI
    refine va_put (D := (dC, dI)) (ci := 5) (v := .int tv) (ty := .int) (C := R_Model) (T := T_Model) (N := 11) hx hb hts i_Model t_Model t_Model_ok n_Model hown hK hP hD hS 0 rfl rfl 0 (by decide) (hts _ wd_565) (fun _ h9 => h9) rfl (by decide +kernel) rfl rfl (Nat.le_of_ble_eq_true rfl) d_Model_place_15 (fun H15 locs hP hD hS => ?_)
    have hP : va_P (dC, dI) vwCl [(mo, .inr (5, [.int tv, .int mw, .int mh, .ref ad, .ref asu, .ref aru, .int mro, .ref ast, .int msd, .ref afo, .int mmn])), (afo, .inl (kF, 1800, .inl ff))] H15 := hP
    have hD : va_D A [(mo, .inr (5, [.int tv, .int mw, .int mh, .ref ad, .ref asu, .ref aru, .int mro, .ref ast, .int msd, .ref afo, .int mmn])), (afo, .inl (kF, 1800, .inl ff))] := hD
    refine lv_aload_n hx hb d_Model_place_18 rfl (lv_at hl 0 rfl) ?_
    refine va_get (D := (dC, dI)) (ci := 5) (v := .int tv) (C := R_Model) (T := T_Model) (N := 11) hx hb hts i_Model hown hK hP 0 rfl rfl 0 (by decide) (hts _ wd_565) (fun _ h9 => h9) rfl d_Model_place_19 ?_
    refine lv_if_le (tgt := 27) hx hb d_Model_place_22 (by decide) (fun c22 => ?_) (fun c22 => ?_)
    · skip
      have c22 : ztv ≤ 0 := (ti_le htv (ti_k (by decide))).mp c22
      refine lv_iload_n hx hb d_Model_place_27 rfl (lv_at hl 1 rfl) ?_
      refine lv_if_lt (tgt := 39) hx hb d_Model_place_28 (by decide) (fun c28 => ?_) (fun c28 => ?_)
      · skip
        have c28 : k < 0 := (ti_lt g1 (ti_k (by decide))).mp c28
        refine lv_iconst (v := (-1)) hx hb d_Model_place_39 (by decide) ?_
        refine lv_goto (tgt := 54) hx hb d_Model_place_40 (by decide) ?_
        have hpost : (¬ (0 ≤ wh ∧ wh ≤ 5) ∧ tv = 1) ∨ ((0 ≤ wh ∧ wh ≤ 5) ∧ tv = 0 ∧ ((0 ≤ k ∧ k < MN) ∧ ((-1) : Int32) = ff (6 * k + wh).toNat ∨ ¬ (0 ≤ k ∧ k < MN) ∧ ((-1) : Int32) = -1)) := by
          refine Or.inr ⟨by omega, (ti_eq (y := 0) htv (by decide)).mpr (by omega), ?_⟩
          exact Or.inr ⟨by omega, rfl⟩
        have hP9 := hP.sub (ws' := [(mo, .inr (5, [.int tv, .int mw, .int mh, .ref ad, .ref asu, .ref aru, .int mro, .ref ast, .int msd, .ref afo, .int mmn])), (afo, .inl (kF, 1800, .inl ff))]) [0, 1] rfl
        have hD9 := hD.sub (ws' := [(mo, .inr (5, [.int tv, .int mw, .int mh, .ref ad, .ref asu, .ref aru, .int mro, .ref ast, .int msd, .ref afo, .int mmn])), (afo, .inl (kF, 1800, .inl ff))]) [0, 1] (by decide) rfl
        have hK9 := hK.sub (tys' := [(kF, .int)]) [0] rfl
        exact W.iret (v := (-1)) hx hb hr (fun t ht hW => ⟨⟨(-1), tv, rfl, hpost, by rw [ht]; exact hP9, va_K.moved hW.alike hK9, hD9⟩, hS.F ht⟩) hS.2.2 d_Model_place_54
      · skip
        have c28 : ¬ (k < 0) := fun q => c28 ((ti_lt g1 (ti_k (by decide))).mpr q)
        refine lv_iload_n hx hb d_Model_place_31 rfl (lv_at hl 1 rfl) ?_
        refine lv_aload_n hx hb d_Model_place_32 rfl (lv_at hl 0 rfl) ?_
        refine va_get (D := (dC, dI)) (ci := 5) (v := .int mmn) (C := R_Model) (T := T_Model) (N := 11) hx hb hts i_Model hown hK hP 0 rfl rfl 10 (by decide) (hts _ wd_575) (fun _ h9 => h9) rfl d_Model_place_33 ?_
        refine lv_icmp_lt (tgt := 43) hx hb d_Model_place_36 (by decide) (fun c36 => ?_) (fun c36 => ?_)
        · skip
          have c36 : k < MN := (ti_lt g1 hmn).mp c36
          refine lv_aload_n hx hb d_Model_place_43 rfl (lv_at hl 0 rfl) ?_
          refine va_get (D := (dC, dI)) (ci := 5) (v := .ref afo) (C := R_Model) (T := T_Model) (N := 11) hx hb hts i_Model hown hK hP 0 rfl rfl 9 (by decide) (hts _ wd_574) (fun _ h9 => h9) rfl d_Model_place_44 ?_
          refine lv_bipush (v := 6) hx hb d_Model_place_47 (by decide) ?_
          refine lv_iload_n hx hb d_Model_place_49 rfl (lv_at hl 1 rfl) ?_
          refine lv_imul hx hb d_Model_place_50 ?_
          refine lv_topi (fun v50 e50 => ?_)
          have h50 : v50.toInt = 6 * k := by rw [e50]; exact ti_mul (ti_k (by decide)) g1 (by omega) (by omega)
          refine lv_iload_n hx hb d_Model_place_51 rfl (lv_at hl 2 rfl) ?_
          refine lv_iadd hx hb d_Model_place_52 ?_
          refine lv_topi (fun v52 e52 => ?_)
          have h52 : v52.toInt = (6 * k) + wh := by rw [e52]; exact ti_add h50 g2 (by omega) (by omega)
          have in53 : vp_in v52 1800 := vi_in h52 (by omega) (by omega)
          refine va_iald hx hb hK hP 1 0 rfl rfl in53 d_Model_place_53 ?_
          refine lv_topi (fun v53 e53 => ?_)
          have e53 : v53 = ff (((6 * k) + wh)).toNat := by rw [e53, vi_cl h52]
          have hpost : (¬ (0 ≤ wh ∧ wh ≤ 5) ∧ tv = 1) ∨ ((0 ≤ wh ∧ wh ≤ 5) ∧ tv = 0 ∧ ((0 ≤ k ∧ k < MN) ∧ (v53 : Int32) = ff (6 * k + wh).toNat ∨ ¬ (0 ≤ k ∧ k < MN) ∧ (v53 : Int32) = -1)) := by
            refine Or.inr ⟨by omega, (ti_eq (y := 0) htv (by decide)).mpr (by omega), ?_⟩
            exact Or.inl ⟨by omega, e53⟩
          have hP9 := hP.sub (ws' := [(mo, .inr (5, [.int tv, .int mw, .int mh, .ref ad, .ref asu, .ref aru, .int mro, .ref ast, .int msd, .ref afo, .int mmn])), (afo, .inl (kF, 1800, .inl ff))]) [0, 1] rfl
          have hD9 := hD.sub (ws' := [(mo, .inr (5, [.int tv, .int mw, .int mh, .ref ad, .ref asu, .ref aru, .int mro, .ref ast, .int msd, .ref afo, .int mmn])), (afo, .inl (kF, 1800, .inl ff))]) [0, 1] (by decide) rfl
          have hK9 := hK.sub (tys' := [(kF, .int)]) [0] rfl
          exact W.iret (v := v53) hx hb hr (fun t ht hW => ⟨⟨v53, tv, rfl, hpost, by rw [ht]; exact hP9, va_K.moved hW.alike hK9, hD9⟩, hS.F ht⟩) hS.2.2 d_Model_place_54
        · skip
          have c36 : ¬ (k < MN) := fun q => c36 ((ti_lt g1 hmn).mpr q)
          refine lv_iconst (v := (-1)) hx hb d_Model_place_39 (by decide) ?_
          refine lv_goto (tgt := 54) hx hb d_Model_place_40 (by decide) ?_
          have hpost : (¬ (0 ≤ wh ∧ wh ≤ 5) ∧ tv = 1) ∨ ((0 ≤ wh ∧ wh ≤ 5) ∧ tv = 0 ∧ ((0 ≤ k ∧ k < MN) ∧ ((-1) : Int32) = ff (6 * k + wh).toNat ∨ ¬ (0 ≤ k ∧ k < MN) ∧ ((-1) : Int32) = -1)) := by
            refine Or.inr ⟨by omega, (ti_eq (y := 0) htv (by decide)).mpr (by omega), ?_⟩
            exact Or.inr ⟨by omega, rfl⟩
          have hP9 := hP.sub (ws' := [(mo, .inr (5, [.int tv, .int mw, .int mh, .ref ad, .ref asu, .ref aru, .int mro, .ref ast, .int msd, .ref afo, .int mmn])), (afo, .inl (kF, 1800, .inl ff))]) [0, 1] rfl
          have hD9 := hD.sub (ws' := [(mo, .inr (5, [.int tv, .int mw, .int mh, .ref ad, .ref asu, .ref aru, .int mro, .ref ast, .int msd, .ref afo, .int mmn])), (afo, .inl (kF, 1800, .inl ff))]) [0, 1] (by decide) rfl
          have hK9 := hK.sub (tys' := [(kF, .int)]) [0] rfl
          exact W.iret (v := (-1)) hx hb hr (fun t ht hW => ⟨⟨(-1), tv, rfl, hpost, by rw [ht]; exact hP9, va_K.moved hW.alike hK9, hD9⟩, hS.F ht⟩) hS.2.2 d_Model_place_54
    · skip
      have c22 : ¬ (ztv ≤ 0) := fun q => c22 ((ti_le htv (ti_k (by decide))).mpr q)
      refine lv_iconst (v := 0) hx hb d_Model_place_25 (by decide) ?_
      have hpost : (¬ (0 ≤ wh ∧ wh ≤ 5) ∧ tv = 1) ∨ ((0 ≤ wh ∧ wh ≤ 5) ∧ tv = 0 ∧ ((0 ≤ k ∧ k < MN) ∧ (0 : Int32) = ff (6 * k + wh).toNat ∨ ¬ (0 ≤ k ∧ k < MN) ∧ (0 : Int32) = -1)) := by
        exact Or.inl ⟨by omega, (ti_eq (y := 1) htv (by decide)).mpr (by omega)⟩
      have hP9 := hP.sub (ws' := [(mo, .inr (5, [.int tv, .int mw, .int mh, .ref ad, .ref asu, .ref aru, .int mro, .ref ast, .int msd, .ref afo, .int mmn])), (afo, .inl (kF, 1800, .inl ff))]) [0, 1] rfl
      have hD9 := hD.sub (ws' := [(mo, .inr (5, [.int tv, .int mw, .int mh, .ref ad, .ref asu, .ref aru, .int mro, .ref ast, .int msd, .ref afo, .int mmn])), (afo, .inl (kF, 1800, .inl ff))]) [0, 1] (by decide) rfl
      have hK9 := hK.sub (tys' := [(kF, .int)]) [0] rfl
      exact W.iret (v := 0) hx hb hr (fun t ht hW => ⟨⟨0, tv, rfl, hpost, by rw [ht]; exact hP9, va_K.moved hW.alike hK9, hD9⟩, hS.F ht⟩) hS.2.2 d_Model_place_26
  · skip
    intro hj15
    refine lv_iload_n hx hb d_Model_place_1 rfl (lv_at hl 2 rfl) ?_
    refine lv_if_lt (tgt := 10) hx hb d_Model_place_2 (by decide) (fun c2 => ?_) (fun c2 => ?_)
    · skip
      have c2 : wh < 0 := (ti_lt g2 (ti_k (by decide))).mp c2
      refine lv_iconst (v := 1) hx hb d_Model_place_10 (by decide) ?_
      refine lv_goto (tgt := 15) hx hb d_Model_place_11 (by decide) ?_
      exact hj15 _ _ _ ⟨1, 1, ls, rfl, lv_sub hl [0, 1, 2] rfl, (ti_k (by decide)), by omega, hP, hD, hS⟩
    · skip
      have c2 : ¬ (wh < 0) := fun q => c2 ((ti_lt g2 (ti_k (by decide))).mpr q)
      refine lv_iload_n hx hb d_Model_place_5 rfl (lv_at hl 2 rfl) ?_
      refine lv_iconst (v := 5) hx hb d_Model_place_6 (by decide) ?_
      refine lv_icmp_le (tgt := 14) hx hb d_Model_place_7 (by decide) (fun c7 => ?_) (fun c7 => ?_)
      · skip
        have c7 : wh ≤ 5 := (ti_le g2 (ti_k (by decide))).mp c7
        refine lv_iconst (v := 0) hx hb d_Model_place_14 (by decide) ?_
        exact hj15 _ _ _ ⟨0, 0, ls, rfl, lv_sub hl [0, 1, 2] rfl, (ti_k (by decide)), by omega, hP, hD, hS⟩
      · skip
        have c7 : ¬ (wh ≤ 5) := fun q => c7 ((ti_le g2 (ti_k (by decide))).mpr q)
        refine lv_iconst (v := 1) hx hb d_Model_place_10 (by decide) ?_
        refine lv_goto (tgt := 15) hx hb d_Model_place_11 (by decide) ?_
        exact hj15 _ _ _ ⟨1, 1, ls, rfl, lv_sub hl [0, 1, 2] rfl, (ti_k (by decide)), by omega, hP, hD, hS⟩

set_option maxHeartbeats 4000000 in
set_option maxRecDepth 100000 in
theorem m_isBefore (l : Launch) (dC : Nat → ClassId) (dI : Nat → Nat → Nat) (mo ad asu aru ast afo : Nat) (mth mw mh mro msd mmn : Int32) (SD : Int) (hsd : msd.toInt = SD) (s0 : 0 ≤ SD) (s1 : SD ≤ 300) (kT : ClassId) (ft : Nat → Int32) (hE : ∀ a, 0 ≤ a → a < SD → bE ft a) (a1 a2 : Int32) (a b : Int) (g1 : a1.toInt = a) (g2 : a2.toInt = b) (a0 : 0 ≤ a) (a9 : a < SD) (b0 : 0 ≤ b) (b9 : b < SD) : Met l y_Model_isBefore (.code y_Model_isBefore b_Model_isBefore 5 (some .boolean) :: allw) ({ frames := 0, cells := 0, slots := 0, locals := 0 }) (va_Pc [.ref mo, .int a1, .int a2] (ro_B (dC, dI) vwCl [(mo, .inr (5, [.int mth, .int mw, .int mh, .ref ad, .ref asu, .ref aru, .int mro, .ref ast, .int msd, .ref afo, .int mmn])), (ast, .inl (kT, 1800, .inl ft))] [(kT, .int)])) (va_Qi (fun (r : Int32) (_ : Unit) => isB r (kE ft a < kE ft b)) (fun _ _ => True) (fun _ => False)) 0 0 (fun _ => False) := by
  refine Met.ofW (cc := b_Model_isBefore) (maxL := 5) (ret := (some .boolean)) (by decide) rfl ?_
  intro p e s m args below meth c s₁ B hml hv
  obtain ⟨rfl, hP, hK⟩ := hv
  have hx := B.exec
  have hb := B.bytes
  have hr := B.returns
  have hts : ∀ w ∈ allw, w.before _ s = true := fun w h => atoms_spec (ws := .code y_Model_isBefore b_Model_isBefore 5 (some .boolean) :: allw) B.pre w (List.mem_cons_of_mem _ h)
  have hown : s.vm.findClass R_Model = some m.cls := findClass_of_methodNamed B.named
  have hlocks := B.notSynchronized
  have hS : va_S (fun _ => False) s.heap s.heap [] := va_S.rf
  have hP : va_P (dC, dI) vwCl [(mo, .inr (5, [.int mth, .int mw, .int mh, .ref ad, .ref asu, .ref aru, .int mro, .ref ast, .int msd, .ref afo, .int mmn])), (ast, .inl (kT, 1800, .inl ft))] s.heap := hP
  have hl := lv_entry ([.ref mo, .int a1, .int a2]) (n := 5) (Nat.le_of_ble_eq_true rfl)
  rw [lg_entry_eq]
  generalize (lg_sl ([.ref mo, .int a1, .int a2]) ++ List.replicate (5 - (lg_sl ([.ref mo, .int a1, .int a2])).length) Slot.unset).toArray = ls at hl ⊢
  have hl : lv_has ls 5 [(0, .ref mo), (1, .int a1), (2, .int a2)] := hl
  have ha := hE a a0 a9
  have hb9 := hE b b0 b9
  have ha2 := id ha
  have hb2 := id hb9
  unfold bE at ha2 hb2
  refine lv_aload_n hx hb d_Model_isBefore_0 rfl (lv_at hl 0 rfl) ?_
  refine va_get (D := (dC, dI)) (ci := 5) (v := .ref ast) (C := R_Model) (T := T_Model) (N := 11) hx hb hts i_Model hown hK hP 0 rfl rfl 7 (by decide) (hts _ wd_572) (fun _ h9 => h9) rfl d_Model_isBefore_1 ?_
  refine lv_bipush (v := 6) hx hb d_Model_isBefore_4 (by decide) ?_
  refine lv_iload_n hx hb d_Model_isBefore_6 rfl (lv_at hl 1 rfl) ?_
  refine lv_imul hx hb d_Model_isBefore_7 ?_
  refine lv_topi (fun v7 e7 => ?_)
  have h7 : v7.toInt = 6 * a := by rw [e7]; exact ti_mul (ti_k (by decide)) g1 (by omega) (by omega)
  refine lv_iconst (v := 1) hx hb d_Model_isBefore_8 (by decide) ?_
  refine lv_iadd hx hb d_Model_isBefore_9 ?_
  refine lv_topi (fun v9 e9 => ?_)
  have h9 : v9.toInt = (6 * a) + 1 := by rw [e9]; exact ti_add h7 (ti_k (by decide)) (by omega) (by omega)
  have in10 : vp_in v9 1800 := vi_in h9 (by omega) (by omega)
  refine va_iald hx hb hK hP 1 0 rfl rfl in10 d_Model_isBefore_10 ?_
  refine lv_topi (fun v10 e10 => ?_)
  have e10 : v10 = ft (((6 * a) + 1)).toNat := by rw [e10, vi_cl h9]
  have h10 : v10.toInt = sE ft a 1 := by rw [e10]; first | rfl | (unfold sE; congr 2; omega)
  refine lv_aload_n hx hb d_Model_isBefore_11 rfl (lv_at hl 0 rfl) ?_
  refine va_get (D := (dC, dI)) (ci := 5) (v := .ref ast) (C := R_Model) (T := T_Model) (N := 11) hx hb hts i_Model hown hK hP 0 rfl rfl 7 (by decide) (hts _ wd_572) (fun _ h9 => h9) rfl d_Model_isBefore_12 ?_
  refine lv_bipush (v := 6) hx hb d_Model_isBefore_15 (by decide) ?_
  refine lv_iload_n hx hb d_Model_isBefore_17 rfl (lv_at hl 2 rfl) ?_
  refine lv_imul hx hb d_Model_isBefore_18 ?_
  refine lv_topi (fun v18 e18 => ?_)
  have h18 : v18.toInt = 6 * b := by rw [e18]; exact ti_mul (ti_k (by decide)) g2 (by omega) (by omega)
  refine lv_iconst (v := 1) hx hb d_Model_isBefore_19 (by decide) ?_
  refine lv_iadd hx hb d_Model_isBefore_20 ?_
  refine lv_topi (fun v20 e20 => ?_)
  have h20 : v20.toInt = (6 * b) + 1 := by rw [e20]; exact ti_add h18 (ti_k (by decide)) (by omega) (by omega)
  have in21 : vp_in v20 1800 := vi_in h20 (by omega) (by omega)
  refine va_iald hx hb hK hP 1 0 rfl rfl in21 d_Model_isBefore_21 ?_
  refine lv_topi (fun v21 e21 => ?_)
  have e21 : v21 = ft (((6 * b) + 1)).toNat := by rw [e21, vi_cl h20]
  have h21 : v21.toInt = sE ft b 1 := by rw [e21]; first | rfl | (unfold sE; congr 2; omega)
  refine lv_isub hx hb d_Model_isBefore_22 ?_
  refine lv_topi (fun v22 e22 => ?_)
  have h22 : v22.toInt = sE ft a 1 - sE ft b 1 := by rw [e22]; exact ti_sub h10 h21 (by omega) (by omega)
  refine lv_istore_n (lv' := [(3, .int v22), (0, .ref mo), (1, .int a1), (2, .int a2)]) hx hb d_Model_isBefore_23 rfl hl (by decide) rfl (fun ls hl => ?_)
  refine w_cut (I := fun H' locs' g' => ∃ (ov : Int32) (zov : Int) (ls : Array Slot), g' = F0 m 51 ls [.int ov] ∧ lv_has ls 5 [(0, .ref mo), (1, .int a1), (2, .int a2), (3, .int v22)] ∧ ov.toInt = zov ∧ (zov = if sE ft a 1 - sE ft b 1 = 0 then sE ft a 0 - sE ft b 0 else sE ft a 1 - sE ft b 1) ∧ va_P (dC, dI) vwCl [(mo, .inr (5, [.int mth, .int mw, .int mh, .ref ad, .ref asu, .ref aru, .int mro, .ref ast, .int msd, .ref afo, .int mmn])), (ast, .inl (kT, 1800, .inl ft))] H' ∧ va_S (fun _ => False) s.heap H' locs') ?_ ?_
  · skip
    intro H51 locs g' hI
    obtain ⟨ov, zov, ls, rfl, hl, hov, iov, hP, hS⟩ := hI
    refine lv_istore_n (lv' := [(3, .int ov), (0, .ref mo), (1, .int a1), (2, .int a2)]) hx hb d_Model_isBefore_51 rfl hl (by decide) rfl (fun ls hl => ?_)
    refine lv_iconst (v := 2) hx hb d_Model_isBefore_52 (by decide) ?_
    refine lv_istore (lv' := [(4, .int 2), (3, .int ov), (0, .ref mo), (1, .int a1), (2, .int a2)]) hx hb d_Model_isBefore_53 hl (by decide) rfl (fun ls hl => ?_)
    refine w_loop (I := fun n H' locs' g' => ∃ (oo : Int32) (zoo : Int) (kk : Int32) (zkk : Int) (ls : Array Slot), g' = F0 m 55 ls [] ∧ lv_has ls 5 [(0, .ref mo), (1, .int a1), (2, .int a2), (3, .int oo), (4, .int kk)] ∧ n = (5 - zkk).toNat ∧ oo.toInt = zoo ∧ kk.toInt = zkk ∧ (2 ≤ zkk ∧ zkk ≤ 5) ∧ (befI ft a b zoo zkk) ∧ va_P (dC, dI) vwCl [(mo, .inr (5, [.int mth, .int mw, .int mh, .ref ad, .ref asu, .ref aru, .int mro, .ref ast, .int msd, .ref afo, .int mmn])), (ast, .inl (kT, 1800, .inl ft))] H' ∧ va_S (fun _ => False) s.heap H' locs') ?_ ⟨ov, zov, 2, 2, ls, rfl, lv_sub hl [2, 3, 4, 1, 0] rfl, rfl, hov, (ti_k (by decide)), by omega, bef_0 ha hb9 iov, hP, hS⟩
    intro n55 H55 locs g' hI ih55
    obtain ⟨oo, zoo, kk, zkk, ls, rfl, hl, hn, hoo, hkk, i1, i2, hP, hS⟩ := hI
    refine lv_iload hx hb d_Model_isBefore_55 (lv_at hl 4 rfl) ?_
    refine lv_iconst (v := 5) hx hb d_Model_isBefore_57 (by decide) ?_
    refine lv_icmp_ge (tgt := 101) hx hb d_Model_isBefore_58 (by decide) (fun c58 => ?_) (fun c58 => ?_)
    · skip
      have c58 : 5 ≤ zkk := (ti_le (ti_k (by decide)) hkk).mp c58
      refine lv_iload_n hx hb d_Model_isBefore_101 rfl (lv_at hl 3 rfl) ?_
      refine lv_if_ge (tgt := 109) hx hb d_Model_isBefore_102 (by decide) (fun c102 => ?_) (fun c102 => ?_)
      · skip
        have c102 : 0 ≤ zoo := (ti_le (ti_k (by decide)) hoo).mp c102
        refine lv_iconst (v := 0) hx hb d_Model_isBefore_109 (by decide) ?_
        have hpost : isB 0 (kE ft a < kE ft b) := by
          have e : zkk = 5 := by omega
          rw [e] at i2
          have q := bef_end i2
          exact Or.inr ⟨rfl, by omega⟩
        exact W.zret (v := 0) hx hb hr (by decide) (fun t ht hW => ⟨⟨0, (), rfl, hpost, trivial⟩, hS.F ht⟩) hS.2.2 d_Model_isBefore_110
      · skip
        have c102 : ¬ (0 ≤ zoo) := fun q => c102 ((ti_le (ti_k (by decide)) hoo).mpr q)
        refine lv_iconst (v := 1) hx hb d_Model_isBefore_105 (by decide) ?_
        refine lv_goto (tgt := 110) hx hb d_Model_isBefore_106 (by decide) ?_
        have hpost : isB 1 (kE ft a < kE ft b) := by
          have e : zkk = 5 := by omega
          rw [e] at i2
          have q := bef_end i2
          exact Or.inl ⟨rfl, by omega⟩
        exact W.zret (v := 1) hx hb hr (by decide) (fun t ht hW => ⟨⟨1, (), rfl, hpost, trivial⟩, hS.F ht⟩) hS.2.2 d_Model_isBefore_110
    · skip
      have c58 : ¬ (5 ≤ zkk) := fun q => c58 ((ti_le (ti_k (by decide)) hkk).mpr q)
      refine w_cut (I := fun H' locs' g' => ∃ (ow : Int32) (zow : Int) (ls : Array Slot), g' = F0 m 94 ls [.int ow] ∧ lv_has ls 5 [(0, .ref mo), (1, .int a1), (2, .int a2), (3, .int oo), (4, .int kk)] ∧ ow.toInt = zow ∧ (befI ft a b zow (zkk + 1)) ∧ va_P (dC, dI) vwCl [(mo, .inr (5, [.int mth, .int mw, .int mh, .ref ad, .ref asu, .ref aru, .int mro, .ref ast, .int msd, .ref afo, .int mmn])), (ast, .inl (kT, 1800, .inl ft))] H' ∧ va_S (fun _ => False) s.heap H' locs') ?_ ?_
      · skip
        intro H94 locs g' hI
        obtain ⟨ow, zow, ls, rfl, hl, how, iow, hP, hS⟩ := hI
        refine lv_istore_n (lv' := [(3, .int ow), (0, .ref mo), (1, .int a1), (2, .int a2), (4, .int kk)]) hx hb d_Model_isBefore_94 rfl hl (by decide) rfl (fun ls hl => ?_)
        obtain ⟨v95, e95⟩ : ∃ y : Int32, y = kk + 1 := ⟨_, rfl⟩
        have h95 : v95.toInt = zkk + 1 := by rw [e95]; exact ti_add hkk (ti_k (by decide)) (by omega) (by omega)
        refine lv_iinc (v := v95) (lv' := [(4, .int v95), (3, .int ow), (0, .ref mo), (1, .int a1), (2, .int a2)]) hx hb d_Model_isBefore_95 hl (k := 4) rfl (by rw [e95]; rfl) (by decide) rfl (fun ls hl => ?_)
        refine lv_goto (tgt := 55) hx hb d_Model_isBefore_98 (by decide) ?_
        exact ih55 _ (by omega) _ _ _ ⟨ow, zow, v95, (zkk + 1), ls, rfl, lv_sub hl [2, 3, 4, 1, 0] rfl, rfl, how, h95, by omega, iow, hP, hS⟩
      · skip
        intro hj94
        refine lv_iload_n hx hb d_Model_isBefore_61 rfl (lv_at hl 3 rfl) ?_
        refine lv_if_ne (tgt := 93) hx hb d_Model_isBefore_62 (by decide) (fun c62 => ?_) (fun c62 => ?_)
        · skip
          have c62 : ¬ (zoo = 0) := fun q => c62 ((ti_eq hoo (ti_k (by decide))).mpr q)
          refine lv_iload_n hx hb d_Model_isBefore_93 rfl (lv_at hl 3 rfl) ?_
          exact hj94 _ _ _ ⟨oo, zoo, ls, rfl, lv_sub hl [0, 1, 2, 3, 4] rfl, hoo, by first | exact bef_step ha hb9 i2 c62 (by omega) (by omega) rfl | exact bef_keep i2 c62, hP, hS⟩
        · skip
          have c62 : zoo = 0 := (ti_eq hoo (ti_k (by decide))).mp c62
          have fa : 0 ≤ sE ft a zkk ∧ sE ft a zkk ≤ 511 := by rcases (show zkk = 2 ∨ zkk = 3 ∨ zkk = 4 by omega) with r | r | r <;> rw [r] <;> omega
          have fb : 0 ≤ sE ft b zkk ∧ sE ft b zkk ≤ 511 := by rcases (show zkk = 2 ∨ zkk = 3 ∨ zkk = 4 by omega) with r | r | r <;> rw [r] <;> omega
          refine lv_aload_n hx hb d_Model_isBefore_65 rfl (lv_at hl 0 rfl) ?_
          refine va_get (D := (dC, dI)) (ci := 5) (v := .ref ast) (C := R_Model) (T := T_Model) (N := 11) hx hb hts i_Model hown hK hP 0 rfl rfl 7 (by decide) (hts _ wd_572) (fun _ h9 => h9) rfl d_Model_isBefore_66 ?_
          refine lv_bipush (v := 6) hx hb d_Model_isBefore_69 (by decide) ?_
          refine lv_iload_n hx hb d_Model_isBefore_71 rfl (lv_at hl 1 rfl) ?_
          refine lv_imul hx hb d_Model_isBefore_72 ?_
          refine lv_topi (fun v72 e72 => ?_)
          have h72 : v72.toInt = 6 * a := by rw [e72]; exact ti_mul (ti_k (by decide)) g1 (by omega) (by omega)
          refine lv_iload hx hb d_Model_isBefore_73 (lv_at hl 4 rfl) ?_
          refine lv_iadd hx hb d_Model_isBefore_75 ?_
          refine lv_topi (fun v75 e75 => ?_)
          have h75 : v75.toInt = (6 * a) + zkk := by rw [e75]; exact ti_add h72 hkk (by omega) (by omega)
          have in76 : vp_in v75 1800 := vi_in h75 (by omega) (by omega)
          refine va_iald hx hb hK hP 1 0 rfl rfl in76 d_Model_isBefore_76 ?_
          refine lv_topi (fun v76 e76 => ?_)
          have e76 : v76 = ft (((6 * a) + zkk)).toNat := by rw [e76, vi_cl h75]
          have h76 : v76.toInt = sE ft a zkk := by rw [e76]; first | rfl | (unfold sE; congr 2; omega)
          refine lv_aload_n hx hb d_Model_isBefore_77 rfl (lv_at hl 0 rfl) ?_
          refine va_get (D := (dC, dI)) (ci := 5) (v := .ref ast) (C := R_Model) (T := T_Model) (N := 11) hx hb hts i_Model hown hK hP 0 rfl rfl 7 (by decide) (hts _ wd_572) (fun _ h9 => h9) rfl d_Model_isBefore_78 ?_
          refine lv_bipush (v := 6) hx hb d_Model_isBefore_81 (by decide) ?_
          refine lv_iload_n hx hb d_Model_isBefore_83 rfl (lv_at hl 2 rfl) ?_
          refine lv_imul hx hb d_Model_isBefore_84 ?_
          refine lv_topi (fun v84 e84 => ?_)
          have h84 : v84.toInt = 6 * b := by rw [e84]; exact ti_mul (ti_k (by decide)) g2 (by omega) (by omega)
          refine lv_iload hx hb d_Model_isBefore_85 (lv_at hl 4 rfl) ?_
          refine lv_iadd hx hb d_Model_isBefore_87 ?_
          refine lv_topi (fun v87 e87 => ?_)
          have h87 : v87.toInt = (6 * b) + zkk := by rw [e87]; exact ti_add h84 hkk (by omega) (by omega)
          have in88 : vp_in v87 1800 := vi_in h87 (by omega) (by omega)
          refine va_iald hx hb hK hP 1 0 rfl rfl in88 d_Model_isBefore_88 ?_
          refine lv_topi (fun v88 e88 => ?_)
          have e88 : v88 = ft (((6 * b) + zkk)).toNat := by rw [e88, vi_cl h87]
          have h88 : v88.toInt = sE ft b zkk := by rw [e88]; first | rfl | (unfold sE; congr 2; omega)
          refine lv_isub hx hb d_Model_isBefore_89 ?_
          refine lv_topi (fun v89 e89 => ?_)
          have h89 : v89.toInt = sE ft a zkk - sE ft b zkk := by rw [e89]; exact ti_sub h76 h88 (by omega) (by omega)
          refine lv_goto (tgt := 94) hx hb d_Model_isBefore_90 (by decide) ?_
          exact hj94 _ _ _ ⟨v89, (sE ft a zkk - sE ft b zkk), ls, rfl, lv_sub hl [0, 1, 2, 3, 4] rfl, h89, by first | exact bef_step ha hb9 i2 c62 (by omega) (by omega) rfl | exact bef_keep i2 c62, hP, hS⟩
  · skip
    intro hj51
    refine lv_iload_n hx hb d_Model_isBefore_24 rfl (lv_at hl 0 rfl) ?_
    refine lv_if_ne (tgt := 50) hx hb d_Model_isBefore_25 (by decide) (fun c25 => ?_) (fun c25 => ?_)
    · skip
      have c25 : ¬ ((sE ft a 1 - sE ft b 1) = 0) := fun q => c25 ((ti_eq h22 (ti_k (by decide))).mpr q)
      refine lv_iload_n hx hb d_Model_isBefore_50 rfl (lv_at hl 0 rfl) ?_
      exact hj51 _ _ _ ⟨v22, (sE ft a 1 - sE ft b 1), ls, rfl, lv_sub hl [1, 2, 3, 0] rfl, h22, by first | rw [if_pos c25] | rw [if_neg c25], hP, hS⟩
    · skip
      have c25 : (sE ft a 1 - sE ft b 1) = 0 := (ti_eq h22 (ti_k (by decide))).mp c25
      refine lv_aload_n hx hb d_Model_isBefore_28 rfl (lv_at hl 1 rfl) ?_
      refine va_get (D := (dC, dI)) (ci := 5) (v := .ref ast) (C := R_Model) (T := T_Model) (N := 11) hx hb hts i_Model hown hK hP 0 rfl rfl 7 (by decide) (hts _ wd_572) (fun _ h9 => h9) rfl d_Model_isBefore_29 ?_
      refine lv_bipush (v := 6) hx hb d_Model_isBefore_32 (by decide) ?_
      refine lv_iload_n hx hb d_Model_isBefore_34 rfl (lv_at hl 2 rfl) ?_
      refine lv_imul hx hb d_Model_isBefore_35 ?_
      refine lv_topi (fun v35 e35 => ?_)
      have h35 : v35.toInt = 6 * a := by rw [e35]; exact ti_mul (ti_k (by decide)) g1 (by omega) (by omega)
      have in36 : vp_in v35 1800 := vi_in h35 (by omega) (by omega)
      refine va_iald hx hb hK hP 1 0 rfl rfl in36 d_Model_isBefore_36 ?_
      refine lv_topi (fun v36 e36 => ?_)
      have e36 : v36 = ft ((6 * a)).toNat := by rw [e36, vi_cl h35]
      have h36 : v36.toInt = sE ft a 0 := by rw [e36]; first | rfl | (unfold sE; congr 2; omega)
      refine lv_aload_n hx hb d_Model_isBefore_37 rfl (lv_at hl 1 rfl) ?_
      refine va_get (D := (dC, dI)) (ci := 5) (v := .ref ast) (C := R_Model) (T := T_Model) (N := 11) hx hb hts i_Model hown hK hP 0 rfl rfl 7 (by decide) (hts _ wd_572) (fun _ h9 => h9) rfl d_Model_isBefore_38 ?_
      refine lv_bipush (v := 6) hx hb d_Model_isBefore_41 (by decide) ?_
      refine lv_iload_n hx hb d_Model_isBefore_43 rfl (lv_at hl 3 rfl) ?_
      refine lv_imul hx hb d_Model_isBefore_44 ?_
      refine lv_topi (fun v44 e44 => ?_)
      have h44 : v44.toInt = 6 * b := by rw [e44]; exact ti_mul (ti_k (by decide)) g2 (by omega) (by omega)
      have in45 : vp_in v44 1800 := vi_in h44 (by omega) (by omega)
      refine va_iald hx hb hK hP 1 0 rfl rfl in45 d_Model_isBefore_45 ?_
      refine lv_topi (fun v45 e45 => ?_)
      have e45 : v45 = ft ((6 * b)).toNat := by rw [e45, vi_cl h44]
      have h45 : v45.toInt = sE ft b 0 := by rw [e45]; first | rfl | (unfold sE; congr 2; omega)
      refine lv_isub hx hb d_Model_isBefore_46 ?_
      refine lv_topi (fun v46 e46 => ?_)
      have h46 : v46.toInt = sE ft a 0 - sE ft b 0 := by rw [e46]; exact ti_sub h36 h45 (by omega) (by omega)
      refine lv_goto (tgt := 51) hx hb d_Model_isBefore_47 (by decide) ?_
      exact hj51 _ _ _ ⟨v46, (sE ft a 0 - sE ft b 0), ls, rfl, lv_sub hl [1, 2, 3, 0] rfl, h46, by first | rw [if_pos c25] | rw [if_neg c25], hP, hS⟩

set_option maxHeartbeats 4000000 in
set_option maxRecDepth 100000 in
theorem m_meet (l : Launch) (dC : Nat → ClassId) (dI : Nat → Nat → Nat) (mo ad asu aru ast afo : Nat) (mth mw mh mro msd mmn : Int32) (SD : Int) (hsd : msd.toInt = SD) (s0 : 0 ≤ SD) (s1 : SD ≤ 300) (kT : ClassId) (ft : Nat → Int32) (hE : ∀ a, 0 ≤ a → a < SD → bE ft a) (a1 a2 : Int32) (a b : Int) (g1 : a1.toInt = a) (g2 : a2.toInt = b) (a0 : 0 ≤ a) (a9 : a < SD) (b0 : 0 ≤ b) (b9 : b < SD) : Met l y_Model_meet (.code y_Model_meet b_Model_meet 5 (some .boolean) :: allw) ({ frames := 1, cells := 0, slots := 0, locals := 20 }) (va_Pc [.ref mo, .int a1, .int a2] (ro_B (dC, dI) vwCl [(mo, .inr (5, [.int mth, .int mw, .int mh, .ref ad, .ref asu, .ref aru, .int mro, .ref ast, .int msd, .ref afo, .int mmn])), (ast, .inl (kT, 1800, .inl ft))] [(kT, .int)])) (va_Qi (fun (r : Int32) (_ : Unit) => isB r (mE ft a b)) (fun _ _ => True) (fun _ => False)) 0 0 (fun _ => False) := by
  refine Met.ofW (cc := b_Model_meet) (maxL := 5) (ret := (some .boolean)) (by decide) rfl ?_
  intro p e s m args below meth c s₁ B hml hv
  obtain ⟨rfl, hP, hK⟩ := hv
  have hx := B.exec
  have hb := B.bytes
  have hr := B.returns
  have hts : ∀ w ∈ allw, w.before _ s = true := fun w h => atoms_spec (ws := .code y_Model_meet b_Model_meet 5 (some .boolean) :: allw) B.pre w (List.mem_cons_of_mem _ h)
  have hown : s.vm.findClass R_Model = some m.cls := findClass_of_methodNamed B.named
  have hlocks := B.notSynchronized
  have hS : va_S (fun _ => False) s.heap s.heap [] := va_S.rf
  have hP : va_P (dC, dI) vwCl [(mo, .inr (5, [.int mth, .int mw, .int mh, .ref ad, .ref asu, .ref aru, .int mro, .ref ast, .int msd, .ref afo, .int mmn])), (ast, .inl (kT, 1800, .inl ft))] s.heap := hP
  have hl := lv_entry ([.ref mo, .int a1, .int a2]) (n := 5) (Nat.le_of_ble_eq_true rfl)
  rw [lg_entry_eq]
  generalize (lg_sl ([.ref mo, .int a1, .int a2]) ++ List.replicate (5 - (lg_sl ([.ref mo, .int a1, .int a2])).length) Slot.unset).toArray = ls at hl ⊢
  have hl : lv_has ls 5 [(0, .ref mo), (1, .int a1), (2, .int a2)] := hl
  have ha2 := hE a a0 a9
  have hb2 := hE b b0 b9
  unfold bE at ha2 hb2
  have mA := mul_b2 (a := sE ft a 2) (b := 17 + 4 * sE ft a 3) (p := 16) (q := 177) (by omega) (by omega) (by omega) (by omega)
  have mA0 := Int.mul_nonneg (show 0 ≤ sE ft a 2 by omega) (show 0 ≤ 17 + 4 * sE ft a 3 by omega)
  have mB := mul_b2 (a := sE ft b 2) (b := 17 + 4 * sE ft b 3) (p := 16) (q := 177) (by omega) (by omega) (by omega) (by omega)
  have mB0 := Int.mul_nonneg (show 0 ≤ sE ft b 2 by omega) (show 0 ≤ 17 + 4 * sE ft b 3 by omega)
  refine lv_aload_n hx hb d_Model_meet_0 rfl (lv_at hl 0 rfl) ?_
  refine va_get (D := (dC, dI)) (ci := 5) (v := .ref ast) (C := R_Model) (T := T_Model) (N := 11) hx hb hts i_Model hown hK hP 0 rfl rfl 7 (by decide) (hts _ wd_572) (fun _ h9 => h9) rfl d_Model_meet_1 ?_
  refine lv_bipush (v := 6) hx hb d_Model_meet_4 (by decide) ?_
  refine lv_iload_n hx hb d_Model_meet_6 rfl (lv_at hl 1 rfl) ?_
  refine lv_imul hx hb d_Model_meet_7 ?_
  refine lv_topi (fun v7 e7 => ?_)
  have h7 : v7.toInt = 6 * a := by rw [e7]; exact ti_mul (ti_k (by decide)) g1 (by omega) (by omega)
  refine lv_iconst (v := 2) hx hb d_Model_meet_8 (by decide) ?_
  refine lv_iadd hx hb d_Model_meet_9 ?_
  refine lv_topi (fun v9 e9 => ?_)
  have h9 : v9.toInt = (6 * a) + 2 := by rw [e9]; exact ti_add h7 (ti_k (by decide)) (by omega) (by omega)
  have in10 : vp_in v9 1800 := vi_in h9 (by omega) (by omega)
  refine va_iald hx hb hK hP 1 0 rfl rfl in10 d_Model_meet_10 ?_
  refine lv_topi (fun v10 e10 => ?_)
  have e10 : v10 = ft (((6 * a) + 2)).toNat := by rw [e10, vi_cl h9]
  have h10 : v10.toInt = sE ft a 2 := by rw [e10]; first | rfl | (unfold sE; congr 2; omega)
  refine lv_aload_n hx hb d_Model_meet_11 rfl (lv_at hl 0 rfl) ?_
  refine va_get (D := (dC, dI)) (ci := 5) (v := .ref ast) (C := R_Model) (T := T_Model) (N := 11) hx hb hts i_Model hown hK hP 0 rfl rfl 7 (by decide) (hts _ wd_572) (fun _ h9 => h9) rfl d_Model_meet_12 ?_
  refine lv_bipush (v := 6) hx hb d_Model_meet_15 (by decide) ?_
  refine lv_iload_n hx hb d_Model_meet_17 rfl (lv_at hl 1 rfl) ?_
  refine lv_imul hx hb d_Model_meet_18 ?_
  refine lv_topi (fun v18 e18 => ?_)
  have h18 : v18.toInt = 6 * a := by rw [e18]; exact ti_mul (ti_k (by decide)) g1 (by omega) (by omega)
  refine lv_iconst (v := 3) hx hb d_Model_meet_19 (by decide) ?_
  refine lv_iadd hx hb d_Model_meet_20 ?_
  refine lv_topi (fun v20 e20 => ?_)
  have h20 : v20.toInt = (6 * a) + 3 := by rw [e20]; exact ti_add h18 (ti_k (by decide)) (by omega) (by omega)
  have in21 : vp_in v20 1800 := vi_in h20 (by omega) (by omega)
  refine va_iald hx hb hK hP 1 0 rfl rfl in21 d_Model_meet_21 ?_
  refine lv_topi (fun v21 e21 => ?_)
  have e21 : v21 = ft (((6 * a) + 3)).toNat := by rw [e21, vi_cl h20]
  have h21 : v21.toInt = sE ft a 3 := by rw [e21]; first | rfl | (unfold sE; congr 2; omega)
  have hPc := hP.sub (ws' := []) [] rfl
  have hKc := hK.sub (tys' := []) [] rfl
  refine va_calli (va_runS (As := [.int v21]) (rest := [.int v10]) ⟨hx, hb, hml, hown, hts⟩ (m_side l dC dI v21 (sE ft a 3) h21 (by omega) (by omega)) (aw_S 1 hts wd_636 wd_637 wd_5 wd_638 rfl rfl (by decide +kernel) ⟨Nat.le_of_ble_eq_true rfl, Nat.le_of_ble_eq_true rfl⟩) ⟨ro_blind, ro_pre hPc hKc⟩ rfl rfl hl.1 rfl (lv_room (Nat.le_of_ble_eq_true rfl)) d_Model_meet_22 ⟨Nat.le_of_ble_eq_true rfl, Nat.le_of_ble_eq_true rfl⟩) hS (fun q _ h => h.elim) (fun q h => h.elim) (fun v22 _ t9 H22 locs ht hvm h22 hB hz1 hk1 hS => ?_)
  have hP := ro_keep hP hk1
  clear hPc hKc ht hvm hB hz1 hk1
  refine lv_imul hx hb d_Model_meet_25 ?_
  refine lv_topi (fun v25 e25 => ?_)
  have h25 : v25.toInt = sE ft a 2 * (17 + 4 * (sE ft a 3)) := by rw [e25]; exact ti_mul h10 h22 (by omega) (by omega)
  obtain ⟨LA, kLA⟩ : ∃ c : Int, c = (sE ft a 2 * (17 + 4 * (sE ft a 3))) := ⟨_, rfl⟩
  have h25 : v25.toInt = LA := by rw [h25, kLA]
  refine lv_istore_n (lv' := [(3, .int v25), (0, .ref mo), (1, .int a1), (2, .int a2)]) hx hb d_Model_meet_26 rfl hl (by decide) rfl (fun ls hl => ?_)
  refine lv_aload_n hx hb d_Model_meet_27 rfl (lv_at hl 1 rfl) ?_
  refine va_get (D := (dC, dI)) (ci := 5) (v := .ref ast) (C := R_Model) (T := T_Model) (N := 11) hx hb hts i_Model hown hK hP 0 rfl rfl 7 (by decide) (hts _ wd_572) (fun _ h9 => h9) rfl d_Model_meet_28 ?_
  refine lv_bipush (v := 6) hx hb d_Model_meet_31 (by decide) ?_
  refine lv_iload_n hx hb d_Model_meet_33 rfl (lv_at hl 3 rfl) ?_
  refine lv_imul hx hb d_Model_meet_34 ?_
  refine lv_topi (fun v34 e34 => ?_)
  have h34 : v34.toInt = 6 * b := by rw [e34]; exact ti_mul (ti_k (by decide)) g2 (by omega) (by omega)
  refine lv_iconst (v := 2) hx hb d_Model_meet_35 (by decide) ?_
  refine lv_iadd hx hb d_Model_meet_36 ?_
  refine lv_topi (fun v36 e36 => ?_)
  have h36 : v36.toInt = (6 * b) + 2 := by rw [e36]; exact ti_add h34 (ti_k (by decide)) (by omega) (by omega)
  have in37 : vp_in v36 1800 := vi_in h36 (by omega) (by omega)
  refine va_iald hx hb hK hP 1 0 rfl rfl in37 d_Model_meet_37 ?_
  refine lv_topi (fun v37 e37 => ?_)
  have e37 : v37 = ft (((6 * b) + 2)).toNat := by rw [e37, vi_cl h36]
  have h37 : v37.toInt = sE ft b 2 := by rw [e37]; first | rfl | (unfold sE; congr 2; omega)
  refine lv_aload_n hx hb d_Model_meet_38 rfl (lv_at hl 1 rfl) ?_
  refine va_get (D := (dC, dI)) (ci := 5) (v := .ref ast) (C := R_Model) (T := T_Model) (N := 11) hx hb hts i_Model hown hK hP 0 rfl rfl 7 (by decide) (hts _ wd_572) (fun _ h9 => h9) rfl d_Model_meet_39 ?_
  refine lv_bipush (v := 6) hx hb d_Model_meet_42 (by decide) ?_
  refine lv_iload_n hx hb d_Model_meet_44 rfl (lv_at hl 3 rfl) ?_
  refine lv_imul hx hb d_Model_meet_45 ?_
  refine lv_topi (fun v45 e45 => ?_)
  have h45 : v45.toInt = 6 * b := by rw [e45]; exact ti_mul (ti_k (by decide)) g2 (by omega) (by omega)
  refine lv_iconst (v := 3) hx hb d_Model_meet_46 (by decide) ?_
  refine lv_iadd hx hb d_Model_meet_47 ?_
  refine lv_topi (fun v47 e47 => ?_)
  have h47 : v47.toInt = (6 * b) + 3 := by rw [e47]; exact ti_add h45 (ti_k (by decide)) (by omega) (by omega)
  have in48 : vp_in v47 1800 := vi_in h47 (by omega) (by omega)
  refine va_iald hx hb hK hP 1 0 rfl rfl in48 d_Model_meet_48 ?_
  refine lv_topi (fun v48 e48 => ?_)
  have e48 : v48 = ft (((6 * b) + 3)).toNat := by rw [e48, vi_cl h47]
  have h48 : v48.toInt = sE ft b 3 := by rw [e48]; first | rfl | (unfold sE; congr 2; omega)
  have hPc := hP.sub (ws' := []) [] rfl
  have hKc := hK.sub (tys' := []) [] rfl
  refine va_calli (va_runS (As := [.int v48]) (rest := [.int v37]) ⟨hx, hb, hml, hown, hts⟩ (m_side l dC dI v48 (sE ft b 3) h48 (by omega) (by omega)) (aw_S 1 hts wd_636 wd_637 wd_5 wd_638 rfl rfl (by decide +kernel) ⟨Nat.le_of_ble_eq_true rfl, Nat.le_of_ble_eq_true rfl⟩) ⟨ro_blind, ro_pre hPc hKc⟩ rfl rfl hl.1 rfl (lv_room (Nat.le_of_ble_eq_true rfl)) d_Model_meet_49 ⟨Nat.le_of_ble_eq_true rfl, Nat.le_of_ble_eq_true rfl⟩) hS (fun q _ h => h.elim) (fun q h => h.elim) (fun v49 _ t9 H49 locs ht hvm h49 hB hz1 hk1 hS => ?_)
  have hP := ro_keep hP hk1
  clear hPc hKc ht hvm hB hz1 hk1
  refine lv_imul hx hb d_Model_meet_52 ?_
  refine lv_topi (fun v52 e52 => ?_)
  have h52 : v52.toInt = sE ft b 2 * (17 + 4 * (sE ft b 3)) := by rw [e52]; exact ti_mul h37 h49 (by omega) (by omega)
  obtain ⟨LB, kLB⟩ : ∃ c : Int, c = (sE ft b 2 * (17 + 4 * (sE ft b 3))) := ⟨_, rfl⟩
  have h52 : v52.toInt = LB := by rw [h52, kLB]
  refine lv_istore (lv' := [(4, .int v52), (3, .int v25), (0, .ref mo), (1, .int a1), (2, .int a2)]) hx hb d_Model_meet_53 hl (by decide) rfl (fun ls hl => ?_)
  refine lv_aload_n hx hb d_Model_meet_55 rfl (lv_at hl 2 rfl) ?_
  refine va_get (D := (dC, dI)) (ci := 5) (v := .ref ast) (C := R_Model) (T := T_Model) (N := 11) hx hb hts i_Model hown hK hP 0 rfl rfl 7 (by decide) (hts _ wd_572) (fun _ h9 => h9) rfl d_Model_meet_56 ?_
  refine lv_bipush (v := 6) hx hb d_Model_meet_59 (by decide) ?_
  refine lv_iload_n hx hb d_Model_meet_61 rfl (lv_at hl 3 rfl) ?_
  refine lv_imul hx hb d_Model_meet_62 ?_
  refine lv_topi (fun v62 e62 => ?_)
  have h62 : v62.toInt = 6 * a := by rw [e62]; exact ti_mul (ti_k (by decide)) g1 (by omega) (by omega)
  have in63 : vp_in v62 1800 := vi_in h62 (by omega) (by omega)
  refine va_iald hx hb hK hP 1 0 rfl rfl in63 d_Model_meet_63 ?_
  refine lv_topi (fun v63 e63 => ?_)
  have e63 : v63 = ft ((6 * a)).toNat := by rw [e63, vi_cl h62]
  have h63 : v63.toInt = sE ft a 0 := by rw [e63]; first | rfl | (unfold sE; congr 2; omega)
  refine lv_aload_n hx hb d_Model_meet_64 rfl (lv_at hl 2 rfl) ?_
  refine va_get (D := (dC, dI)) (ci := 5) (v := .ref ast) (C := R_Model) (T := T_Model) (N := 11) hx hb hts i_Model hown hK hP 0 rfl rfl 7 (by decide) (hts _ wd_572) (fun _ h9 => h9) rfl d_Model_meet_65 ?_
  refine lv_bipush (v := 6) hx hb d_Model_meet_68 (by decide) ?_
  refine lv_iload_n hx hb d_Model_meet_70 rfl (lv_at hl 4 rfl) ?_
  refine lv_imul hx hb d_Model_meet_71 ?_
  refine lv_topi (fun v71 e71 => ?_)
  have h71 : v71.toInt = 6 * b := by rw [e71]; exact ti_mul (ti_k (by decide)) g2 (by omega) (by omega)
  have in72 : vp_in v71 1800 := vi_in h71 (by omega) (by omega)
  refine va_iald hx hb hK hP 1 0 rfl rfl in72 d_Model_meet_72 ?_
  refine lv_topi (fun v72 e72 => ?_)
  have e72 : v72 = ft ((6 * b)).toNat := by rw [e72, vi_cl h71]
  have h72 : v72.toInt = sE ft b 0 := by rw [e72]; first | rfl | (unfold sE; congr 2; omega)
  refine lv_iload hx hb d_Model_meet_73 (lv_at hl 0 rfl) ?_
  refine lv_iadd hx hb d_Model_meet_75 ?_
  refine lv_topi (fun v75 e75 => ?_)
  have h75 : v75.toInt = sE ft b 0 + LB := by rw [e75]; exact ti_add h72 h52 (by omega) (by omega)
  refine lv_icmp_ge (tgt := 161) hx hb d_Model_meet_76 (by decide) (fun c76 => ?_) (fun c76 => ?_)
  · skip
    have c76 : (sE ft b 0 + LB) ≤ sE ft a 0 := (ti_le h75 h63).mp c76
    refine lv_iconst (v := 0) hx hb d_Model_meet_161 (by decide) ?_
    have hpost : isB 0 (mE ft a b) := by
      refine Or.inr ⟨rfl, ?_⟩
      unfold mE lE
      rw [← kLA, ← kLB]
      omega
    exact W.zret (v := 0) hx hb hr (by decide) (fun t ht hW => ⟨⟨0, (), rfl, hpost, trivial⟩, hS.F ht⟩) hS.2.2 d_Model_meet_162
  · skip
    have c76 : ¬ ((sE ft b 0 + LB) ≤ sE ft a 0) := fun q => c76 ((ti_le h75 h63).mpr q)
    refine lv_aload_n hx hb d_Model_meet_79 rfl (lv_at hl 2 rfl) ?_
    refine va_get (D := (dC, dI)) (ci := 5) (v := .ref ast) (C := R_Model) (T := T_Model) (N := 11) hx hb hts i_Model hown hK hP 0 rfl rfl 7 (by decide) (hts _ wd_572) (fun _ h9 => h9) rfl d_Model_meet_80 ?_
    refine lv_bipush (v := 6) hx hb d_Model_meet_83 (by decide) ?_
    refine lv_iload_n hx hb d_Model_meet_85 rfl (lv_at hl 4 rfl) ?_
    refine lv_imul hx hb d_Model_meet_86 ?_
    refine lv_topi (fun v86 e86 => ?_)
    have h86 : v86.toInt = 6 * b := by rw [e86]; exact ti_mul (ti_k (by decide)) g2 (by omega) (by omega)
    have in87 : vp_in v86 1800 := vi_in h86 (by omega) (by omega)
    refine va_iald hx hb hK hP 1 0 rfl rfl in87 d_Model_meet_87 ?_
    refine lv_topi (fun v87 e87 => ?_)
    have e87 : v87 = ft ((6 * b)).toNat := by rw [e87, vi_cl h86]
    have h87 : v87.toInt = sE ft b 0 := by rw [e87]; first | rfl | (unfold sE; congr 2; omega)
    refine lv_aload_n hx hb d_Model_meet_88 rfl (lv_at hl 2 rfl) ?_
    refine va_get (D := (dC, dI)) (ci := 5) (v := .ref ast) (C := R_Model) (T := T_Model) (N := 11) hx hb hts i_Model hown hK hP 0 rfl rfl 7 (by decide) (hts _ wd_572) (fun _ h9 => h9) rfl d_Model_meet_89 ?_
    refine lv_bipush (v := 6) hx hb d_Model_meet_92 (by decide) ?_
    refine lv_iload_n hx hb d_Model_meet_94 rfl (lv_at hl 3 rfl) ?_
    refine lv_imul hx hb d_Model_meet_95 ?_
    refine lv_topi (fun v95 e95 => ?_)
    have h95 : v95.toInt = 6 * a := by rw [e95]; exact ti_mul (ti_k (by decide)) g1 (by omega) (by omega)
    have in96 : vp_in v95 1800 := vi_in h95 (by omega) (by omega)
    refine va_iald hx hb hK hP 1 0 rfl rfl in96 d_Model_meet_96 ?_
    refine lv_topi (fun v96 e96 => ?_)
    have e96 : v96 = ft ((6 * a)).toNat := by rw [e96, vi_cl h95]
    have h96 : v96.toInt = sE ft a 0 := by rw [e96]; first | rfl | (unfold sE; congr 2; omega)
    refine lv_iload_n hx hb d_Model_meet_97 rfl (lv_at hl 1 rfl) ?_
    refine lv_iadd hx hb d_Model_meet_98 ?_
    refine lv_topi (fun v98 e98 => ?_)
    have h98 : v98.toInt = sE ft a 0 + LA := by rw [e98]; exact ti_add h96 h25 (by omega) (by omega)
    refine lv_icmp_ge (tgt := 161) hx hb d_Model_meet_99 (by decide) (fun c99 => ?_) (fun c99 => ?_)
    · skip
      have c99 : (sE ft a 0 + LA) ≤ sE ft b 0 := (ti_le h98 h87).mp c99
      refine lv_iconst (v := 0) hx hb d_Model_meet_161 (by decide) ?_
      have hpost : isB 0 (mE ft a b) := by
        refine Or.inr ⟨rfl, ?_⟩
        unfold mE lE
        rw [← kLA, ← kLB]
        omega
      exact W.zret (v := 0) hx hb hr (by decide) (fun t ht hW => ⟨⟨0, (), rfl, hpost, trivial⟩, hS.F ht⟩) hS.2.2 d_Model_meet_162
    · skip
      have c99 : ¬ ((sE ft a 0 + LA) ≤ sE ft b 0) := fun q => c99 ((ti_le h98 h87).mpr q)
      refine lv_aload_n hx hb d_Model_meet_102 rfl (lv_at hl 2 rfl) ?_
      refine va_get (D := (dC, dI)) (ci := 5) (v := .ref ast) (C := R_Model) (T := T_Model) (N := 11) hx hb hts i_Model hown hK hP 0 rfl rfl 7 (by decide) (hts _ wd_572) (fun _ h9 => h9) rfl d_Model_meet_103 ?_
      refine lv_bipush (v := 6) hx hb d_Model_meet_106 (by decide) ?_
      refine lv_iload_n hx hb d_Model_meet_108 rfl (lv_at hl 3 rfl) ?_
      refine lv_imul hx hb d_Model_meet_109 ?_
      refine lv_topi (fun v109 e109 => ?_)
      have h109 : v109.toInt = 6 * a := by rw [e109]; exact ti_mul (ti_k (by decide)) g1 (by omega) (by omega)
      refine lv_iconst (v := 1) hx hb d_Model_meet_110 (by decide) ?_
      refine lv_iadd hx hb d_Model_meet_111 ?_
      refine lv_topi (fun v111 e111 => ?_)
      have h111 : v111.toInt = (6 * a) + 1 := by rw [e111]; exact ti_add h109 (ti_k (by decide)) (by omega) (by omega)
      have in112 : vp_in v111 1800 := vi_in h111 (by omega) (by omega)
      refine va_iald hx hb hK hP 1 0 rfl rfl in112 d_Model_meet_112 ?_
      refine lv_topi (fun v112 e112 => ?_)
      have e112 : v112 = ft (((6 * a) + 1)).toNat := by rw [e112, vi_cl h111]
      have h112 : v112.toInt = sE ft a 1 := by rw [e112]; first | rfl | (unfold sE; congr 2; omega)
      refine lv_aload_n hx hb d_Model_meet_113 rfl (lv_at hl 2 rfl) ?_
      refine va_get (D := (dC, dI)) (ci := 5) (v := .ref ast) (C := R_Model) (T := T_Model) (N := 11) hx hb hts i_Model hown hK hP 0 rfl rfl 7 (by decide) (hts _ wd_572) (fun _ h9 => h9) rfl d_Model_meet_114 ?_
      refine lv_bipush (v := 6) hx hb d_Model_meet_117 (by decide) ?_
      refine lv_iload_n hx hb d_Model_meet_119 rfl (lv_at hl 4 rfl) ?_
      refine lv_imul hx hb d_Model_meet_120 ?_
      refine lv_topi (fun v120 e120 => ?_)
      have h120 : v120.toInt = 6 * b := by rw [e120]; exact ti_mul (ti_k (by decide)) g2 (by omega) (by omega)
      refine lv_iconst (v := 1) hx hb d_Model_meet_121 (by decide) ?_
      refine lv_iadd hx hb d_Model_meet_122 ?_
      refine lv_topi (fun v122 e122 => ?_)
      have h122 : v122.toInt = (6 * b) + 1 := by rw [e122]; exact ti_add h120 (ti_k (by decide)) (by omega) (by omega)
      have in123 : vp_in v122 1800 := vi_in h122 (by omega) (by omega)
      refine va_iald hx hb hK hP 1 0 rfl rfl in123 d_Model_meet_123 ?_
      refine lv_topi (fun v123 e123 => ?_)
      have e123 : v123 = ft (((6 * b) + 1)).toNat := by rw [e123, vi_cl h122]
      have h123 : v123.toInt = sE ft b 1 := by rw [e123]; first | rfl | (unfold sE; congr 2; omega)
      refine lv_iload hx hb d_Model_meet_124 (lv_at hl 0 rfl) ?_
      refine lv_iadd hx hb d_Model_meet_126 ?_
      refine lv_topi (fun v126 e126 => ?_)
      have h126 : v126.toInt = sE ft b 1 + LB := by rw [e126]; exact ti_add h123 h52 (by omega) (by omega)
      refine lv_icmp_ge (tgt := 161) hx hb d_Model_meet_127 (by decide) (fun c127 => ?_) (fun c127 => ?_)
      · skip
        have c127 : (sE ft b 1 + LB) ≤ sE ft a 1 := (ti_le h126 h112).mp c127
        refine lv_iconst (v := 0) hx hb d_Model_meet_161 (by decide) ?_
        have hpost : isB 0 (mE ft a b) := by
          refine Or.inr ⟨rfl, ?_⟩
          unfold mE lE
          rw [← kLA, ← kLB]
          omega
        exact W.zret (v := 0) hx hb hr (by decide) (fun t ht hW => ⟨⟨0, (), rfl, hpost, trivial⟩, hS.F ht⟩) hS.2.2 d_Model_meet_162
      · skip
        have c127 : ¬ ((sE ft b 1 + LB) ≤ sE ft a 1) := fun q => c127 ((ti_le h126 h112).mpr q)
        refine lv_aload_n hx hb d_Model_meet_130 rfl (lv_at hl 2 rfl) ?_
        refine va_get (D := (dC, dI)) (ci := 5) (v := .ref ast) (C := R_Model) (T := T_Model) (N := 11) hx hb hts i_Model hown hK hP 0 rfl rfl 7 (by decide) (hts _ wd_572) (fun _ h9 => h9) rfl d_Model_meet_131 ?_
        refine lv_bipush (v := 6) hx hb d_Model_meet_134 (by decide) ?_
        refine lv_iload_n hx hb d_Model_meet_136 rfl (lv_at hl 4 rfl) ?_
        refine lv_imul hx hb d_Model_meet_137 ?_
        refine lv_topi (fun v137 e137 => ?_)
        have h137 : v137.toInt = 6 * b := by rw [e137]; exact ti_mul (ti_k (by decide)) g2 (by omega) (by omega)
        refine lv_iconst (v := 1) hx hb d_Model_meet_138 (by decide) ?_
        refine lv_iadd hx hb d_Model_meet_139 ?_
        refine lv_topi (fun v139 e139 => ?_)
        have h139 : v139.toInt = (6 * b) + 1 := by rw [e139]; exact ti_add h137 (ti_k (by decide)) (by omega) (by omega)
        have in140 : vp_in v139 1800 := vi_in h139 (by omega) (by omega)
        refine va_iald hx hb hK hP 1 0 rfl rfl in140 d_Model_meet_140 ?_
        refine lv_topi (fun v140 e140 => ?_)
        have e140 : v140 = ft (((6 * b) + 1)).toNat := by rw [e140, vi_cl h139]
        have h140 : v140.toInt = sE ft b 1 := by rw [e140]; first | rfl | (unfold sE; congr 2; omega)
        refine lv_aload_n hx hb d_Model_meet_141 rfl (lv_at hl 2 rfl) ?_
        refine va_get (D := (dC, dI)) (ci := 5) (v := .ref ast) (C := R_Model) (T := T_Model) (N := 11) hx hb hts i_Model hown hK hP 0 rfl rfl 7 (by decide) (hts _ wd_572) (fun _ h9 => h9) rfl d_Model_meet_142 ?_
        refine lv_bipush (v := 6) hx hb d_Model_meet_145 (by decide) ?_
        refine lv_iload_n hx hb d_Model_meet_147 rfl (lv_at hl 3 rfl) ?_
        refine lv_imul hx hb d_Model_meet_148 ?_
        refine lv_topi (fun v148 e148 => ?_)
        have h148 : v148.toInt = 6 * a := by rw [e148]; exact ti_mul (ti_k (by decide)) g1 (by omega) (by omega)
        refine lv_iconst (v := 1) hx hb d_Model_meet_149 (by decide) ?_
        refine lv_iadd hx hb d_Model_meet_150 ?_
        refine lv_topi (fun v150 e150 => ?_)
        have h150 : v150.toInt = (6 * a) + 1 := by rw [e150]; exact ti_add h148 (ti_k (by decide)) (by omega) (by omega)
        have in151 : vp_in v150 1800 := vi_in h150 (by omega) (by omega)
        refine va_iald hx hb hK hP 1 0 rfl rfl in151 d_Model_meet_151 ?_
        refine lv_topi (fun v151 e151 => ?_)
        have e151 : v151 = ft (((6 * a) + 1)).toNat := by rw [e151, vi_cl h150]
        have h151 : v151.toInt = sE ft a 1 := by rw [e151]; first | rfl | (unfold sE; congr 2; omega)
        refine lv_iload_n hx hb d_Model_meet_152 rfl (lv_at hl 1 rfl) ?_
        refine lv_iadd hx hb d_Model_meet_153 ?_
        refine lv_topi (fun v153 e153 => ?_)
        have h153 : v153.toInt = sE ft a 1 + LA := by rw [e153]; exact ti_add h151 h25 (by omega) (by omega)
        refine lv_icmp_ge (tgt := 161) hx hb d_Model_meet_154 (by decide) (fun c154 => ?_) (fun c154 => ?_)
        · skip
          have c154 : (sE ft a 1 + LA) ≤ sE ft b 1 := (ti_le h153 h140).mp c154
          refine lv_iconst (v := 0) hx hb d_Model_meet_161 (by decide) ?_
          have hpost : isB 0 (mE ft a b) := by
            refine Or.inr ⟨rfl, ?_⟩
            unfold mE lE
            rw [← kLA, ← kLB]
            omega
          exact W.zret (v := 0) hx hb hr (by decide) (fun t ht hW => ⟨⟨0, (), rfl, hpost, trivial⟩, hS.F ht⟩) hS.2.2 d_Model_meet_162
        · skip
          have c154 : ¬ ((sE ft a 1 + LA) ≤ sE ft b 1) := fun q => c154 ((ti_le h153 h140).mpr q)
          refine lv_iconst (v := 1) hx hb d_Model_meet_157 (by decide) ?_
          refine lv_goto (tgt := 162) hx hb d_Model_meet_158 (by decide) ?_
          have hpost : isB 1 (mE ft a b) := by
            refine Or.inl ⟨rfl, ?_⟩
            unfold mE lE
            rw [← kLA, ← kLB]
            omega
          exact W.zret (v := 1) hx hb hr (by decide) (fun t ht hW => ⟨⟨1, (), rfl, hpost, trivial⟩, hS.F ht⟩) hS.2.2 d_Model_meet_162

set_option maxHeartbeats 4000000 in
set_option maxRecDepth 100000 in
theorem m_leads (l : Launch) (dC : Nat → ClassId) (dI : Nat → Nat → Nat) (mo ad asu aru ast afo : Nat) (mth mw mh mro msd mmn : Int32) (SD : Int) (hsd : msd.toInt = SD) (s0 : 0 ≤ SD) (s1 : SD ≤ 300) (kT : ClassId) (ft : Nat → Int32) (hE : ∀ a, 0 ≤ a → a < SD → bE ft a) (a1 : Int32) (a : Int) (g1 : a1.toInt = a) (a0 : 0 ≤ a) (a9 : a < SD) : Met l y_Model_leads (.code y_Model_leads b_Model_leads 4 (some .boolean) :: allw) ({ frames := 2, cells := 0, slots := 0, locals := 44 }) (va_Pc [.ref mo, .int a1] (ro_B (dC, dI) vwCl [(mo, .inr (5, [.int mth, .int mw, .int mh, .ref ad, .ref asu, .ref aru, .int mro, .ref ast, .int msd, .ref afo, .int mmn])), (ast, .inl (kT, 1800, .inl ft))] [(kT, .int)])) (va_Qi (fun (r : Int32) (_ : Unit) => isB r (leadE ft SD a)) (fun _ _ => True) (fun _ => False)) 0 0 (fun _ => False) := by
  refine Met.ofW (cc := b_Model_leads) (maxL := 4) (ret := (some .boolean)) (by decide) rfl ?_
  intro p e s m args below meth c s₁ B hml hv
  obtain ⟨rfl, hP, hK⟩ := hv
  have hx := B.exec
  have hb := B.bytes
  have hr := B.returns
  have hts : ∀ w ∈ allw, w.before _ s = true := fun w h => atoms_spec (ws := .code y_Model_leads b_Model_leads 4 (some .boolean) :: allw) B.pre w (List.mem_cons_of_mem _ h)
  have hown : s.vm.findClass R_Model = some m.cls := findClass_of_methodNamed B.named
  have hlocks := B.notSynchronized
  have hS : va_S (fun _ => False) s.heap s.heap [] := va_S.rf
  have hP : va_P (dC, dI) vwCl [(mo, .inr (5, [.int mth, .int mw, .int mh, .ref ad, .ref asu, .ref aru, .int mro, .ref ast, .int msd, .ref afo, .int mmn])), (ast, .inl (kT, 1800, .inl ft))] s.heap := hP
  have hl := lv_entry ([.ref mo, .int a1]) (n := 4) (Nat.le_of_ble_eq_true rfl)
  rw [lg_entry_eq]
  generalize (lg_sl ([.ref mo, .int a1]) ++ List.replicate (4 - (lg_sl ([.ref mo, .int a1])).length) Slot.unset).toArray = ls at hl ⊢
  have hl : lv_has ls 4 [(0, .ref mo), (1, .int a1)] := hl
  have ha2 := hE a a0 a9
  unfold bE at ha2
  refine lv_iconst (v := 0) hx hb d_Model_leads_0 (by decide) ?_
  refine lv_istore_n (lv' := [(2, .int 0), (0, .ref mo), (1, .int a1)]) hx hb d_Model_leads_1 rfl hl (by decide) rfl (fun ls hl => ?_)
  refine w_loop (I := fun n H' locs' g' => ∃ (bb : Int32) (zbb : Int) (ls : Array Slot), g' = F0 m 2 ls [] ∧ lv_has ls 4 [(0, .ref mo), (1, .int a1), (2, .int bb)] ∧ n = (SD - zbb).toNat ∧ bb.toInt = zbb ∧ (0 ≤ zbb ∧ zbb ≤ SD) ∧ (leadE ft zbb a) ∧ va_P (dC, dI) vwCl [(mo, .inr (5, [.int mth, .int mw, .int mh, .ref ad, .ref asu, .ref aru, .int mro, .ref ast, .int msd, .ref afo, .int mmn])), (ast, .inl (kT, 1800, .inl ft))] H' ∧ va_S (fun _ => False) s.heap H' locs') ?_ ⟨0, 0, ls, rfl, lv_sub hl [1, 2, 0] rfl, rfl, (ti_k (by decide)), by omega, fun b q1 q2 => by omega, hP, hS⟩
  intro n2 H2 locs g' hI ih2
  obtain ⟨bb, zbb, ls, rfl, hl, hn, hbb, i1, i2, hP, hS⟩ := hI
  refine lv_iload_n hx hb d_Model_leads_2 rfl (lv_at hl 2 rfl) ?_
  refine lv_aload_n hx hb d_Model_leads_3 rfl (lv_at hl 0 rfl) ?_
  refine va_get (D := (dC, dI)) (ci := 5) (v := .int msd) (C := R_Model) (T := T_Model) (N := 11) hx hb hts i_Model hown hK hP 0 rfl rfl 8 (by decide) (hts _ wd_573) (fun _ h9 => h9) rfl d_Model_leads_4 ?_
  refine lv_icmp_ge (tgt := 73) hx hb d_Model_leads_7 (by decide) (fun c7 => ?_) (fun c7 => ?_)
  · skip
    have c7 : SD ≤ zbb := (ti_le hsd hbb).mp c7
    refine lv_iconst (v := 1) hx hb d_Model_leads_73 (by decide) ?_
    have hpost : isB 1 (leadE ft SD a) := by
      refine Or.inl ⟨rfl, ?_⟩
      have e : zbb = SD := by omega
      rw [← e]; exact i2
    exact W.zret (v := 1) hx hb hr (by decide) (fun t ht hW => ⟨⟨1, (), rfl, hpost, trivial⟩, hS.F ht⟩) hS.2.2 d_Model_leads_74
  · skip
    have c7 : ¬ (SD ≤ zbb) := fun q => c7 ((ti_le hsd hbb).mpr q)
    have hb2 := hE zbb (by omega) (by omega)
    unfold bE at hb2
    refine lv_aload_n hx hb d_Model_leads_10 rfl (lv_at hl 0 rfl) ?_
    refine va_get (D := (dC, dI)) (ci := 5) (v := .ref ast) (C := R_Model) (T := T_Model) (N := 11) hx hb hts i_Model hown hK hP 0 rfl rfl 7 (by decide) (hts _ wd_572) (fun _ h9 => h9) rfl d_Model_leads_11 ?_
    refine lv_bipush (v := 6) hx hb d_Model_leads_14 (by decide) ?_
    refine lv_iload_n hx hb d_Model_leads_16 rfl (lv_at hl 2 rfl) ?_
    refine lv_imul hx hb d_Model_leads_17 ?_
    refine lv_topi (fun v17 e17 => ?_)
    have h17 : v17.toInt = 6 * zbb := by rw [e17]; exact ti_mul (ti_k (by decide)) hbb (by omega) (by omega)
    refine lv_iconst (v := 5) hx hb d_Model_leads_18 (by decide) ?_
    refine lv_iadd hx hb d_Model_leads_19 ?_
    refine lv_topi (fun v19 e19 => ?_)
    have h19 : v19.toInt = (6 * zbb) + 5 := by rw [e19]; exact ti_add h17 (ti_k (by decide)) (by omega) (by omega)
    have in20 : vp_in v19 1800 := vi_in h19 (by omega) (by omega)
    refine va_iald hx hb hK hP 1 0 rfl rfl in20 d_Model_leads_20 ?_
    refine lv_topi (fun v20 e20 => ?_)
    have e20 : v20 = ft (((6 * zbb) + 5)).toNat := by rw [e20, vi_cl h19]
    have h20 : v20.toInt = sE ft zbb 5 := by rw [e20]; first | rfl | (unfold sE; congr 2; omega)
    refine lv_aload_n hx hb d_Model_leads_21 rfl (lv_at hl 0 rfl) ?_
    refine va_get (D := (dC, dI)) (ci := 5) (v := .ref ast) (C := R_Model) (T := T_Model) (N := 11) hx hb hts i_Model hown hK hP 0 rfl rfl 7 (by decide) (hts _ wd_572) (fun _ h9 => h9) rfl d_Model_leads_22 ?_
    refine lv_bipush (v := 6) hx hb d_Model_leads_25 (by decide) ?_
    refine lv_iload_n hx hb d_Model_leads_27 rfl (lv_at hl 1 rfl) ?_
    refine lv_imul hx hb d_Model_leads_28 ?_
    refine lv_topi (fun v28 e28 => ?_)
    have h28 : v28.toInt = 6 * a := by rw [e28]; exact ti_mul (ti_k (by decide)) g1 (by omega) (by omega)
    refine lv_iconst (v := 5) hx hb d_Model_leads_29 (by decide) ?_
    refine lv_iadd hx hb d_Model_leads_30 ?_
    refine lv_topi (fun v30 e30 => ?_)
    have h30 : v30.toInt = (6 * a) + 5 := by rw [e30]; exact ti_add h28 (ti_k (by decide)) (by omega) (by omega)
    have in31 : vp_in v30 1800 := vi_in h30 (by omega) (by omega)
    refine va_iald hx hb hK hP 1 0 rfl rfl in31 d_Model_leads_31 ?_
    refine lv_topi (fun v31 e31 => ?_)
    have e31 : v31 = ft (((6 * a) + 5)).toNat := by rw [e31, vi_cl h30]
    have h31 : v31.toInt = sE ft a 5 := by rw [e31]; first | rfl | (unfold sE; congr 2; omega)
    refine lv_isub hx hb d_Model_leads_32 ?_
    refine lv_topi (fun v32 e32 => ?_)
    have h32 : v32.toInt = sE ft zbb 5 - sE ft a 5 := by rw [e32]; exact ti_sub h20 h31 (by omega) (by omega)
    refine lv_istore_n (lv' := [(3, .int v32), (0, .ref mo), (1, .int a1), (2, .int bb)]) hx hb d_Model_leads_33 rfl hl (by decide) rfl (fun ls hl => ?_)
    refine lv_iload_n hx hb d_Model_leads_34 rfl (lv_at hl 3 rfl) ?_
    refine lv_iload_n hx hb d_Model_leads_35 rfl (lv_at hl 2 rfl) ?_
    refine lv_icmp_eq (tgt := 67) hx hb d_Model_leads_36 (by decide) (fun c36 => ?_) (fun c36 => ?_)
    · skip
      have c36 : zbb = a := (ti_eq hbb g1).mp c36
      obtain ⟨v67, e67⟩ : ∃ y : Int32, y = bb + 1 := ⟨_, rfl⟩
      have h67 : v67.toInt = zbb + 1 := by rw [e67]; exact ti_add hbb (ti_k (by decide)) (by omega) (by omega)
      refine lv_iinc (v := v67) (lv' := [(2, .int v67), (3, .int v32), (0, .ref mo), (1, .int a1)]) hx hb d_Model_leads_67 hl (k := 3) rfl (by rw [e67]; rfl) (by decide) rfl (fun ls hl => ?_)
      refine lv_goto (tgt := 2) hx hb d_Model_leads_70 (by decide) ?_
      exact ih2 _ (by omega) _ _ _ ⟨v67, (zbb + 1), ls, rfl, lv_sub hl [2, 3, 0] rfl, rfl, h67, by omega, fun b q1 q2 => by rcases (show b < zbb ∨ b = zbb by omega) with z | z <;> first | exact i2 b q1 z | (rw [z]; intro w; first | exact w.1 (by omega) | exact c45 w.2.1 | omega | (rcases w.2.2 with w | w <;> first | omega | exact c62 w.2)), hP, hS⟩
    · skip
      have c36 : ¬ (zbb = a) := fun q => c36 ((ti_eq hbb g1).mpr q)
      refine lv_aload_n hx hb d_Model_leads_39 rfl (lv_at hl 1 rfl) ?_
      refine lv_iload_n hx hb d_Model_leads_40 rfl (lv_at hl 2 rfl) ?_
      refine lv_iload_n hx hb d_Model_leads_41 rfl (lv_at hl 3 rfl) ?_
      have hPc := hP.sub (ws' := [(mo, .inr (5, [.int mth, .int mw, .int mh, .ref ad, .ref asu, .ref aru, .int mro, .ref ast, .int msd, .ref afo, .int mmn])), (ast, .inl (kT, 1800, .inl ft))]) [0, 1] rfl
      have hKc := hK.sub (tys' := [(kT, .int)]) [0] rfl
      refine va_calli (va_runV (As := [.int a1, .int bb]) (rest := []) ⟨hx, hb, hml, hown, hts⟩ (m_meet l dC dI mo ad asu aru ast afo mth mw mh mro msd mmn SD hsd s0 s1 kT ft hE a1 bb a zbb g1 hbb (by omega) (by omega) (by omega) (by omega)) (aw_V 2 hts wd_705 wd_707 ws_43 wd_5 wd_708 rfl rfl (by decide +kernel) ⟨Nat.le_of_ble_eq_true rfl, Nat.le_of_ble_eq_true rfl⟩) ⟨ro_blind, va_recv hKc hPc (ci := 5) (q0 := 0) rfl rfl, ro_pre hPc hKc⟩ rfl rfl hl.1 rfl (lv_room (Nat.le_of_ble_eq_true rfl)) d_Model_leads_42 ⟨Nat.le_of_ble_eq_true rfl, Nat.le_of_ble_eq_true rfl⟩) hS (fun q _ h => h.elim) (fun q h => h.elim) (fun v42 _ t9 H42 locs ht hvm h42 hB hz1 hk1 hS => ?_)
      have hP := ro_keep hP hk1
      clear hPc hKc ht hvm hB hz1 hk1
      refine lv_if_eq (tgt := 67) hx hb d_Model_leads_45 (by decide) (fun c45 => ?_) (fun c45 => ?_)
      · skip
        have c45 : ¬ (mE ft a zbb) := bi_z h42 c45
        obtain ⟨v67, e67⟩ : ∃ y : Int32, y = bb + 1 := ⟨_, rfl⟩
        have h67 : v67.toInt = zbb + 1 := by rw [e67]; exact ti_add hbb (ti_k (by decide)) (by omega) (by omega)
        refine lv_iinc (v := v67) (lv' := [(2, .int v67), (3, .int v32), (0, .ref mo), (1, .int a1)]) hx hb d_Model_leads_67 hl (k := 3) rfl (by rw [e67]; rfl) (by decide) rfl (fun ls hl => ?_)
        refine lv_goto (tgt := 2) hx hb d_Model_leads_70 (by decide) ?_
        exact ih2 _ (by omega) _ _ _ ⟨v67, (zbb + 1), ls, rfl, lv_sub hl [2, 3, 0] rfl, rfl, h67, by omega, fun b q1 q2 => by rcases (show b < zbb ∨ b = zbb by omega) with z | z <;> first | exact i2 b q1 z | (rw [z]; intro w; first | exact w.1 (by omega) | exact c45 w.2.1 | omega | (rcases w.2.2 with w | w <;> first | omega | exact c62 w.2)), hP, hS⟩
      · skip
        have c45 : mE ft a zbb := bi_nz h42 c45
        refine lv_iload_n hx hb d_Model_leads_48 rfl (lv_at hl 0 rfl) ?_
        refine lv_if_lt (tgt := 65) hx hb d_Model_leads_49 (by decide) (fun c49 => ?_) (fun c49 => ?_)
        · skip
          have c49 : (sE ft zbb 5 - sE ft a 5) < 0 := (ti_lt h32 (ti_k (by decide))).mp c49
          refine lv_iconst (v := 0) hx hb d_Model_leads_65 (by decide) ?_
          have hpost : isB 0 (leadE ft SD a) := by
            refine Or.inr ⟨rfl, fun q => q zbb (by omega) (by omega) ⟨by omega, c45, ?_⟩⟩
            first | exact Or.inl (by omega) | exact Or.inr ⟨by omega, c62⟩
          exact W.zret (v := 0) hx hb hr (by decide) (fun t ht hW => ⟨⟨0, (), rfl, hpost, trivial⟩, hS.F ht⟩) hS.2.2 d_Model_leads_66
        · skip
          have c49 : ¬ ((sE ft zbb 5 - sE ft a 5) < 0) := fun q => c49 ((ti_lt h32 (ti_k (by decide))).mpr q)
          refine lv_iload_n hx hb d_Model_leads_52 rfl (lv_at hl 0 rfl) ?_
          refine lv_if_ne (tgt := 67) hx hb d_Model_leads_53 (by decide) (fun c53 => ?_) (fun c53 => ?_)
          · skip
            have c53 : ¬ ((sE ft zbb 5 - sE ft a 5) = 0) := fun q => c53 ((ti_eq h32 (ti_k (by decide))).mpr q)
            obtain ⟨v67, e67⟩ : ∃ y : Int32, y = bb + 1 := ⟨_, rfl⟩
            have h67 : v67.toInt = zbb + 1 := by rw [e67]; exact ti_add hbb (ti_k (by decide)) (by omega) (by omega)
            refine lv_iinc (v := v67) (lv' := [(2, .int v67), (3, .int v32), (0, .ref mo), (1, .int a1)]) hx hb d_Model_leads_67 hl (k := 3) rfl (by rw [e67]; rfl) (by decide) rfl (fun ls hl => ?_)
            refine lv_goto (tgt := 2) hx hb d_Model_leads_70 (by decide) ?_
            exact ih2 _ (by omega) _ _ _ ⟨v67, (zbb + 1), ls, rfl, lv_sub hl [2, 3, 0] rfl, rfl, h67, by omega, fun b q1 q2 => by rcases (show b < zbb ∨ b = zbb by omega) with z | z <;> first | exact i2 b q1 z | (rw [z]; intro w; first | exact w.1 (by omega) | exact c45 w.2.1 | omega | (rcases w.2.2 with w | w <;> first | omega | exact c62 w.2)), hP, hS⟩
          · skip
            have c53 : (sE ft zbb 5 - sE ft a 5) = 0 := (ti_eq h32 (ti_k (by decide))).mp c53
            refine lv_aload_n hx hb d_Model_leads_56 rfl (lv_at hl 1 rfl) ?_
            refine lv_iload_n hx hb d_Model_leads_57 rfl (lv_at hl 3 rfl) ?_
            refine lv_iload_n hx hb d_Model_leads_58 rfl (lv_at hl 2 rfl) ?_
            have hPc := hP.sub (ws' := [(mo, .inr (5, [.int mth, .int mw, .int mh, .ref ad, .ref asu, .ref aru, .int mro, .ref ast, .int msd, .ref afo, .int mmn])), (ast, .inl (kT, 1800, .inl ft))]) [0, 1] rfl
            have hKc := hK.sub (tys' := [(kT, .int)]) [0] rfl
            refine va_calli (va_runV (As := [.int bb, .int a1]) (rest := []) ⟨hx, hb, hml, hown, hts⟩ (m_isBefore l dC dI mo ad asu aru ast afo mth mw mh mro msd mmn SD hsd s0 s1 kT ft hE bb a1 zbb a hbb g1 (by omega) (by omega) (by omega) (by omega)) (aw_V 2 hts wd_697 wd_699 ws_41 wd_5 wd_700 rfl rfl (by decide +kernel) ⟨Nat.le_of_ble_eq_true rfl, Nat.le_of_ble_eq_true rfl⟩) ⟨ro_blind, va_recv hKc hPc (ci := 5) (q0 := 0) rfl rfl, ro_pre hPc hKc⟩ rfl rfl hl.1 rfl (lv_room (Nat.le_of_ble_eq_true rfl)) d_Model_leads_59 ⟨Nat.le_of_ble_eq_true rfl, Nat.le_of_ble_eq_true rfl⟩) hS (fun q _ h => h.elim) (fun q h => h.elim) (fun v59 _ t9 H59 locs ht hvm h59 hB hz1 hk1 hS => ?_)
            have hP := ro_keep hP hk1
            clear hPc hKc ht hvm hB hz1 hk1
            refine lv_if_eq (tgt := 67) hx hb d_Model_leads_62 (by decide) (fun c62 => ?_) (fun c62 => ?_)
            · skip
              have c62 : ¬ (kE ft zbb < kE ft a) := bi_z h59 c62
              obtain ⟨v67, e67⟩ : ∃ y : Int32, y = bb + 1 := ⟨_, rfl⟩
              have h67 : v67.toInt = zbb + 1 := by rw [e67]; exact ti_add hbb (ti_k (by decide)) (by omega) (by omega)
              refine lv_iinc (v := v67) (lv' := [(2, .int v67), (3, .int v32), (0, .ref mo), (1, .int a1)]) hx hb d_Model_leads_67 hl (k := 3) rfl (by rw [e67]; rfl) (by decide) rfl (fun ls hl => ?_)
              refine lv_goto (tgt := 2) hx hb d_Model_leads_70 (by decide) ?_
              exact ih2 _ (by omega) _ _ _ ⟨v67, (zbb + 1), ls, rfl, lv_sub hl [2, 3, 0] rfl, rfl, h67, by omega, fun b q1 q2 => by rcases (show b < zbb ∨ b = zbb by omega) with z | z <;> first | exact i2 b q1 z | (rw [z]; intro w; first | exact w.1 (by omega) | exact c45 w.2.1 | omega | (rcases w.2.2 with w | w <;> first | omega | exact c62 w.2)), hP, hS⟩
            · skip
              have c62 : kE ft zbb < kE ft a := bi_nz h59 c62
              refine lv_iconst (v := 0) hx hb d_Model_leads_65 (by decide) ?_
              have hpost : isB 0 (leadE ft SD a) := by
                refine Or.inr ⟨rfl, fun q => q zbb (by omega) (by omega) ⟨by omega, c45, ?_⟩⟩
                first | exact Or.inl (by omega) | exact Or.inr ⟨by omega, c62⟩
              exact W.zret (v := 0) hx hb hr (by decide) (fun t ht hW => ⟨⟨0, (), rfl, hpost, trivial⟩, hS.F ht⟩) hS.2.2 d_Model_leads_66
