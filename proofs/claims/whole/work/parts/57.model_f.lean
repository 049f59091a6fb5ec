set_option maxHeartbeats 4000000 in
set_option maxRecDepth 100000 in
theorem m_add (l : Launch) (dC : Nat → ClassId) (dI : Nat → Nat → Nat) (sz : Nat) (mo ad asu aru ast afo : Nat) (mth mw mh mro msd mmn : Int32) (Wd Ht : Int) (hmw : mw.toInt = Wd) (hmh : mh.toInt = Ht) (hW1 : 1 ≤ Wd) (hW2 : Wd ≤ 512) (hH1 : 1 ≤ Ht) (hH2 : Ht ≤ 512) (kD : ClassId) (fd : Nat → Int32) (D : Int → Int → Bool) (hfd : dOK fd D) (kU : ClassId) (fu : Nat → Int32) (hz : z0 fu) : Met l y_Model_add (.code y_Model_add b_Model_add 4 none :: allw) ({ frames := 1, cells := 0, slots := 0, locals := 22 }) (va_Pc [.ref mo] (rw_B (dC, dI) vwCl [(mo, .inr (5, [.int mth, .int mw, .int mh, .ref ad, .ref asu, .ref aru, .int mro, .ref ast, .int msd, .ref afo, .int mmn])), (ad, .inl (kD, 262144, .inl fd)), (asu, .inl (kU, 263169, .inl fu))] [(kD, .boolean), (kU, .int)] sz)) (va_Qv (fun (u : Nat → Int32) => sOK u D Wd Ht ∧ z0 u) (fun u t => rw_E (dC, dI) vwCl [(mo, .inr (5, [.int mth, .int mw, .int mh, .ref ad, .ref asu, .ref aru, .int mro, .ref ast, .int msd, .ref afo, .int mmn])), (ad, .inl (kD, 262144, .inl fd)), (asu, .inl (kU, 263169, .inl u))] [(kD, .boolean), (kU, .int)] (va_A [(mo, .inr (5, [.int mth, .int mw, .int mh, .ref ad, .ref asu, .ref aru, .int mro, .ref ast, .int msd, .ref afo, .int mmn])), (ad, .inl (kD, 262144, .inl fd)), (asu, .inl (kU, 263169, .inl fu))] sz) t) (va_A [(mo, .inr (5, [.int mth, .int mw, .int mh, .ref ad, .ref asu, .ref aru, .int mro, .ref ast, .int msd, .ref afo, .int mmn])), (ad, .inl (kD, 262144, .inl fd)), (asu, .inl (kU, 263169, .inl fu))] sz)) 0 0 (va_A [(mo, .inr (5, [.int mth, .int mw, .int mh, .ref ad, .ref asu, .ref aru, .int mro, .ref ast, .int msd, .ref afo, .int mmn])), (ad, .inl (kD, 262144, .inl fd)), (asu, .inl (kU, 263169, .inl fu))] sz) := by
  refine Met.ofW (cc := b_Model_add) (maxL := 4) (ret := none) (by decide) rfl ?_
  intro p e s m args below meth c s₁ B hml hv
  obtain ⟨rfl, hsz, hP, hK, hD0⟩ := hv
  have hx := B.exec
  have hb := B.bytes
  have hr := B.returns
  have hts : ∀ w ∈ allw, w.before _ s = true := fun w h => atoms_spec (ws := .code y_Model_add b_Model_add 4 none :: allw) B.pre w (List.mem_cons_of_mem _ h)
  have hown : s.vm.findClass R_Model = some m.cls := findClass_of_methodNamed B.named
  have hlocks := B.notSynchronized
  subst hsz
  have hD := hD0.self (sz := s.heap.size)
  generalize hAe : va_A [(mo, .inr (5, [.int mth, .int mw, .int mh, .ref ad, .ref asu, .ref aru, .int mro, .ref ast, .int msd, .ref afo, .int mmn])), (ad, .inl (kD, 262144, .inl fd)), (asu, .inl (kU, 263169, .inl fu))] s.heap.size = A at hD ⊢
  have hA : ∀ q : Nat, s.heap.size ≤ q → A q := fun q h => by rw [← hAe]; exact Or.inr h
  have hS : va_S A s.heap s.heap [] := va_S.rf
  have hP : va_P (dC, dI) vwCl [(mo, .inr (5, [.int mth, .int mw, .int mh, .ref ad, .ref asu, .ref aru, .int mro, .ref ast, .int msd, .ref afo, .int mmn])), (ad, .inl (kD, 262144, .inl fd)), (asu, .inl (kU, 263169, .inl fu))] s.heap := hP
  have hl := lv_entry ([.ref mo]) (n := 4) (Nat.le_of_ble_eq_true rfl)
  rw [lg_entry_eq]
  generalize (lg_sl ([.ref mo]) ++ List.replicate (4 - (lg_sl ([.ref mo])).length) Slot.unset).toArray = ls at hl ⊢
  have hl : lv_has ls 4 [(0, .ref mo)] := hl
  refine lv_iconst (v := 0) hx hb d_Model_add_0 (by decide) ?_
  refine lv_istore_n (lv' := [(1, .int 0), (0, .ref mo)]) hx hb d_Model_add_1 rfl hl (by decide) rfl (fun ls hl => ?_)
  refine w_loop (I := fun n H' locs' g' => ∃ (yy : Int32) (zyy : Int) (fc : Nat → Int32) (ls : Array Slot), g' = F0 m 2 ls [] ∧ lv_has ls 4 [(0, .ref mo), (1, .int yy)] ∧ n = (Ht - zyy).toNat ∧ yy.toInt = zyy ∧ (0 ≤ zyy ∧ zyy ≤ Ht) ∧ (sOK fc D Wd zyy) ∧ (z0 fc) ∧ va_P (dC, dI) vwCl [(mo, .inr (5, [.int mth, .int mw, .int mh, .ref ad, .ref asu, .ref aru, .int mro, .ref ast, .int msd, .ref afo, .int mmn])), (ad, .inl (kD, 262144, .inl fd)), (asu, .inl (kU, 263169, .inl fc))] H' ∧ va_D A [(mo, .inr (5, [.int mth, .int mw, .int mh, .ref ad, .ref asu, .ref aru, .int mro, .ref ast, .int msd, .ref afo, .int mmn])), (ad, .inl (kD, 262144, .inl fd)), (asu, .inl (kU, 263169, .inl fc))] ∧ va_S A s.heap H' locs') ?_ ⟨0, 0, fu, ls, rfl, lv_sub hl [1, 0] rfl, rfl, (ti_k (by decide)), by omega, sOK_0 hz hW2, hz, hP, hD, hS⟩
  intro n2 H2 locs g' hI ih2
  obtain ⟨yy, zyy, fc, ls, rfl, hl, hn, hyy, i1, i2, i3, hP, hD, hS⟩ := hI
  refine lv_iload_n hx hb d_Model_add_2 rfl (lv_at hl 1 rfl) ?_
  refine lv_aload_n hx hb d_Model_add_3 rfl (lv_at hl 0 rfl) ?_
  refine va_get (D := (dC, dI)) (ci := 5) (v := .int mh) (C := R_Model) (T := T_Model) (N := 11) hx hb hts i_Model hown hK hP 0 rfl rfl 2 (by decide) (hts _ wd_567) (fun _ h9 => h9) rfl d_Model_add_4 ?_
  refine lv_icmp_ge (tgt := 83) hx hb d_Model_add_7 (by decide) (fun c7 => ?_) (fun c7 => ?_)
  · skip
    have c7 : Ht ≤ zyy := (ti_le hmh hyy).mp c7
    have hpost : sOK fc D Wd Ht ∧ z0 fc := by
      have e : zyy = Ht := by omega
      rw [e] at i2
      exact ⟨i2, i3⟩
    have hP9 := hP.sub (ws' := [(mo, .inr (5, [.int mth, .int mw, .int mh, .ref ad, .ref asu, .ref aru, .int mro, .ref ast, .int msd, .ref afo, .int mmn])), (ad, .inl (kD, 262144, .inl fd)), (asu, .inl (kU, 263169, .inl fc))]) [0, 1, 2] rfl
    have hD9 := hD.sub (ws' := [(mo, .inr (5, [.int mth, .int mw, .int mh, .ref ad, .ref asu, .ref aru, .int mro, .ref ast, .int msd, .ref afo, .int mmn])), (ad, .inl (kD, 262144, .inl fd)), (asu, .inl (kU, 263169, .inl fc))]) [0, 1, 2] (by decide) rfl
    have hK9 := hK.sub (tys' := [(kD, .boolean), (kU, .int)]) [0, 1] rfl
    exact W.vret hx hb hr (fun t ht hW => ⟨⟨fc, rfl, hpost, by rw [ht]; exact hP9, va_K.moved hW.alike hK9, hD9⟩, hS.F ht⟩) hS.2.2 d_Model_add_83
  · skip
    have c7 : ¬ (Ht ≤ zyy) := fun q => c7 ((ti_le hmh hyy).mpr q)
    refine lv_iconst (v := 0) hx hb d_Model_add_10 (by decide) ?_
    refine lv_istore_n (lv' := [(2, .int 0), (0, .ref mo), (1, .int yy)]) hx hb d_Model_add_11 rfl hl (by decide) rfl (fun ls hl => ?_)
    refine lv_iconst (v := 0) hx hb d_Model_add_12 (by decide) ?_
    refine lv_istore_n (lv' := [(3, .int 0), (2, .int 0), (0, .ref mo), (1, .int yy)]) hx hb d_Model_add_13 rfl hl (by decide) rfl (fun ls hl => ?_)
    refine w_loop (I := fun n H' locs' g' => ∃ (rw9 : Int32) (zrw9 : Int) (xx : Int32) (zxx : Int) (fe : Nat → Int32) (ls : Array Slot), g' = F0 m 14 ls [] ∧ lv_has ls 4 [(0, .ref mo), (1, .int yy), (2, .int rw9), (3, .int xx)] ∧ n = (Wd - zxx).toNat ∧ rw9.toInt = zrw9 ∧ xx.toInt = zxx ∧ (0 ≤ zxx ∧ zxx ≤ Wd) ∧ (sOK fe D Wd zyy) ∧ (z0 fe) ∧ (zrw9 = rc D 0 zyy zxx.toNat) ∧ (∀ a, 0 ≤ a → a ≤ zxx → (fe (513 * (zyy + 1) + a).toNat).toInt = cI D 0 0 a (zyy + 1)) ∧ va_P (dC, dI) vwCl [(mo, .inr (5, [.int mth, .int mw, .int mh, .ref ad, .ref asu, .ref aru, .int mro, .ref ast, .int msd, .ref afo, .int mmn])), (ad, .inl (kD, 262144, .inl fd)), (asu, .inl (kU, 263169, .inl fe))] H' ∧ va_D A [(mo, .inr (5, [.int mth, .int mw, .int mh, .ref ad, .ref asu, .ref aru, .int mro, .ref ast, .int msd, .ref afo, .int mmn])), (ad, .inl (kD, 262144, .inl fd)), (asu, .inl (kU, 263169, .inl fe))] ∧ va_S A s.heap H' locs') ?_ ⟨0, 0, 0, 0, fc, ls, rfl, lv_sub hl [2, 3, 1, 0] rfl, rfl, (ti_k (by decide)), (ti_k (by decide)), by omega, i2, i3, rfl, fun a a0 a1 => by rw [show a = 0 by omega, Int.add_zero, i3.2 (zyy + 1) (by omega) (by omega), cI_0w D 0 0 _ (by omega)]; decide, hP, hD, hS⟩
    intro n14 H14 locs g' hI ih14
    obtain ⟨rw9, zrw9, xx, zxx, fe, ls, rfl, hl, hn, hrw9, hxx, j1, j2, j3, j4, j5, hP, hD, hS⟩ := hI
    have rn := rc_nn D 0 zyy zxx.toNat
    have rm := rc_le D 0 zyy zxx.toNat
    refine lv_iload_n hx hb d_Model_add_14 rfl (lv_at hl 3 rfl) ?_
    refine lv_aload_n hx hb d_Model_add_15 rfl (lv_at hl 0 rfl) ?_
    refine va_get (D := (dC, dI)) (ci := 5) (v := .int mw) (C := R_Model) (T := T_Model) (N := 11) hx hb hts i_Model hown hK hP 0 rfl rfl 1 (by decide) (hts _ wd_566) (fun _ h9 => h9) rfl d_Model_add_16 ?_
    refine lv_icmp_ge (tgt := 77) hx hb d_Model_add_19 (by decide) (fun c19 => ?_) (fun c19 => ?_)
    · skip
      have c19 : Wd ≤ zxx := (ti_le hmw hxx).mp c19
      obtain ⟨v77, e77⟩ : ∃ y : Int32, y = yy + 1 := ⟨_, rfl⟩
      have h77 : v77.toInt = zyy + 1 := by rw [e77]; exact ti_add hyy (ti_k (by decide)) (by omega) (by omega)
      refine lv_iinc (v := v77) (lv' := [(1, .int v77), (0, .ref mo), (2, .int rw9), (3, .int xx)]) hx hb d_Model_add_77 hl (k := 1) rfl (by rw [e77]; rfl) (by decide) rfl (fun ls hl => ?_)
      refine lv_goto (tgt := 2) hx hb d_Model_add_80 (by decide) ?_
      have ex : zxx = Wd := by omega
      rw [ex] at j5
      exact ih2 _ (by omega) _ _ _ ⟨v77, (zyy + 1), fe, ls, rfl, lv_sub hl [1, 0] rfl, rfl, h77, by omega, sum_next j2 j5, j3, hP, hD, hS⟩
    · skip
      have c19 : ¬ (Wd ≤ zxx) := fun q => c19 ((ti_le hmw hxx).mpr q)
      refine lv_iload_n hx hb d_Model_add_22 rfl (lv_at hl 2 rfl) ?_
      refine lv_aload_n hx hb d_Model_add_23 rfl (lv_at hl 0 rfl) ?_
      refine lv_iload_n hx hb d_Model_add_24 rfl (lv_at hl 3 rfl) ?_
      refine lv_iload_n hx hb d_Model_add_25 rfl (lv_at hl 1 rfl) ?_
      have hPc := hP.sub (ws' := [(mo, .inr (5, [.int mth, .int mw, .int mh, .ref ad, .ref asu, .ref aru, .int mro, .ref ast, .int msd, .ref afo, .int mmn])), (ad, .inl (kD, 262144, .inl fd))]) [0, 1] rfl
      have hKc := hK.sub (tys' := [(kD, .boolean)]) [0] rfl
      refine va_calli (va_runV (As := [.int xx, .int yy]) (rest := [.int rw9]) ⟨hx, hb, hml, hown, hts⟩ (m_isDark l dC dI mo ad asu aru ast afo mth mw mh mro msd mmn Wd Ht hmw hmh hW1 hW2 hH1 hH2 kD fd D hfd xx yy zxx zyy hxx hyy (by omega) (by omega) (by omega) (by omega)) (aw_V 2 hts wd_620 wd_622 ws_31 wd_5 wd_623 rfl rfl (by decide +kernel) ⟨Nat.le_of_ble_eq_true rfl, Nat.le_of_ble_eq_true rfl⟩) ⟨ro_blind, va_recv hKc hPc (ci := 5) (q0 := 0) rfl rfl, ro_pre hPc hKc⟩ rfl rfl hl.1 rfl (lv_room (Nat.le_of_ble_eq_true rfl)) d_Model_add_26 ⟨Nat.le_of_ble_eq_true rfl, Nat.le_of_ble_eq_true rfl⟩) hS (fun q _ h => h.elim) (fun q h => h.elim) (fun v26 _ t9 H26 locs ht hvm h26 hB hz1 hk1 hS => ?_)
      have hP := ro_keep hP hk1
      clear hPc hKc ht hvm hB hz1 hk1
      refine lv_if_eq (tgt := 36) hx hb d_Model_add_29 (by decide) (fun c29 => ?_) (fun c29 => ?_)
      · skip
        have c29 : ¬ (D zxx zyy = true) := bi_z (zb_isB h26) c29
        refine lv_iconst (v := 0) hx hb d_Model_add_36 (by decide) ?_
        refine lv_iadd hx hb d_Model_add_37 ?_
        refine lv_topi (fun v37 e37 => ?_)
        have h37 : v37.toInt = zrw9 + 0 := by rw [e37]; exact ti_add hrw9 (ti_k (by decide)) (by omega) (by omega)
        have rs : (zrw9 + 0) = rc D 0 zyy (zxx + 1).toNat := by first | (rw [rc1_y (by omega) c29]; omega) | (rw [rc1_n (by omega) (bf c29)]; omega)
        refine lv_istore_n (lv' := [(2, .int v37), (0, .ref mo), (1, .int yy), (3, .int xx)]) hx hb d_Model_add_38 rfl hl (by decide) rfl (fun ls hl => ?_)
        refine lv_aload_n hx hb d_Model_add_39 rfl (lv_at hl 1 rfl) ?_
        refine va_get (D := (dC, dI)) (ci := 5) (v := .ref asu) (C := R_Model) (T := T_Model) (N := 11) hx hb hts i_Model hown hK hP 0 rfl rfl 4 (by decide) (hts _ wd_569) (fun _ h9 => h9) rfl d_Model_add_40 ?_
        refine lv_sipush (v := 513) hx hb d_Model_add_43 (by decide) ?_
        refine lv_iload_n hx hb d_Model_add_46 rfl (lv_at hl 2 rfl) ?_
        refine lv_iconst (v := 1) hx hb d_Model_add_47 (by decide) ?_
        refine lv_iadd hx hb d_Model_add_48 ?_
        refine lv_topi (fun v48 e48 => ?_)
        have h48 : v48.toInt = zyy + 1 := by rw [e48]; exact ti_add hyy (ti_k (by decide)) (by omega) (by omega)
        refine lv_imul hx hb d_Model_add_49 ?_
        refine lv_topi (fun v49 e49 => ?_)
        have h49 : v49.toInt = 513 * (zyy + 1) := by rw [e49]; exact ti_mul (ti_k (by decide)) h48 (by omega) (by omega)
        refine lv_iload_n hx hb d_Model_add_50 rfl (lv_at hl 3 rfl) ?_
        refine lv_iadd hx hb d_Model_add_51 ?_
        refine lv_topi (fun v51 e51 => ?_)
        have h51 : v51.toInt = (513 * (zyy + 1)) + zxx := by rw [e51]; exact ti_add h49 hxx (by omega) (by omega)
        refine lv_iconst (v := 1) hx hb d_Model_add_52 (by decide) ?_
        refine lv_iadd hx hb d_Model_add_53 ?_
        refine lv_topi (fun v53 e53 => ?_)
        have h53 : v53.toInt = ((513 * (zyy + 1)) + zxx) + 1 := by rw [e53]; exact ti_add h51 (ti_k (by decide)) (by omega) (by omega)
        refine lv_aload_n hx hb d_Model_add_54 rfl (lv_at hl 1 rfl) ?_
        refine va_get (D := (dC, dI)) (ci := 5) (v := .ref asu) (C := R_Model) (T := T_Model) (N := 11) hx hb hts i_Model hown hK hP 0 rfl rfl 4 (by decide) (hts _ wd_569) (fun _ h9 => h9) rfl d_Model_add_55 ?_
        refine lv_sipush (v := 513) hx hb d_Model_add_58 (by decide) ?_
        refine lv_iload_n hx hb d_Model_add_61 rfl (lv_at hl 2 rfl) ?_
        refine lv_imul hx hb d_Model_add_62 ?_
        refine lv_topi (fun v62 e62 => ?_)
        have h62 : v62.toInt = 513 * zyy := by rw [e62]; exact ti_mul (ti_k (by decide)) hyy (by omega) (by omega)
        refine lv_iload_n hx hb d_Model_add_63 rfl (lv_at hl 3 rfl) ?_
        refine lv_iadd hx hb d_Model_add_64 ?_
        refine lv_topi (fun v64 e64 => ?_)
        have h64 : v64.toInt = (513 * zyy) + zxx := by rw [e64]; exact ti_add h62 hxx (by omega) (by omega)
        refine lv_iconst (v := 1) hx hb d_Model_add_65 (by decide) ?_
        refine lv_iadd hx hb d_Model_add_66 ?_
        refine lv_topi (fun v66 e66 => ?_)
        have h66 : v66.toInt = ((513 * zyy) + zxx) + 1 := by rw [e66]; exact ti_add h64 (ti_k (by decide)) (by omega) (by omega)
        have in67 : vp_in v66 263169 := vi_in h66 (by omega) (by omega)
        refine va_iald hx hb hK hP 2 1 rfl rfl in67 d_Model_add_67 ?_
        refine lv_topi (fun v67 e67 => ?_)
        have e67 : v67 = fe ((((513 * zyy) + zxx) + 1)).toNat := by rw [e67, vi_cl h66]
        have h67 : v67.toInt = cI D 0 0 (zxx + 1) zyy := by rw [e67, ← j2 (zxx + 1) zyy (by omega) (by omega) (by omega) (by omega)]; congr 2; omega
        have b67 := cI_nn D 0 0 (zxx + 1) zyy
        have c67 := cI_le D 0 0 (w := zxx + 1) (h := zyy) (by omega) (by omega)
        have m67 := mul_b (a := zxx + 1) (b := zyy) (n := 512) (by omega) (by omega) (by omega) (by omega)
        refine lv_iload_n hx hb d_Model_add_68 rfl (lv_at hl 0 rfl) ?_
        refine lv_iadd hx hb d_Model_add_69 ?_
        refine lv_topi (fun v69 e69 => ?_)
        have h69 : v69.toInt = cI D 0 0 (zxx + 1) zyy + (zrw9 + 0) := by rw [e69]; exact ti_add h67 h37 (by omega) (by omega)
        have sv : v69.toInt = cI D 0 0 (zxx + 1) (zyy + 1) := by rw [h69, cI_step D _ (by omega), ← rs]
        have in70 : vp_in v53 263169 := vi_in h53 (by omega) (by omega)
        refine va_iast hx hb hK hP hD hS 2 1 rfl rfl in70 d_Model_add_70 (fun H70 locs hP hD hS => ?_)
        obtain ⟨f70, ef70⟩ : ∃ g, g = upd fe (v53).toNatClampNeg v69 := ⟨_, rfl⟩
        have hP : va_P (dC, dI) vwCl [(mo, .inr (5, [.int mth, .int mw, .int mh, .ref ad, .ref asu, .ref aru, .int mro, .ref ast, .int msd, .ref afo, .int mmn])), (ad, .inl (kD, 262144, .inl fd)), (asu, .inl (kU, 263169, .inl f70))] H70 := by rw [ef70]; exact hP
        have hD : va_D A [(mo, .inr (5, [.int mth, .int mw, .int mh, .ref ad, .ref asu, .ref aru, .int mro, .ref ast, .int msd, .ref afo, .int mmn])), (ad, .inl (kD, 262144, .inl fd)), (asu, .inl (kU, 263169, .inl f70))] := by rw [ef70]; exact hD
        have ef70 : f70 = upd fe ((((513 * (zyy + 1)) + zxx) + 1)).toNat v69 := by rw [ef70, vi_cl h53]
        obtain ⟨v71, e71⟩ : ∃ y : Int32, y = xx + 1 := ⟨_, rfl⟩
        have h71 : v71.toInt = zxx + 1 := by rw [e71]; exact ti_add hxx (ti_k (by decide)) (by omega) (by omega)
        refine lv_iinc (v := v71) (lv' := [(3, .int v71), (2, .int v37), (0, .ref mo), (1, .int yy)]) hx hb d_Model_add_71 hl (k := 3) rfl (by rw [e71]; rfl) (by decide) rfl (fun ls hl => ?_)
        refine lv_goto (tgt := 14) hx hb d_Model_add_74 (by decide) ?_
        exact ih14 _ (by omega) _ _ _ ⟨v37, (zrw9 + 0), v71, (zxx + 1), f70, ls, rfl, lv_sub hl [2, 3, 1, 0] rfl, rfl, h37, h71, by omega, by rw [ef70]; exact sum_keep j2 hW2 (by omega) (by omega), by rw [ef70]; exact sum_z0 j3 (by omega) (by omega) (by omega), rs, by rw [ef70]; exact sum_row j5 (by omega) (by omega) sv, hP, hD, hS⟩
      · skip
        have c29 : D zxx zyy = true := bi_nz (zb_isB h26) c29
        refine lv_iconst (v := 1) hx hb d_Model_add_32 (by decide) ?_
        refine lv_goto (tgt := 37) hx hb d_Model_add_33 (by decide) ?_
        refine lv_iadd hx hb d_Model_add_37 ?_
        refine lv_topi (fun v37 e37 => ?_)
        have h37 : v37.toInt = zrw9 + 1 := by rw [e37]; exact ti_add hrw9 (ti_k (by decide)) (by omega) (by omega)
        have rs : (zrw9 + 1) = rc D 0 zyy (zxx + 1).toNat := by first | (rw [rc1_y (by omega) c29]; omega) | (rw [rc1_n (by omega) (bf c29)]; omega)
        refine lv_istore_n (lv' := [(2, .int v37), (0, .ref mo), (1, .int yy), (3, .int xx)]) hx hb d_Model_add_38 rfl hl (by decide) rfl (fun ls hl => ?_)
        refine lv_aload_n hx hb d_Model_add_39 rfl (lv_at hl 1 rfl) ?_
        refine va_get (D := (dC, dI)) (ci := 5) (v := .ref asu) (C := R_Model) (T := T_Model) (N := 11) hx hb hts i_Model hown hK hP 0 rfl rfl 4 (by decide) (hts _ wd_569) (fun _ h9 => h9) rfl d_Model_add_40 ?_
        refine lv_sipush (v := 513) hx hb d_Model_add_43 (by decide) ?_
        refine lv_iload_n hx hb d_Model_add_46 rfl (lv_at hl 2 rfl) ?_
        refine lv_iconst (v := 1) hx hb d_Model_add_47 (by decide) ?_
        refine lv_iadd hx hb d_Model_add_48 ?_
        refine lv_topi (fun v48 e48 => ?_)
        have h48 : v48.toInt = zyy + 1 := by rw [e48]; exact ti_add hyy (ti_k (by decide)) (by omega) (by omega)
        refine lv_imul hx hb d_Model_add_49 ?_
        refine lv_topi (fun v49 e49 => ?_)
        have h49 : v49.toInt = 513 * (zyy + 1) := by rw [e49]; exact ti_mul (ti_k (by decide)) h48 (by omega) (by omega)
        refine lv_iload_n hx hb d_Model_add_50 rfl (lv_at hl 3 rfl) ?_
        refine lv_iadd hx hb d_Model_add_51 ?_
        refine lv_topi (fun v51 e51 => ?_)
        have h51 : v51.toInt = (513 * (zyy + 1)) + zxx := by rw [e51]; exact ti_add h49 hxx (by omega) (by omega)
        refine lv_iconst (v := 1) hx hb d_Model_add_52 (by decide) ?_
        refine lv_iadd hx hb d_Model_add_53 ?_
        refine lv_topi (fun v53 e53 => ?_)
        have h53 : v53.toInt = ((513 * (zyy + 1)) + zxx) + 1 := by rw [e53]; exact ti_add h51 (ti_k (by decide)) (by omega) (by omega)
        refine lv_aload_n hx hb d_Model_add_54 rfl (lv_at hl 1 rfl) ?_
        refine va_get (D := (dC, dI)) (ci := 5) (v := .ref asu) (C := R_Model) (T := T_Model) (N := 11) hx hb hts i_Model hown hK hP 0 rfl rfl 4 (by decide) (hts _ wd_569) (fun _ h9 => h9) rfl d_Model_add_55 ?_
        refine lv_sipush (v := 513) hx hb d_Model_add_58 (by decide) ?_
        refine lv_iload_n hx hb d_Model_add_61 rfl (lv_at hl 2 rfl) ?_
        refine lv_imul hx hb d_Model_add_62 ?_
        refine lv_topi (fun v62 e62 => ?_)
        have h62 : v62.toInt = 513 * zyy := by rw [e62]; exact ti_mul (ti_k (by decide)) hyy (by omega) (by omega)
        refine lv_iload_n hx hb d_Model_add_63 rfl (lv_at hl 3 rfl) ?_
        refine lv_iadd hx hb d_Model_add_64 ?_
        refine lv_topi (fun v64 e64 => ?_)
        have h64 : v64.toInt = (513 * zyy) + zxx := by rw [e64]; exact ti_add h62 hxx (by omega) (by omega)
        refine lv_iconst (v := 1) hx hb d_Model_add_65 (by decide) ?_
        refine lv_iadd hx hb d_Model_add_66 ?_
        refine lv_topi (fun v66 e66 => ?_)
        have h66 : v66.toInt = ((513 * zyy) + zxx) + 1 := by rw [e66]; exact ti_add h64 (ti_k (by decide)) (by omega) (by omega)
        have in67 : vp_in v66 263169 := vi_in h66 (by omega) (by omega)
        refine va_iald hx hb hK hP 2 1 rfl rfl in67 d_Model_add_67 ?_
        refine lv_topi (fun v67 e67 => ?_)
        have e67 : v67 = fe ((((513 * zyy) + zxx) + 1)).toNat := by rw [e67, vi_cl h66]
        have h67 : v67.toInt = cI D 0 0 (zxx + 1) zyy := by rw [e67, ← j2 (zxx + 1) zyy (by omega) (by omega) (by omega) (by omega)]; congr 2; omega
        have b67 := cI_nn D 0 0 (zxx + 1) zyy
        have c67 := cI_le D 0 0 (w := zxx + 1) (h := zyy) (by omega) (by omega)
        have m67 := mul_b (a := zxx + 1) (b := zyy) (n := 512) (by omega) (by omega) (by omega) (by omega)
        refine lv_iload_n hx hb d_Model_add_68 rfl (lv_at hl 0 rfl) ?_
        refine lv_iadd hx hb d_Model_add_69 ?_
        refine lv_topi (fun v69 e69 => ?_)
        have h69 : v69.toInt = cI D 0 0 (zxx + 1) zyy + (zrw9 + 1) := by rw [e69]; exact ti_add h67 h37 (by omega) (by omega)
        have sv : v69.toInt = cI D 0 0 (zxx + 1) (zyy + 1) := by rw [h69, cI_step D _ (by omega), ← rs]
        have in70 : vp_in v53 263169 := vi_in h53 (by omega) (by omega)
        refine va_iast hx hb hK hP hD hS 2 1 rfl rfl in70 d_Model_add_70 (fun H70 locs hP hD hS => ?_)
        obtain ⟨f70, ef70⟩ : ∃ g, g = upd fe (v53).toNatClampNeg v69 := ⟨_, rfl⟩
        have hP : va_P (dC, dI) vwCl [(mo, .inr (5, [.int mth, .int mw, .int mh, .ref ad, .ref asu, .ref aru, .int mro, .ref ast, .int msd, .ref afo, .int mmn])), (ad, .inl (kD, 262144, .inl fd)), (asu, .inl (kU, 263169, .inl f70))] H70 := by rw [ef70]; exact hP
        have hD : va_D A [(mo, .inr (5, [.int mth, .int mw, .int mh, .ref ad, .ref asu, .ref aru, .int mro, .ref ast, .int msd, .ref afo, .int mmn])), (ad, .inl (kD, 262144, .inl fd)), (asu, .inl (kU, 263169, .inl f70))] := by rw [ef70]; exact hD
        have ef70 : f70 = upd fe ((((513 * (zyy + 1)) + zxx) + 1)).toNat v69 := by rw [ef70, vi_cl h53]
        obtain ⟨v71, e71⟩ : ∃ y : Int32, y = xx + 1 := ⟨_, rfl⟩
        have h71 : v71.toInt = zxx + 1 := by rw [e71]; exact ti_add hxx (ti_k (by decide)) (by omega) (by omega)
        refine lv_iinc (v := v71) (lv' := [(3, .int v71), (2, .int v37), (0, .ref mo), (1, .int yy)]) hx hb d_Model_add_71 hl (k := 3) rfl (by rw [e71]; rfl) (by decide) rfl (fun ls hl => ?_)
        refine lv_goto (tgt := 14) hx hb d_Model_add_74 (by decide) ?_
        exact ih14 _ (by omega) _ _ _ ⟨v37, (zrw9 + 1), v71, (zxx + 1), f70, ls, rfl, lv_sub hl [2, 3, 1, 0] rfl, rfl, h37, h71, by omega, by rw [ef70]; exact sum_keep j2 hW2 (by omega) (by omega), by rw [ef70]; exact sum_z0 j3 (by omega) (by omega) (by omega), rs, by rw [ef70]; exact sum_row j5 (by omega) (by omega) sv, hP, hD, hS⟩

set_option maxHeartbeats 4000000 in
set_option maxRecDepth 100000 in
theorem m_enter (l : Launch) (dC : Nat → ClassId) (dI : Nat → Nat → Nat) (sz : Nat) (mo ad asu aru ast afo : Nat) (mth mw mh mro msd mmn : Int32) (SD : Int) (hsd : msd.toInt = SD) (s0 : 0 ≤ SD) (s1 : SD < 300) (kT : ClassId) (ft : Nat → Int32) (a1 a2 a3 a4 a5 a6 : Int32) : Met l y_Model_enter (.code y_Model_enter b_Model_enter 7 none :: allw) ({ frames := 0, cells := 0, slots := 0, locals := 0 }) (va_Pc [.ref mo, .int a1, .int a2, .int a3, .int a4, .int a5, .int a6] (rw_B (dC, dI) vwCl [(mo, .inr (5, [.int mth, .int mw, .int mh, .ref ad, .ref asu, .ref aru, .int mro, .ref ast, .int msd, .ref afo, .int mmn])), (ast, .inl (kT, 1800, .inl ft))] [(kT, .int)] sz)) (va_Qv (fun (u : Int32 × (Nat → Int32)) => u.1.toInt = SD + 1 ∧ entD SD a1 a2 a3 a4 a5 a6 ft u.2) (fun u t => rw_E (dC, dI) vwCl [(mo, .inr (5, [.int mth, .int mw, .int mh, .ref ad, .ref asu, .ref aru, .int mro, .ref ast, .int u.1, .ref afo, .int mmn])), (ast, .inl (kT, 1800, .inl u.2))] [(kT, .int)] (va_A [(mo, .inr (5, [.int mth, .int mw, .int mh, .ref ad, .ref asu, .ref aru, .int mro, .ref ast, .int msd, .ref afo, .int mmn])), (ast, .inl (kT, 1800, .inl ft))] sz) t) (va_A [(mo, .inr (5, [.int mth, .int mw, .int mh, .ref ad, .ref asu, .ref aru, .int mro, .ref ast, .int msd, .ref afo, .int mmn])), (ast, .inl (kT, 1800, .inl ft))] sz)) 0 0 (va_A [(mo, .inr (5, [.int mth, .int mw, .int mh, .ref ad, .ref asu, .ref aru, .int mro, .ref ast, .int msd, .ref afo, .int mmn])), (ast, .inl (kT, 1800, .inl ft))] sz) := by
  refine Met.ofW (cc := b_Model_enter) (maxL := 7) (ret := none) (by decide) rfl ?_
  intro p e s m args below meth c s₁ B hml hv
  obtain ⟨rfl, hsz, hP, hK, hD0⟩ := hv
  have hx := B.exec
  have hb := B.bytes
  have hr := B.returns
  have hts : ∀ w ∈ allw, w.before _ s = true := fun w h => atoms_spec (ws := .code y_Model_enter b_Model_enter 7 none :: allw) B.pre w (List.mem_cons_of_mem _ h)
  have hown : s.vm.findClass R_Model = some m.cls := findClass_of_methodNamed B.named
  have hlocks := B.notSynchronized
  subst hsz
  have hD := hD0.self (sz := s.heap.size)
  generalize hAe : va_A [(mo, .inr (5, [.int mth, .int mw, .int mh, .ref ad, .ref asu, .ref aru, .int mro, .ref ast, .int msd, .ref afo, .int mmn])), (ast, .inl (kT, 1800, .inl ft))] s.heap.size = A at hD ⊢
  have hA : ∀ q : Nat, s.heap.size ≤ q → A q := fun q h => by rw [← hAe]; exact Or.inr h
  have hS : va_S A s.heap s.heap [] := va_S.rf
  have hP : va_P (dC, dI) vwCl [(mo, .inr (5, [.int mth, .int mw, .int mh, .ref ad, .ref asu, .ref aru, .int mro, .ref ast, .int msd, .ref afo, .int mmn])), (ast, .inl (kT, 1800, .inl ft))] s.heap := hP
  have hl := lv_entry ([.ref mo, .int a1, .int a2, .int a3, .int a4, .int a5, .int a6]) (n := 7) (Nat.le_of_ble_eq_true rfl)
  rw [lg_entry_eq]
  generalize (lg_sl ([.ref mo, .int a1, .int a2, .int a3, .int a4, .int a5, .int a6]) ++ List.replicate (7 - (lg_sl ([.ref mo, .int a1, .int a2, .int a3, .int a4, .int a5, .int a6])).length) Slot.unset).toArray = ls at hl ⊢
  have hl : lv_has ls 7 [(0, .ref mo), (1, .int a1), (2, .int a2), (3, .int a3), (4, .int a4), (5, .int a5), (6, .int a6)] := hl
  refine lv_aload_n hx hb d_Model_enter_0 rfl (lv_at hl 0 rfl) ?_
  refine va_get (D := (dC, dI)) (ci := 5) (v := .ref ast) (C := R_Model) (T := T_Model) (N := 11) hx hb hts i_Model hown hK hP 0 rfl rfl 7 (by decide) (hts _ wd_572) (fun _ h9 => h9) rfl d_Model_enter_1 ?_
  refine lv_bipush (v := 6) hx hb d_Model_enter_4 (by decide) ?_
  refine lv_aload_n hx hb d_Model_enter_6 rfl (lv_at hl 0 rfl) ?_
  refine va_get (D := (dC, dI)) (ci := 5) (v := .int msd) (C := R_Model) (T := T_Model) (N := 11) hx hb hts i_Model hown hK hP 0 rfl rfl 8 (by decide) (hts _ wd_573) (fun _ h9 => h9) rfl d_Model_enter_7 ?_
  refine lv_imul hx hb d_Model_enter_10 ?_
  refine lv_topi (fun v10 e10 => ?_)
  have h10 : v10.toInt = 6 * SD := by rw [e10]; exact ti_mul (ti_k (by decide)) hsd (by omega) (by omega)
  refine lv_iload_n hx hb d_Model_enter_11 rfl (lv_at hl 1 rfl) ?_
  have in12 : vp_in v10 1800 := vi_in h10 (by omega) (by omega)
  refine va_iast hx hb hK hP hD hS 1 0 rfl rfl in12 d_Model_enter_12 (fun H12 locs hP hD hS => ?_)
  obtain ⟨f12, ef12⟩ : ∃ g, g = upd ft (v10).toNatClampNeg a1 := ⟨_, rfl⟩
  have hP : va_P (dC, dI) vwCl [(mo, .inr (5, [.int mth, .int mw, .int mh, .ref ad, .ref asu, .ref aru, .int mro, .ref ast, .int msd, .ref afo, .int mmn])), (ast, .inl (kT, 1800, .inl f12))] H12 := by rw [ef12]; exact hP
  have hD : va_D A [(mo, .inr (5, [.int mth, .int mw, .int mh, .ref ad, .ref asu, .ref aru, .int mro, .ref ast, .int msd, .ref afo, .int mmn])), (ast, .inl (kT, 1800, .inl f12))] := by rw [ef12]; exact hD
  have ef12 : f12 = upd ft ((6 * SD)).toNat a1 := by rw [ef12, vi_cl h10]
  refine lv_aload_n hx hb d_Model_enter_13 rfl (lv_at hl 0 rfl) ?_
  refine va_get (D := (dC, dI)) (ci := 5) (v := .ref ast) (C := R_Model) (T := T_Model) (N := 11) hx hb hts i_Model hown hK hP 0 rfl rfl 7 (by decide) (hts _ wd_572) (fun _ h9 => h9) rfl d_Model_enter_14 ?_
  refine lv_bipush (v := 6) hx hb d_Model_enter_17 (by decide) ?_
  refine lv_aload_n hx hb d_Model_enter_19 rfl (lv_at hl 0 rfl) ?_
  refine va_get (D := (dC, dI)) (ci := 5) (v := .int msd) (C := R_Model) (T := T_Model) (N := 11) hx hb hts i_Model hown hK hP 0 rfl rfl 8 (by decide) (hts _ wd_573) (fun _ h9 => h9) rfl d_Model_enter_20 ?_
  refine lv_imul hx hb d_Model_enter_23 ?_
  refine lv_topi (fun v23 e23 => ?_)
  have h23 : v23.toInt = 6 * SD := by rw [e23]; exact ti_mul (ti_k (by decide)) hsd (by omega) (by omega)
  refine lv_iconst (v := 1) hx hb d_Model_enter_24 (by decide) ?_
  refine lv_iadd hx hb d_Model_enter_25 ?_
  refine lv_topi (fun v25 e25 => ?_)
  have h25 : v25.toInt = (6 * SD) + 1 := by rw [e25]; exact ti_add h23 (ti_k (by decide)) (by omega) (by omega)
  refine lv_iload_n hx hb d_Model_enter_26 rfl (lv_at hl 2 rfl) ?_
  have in27 : vp_in v25 1800 := vi_in h25 (by omega) (by omega)
  refine va_iast hx hb hK hP hD hS 1 0 rfl rfl in27 d_Model_enter_27 (fun H27 locs hP hD hS => ?_)
  obtain ⟨f27, ef27⟩ : ∃ g, g = upd f12 (v25).toNatClampNeg a2 := ⟨_, rfl⟩
  have hP : va_P (dC, dI) vwCl [(mo, .inr (5, [.int mth, .int mw, .int mh, .ref ad, .ref asu, .ref aru, .int mro, .ref ast, .int msd, .ref afo, .int mmn])), (ast, .inl (kT, 1800, .inl f27))] H27 := by rw [ef27]; exact hP
  have hD : va_D A [(mo, .inr (5, [.int mth, .int mw, .int mh, .ref ad, .ref asu, .ref aru, .int mro, .ref ast, .int msd, .ref afo, .int mmn])), (ast, .inl (kT, 1800, .inl f27))] := by rw [ef27]; exact hD
  have ef27 : f27 = upd f12 (((6 * SD) + 1)).toNat a2 := by rw [ef27, vi_cl h25]
  refine lv_aload_n hx hb d_Model_enter_28 rfl (lv_at hl 0 rfl) ?_
  refine va_get (D := (dC, dI)) (ci := 5) (v := .ref ast) (C := R_Model) (T := T_Model) (N := 11) hx hb hts i_Model hown hK hP 0 rfl rfl 7 (by decide) (hts _ wd_572) (fun _ h9 => h9) rfl d_Model_enter_29 ?_
  refine lv_bipush (v := 6) hx hb d_Model_enter_32 (by decide) ?_
  refine lv_aload_n hx hb d_Model_enter_34 rfl (lv_at hl 0 rfl) ?_
  refine va_get (D := (dC, dI)) (ci := 5) (v := .int msd) (C := R_Model) (T := T_Model) (N := 11) hx hb hts i_Model hown hK hP 0 rfl rfl 8 (by decide) (hts _ wd_573) (fun _ h9 => h9) rfl d_Model_enter_35 ?_
  refine lv_imul hx hb d_Model_enter_38 ?_
  refine lv_topi (fun v38 e38 => ?_)
  have h38 : v38.toInt = 6 * SD := by rw [e38]; exact ti_mul (ti_k (by decide)) hsd (by omega) (by omega)
  refine lv_iconst (v := 2) hx hb d_Model_enter_39 (by decide) ?_
  refine lv_iadd hx hb d_Model_enter_40 ?_
  refine lv_topi (fun v40 e40 => ?_)
  have h40 : v40.toInt = (6 * SD) + 2 := by rw [e40]; exact ti_add h38 (ti_k (by decide)) (by omega) (by omega)
  refine lv_iload_n hx hb d_Model_enter_41 rfl (lv_at hl 3 rfl) ?_
  have in42 : vp_in v40 1800 := vi_in h40 (by omega) (by omega)
  refine va_iast hx hb hK hP hD hS 1 0 rfl rfl in42 d_Model_enter_42 (fun H42 locs hP hD hS => ?_)
  obtain ⟨f42, ef42⟩ : ∃ g, g = upd f27 (v40).toNatClampNeg a3 := ⟨_, rfl⟩
  have hP : va_P (dC, dI) vwCl [(mo, .inr (5, [.int mth, .int mw, .int mh, .ref ad, .ref asu, .ref aru, .int mro, .ref ast, .int msd, .ref afo, .int mmn])), (ast, .inl (kT, 1800, .inl f42))] H42 := by rw [ef42]; exact hP
  have hD : va_D A [(mo, .inr (5, [.int mth, .int mw, .int mh, .ref ad, .ref asu, .ref aru, .int mro, .ref ast, .int msd, .ref afo, .int mmn])), (ast, .inl (kT, 1800, .inl f42))] := by rw [ef42]; exact hD
  have ef42 : f42 = upd f27 (((6 * SD) + 2)).toNat a3 := by rw [ef42, vi_cl h40]
  refine lv_aload_n hx hb d_Model_enter_43 rfl (lv_at hl 0 rfl) ?_
  refine va_get (D := (dC, dI)) (ci := 5) (v := .ref ast) (C := R_Model) (T := T_Model) (N := 11) hx hb hts i_Model hown hK hP 0 rfl rfl 7 (by decide) (hts _ wd_572) (fun _ h9 => h9) rfl d_Model_enter_44 ?_
  refine lv_bipush (v := 6) hx hb d_Model_enter_47 (by decide) ?_
  refine lv_aload_n hx hb d_Model_enter_49 rfl (lv_at hl 0 rfl) ?_
  refine va_get (D := (dC, dI)) (ci := 5) (v := .int msd) (C := R_Model) (T := T_Model) (N := 11) hx hb hts i_Model hown hK hP 0 rfl rfl 8 (by decide) (hts _ wd_573) (fun _ h9 => h9) rfl d_Model_enter_50 ?_
  refine lv_imul hx hb d_Model_enter_53 ?_
  refine lv_topi (fun v53 e53 => ?_)
  have h53 : v53.toInt = 6 * SD := by rw [e53]; exact ti_mul (ti_k (by decide)) hsd (by omega) (by omega)
  refine lv_iconst (v := 3) hx hb d_Model_enter_54 (by decide) ?_
  refine lv_iadd hx hb d_Model_enter_55 ?_
  refine lv_topi (fun v55 e55 => ?_)
  have h55 : v55.toInt = (6 * SD) + 3 := by rw [e55]; exact ti_add h53 (ti_k (by decide)) (by omega) (by omega)
  refine lv_iload hx hb d_Model_enter_56 (lv_at hl 4 rfl) ?_
  have in58 : vp_in v55 1800 := vi_in h55 (by omega) (by omega)
  refine va_iast hx hb hK hP hD hS 1 0 rfl rfl in58 d_Model_enter_58 (fun H58 locs hP hD hS => ?_)
  obtain ⟨f58, ef58⟩ : ∃ g, g = upd f42 (v55).toNatClampNeg a4 := ⟨_, rfl⟩
  have hP : va_P (dC, dI) vwCl [(mo, .inr (5, [.int mth, .int mw, .int mh, .ref ad, .ref asu, .ref aru, .int mro, .ref ast, .int msd, .ref afo, .int mmn])), (ast, .inl (kT, 1800, .inl f58))] H58 := by rw [ef58]; exact hP
  have hD : va_D A [(mo, .inr (5, [.int mth, .int mw, .int mh, .ref ad, .ref asu, .ref aru, .int mro, .ref ast, .int msd, .ref afo, .int mmn])), (ast, .inl (kT, 1800, .inl f58))] := by rw [ef58]; exact hD
  have ef58 : f58 = upd f42 (((6 * SD) + 3)).toNat a4 := by rw [ef58, vi_cl h55]
  refine lv_aload_n hx hb d_Model_enter_59 rfl (lv_at hl 0 rfl) ?_
  refine va_get (D := (dC, dI)) (ci := 5) (v := .ref ast) (C := R_Model) (T := T_Model) (N := 11) hx hb hts i_Model hown hK hP 0 rfl rfl 7 (by decide) (hts _ wd_572) (fun _ h9 => h9) rfl d_Model_enter_60 ?_
  refine lv_bipush (v := 6) hx hb d_Model_enter_63 (by decide) ?_
  refine lv_aload_n hx hb d_Model_enter_65 rfl (lv_at hl 0 rfl) ?_
  refine va_get (D := (dC, dI)) (ci := 5) (v := .int msd) (C := R_Model) (T := T_Model) (N := 11) hx hb hts i_Model hown hK hP 0 rfl rfl 8 (by decide) (hts _ wd_573) (fun _ h9 => h9) rfl d_Model_enter_66 ?_
  refine lv_imul hx hb d_Model_enter_69 ?_
  refine lv_topi (fun v69 e69 => ?_)
  have h69 : v69.toInt = 6 * SD := by rw [e69]; exact ti_mul (ti_k (by decide)) hsd (by omega) (by omega)
  refine lv_iconst (v := 4) hx hb d_Model_enter_70 (by decide) ?_
  refine lv_iadd hx hb d_Model_enter_71 ?_
  refine lv_topi (fun v71 e71 => ?_)
  have h71 : v71.toInt = (6 * SD) + 4 := by rw [e71]; exact ti_add h69 (ti_k (by decide)) (by omega) (by omega)
  refine lv_iload hx hb d_Model_enter_72 (lv_at hl 5 rfl) ?_
  have in74 : vp_in v71 1800 := vi_in h71 (by omega) (by omega)
  refine va_iast hx hb hK hP hD hS 1 0 rfl rfl in74 d_Model_enter_74 (fun H74 locs hP hD hS => ?_)
  obtain ⟨f74, ef74⟩ : ∃ g, g = upd f58 (v71).toNatClampNeg a5 := ⟨_, rfl⟩
  have hP : va_P (dC, dI) vwCl [(mo, .inr (5, [.int mth, .int mw, .int mh, .ref ad, .ref asu, .ref aru, .int mro, .ref ast, .int msd, .ref afo, .int mmn])), (ast, .inl (kT, 1800, .inl f74))] H74 := by rw [ef74]; exact hP
  have hD : va_D A [(mo, .inr (5, [.int mth, .int mw, .int mh, .ref ad, .ref asu, .ref aru, .int mro, .ref ast, .int msd, .ref afo, .int mmn])), (ast, .inl (kT, 1800, .inl f74))] := by rw [ef74]; exact hD
  have ef74 : f74 = upd f58 (((6 * SD) + 4)).toNat a5 := by rw [ef74, vi_cl h71]
  refine lv_aload_n hx hb d_Model_enter_75 rfl (lv_at hl 0 rfl) ?_
  refine va_get (D := (dC, dI)) (ci := 5) (v := .ref ast) (C := R_Model) (T := T_Model) (N := 11) hx hb hts i_Model hown hK hP 0 rfl rfl 7 (by decide) (hts _ wd_572) (fun _ h9 => h9) rfl d_Model_enter_76 ?_
  refine lv_bipush (v := 6) hx hb d_Model_enter_79 (by decide) ?_
  refine lv_aload_n hx hb d_Model_enter_81 rfl (lv_at hl 0 rfl) ?_
  refine va_get (D := (dC, dI)) (ci := 5) (v := .int msd) (C := R_Model) (T := T_Model) (N := 11) hx hb hts i_Model hown hK hP 0 rfl rfl 8 (by decide) (hts _ wd_573) (fun _ h9 => h9) rfl d_Model_enter_82 ?_
  refine lv_imul hx hb d_Model_enter_85 ?_
  refine lv_topi (fun v85 e85 => ?_)
  have h85 : v85.toInt = 6 * SD := by rw [e85]; exact ti_mul (ti_k (by decide)) hsd (by omega) (by omega)
  refine lv_iconst (v := 5) hx hb d_Model_enter_86 (by decide) ?_
  refine lv_iadd hx hb d_Model_enter_87 ?_
  refine lv_topi (fun v87 e87 => ?_)
  have h87 : v87.toInt = (6 * SD) + 5 := by rw [e87]; exact ti_add h85 (ti_k (by decide)) (by omega) (by omega)
  refine lv_iload hx hb d_Model_enter_88 (lv_at hl 6 rfl) ?_
  have in90 : vp_in v87 1800 := vi_in h87 (by omega) (by omega)
  refine va_iast hx hb hK hP hD hS 1 0 rfl rfl in90 d_Model_enter_90 (fun H90 locs hP hD hS => ?_)
  obtain ⟨f90, ef90⟩ : ∃ g, g = upd f74 (v87).toNatClampNeg a6 := ⟨_, rfl⟩
  have hP : va_P (dC, dI) vwCl [(mo, .inr (5, [.int mth, .int mw, .int mh, .ref ad, .ref asu, .ref aru, .int mro, .ref ast, .int msd, .ref afo, .int mmn])), (ast, .inl (kT, 1800, .inl f90))] H90 := by rw [ef90]; exact hP
  have hD : va_D A [(mo, .inr (5, [.int mth, .int mw, .int mh, .ref ad, .ref asu, .ref aru, .int mro, .ref ast, .int msd, .ref afo, .int mmn])), (ast, .inl (kT, 1800, .inl f90))] := by rw [ef90]; exact hD
  have ef90 : f90 = upd f74 (((6 * SD) + 5)).toNat a6 := by rw [ef90, vi_cl h87]
  refine lv_aload_n hx hb d_Model_enter_91 rfl (lv_at hl 0 rfl) ?_
  refine lv_dup hx hb d_Model_enter_92 rfl ?_
  refine va_get (D := (dC, dI)) (ci := 5) (v := .int msd) (C := R_Model) (T := T_Model) (N := 11) hx hb hts i_Model hown hK hP 0 rfl rfl 8 (by decide) (hts _ wd_573) (fun _ h9 => h9) rfl d_Model_enter_93 ?_
  refine lv_iconst (v := 1) hx hb d_Model_enter_96 (by decide) ?_
  refine lv_iadd hx hb d_Model_enter_97 ?_
  refine lv_topi (fun v97 e97 => ?_)
  have h97 : v97.toInt = SD + 1 := by rw [e97]; exact ti_add hsd (ti_k (by decide)) (by omega) (by omega)
  refine va_put (D := (dC, dI)) (ci := 5) (v := .int v97) (ty := .int) (C := R_Model) (T := T_Model) (N := 11) hx hb hts i_Model t_Model t_Model_ok n_Model hown hK hP hD hS 0 rfl rfl 8 (by decide) (hts _ wd_573) (fun _ h9 => h9) rfl (by decide +kernel) rfl rfl (Nat.le_of_ble_eq_true rfl) d_Model_enter_98 (fun H98 locs hP hD hS => ?_)
  have hP : va_P (dC, dI) vwCl [(mo, .inr (5, [.int mth, .int mw, .int mh, .ref ad, .ref asu, .ref aru, .int mro, .ref ast, .int v97, .ref afo, .int mmn])), (ast, .inl (kT, 1800, .inl f90))] H98 := hP
  have hD : va_D A [(mo, .inr (5, [.int mth, .int mw, .int mh, .ref ad, .ref asu, .ref aru, .int mro, .ref ast, .int v97, .ref afo, .int mmn])), (ast, .inl (kT, 1800, .inl f90))] := hD
  have hpost : v97.toInt = SD + 1 ∧ entD SD a1 a2 a3 a4 a5 a6 ft f90 := by
    refine ⟨h97, fun i hi => ?_, ?_, ?_, ?_, ?_, ?_, ?_⟩
    · rw [ef90, pk_un (by omega), ef74, pk_un (by omega), ef58, pk_un (by omega), ef42, pk_un (by omega), ef27, pk_un (by omega), ef12, pk_un (by omega)]
    · rw [ef90, pk_un (by omega), ef74, pk_un (by omega), ef58, pk_un (by omega), ef42, pk_un (by omega), ef27, pk_un (by omega), ef12, pk_us]
    · rw [ef90, pk_un (by omega), ef74, pk_un (by omega), ef58, pk_un (by omega), ef42, pk_un (by omega), ef27, pk_us]
    · rw [ef90, pk_un (by omega), ef74, pk_un (by omega), ef58, pk_un (by omega), ef42, pk_us]
    · rw [ef90, pk_un (by omega), ef74, pk_un (by omega), ef58, pk_us]
    · rw [ef90, pk_un (by omega), ef74, pk_us]
    · rw [ef90, pk_us]
  have hP9 := hP.sub (ws' := [(mo, .inr (5, [.int mth, .int mw, .int mh, .ref ad, .ref asu, .ref aru, .int mro, .ref ast, .int v97, .ref afo, .int mmn])), (ast, .inl (kT, 1800, .inl f90))]) [0, 1] rfl
  have hD9 := hD.sub (ws' := [(mo, .inr (5, [.int mth, .int mw, .int mh, .ref ad, .ref asu, .ref aru, .int mro, .ref ast, .int v97, .ref afo, .int mmn])), (ast, .inl (kT, 1800, .inl f90))]) [0, 1] (by decide) rfl
  have hK9 := hK.sub (tys' := [(kT, .int)]) [0] rfl
  exact W.vret hx hb hr (fun t ht hW => ⟨⟨(v97, f90), rfl, hpost, by rw [ht]; exact hP9, va_K.moved hW.alike hK9, hD9⟩, hS.F ht⟩) hS.2.2 d_Model_enter_101

set_option maxHeartbeats 4000000 in
set_option maxRecDepth 100000 in
theorem m_stood (l : Launch) (dC : Nat → ClassId) (dI : Nat → Nat → Nat) (sz : Nat) (mo ad asu aru ast afo : Nat) (mth mw mh mro msd mmn : Int32) : Met l y_Model_stood (.code y_Model_stood b_Model_stood 1 (some .int) :: allw) ({ frames := 0, cells := 0, slots := 0, locals := 0 }) (va_Pc [.ref mo] (rw_B (dC, dI) vwCl [(mo, .inr (5, [.int mth, .int mw, .int mh, .ref ad, .ref asu, .ref aru, .int mro, .ref ast, .int msd, .ref afo, .int mmn]))] [] sz)) (va_Qi (fun (r : Int32) (u : Unit) => r = msd) (fun u t => rw_E (dC, dI) vwCl [(mo, .inr (5, [.int 0, .int mw, .int mh, .ref ad, .ref asu, .ref aru, .int mro, .ref ast, .int msd, .ref afo, .int mmn]))] [] (va_A [(mo, .inr (5, [.int mth, .int mw, .int mh, .ref ad, .ref asu, .ref aru, .int mro, .ref ast, .int msd, .ref afo, .int mmn]))] sz) t) (va_A [(mo, .inr (5, [.int mth, .int mw, .int mh, .ref ad, .ref asu, .ref aru, .int mro, .ref ast, .int msd, .ref afo, .int mmn]))] sz)) 0 0 (va_A [(mo, .inr (5, [.int mth, .int mw, .int mh, .ref ad, .ref asu, .ref aru, .int mro, .ref ast, .int msd, .ref afo, .int mmn]))] sz) := by
  refine Met.ofW (cc := b_Model_stood) (maxL := 1) (ret := (some .int)) (by decide) rfl ?_
  intro p e s m args below meth c s₁ B hml hv
  obtain ⟨rfl, hsz, hP, hK, hD0⟩ := hv
  have hx := B.exec
  have hb := B.bytes
  have hr := B.returns
  have hts : ∀ w ∈ allw, w.before _ s = true := fun w h => atoms_spec (ws := .code y_Model_stood b_Model_stood 1 (some .int) :: allw) B.pre w (List.mem_cons_of_mem _ h)
  have hown : s.vm.findClass R_Model = some m.cls := findClass_of_methodNamed B.named
  have hlocks := B.notSynchronized
  subst hsz
  have hD := hD0.self (sz := s.heap.size)
  generalize hAe : va_A [(mo, .inr (5, [.int mth, .int mw, .int mh, .ref ad, .ref asu, .ref aru, .int mro, .ref ast, .int msd, .ref afo, .int mmn]))] s.heap.size = A at hD ⊢
  have hA : ∀ q : Nat, s.heap.size ≤ q → A q := fun q h => by rw [← hAe]; exact Or.inr h
  have hS : va_S A s.heap s.heap [] := va_S.rf
  have hP : va_P (dC, dI) vwCl [(mo, .inr (5, [.int mth, .int mw, .int mh, .ref ad, .ref asu, .ref aru, .int mro, .ref ast, .int msd, .ref afo, .int mmn]))] s.heap := hP
  have hl := lv_entry ([.ref mo]) (n := 1) (Nat.le_of_ble_eq_true rfl)
  rw [lg_entry_eq]
  generalize (lg_sl ([.ref mo]) ++ List.replicate (1 - (lg_sl ([.ref mo])).length) Slot.unset).toArray = ls at hl ⊢
  have hl : lv_has ls 1 [(0, .ref mo)] := hl
  refine lv_aload_n hx hb d_Model_stood_0 rfl (lv_at hl 0 rfl) ?_
  refine lv_iconst (v := 0) hx hb d_Model_stood_1 (by decide) ?_
  refine va_put (D := (dC, dI)) (ci := 5) (v := .int 0) (ty := .int) (C := R_Model) (T := T_Model) (N := 11) hx hb hts i_Model t_Model t_Model_ok n_Model hown hK hP hD hS 0 rfl rfl 0 (by decide) (hts _ wd_565) (fun _ h9 => h9) rfl (by decide +kernel) rfl rfl (Nat.le_of_ble_eq_true rfl) d_Model_stood_2 (fun H2 locs hP hD hS => ?_)
  have hP : va_P (dC, dI) vwCl [(mo, .inr (5, [.int 0, .int mw, .int mh, .ref ad, .ref asu, .ref aru, .int mro, .ref ast, .int msd, .ref afo, .int mmn]))] H2 := hP
  have hD : va_D A [(mo, .inr (5, [.int 0, .int mw, .int mh, .ref ad, .ref asu, .ref aru, .int mro, .ref ast, .int msd, .ref afo, .int mmn]))] := hD
  refine lv_aload_n hx hb d_Model_stood_5 rfl (lv_at hl 0 rfl) ?_
  refine va_get (D := (dC, dI)) (ci := 5) (v := .int msd) (C := R_Model) (T := T_Model) (N := 11) hx hb hts i_Model hown hK hP 0 rfl rfl 8 (by decide) (hts _ wd_573) (fun _ h9 => h9) rfl d_Model_stood_6 ?_
  have hpost : msd = msd := by
    rfl
  have hP9 := hP.sub (ws' := [(mo, .inr (5, [.int 0, .int mw, .int mh, .ref ad, .ref asu, .ref aru, .int mro, .ref ast, .int msd, .ref afo, .int mmn]))]) [0] rfl
  have hD9 := hD.sub (ws' := [(mo, .inr (5, [.int 0, .int mw, .int mh, .ref ad, .ref asu, .ref aru, .int mro, .ref ast, .int msd, .ref afo, .int mmn]))]) [0] (by decide) rfl
  have hK9 := hK.sub (tys' := []) [] rfl
  exact W.iret (v := msd) hx hb hr (fun t ht hW => ⟨⟨msd, (), rfl, hpost, by rw [ht]; exact hP9, va_K.moved hW.alike hK9, hD9⟩, hS.F ht⟩) hS.2.2 d_Model_stood_9
