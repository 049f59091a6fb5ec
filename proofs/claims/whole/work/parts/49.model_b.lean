set_option maxHeartbeats 4000000 in
set_option maxRecDepth 100000 in
theorem m_dots (l : Launch) (dC : Nat → ClassId) (dI : Nat → Nat → Nat) (sz : Nat) (mo ad asu aru ast afo : Nat) (mth mw mh mro msd mmn : Int32) (Wd Ht : Int) (hmw : mw.toInt = Wd) (hmh : mh.toInt = Ht) (hW1 : 1 ≤ Wd) (hW2 : Wd ≤ 512) (hH1 : 1 ≤ Ht) (hH2 : Ht ≤ 512) (kD : ClassId) (fd : Nat → Int32) (D : Int → Int → Bool) (hfd : ∀ x y, 0 ≤ x → x < 512 → 0 ≤ y → y < 512 → fd (512 * y + x).toNat = zb (D x y)) (hsup : ∀ x y, D x y = true → 0 ≤ x ∧ x < Wd ∧ 0 ≤ y ∧ y < Ht) (a1 a2 : Int32) (x y : Int) (g1 : a1.toInt = x) (g2 : a2.toInt = y) : Met l y_Model_dots (.code y_Model_dots b_Model_dots 6 (some .long) :: allw) ({ frames := 1, cells := 0, slots := 0, locals := 24 }) (va_Pc [.ref mo, .int a1, .int a2] (rw_B (dC, dI) vwCl [(mo, .inr (5, [.int mth, .int mw, .int mh, .ref ad, .ref asu, .ref aru, .int mro, .ref ast, .int msd, .ref afo, .int mmn])), (ad, .inl (kD, 262144, .inl fd))] [(kD, .boolean)] sz)) (va_Ql (fun (r : Int64) (u : Unit) => ∀ i : Nat, i < 64 → lb r i = D (x + i) y) (fun u t => rw_E (dC, dI) vwCl [(mo, .inr (5, [.int 0, .int mw, .int mh, .ref ad, .ref asu, .ref aru, .int mro, .ref ast, .int msd, .ref afo, .int mmn])), (ad, .inl (kD, 262144, .inl fd))] [(kD, .boolean)] (va_A [(mo, .inr (5, [.int mth, .int mw, .int mh, .ref ad, .ref asu, .ref aru, .int mro, .ref ast, .int msd, .ref afo, .int mmn])), (ad, .inl (kD, 262144, .inl fd))] sz) t) (va_A [(mo, .inr (5, [.int mth, .int mw, .int mh, .ref ad, .ref asu, .ref aru, .int mro, .ref ast, .int msd, .ref afo, .int mmn])), (ad, .inl (kD, 262144, .inl fd))] sz)) 0 0 (va_A [(mo, .inr (5, [.int mth, .int mw, .int mh, .ref ad, .ref asu, .ref aru, .int mro, .ref ast, .int msd, .ref afo, .int mmn])), (ad, .inl (kD, 262144, .inl fd))] sz) := by
  refine Met.ofW (cc := b_Model_dots) (maxL := 6) (ret := (some .long)) (by decide) rfl ?_
  intro p e s m args below meth c s₁ B hml hv
  obtain ⟨rfl, hsz, hP, hK, hD0⟩ := hv
  have hx := B.exec
  have hb := B.bytes
  have hr := B.returns
  have hts : ∀ w ∈ allw, w.before _ s = true := fun w h => atoms_spec (ws := .code y_Model_dots b_Model_dots 6 (some .long) :: allw) B.pre w (List.mem_cons_of_mem _ h)
  have hown : s.vm.findClass R_Model = some m.cls := findClass_of_methodNamed B.named
  have hlocks := B.notSynchronized
  subst hsz
  have hD := hD0.self (sz := s.heap.size)
  generalize hAe : va_A [(mo, .inr (5, [.int mth, .int mw, .int mh, .ref ad, .ref asu, .ref aru, .int mro, .ref ast, .int msd, .ref afo, .int mmn])), (ad, .inl (kD, 262144, .inl fd))] s.heap.size = A at hD ⊢
  have hA : ∀ q : Nat, s.heap.size ≤ q → A q := fun q h => by rw [← hAe]; exact Or.inr h
  have hS : va_S A s.heap s.heap [] := va_S.rf
  have hP : va_P (dC, dI) vwCl [(mo, .inr (5, [.int mth, .int mw, .int mh, .ref ad, .ref asu, .ref aru, .int mro, .ref ast, .int msd, .ref afo, .int mmn])), (ad, .inl (kD, 262144, .inl fd))] s.heap := hP
  have hl := lv_entry ([.ref mo, .int a1, .int a2]) (n := 6) (Nat.le_of_ble_eq_true rfl)
  rw [lg_entry_eq]
  generalize (lg_sl ([.ref mo, .int a1, .int a2]) ++ List.replicate (6 - (lg_sl ([.ref mo, .int a1, .int a2])).length) Slot.unset).toArray = ls at hl ⊢
  have hl : lv_has ls 6 [(0, .ref mo), (1, .int a1), (2, .int a2)] := hl
  have q1 := ti_rng a1
  have q2 := ti_rng a2
  refine lv_aload_n hx hb d_Model_dots_0 rfl (lv_at hl 0 rfl) ?_
  refine lv_iconst (v := 0) hx hb d_Model_dots_1 (by decide) ?_
  refine va_put (D := (dC, dI)) (ci := 5) (v := .int 0) (ty := .int) (C := R_Model) (T := T_Model) (N := 11) hx hb hts i_Model t_Model t_Model_ok n_Model hown hK hP hD hS 0 rfl rfl 0 (by decide) (hts _ wd_565) (fun _ h9 => h9) rfl (by decide +kernel) rfl rfl (Nat.le_of_ble_eq_true rfl) d_Model_dots_2 (fun H2 locs hP hD hS => ?_)
  have hP : va_P (dC, dI) vwCl [(mo, .inr (5, [.int 0, .int mw, .int mh, .ref ad, .ref asu, .ref aru, .int mro, .ref ast, .int msd, .ref afo, .int mmn])), (ad, .inl (kD, 262144, .inl fd))] H2 := hP
  have hD : va_D A [(mo, .inr (5, [.int 0, .int mw, .int mh, .ref ad, .ref asu, .ref aru, .int mro, .ref ast, .int msd, .ref afo, .int mmn])), (ad, .inl (kD, 262144, .inl fd))] := hD
  refine lv_lconst (v := 0) hx hb d_Model_dots_5 (by decide) ?_
  refine lv_lstore_n (lv' := [(3, .long 0), (0, .ref mo), (1, .int a1), (2, .int a2)]) hx hb d_Model_dots_6 rfl hl (by decide) rfl (fun ls hl => ?_)
  refine lv_iconst (v := 0) hx hb d_Model_dots_7 (by decide) ?_
  refine lv_istore (lv' := [(5, .int 0), (3, .long 0), (0, .ref mo), (1, .int a1), (2, .int a2)]) hx hb d_Model_dots_8 hl (by decide) rfl (fun ls hl => ?_)
  refine w_loop (I := fun n H' locs' g' => ∃ (bv : Int64) (kk : Int32) (zkk : Int) (ls : Array Slot), g' = F0 m 10 ls [] ∧ lv_has ls 6 [(0, .ref mo), (1, .int a1), (2, .int a2), (3, .long bv), (5, .int kk)] ∧ n = (64 - zkk).toNat ∧ kk.toInt = zkk ∧ (0 ≤ zkk ∧ zkk ≤ 64) ∧ (∀ i : Nat, i < 64 → lb bv i = (decide ((i : Int) < zkk) && D (x + i) y)) ∧ va_P (dC, dI) vwCl [(mo, .inr (5, [.int 0, .int mw, .int mh, .ref ad, .ref asu, .ref aru, .int mro, .ref ast, .int msd, .ref afo, .int mmn])), (ad, .inl (kD, 262144, .inl fd))] H' ∧ va_D A [(mo, .inr (5, [.int 0, .int mw, .int mh, .ref ad, .ref asu, .ref aru, .int mro, .ref ast, .int msd, .ref afo, .int mmn])), (ad, .inl (kD, 262144, .inl fd))] ∧ va_S A s.heap H' locs') ?_ ⟨0, 0, 0, ls, rfl, lv_sub hl [2, 3, 4, 1, 0] rfl, rfl, (ti_k (by decide)), by omega, fun i _ => by rw [lb_0, decide_eq_false (by omega), Bool.false_and], hP, hD, hS⟩
  intro n10 H10 locs g' hI ih10
  obtain ⟨bv, kk, zkk, ls, rfl, hl, hn, hkk, i1, i2, hP, hD, hS⟩ := hI
  refine lv_iload hx hb d_Model_dots_10 (lv_at hl 4 rfl) ?_
  refine lv_bipush (v := 64) hx hb d_Model_dots_12 (by decide) ?_
  refine lv_icmp_ge (tgt := 57) hx hb d_Model_dots_14 (by decide) (fun c14 => ?_) (fun c14 => ?_)
  · skip
    have c14 : 64 ≤ zkk := (ti_le (ti_k (by decide)) hkk).mp c14
    refine lv_lload_n hx hb d_Model_dots_57 rfl (lv_at hl 3 rfl) ?_
    have hpost : ∀ i : Nat, i < 64 → lb bv i = D (x + i) y := by
      intro i hi
      rw [i2 i hi, decide_eq_true (by omega), Bool.true_and]
    have hP9 := hP.sub (ws' := [(mo, .inr (5, [.int 0, .int mw, .int mh, .ref ad, .ref asu, .ref aru, .int mro, .ref ast, .int msd, .ref afo, .int mmn])), (ad, .inl (kD, 262144, .inl fd))]) [0, 1] rfl
    have hD9 := hD.sub (ws' := [(mo, .inr (5, [.int 0, .int mw, .int mh, .ref ad, .ref asu, .ref aru, .int mro, .ref ast, .int msd, .ref afo, .int mmn])), (ad, .inl (kD, 262144, .inl fd))]) [0, 1] (by decide) rfl
    have hK9 := hK.sub (tys' := [(kD, .boolean)]) [0] rfl
    exact W.lret (v := bv) hx hb hr (fun t ht hW => ⟨⟨bv, (), rfl, hpost, by rw [ht]; exact hP9, va_K.moved hW.alike hK9, hD9⟩, hS.F ht⟩) hS.2.2 d_Model_dots_58
  · skip
    have c14 : ¬ (64 ≤ zkk) := fun q => c14 ((ti_le (ti_k (by decide)) hkk).mpr q)
    refine lv_aload_n hx hb d_Model_dots_17 rfl (lv_at hl 0 rfl) ?_
    refine lv_iload_n hx hb d_Model_dots_18 rfl (lv_at hl 1 rfl) ?_
    refine lv_i2l hx hb d_Model_dots_19 rfl ?_
    refine lv_topl (fun v19 e19 => ?_)
    have h19 : v19.toInt = x := by rw [e19]; exact tl_i2l g1
    refine lv_iload hx hb d_Model_dots_20 (lv_at hl 4 rfl) ?_
    refine lv_i2l hx hb d_Model_dots_22 rfl ?_
    refine lv_topl (fun v22 e22 => ?_)
    have h22 : v22.toInt = zkk := by rw [e22]; exact tl_i2l hkk
    refine lv_ladd hx hb d_Model_dots_23 ?_
    refine lv_topl (fun v23 e23 => ?_)
    have h23 : v23.toInt = x + zkk := by rw [e23]; exact tl_add h19 h22 (by omega) (by omega)
    refine lv_iload_n hx hb d_Model_dots_24 rfl (lv_at hl 2 rfl) ?_
    refine lv_i2l hx hb d_Model_dots_25 rfl ?_
    refine lv_topl (fun v25 e25 => ?_)
    have h25 : v25.toInt = y := by rw [e25]; exact tl_i2l g2
    have hPc := hP.sub (ws' := [(mo, .inr (5, [.int 0, .int mw, .int mh, .ref ad, .ref asu, .ref aru, .int mro, .ref ast, .int msd, .ref afo, .int mmn]))]) [0] rfl
    have hKc := hK.sub (tys' := []) [] rfl
    refine va_calli (va_runV (As := [.long v23, .long v25]) (rest := []) ⟨hx, hb, hml, hown, hts⟩ (m_isOn l dC dI mo ad asu aru ast afo 0 mw mh mro msd mmn Wd Ht hmw hmh hW1 hW2 hH1 hH2 v23 v25 (x + zkk) y h23 h25) (aw_V 2 hts wd_616 wd_618 ws_30 wd_5 wd_619 rfl rfl (by decide +kernel) ⟨Nat.le_of_ble_eq_true rfl, Nat.le_of_ble_eq_true rfl⟩) ⟨ro_blind, va_recv hKc hPc (ci := 5) (q0 := 0) rfl rfl, ro_pre hPc hKc⟩ rfl rfl hl.1 rfl (lv_room (Nat.le_of_ble_eq_true rfl)) d_Model_dots_26 ⟨Nat.le_of_ble_eq_true rfl, Nat.le_of_ble_eq_true rfl⟩) hS (fun q _ h => h.elim) (fun q h => h.elim) (fun v26 _ t9 H26 locs ht hvm h26 hB hz1 hk1 hS => ?_)
    have hP := ro_keep hP hk1
    clear hPc hKc ht hvm hB hz1 hk1
    refine lv_if_eq (tgt := 51) hx hb d_Model_dots_29 (by decide) (fun c29 => ?_) (fun c29 => ?_)
    · skip
      have c29 : ¬ (0 ≤ (x + zkk) ∧ (x + zkk) < Wd ∧ 0 ≤ y ∧ y < Ht) := bi_z h26 c29
      obtain ⟨v51, e51⟩ : ∃ y : Int32, y = kk + 1 := ⟨_, rfl⟩
      have h51 : v51.toInt = zkk + 1 := by rw [e51]; exact ti_add hkk (ti_k (by decide)) (by omega) (by omega)
      refine lv_iinc (v := v51) (lv' := [(5, .int v51), (0, .ref mo), (1, .int a1), (2, .int a2), (3, .long bv)]) hx hb d_Model_dots_51 hl (k := 4) rfl (by rw [e51]; rfl) (by decide) rfl (fun ls hl => ?_)
      refine lv_goto (tgt := 10) hx hb d_Model_dots_54 (by decide) ?_
      exact ih10 _ (by omega) _ _ _ ⟨bv, v51, (zkk + 1), ls, rfl, lv_sub hl [1, 2, 3, 4, 0] rfl, rfl, h51, by omega, by first | exact dot_more i2 c41 (fun i hi => by rw [e49, lb_or, e48, lb_one hkk (by omega) (by omega) hi]) | exact dot_same i2 (bf c41) | exact dot_same i2 (D_f hsup (by omega)), hP, hD, hS⟩
    · skip
      have c29 : 0 ≤ (x + zkk) ∧ (x + zkk) < Wd ∧ 0 ≤ y ∧ y < Ht := bi_nz h26 c29
      refine lv_aload_n hx hb d_Model_dots_32 rfl (lv_at hl 0 rfl) ?_
      refine lv_iload_n hx hb d_Model_dots_33 rfl (lv_at hl 1 rfl) ?_
      refine lv_iload hx hb d_Model_dots_34 (lv_at hl 4 rfl) ?_
      refine lv_iadd hx hb d_Model_dots_36 ?_
      refine lv_topi (fun v36 e36 => ?_)
      have h36 : v36.toInt = x + zkk := by rw [e36]; exact ti_add g1 hkk (by omega) (by omega)
      refine lv_iload_n hx hb d_Model_dots_37 rfl (lv_at hl 2 rfl) ?_
      have hPc := hP.sub (ws' := [(mo, .inr (5, [.int 0, .int mw, .int mh, .ref ad, .ref asu, .ref aru, .int mro, .ref ast, .int msd, .ref afo, .int mmn])), (ad, .inl (kD, 262144, .inl fd))]) [0, 1] rfl
      have hKc := hK.sub (tys' := [(kD, .boolean)]) [0] rfl
      refine va_calli (va_runV (As := [.int v36, .int a2]) (rest := []) ⟨hx, hb, hml, hown, hts⟩ (m_isDark l dC dI mo ad asu aru ast afo 0 mw mh mro msd mmn Wd Ht hmw hmh hW1 hW2 hH1 hH2 kD fd D hfd v36 a2 (x + zkk) y h36 g2 (by omega) (by omega) (by omega) (by omega)) (aw_V 2 hts wd_620 wd_622 ws_31 wd_5 wd_623 rfl rfl (by decide +kernel) ⟨Nat.le_of_ble_eq_true rfl, Nat.le_of_ble_eq_true rfl⟩) ⟨ro_blind, va_recv hKc hPc (ci := 5) (q0 := 0) rfl rfl, ro_pre hPc hKc⟩ rfl rfl hl.1 rfl (lv_room (Nat.le_of_ble_eq_true rfl)) d_Model_dots_38 ⟨Nat.le_of_ble_eq_true rfl, Nat.le_of_ble_eq_true rfl⟩) hS (fun q _ h => h.elim) (fun q h => h.elim) (fun v38 _ t9 H38 locs ht hvm h38 hB hz1 hk1 hS => ?_)
      have hP := ro_keep hP hk1
      clear hPc hKc ht hvm hB hz1 hk1
      refine lv_if_eq (tgt := 51) hx hb d_Model_dots_41 (by decide) (fun c41 => ?_) (fun c41 => ?_)
      · skip
        have c41 : ¬ (D (x + zkk) y = true) := bi_z (zb_isB h38) c41
        obtain ⟨v51, e51⟩ : ∃ y : Int32, y = kk + 1 := ⟨_, rfl⟩
        have h51 : v51.toInt = zkk + 1 := by rw [e51]; exact ti_add hkk (ti_k (by decide)) (by omega) (by omega)
        refine lv_iinc (v := v51) (lv' := [(5, .int v51), (0, .ref mo), (1, .int a1), (2, .int a2), (3, .long bv)]) hx hb d_Model_dots_51 hl (k := 4) rfl (by rw [e51]; rfl) (by decide) rfl (fun ls hl => ?_)
        refine lv_goto (tgt := 10) hx hb d_Model_dots_54 (by decide) ?_
        exact ih10 _ (by omega) _ _ _ ⟨bv, v51, (zkk + 1), ls, rfl, lv_sub hl [1, 2, 3, 4, 0] rfl, rfl, h51, by omega, by first | exact dot_more i2 c41 (fun i hi => by rw [e49, lb_or, e48, lb_one hkk (by omega) (by omega) hi]) | exact dot_same i2 (bf c41) | exact dot_same i2 (D_f hsup (by omega)), hP, hD, hS⟩
      · skip
        have c41 : D (x + zkk) y = true := bi_nz (zb_isB h38) c41
        refine lv_lload_n hx hb d_Model_dots_44 rfl (lv_at hl 3 rfl) ?_
        refine lv_lconst (v := 1) hx hb d_Model_dots_45 (by decide) ?_
        refine lv_iload hx hb d_Model_dots_46 (lv_at hl 4 rfl) ?_
        refine lv_lshl hx hb d_Model_dots_48 rfl ?_
        refine lv_topl (fun v48 e48 => ?_)
        refine lv_lor hx hb d_Model_dots_49 ?_
        refine lv_topl (fun v49 e49 => ?_)
        refine lv_lstore_n (lv' := [(3, .long v49), (0, .ref mo), (1, .int a1), (2, .int a2), (5, .int kk)]) hx hb d_Model_dots_50 rfl hl (by decide) rfl (fun ls hl => ?_)
        obtain ⟨v51, e51⟩ : ∃ y : Int32, y = kk + 1 := ⟨_, rfl⟩
        have h51 : v51.toInt = zkk + 1 := by rw [e51]; exact ti_add hkk (ti_k (by decide)) (by omega) (by omega)
        refine lv_iinc (v := v51) (lv' := [(5, .int v51), (3, .long v49), (0, .ref mo), (1, .int a1), (2, .int a2)]) hx hb d_Model_dots_51 hl (k := 4) rfl (by rw [e51]; rfl) (by decide) rfl (fun ls hl => ?_)
        refine lv_goto (tgt := 10) hx hb d_Model_dots_54 (by decide) ?_
        exact ih10 _ (by omega) _ _ _ ⟨v49, v51, (zkk + 1), ls, rfl, lv_sub hl [2, 3, 4, 1, 0] rfl, rfl, h51, by omega, by first | exact dot_more i2 c41 (fun i hi => by rw [e49, lb_or, e48, lb_one hkk (by omega) (by omega) hi]) | exact dot_same i2 (bf c41) | exact dot_same i2 (D_f hsup (by omega)), hP, hD, hS⟩

set_option maxHeartbeats 4000000 in
set_option maxRecDepth 100000 in
theorem m_sheet (l : Launch) (dC : Nat → ClassId) (dI : Nat → Nat → Nat) (sz : Nat) (mo ad asu aru ast afo : Nat) (mth mw mh mro msd mmn : Int32) (kD : ClassId) (fd : Nat → Int32) (a1 a2 : Int32) (w h : Int) (g1 : a1.toInt = w) (g2 : a2.toInt = h) : Met l y_Model_sheet (.code y_Model_sheet b_Model_sheet 4 none :: allw) ({ frames := 1, cells := 0, slots := 0, locals := 20 }) (va_Pc [.ref mo, .int a1, .int a2] (rw_B (dC, dI) vwCl [(mo, .inr (5, [.int mth, .int mw, .int mh, .ref ad, .ref asu, .ref aru, .int mro, .ref ast, .int msd, .ref afo, .int mmn])), (ad, .inl (kD, 262144, .inl fd))] [(kD, .boolean)] sz)) (va_Qv (fun (u : Int32 × Int32 × Int32 × (Nat → Int32) × Int32 × Int32) => (¬ (1 ≤ w ∧ w ≤ 512 ∧ 1 ≤ h ∧ h ≤ 512) ∧ u = (1, mw, mh, fd, msd, mmn)) ∨ ((1 ≤ w ∧ w ≤ 512 ∧ 1 ≤ h ∧ h ≤ 512) ∧ u.1 = 0 ∧ u.2.1 = a1 ∧ u.2.2.1 = a2 ∧ (∀ i, i < 262144 → u.2.2.2.1 i = 0) ∧ u.2.2.2.2.1 = 0 ∧ u.2.2.2.2.2 = 0)) (fun u t => rw_E (dC, dI) vwCl [(mo, .inr (5, [.int u.1, .int u.2.1, .int u.2.2.1, .ref ad, .ref asu, .ref aru, .int mro, .ref ast, .int u.2.2.2.2.1, .ref afo, .int u.2.2.2.2.2])), (ad, .inl (kD, 262144, .inl u.2.2.2.1))] [(kD, .boolean)] (va_A [(mo, .inr (5, [.int mth, .int mw, .int mh, .ref ad, .ref asu, .ref aru, .int mro, .ref ast, .int msd, .ref afo, .int mmn])), (ad, .inl (kD, 262144, .inl fd))] sz) t) (va_A [(mo, .inr (5, [.int mth, .int mw, .int mh, .ref ad, .ref asu, .ref aru, .int mro, .ref ast, .int msd, .ref afo, .int mmn])), (ad, .inl (kD, 262144, .inl fd))] sz)) 0 0 (va_A [(mo, .inr (5, [.int mth, .int mw, .int mh, .ref ad, .ref asu, .ref aru, .int mro, .ref ast, .int msd, .ref afo, .int mmn])), (ad, .inl (kD, 262144, .inl fd))] sz) := by
  refine Met.ofW (cc := b_Model_sheet) (maxL := 4) (ret := none) (by decide) rfl ?_
  intro p e s m args below meth c s₁ B hml hv
  obtain ⟨rfl, hsz, hP, hK, hD0⟩ := hv
  have hx := B.exec
  have hb := B.bytes
  have hr := B.returns
  have hts : ∀ w ∈ allw, w.before _ s = true := fun w h => atoms_spec (ws := .code y_Model_sheet b_Model_sheet 4 none :: allw) B.pre w (List.mem_cons_of_mem _ h)
  have hown : s.vm.findClass R_Model = some m.cls := findClass_of_methodNamed B.named
  have hlocks := B.notSynchronized
  subst hsz
  have hD := hD0.self (sz := s.heap.size)
  generalize hAe : va_A [(mo, .inr (5, [.int mth, .int mw, .int mh, .ref ad, .ref asu, .ref aru, .int mro, .ref ast, .int msd, .ref afo, .int mmn])), (ad, .inl (kD, 262144, .inl fd))] s.heap.size = A at hD ⊢
  have hA : ∀ q : Nat, s.heap.size ≤ q → A q := fun q h => by rw [← hAe]; exact Or.inr h
  have hS : va_S A s.heap s.heap [] := va_S.rf
  have hP : va_P (dC, dI) vwCl [(mo, .inr (5, [.int mth, .int mw, .int mh, .ref ad, .ref asu, .ref aru, .int mro, .ref ast, .int msd, .ref afo, .int mmn])), (ad, .inl (kD, 262144, .inl fd))] s.heap := hP
  have hl := lv_entry ([.ref mo, .int a1, .int a2]) (n := 4) (Nat.le_of_ble_eq_true rfl)
  rw [lg_entry_eq]
  generalize (lg_sl ([.ref mo, .int a1, .int a2]) ++ List.replicate (4 - (lg_sl ([.ref mo, .int a1, .int a2])).length) Slot.unset).toArray = ls at hl ⊢
  have hl : lv_has ls 4 [(0, .ref mo), (1, .int a1), (2, .int a2)] := hl
  refine lv_aload_n hx hb d_Model_sheet_0 rfl (lv_at hl 0 rfl) ?_
  refine w_cut (I := fun H' locs' g' => ∃ (tv : Int32) (ztv : Int) (ls : Array Slot), g' = F0 m 30 ls [.int tv, .ref mo] ∧ lv_has ls 4 [(0, .ref mo), (1, .int a1), (2, .int a2)] ∧ tv.toInt = ztv ∧ ((1 ≤ w ∧ w ≤ 512 ∧ 1 ≤ h ∧ h ≤ 512) ∧ ztv = 0 ∨ ¬ (1 ≤ w ∧ w ≤ 512 ∧ 1 ≤ h ∧ h ≤ 512) ∧ ztv = 1) ∧ va_P (dC, dI) vwCl [(mo, .inr (5, [.int mth, .int mw, .int mh, .ref ad, .ref asu, .ref aru, .int mro, .ref ast, .int msd, .ref afo, .int mmn])), (ad, .inl (kD, 262144, .inl fd))] H' ∧ va_D A [(mo, .inr (5, [.int mth, .int mw, .int mh, .ref ad, .ref asu, .ref aru, .int mro, .ref ast, .int msd, .ref afo, .int mmn])), (ad, .inl (kD, 262144, .inl fd))] ∧ va_S A s.heap H' locs') ?_ ?_
  · skip
    intro H30 locs g' hI
    obtain ⟨tv, ztv, ls, rfl, hl, htv, itv, hP, hD, hS⟩ := hI
    refine va_put (D := (dC, dI)) (ci := 5) (v := .int tv) (ty := .int) (C := R_Model) (T := T_Model) (N := 11) hx hb hts i_Model t_Model t_Model_ok n_Model hown hK hP hD hS 0 rfl rfl 0 (by decide) (hts _ wd_565) (fun _ h9 => h9) rfl (by decide +kernel) rfl rfl (Nat.le_of_ble_eq_true rfl) d_Model_sheet_30 (fun H30 locs hP hD hS => ?_)
    have hP : va_P (dC, dI) vwCl [(mo, .inr (5, [.int tv, .int mw, .int mh, .ref ad, .ref asu, .ref aru, .int mro, .ref ast, .int msd, .ref afo, .int mmn])), (ad, .inl (kD, 262144, .inl fd))] H30 := hP
    have hD : va_D A [(mo, .inr (5, [.int tv, .int mw, .int mh, .ref ad, .ref asu, .ref aru, .int mro, .ref ast, .int msd, .ref afo, .int mmn])), (ad, .inl (kD, 262144, .inl fd))] := hD
    refine lv_aload_n hx hb d_Model_sheet_33 rfl (lv_at hl 0 rfl) ?_
    refine va_get (D := (dC, dI)) (ci := 5) (v := .int tv) (C := R_Model) (T := T_Model) (N := 11) hx hb hts i_Model hown hK hP 0 rfl rfl 0 (by decide) (hts _ wd_565) (fun _ h9 => h9) rfl d_Model_sheet_34 ?_
    refine lv_if_le (tgt := 41) hx hb d_Model_sheet_37 (by decide) (fun c37 => ?_) (fun c37 => ?_)
    · skip
      have c37 : ztv ≤ 0 := (ti_le htv (ti_k (by decide))).mp c37
      refine lv_aload_n hx hb d_Model_sheet_41 rfl (lv_at hl 0 rfl) ?_
      refine lv_iload_n hx hb d_Model_sheet_42 rfl (lv_at hl 1 rfl) ?_
      refine va_put (D := (dC, dI)) (ci := 5) (v := .int a1) (ty := .int) (C := R_Model) (T := T_Model) (N := 11) hx hb hts i_Model t_Model t_Model_ok n_Model hown hK hP hD hS 0 rfl rfl 1 (by decide) (hts _ wd_566) (fun _ h9 => h9) rfl (by decide +kernel) rfl rfl (Nat.le_of_ble_eq_true rfl) d_Model_sheet_43 (fun H43 locs hP hD hS => ?_)
      have hP : va_P (dC, dI) vwCl [(mo, .inr (5, [.int tv, .int a1, .int mh, .ref ad, .ref asu, .ref aru, .int mro, .ref ast, .int msd, .ref afo, .int mmn])), (ad, .inl (kD, 262144, .inl fd))] H43 := hP
      have hD : va_D A [(mo, .inr (5, [.int tv, .int a1, .int mh, .ref ad, .ref asu, .ref aru, .int mro, .ref ast, .int msd, .ref afo, .int mmn])), (ad, .inl (kD, 262144, .inl fd))] := hD
      refine lv_aload_n hx hb d_Model_sheet_46 rfl (lv_at hl 0 rfl) ?_
      refine lv_iload_n hx hb d_Model_sheet_47 rfl (lv_at hl 2 rfl) ?_
      refine va_put (D := (dC, dI)) (ci := 5) (v := .int a2) (ty := .int) (C := R_Model) (T := T_Model) (N := 11) hx hb hts i_Model t_Model t_Model_ok n_Model hown hK hP hD hS 0 rfl rfl 2 (by decide) (hts _ wd_567) (fun _ h9 => h9) rfl (by decide +kernel) rfl rfl (Nat.le_of_ble_eq_true rfl) d_Model_sheet_48 (fun H48 locs hP hD hS => ?_)
      have hP : va_P (dC, dI) vwCl [(mo, .inr (5, [.int tv, .int a1, .int a2, .ref ad, .ref asu, .ref aru, .int mro, .ref ast, .int msd, .ref afo, .int mmn])), (ad, .inl (kD, 262144, .inl fd))] H48 := hP
      have hD : va_D A [(mo, .inr (5, [.int tv, .int a1, .int a2, .ref ad, .ref asu, .ref aru, .int mro, .ref ast, .int msd, .ref afo, .int mmn])), (ad, .inl (kD, 262144, .inl fd))] := hD
      refine lv_iconst (v := 0) hx hb d_Model_sheet_51 (by decide) ?_
      refine lv_istore_n (lv' := [(3, .int 0), (0, .ref mo), (1, .int a1), (2, .int a2)]) hx hb d_Model_sheet_52 rfl hl (by decide) rfl (fun ls hl => ?_)
      refine w_loop (I := fun n H' locs' g' => ∃ (kk : Int32) (zkk : Int) (fc : Nat → Int32) (ls : Array Slot), g' = F0 m 53 ls [] ∧ lv_has ls 4 [(0, .ref mo), (1, .int a1), (2, .int a2), (3, .int kk)] ∧ n = (262144 - zkk).toNat ∧ kk.toInt = zkk ∧ (0 ≤ zkk ∧ zkk ≤ 262144) ∧ (∀ i : Nat, (i : Int) < zkk → fc i = 0) ∧ va_P (dC, dI) vwCl [(mo, .inr (5, [.int tv, .int a1, .int a2, .ref ad, .ref asu, .ref aru, .int mro, .ref ast, .int msd, .ref afo, .int mmn])), (ad, .inl (kD, 262144, .inl fc))] H' ∧ va_D A [(mo, .inr (5, [.int tv, .int a1, .int a2, .ref ad, .ref asu, .ref aru, .int mro, .ref ast, .int msd, .ref afo, .int mmn])), (ad, .inl (kD, 262144, .inl fc))] ∧ va_S A s.heap H' locs') ?_ ⟨0, 0, fd, ls, rfl, lv_sub hl [1, 2, 3, 0] rfl, rfl, (ti_k (by decide)), by omega, fun i q => by omega, hP, hD, hS⟩
      intro n53 H53 locs g' hI ih53
      obtain ⟨kk, zkk, fc, ls, rfl, hl, hn, hkk, i1, i2, hP, hD, hS⟩ := hI
      refine lv_iload_n hx hb d_Model_sheet_53 rfl (lv_at hl 3 rfl) ?_
      refine lv_ldc (v := 262144) hx hb hown (hts _ wd_563) d_Model_sheet_54 ?_
      refine lv_icmp_ge (tgt := 72) hx hb d_Model_sheet_56 (by decide) (fun c56 => ?_) (fun c56 => ?_)
      · skip
        have c56 : 262144 ≤ zkk := (ti_le (ti_k (by decide)) hkk).mp c56
        refine lv_aload_n hx hb d_Model_sheet_72 rfl (lv_at hl 0 rfl) ?_
        have hPc := hP.sub (ws' := [(mo, .inr (5, [.int tv, .int a1, .int a2, .ref ad, .ref asu, .ref aru, .int mro, .ref ast, .int msd, .ref afo, .int mmn]))]) [0] rfl
        have hKc := hK.sub (tys' := []) [] rfl
        have hDc := hD.sub (ws' := [(mo, .inr (5, [.int tv, .int a1, .int a2, .ref ad, .ref asu, .ref aru, .int mro, .ref ast, .int msd, .ref afo, .int mmn]))]) [0] (by decide) rfl
        have hFc := va_free (wc := [(mo, .inr (5, [.int tv, .int a1, .int a2, .ref ad, .ref asu, .ref aru, .int mro, .ref ast, .int msd, .ref afo, .int mmn]))]) hD hS hA [0] rfl
        refine va_callv (va_runV (As := []) (rest := []) ⟨hx, hb, hml, hown, hts⟩ (m_forget l dC dI H53.size mo ad asu aru ast afo tv a1 a2 mro msd mmn) (aw_V 0 hts wd_608 wd_610 ws_29 wd_5 wd_611 rfl rfl (by decide +kernel) ⟨Nat.le_of_ble_eq_true rfl, Nat.le_of_ble_eq_true rfl⟩) ⟨rw_blind, va_recv hKc hPc (ci := 5) (q0 := 0) rfl rfl, rw_pre hPc hKc hDc⟩ rfl rfl hl.1 rfl (lv_room (Nat.le_of_ble_eq_true rfl)) d_Model_sheet_73 ⟨Nat.le_of_ble_eq_true rfl, Nat.le_of_ble_eq_true rfl⟩) hS (fun q _ h => hFc q h) hFc (fun u73_w t9 H73 locs ht hvm h73 hB hz1 hk1 hS => ?_)
        obtain ⟨hP1, _, hD1⟩ := hB
        rw [ht] at hP1
        try dsimp only at h73 hP1 hD1
        obtain ⟨hP, hD⟩ := va_join (wr := [(ad, .inl (kD, 262144, .inl fc))]) (w1 := [(mo, .inr (5, [.int tv, .int a1, .int a2, .ref ad, .ref asu, .ref aru, .int mro, .ref ast, .int 0, .ref afo, .int 0]))]) hP hD [0] [1] rfl rfl (by decide) (by decide) hk1 hFc hP1 hD1
        have hP := hP.sub (ws' := [(mo, .inr (5, [.int tv, .int a1, .int a2, .ref ad, .ref asu, .ref aru, .int mro, .ref ast, .int 0, .ref afo, .int 0])), (ad, .inl (kD, 262144, .inl fc))]) [1, 0] rfl
        have hD := hD.sub (ws' := [(mo, .inr (5, [.int tv, .int a1, .int a2, .ref ad, .ref asu, .ref aru, .int mro, .ref ast, .int 0, .ref afo, .int 0])), (ad, .inl (kD, 262144, .inl fc))]) [1, 0] (by decide) rfl
        clear hPc hKc hDc hFc ht hvm hz1 hk1 hP1 hD1
        have hpost : (¬ (1 ≤ w ∧ w ≤ 512 ∧ 1 ≤ h ∧ h ≤ 512) ∧ ((tv, a1, a2, fc, 0, 0) : Int32 × Int32 × Int32 × (Nat → Int32) × Int32 × Int32) = (1, mw, mh, fd, msd, mmn)) ∨ ((1 ≤ w ∧ w ≤ 512 ∧ 1 ≤ h ∧ h ≤ 512) ∧ tv = 0 ∧ a1 = a1 ∧ a2 = a2 ∧ (∀ i, i < 262144 → fc i = 0) ∧ (0 : Int32) = 0 ∧ (0 : Int32) = 0) := by
          have e1 : tv = 0 := (ti_eq (y := 0) htv (by decide)).mpr (by omega)
          exact Or.inr ⟨by omega, e1, rfl, rfl, fun i hi => i2 i (by omega), rfl, rfl⟩
        have hP9 := hP.sub (ws' := [(mo, .inr (5, [.int tv, .int a1, .int a2, .ref ad, .ref asu, .ref aru, .int mro, .ref ast, .int 0, .ref afo, .int 0])), (ad, .inl (kD, 262144, .inl fc))]) [0, 1] rfl
        have hD9 := hD.sub (ws' := [(mo, .inr (5, [.int tv, .int a1, .int a2, .ref ad, .ref asu, .ref aru, .int mro, .ref ast, .int 0, .ref afo, .int 0])), (ad, .inl (kD, 262144, .inl fc))]) [0, 1] (by decide) rfl
        have hK9 := hK.sub (tys' := [(kD, .boolean)]) [0] rfl
        exact W.vret hx hb hr (fun t ht hW => ⟨⟨(tv, a1, a2, fc, 0, 0), rfl, hpost, by rw [ht]; exact hP9, va_K.moved hW.alike hK9, hD9⟩, hS.F ht⟩) hS.2.2 d_Model_sheet_76
      · skip
        have c56 : ¬ (262144 ≤ zkk) := fun q => c56 ((ti_le (ti_k (by decide)) hkk).mpr q)
        refine lv_aload_n hx hb d_Model_sheet_59 rfl (lv_at hl 0 rfl) ?_
        refine va_get (D := (dC, dI)) (ci := 5) (v := .ref ad) (C := R_Model) (T := T_Model) (N := 11) hx hb hts i_Model hown hK hP 0 rfl rfl 3 (by decide) (hts _ wd_568) (fun _ h9 => h9) rfl d_Model_sheet_60 ?_
        refine lv_iload_n hx hb d_Model_sheet_63 rfl (lv_at hl 3 rfl) ?_
        refine lv_iconst (v := 0) hx hb d_Model_sheet_64 (by decide) ?_
        have in65 : vp_in kk 262144 := vi_in hkk (by omega) (by omega)
        refine va_zast hx hb hK hP hD hS 1 0 rfl rfl in65 d_Model_sheet_65 (fun H65 locs hP hD hS => ?_)
        obtain ⟨f65, ef65⟩ : ∃ g, g = upd fc (kk).toNatClampNeg (vp_nar .boolean 0) := ⟨_, rfl⟩
        have hP : va_P (dC, dI) vwCl [(mo, .inr (5, [.int tv, .int a1, .int a2, .ref ad, .ref asu, .ref aru, .int mro, .ref ast, .int msd, .ref afo, .int mmn])), (ad, .inl (kD, 262144, .inl f65))] H65 := by rw [ef65]; exact hP
        have hD : va_D A [(mo, .inr (5, [.int tv, .int a1, .int a2, .ref ad, .ref asu, .ref aru, .int mro, .ref ast, .int msd, .ref afo, .int mmn])), (ad, .inl (kD, 262144, .inl f65))] := by rw [ef65]; exact hD
        have ef65 : f65 = upd fc (zkk).toNat (vp_nar .boolean 0) := by rw [ef65, vi_cl hkk]
        obtain ⟨v66, e66⟩ : ∃ y : Int32, y = kk + 1 := ⟨_, rfl⟩
        have h66 : v66.toInt = zkk + 1 := by rw [e66]; exact ti_add hkk (ti_k (by decide)) (by omega) (by omega)
        refine lv_iinc (v := v66) (lv' := [(3, .int v66), (0, .ref mo), (1, .int a1), (2, .int a2)]) hx hb d_Model_sheet_66 hl (k := 3) rfl (by rw [e66]; rfl) (by decide) rfl (fun ls hl => ?_)
        refine lv_goto (tgt := 53) hx hb d_Model_sheet_69 (by decide) ?_
        exact ih53 _ (by omega) _ _ _ ⟨v66, (zkk + 1), f65, ls, rfl, lv_sub hl [1, 2, 3, 0] rfl, rfl, h66, by omega, fun i q => by rw [ef65]; by_cases z : i = zkk.toNat <;> first | (rw [z, pk_us]; exact nar0) | (rw [pk_un z]; exact i2 i (by omega)), hP, hD, hS⟩
    · skip
      have c37 : ¬ (ztv ≤ 0) := fun q => c37 ((ti_le htv (ti_k (by decide))).mpr q)
      have hpost : (¬ (1 ≤ w ∧ w ≤ 512 ∧ 1 ≤ h ∧ h ≤ 512) ∧ ((tv, mw, mh, fd, msd, mmn) : Int32 × Int32 × Int32 × (Nat → Int32) × Int32 × Int32) = (1, mw, mh, fd, msd, mmn)) ∨ ((1 ≤ w ∧ w ≤ 512 ∧ 1 ≤ h ∧ h ≤ 512) ∧ tv = 0 ∧ mw = a1 ∧ mh = a2 ∧ (∀ i, i < 262144 → fd i = 0) ∧ (msd : Int32) = 0 ∧ (mmn : Int32) = 0) := by
        have e1 : tv = 1 := (ti_eq (y := 1) htv (by decide)).mpr (by omega)
        exact Or.inl ⟨by omega, by rw [e1]⟩
      have hP9 := hP.sub (ws' := [(mo, .inr (5, [.int tv, .int mw, .int mh, .ref ad, .ref asu, .ref aru, .int mro, .ref ast, .int msd, .ref afo, .int mmn])), (ad, .inl (kD, 262144, .inl fd))]) [0, 1] rfl
      have hD9 := hD.sub (ws' := [(mo, .inr (5, [.int tv, .int mw, .int mh, .ref ad, .ref asu, .ref aru, .int mro, .ref ast, .int msd, .ref afo, .int mmn])), (ad, .inl (kD, 262144, .inl fd))]) [0, 1] (by decide) rfl
      have hK9 := hK.sub (tys' := [(kD, .boolean)]) [0] rfl
      exact W.vret hx hb hr (fun t ht hW => ⟨⟨(tv, mw, mh, fd, msd, mmn), rfl, hpost, by rw [ht]; exact hP9, va_K.moved hW.alike hK9, hD9⟩, hS.F ht⟩) hS.2.2 d_Model_sheet_40
  · skip
    intro hj30
    refine lv_iload_n hx hb d_Model_sheet_1 rfl (lv_at hl 1 rfl) ?_
    refine lv_iconst (v := 1) hx hb d_Model_sheet_2 (by decide) ?_
    refine lv_icmp_lt (tgt := 25) hx hb d_Model_sheet_3 (by decide) (fun c3 => ?_) (fun c3 => ?_)
    · skip
      have c3 : w < 1 := (ti_lt g1 (ti_k (by decide))).mp c3
      refine lv_iconst (v := 1) hx hb d_Model_sheet_25 (by decide) ?_
      refine lv_goto (tgt := 30) hx hb d_Model_sheet_26 (by decide) ?_
      exact hj30 _ _ _ ⟨1, 1, ls, rfl, lv_sub hl [0, 1, 2] rfl, (ti_k (by decide)), by omega, hP, hD, hS⟩
    · skip
      have c3 : ¬ (w < 1) := fun q => c3 ((ti_lt g1 (ti_k (by decide))).mpr q)
      refine lv_iload_n hx hb d_Model_sheet_6 rfl (lv_at hl 1 rfl) ?_
      refine lv_sipush (v := 512) hx hb d_Model_sheet_7 (by decide) ?_
      refine lv_icmp_gt (tgt := 25) hx hb d_Model_sheet_10 (by decide) (fun c10 => ?_) (fun c10 => ?_)
      · skip
        have c10 : 512 < w := (ti_lt (ti_k (by decide)) g1).mp c10
        refine lv_iconst (v := 1) hx hb d_Model_sheet_25 (by decide) ?_
        refine lv_goto (tgt := 30) hx hb d_Model_sheet_26 (by decide) ?_
        exact hj30 _ _ _ ⟨1, 1, ls, rfl, lv_sub hl [0, 1, 2] rfl, (ti_k (by decide)), by omega, hP, hD, hS⟩
      · skip
        have c10 : ¬ (512 < w) := fun q => c10 ((ti_lt (ti_k (by decide)) g1).mpr q)
        refine lv_iload_n hx hb d_Model_sheet_13 rfl (lv_at hl 2 rfl) ?_
        refine lv_iconst (v := 1) hx hb d_Model_sheet_14 (by decide) ?_
        refine lv_icmp_lt (tgt := 25) hx hb d_Model_sheet_15 (by decide) (fun c15 => ?_) (fun c15 => ?_)
        · skip
          have c15 : h < 1 := (ti_lt g2 (ti_k (by decide))).mp c15
          refine lv_iconst (v := 1) hx hb d_Model_sheet_25 (by decide) ?_
          refine lv_goto (tgt := 30) hx hb d_Model_sheet_26 (by decide) ?_
          exact hj30 _ _ _ ⟨1, 1, ls, rfl, lv_sub hl [0, 1, 2] rfl, (ti_k (by decide)), by omega, hP, hD, hS⟩
        · skip
          have c15 : ¬ (h < 1) := fun q => c15 ((ti_lt g2 (ti_k (by decide))).mpr q)
          refine lv_iload_n hx hb d_Model_sheet_18 rfl (lv_at hl 2 rfl) ?_
          refine lv_sipush (v := 512) hx hb d_Model_sheet_19 (by decide) ?_
          refine lv_icmp_le (tgt := 29) hx hb d_Model_sheet_22 (by decide) (fun c22 => ?_) (fun c22 => ?_)
          · skip
            have c22 : h ≤ 512 := (ti_le g2 (ti_k (by decide))).mp c22
            refine lv_iconst (v := 0) hx hb d_Model_sheet_29 (by decide) ?_
            exact hj30 _ _ _ ⟨0, 0, ls, rfl, lv_sub hl [0, 1, 2] rfl, (ti_k (by decide)), by omega, hP, hD, hS⟩
          · skip
            have c22 : ¬ (h ≤ 512) := fun q => c22 ((ti_le g2 (ti_k (by decide))).mpr q)
            refine lv_iconst (v := 1) hx hb d_Model_sheet_25 (by decide) ?_
            refine lv_goto (tgt := 30) hx hb d_Model_sheet_26 (by decide) ?_
            exact hj30 _ _ _ ⟨1, 1, ls, rfl, lv_sub hl [0, 1, 2] rfl, (ti_k (by decide)), by omega, hP, hD, hS⟩
