set_option maxHeartbeats 4000000 in
set_option maxRecDepth 100000 in
theorem m_draw (l : Launch) (dC : Nat → ClassId) (dI : Nat → Nat → Nat) (sz : Nat) (mo ad asu aru ast afo : Nat) (mth mw mh mro msd mmn : Int32) (Wd Ht : Int) (hmw : mw.toInt = Wd) (hmh : mh.toInt = Ht) (hW1 : 1 ≤ Wd) (hW2 : Wd ≤ 512) (hH1 : 1 ≤ Ht) (hH2 : Ht ≤ 512) (kD : ClassId) (fd : Nat → Int32) (D : Int → Int → Bool) (hfd : dOK fd D) (a1 a2 a3 : Int32) (x y PL : Int) (g1 : a1.toInt = x) (g2 : a2.toInt = y) (g3 : a3.toInt = PL) : Met l y_Model_draw (.code y_Model_draw b_Model_draw 11 (some .int) :: allw) ({ frames := 3, cells := 0, slots := 0, locals := 68 }) (va_Pc [.ref mo, .int a1, .int a2, .int a3] (rw_B (dC, dI) vwCl [(mo, .inr (5, [.int mth, .int mw, .int mh, .ref ad, .ref asu, .ref aru, .int mro, .ref ast, .int msd, .ref afo, .int mmn])), (ad, .inl (kD, 262144, .inl fd))] [(kD, .boolean)] sz)) (va_Qi (fun (r : Int32) (u : Int32 × (Nat → Int32)) => (¬ (drOK Wd Ht x y PL) ∧ r = 0 ∧ u.1 = 1 ∧ dOK u.2 D) ∨ ((drOK Wd Ht x y PL) ∧ r.toInt = DW D x y (PL / 256 % 32) (17 + 4 * (PL / 4 % 64)) (PL % 4) ∧ u.1 = 0 ∧ dOK u.2 (dP D x y (PL / 256 % 32) (17 + 4 * (PL / 4 % 64)) (PL % 4) (fxd (17 + 4 * (PL / 4 % 64)))))) (fun u t => rw_E (dC, dI) vwCl [(mo, .inr (5, [.int u.1, .int mw, .int mh, .ref ad, .ref asu, .ref aru, .int mro, .ref ast, .int msd, .ref afo, .int mmn])), (ad, .inl (kD, 262144, .inl u.2))] [(kD, .boolean)] (va_A [(mo, .inr (5, [.int mth, .int mw, .int mh, .ref ad, .ref asu, .ref aru, .int mro, .ref ast, .int msd, .ref afo, .int mmn])), (ad, .inl (kD, 262144, .inl fd))] sz) t) (va_A [(mo, .inr (5, [.int mth, .int mw, .int mh, .ref ad, .ref asu, .ref aru, .int mro, .ref ast, .int msd, .ref afo, .int mmn])), (ad, .inl (kD, 262144, .inl fd))] sz)) 0 0 (va_A [(mo, .inr (5, [.int mth, .int mw, .int mh, .ref ad, .ref asu, .ref aru, .int mro, .ref ast, .int msd, .ref afo, .int mmn])), (ad, .inl (kD, 262144, .inl fd))] sz) := by
  refine Met.ofW (cc := b_Model_draw) (maxL := 11) (ret := (some .int)) (by decide) rfl ?_
  intro p e s m args below meth c s₁ B hml hv
  obtain ⟨rfl, hsz, hP, hK, hD0⟩ := hv
  have hx := B.exec
  have hb := B.bytes
  have hr := B.returns
  have hts : ∀ w ∈ allw, w.before _ s = true := fun w h => atoms_spec (ws := .code y_Model_draw b_Model_draw 11 (some .int) :: allw) B.pre w (List.mem_cons_of_mem _ h)
  have hown : s.vm.findClass R_Model = some m.cls := findClass_of_methodNamed B.named
  have hlocks := B.notSynchronized
  subst hsz
  have hD := hD0.self (sz := s.heap.size)
  generalize hAe : va_A [(mo, .inr (5, [.int mth, .int mw, .int mh, .ref ad, .ref asu, .ref aru, .int mro, .ref ast, .int msd, .ref afo, .int mmn])), (ad, .inl (kD, 262144, .inl fd))] s.heap.size = A at hD ⊢
  have hA : ∀ q : Nat, s.heap.size ≤ q → A q := fun q h => by rw [← hAe]; exact Or.inr h
  have hS : va_S A s.heap s.heap [] := va_S.rf
  have hP : va_P (dC, dI) vwCl [(mo, .inr (5, [.int mth, .int mw, .int mh, .ref ad, .ref asu, .ref aru, .int mro, .ref ast, .int msd, .ref afo, .int mmn])), (ad, .inl (kD, 262144, .inl fd))] s.heap := hP
  have hl := lv_entry ([.ref mo, .int a1, .int a2, .int a3]) (n := 11) (Nat.le_of_ble_eq_true rfl)
  rw [lg_entry_eq]
  generalize (lg_sl ([.ref mo, .int a1, .int a2, .int a3]) ++ List.replicate (11 - (lg_sl ([.ref mo, .int a1, .int a2, .int a3])).length) Slot.unset).toArray = ls at hl ⊢
  have hl : lv_has ls 11 [(0, .ref mo), (1, .int a1), (2, .int a2), (3, .int a3)] := hl
  have q1 := ti_rng a1
  have q2 := ti_rng a2
  have q3 := ti_rng a3
  refine lv_iload_n hx hb d_Model_draw_0 rfl (lv_at hl 3 rfl) ?_
  refine lv_iconst (v := 3) hx hb d_Model_draw_1 (by decide) ?_
  refine lv_iand hx hb d_Model_draw_2 ?_
  refine lv_topi (fun v2 e2 => ?_)
  obtain ⟨QQ, h2⟩ : ∃ c : Int, v2.toInt = c := ⟨_, rfl⟩
  have f2 : 0 ≤ PL → QQ = PL % 4 := fun q => by rw [← h2, e2]; exact ti_andk 2 4 rfl g3 q (by decide) (by decide)
  refine lv_istore (lv' := [(4, .int v2), (0, .ref mo), (1, .int a1), (2, .int a2), (3, .int a3)]) hx hb d_Model_draw_3 hl (by decide) rfl (fun ls hl => ?_)
  refine lv_iload_n hx hb d_Model_draw_5 rfl (lv_at hl 4 rfl) ?_
  refine lv_iconst (v := 2) hx hb d_Model_draw_6 (by decide) ?_
  refine lv_ishr hx hb d_Model_draw_7 ?_
  refine lv_topi (fun v7 e7 => ?_)
  have h7 : v7.toInt = PL / 4 := by rw [e7]; exact ti_shk 2 4 (by decide) rfl g3
  refine lv_bipush (v := 63) hx hb d_Model_draw_8 (by decide) ?_
  refine lv_iand hx hb d_Model_draw_10 ?_
  refine lv_topi (fun v10 e10 => ?_)
  obtain ⟨VV, h10⟩ : ∃ c : Int, v10.toInt = c := ⟨_, rfl⟩
  have f10 : 0 ≤ PL → VV = PL / 4 % 64 := fun q => by rw [← h10, e10]; exact ti_andk 6 64 rfl h7 (by omega) (by decide) (by decide)
  refine lv_istore (lv' := [(5, .int v10), (4, .int v2), (0, .ref mo), (1, .int a1), (2, .int a2), (3, .int a3)]) hx hb d_Model_draw_11 hl (by decide) rfl (fun ls hl => ?_)
  refine lv_iload_n hx hb d_Model_draw_13 rfl (lv_at hl 5 rfl) ?_
  refine lv_bipush (v := 8) hx hb d_Model_draw_14 (by decide) ?_
  refine lv_ishr hx hb d_Model_draw_16 ?_
  refine lv_topi (fun v16 e16 => ?_)
  have h16 : v16.toInt = PL / 256 := by rw [e16]; exact ti_shk 8 256 (by decide) rfl g3
  refine lv_bipush (v := 31) hx hb d_Model_draw_17 (by decide) ?_
  refine lv_iand hx hb d_Model_draw_19 ?_
  refine lv_topi (fun v19 e19 => ?_)
  obtain ⟨MM, h19⟩ : ∃ c : Int, v19.toInt = c := ⟨_, rfl⟩
  have f19 : 0 ≤ PL → MM = PL / 256 % 32 := fun q => by rw [← h19, e19]; exact ti_andk 5 32 rfl h16 (by omega) (by decide) (by decide)
  refine lv_istore (lv' := [(6, .int v19), (5, .int v10), (4, .int v2), (0, .ref mo), (1, .int a1), (2, .int a2), (3, .int a3)]) hx hb d_Model_draw_20 hl (by decide) rfl (fun ls hl => ?_)
  refine lv_aload_n hx hb d_Model_draw_22 rfl (lv_at hl 3 rfl) ?_
  refine w_cut (I := fun H' locs' g' => ∃ (tv : Int32) (ztv : Int) (ls : Array Slot), g' = F0 m 65 ls [.int tv, .ref mo] ∧ lv_has ls 11 [(0, .ref mo), (1, .int a1), (2, .int a2), (3, .int a3), (4, .int v2), (5, .int v10), (6, .int v19)] ∧ tv.toInt = ztv ∧ ((0 ≤ PL ∧ PL ≤ 8191 ∧ 1 ≤ MM ∧ MM ≤ 16 ∧ 1 ≤ VV ∧ VV ≤ 40) ∧ ztv = 0 ∨ ¬ (0 ≤ PL ∧ PL ≤ 8191 ∧ 1 ≤ MM ∧ MM ≤ 16 ∧ 1 ≤ VV ∧ VV ≤ 40) ∧ ztv = 1) ∧ va_P (dC, dI) vwCl [(mo, .inr (5, [.int mth, .int mw, .int mh, .ref ad, .ref asu, .ref aru, .int mro, .ref ast, .int msd, .ref afo, .int mmn])), (ad, .inl (kD, 262144, .inl fd))] H' ∧ va_D A [(mo, .inr (5, [.int mth, .int mw, .int mh, .ref ad, .ref asu, .ref aru, .int mro, .ref ast, .int msd, .ref afo, .int mmn])), (ad, .inl (kD, 262144, .inl fd))] ∧ va_S A s.heap H' locs') ?_ ?_
  · skip
    intro H65 locs g' hI
    obtain ⟨tv, ztv, ls, rfl, hl, htv, itv, hP, hD, hS⟩ := hI
    refine va_put (D := (dC, dI)) (ci := 5) (v := .int tv) (ty := .int) (C := R_Model) (T := T_Model) (N := 11) hx hb hts i_Model t_Model t_Model_ok n_Model hown hK hP hD hS 0 rfl rfl 0 (by decide) (hts _ wd_565) (fun _ h9 => h9) rfl (by decide +kernel) rfl rfl (Nat.le_of_ble_eq_true rfl) d_Model_draw_65 (fun H65 locs hP hD hS => ?_)
    have hP : va_P (dC, dI) vwCl [(mo, .inr (5, [.int tv, .int mw, .int mh, .ref ad, .ref asu, .ref aru, .int mro, .ref ast, .int msd, .ref afo, .int mmn])), (ad, .inl (kD, 262144, .inl fd))] H65 := hP
    have hD : va_D A [(mo, .inr (5, [.int tv, .int mw, .int mh, .ref ad, .ref asu, .ref aru, .int mro, .ref ast, .int msd, .ref afo, .int mmn])), (ad, .inl (kD, 262144, .inl fd))] := hD
    refine lv_aload_n hx hb d_Model_draw_68 rfl (lv_at hl 0 rfl) ?_
    refine va_get (D := (dC, dI)) (ci := 5) (v := .int tv) (C := R_Model) (T := T_Model) (N := 11) hx hb hts i_Model hown hK hP 0 rfl rfl 0 (by decide) (hts _ wd_565) (fun _ h9 => h9) rfl d_Model_draw_69 ?_
    refine lv_if_gt (tgt := 92) hx hb d_Model_draw_72 (by decide) (fun c72 => ?_) (fun c72 => ?_)
    · skip
      have c72 : (0 : Int) < ztv := (ti_lt (ti_k (by decide)) htv).mp c72
      refine lv_aload_n hx hb d_Model_draw_92 rfl (lv_at hl 0 rfl) ?_
      refine lv_iconst (v := 1) hx hb d_Model_draw_93 (by decide) ?_
      refine va_put (D := (dC, dI)) (ci := 5) (v := .int 1) (ty := .int) (C := R_Model) (T := T_Model) (N := 11) hx hb hts i_Model t_Model t_Model_ok n_Model hown hK hP hD hS 0 rfl rfl 0 (by decide) (hts _ wd_565) (fun _ h9 => h9) rfl (by decide +kernel) rfl rfl (Nat.le_of_ble_eq_true rfl) d_Model_draw_94 (fun H94 locs hP hD hS => ?_)
      have hP : va_P (dC, dI) vwCl [(mo, .inr (5, [.int 1, .int mw, .int mh, .ref ad, .ref asu, .ref aru, .int mro, .ref ast, .int msd, .ref afo, .int mmn])), (ad, .inl (kD, 262144, .inl fd))] H94 := hP
      have hD : va_D A [(mo, .inr (5, [.int 1, .int mw, .int mh, .ref ad, .ref asu, .ref aru, .int mro, .ref ast, .int msd, .ref afo, .int mmn])), (ad, .inl (kD, 262144, .inl fd))] := hD
      refine lv_iconst (v := 0) hx hb d_Model_draw_97 (by decide) ?_
      have hpost : (¬ (drOK Wd Ht x y PL) ∧ (0 : Int32) = 0 ∧ (1 : Int32) = 1 ∧ dOK fd D) ∨ ((drOK Wd Ht x y PL) ∧ (0 : Int32).toInt = DW D x y (PL / 256 % 32) (17 + 4 * (PL / 4 % 64)) (PL % 4) ∧ (1 : Int32) = 0 ∧ dOK fd (dP D x y (PL / 256 % 32) (17 + 4 * (PL / 4 % 64)) (PL % 4) (fxd (17 + 4 * (PL / 4 % 64))))) := by
        refine Or.inl ⟨fun q => ?_, rfl, rfl, hfd⟩
        unfold drOK at q
        have w0 := f2 (by omega)
        have w1 := f10 (by omega)
        have w2 := f19 (by omega)
        first | omega | (rw [← w1, ← w2, ← kLN] at q; omega)
      have hP9 := hP.sub (ws' := [(mo, .inr (5, [.int 1, .int mw, .int mh, .ref ad, .ref asu, .ref aru, .int mro, .ref ast, .int msd, .ref afo, .int mmn])), (ad, .inl (kD, 262144, .inl fd))]) [0, 1] rfl
      have hD9 := hD.sub (ws' := [(mo, .inr (5, [.int 1, .int mw, .int mh, .ref ad, .ref asu, .ref aru, .int mro, .ref ast, .int msd, .ref afo, .int mmn])), (ad, .inl (kD, 262144, .inl fd))]) [0, 1] (by decide) rfl
      have hK9 := hK.sub (tys' := [(kD, .boolean)]) [0] rfl
      exact W.iret (v := 0) hx hb hr (fun t ht hW => ⟨⟨0, (1, fd), rfl, hpost, by rw [ht]; exact hP9, va_K.moved hW.alike hK9, hD9⟩, hS.F ht⟩) hS.2.2 d_Model_draw_98
    · skip
      have c72 : ¬ ((0 : Int) < ztv) := fun q => c72 ((ti_lt (ti_k (by decide)) htv).mpr q)
      refine lv_aload_n hx hb d_Model_draw_75 rfl (lv_at hl 0 rfl) ?_
      refine lv_iload_n hx hb d_Model_draw_76 rfl (lv_at hl 1 rfl) ?_
      refine lv_iload_n hx hb d_Model_draw_77 rfl (lv_at hl 2 rfl) ?_
      have mL := mul_b2 (a := MM) (b := 17 + 4 * VV) (p := 16) (q := 177) (by omega) (by omega) (by omega) (by omega)
      have mL0 := Int.mul_nonneg (show 0 ≤ MM by omega) (show 0 ≤ 17 + 4 * VV by omega)
      refine lv_iload hx hb d_Model_draw_78 (lv_at hl 6 rfl) ?_
      refine lv_iload hx hb d_Model_draw_80 (lv_at hl 5 rfl) ?_
      have hPc := hP.sub (ws' := []) [] rfl
      have hKc := hK.sub (tys' := []) [] rfl
      refine va_calli (va_runS (As := [.int v10]) (rest := [.int v19, .int a2, .int a1, .ref mo]) ⟨hx, hb, hml, hown, hts⟩ (m_side l dC dI v10 VV h10 (by omega) (by omega)) (aw_S 1 hts wd_636 wd_637 wd_5 wd_638 rfl rfl (by decide +kernel) ⟨Nat.le_of_ble_eq_true rfl, Nat.le_of_ble_eq_true rfl⟩) ⟨ro_blind, ro_pre hPc hKc⟩ rfl rfl hl.1 rfl (lv_room (Nat.le_of_ble_eq_true rfl)) d_Model_draw_82 ⟨Nat.le_of_ble_eq_true rfl, Nat.le_of_ble_eq_true rfl⟩) hS (fun q _ h => h.elim) (fun q h => h.elim) (fun v82 _ t9 H82 locs ht hvm h82 hB hz1 hk1 hS => ?_)
      have hP := ro_keep hP hk1
      clear hPc hKc ht hvm hB hz1 hk1
      refine lv_imul hx hb d_Model_draw_85 ?_
      refine lv_topi (fun v85 e85 => ?_)
      have h85 : v85.toInt = MM * (17 + 4 * VV) := by rw [e85]; exact ti_mul h19 h82 (by omega) (by omega)
      obtain ⟨LN, kLN⟩ : ∃ c : Int, c = (MM * (17 + 4 * VV)) := ⟨_, rfl⟩
      have h85 : v85.toInt = LN := by rw [h85, kLN]
      have hPc := hP.sub (ws' := [(mo, .inr (5, [.int tv, .int mw, .int mh, .ref ad, .ref asu, .ref aru, .int mro, .ref ast, .int msd, .ref afo, .int mmn]))]) [0] rfl
      have hKc := hK.sub (tys' := []) [] rfl
      refine va_calli (va_runV (As := [.int a1, .int a2, .int v85]) (rest := []) ⟨hx, hb, hml, hown, hts⟩ (m_isPlace l dC dI mo ad asu aru ast afo tv mw mh mro msd mmn Wd Ht hmw hmh hW1 hW2 hH1 hH2 a1 a2 v85 x y LN g1 g2 h85 (by omega)) (aw_V 3 hts wd_639 wd_641 ws_32 wd_5 wd_642 rfl rfl (by decide +kernel) ⟨Nat.le_of_ble_eq_true rfl, Nat.le_of_ble_eq_true rfl⟩) ⟨ro_blind, va_recv hKc hPc (ci := 5) (q0 := 0) rfl rfl, ro_pre hPc hKc⟩ rfl rfl hl.1 rfl (lv_room (Nat.le_of_ble_eq_true rfl)) d_Model_draw_86 ⟨Nat.le_of_ble_eq_true rfl, Nat.le_of_ble_eq_true rfl⟩) hS (fun q _ h => h.elim) (fun q h => h.elim) (fun v86 _ t9 H86 locs ht hvm h86 hB hz1 hk1 hS => ?_)
      have hP := ro_keep hP hk1
      clear hPc hKc ht hvm hB hz1 hk1
      refine lv_if_ne (tgt := 99) hx hb d_Model_draw_89 (by decide) (fun c89 => ?_) (fun c89 => ?_)
      · skip
        have c89 : 0 ≤ x ∧ x ≤ Wd - LN ∧ 0 ≤ y ∧ y ≤ Ht - LN := bi_nz h86 c89
        refine lv_iload hx hb d_Model_draw_99 (lv_at hl 5 rfl) ?_
        have hPc := hP.sub (ws' := []) [] rfl
        have hKc := hK.sub (tys' := []) [] rfl
        refine va_calli (va_runS (As := [.int v10]) (rest := []) ⟨hx, hb, hml, hown, hts⟩ (m_side l dC dI v10 VV h10 (by omega) (by omega)) (aw_S 1 hts wd_636 wd_637 wd_5 wd_638 rfl rfl (by decide +kernel) ⟨Nat.le_of_ble_eq_true rfl, Nat.le_of_ble_eq_true rfl⟩) ⟨ro_blind, ro_pre hPc hKc⟩ rfl rfl hl.1 rfl (lv_room (Nat.le_of_ble_eq_true rfl)) d_Model_draw_101 ⟨Nat.le_of_ble_eq_true rfl, Nat.le_of_ble_eq_true rfl⟩) hS (fun q _ h => h.elim) (fun q h => h.elim) (fun v101 _ t9 H101 locs ht hvm h101 hB hz1 hk1 hS => ?_)
        have hP := ro_keep hP hk1
        clear hPc hKc ht hvm hB hz1 hk1
        obtain ⟨S, kS⟩ : ∃ c : Int, c = (17 + 4 * VV) := ⟨_, rfl⟩
        have h101 : v101.toInt = S := by rw [h101, kS]
        refine lv_istore (lv' := [(7, .int v101), (0, .ref mo), (1, .int a1), (2, .int a2), (3, .int a3), (4, .int v2), (5, .int v10), (6, .int v19)]) hx hb d_Model_draw_104 hl (by decide) rfl (fun ls hl => ?_)
        have e2 := f2 (by omega)
        have mm2 := mul_b (a := MM) (b := MM) (n := 16) (by omega) (by omega) (by omega) (by omega)
        have mcS : MM * S = LN := by rw [kS, kLN]
        refine lv_iconst (v := 0) hx hb d_Model_draw_106 (by decide) ?_
        refine lv_istore (lv' := [(8, .int 0), (7, .int v101), (0, .ref mo), (1, .int a1), (2, .int a2), (3, .int a3), (4, .int v2), (5, .int v10), (6, .int v19)]) hx hb d_Model_draw_107 hl (by decide) rfl (fun ls hl => ?_)
        refine lv_iconst (v := 0) hx hb d_Model_draw_109 (by decide) ?_
        refine lv_istore (lv' := [(9, .int 0), (8, .int 0), (7, .int v101), (0, .ref mo), (1, .int a1), (2, .int a2), (3, .int a3), (4, .int v2), (5, .int v10), (6, .int v19)]) hx hb d_Model_draw_110 hl (by decide) rfl (fun ls hl => ?_)
        refine w_loop (I := fun n H' locs' g' => ∃ (nn : Int32) (znn : Int) (jj : Int32) (zjj : Int) (fc : Nat → Int32) (ls : Array Slot), g' = F0 m 112 ls [] ∧ lv_has ls 11 [(0, .ref mo), (1, .int a1), (2, .int a2), (3, .int a3), (4, .int v2), (5, .int v10), (6, .int v19), (7, .int v101), (8, .int nn), (9, .int jj)] ∧ n = (S - zjj).toNat ∧ nn.toInt = znn ∧ jj.toInt = zjj ∧ (0 ≤ zjj ∧ zjj ≤ S) ∧ (dOK fc (dP D x y MM S QQ (rowP S zjj 0))) ∧ (znn = sI (gG (gN D x y MM S QQ) S) 0 0 S zjj) ∧ va_P (dC, dI) vwCl [(mo, .inr (5, [.int tv, .int mw, .int mh, .ref ad, .ref asu, .ref aru, .int mro, .ref ast, .int msd, .ref afo, .int mmn])), (ad, .inl (kD, 262144, .inl fc))] H' ∧ va_D A [(mo, .inr (5, [.int tv, .int mw, .int mh, .ref ad, .ref asu, .ref aru, .int mro, .ref ast, .int msd, .ref afo, .int mmn])), (ad, .inl (kD, 262144, .inl fc))] ∧ va_S A s.heap H' locs') ?_ ⟨0, 0, 0, 0, fd, ls, rfl, lv_sub hl [3, 4, 5, 6, 7, 8, 9, 2, 1, 0] rfl, rfl, (ti_k (by decide)), (ti_k (by decide)), by omega, by rw [rp_0 (by omega)]; exact hfd, rfl, hP, hD, hS⟩
        intro n112 H112 locs g' hI ih112
        obtain ⟨nn, znn, jj, zjj, fc, ls, rfl, hl, hn, hnn, hjj, i1, i2, i3, hP, hD, hS⟩ := hI
        have bn := sI_b (gD_b (D := D) (x := x) (y := y) (M := MM) (S := S) (Q := QQ) (by omega) (by omega)) (x := 0) (y := 0) S zjj (by omega) (by omega)
        have bm := mul_b2 (a := S) (b := zjj) (p := 177) (q := 177) (by omega) (by omega) (by omega) (by omega)
        refine lv_iload hx hb d_Model_draw_112 (lv_at hl 9 rfl) ?_
        refine lv_iload hx hb d_Model_draw_114 (lv_at hl 7 rfl) ?_
        refine lv_icmp_ge (tgt := 216) hx hb d_Model_draw_116 (by decide) (fun c116 => ?_) (fun c116 => ?_)
        · skip
          have c116 : S ≤ zjj := (ti_le h101 hjj).mp c116
          refine lv_iload hx hb d_Model_draw_216 (lv_at hl 8 rfl) ?_
          have hpost : (¬ (drOK Wd Ht x y PL) ∧ (nn : Int32) = 0 ∧ (tv : Int32) = 1 ∧ dOK fc D) ∨ ((drOK Wd Ht x y PL) ∧ (nn : Int32).toInt = DW D x y (PL / 256 % 32) (17 + 4 * (PL / 4 % 64)) (PL % 4) ∧ (tv : Int32) = 0 ∧ dOK fc (dP D x y (PL / 256 % 32) (17 + 4 * (PL / 4 % 64)) (PL % 4) (fxd (17 + 4 * (PL / 4 % 64))))) := by
            have w0 := f2 (by omega)
            have w1 := f10 (by omega)
            have w2 := f19 (by omega)
            have ex : zjj = S := by omega
            rw [ex] at i2 i3
            rw [rp_end (by omega)] at i2
            refine Or.inr ⟨?_, ?_, (ti_eq (y := 0) htv (by decide)).mpr (by omega), ?_⟩
            · unfold drOK; rw [← w1, ← w2, ← kLN]; omega
            · rw [hnn, i3, ← w1, ← w2, ← w0, ← kS]; rfl
            · rw [← w1, ← w2, ← w0, ← kS]; exact i2
          have hP9 := hP.sub (ws' := [(mo, .inr (5, [.int tv, .int mw, .int mh, .ref ad, .ref asu, .ref aru, .int mro, .ref ast, .int msd, .ref afo, .int mmn])), (ad, .inl (kD, 262144, .inl fc))]) [0, 1] rfl
          have hD9 := hD.sub (ws' := [(mo, .inr (5, [.int tv, .int mw, .int mh, .ref ad, .ref asu, .ref aru, .int mro, .ref ast, .int msd, .ref afo, .int mmn])), (ad, .inl (kD, 262144, .inl fc))]) [0, 1] (by decide) rfl
          have hK9 := hK.sub (tys' := [(kD, .boolean)]) [0] rfl
          exact W.iret (v := nn) hx hb hr (fun t ht hW => ⟨⟨nn, (tv, fc), rfl, hpost, by rw [ht]; exact hP9, va_K.moved hW.alike hK9, hD9⟩, hS.F ht⟩) hS.2.2 d_Model_draw_218
        · skip
          have c116 : ¬ (S ≤ zjj) := fun q => c116 ((ti_le h101 hjj).mpr q)
          refine lv_iconst (v := 0) hx hb d_Model_draw_119 (by decide) ?_
          refine lv_istore (lv' := [(10, .int 0), (0, .ref mo), (1, .int a1), (2, .int a2), (3, .int a3), (4, .int v2), (5, .int v10), (6, .int v19), (7, .int v101), (8, .int nn), (9, .int jj)]) hx hb d_Model_draw_120 hl (by decide) rfl (fun ls hl => ?_)
          refine w_loop (I := fun n H' locs' g' => ∃ (kn : Int32) (zkn : Int) (ii : Int32) (zii : Int) (fe : Nat → Int32) (ls : Array Slot), g' = F0 m 122 ls [] ∧ lv_has ls 11 [(0, .ref mo), (1, .int a1), (2, .int a2), (3, .int a3), (4, .int v2), (5, .int v10), (6, .int v19), (7, .int v101), (8, .int kn), (9, .int jj), (10, .int ii)] ∧ n = (S - zii).toNat ∧ kn.toInt = zkn ∧ ii.toInt = zii ∧ (0 ≤ zii ∧ zii ≤ S) ∧ (dOK fe (dP D x y MM S QQ (rowP S zjj zii))) ∧ (zkn = sI (gG (gN D x y MM S QQ) S) 0 0 S zjj + s1 (fun i => (gG (gN D x y MM S QQ) S) i zjj) 0 zii.toNat) ∧ va_P (dC, dI) vwCl [(mo, .inr (5, [.int tv, .int mw, .int mh, .ref ad, .ref asu, .ref aru, .int mro, .ref ast, .int msd, .ref afo, .int mmn])), (ad, .inl (kD, 262144, .inl fe))] H' ∧ va_D A [(mo, .inr (5, [.int tv, .int mw, .int mh, .ref ad, .ref asu, .ref aru, .int mro, .ref ast, .int msd, .ref afo, .int mmn])), (ad, .inl (kD, 262144, .inl fe))] ∧ va_S A s.heap H' locs') ?_ ⟨nn, znn, 0, 0, fc, ls, rfl, lv_sub hl [1, 2, 3, 4, 5, 6, 7, 8, 9, 10, 0] rfl, rfl, hnn, (ti_k (by decide)), by omega, i2, by show _ = _ + 0; omega, hP, hD, hS⟩
          intro n122 H122 locs g' hI ih122
          obtain ⟨kn, zkn, ii, zii, fe, ls, rfl, hl, hn, hkn, hii, j1, j2, j3, hP, hD, hS⟩ := hI
          have bs := s1_b (g := fun i => (gG (gN D x y MM S QQ) S) i zjj) (fun i => gD_b (by omega) (by omega) i zjj) (x := 0) zii (by omega)
          refine lv_iload hx hb d_Model_draw_122 (lv_at hl 10 rfl) ?_
          refine lv_iload hx hb d_Model_draw_124 (lv_at hl 7 rfl) ?_
          refine lv_icmp_ge (tgt := 210) hx hb d_Model_draw_126 (by decide) (fun c126 => ?_) (fun c126 => ?_)
          · skip
            have c126 : S ≤ zii := (ti_le h101 hii).mp c126
            obtain ⟨v210, e210⟩ : ∃ y : Int32, y = jj + 1 := ⟨_, rfl⟩
            have h210 : v210.toInt = zjj + 1 := by rw [e210]; exact ti_add hjj (ti_k (by decide)) (by omega) (by omega)
            refine lv_iinc (v := v210) (lv' := [(9, .int v210), (0, .ref mo), (1, .int a1), (2, .int a2), (3, .int a3), (4, .int v2), (5, .int v10), (6, .int v19), (7, .int v101), (8, .int kn), (10, .int ii)]) hx hb d_Model_draw_210 hl (k := 9) rfl (by rw [e210]; rfl) (by decide) rfl (fun ls hl => ?_)
            refine lv_goto (tgt := 112) hx hb d_Model_draw_213 (by decide) ?_
            have ex : zii = S := by omega
            rw [ex] at j2 j3
            exact ih112 _ (by omega) _ _ _ ⟨kn, zkn, v210, (zjj + 1), fe, ls, rfl, lv_sub hl [1, 2, 3, 4, 5, 6, 7, 8, 9, 0] rfl, rfl, hkn, h210, by omega, by rw [← rp_row (by omega)]; exact j2, by rw [sI_nx (by omega)]; exact j3, hP, hD, hS⟩
          · skip
            have c126 : ¬ (S ≤ zii) := fun q => c126 ((ti_le h101 hii).mpr q)
            refine lv_iload hx hb d_Model_draw_129 (lv_at hl 5 rfl) ?_
            refine lv_iload hx hb d_Model_draw_131 (lv_at hl 10 rfl) ?_
            refine lv_iload hx hb d_Model_draw_133 (lv_at hl 9 rfl) ?_
            have hPc := hP.sub (ws' := []) [] rfl
            have hKc := hK.sub (tys' := []) [] rfl
            refine va_calli (va_runS (As := [.int v10, .int ii, .int jj]) (rest := []) ⟨hx, hb, hml, hown, hts⟩ (m_module l dC dI v10 ii jj VV zii zjj h10 hii hjj (by omega) (by omega) (by omega) (by omega) (by omega) (by omega)) (aw_S 3 hts wd_643 wd_644 wd_5 wd_645 rfl rfl (by decide +kernel) ⟨Nat.le_of_ble_eq_true rfl, Nat.le_of_ble_eq_true rfl⟩) ⟨ro_blind, ro_pre hPc hKc⟩ rfl rfl hl.1 rfl (lv_room (Nat.le_of_ble_eq_true rfl)) d_Model_draw_135 ⟨Nat.le_of_ble_eq_true rfl, Nat.le_of_ble_eq_true rfl⟩) hS (fun q _ h => h.elim) (fun q h => h.elim) (fun v135 _ t9 H135 locs ht hvm h135 hB hz1 hk1 hS => ?_)
            have hP := ro_keep hP hk1
            clear hPc hKc ht hvm hB hz1 hk1
            rw [← kS] at h135
            refine lv_iconst (v := (-1)) hx hb d_Model_draw_138 (by decide) ?_
            refine lv_icmp_eq (tgt := 204) hx hb d_Model_draw_139 (by decide) (fun c139 => ?_) (fun c139 => ?_)
            · skip
              have c139 : (mdl S zii zjj) = (-1) := (ti_eq h135 (ti_k (by decide))).mp c139
              obtain ⟨v204, e204⟩ : ∃ y : Int32, y = ii + 1 := ⟨_, rfl⟩
              have h204 : v204.toInt = zii + 1 := by rw [e204]; exact ti_add hii (ti_k (by decide)) (by omega) (by omega)
              refine lv_iinc (v := v204) (lv' := [(10, .int v204), (0, .ref mo), (1, .int a1), (2, .int a2), (3, .int a3), (4, .int v2), (5, .int v10), (6, .int v19), (7, .int v101), (8, .int kn), (9, .int jj)]) hx hb d_Model_draw_204 hl (k := 10) rfl (by rw [e204]; rfl) (by decide) rfl (fun ls hl => ?_)
              refine lv_goto (tgt := 122) hx hb d_Model_draw_207 (by decide) ?_
              exact ih122 _ (by omega) _ _ _ ⟨kn, zkn, v204, (zii + 1), fe, ls, rfl, lv_sub hl [1, 2, 3, 4, 5, 6, 7, 8, 9, 10, 0] rfl, rfl, hkn, h204, by omega, by first | exact d198 | (rw [rp_skip c139]; exact j2), by rw [s1_nx (by omega)]; first | (rw [gG_n c139]; omega) | omega, hP, hD, hS⟩
            · skip
              have c139 : ¬ ((mdl S zii zjj) = (-1)) := fun q => c139 ((ti_eq h135 (ti_k (by decide))).mpr q)
              have pa := bA_b (S := S) (Q := QQ) (i := zii) (j := zjj) (by omega) (by omega) (by omega) (by omega)
              have pb := bB_b (S := S) (Q := QQ) (i := zii) (j := zjj) (by omega) (by omega) (by omega) (by omega)
              have pA := blk_b (m := MM) (S := S) (by omega) pa.1 pa.2
              have pB := blk_b (m := MM) (S := S) (by omega) pb.1 pb.2
              refine lv_iload hx hb d_Model_draw_142 (lv_at hl 8 rfl) ?_
              refine lv_aload_n hx hb d_Model_draw_144 rfl (lv_at hl 0 rfl) ?_
              refine lv_iload_n hx hb d_Model_draw_145 rfl (lv_at hl 1 rfl) ?_
              refine lv_iload hx hb d_Model_draw_146 (lv_at hl 6 rfl) ?_
              refine lv_iload hx hb d_Model_draw_148 (lv_at hl 7 rfl) ?_
              refine lv_iload hx hb d_Model_draw_150 (lv_at hl 10 rfl) ?_
              refine lv_iload hx hb d_Model_draw_152 (lv_at hl 9 rfl) ?_
              refine lv_iload hx hb d_Model_draw_154 (lv_at hl 4 rfl) ?_
              have hPc := hP.sub (ws' := []) [] rfl
              have hKc := hK.sub (tys' := []) [] rfl
              refine va_calli (va_runS (As := [.int v101, .int ii, .int jj, .int v2]) (rest := [.int v19, .int a1, .ref mo, .int kn]) ⟨hx, hb, hml, hown, hts⟩ (m_blockX l dC dI v101 ii jj v2 S zii zjj QQ h101 hii hjj h2 (by omega) (by omega) (by omega) (by omega) (by omega)) (aw_S 4 hts wd_652 wd_653 wd_5 wd_654 rfl rfl (by decide +kernel) ⟨Nat.le_of_ble_eq_true rfl, Nat.le_of_ble_eq_true rfl⟩) ⟨ro_blind, ro_pre hPc hKc⟩ rfl rfl hl.1 rfl (lv_room (Nat.le_of_ble_eq_true rfl)) d_Model_draw_156 ⟨Nat.le_of_ble_eq_true rfl, Nat.le_of_ble_eq_true rfl⟩) hS (fun q _ h => h.elim) (fun q h => h.elim) (fun v156 _ t9 H156 locs ht hvm h156 hB hz1 hk1 hS => ?_)
              have hP := ro_keep hP hk1
              clear hPc hKc ht hvm hB hz1 hk1
              refine lv_imul hx hb d_Model_draw_159 ?_
              refine lv_topi (fun v159 e159 => ?_)
              have h159 : v159.toInt = MM * (bA S QQ zii zjj) := by rw [e159]; exact ti_mul h19 h156 (by omega) (by omega)
              refine lv_iadd hx hb d_Model_draw_160 ?_
              refine lv_topi (fun v160 e160 => ?_)
              have h160 : v160.toInt = x + (MM * (bA S QQ zii zjj)) := by rw [e160]; exact ti_add g1 h159 (by omega) (by omega)
              refine lv_iload_n hx hb d_Model_draw_161 rfl (lv_at hl 2 rfl) ?_
              refine lv_iload hx hb d_Model_draw_162 (lv_at hl 6 rfl) ?_
              refine lv_iload hx hb d_Model_draw_164 (lv_at hl 7 rfl) ?_
              refine lv_iload hx hb d_Model_draw_166 (lv_at hl 10 rfl) ?_
              refine lv_iload hx hb d_Model_draw_168 (lv_at hl 9 rfl) ?_
              refine lv_iload hx hb d_Model_draw_170 (lv_at hl 4 rfl) ?_
              have hPc := hP.sub (ws' := []) [] rfl
              have hKc := hK.sub (tys' := []) [] rfl
              refine va_calli (va_runS (As := [.int v101, .int ii, .int jj, .int v2]) (rest := [.int v19, .int a2, .int v160, .ref mo, .int kn]) ⟨hx, hb, hml, hown, hts⟩ (m_blockY l dC dI v101 ii jj v2 S zii zjj QQ h101 hii hjj h2 (by omega) (by omega) (by omega) (by omega) (by omega)) (aw_S 4 hts wd_655 wd_656 wd_5 wd_657 rfl rfl (by decide +kernel) ⟨Nat.le_of_ble_eq_true rfl, Nat.le_of_ble_eq_true rfl⟩) ⟨ro_blind, ro_pre hPc hKc⟩ rfl rfl hl.1 rfl (lv_room (Nat.le_of_ble_eq_true rfl)) d_Model_draw_172 ⟨Nat.le_of_ble_eq_true rfl, Nat.le_of_ble_eq_true rfl⟩) hS (fun q _ h => h.elim) (fun q h => h.elim) (fun v172 _ t9 H172 locs ht hvm h172 hB hz1 hk1 hS => ?_)
              have hP := ro_keep hP hk1
              clear hPc hKc ht hvm hB hz1 hk1
              refine lv_imul hx hb d_Model_draw_175 ?_
              refine lv_topi (fun v175 e175 => ?_)
              have h175 : v175.toInt = MM * (bB S QQ zii zjj) := by rw [e175]; exact ti_mul h19 h172 (by omega) (by omega)
              refine lv_iadd hx hb d_Model_draw_176 ?_
              refine lv_topi (fun v176 e176 => ?_)
              have h176 : v176.toInt = y + (MM * (bB S QQ zii zjj)) := by rw [e176]; exact ti_add g2 h175 (by omega) (by omega)
              refine lv_iload hx hb d_Model_draw_177 (lv_at hl 6 rfl) ?_
              refine w_cut (I := fun H' locs' g' => ∃ (iv : Int32) (ls : Array Slot), g' = F0 m 197 ls [.int iv, .int v19, .int v176, .int v160, .ref mo, .int kn] ∧ lv_has ls 11 [(0, .ref mo), (1, .int a1), (2, .int a2), (3, .int a3), (4, .int v2), (5, .int v10), (6, .int v19), (7, .int v101), (8, .int kn), (9, .int jj), (10, .int ii)] ∧ (iv = zb (decide (mdl S zii zjj = 1))) ∧ va_P (dC, dI) vwCl [(mo, .inr (5, [.int tv, .int mw, .int mh, .ref ad, .ref asu, .ref aru, .int mro, .ref ast, .int msd, .ref afo, .int mmn])), (ad, .inl (kD, 262144, .inl fe))] H' ∧ va_D A [(mo, .inr (5, [.int tv, .int mw, .int mh, .ref ad, .ref asu, .ref aru, .int mro, .ref ast, .int msd, .ref afo, .int mmn])), (ad, .inl (kD, 262144, .inl fe))] ∧ va_S A s.heap H' locs') ?_ ?_
              · skip
                intro H197 locs g' hI
                obtain ⟨iv, ls, rfl, hl, iiv, hP, hD, hS⟩ := hI
                refine lv_iconst (v := 1) hx hb d_Model_draw_197 (by decide) ?_
                have hPc := hP.sub (ws' := [(mo, .inr (5, [.int tv, .int mw, .int mh, .ref ad, .ref asu, .ref aru, .int mro, .ref ast, .int msd, .ref afo, .int mmn])), (ad, .inl (kD, 262144, .inl fe))]) [0, 1] rfl
                have hKc := hK.sub (tys' := [(kD, .boolean)]) [0] rfl
                have hDc := hD.sub (ws' := [(mo, .inr (5, [.int tv, .int mw, .int mh, .ref ad, .ref asu, .ref aru, .int mro, .ref ast, .int msd, .ref afo, .int mmn])), (ad, .inl (kD, 262144, .inl fe))]) [0, 1] (by decide) rfl
                have hFc := va_free (wc := [(mo, .inr (5, [.int tv, .int mw, .int mh, .ref ad, .ref asu, .ref aru, .int mro, .ref ast, .int msd, .ref afo, .int mmn])), (ad, .inl (kD, 262144, .inl fe))]) hD hS hA [0, 1] rfl
                refine va_calli (va_runV (As := [.int v160, .int v176, .int v19, .int iv, .int 1]) (rest := [.int kn]) ⟨hx, hb, hml, hown, hts⟩ (m_differ l dC dI H197.size mo ad asu aru ast afo tv mw mh mro msd mmn Wd Ht hmw hmh hW1 hW2 hH1 hH2 kD fe (dP D x y MM S QQ (rowP S zjj zii)) j2 v160 v176 v19 iv 1 (x + (MM * (bA S QQ zii zjj))) (y + (MM * (bB S QQ zii zjj))) MM (decide (mdl S zii zjj = 1)) true h160 h176 h19 iiv rfl (by omega) (by omega) (by omega) (by omega) (by omega) (by omega)) (aw_V 5 hts wd_658 wd_660 ws_33 wd_5 wd_661 rfl rfl (by decide +kernel) ⟨Nat.le_of_ble_eq_true rfl, Nat.le_of_ble_eq_true rfl⟩) ⟨rw_blind, va_recv hKc hPc (ci := 5) (q0 := 0) rfl rfl, rw_pre hPc hKc hDc⟩ rfl rfl hl.1 rfl (lv_room (Nat.le_of_ble_eq_true rfl)) d_Model_draw_198 ⟨Nat.le_of_ble_eq_true rfl, Nat.le_of_ble_eq_true rfl⟩) hS (fun q _ h => hFc q h) hFc (fun v198 u198_fd t9 H198 locs ht hvm h198 hB hz1 hk1 hS => ?_)
                obtain ⟨hP1, _, hD1⟩ := hB
                rw [ht] at hP1
                try dsimp only at h198 hP1 hD1
                obtain ⟨hP, hD⟩ := va_join (wr := []) (w1 := [(mo, .inr (5, [.int tv, .int mw, .int mh, .ref ad, .ref asu, .ref aru, .int mro, .ref ast, .int msd, .ref afo, .int mmn])), (ad, .inl (kD, 262144, .inl u198_fd))]) hP hD [0, 1] [] rfl rfl (by decide) (by decide) hk1 hFc hP1 hD1
                have hP := hP.sub (ws' := [(mo, .inr (5, [.int tv, .int mw, .int mh, .ref ad, .ref asu, .ref aru, .int mro, .ref ast, .int msd, .ref afo, .int mmn])), (ad, .inl (kD, 262144, .inl u198_fd))]) [0, 1] rfl
                have hD := hD.sub (ws' := [(mo, .inr (5, [.int tv, .int mw, .int mh, .ref ad, .ref asu, .ref aru, .int mro, .ref ast, .int msd, .ref afo, .int mmn])), (ad, .inl (kD, 262144, .inl u198_fd))]) [0, 1] (by decide) rfl
                clear hPc hKc hDc hFc ht hvm hz1 hk1 hP1 hD1
                have n198 := h198.1
                rw [dp_count (by omega) (by omega) (by omega) (by omega) (by omega) (by omega) (by omega) rp_new] at n198
                have b198 := cI_nn (neB D (decide (mdl S zii zjj = 1))) (x + MM * bA S QQ zii zjj) (y + MM * bB S QQ zii zjj) MM MM
                have c198 := cI_le (neB D (decide (mdl S zii zjj = 1))) (x + MM * bA S QQ zii zjj) (y + MM * bB S QQ zii zjj) (w := MM) (h := MM) (by omega) (by omega)
                have d198 : dOK u198_fd (dP D x y MM S QQ (rowP S zjj (zii + 1))) := by rw [← dp_step (by omega) (by omega) (by omega) (by omega) (by omega) (by omega) (by omega) rfl (rp_add c139) (fun a c => pf_blk a c (by omega))]; exact h198.2
                have k198 : cI (neB D (decide (mdl S zii zjj = 1))) (x + MM * bA S QQ zii zjj) (y + MM * bB S QQ zii zjj) MM MM = (gG (gN D x y MM S QQ) S) zii zjj := by rw [gG_y c139]; rfl
                refine lv_iadd hx hb d_Model_draw_201 ?_
                refine lv_topi (fun v201 e201 => ?_)
                have h201 : v201.toInt = zkn + (cI (neB D (decide (mdl S zii zjj = 1))) (x + MM * bA S QQ zii zjj) (y + MM * bB S QQ zii zjj) MM MM) := by rw [e201]; exact ti_add hkn n198 (by omega) (by omega)
                refine lv_istore (lv' := [(8, .int v201), (0, .ref mo), (1, .int a1), (2, .int a2), (3, .int a3), (4, .int v2), (5, .int v10), (6, .int v19), (7, .int v101), (9, .int jj), (10, .int ii)]) hx hb d_Model_draw_202 hl (by decide) rfl (fun ls hl => ?_)
                obtain ⟨v204, e204⟩ : ∃ y : Int32, y = ii + 1 := ⟨_, rfl⟩
                have h204 : v204.toInt = zii + 1 := by rw [e204]; exact ti_add hii (ti_k (by decide)) (by omega) (by omega)
                refine lv_iinc (v := v204) (lv' := [(10, .int v204), (8, .int v201), (0, .ref mo), (1, .int a1), (2, .int a2), (3, .int a3), (4, .int v2), (5, .int v10), (6, .int v19), (7, .int v101), (9, .int jj)]) hx hb d_Model_draw_204 hl (k := 10) rfl (by rw [e204]; rfl) (by decide) rfl (fun ls hl => ?_)
                refine lv_goto (tgt := 122) hx hb d_Model_draw_207 (by decide) ?_
                exact ih122 _ (by omega) _ _ _ ⟨v201, (zkn + (cI (neB D (decide (mdl S zii zjj = 1))) (x + MM * bA S QQ zii zjj) (y + MM * bB S QQ zii zjj) MM MM)), v204, (zii + 1), u198_fd, ls, rfl, lv_sub hl [2, 3, 4, 5, 6, 7, 8, 9, 1, 10, 0] rfl, rfl, h201, h204, by omega, by first | exact d198 | (rw [rp_skip c139]; exact j2), by rw [s1_nx (by omega)]; first | (rw [gG_n c139]; omega) | omega, hP, hD, hS⟩
              · skip
                intro hj197
                refine lv_iload hx hb d_Model_draw_179 (lv_at hl 5 rfl) ?_
                refine lv_iload hx hb d_Model_draw_181 (lv_at hl 10 rfl) ?_
                refine lv_iload hx hb d_Model_draw_183 (lv_at hl 9 rfl) ?_
                have hPc := hP.sub (ws' := []) [] rfl
                have hKc := hK.sub (tys' := []) [] rfl
                refine va_calli (va_runS (As := [.int v10, .int ii, .int jj]) (rest := [.int v19, .int v176, .int v160, .ref mo, .int kn]) ⟨hx, hb, hml, hown, hts⟩ (m_module l dC dI v10 ii jj VV zii zjj h10 hii hjj (by omega) (by omega) (by omega) (by omega) (by omega) (by omega)) (aw_S 3 hts wd_643 wd_644 wd_5 wd_645 rfl rfl (by decide +kernel) ⟨Nat.le_of_ble_eq_true rfl, Nat.le_of_ble_eq_true rfl⟩) ⟨ro_blind, ro_pre hPc hKc⟩ rfl rfl hl.1 rfl (lv_room (Nat.le_of_ble_eq_true rfl)) d_Model_draw_185 ⟨Nat.le_of_ble_eq_true rfl, Nat.le_of_ble_eq_true rfl⟩) hS (fun q _ h => h.elim) (fun q h => h.elim) (fun v185 _ t9 H185 locs ht hvm h185 hB hz1 hk1 hS => ?_)
                have hP := ro_keep hP hk1
                clear hPc hKc ht hvm hB hz1 hk1
                rw [← kS] at h185
                refine lv_iconst (v := 1) hx hb d_Model_draw_188 (by decide) ?_
                refine lv_icmp_ne (tgt := 196) hx hb d_Model_draw_189 (by decide) (fun c189 => ?_) (fun c189 => ?_)
                · skip
                  have c189 : ¬ ((mdl S zii zjj) = 1) := fun q => c189 ((ti_eq h185 (ti_k (by decide))).mpr q)
                  refine lv_iconst (v := 0) hx hb d_Model_draw_196 (by decide) ?_
                  exact hj197 _ _ _ ⟨0, ls, rfl, lv_sub hl [0, 1, 2, 3, 4, 5, 6, 7, 8, 9, 10] rfl, by first | (rw [decide_eq_true c189]; rfl) | (rw [decide_eq_false c189]; rfl), hP, hD, hS⟩
                · skip
                  have c189 : (mdl S zii zjj) = 1 := (ti_eq h185 (ti_k (by decide))).mp c189
                  refine lv_iconst (v := 1) hx hb d_Model_draw_192 (by decide) ?_
                  refine lv_goto (tgt := 197) hx hb d_Model_draw_193 (by decide) ?_
                  exact hj197 _ _ _ ⟨1, ls, rfl, lv_sub hl [0, 1, 2, 3, 4, 5, 6, 7, 8, 9, 10] rfl, by first | (rw [decide_eq_true c189]; rfl) | (rw [decide_eq_false c189]; rfl), hP, hD, hS⟩
      · skip
        have c89 : ¬ (0 ≤ x ∧ x ≤ Wd - LN ∧ 0 ≤ y ∧ y ≤ Ht - LN) := bi_z h86 c89
        refine lv_aload_n hx hb d_Model_draw_92 rfl (lv_at hl 0 rfl) ?_
        refine lv_iconst (v := 1) hx hb d_Model_draw_93 (by decide) ?_
        refine va_put (D := (dC, dI)) (ci := 5) (v := .int 1) (ty := .int) (C := R_Model) (T := T_Model) (N := 11) hx hb hts i_Model t_Model t_Model_ok n_Model hown hK hP hD hS 0 rfl rfl 0 (by decide) (hts _ wd_565) (fun _ h9 => h9) rfl (by decide +kernel) rfl rfl (Nat.le_of_ble_eq_true rfl) d_Model_draw_94 (fun H94 locs hP hD hS => ?_)
        have hP : va_P (dC, dI) vwCl [(mo, .inr (5, [.int 1, .int mw, .int mh, .ref ad, .ref asu, .ref aru, .int mro, .ref ast, .int msd, .ref afo, .int mmn])), (ad, .inl (kD, 262144, .inl fd))] H94 := hP
        have hD : va_D A [(mo, .inr (5, [.int 1, .int mw, .int mh, .ref ad, .ref asu, .ref aru, .int mro, .ref ast, .int msd, .ref afo, .int mmn])), (ad, .inl (kD, 262144, .inl fd))] := hD
        refine lv_iconst (v := 0) hx hb d_Model_draw_97 (by decide) ?_
        have hpost : (¬ (drOK Wd Ht x y PL) ∧ (0 : Int32) = 0 ∧ (1 : Int32) = 1 ∧ dOK fd D) ∨ ((drOK Wd Ht x y PL) ∧ (0 : Int32).toInt = DW D x y (PL / 256 % 32) (17 + 4 * (PL / 4 % 64)) (PL % 4) ∧ (1 : Int32) = 0 ∧ dOK fd (dP D x y (PL / 256 % 32) (17 + 4 * (PL / 4 % 64)) (PL % 4) (fxd (17 + 4 * (PL / 4 % 64))))) := by
          refine Or.inl ⟨fun q => ?_, rfl, rfl, hfd⟩
          unfold drOK at q
          have w0 := f2 (by omega)
          have w1 := f10 (by omega)
          have w2 := f19 (by omega)
          first | omega | (rw [← w1, ← w2, ← kLN] at q; omega)
        have hP9 := hP.sub (ws' := [(mo, .inr (5, [.int 1, .int mw, .int mh, .ref ad, .ref asu, .ref aru, .int mro, .ref ast, .int msd, .ref afo, .int mmn])), (ad, .inl (kD, 262144, .inl fd))]) [0, 1] rfl
        have hD9 := hD.sub (ws' := [(mo, .inr (5, [.int 1, .int mw, .int mh, .ref ad, .ref asu, .ref aru, .int mro, .ref ast, .int msd, .ref afo, .int mmn])), (ad, .inl (kD, 262144, .inl fd))]) [0, 1] (by decide) rfl
        have hK9 := hK.sub (tys' := [(kD, .boolean)]) [0] rfl
        exact W.iret (v := 0) hx hb hr (fun t ht hW => ⟨⟨0, (1, fd), rfl, hpost, by rw [ht]; exact hP9, va_K.moved hW.alike hK9, hD9⟩, hS.F ht⟩) hS.2.2 d_Model_draw_98
  · skip
    intro hj65
    refine lv_iload_n hx hb d_Model_draw_23 rfl (lv_at hl 6 rfl) ?_
    refine lv_if_lt (tgt := 60) hx hb d_Model_draw_24 (by decide) (fun c24 => ?_) (fun c24 => ?_)
    · skip
      have c24 : PL < 0 := (ti_lt g3 (ti_k (by decide))).mp c24
      refine lv_iconst (v := 1) hx hb d_Model_draw_60 (by decide) ?_
      refine lv_goto (tgt := 65) hx hb d_Model_draw_61 (by decide) ?_
      exact hj65 _ _ _ ⟨1, 1, ls, rfl, lv_sub hl [3, 4, 5, 6, 2, 1, 0] rfl, (ti_k (by decide)), by omega, hP, hD, hS⟩
    · skip
      have c24 : ¬ (PL < 0) := fun q => c24 ((ti_lt g3 (ti_k (by decide))).mpr q)
      refine lv_iload_n hx hb d_Model_draw_27 rfl (lv_at hl 6 rfl) ?_
      refine lv_sipush (v := 8191) hx hb d_Model_draw_28 (by decide) ?_
      refine lv_icmp_gt (tgt := 60) hx hb d_Model_draw_31 (by decide) (fun c31 => ?_) (fun c31 => ?_)
      · skip
        have c31 : (8191 : Int) < PL := (ti_lt (ti_k (by decide)) g3).mp c31
        refine lv_iconst (v := 1) hx hb d_Model_draw_60 (by decide) ?_
        refine lv_goto (tgt := 65) hx hb d_Model_draw_61 (by decide) ?_
        exact hj65 _ _ _ ⟨1, 1, ls, rfl, lv_sub hl [3, 4, 5, 6, 2, 1, 0] rfl, (ti_k (by decide)), by omega, hP, hD, hS⟩
      · skip
        have c31 : ¬ ((8191 : Int) < PL) := fun q => c31 ((ti_lt (ti_k (by decide)) g3).mpr q)
        refine lv_iload hx hb d_Model_draw_34 (lv_at hl 0 rfl) ?_
        refine lv_iconst (v := 1) hx hb d_Model_draw_36 (by decide) ?_
        refine lv_icmp_lt (tgt := 60) hx hb d_Model_draw_37 (by decide) (fun c37 => ?_) (fun c37 => ?_)
        · skip
          have c37 : MM < 1 := (ti_lt h19 (ti_k (by decide))).mp c37
          refine lv_iconst (v := 1) hx hb d_Model_draw_60 (by decide) ?_
          refine lv_goto (tgt := 65) hx hb d_Model_draw_61 (by decide) ?_
          exact hj65 _ _ _ ⟨1, 1, ls, rfl, lv_sub hl [3, 4, 5, 6, 2, 1, 0] rfl, (ti_k (by decide)), by omega, hP, hD, hS⟩
        · skip
          have c37 : ¬ (MM < 1) := fun q => c37 ((ti_lt h19 (ti_k (by decide))).mpr q)
          refine lv_iload hx hb d_Model_draw_40 (lv_at hl 0 rfl) ?_
          refine lv_bipush (v := 16) hx hb d_Model_draw_42 (by decide) ?_
          refine lv_icmp_gt (tgt := 60) hx hb d_Model_draw_44 (by decide) (fun c44 => ?_) (fun c44 => ?_)
          · skip
            have c44 : (16 : Int) < MM := (ti_lt (ti_k (by decide)) h19).mp c44
            refine lv_iconst (v := 1) hx hb d_Model_draw_60 (by decide) ?_
            refine lv_goto (tgt := 65) hx hb d_Model_draw_61 (by decide) ?_
            exact hj65 _ _ _ ⟨1, 1, ls, rfl, lv_sub hl [3, 4, 5, 6, 2, 1, 0] rfl, (ti_k (by decide)), by omega, hP, hD, hS⟩
          · skip
            have c44 : ¬ ((16 : Int) < MM) := fun q => c44 ((ti_lt (ti_k (by decide)) h19).mpr q)
            refine lv_iload hx hb d_Model_draw_47 (lv_at hl 1 rfl) ?_
            refine lv_iconst (v := 1) hx hb d_Model_draw_49 (by decide) ?_
            refine lv_icmp_lt (tgt := 60) hx hb d_Model_draw_50 (by decide) (fun c50 => ?_) (fun c50 => ?_)
            · skip
              have c50 : VV < 1 := (ti_lt h10 (ti_k (by decide))).mp c50
              refine lv_iconst (v := 1) hx hb d_Model_draw_60 (by decide) ?_
              refine lv_goto (tgt := 65) hx hb d_Model_draw_61 (by decide) ?_
              exact hj65 _ _ _ ⟨1, 1, ls, rfl, lv_sub hl [3, 4, 5, 6, 2, 1, 0] rfl, (ti_k (by decide)), by omega, hP, hD, hS⟩
            · skip
              have c50 : ¬ (VV < 1) := fun q => c50 ((ti_lt h10 (ti_k (by decide))).mpr q)
              refine lv_iload hx hb d_Model_draw_53 (lv_at hl 1 rfl) ?_
              refine lv_bipush (v := 40) hx hb d_Model_draw_55 (by decide) ?_
              refine lv_icmp_le (tgt := 64) hx hb d_Model_draw_57 (by decide) (fun c57 => ?_) (fun c57 => ?_)
              · skip
                have c57 : VV ≤ 40 := (ti_le h10 (ti_k (by decide))).mp c57
                refine lv_iconst (v := 0) hx hb d_Model_draw_64 (by decide) ?_
                exact hj65 _ _ _ ⟨0, 0, ls, rfl, lv_sub hl [3, 4, 5, 6, 2, 1, 0] rfl, (ti_k (by decide)), by omega, hP, hD, hS⟩
              · skip
                have c57 : ¬ (VV ≤ 40) := fun q => c57 ((ti_le h10 (ti_k (by decide))).mpr q)
                refine lv_iconst (v := 1) hx hb d_Model_draw_60 (by decide) ?_
                refine lv_goto (tgt := 65) hx hb d_Model_draw_61 (by decide) ?_
                exact hj65 _ _ _ ⟨1, 1, ls, rfl, lv_sub hl [3, 4, 5, 6, 2, 1, 0] rfl, (ti_k (by decide)), by omega, hP, hD, hS⟩
