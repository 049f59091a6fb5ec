set_option maxHeartbeats 4000000 in
set_option maxRecDepth 100000 in
theorem m_differ (l : Launch) (dC : Nat → ClassId) (dI : Nat → Nat → Nat) (sz : Nat) (mo ad asu aru ast afo : Nat) (mth mw mh mro msd mmn : Int32) (Wd Ht : Int) (hmw : mw.toInt = Wd) (hmh : mh.toInt = Ht) (hW1 : 1 ≤ Wd) (hW2 : Wd ≤ 512) (hH1 : 1 ≤ Ht) (hH2 : Ht ≤ 512) (kD : ClassId) (fd : Nat → Int32) (D : Int → Int → Bool) (hfd : dOK fd D) (a1 a2 a3 a4 a5 : Int32) (x y mm : Int) (ib db : Bool) (g1 : a1.toInt = x) (g2 : a2.toInt = y) (g3 : a3.toInt = mm) (g4 : a4 = zb ib) (g5 : a5 = zb db) (b1 : 0 ≤ x) (b2 : 0 ≤ y) (b3 : 1 ≤ mm) (b4 : mm ≤ 16) (b5 : x + mm ≤ 512) (b6 : y + mm ≤ 512) : Met l y_Model_differ (.code y_Model_differ b_Model_differ 9 (some .int) :: allw) ({ frames := 1, cells := 0, slots := 0, locals := 22 }) (va_Pc [.ref mo, .int a1, .int a2, .int a3, .int a4, .int a5] (rw_B (dC, dI) vwCl [(mo, .inr (5, [.int mth, .int mw, .int mh, .ref ad, .ref asu, .ref aru, .int mro, .ref ast, .int msd, .ref afo, .int mmn])), (ad, .inl (kD, 262144, .inl fd))] [(kD, .boolean)] sz)) (va_Qi (fun (r : Int32) (u : Nat → Int32) => r.toInt = cI (neB D ib) x y mm mm ∧ dOK u (pF D (fun a c => if db = true then ib else D a c) x y mm (y + mm) x)) (fun u t => rw_E (dC, dI) vwCl [(mo, .inr (5, [.int mth, .int mw, .int mh, .ref ad, .ref asu, .ref aru, .int mro, .ref ast, .int msd, .ref afo, .int mmn])), (ad, .inl (kD, 262144, .inl u))] [(kD, .boolean)] (va_A [(mo, .inr (5, [.int mth, .int mw, .int mh, .ref ad, .ref asu, .ref aru, .int mro, .ref ast, .int msd, .ref afo, .int mmn])), (ad, .inl (kD, 262144, .inl fd))] sz) t) (va_A [(mo, .inr (5, [.int mth, .int mw, .int mh, .ref ad, .ref asu, .ref aru, .int mro, .ref ast, .int msd, .ref afo, .int mmn])), (ad, .inl (kD, 262144, .inl fd))] sz)) 0 0 (va_A [(mo, .inr (5, [.int mth, .int mw, .int mh, .ref ad, .ref asu, .ref aru, .int mro, .ref ast, .int msd, .ref afo, .int mmn])), (ad, .inl (kD, 262144, .inl fd))] sz) := by
  refine Met.ofW (cc := b_Model_differ) (maxL := 9) (ret := (some .int)) (by decide) rfl ?_
  intro p e s m args below meth c s₁ B hml hv
  obtain ⟨rfl, hsz, hP, hK, hD0⟩ := hv
  have hx := B.exec
  have hb := B.bytes
  have hr := B.returns
  have hts : ∀ w ∈ allw, w.before _ s = true := fun w h => atoms_spec (ws := .code y_Model_differ b_Model_differ 9 (some .int) :: allw) B.pre w (List.mem_cons_of_mem _ h)
  have hown : s.vm.findClass R_Model = some m.cls := findClass_of_methodNamed B.named
  have hlocks := B.notSynchronized
  subst hsz
  have hD := hD0.self (sz := s.heap.size)
  generalize hAe : va_A [(mo, .inr (5, [.int mth, .int mw, .int mh, .ref ad, .ref asu, .ref aru, .int mro, .ref ast, .int msd, .ref afo, .int mmn])), (ad, .inl (kD, 262144, .inl fd))] s.heap.size = A at hD ⊢
  have hA : ∀ q : Nat, s.heap.size ≤ q → A q := fun q h => by rw [← hAe]; exact Or.inr h
  have hS : va_S A s.heap s.heap [] := va_S.rf
  have hP : va_P (dC, dI) vwCl [(mo, .inr (5, [.int mth, .int mw, .int mh, .ref ad, .ref asu, .ref aru, .int mro, .ref ast, .int msd, .ref afo, .int mmn])), (ad, .inl (kD, 262144, .inl fd))] s.heap := hP
  have hl := lv_entry ([.ref mo, .int a1, .int a2, .int a3, .int a4, .int a5]) (n := 9) (Nat.le_of_ble_eq_true rfl)
  rw [lg_entry_eq]
  generalize (lg_sl ([.ref mo, .int a1, .int a2, .int a3, .int a4, .int a5]) ++ List.replicate (9 - (lg_sl ([.ref mo, .int a1, .int a2, .int a3, .int a4, .int a5])).length) Slot.unset).toArray = ls at hl ⊢
  have hl : lv_has ls 9 [(0, .ref mo), (1, .int a1), (2, .int a2), (3, .int a3), (4, .int a4), (5, .int a5)] := hl
  refine lv_iconst (v := 0) hx hb d_Model_differ_0 (by decide) ?_
  refine lv_istore (lv' := [(6, .int 0), (0, .ref mo), (1, .int a1), (2, .int a2), (3, .int a3), (4, .int a4), (5, .int a5)]) hx hb d_Model_differ_1 hl (by decide) rfl (fun ls hl => ?_)
  refine lv_iload_n hx hb d_Model_differ_3 rfl (lv_at hl 3 rfl) ?_
  refine lv_istore (lv' := [(7, .int a2), (6, .int 0), (0, .ref mo), (1, .int a1), (2, .int a2), (3, .int a3), (4, .int a4), (5, .int a5)]) hx hb d_Model_differ_4 hl (by decide) rfl (fun ls hl => ?_)
  refine w_loop (I := fun n H' locs' g' => ∃ (nn : Int32) (znn : Int) (py : Int32) (zpy : Int) (fc : Nat → Int32) (ls : Array Slot), g' = F0 m 6 ls [] ∧ lv_has ls 9 [(0, .ref mo), (1, .int a1), (2, .int a2), (3, .int a3), (4, .int a4), (5, .int a5), (6, .int nn), (7, .int py)] ∧ n = (y + mm - zpy).toNat ∧ nn.toInt = znn ∧ py.toInt = zpy ∧ (y ≤ zpy ∧ zpy ≤ y + mm) ∧ (dOK fc (pF D (fun a c => if db = true then ib else D a c) x y mm zpy x)) ∧ (znn = cI (neB D ib) x y mm (zpy - y)) ∧ va_P (dC, dI) vwCl [(mo, .inr (5, [.int mth, .int mw, .int mh, .ref ad, .ref asu, .ref aru, .int mro, .ref ast, .int msd, .ref afo, .int mmn])), (ad, .inl (kD, 262144, .inl fc))] H' ∧ va_D A [(mo, .inr (5, [.int mth, .int mw, .int mh, .ref ad, .ref asu, .ref aru, .int mro, .ref ast, .int msd, .ref afo, .int mmn])), (ad, .inl (kD, 262144, .inl fc))] ∧ va_S A s.heap H' locs') ?_ ⟨0, 0, a2, y, fd, ls, rfl, lv_sub hl [2, 3, 4, 5, 6, 7, 1, 0] rfl, rfl, (ti_k (by decide)), g2, by omega, by rw [pf_0]; exact hfd, (cI_0h (neB D ib) x y mm (by omega)).symm, hP, hD, hS⟩
  intro n6 H6 locs g' hI ih6
  obtain ⟨nn, znn, py, zpy, fc, ls, rfl, hl, hn, hnn, hpy, i1, i2, i3, hP, hD, hS⟩ := hI
  have bn := cI_nn (neB D ib) x y mm (zpy - y)
  have bm := cI_le (neB D ib) x y (w := mm) (h := zpy - y) (by omega) (by omega)
  have bq := mul_b2 (a := mm) (b := zpy - y) (p := 16) (q := 16) (by omega) (by omega) (by omega) (by omega)
  refine lv_iload hx hb d_Model_differ_6 (lv_at hl 7 rfl) ?_
  refine lv_iload_n hx hb d_Model_differ_8 rfl (lv_at hl 2 rfl) ?_
  refine lv_iload_n hx hb d_Model_differ_9 rfl (lv_at hl 3 rfl) ?_
  refine lv_iadd hx hb d_Model_differ_10 ?_
  refine lv_topi (fun v10 e10 => ?_)
  have h10 : v10.toInt = y + mm := by rw [e10]; exact ti_add g2 g3 (by omega) (by omega)
  refine lv_icmp_ge (tgt := 92) hx hb d_Model_differ_11 (by decide) (fun c11 => ?_) (fun c11 => ?_)
  · skip
    have c11 : (y + mm) ≤ zpy := (ti_le h10 hpy).mp c11
    refine lv_iload hx hb d_Model_differ_92 (lv_at hl 6 rfl) ?_
    have hpost : nn.toInt = cI (neB D ib) x y mm mm ∧ dOK fc (pF D (fun a c => if db = true then ib else D a c) x y mm (y + mm) x) := by
      have e : zpy = y + mm := by omega
      rw [e] at i2 i3
      refine ⟨?_, i2⟩
      rw [hnn, i3]; congr 1; omega
    have hP9 := hP.sub (ws' := [(mo, .inr (5, [.int mth, .int mw, .int mh, .ref ad, .ref asu, .ref aru, .int mro, .ref ast, .int msd, .ref afo, .int mmn])), (ad, .inl (kD, 262144, .inl fc))]) [0, 1] rfl
    have hD9 := hD.sub (ws' := [(mo, .inr (5, [.int mth, .int mw, .int mh, .ref ad, .ref asu, .ref aru, .int mro, .ref ast, .int msd, .ref afo, .int mmn])), (ad, .inl (kD, 262144, .inl fc))]) [0, 1] (by decide) rfl
    have hK9 := hK.sub (tys' := [(kD, .boolean)]) [0] rfl
    exact W.iret (v := nn) hx hb hr (fun t ht hW => ⟨⟨nn, fc, rfl, hpost, by rw [ht]; exact hP9, va_K.moved hW.alike hK9, hD9⟩, hS.F ht⟩) hS.2.2 d_Model_differ_94
  · skip
    have c11 : ¬ ((y + mm) ≤ zpy) := fun q => c11 ((ti_le h10 hpy).mpr q)
    refine lv_iload_n hx hb d_Model_differ_14 rfl (lv_at hl 1 rfl) ?_
    refine lv_istore (lv' := [(8, .int a1), (0, .ref mo), (1, .int a1), (2, .int a2), (3, .int a3), (4, .int a4), (5, .int a5), (6, .int nn), (7, .int py)]) hx hb d_Model_differ_15 hl (by decide) rfl (fun ls hl => ?_)
    refine w_loop (I := fun n H' locs' g' => ∃ (kn : Int32) (zkn : Int) (px : Int32) (zpx : Int) (fe : Nat → Int32) (ls : Array Slot), g' = F0 m 17 ls [] ∧ lv_has ls 9 [(0, .ref mo), (1, .int a1), (2, .int a2), (3, .int a3), (4, .int a4), (5, .int a5), (6, .int kn), (7, .int py), (8, .int px)] ∧ n = (x + mm - zpx).toNat ∧ kn.toInt = zkn ∧ px.toInt = zpx ∧ (x ≤ zpx ∧ zpx ≤ x + mm) ∧ (dOK fe (pF D (fun a c => if db = true then ib else D a c) x y mm zpy zpx)) ∧ (zkn = cI (neB D ib) x y mm (zpy - y) + rc (neB D ib) x zpy (zpx - x).toNat) ∧ va_P (dC, dI) vwCl [(mo, .inr (5, [.int mth, .int mw, .int mh, .ref ad, .ref asu, .ref aru, .int mro, .ref ast, .int msd, .ref afo, .int mmn])), (ad, .inl (kD, 262144, .inl fe))] H' ∧ va_D A [(mo, .inr (5, [.int mth, .int mw, .int mh, .ref ad, .ref asu, .ref aru, .int mro, .ref ast, .int msd, .ref afo, .int mmn])), (ad, .inl (kD, 262144, .inl fe))] ∧ va_S A s.heap H' locs') ?_ ⟨nn, znn, a1, x, fc, ls, rfl, lv_sub hl [1, 2, 3, 4, 5, 6, 7, 8, 0] rfl, rfl, hnn, g1, by omega, i2, by rw [rc_0, Int.add_zero]; exact i3, hP, hD, hS⟩
    intro n17 H17 locs g' hI ih17
    obtain ⟨kn, zkn, px, zpx, fe, ls, rfl, hl, hn, hkn, hpx, j1, j2, j3, hP, hD, hS⟩ := hI
    have rn := rc_nn (neB D ib) x zpy (zpx - x).toNat
    have rm := rc_le (neB D ib) x zpy (zpx - x).toNat
    refine lv_iload hx hb d_Model_differ_17 (lv_at hl 8 rfl) ?_
    refine lv_iload_n hx hb d_Model_differ_19 rfl (lv_at hl 1 rfl) ?_
    refine lv_iload_n hx hb d_Model_differ_20 rfl (lv_at hl 3 rfl) ?_
    refine lv_iadd hx hb d_Model_differ_21 ?_
    refine lv_topi (fun v21 e21 => ?_)
    have h21 : v21.toInt = x + mm := by rw [e21]; exact ti_add g1 g3 (by omega) (by omega)
    refine lv_icmp_ge (tgt := 86) hx hb d_Model_differ_22 (by decide) (fun c22 => ?_) (fun c22 => ?_)
    · skip
      have c22 : (x + mm) ≤ zpx := (ti_le h21 hpx).mp c22
      obtain ⟨v86, e86⟩ : ∃ y : Int32, y = py + 1 := ⟨_, rfl⟩
      have h86 : v86.toInt = zpy + 1 := by rw [e86]; exact ti_add hpy (ti_k (by decide)) (by omega) (by omega)
      refine lv_iinc (v := v86) (lv' := [(7, .int v86), (0, .ref mo), (1, .int a1), (2, .int a2), (3, .int a3), (4, .int a4), (5, .int a5), (6, .int kn), (8, .int px)]) hx hb d_Model_differ_86 hl (k := 7) rfl (by rw [e86]; rfl) (by decide) rfl (fun ls hl => ?_)
      refine lv_goto (tgt := 6) hx hb d_Model_differ_89 (by decide) ?_
      have ex : zpx = x + mm := by omega
      exact ih6 _ (by omega) _ _ _ ⟨kn, zkn, v86, (zpy + 1), fe, ls, rfl, lv_sub hl [1, 2, 3, 4, 5, 6, 7, 0] rfl, rfl, hkn, h86, by omega, by rw [← pf_row (by omega), ← ex]; exact j2, by rw [cIn_row (by omega) (by omega), ← ex]; exact j3, hP, hD, hS⟩
    · skip
      have c22 : ¬ ((x + mm) ≤ zpx) := fun q => c22 ((ti_le h21 hpx).mpr q)
      refine lv_iload hx hb d_Model_differ_25 (lv_at hl 6 rfl) ?_
      refine lv_aload_n hx hb d_Model_differ_27 rfl (lv_at hl 0 rfl) ?_
      refine lv_iload hx hb d_Model_differ_28 (lv_at hl 8 rfl) ?_
      refine lv_iload hx hb d_Model_differ_30 (lv_at hl 7 rfl) ?_
      have hPc := hP.sub (ws' := [(mo, .inr (5, [.int mth, .int mw, .int mh, .ref ad, .ref asu, .ref aru, .int mro, .ref ast, .int msd, .ref afo, .int mmn])), (ad, .inl (kD, 262144, .inl fe))]) [0, 1] rfl
      have hKc := hK.sub (tys' := [(kD, .boolean)]) [0] rfl
      refine va_calli (va_runV (As := [.int px, .int py]) (rest := [.int kn]) ⟨hx, hb, hml, hown, hts⟩ (m_isDark l dC dI mo ad asu aru ast afo mth mw mh mro msd mmn Wd Ht hmw hmh hW1 hW2 hH1 hH2 kD fe (pF D (fun a c => if db = true then ib else D a c) x y mm zpy zpx) j2 px py zpx zpy hpx hpy (by omega) (by omega) (by omega) (by omega)) (aw_V 2 hts wd_620 wd_622 ws_31 wd_5 wd_623 rfl rfl (by decide +kernel) ⟨Nat.le_of_ble_eq_true rfl, Nat.le_of_ble_eq_true rfl⟩) ⟨ro_blind, va_recv hKc hPc (ci := 5) (q0 := 0) rfl rfl, ro_pre hPc hKc⟩ rfl rfl hl.1 rfl (lv_room (Nat.le_of_ble_eq_true rfl)) d_Model_differ_32 ⟨Nat.le_of_ble_eq_true rfl, Nat.le_of_ble_eq_true rfl⟩) hS (fun q _ h => h.elim) (fun q h => h.elim) (fun v32 _ t9 H32 locs ht hvm h32 hB hz1 hk1 hS => ?_)
      have hP := ro_keep hP hk1
      clear hPc hKc ht hvm hB hz1 hk1
      rw [pf_at] at h32
      refine lv_iload hx hb d_Model_differ_35 (lv_at hl 4 rfl) ?_
      refine lv_icmp_ne (tgt := 44) hx hb d_Model_differ_37 (by decide) (fun c37 => ?_) (fun c37 => ?_)
      · skip
        have b37 : neB D ib zpx zpy = true := by unfold neB; rw [h32, g4, zb_eq] at c37; simpa using c37
        refine lv_iconst (v := 1) hx hb d_Model_differ_44 (by decide) ?_
        refine lv_iadd hx hb d_Model_differ_45 ?_
        refine lv_topi (fun v45 e45 => ?_)
        have h45 : v45.toInt = zkn + 1 := by rw [e45]; exact ti_add hkn (ti_k (by decide)) (by omega) (by omega)
        refine lv_istore (lv' := [(6, .int v45), (0, .ref mo), (1, .int a1), (2, .int a2), (3, .int a3), (4, .int a4), (5, .int a5), (7, .int py), (8, .int px)]) hx hb d_Model_differ_46 hl (by decide) rfl (fun ls hl => ?_)
        refine lv_aload_n hx hb d_Model_differ_48 rfl (lv_at hl 1 rfl) ?_
        refine va_get (D := (dC, dI)) (ci := 5) (v := .ref ad) (C := R_Model) (T := T_Model) (N := 11) hx hb hts i_Model hown hK hP 0 rfl rfl 3 (by decide) (hts _ wd_568) (fun _ h9 => h9) rfl d_Model_differ_49 ?_
        refine lv_sipush (v := 512) hx hb d_Model_differ_52 (by decide) ?_
        refine lv_iload hx hb d_Model_differ_55 (lv_at hl 7 rfl) ?_
        refine lv_imul hx hb d_Model_differ_57 ?_
        refine lv_topi (fun v57 e57 => ?_)
        have h57 : v57.toInt = 512 * zpy := by rw [e57]; exact ti_mul (ti_k (by decide)) hpy (by omega) (by omega)
        refine lv_iload hx hb d_Model_differ_58 (lv_at hl 8 rfl) ?_
        refine lv_iadd hx hb d_Model_differ_60 ?_
        refine lv_topi (fun v60 e60 => ?_)
        have h60 : v60.toInt = (512 * zpy) + zpx := by rw [e60]; exact ti_add h57 hpx (by omega) (by omega)
        refine lv_iload hx hb d_Model_differ_61 (lv_at hl 6 rfl) ?_
        refine lv_if_eq (tgt := 71) hx hb d_Model_differ_63 (by decide) (fun c63 => ?_) (fun c63 => ?_)
        · skip
          have c63 : ¬ (db = true) := bi_z (zb_isB g5) c63
          refine lv_aload_n hx hb d_Model_differ_71 rfl (lv_at hl 1 rfl) ?_
          refine lv_iload hx hb d_Model_differ_72 (lv_at hl 8 rfl) ?_
          refine lv_iload hx hb d_Model_differ_74 (lv_at hl 7 rfl) ?_
          have hPc := hP.sub (ws' := [(mo, .inr (5, [.int mth, .int mw, .int mh, .ref ad, .ref asu, .ref aru, .int mro, .ref ast, .int msd, .ref afo, .int mmn])), (ad, .inl (kD, 262144, .inl fe))]) [0, 1] rfl
          have hKc := hK.sub (tys' := [(kD, .boolean)]) [0] rfl
          refine va_calli (va_runV (As := [.int px, .int py]) (rest := [.int v60, .ref ad]) ⟨hx, hb, hml, hown, hts⟩ (m_isDark l dC dI mo ad asu aru ast afo mth mw mh mro msd mmn Wd Ht hmw hmh hW1 hW2 hH1 hH2 kD fe (pF D (fun a c => if db = true then ib else D a c) x y mm zpy zpx) j2 px py zpx zpy hpx hpy (by omega) (by omega) (by omega) (by omega)) (aw_V 2 hts wd_620 wd_622 ws_31 wd_5 wd_623 rfl rfl (by decide +kernel) ⟨Nat.le_of_ble_eq_true rfl, Nat.le_of_ble_eq_true rfl⟩) ⟨ro_blind, va_recv hKc hPc (ci := 5) (q0 := 0) rfl rfl, ro_pre hPc hKc⟩ rfl rfl hl.1 rfl (lv_room (Nat.le_of_ble_eq_true rfl)) d_Model_differ_76 ⟨Nat.le_of_ble_eq_true rfl, Nat.le_of_ble_eq_true rfl⟩) hS (fun q _ h => h.elim) (fun q h => h.elim) (fun v76 _ t9 H76 locs ht hvm h76 hB hz1 hk1 hS => ?_)
          have hP := ro_keep hP hk1
          clear hPc hKc ht hvm hB hz1 hk1
          rw [pf_at] at h76
          have nv : vp_nar .boolean v76 = zb ((fun a c => if db = true then ib else D a c) zpx zpy) := by first | (simp only [if_pos c63]; rw [g4]; exact zb_vn _) | (simp only [if_neg c63]; rw [h76]; exact zb_vn _)
          have in79 : vp_in v60 262144 := vi_in h60 (by omega) (by omega)
          refine va_zast hx hb hK hP hD hS 1 0 rfl rfl in79 d_Model_differ_79 (fun H79 locs hP hD hS => ?_)
          obtain ⟨f79, ef79⟩ : ∃ g, g = upd fe (v60).toNatClampNeg (vp_nar .boolean v76) := ⟨_, rfl⟩
          have hP : va_P (dC, dI) vwCl [(mo, .inr (5, [.int mth, .int mw, .int mh, .ref ad, .ref asu, .ref aru, .int mro, .ref ast, .int msd, .ref afo, .int mmn])), (ad, .inl (kD, 262144, .inl f79))] H79 := by rw [ef79]; exact hP
          have hD : va_D A [(mo, .inr (5, [.int mth, .int mw, .int mh, .ref ad, .ref asu, .ref aru, .int mro, .ref ast, .int msd, .ref afo, .int mmn])), (ad, .inl (kD, 262144, .inl f79))] := by rw [ef79]; exact hD
          have ef79 : f79 = upd fe (((512 * zpy) + zpx)).toNat (vp_nar .boolean v76) := by rw [ef79, vi_cl h60]
          obtain ⟨v80, e80⟩ : ∃ y : Int32, y = px + 1 := ⟨_, rfl⟩
          have h80 : v80.toInt = zpx + 1 := by rw [e80]; exact ti_add hpx (ti_k (by decide)) (by omega) (by omega)
          refine lv_iinc (v := v80) (lv' := [(8, .int v80), (6, .int v45), (0, .ref mo), (1, .int a1), (2, .int a2), (3, .int a3), (4, .int a4), (5, .int a5), (7, .int py)]) hx hb d_Model_differ_80 hl (k := 8) rfl (by rw [e80]; rfl) (by decide) rfl (fun ls hl => ?_)
          refine lv_goto (tgt := 17) hx hb d_Model_differ_83 (by decide) ?_
          exact ih17 _ (by omega) _ _ _ ⟨v45, (zkn + 1), v80, (zpx + 1), f79, ls, rfl, lv_sub hl [2, 3, 4, 5, 6, 7, 1, 8, 0] rfl, rfl, h45, h80, by omega, by rw [ef79]; exact pf_set j2 (by omega) (by omega) (by omega) (by omega) (by omega) nv, by first | (rw [rcn_y (by omega) b37]; omega) | (rw [rcn_n (by omega) b37]; omega), hP, hD, hS⟩
        · skip
          have c63 : db = true := bi_nz (zb_isB g5) c63
          refine lv_iload hx hb d_Model_differ_66 (lv_at hl 5 rfl) ?_
          refine lv_goto (tgt := 79) hx hb d_Model_differ_68 (by decide) ?_
          have nv : vp_nar .boolean a4 = zb ((fun a c => if db = true then ib else D a c) zpx zpy) := by first | (simp only [if_pos c63]; rw [g4]; exact zb_vn _) | (simp only [if_neg c63]; rw [h76]; exact zb_vn _)
          have in79 : vp_in v60 262144 := vi_in h60 (by omega) (by omega)
          refine va_zast hx hb hK hP hD hS 1 0 rfl rfl in79 d_Model_differ_79 (fun H79 locs hP hD hS => ?_)
          obtain ⟨f79, ef79⟩ : ∃ g, g = upd fe (v60).toNatClampNeg (vp_nar .boolean a4) := ⟨_, rfl⟩
          have hP : va_P (dC, dI) vwCl [(mo, .inr (5, [.int mth, .int mw, .int mh, .ref ad, .ref asu, .ref aru, .int mro, .ref ast, .int msd, .ref afo, .int mmn])), (ad, .inl (kD, 262144, .inl f79))] H79 := by rw [ef79]; exact hP
          have hD : va_D A [(mo, .inr (5, [.int mth, .int mw, .int mh, .ref ad, .ref asu, .ref aru, .int mro, .ref ast, .int msd, .ref afo, .int mmn])), (ad, .inl (kD, 262144, .inl f79))] := by rw [ef79]; exact hD
          have ef79 : f79 = upd fe (((512 * zpy) + zpx)).toNat (vp_nar .boolean a4) := by rw [ef79, vi_cl h60]
          obtain ⟨v80, e80⟩ : ∃ y : Int32, y = px + 1 := ⟨_, rfl⟩
          have h80 : v80.toInt = zpx + 1 := by rw [e80]; exact ti_add hpx (ti_k (by decide)) (by omega) (by omega)
          refine lv_iinc (v := v80) (lv' := [(8, .int v80), (6, .int v45), (0, .ref mo), (1, .int a1), (2, .int a2), (3, .int a3), (4, .int a4), (5, .int a5), (7, .int py)]) hx hb d_Model_differ_80 hl (k := 8) rfl (by rw [e80]; rfl) (by decide) rfl (fun ls hl => ?_)
          refine lv_goto (tgt := 17) hx hb d_Model_differ_83 (by decide) ?_
          exact ih17 _ (by omega) _ _ _ ⟨v45, (zkn + 1), v80, (zpx + 1), f79, ls, rfl, lv_sub hl [2, 3, 4, 5, 6, 7, 1, 8, 0] rfl, rfl, h45, h80, by omega, by rw [ef79]; exact pf_set j2 (by omega) (by omega) (by omega) (by omega) (by omega) nv, by first | (rw [rcn_y (by omega) b37]; omega) | (rw [rcn_n (by omega) b37]; omega), hP, hD, hS⟩
      · skip
        have b37 : neB D ib zpx zpy = false := by unfold neB; rw [h32, g4, zb_eq] at c37; simpa using c37
        refine lv_iconst (v := 0) hx hb d_Model_differ_40 (by decide) ?_
        refine lv_goto (tgt := 45) hx hb d_Model_differ_41 (by decide) ?_
        refine lv_iadd hx hb d_Model_differ_45 ?_
        refine lv_topi (fun v45 e45 => ?_)
        have h45 : v45.toInt = zkn + 0 := by rw [e45]; exact ti_add hkn (ti_k (by decide)) (by omega) (by omega)
        refine lv_istore (lv' := [(6, .int v45), (0, .ref mo), (1, .int a1), (2, .int a2), (3, .int a3), (4, .int a4), (5, .int a5), (7, .int py), (8, .int px)]) hx hb d_Model_differ_46 hl (by decide) rfl (fun ls hl => ?_)
        refine lv_aload_n hx hb d_Model_differ_48 rfl (lv_at hl 1 rfl) ?_
        refine va_get (D := (dC, dI)) (ci := 5) (v := .ref ad) (C := R_Model) (T := T_Model) (N := 11) hx hb hts i_Model hown hK hP 0 rfl rfl 3 (by decide) (hts _ wd_568) (fun _ h9 => h9) rfl d_Model_differ_49 ?_
        refine lv_sipush (v := 512) hx hb d_Model_differ_52 (by decide) ?_
        refine lv_iload hx hb d_Model_differ_55 (lv_at hl 7 rfl) ?_
        refine lv_imul hx hb d_Model_differ_57 ?_
        refine lv_topi (fun v57 e57 => ?_)
        have h57 : v57.toInt = 512 * zpy := by rw [e57]; exact ti_mul (ti_k (by decide)) hpy (by omega) (by omega)
        refine lv_iload hx hb d_Model_differ_58 (lv_at hl 8 rfl) ?_
        refine lv_iadd hx hb d_Model_differ_60 ?_
        refine lv_topi (fun v60 e60 => ?_)
        have h60 : v60.toInt = (512 * zpy) + zpx := by rw [e60]; exact ti_add h57 hpx (by omega) (by omega)
        refine lv_iload hx hb d_Model_differ_61 (lv_at hl 6 rfl) ?_
        refine lv_if_eq (tgt := 71) hx hb d_Model_differ_63 (by decide) (fun c63 => ?_) (fun c63 => ?_)
        · skip
          have c63 : ¬ (db = true) := bi_z (zb_isB g5) c63
          refine lv_aload_n hx hb d_Model_differ_71 rfl (lv_at hl 1 rfl) ?_
          refine lv_iload hx hb d_Model_differ_72 (lv_at hl 8 rfl) ?_
          refine lv_iload hx hb d_Model_differ_74 (lv_at hl 7 rfl) ?_
          have hPc := hP.sub (ws' := [(mo, .inr (5, [.int mth, .int mw, .int mh, .ref ad, .ref asu, .ref aru, .int mro, .ref ast, .int msd, .ref afo, .int mmn])), (ad, .inl (kD, 262144, .inl fe))]) [0, 1] rfl
          have hKc := hK.sub (tys' := [(kD, .boolean)]) [0] rfl
          refine va_calli (va_runV (As := [.int px, .int py]) (rest := [.int v60, .ref ad]) ⟨hx, hb, hml, hown, hts⟩ (m_isDark l dC dI mo ad asu aru ast afo mth mw mh mro msd mmn Wd Ht hmw hmh hW1 hW2 hH1 hH2 kD fe (pF D (fun a c => if db = true then ib else D a c) x y mm zpy zpx) j2 px py zpx zpy hpx hpy (by omega) (by omega) (by omega) (by omega)) (aw_V 2 hts wd_620 wd_622 ws_31 wd_5 wd_623 rfl rfl (by decide +kernel) ⟨Nat.le_of_ble_eq_true rfl, Nat.le_of_ble_eq_true rfl⟩) ⟨ro_blind, va_recv hKc hPc (ci := 5) (q0 := 0) rfl rfl, ro_pre hPc hKc⟩ rfl rfl hl.1 rfl (lv_room (Nat.le_of_ble_eq_true rfl)) d_Model_differ_76 ⟨Nat.le_of_ble_eq_true rfl, Nat.le_of_ble_eq_true rfl⟩) hS (fun q _ h => h.elim) (fun q h => h.elim) (fun v76 _ t9 H76 locs ht hvm h76 hB hz1 hk1 hS => ?_)
          have hP := ro_keep hP hk1
          clear hPc hKc ht hvm hB hz1 hk1
          rw [pf_at] at h76
          have nv : vp_nar .boolean v76 = zb ((fun a c => if db = true then ib else D a c) zpx zpy) := by first | (simp only [if_pos c63]; rw [g4]; exact zb_vn _) | (simp only [if_neg c63]; rw [h76]; exact zb_vn _)
          have in79 : vp_in v60 262144 := vi_in h60 (by omega) (by omega)
          refine va_zast hx hb hK hP hD hS 1 0 rfl rfl in79 d_Model_differ_79 (fun H79 locs hP hD hS => ?_)
          obtain ⟨f79, ef79⟩ : ∃ g, g = upd fe (v60).toNatClampNeg (vp_nar .boolean v76) := ⟨_, rfl⟩
          have hP : va_P (dC, dI) vwCl [(mo, .inr (5, [.int mth, .int mw, .int mh, .ref ad, .ref asu, .ref aru, .int mro, .ref ast, .int msd, .ref afo, .int mmn])), (ad, .inl (kD, 262144, .inl f79))] H79 := by rw [ef79]; exact hP
          have hD : va_D A [(mo, .inr (5, [.int mth, .int mw, .int mh, .ref ad, .ref asu, .ref aru, .int mro, .ref ast, .int msd, .ref afo, .int mmn])), (ad, .inl (kD, 262144, .inl f79))] := by rw [ef79]; exact hD
          have ef79 : f79 = upd fe (((512 * zpy) + zpx)).toNat (vp_nar .boolean v76) := by rw [ef79, vi_cl h60]
          obtain ⟨v80, e80⟩ : ∃ y : Int32, y = px + 1 := ⟨_, rfl⟩
          have h80 : v80.toInt = zpx + 1 := by rw [e80]; exact ti_add hpx (ti_k (by decide)) (by omega) (by omega)
          refine lv_iinc (v := v80) (lv' := [(8, .int v80), (6, .int v45), (0, .ref mo), (1, .int a1), (2, .int a2), (3, .int a3), (4, .int a4), (5, .int a5), (7, .int py)]) hx hb d_Model_differ_80 hl (k := 8) rfl (by rw [e80]; rfl) (by decide) rfl (fun ls hl => ?_)
          refine lv_goto (tgt := 17) hx hb d_Model_differ_83 (by decide) ?_
          exact ih17 _ (by omega) _ _ _ ⟨v45, (zkn + 0), v80, (zpx + 1), f79, ls, rfl, lv_sub hl [2, 3, 4, 5, 6, 7, 1, 8, 0] rfl, rfl, h45, h80, by omega, by rw [ef79]; exact pf_set j2 (by omega) (by omega) (by omega) (by omega) (by omega) nv, by first | (rw [rcn_y (by omega) b37]; omega) | (rw [rcn_n (by omega) b37]; omega), hP, hD, hS⟩
        · skip
          have c63 : db = true := bi_nz (zb_isB g5) c63
          refine lv_iload hx hb d_Model_differ_66 (lv_at hl 5 rfl) ?_
          refine lv_goto (tgt := 79) hx hb d_Model_differ_68 (by decide) ?_
          have nv : vp_nar .boolean a4 = zb ((fun a c => if db = true then ib else D a c) zpx zpy) := by first | (simp only [if_pos c63]; rw [g4]; exact zb_vn _) | (simp only [if_neg c63]; rw [h76]; exact zb_vn _)
          have in79 : vp_in v60 262144 := vi_in h60 (by omega) (by omega)
          refine va_zast hx hb hK hP hD hS 1 0 rfl rfl in79 d_Model_differ_79 (fun H79 locs hP hD hS => ?_)
          obtain ⟨f79, ef79⟩ : ∃ g, g = upd fe (v60).toNatClampNeg (vp_nar .boolean a4) := ⟨_, rfl⟩
          have hP : va_P (dC, dI) vwCl [(mo, .inr (5, [.int mth, .int mw, .int mh, .ref ad, .ref asu, .ref aru, .int mro, .ref ast, .int msd, .ref afo, .int mmn])), (ad, .inl (kD, 262144, .inl f79))] H79 := by rw [ef79]; exact hP
          have hD : va_D A [(mo, .inr (5, [.int mth, .int mw, .int mh, .ref ad, .ref asu, .ref aru, .int mro, .ref ast, .int msd, .ref afo, .int mmn])), (ad, .inl (kD, 262144, .inl f79))] := by rw [ef79]; exact hD
          have ef79 : f79 = upd fe (((512 * zpy) + zpx)).toNat (vp_nar .boolean a4) := by rw [ef79, vi_cl h60]
          obtain ⟨v80, e80⟩ : ∃ y : Int32, y = px + 1 := ⟨_, rfl⟩
          have h80 : v80.toInt = zpx + 1 := by rw [e80]; exact ti_add hpx (ti_k (by decide)) (by omega) (by omega)
          refine lv_iinc (v := v80) (lv' := [(8, .int v80), (6, .int v45), (0, .ref mo), (1, .int a1), (2, .int a2), (3, .int a3), (4, .int a4), (5, .int a5), (7, .int py)]) hx hb d_Model_differ_80 hl (k := 8) rfl (by rw [e80]; rfl) (by decide) rfl (fun ls hl => ?_)
          refine lv_goto (tgt := 17) hx hb d_Model_differ_83 (by decide) ?_
          exact ih17 _ (by omega) _ _ _ ⟨v45, (zkn + 0), v80, (zpx + 1), f79, ls, rfl, lv_sub hl [2, 3, 4, 5, 6, 7, 1, 8, 0] rfl, rfl, h45, h80, by omega, by rw [ef79]; exact pf_set j2 (by omega) (by omega) (by omega) (by omega) (by omega) nv, by first | (rw [rcn_y (by omega) b37]; omega) | (rw [rcn_n (by omega) b37]; omega), hP, hD, hS⟩
