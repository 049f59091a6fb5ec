set_option maxHeartbeats 4000000 in
set_option maxRecDepth 100000 in
theorem m_list (l : Launch) (dC : Nat → ClassId) (dI : Nat → Nat → Nat) (sz : Nat) (mo ad asu aru ast afo : Nat) (mth mw mh mro msd mmn : Int32) (kR : ClassId) (fr : Nat → Int32) (a1 : Int32) (v : Int) (g1 : a1.toInt = v) (v0 : 1 ≤ v) (v1 : v ≤ 40) : Met l y_Model_list (.code y_Model_list b_Model_list 6 none :: allw) ({ frames := 3, cells := 0, slots := 0, locals := 68 }) (va_Pc [.ref mo, .int a1] (rw_B (dC, dI) vwCl [(mo, .inr (5, [.int mth, .int mw, .int mh, .ref ad, .ref asu, .ref aru, .int mro, .ref ast, .int msd, .ref afo, .int mmn])), (aru, .inl (kR, 2100, .inl fr))] [(kR, .int)] sz)) (va_Qv (fun (u : Int32 × (Nat → Int32)) => 0 ≤ u.1.toInt ∧ u.1.toInt ≤ 525 ∧ rW (17 + 4 * v) u.2 u.1.toInt ∧ ∀ G : Int → Int → Int → Int, rS G u.2 u.1.toInt.toNat = sI (gG G (17 + 4 * v)) 0 0 (17 + 4 * v) (17 + 4 * v)) (fun u t => rw_E (dC, dI) vwCl [(mo, .inr (5, [.int mth, .int mw, .int mh, .ref ad, .ref asu, .ref aru, .int u.1, .ref ast, .int msd, .ref afo, .int mmn])), (aru, .inl (kR, 2100, .inl u.2))] [(kR, .int)] (va_A [(mo, .inr (5, [.int mth, .int mw, .int mh, .ref ad, .ref asu, .ref aru, .int mro, .ref ast, .int msd, .ref afo, .int mmn])), (aru, .inl (kR, 2100, .inl fr))] sz) t) (va_A [(mo, .inr (5, [.int mth, .int mw, .int mh, .ref ad, .ref asu, .ref aru, .int mro, .ref ast, .int msd, .ref afo, .int mmn])), (aru, .inl (kR, 2100, .inl fr))] sz)) 0 0 (va_A [(mo, .inr (5, [.int mth, .int mw, .int mh, .ref ad, .ref asu, .ref aru, .int mro, .ref ast, .int msd, .ref afo, .int mmn])), (aru, .inl (kR, 2100, .inl fr))] sz) := by
  refine Met.ofW (cc := b_Model_list) (maxL := 6) (ret := none) (by decide) rfl ?_
  intro p e s m args below meth c s₁ B hml hv
  obtain ⟨rfl, hsz, hP, hK, hD0⟩ := hv
  have hx := B.exec
  have hb := B.bytes
  have hr := B.returns
  have hts : ∀ w ∈ allw, w.before _ s = true := fun w h => atoms_spec (ws := .code y_Model_list b_Model_list 6 none :: allw) B.pre w (List.mem_cons_of_mem _ h)
  have hown : s.vm.findClass R_Model = some m.cls := findClass_of_methodNamed B.named
  have hlocks := B.notSynchronized
  subst hsz
  have hD := hD0.self (sz := s.heap.size)
  generalize hAe : va_A [(mo, .inr (5, [.int mth, .int mw, .int mh, .ref ad, .ref asu, .ref aru, .int mro, .ref ast, .int msd, .ref afo, .int mmn])), (aru, .inl (kR, 2100, .inl fr))] s.heap.size = A at hD ⊢
  have hA : ∀ q : Nat, s.heap.size ≤ q → A q := fun q h => by rw [← hAe]; exact Or.inr h
  have hS : va_S A s.heap s.heap [] := va_S.rf
  have hP : va_P (dC, dI) vwCl [(mo, .inr (5, [.int mth, .int mw, .int mh, .ref ad, .ref asu, .ref aru, .int mro, .ref ast, .int msd, .ref afo, .int mmn])), (aru, .inl (kR, 2100, .inl fr))] s.heap := hP
  have hl := lv_entry ([.ref mo, .int a1]) (n := 6) (Nat.le_of_ble_eq_true rfl)
  rw [lg_entry_eq]
  generalize (lg_sl ([.ref mo, .int a1]) ++ List.replicate (6 - (lg_sl ([.ref mo, .int a1])).length) Slot.unset).toArray = ls at hl ⊢
  have hl : lv_has ls 6 [(0, .ref mo), (1, .int a1)] := hl
  refine lv_iload_n hx hb d_Model_list_0 rfl (lv_at hl 1 rfl) ?_
  have hPc := hP.sub (ws' := []) [] rfl
  have hKc := hK.sub (tys' := []) [] rfl
  refine va_calli (va_runS (As := [.int a1]) (rest := []) ⟨hx, hb, hml, hown, hts⟩ (m_side l dC dI a1 v g1 (by omega) (by omega)) (aw_S 1 hts wd_636 wd_637 wd_5 wd_638 rfl rfl (by decide +kernel) ⟨Nat.le_of_ble_eq_true rfl, Nat.le_of_ble_eq_true rfl⟩) ⟨ro_blind, ro_pre hPc hKc⟩ rfl rfl hl.1 rfl (lv_room (Nat.le_of_ble_eq_true rfl)) d_Model_list_1 ⟨Nat.le_of_ble_eq_true rfl, Nat.le_of_ble_eq_true rfl⟩) hS (fun q _ h => h.elim) (fun q h => h.elim) (fun v1 _ t9 H1 locs ht hvm h1 hB hz1 hk1 hS => ?_)
  have hP := ro_keep hP hk1
  clear hPc hKc ht hvm hB hz1 hk1
  refine lv_istore_n (lv' := [(2, .int v1), (0, .ref mo), (1, .int a1)]) hx hb d_Model_list_4 rfl hl (by decide) rfl (fun ls hl => ?_)
  refine lv_aload_n hx hb d_Model_list_5 rfl (lv_at hl 1 rfl) ?_
  refine lv_iconst (v := 0) hx hb d_Model_list_6 (by decide) ?_
  refine va_put (D := (dC, dI)) (ci := 5) (v := .int 0) (ty := .int) (C := R_Model) (T := T_Model) (N := 11) hx hb hts i_Model t_Model t_Model_ok n_Model hown hK hP hD hS 0 rfl rfl 6 (by decide) (hts _ wd_571) (fun _ h9 => h9) rfl (by decide +kernel) rfl rfl (Nat.le_of_ble_eq_true rfl) d_Model_list_7 (fun H7 locs hP hD hS => ?_)
  have hP : va_P (dC, dI) vwCl [(mo, .inr (5, [.int mth, .int mw, .int mh, .ref ad, .ref asu, .ref aru, .int 0, .ref ast, .int msd, .ref afo, .int mmn])), (aru, .inl (kR, 2100, .inl fr))] H7 := hP
  have hD : va_D A [(mo, .inr (5, [.int mth, .int mw, .int mh, .ref ad, .ref asu, .ref aru, .int 0, .ref ast, .int msd, .ref afo, .int mmn])), (aru, .inl (kR, 2100, .inl fr))] := hD
  refine lv_iconst (v := 0) hx hb d_Model_list_10 (by decide) ?_
  refine lv_istore_n (lv' := [(3, .int 0), (2, .int v1), (0, .ref mo), (1, .int a1)]) hx hb d_Model_list_11 rfl hl (by decide) rfl (fun ls hl => ?_)
  refine w_loop (I := fun n H' locs' g' => ∃ (jj : Int32) (zjj : Int) (rv : Int32) (zrv : Int) (fc : Nat → Int32) (ls : Array Slot), g' = F0 m 12 ls [] ∧ lv_has ls 6 [(0, .ref mo), (1, .int a1), (2, .int v1), (3, .int jj)] ∧ n = (17 + 4 * v - zjj).toNat ∧ jj.toInt = zjj ∧ (rv.toInt = zrv) ∧ (0 ≤ zjj ∧ zjj ≤ 17 + 4 * v ∧ 0 ≤ zrv ∧ zrv ≤ 525) ∧ (rSum (17 + 4 * v) fc zrv 0 zjj) ∧ (rW (17 + 4 * v) fc zrv) ∧ va_P (dC, dI) vwCl [(mo, .inr (5, [.int mth, .int mw, .int mh, .ref ad, .ref asu, .ref aru, .int rv, .ref ast, .int msd, .ref afo, .int mmn])), (aru, .inl (kR, 2100, .inl fc))] H' ∧ va_D A [(mo, .inr (5, [.int mth, .int mw, .int mh, .ref ad, .ref asu, .ref aru, .int rv, .ref ast, .int msd, .ref afo, .int mmn])), (aru, .inl (kR, 2100, .inl fc))] ∧ va_S A s.heap H' locs') ?_ ⟨0, 0, 0, 0, fr, ls, rfl, lv_sub hl [2, 3, 1, 0] rfl, rfl, (ti_k (by decide)), ti_k (by decide), by omega, fun G => by simp [rS, sI, s2, s1], fun t t0 t1 => by omega, hP, hD, hS⟩
  intro n12 H12 locs g' hI ih12
  obtain ⟨jj, zjj, rv, zrv, fc, ls, rfl, hl, hn, hjj, hrv, i1, i2, i3, hP, hD, hS⟩ := hI
  refine lv_iload_n hx hb d_Model_list_12 rfl (lv_at hl 3 rfl) ?_
  refine lv_iload_n hx hb d_Model_list_13 rfl (lv_at hl 2 rfl) ?_
  refine lv_icmp_ge (tgt := 164) hx hb d_Model_list_14 (by decide) (fun c14 => ?_) (fun c14 => ?_)
  · skip
    have c14 : (17 + 4 * v) ≤ zjj := (ti_le h1 hjj).mp c14
    have hpost : 0 ≤ rv.toInt ∧ rv.toInt ≤ 525 ∧ rW (17 + 4 * v) fc rv.toInt ∧ ∀ G : Int → Int → Int → Int, rS G fc rv.toInt.toNat = sI (gG G (17 + 4 * v)) 0 0 (17 + 4 * v) (17 + 4 * v) := by
      have e : zjj = 17 + 4 * v := by omega
      rw [e] at i2
      refine ⟨by omega, by omega, by rw [hrv]; exact i3, fun G => ?_⟩
      rw [hrv, i2 G]; simp [s1]
    have hP9 := hP.sub (ws' := [(mo, .inr (5, [.int mth, .int mw, .int mh, .ref ad, .ref asu, .ref aru, .int rv, .ref ast, .int msd, .ref afo, .int mmn])), (aru, .inl (kR, 2100, .inl fc))]) [0, 1] rfl
    have hD9 := hD.sub (ws' := [(mo, .inr (5, [.int mth, .int mw, .int mh, .ref ad, .ref asu, .ref aru, .int rv, .ref ast, .int msd, .ref afo, .int mmn])), (aru, .inl (kR, 2100, .inl fc))]) [0, 1] (by decide) rfl
    have hK9 := hK.sub (tys' := [(kR, .int)]) [0] rfl
    exact W.vret hx hb hr (fun t ht hW => ⟨⟨(rv, fc), rfl, hpost, by rw [ht]; exact hP9, va_K.moved hW.alike hK9, hD9⟩, hS.F ht⟩) hS.2.2 d_Model_list_164
  · skip
    have c14 : ¬ ((17 + 4 * v) ≤ zjj) := fun q => c14 ((ti_le h1 hjj).mpr q)
    refine lv_iconst (v := 0) hx hb d_Model_list_17 (by decide) ?_
    refine lv_istore (lv' := [(4, .int 0), (0, .ref mo), (1, .int a1), (2, .int v1), (3, .int jj)]) hx hb d_Model_list_18 hl (by decide) rfl (fun ls hl => ?_)
    refine w_loop (I := fun n H' locs' g' => ∃ (ii : Int32) (zii : Int) (rx : Int32) (zrx : Int) (fe : Nat → Int32) (ls : Array Slot), g' = F0 m 20 ls [] ∧ lv_has ls 6 [(0, .ref mo), (1, .int a1), (2, .int v1), (3, .int jj), (4, .int ii)] ∧ n = (17 + 4 * v - zii).toNat ∧ ii.toInt = zii ∧ (rx.toInt = zrx) ∧ (0 ≤ zii ∧ zii ≤ 17 + 4 * v ∧ 0 ≤ zrx ∧ zrx ≤ 525) ∧ (rSum (17 + 4 * v) fe zrx zii zjj) ∧ (rW (17 + 4 * v) fe zrx) ∧ (rLast (17 + 4 * v) fe zrx zii zjj) ∧ va_P (dC, dI) vwCl [(mo, .inr (5, [.int mth, .int mw, .int mh, .ref ad, .ref asu, .ref aru, .int rx, .ref ast, .int msd, .ref afo, .int mmn])), (aru, .inl (kR, 2100, .inl fe))] H' ∧ va_D A [(mo, .inr (5, [.int mth, .int mw, .int mh, .ref ad, .ref asu, .ref aru, .int rx, .ref ast, .int msd, .ref afo, .int mmn])), (aru, .inl (kR, 2100, .inl fe))] ∧ va_S A s.heap H' locs') ?_ ⟨0, 0, rv, zrv, fc, ls, rfl, lv_sub hl [1, 2, 3, 4, 0] rfl, rfl, (ti_k (by decide)), hrv, by omega, i2, i3, fun q => by omega, hP, hD, hS⟩
    intro n20 H20 locs g' hI ih20
    obtain ⟨ii, zii, rx, zrx, fe, ls, rfl, hl, hn, hii, hrx, j1, j2, j3, j4, hP, hD, hS⟩ := hI
    have few := run_few j2 j3 (by omega) (by omega) (by omega) (by omega) (by omega) (by omega) (by omega)
    refine lv_iload hx hb d_Model_list_20 (lv_at hl 4 rfl) ?_
    refine lv_iload_n hx hb d_Model_list_22 rfl (lv_at hl 2 rfl) ?_
    refine lv_icmp_ge (tgt := 158) hx hb d_Model_list_23 (by decide) (fun c23 => ?_) (fun c23 => ?_)
    · skip
      have c23 : (17 + 4 * v) ≤ zii := (ti_le h1 hii).mp c23
      obtain ⟨v158, e158⟩ : ∃ y : Int32, y = jj + 1 := ⟨_, rfl⟩
      have h158 : v158.toInt = zjj + 1 := by rw [e158]; exact ti_add hjj (ti_k (by decide)) (by omega) (by omega)
      refine lv_iinc (v := v158) (lv' := [(3, .int v158), (0, .ref mo), (1, .int a1), (2, .int v1), (4, .int ii)]) hx hb d_Model_list_158 hl (k := 3) rfl (by rw [e158]; rfl) (by decide) rfl (fun ls hl => ?_)
      refine lv_goto (tgt := 12) hx hb d_Model_list_161 (by decide) ?_
      have ex : zii = 17 + 4 * v := by omega
      rw [ex] at j2
      exact ih12 _ (by omega) _ _ _ ⟨v158, (zjj + 1), rx, zrx, fe, ls, rfl, lv_sub hl [1, 2, 3, 0] rfl, rfl, h158, hrx, by omega, run_row j2 (by omega), j3, hP, hD, hS⟩
    · skip
      have c23 : ¬ ((17 + 4 * v) ≤ zii) := fun q => c23 ((ti_le h1 hii).mpr q)
      refine lv_iload_n hx hb d_Model_list_26 rfl (lv_at hl 1 rfl) ?_
      refine lv_iload hx hb d_Model_list_27 (lv_at hl 4 rfl) ?_
      refine lv_iload_n hx hb d_Model_list_29 rfl (lv_at hl 3 rfl) ?_
      have hPc := hP.sub (ws' := []) [] rfl
      have hKc := hK.sub (tys' := []) [] rfl
      refine va_calli (va_runS (As := [.int a1, .int ii, .int jj]) (rest := []) ⟨hx, hb, hml, hown, hts⟩ (m_module l dC dI a1 ii jj v zii zjj g1 hii hjj (by omega) (by omega) (by omega) (by omega) (by omega) (by omega)) (aw_S 3 hts wd_643 wd_644 wd_5 wd_645 rfl rfl (by decide +kernel) ⟨Nat.le_of_ble_eq_true rfl, Nat.le_of_ble_eq_true rfl⟩) ⟨ro_blind, ro_pre hPc hKc⟩ rfl rfl hl.1 rfl (lv_room (Nat.le_of_ble_eq_true rfl)) d_Model_list_30 ⟨Nat.le_of_ble_eq_true rfl, Nat.le_of_ble_eq_true rfl⟩) hS (fun q _ h => h.elim) (fun q h => h.elim) (fun v30 _ t9 H30 locs ht hvm h30 hB hz1 hk1 hS => ?_)
      have hP := ro_keep hP hk1
      clear hPc hKc ht hvm hB hz1 hk1
      refine lv_istore (lv' := [(5, .int v30), (0, .ref mo), (1, .int a1), (2, .int v1), (3, .int jj), (4, .int ii)]) hx hb d_Model_list_33 hl (by decide) rfl (fun ls hl => ?_)
      refine lv_iload hx hb d_Model_list_35 (lv_at hl 0 rfl) ?_
      refine lv_iconst (v := (-1)) hx hb d_Model_list_37 (by decide) ?_
      refine lv_icmp_eq (tgt := 80) hx hb d_Model_list_38 (by decide) (fun c38 => ?_) (fun c38 => ?_)
      · skip
        have c38 : (mdl (17 + 4 * v) zii zjj) = (-1) := (ti_eq h30 (ti_k (by decide))).mp c38
        have m30 := c38
        refine lv_iload hx hb d_Model_list_80 (lv_at hl 0 rfl) ?_
        refine lv_iconst (v := (-1)) hx hb d_Model_list_82 (by decide) ?_
        refine lv_icmp_eq (tgt := 152) hx hb d_Model_list_83 (by decide) (fun c83 => ?_) (fun c83 => ?_)
        · skip
          have c83 : (mdl (17 + 4 * v) zii zjj) = (-1) := (ti_eq h30 (ti_k (by decide))).mp c83
          have m30 := c83
          obtain ⟨v152, e152⟩ : ∃ y : Int32, y = ii + 1 := ⟨_, rfl⟩
          have h152 : v152.toInt = zii + 1 := by rw [e152]; exact ti_add hii (ti_k (by decide)) (by omega) (by omega)
          refine lv_iinc (v := v152) (lv' := [(4, .int v152), (5, .int v30), (0, .ref mo), (1, .int a1), (2, .int v1), (3, .int jj)]) hx hb d_Model_list_152 hl (k := 5) rfl (by rw [e152]; rfl) (by decide) rfl (fun ls hl => ?_)
          refine lv_goto (tgt := 20) hx hb d_Model_list_155 (by decide) ?_
          exact ih20 _ (by omega) _ _ _ ⟨v152, (zii + 1), rx, zrx, fe, ls, rfl, lv_sub hl [2, 3, 4, 5, 0] rfl, rfl, h152, by first | exact h148 | exact hrx, by omega, by first | exact nw.1 | exact xt.1 | exact run_skip j2 (by omega) m30, by first | exact nw.2.2 | exact xt.2.2.1 | exact j3, by first | exact nw.2.1 | exact xt.2.1 | exact last_skip m30, hP, hD, hS⟩
        · skip
          have c83 : ¬ ((mdl (17 + 4 * v) zii zjj) = (-1)) := fun q => c83 ((ti_eq h30 (ti_k (by decide))).mpr q)
          have m30 := c83
          refine lv_aload_n hx hb d_Model_list_86 rfl (lv_at hl 1 rfl) ?_
          refine va_get (D := (dC, dI)) (ci := 5) (v := .ref aru) (C := R_Model) (T := T_Model) (N := 11) hx hb hts i_Model hown hK hP 0 rfl rfl 5 (by decide) (hts _ wd_570) (fun _ h9 => h9) rfl d_Model_list_87 ?_
          refine lv_iconst (v := 4) hx hb d_Model_list_90 (by decide) ?_
          refine lv_aload_n hx hb d_Model_list_91 rfl (lv_at hl 1 rfl) ?_
          refine va_get (D := (dC, dI)) (ci := 5) (v := .int rx) (C := R_Model) (T := T_Model) (N := 11) hx hb hts i_Model hown hK hP 0 rfl rfl 6 (by decide) (hts _ wd_571) (fun _ h9 => h9) rfl d_Model_list_92 ?_
          refine lv_imul hx hb d_Model_list_95 ?_
          refine lv_topi (fun v95 e95 => ?_)
          have h95 : v95.toInt = 4 * zrx := by rw [e95]; exact ti_mul (ti_k (by decide)) hrx (by omega) (by omega)
          refine lv_iload hx hb d_Model_list_96 (lv_at hl 5 rfl) ?_
          have in98 : vp_in v95 2100 := vi_in h95 (by omega) (by omega)
          refine va_iast hx hb hK hP hD hS 1 0 rfl rfl in98 d_Model_list_98 (fun H98 locs hP hD hS => ?_)
          obtain ⟨f98, ef98⟩ : ∃ g, g = upd fe (v95).toNatClampNeg ii := ⟨_, rfl⟩
          have hP : va_P (dC, dI) vwCl [(mo, .inr (5, [.int mth, .int mw, .int mh, .ref ad, .ref asu, .ref aru, .int rx, .ref ast, .int msd, .ref afo, .int mmn])), (aru, .inl (kR, 2100, .inl f98))] H98 := by rw [ef98]; exact hP
          have hD : va_D A [(mo, .inr (5, [.int mth, .int mw, .int mh, .ref ad, .ref asu, .ref aru, .int rx, .ref ast, .int msd, .ref afo, .int mmn])), (aru, .inl (kR, 2100, .inl f98))] := by rw [ef98]; exact hD
          have ef98 : f98 = upd fe ((4 * zrx)).toNat ii := by rw [ef98, vi_cl h95]
          refine lv_aload_n hx hb d_Model_list_99 rfl (lv_at hl 1 rfl) ?_
          refine va_get (D := (dC, dI)) (ci := 5) (v := .ref aru) (C := R_Model) (T := T_Model) (N := 11) hx hb hts i_Model hown hK hP 0 rfl rfl 5 (by decide) (hts _ wd_570) (fun _ h9 => h9) rfl d_Model_list_100 ?_
          refine lv_iconst (v := 4) hx hb d_Model_list_103 (by decide) ?_
          refine lv_aload_n hx hb d_Model_list_104 rfl (lv_at hl 1 rfl) ?_
          refine va_get (D := (dC, dI)) (ci := 5) (v := .int rx) (C := R_Model) (T := T_Model) (N := 11) hx hb hts i_Model hown hK hP 0 rfl rfl 6 (by decide) (hts _ wd_571) (fun _ h9 => h9) rfl d_Model_list_105 ?_
          refine lv_imul hx hb d_Model_list_108 ?_
          refine lv_topi (fun v108 e108 => ?_)
          have h108 : v108.toInt = 4 * zrx := by rw [e108]; exact ti_mul (ti_k (by decide)) hrx (by omega) (by omega)
          refine lv_iconst (v := 1) hx hb d_Model_list_109 (by decide) ?_
          refine lv_iadd hx hb d_Model_list_110 ?_
          refine lv_topi (fun v110 e110 => ?_)
          have h110 : v110.toInt = (4 * zrx) + 1 := by rw [e110]; exact ti_add h108 (ti_k (by decide)) (by omega) (by omega)
          refine lv_iload_n hx hb d_Model_list_111 rfl (lv_at hl 4 rfl) ?_
          have in112 : vp_in v110 2100 := vi_in h110 (by omega) (by omega)
          refine va_iast hx hb hK hP hD hS 1 0 rfl rfl in112 d_Model_list_112 (fun H112 locs hP hD hS => ?_)
          obtain ⟨f112, ef112⟩ : ∃ g, g = upd f98 (v110).toNatClampNeg jj := ⟨_, rfl⟩
          have hP : va_P (dC, dI) vwCl [(mo, .inr (5, [.int mth, .int mw, .int mh, .ref ad, .ref asu, .ref aru, .int rx, .ref ast, .int msd, .ref afo, .int mmn])), (aru, .inl (kR, 2100, .inl f112))] H112 := by rw [ef112]; exact hP
          have hD : va_D A [(mo, .inr (5, [.int mth, .int mw, .int mh, .ref ad, .ref asu, .ref aru, .int rx, .ref ast, .int msd, .ref afo, .int mmn])), (aru, .inl (kR, 2100, .inl f112))] := by rw [ef112]; exact hD
          have ef112 : f112 = upd f98 (((4 * zrx) + 1)).toNat jj := by rw [ef112, vi_cl h110]
          refine lv_aload_n hx hb d_Model_list_113 rfl (lv_at hl 1 rfl) ?_
          refine va_get (D := (dC, dI)) (ci := 5) (v := .ref aru) (C := R_Model) (T := T_Model) (N := 11) hx hb hts i_Model hown hK hP 0 rfl rfl 5 (by decide) (hts _ wd_570) (fun _ h9 => h9) rfl d_Model_list_114 ?_
          refine lv_iconst (v := 4) hx hb d_Model_list_117 (by decide) ?_
          refine lv_aload_n hx hb d_Model_list_118 rfl (lv_at hl 1 rfl) ?_
          refine va_get (D := (dC, dI)) (ci := 5) (v := .int rx) (C := R_Model) (T := T_Model) (N := 11) hx hb hts i_Model hown hK hP 0 rfl rfl 6 (by decide) (hts _ wd_571) (fun _ h9 => h9) rfl d_Model_list_119 ?_
          refine lv_imul hx hb d_Model_list_122 ?_
          refine lv_topi (fun v122 e122 => ?_)
          have h122 : v122.toInt = 4 * zrx := by rw [e122]; exact ti_mul (ti_k (by decide)) hrx (by omega) (by omega)
          refine lv_iconst (v := 2) hx hb d_Model_list_123 (by decide) ?_
          refine lv_iadd hx hb d_Model_list_124 ?_
          refine lv_topi (fun v124 e124 => ?_)
          have h124 : v124.toInt = (4 * zrx) + 2 := by rw [e124]; exact ti_add h122 (ti_k (by decide)) (by omega) (by omega)
          refine lv_iconst (v := 1) hx hb d_Model_list_125 (by decide) ?_
          have in126 : vp_in v124 2100 := vi_in h124 (by omega) (by omega)
          refine va_iast hx hb hK hP hD hS 1 0 rfl rfl in126 d_Model_list_126 (fun H126 locs hP hD hS => ?_)
          obtain ⟨f126, ef126⟩ : ∃ g, g = upd f112 (v124).toNatClampNeg 1 := ⟨_, rfl⟩
          have hP : va_P (dC, dI) vwCl [(mo, .inr (5, [.int mth, .int mw, .int mh, .ref ad, .ref asu, .ref aru, .int rx, .ref ast, .int msd, .ref afo, .int mmn])), (aru, .inl (kR, 2100, .inl f126))] H126 := by rw [ef126]; exact hP
          have hD : va_D A [(mo, .inr (5, [.int mth, .int mw, .int mh, .ref ad, .ref asu, .ref aru, .int rx, .ref ast, .int msd, .ref afo, .int mmn])), (aru, .inl (kR, 2100, .inl f126))] := by rw [ef126]; exact hD
          have ef126 : f126 = upd f112 (((4 * zrx) + 2)).toNat 1 := by rw [ef126, vi_cl h124]
          refine lv_aload_n hx hb d_Model_list_127 rfl (lv_at hl 1 rfl) ?_
          refine va_get (D := (dC, dI)) (ci := 5) (v := .ref aru) (C := R_Model) (T := T_Model) (N := 11) hx hb hts i_Model hown hK hP 0 rfl rfl 5 (by decide) (hts _ wd_570) (fun _ h9 => h9) rfl d_Model_list_128 ?_
          refine lv_iconst (v := 4) hx hb d_Model_list_131 (by decide) ?_
          refine lv_aload_n hx hb d_Model_list_132 rfl (lv_at hl 1 rfl) ?_
          refine va_get (D := (dC, dI)) (ci := 5) (v := .int rx) (C := R_Model) (T := T_Model) (N := 11) hx hb hts i_Model hown hK hP 0 rfl rfl 6 (by decide) (hts _ wd_571) (fun _ h9 => h9) rfl d_Model_list_133 ?_
          refine lv_imul hx hb d_Model_list_136 ?_
          refine lv_topi (fun v136 e136 => ?_)
          have h136 : v136.toInt = 4 * zrx := by rw [e136]; exact ti_mul (ti_k (by decide)) hrx (by omega) (by omega)
          refine lv_iconst (v := 3) hx hb d_Model_list_137 (by decide) ?_
          refine lv_iadd hx hb d_Model_list_138 ?_
          refine lv_topi (fun v138 e138 => ?_)
          have h138 : v138.toInt = (4 * zrx) + 3 := by rw [e138]; exact ti_add h136 (ti_k (by decide)) (by omega) (by omega)
          refine lv_iload hx hb d_Model_list_139 (lv_at hl 0 rfl) ?_
          have in141 : vp_in v138 2100 := vi_in h138 (by omega) (by omega)
          refine va_iast hx hb hK hP hD hS 1 0 rfl rfl in141 d_Model_list_141 (fun H141 locs hP hD hS => ?_)
          obtain ⟨f141, ef141⟩ : ∃ g, g = upd f126 (v138).toNatClampNeg v30 := ⟨_, rfl⟩
          have hP : va_P (dC, dI) vwCl [(mo, .inr (5, [.int mth, .int mw, .int mh, .ref ad, .ref asu, .ref aru, .int rx, .ref ast, .int msd, .ref afo, .int mmn])), (aru, .inl (kR, 2100, .inl f141))] H141 := by rw [ef141]; exact hP
          have hD : va_D A [(mo, .inr (5, [.int mth, .int mw, .int mh, .ref ad, .ref asu, .ref aru, .int rx, .ref ast, .int msd, .ref afo, .int mmn])), (aru, .inl (kR, 2100, .inl f141))] := by rw [ef141]; exact hD
          have ef141 : f141 = upd f126 (((4 * zrx) + 3)).toNat v30 := by rw [ef141, vi_cl h138]
          have nw := run_new (f2 := f141) j2 j3 (by omega) (by omega) (by omega) (by omega) (by omega) m30 (fun i hi => by rw [ef141, pk_un (by omega), ef126, pk_un (by omega), ef112, pk_un (by omega), ef98, pk_un (by omega)]) (by unfold rI; rw [ef141, pk_un (by omega), ef126, pk_un (by omega), ef112, pk_un (by omega), ef98, show (4 * zrx + 0).toNat = (4 * zrx).toNat by omega, pk_us]; exact hii) (by unfold rI; rw [ef141, pk_un (by omega), ef126, pk_un (by omega), ef112, pk_us]; exact hjj) (by unfold rI; rw [ef141, pk_un (by omega), ef126, pk_us]; decide) (by unfold rI; rw [ef141, pk_us]; exact h30)
          refine lv_aload_n hx hb d_Model_list_142 rfl (lv_at hl 1 rfl) ?_
          refine lv_dup hx hb d_Model_list_143 rfl ?_
          refine va_get (D := (dC, dI)) (ci := 5) (v := .int rx) (C := R_Model) (T := T_Model) (N := 11) hx hb hts i_Model hown hK hP 0 rfl rfl 6 (by decide) (hts _ wd_571) (fun _ h9 => h9) rfl d_Model_list_144 ?_
          refine lv_iconst (v := 1) hx hb d_Model_list_147 (by decide) ?_
          refine lv_iadd hx hb d_Model_list_148 ?_
          refine lv_topi (fun v148 e148 => ?_)
          have h148 : v148.toInt = zrx + 1 := by rw [e148]; exact ti_add hrx (ti_k (by decide)) (by omega) (by omega)
          refine va_put (D := (dC, dI)) (ci := 5) (v := .int v148) (ty := .int) (C := R_Model) (T := T_Model) (N := 11) hx hb hts i_Model t_Model t_Model_ok n_Model hown hK hP hD hS 0 rfl rfl 6 (by decide) (hts _ wd_571) (fun _ h9 => h9) rfl (by decide +kernel) rfl rfl (Nat.le_of_ble_eq_true rfl) d_Model_list_149 (fun H149 locs hP hD hS => ?_)
          have hP : va_P (dC, dI) vwCl [(mo, .inr (5, [.int mth, .int mw, .int mh, .ref ad, .ref asu, .ref aru, .int v148, .ref ast, .int msd, .ref afo, .int mmn])), (aru, .inl (kR, 2100, .inl f141))] H149 := hP
          have hD : va_D A [(mo, .inr (5, [.int mth, .int mw, .int mh, .ref ad, .ref asu, .ref aru, .int v148, .ref ast, .int msd, .ref afo, .int mmn])), (aru, .inl (kR, 2100, .inl f141))] := hD
          obtain ⟨v152, e152⟩ : ∃ y : Int32, y = ii + 1 := ⟨_, rfl⟩
          have h152 : v152.toInt = zii + 1 := by rw [e152]; exact ti_add hii (ti_k (by decide)) (by omega) (by omega)
          refine lv_iinc (v := v152) (lv' := [(4, .int v152), (5, .int v30), (0, .ref mo), (1, .int a1), (2, .int v1), (3, .int jj)]) hx hb d_Model_list_152 hl (k := 5) rfl (by rw [e152]; rfl) (by decide) rfl (fun ls hl => ?_)
          refine lv_goto (tgt := 20) hx hb d_Model_list_155 (by decide) ?_
          exact ih20 _ (by omega) _ _ _ ⟨v152, (zii + 1), v148, (zrx + 1), f141, ls, rfl, lv_sub hl [2, 3, 4, 5, 0] rfl, rfl, h152, by first | exact h148 | exact hrx, by omega, by first | exact nw.1 | exact xt.1 | exact run_skip j2 (by omega) m30, by first | exact nw.2.2 | exact xt.2.2.1 | exact j3, by first | exact nw.2.1 | exact xt.2.1 | exact last_skip m30, hP, hD, hS⟩
      · skip
        have c38 : ¬ ((mdl (17 + 4 * v) zii zjj) = (-1)) := fun q => c38 ((ti_eq h30 (ti_k (by decide))).mpr q)
        have m30 := c38
        refine lv_iload hx hb d_Model_list_41 (lv_at hl 5 rfl) ?_
        refine lv_if_le (tgt := 80) hx hb d_Model_list_43 (by decide) (fun c43 => ?_) (fun c43 => ?_)
        · skip
          have c43 : zii ≤ 0 := (ti_le hii (ti_k (by decide))).mp c43
          refine lv_iload hx hb d_Model_list_80 (lv_at hl 0 rfl) ?_
          refine lv_iconst (v := (-1)) hx hb d_Model_list_82 (by decide) ?_
          refine lv_icmp_eq (tgt := 152) hx hb d_Model_list_83 (by decide) (fun c83 => ?_) (fun c83 => ?_)
          · skip
            have c83 : (mdl (17 + 4 * v) zii zjj) = (-1) := (ti_eq h30 (ti_k (by decide))).mp c83
            have m30 := c83
            obtain ⟨v152, e152⟩ : ∃ y : Int32, y = ii + 1 := ⟨_, rfl⟩
            have h152 : v152.toInt = zii + 1 := by rw [e152]; exact ti_add hii (ti_k (by decide)) (by omega) (by omega)
            refine lv_iinc (v := v152) (lv' := [(4, .int v152), (5, .int v30), (0, .ref mo), (1, .int a1), (2, .int v1), (3, .int jj)]) hx hb d_Model_list_152 hl (k := 5) rfl (by rw [e152]; rfl) (by decide) rfl (fun ls hl => ?_)
            refine lv_goto (tgt := 20) hx hb d_Model_list_155 (by decide) ?_
            exact ih20 _ (by omega) _ _ _ ⟨v152, (zii + 1), rx, zrx, fe, ls, rfl, lv_sub hl [2, 3, 4, 5, 0] rfl, rfl, h152, by first | exact h148 | exact hrx, by omega, by first | exact nw.1 | exact xt.1 | exact run_skip j2 (by omega) m30, by first | exact nw.2.2 | exact xt.2.2.1 | exact j3, by first | exact nw.2.1 | exact xt.2.1 | exact last_skip m30, hP, hD, hS⟩
          · skip
            have c83 : ¬ ((mdl (17 + 4 * v) zii zjj) = (-1)) := fun q => c83 ((ti_eq h30 (ti_k (by decide))).mpr q)
            have m30 := c83
            refine lv_aload_n hx hb d_Model_list_86 rfl (lv_at hl 1 rfl) ?_
            refine va_get (D := (dC, dI)) (ci := 5) (v := .ref aru) (C := R_Model) (T := T_Model) (N := 11) hx hb hts i_Model hown hK hP 0 rfl rfl 5 (by decide) (hts _ wd_570) (fun _ h9 => h9) rfl d_Model_list_87 ?_
            refine lv_iconst (v := 4) hx hb d_Model_list_90 (by decide) ?_
            refine lv_aload_n hx hb d_Model_list_91 rfl (lv_at hl 1 rfl) ?_
            refine va_get (D := (dC, dI)) (ci := 5) (v := .int rx) (C := R_Model) (T := T_Model) (N := 11) hx hb hts i_Model hown hK hP 0 rfl rfl 6 (by decide) (hts _ wd_571) (fun _ h9 => h9) rfl d_Model_list_92 ?_
            refine lv_imul hx hb d_Model_list_95 ?_
            refine lv_topi (fun v95 e95 => ?_)
            have h95 : v95.toInt = 4 * zrx := by rw [e95]; exact ti_mul (ti_k (by decide)) hrx (by omega) (by omega)
            refine lv_iload hx hb d_Model_list_96 (lv_at hl 5 rfl) ?_
            have in98 : vp_in v95 2100 := vi_in h95 (by omega) (by omega)
            refine va_iast hx hb hK hP hD hS 1 0 rfl rfl in98 d_Model_list_98 (fun H98 locs hP hD hS => ?_)
            obtain ⟨f98, ef98⟩ : ∃ g, g = upd fe (v95).toNatClampNeg ii := ⟨_, rfl⟩
            have hP : va_P (dC, dI) vwCl [(mo, .inr (5, [.int mth, .int mw, .int mh, .ref ad, .ref asu, .ref aru, .int rx, .ref ast, .int msd, .ref afo, .int mmn])), (aru, .inl (kR, 2100, .inl f98))] H98 := by rw [ef98]; exact hP
            have hD : va_D A [(mo, .inr (5, [.int mth, .int mw, .int mh, .ref ad, .ref asu, .ref aru, .int rx, .ref ast, .int msd, .ref afo, .int mmn])), (aru, .inl (kR, 2100, .inl f98))] := by rw [ef98]; exact hD
            have ef98 : f98 = upd fe ((4 * zrx)).toNat ii := by rw [ef98, vi_cl h95]
            refine lv_aload_n hx hb d_Model_list_99 rfl (lv_at hl 1 rfl) ?_
            refine va_get (D := (dC, dI)) (ci := 5) (v := .ref aru) (C := R_Model) (T := T_Model) (N := 11) hx hb hts i_Model hown hK hP 0 rfl rfl 5 (by decide) (hts _ wd_570) (fun _ h9 => h9) rfl d_Model_list_100 ?_
            refine lv_iconst (v := 4) hx hb d_Model_list_103 (by decide) ?_
            refine lv_aload_n hx hb d_Model_list_104 rfl (lv_at hl 1 rfl) ?_
            refine va_get (D := (dC, dI)) (ci := 5) (v := .int rx) (C := R_Model) (T := T_Model) (N := 11) hx hb hts i_Model hown hK hP 0 rfl rfl 6 (by decide) (hts _ wd_571) (fun _ h9 => h9) rfl d_Model_list_105 ?_
            refine lv_imul hx hb d_Model_list_108 ?_
            refine lv_topi (fun v108 e108 => ?_)
            have h108 : v108.toInt = 4 * zrx := by rw [e108]; exact ti_mul (ti_k (by decide)) hrx (by omega) (by omega)
            refine lv_iconst (v := 1) hx hb d_Model_list_109 (by decide) ?_
            refine lv_iadd hx hb d_Model_list_110 ?_
            refine lv_topi (fun v110 e110 => ?_)
            have h110 : v110.toInt = (4 * zrx) + 1 := by rw [e110]; exact ti_add h108 (ti_k (by decide)) (by omega) (by omega)
            refine lv_iload_n hx hb d_Model_list_111 rfl (lv_at hl 4 rfl) ?_
            have in112 : vp_in v110 2100 := vi_in h110 (by omega) (by omega)
            refine va_iast hx hb hK hP hD hS 1 0 rfl rfl in112 d_Model_list_112 (fun H112 locs hP hD hS => ?_)
            obtain ⟨f112, ef112⟩ : ∃ g, g = upd f98 (v110).toNatClampNeg jj := ⟨_, rfl⟩
            have hP : va_P (dC, dI) vwCl [(mo, .inr (5, [.int mth, .int mw, .int mh, .ref ad, .ref asu, .ref aru, .int rx, .ref ast, .int msd, .ref afo, .int mmn])), (aru, .inl (kR, 2100, .inl f112))] H112 := by rw [ef112]; exact hP
            have hD : va_D A [(mo, .inr (5, [.int mth, .int mw, .int mh, .ref ad, .ref asu, .ref aru, .int rx, .ref ast, .int msd, .ref afo, .int mmn])), (aru, .inl (kR, 2100, .inl f112))] := by rw [ef112]; exact hD
            have ef112 : f112 = upd f98 (((4 * zrx) + 1)).toNat jj := by rw [ef112, vi_cl h110]
            refine lv_aload_n hx hb d_Model_list_113 rfl (lv_at hl 1 rfl) ?_
            refine va_get (D := (dC, dI)) (ci := 5) (v := .ref aru) (C := R_Model) (T := T_Model) (N := 11) hx hb hts i_Model hown hK hP 0 rfl rfl 5 (by decide) (hts _ wd_570) (fun _ h9 => h9) rfl d_Model_list_114 ?_
            refine lv_iconst (v := 4) hx hb d_Model_list_117 (by decide) ?_
            refine lv_aload_n hx hb d_Model_list_118 rfl (lv_at hl 1 rfl) ?_
            refine va_get (D := (dC, dI)) (ci := 5) (v := .int rx) (C := R_Model) (T := T_Model) (N := 11) hx hb hts i_Model hown hK hP 0 rfl rfl 6 (by decide) (hts _ wd_571) (fun _ h9 => h9) rfl d_Model_list_119 ?_
            refine lv_imul hx hb d_Model_list_122 ?_
            refine lv_topi (fun v122 e122 => ?_)
            have h122 : v122.toInt = 4 * zrx := by rw [e122]; exact ti_mul (ti_k (by decide)) hrx (by omega) (by omega)
            refine lv_iconst (v := 2) hx hb d_Model_list_123 (by decide) ?_
            refine lv_iadd hx hb d_Model_list_124 ?_
            refine lv_topi (fun v124 e124 => ?_)
            have h124 : v124.toInt = (4 * zrx) + 2 := by rw [e124]; exact ti_add h122 (ti_k (by decide)) (by omega) (by omega)
            refine lv_iconst (v := 1) hx hb d_Model_list_125 (by decide) ?_
            have in126 : vp_in v124 2100 := vi_in h124 (by omega) (by omega)
            refine va_iast hx hb hK hP hD hS 1 0 rfl rfl in126 d_Model_list_126 (fun H126 locs hP hD hS => ?_)
            obtain ⟨f126, ef126⟩ : ∃ g, g = upd f112 (v124).toNatClampNeg 1 := ⟨_, rfl⟩
            have hP : va_P (dC, dI) vwCl [(mo, .inr (5, [.int mth, .int mw, .int mh, .ref ad, .ref asu, .ref aru, .int rx, .ref ast, .int msd, .ref afo, .int mmn])), (aru, .inl (kR, 2100, .inl f126))] H126 := by rw [ef126]; exact hP
            have hD : va_D A [(mo, .inr (5, [.int mth, .int mw, .int mh, .ref ad, .ref asu, .ref aru, .int rx, .ref ast, .int msd, .ref afo, .int mmn])), (aru, .inl (kR, 2100, .inl f126))] := by rw [ef126]; exact hD
            have ef126 : f126 = upd f112 (((4 * zrx) + 2)).toNat 1 := by rw [ef126, vi_cl h124]
            refine lv_aload_n hx hb d_Model_list_127 rfl (lv_at hl 1 rfl) ?_
            refine va_get (D := (dC, dI)) (ci := 5) (v := .ref aru) (C := R_Model) (T := T_Model) (N := 11) hx hb hts i_Model hown hK hP 0 rfl rfl 5 (by decide) (hts _ wd_570) (fun _ h9 => h9) rfl d_Model_list_128 ?_
            refine lv_iconst (v := 4) hx hb d_Model_list_131 (by decide) ?_
            refine lv_aload_n hx hb d_Model_list_132 rfl (lv_at hl 1 rfl) ?_
            refine va_get (D := (dC, dI)) (ci := 5) (v := .int rx) (C := R_Model) (T := T_Model) (N := 11) hx hb hts i_Model hown hK hP 0 rfl rfl 6 (by decide) (hts _ wd_571) (fun _ h9 => h9) rfl d_Model_list_133 ?_
            refine lv_imul hx hb d_Model_list_136 ?_
            refine lv_topi (fun v136 e136 => ?_)
            have h136 : v136.toInt = 4 * zrx := by rw [e136]; exact ti_mul (ti_k (by decide)) hrx (by omega) (by omega)
            refine lv_iconst (v := 3) hx hb d_Model_list_137 (by decide) ?_
            refine lv_iadd hx hb d_Model_list_138 ?_
            refine lv_topi (fun v138 e138 => ?_)
            have h138 : v138.toInt = (4 * zrx) + 3 := by rw [e138]; exact ti_add h136 (ti_k (by decide)) (by omega) (by omega)
            refine lv_iload hx hb d_Model_list_139 (lv_at hl 0 rfl) ?_
            have in141 : vp_in v138 2100 := vi_in h138 (by omega) (by omega)
            refine va_iast hx hb hK hP hD hS 1 0 rfl rfl in141 d_Model_list_141 (fun H141 locs hP hD hS => ?_)
            obtain ⟨f141, ef141⟩ : ∃ g, g = upd f126 (v138).toNatClampNeg v30 := ⟨_, rfl⟩
            have hP : va_P (dC, dI) vwCl [(mo, .inr (5, [.int mth, .int mw, .int mh, .ref ad, .ref asu, .ref aru, .int rx, .ref ast, .int msd, .ref afo, .int mmn])), (aru, .inl (kR, 2100, .inl f141))] H141 := by rw [ef141]; exact hP
            have hD : va_D A [(mo, .inr (5, [.int mth, .int mw, .int mh, .ref ad, .ref asu, .ref aru, .int rx, .ref ast, .int msd, .ref afo, .int mmn])), (aru, .inl (kR, 2100, .inl f141))] := by rw [ef141]; exact hD
            have ef141 : f141 = upd f126 (((4 * zrx) + 3)).toNat v30 := by rw [ef141, vi_cl h138]
            have nw := run_new (f2 := f141) j2 j3 (by omega) (by omega) (by omega) (by omega) (by omega) m30 (fun i hi => by rw [ef141, pk_un (by omega), ef126, pk_un (by omega), ef112, pk_un (by omega), ef98, pk_un (by omega)]) (by unfold rI; rw [ef141, pk_un (by omega), ef126, pk_un (by omega), ef112, pk_un (by omega), ef98, show (4 * zrx + 0).toNat = (4 * zrx).toNat by omega, pk_us]; exact hii) (by unfold rI; rw [ef141, pk_un (by omega), ef126, pk_un (by omega), ef112, pk_us]; exact hjj) (by unfold rI; rw [ef141, pk_un (by omega), ef126, pk_us]; decide) (by unfold rI; rw [ef141, pk_us]; exact h30)
            refine lv_aload_n hx hb d_Model_list_142 rfl (lv_at hl 1 rfl) ?_
            refine lv_dup hx hb d_Model_list_143 rfl ?_
            refine va_get (D := (dC, dI)) (ci := 5) (v := .int rx) (C := R_Model) (T := T_Model) (N := 11) hx hb hts i_Model hown hK hP 0 rfl rfl 6 (by decide) (hts _ wd_571) (fun _ h9 => h9) rfl d_Model_list_144 ?_
            refine lv_iconst (v := 1) hx hb d_Model_list_147 (by decide) ?_
            refine lv_iadd hx hb d_Model_list_148 ?_
            refine lv_topi (fun v148 e148 => ?_)
            have h148 : v148.toInt = zrx + 1 := by rw [e148]; exact ti_add hrx (ti_k (by decide)) (by omega) (by omega)
            refine va_put (D := (dC, dI)) (ci := 5) (v := .int v148) (ty := .int) (C := R_Model) (T := T_Model) (N := 11) hx hb hts i_Model t_Model t_Model_ok n_Model hown hK hP hD hS 0 rfl rfl 6 (by decide) (hts _ wd_571) (fun _ h9 => h9) rfl (by decide +kernel) rfl rfl (Nat.le_of_ble_eq_true rfl) d_Model_list_149 (fun H149 locs hP hD hS => ?_)
            have hP : va_P (dC, dI) vwCl [(mo, .inr (5, [.int mth, .int mw, .int mh, .ref ad, .ref asu, .ref aru, .int v148, .ref ast, .int msd, .ref afo, .int mmn])), (aru, .inl (kR, 2100, .inl f141))] H149 := hP
            have hD : va_D A [(mo, .inr (5, [.int mth, .int mw, .int mh, .ref ad, .ref asu, .ref aru, .int v148, .ref ast, .int msd, .ref afo, .int mmn])), (aru, .inl (kR, 2100, .inl f141))] := hD
            obtain ⟨v152, e152⟩ : ∃ y : Int32, y = ii + 1 := ⟨_, rfl⟩
            have h152 : v152.toInt = zii + 1 := by rw [e152]; exact ti_add hii (ti_k (by decide)) (by omega) (by omega)
            refine lv_iinc (v := v152) (lv' := [(4, .int v152), (5, .int v30), (0, .ref mo), (1, .int a1), (2, .int v1), (3, .int jj)]) hx hb d_Model_list_152 hl (k := 5) rfl (by rw [e152]; rfl) (by decide) rfl (fun ls hl => ?_)
            refine lv_goto (tgt := 20) hx hb d_Model_list_155 (by decide) ?_
            exact ih20 _ (by omega) _ _ _ ⟨v152, (zii + 1), v148, (zrx + 1), f141, ls, rfl, lv_sub hl [2, 3, 4, 5, 0] rfl, rfl, h152, by first | exact h148 | exact hrx, by omega, by first | exact nw.1 | exact xt.1 | exact run_skip j2 (by omega) m30, by first | exact nw.2.2 | exact xt.2.2.1 | exact j3, by first | exact nw.2.1 | exact xt.2.1 | exact last_skip m30, hP, hD, hS⟩
        · skip
          have c43 : ¬ (zii ≤ 0) := fun q => c43 ((ti_le hii (ti_k (by decide))).mpr q)
          refine lv_iload_n hx hb d_Model_list_46 rfl (lv_at hl 2 rfl) ?_
          refine lv_iload hx hb d_Model_list_47 (lv_at hl 5 rfl) ?_
          refine lv_iconst (v := 1) hx hb d_Model_list_49 (by decide) ?_
          refine lv_isub hx hb d_Model_list_50 ?_
          refine lv_topi (fun v50 e50 => ?_)
          have h50 : v50.toInt = zii - 1 := by rw [e50]; exact ti_sub hii (ti_k (by decide)) (by omega) (by omega)
          refine lv_iload_n hx hb d_Model_list_51 rfl (lv_at hl 4 rfl) ?_
          have hPc := hP.sub (ws' := []) [] rfl
          have hKc := hK.sub (tys' := []) [] rfl
          refine va_calli (va_runS (As := [.int a1, .int v50, .int jj]) (rest := []) ⟨hx, hb, hml, hown, hts⟩ (m_module l dC dI a1 v50 jj v (zii - 1) zjj g1 h50 hjj (by omega) (by omega) (by omega) (by omega) (by omega) (by omega)) (aw_S 3 hts wd_643 wd_644 wd_5 wd_645 rfl rfl (by decide +kernel) ⟨Nat.le_of_ble_eq_true rfl, Nat.le_of_ble_eq_true rfl⟩) ⟨ro_blind, ro_pre hPc hKc⟩ rfl rfl hl.1 rfl (lv_room (Nat.le_of_ble_eq_true rfl)) d_Model_list_52 ⟨Nat.le_of_ble_eq_true rfl, Nat.le_of_ble_eq_true rfl⟩) hS (fun q _ h => h.elim) (fun q h => h.elim) (fun v52 _ t9 H52 locs ht hvm h52 hB hz1 hk1 hS => ?_)
          have hP := ro_keep hP hk1
          clear hPc hKc ht hvm hB hz1 hk1
          refine lv_iload hx hb d_Model_list_55 (lv_at hl 0 rfl) ?_
          refine lv_icmp_ne (tgt := 80) hx hb d_Model_list_57 (by decide) (fun c57 => ?_) (fun c57 => ?_)
          · skip
            have c57 : ¬ ((mdl (17 + 4 * v) (zii - 1) zjj) = (mdl (17 + 4 * v) zii zjj)) := fun q => c57 ((ti_eq h52 h30).mpr q)
            refine lv_iload hx hb d_Model_list_80 (lv_at hl 0 rfl) ?_
            refine lv_iconst (v := (-1)) hx hb d_Model_list_82 (by decide) ?_
            refine lv_icmp_eq (tgt := 152) hx hb d_Model_list_83 (by decide) (fun c83 => ?_) (fun c83 => ?_)
            · skip
              have c83 : (mdl (17 + 4 * v) zii zjj) = (-1) := (ti_eq h30 (ti_k (by decide))).mp c83
              have m30 := c83
              obtain ⟨v152, e152⟩ : ∃ y : Int32, y = ii + 1 := ⟨_, rfl⟩
              have h152 : v152.toInt = zii + 1 := by rw [e152]; exact ti_add hii (ti_k (by decide)) (by omega) (by omega)
              refine lv_iinc (v := v152) (lv' := [(4, .int v152), (5, .int v30), (0, .ref mo), (1, .int a1), (2, .int v1), (3, .int jj)]) hx hb d_Model_list_152 hl (k := 5) rfl (by rw [e152]; rfl) (by decide) rfl (fun ls hl => ?_)
              refine lv_goto (tgt := 20) hx hb d_Model_list_155 (by decide) ?_
              exact ih20 _ (by omega) _ _ _ ⟨v152, (zii + 1), rx, zrx, fe, ls, rfl, lv_sub hl [2, 3, 4, 5, 0] rfl, rfl, h152, by first | exact h148 | exact hrx, by omega, by first | exact nw.1 | exact xt.1 | exact run_skip j2 (by omega) m30, by first | exact nw.2.2 | exact xt.2.2.1 | exact j3, by first | exact nw.2.1 | exact xt.2.1 | exact last_skip m30, hP, hD, hS⟩
            · skip
              have c83 : ¬ ((mdl (17 + 4 * v) zii zjj) = (-1)) := fun q => c83 ((ti_eq h30 (ti_k (by decide))).mpr q)
              have m30 := c83
              refine lv_aload_n hx hb d_Model_list_86 rfl (lv_at hl 1 rfl) ?_
              refine va_get (D := (dC, dI)) (ci := 5) (v := .ref aru) (C := R_Model) (T := T_Model) (N := 11) hx hb hts i_Model hown hK hP 0 rfl rfl 5 (by decide) (hts _ wd_570) (fun _ h9 => h9) rfl d_Model_list_87 ?_
              refine lv_iconst (v := 4) hx hb d_Model_list_90 (by decide) ?_
              refine lv_aload_n hx hb d_Model_list_91 rfl (lv_at hl 1 rfl) ?_
              refine va_get (D := (dC, dI)) (ci := 5) (v := .int rx) (C := R_Model) (T := T_Model) (N := 11) hx hb hts i_Model hown hK hP 0 rfl rfl 6 (by decide) (hts _ wd_571) (fun _ h9 => h9) rfl d_Model_list_92 ?_
              refine lv_imul hx hb d_Model_list_95 ?_
              refine lv_topi (fun v95 e95 => ?_)
              have h95 : v95.toInt = 4 * zrx := by rw [e95]; exact ti_mul (ti_k (by decide)) hrx (by omega) (by omega)
              refine lv_iload hx hb d_Model_list_96 (lv_at hl 5 rfl) ?_
              have in98 : vp_in v95 2100 := vi_in h95 (by omega) (by omega)
              refine va_iast hx hb hK hP hD hS 1 0 rfl rfl in98 d_Model_list_98 (fun H98 locs hP hD hS => ?_)
              obtain ⟨f98, ef98⟩ : ∃ g, g = upd fe (v95).toNatClampNeg ii := ⟨_, rfl⟩
              have hP : va_P (dC, dI) vwCl [(mo, .inr (5, [.int mth, .int mw, .int mh, .ref ad, .ref asu, .ref aru, .int rx, .ref ast, .int msd, .ref afo, .int mmn])), (aru, .inl (kR, 2100, .inl f98))] H98 := by rw [ef98]; exact hP
              have hD : va_D A [(mo, .inr (5, [.int mth, .int mw, .int mh, .ref ad, .ref asu, .ref aru, .int rx, .ref ast, .int msd, .ref afo, .int mmn])), (aru, .inl (kR, 2100, .inl f98))] := by rw [ef98]; exact hD
              have ef98 : f98 = upd fe ((4 * zrx)).toNat ii := by rw [ef98, vi_cl h95]
              refine lv_aload_n hx hb d_Model_list_99 rfl (lv_at hl 1 rfl) ?_
              refine va_get (D := (dC, dI)) (ci := 5) (v := .ref aru) (C := R_Model) (T := T_Model) (N := 11) hx hb hts i_Model hown hK hP 0 rfl rfl 5 (by decide) (hts _ wd_570) (fun _ h9 => h9) rfl d_Model_list_100 ?_
              refine lv_iconst (v := 4) hx hb d_Model_list_103 (by decide) ?_
              refine lv_aload_n hx hb d_Model_list_104 rfl (lv_at hl 1 rfl) ?_
              refine va_get (D := (dC, dI)) (ci := 5) (v := .int rx) (C := R_Model) (T := T_Model) (N := 11) hx hb hts i_Model hown hK hP 0 rfl rfl 6 (by decide) (hts _ wd_571) (fun _ h9 => h9) rfl d_Model_list_105 ?_
              refine lv_imul hx hb d_Model_list_108 ?_
              refine lv_topi (fun v108 e108 => ?_)
              have h108 : v108.toInt = 4 * zrx := by rw [e108]; exact ti_mul (ti_k (by decide)) hrx (by omega) (by omega)
              refine lv_iconst (v := 1) hx hb d_Model_list_109 (by decide) ?_
              refine lv_iadd hx hb d_Model_list_110 ?_
              refine lv_topi (fun v110 e110 => ?_)
              have h110 : v110.toInt = (4 * zrx) + 1 := by rw [e110]; exact ti_add h108 (ti_k (by decide)) (by omega) (by omega)
              refine lv_iload_n hx hb d_Model_list_111 rfl (lv_at hl 4 rfl) ?_
              have in112 : vp_in v110 2100 := vi_in h110 (by omega) (by omega)
              refine va_iast hx hb hK hP hD hS 1 0 rfl rfl in112 d_Model_list_112 (fun H112 locs hP hD hS => ?_)
              obtain ⟨f112, ef112⟩ : ∃ g, g = upd f98 (v110).toNatClampNeg jj := ⟨_, rfl⟩
              have hP : va_P (dC, dI) vwCl [(mo, .inr (5, [.int mth, .int mw, .int mh, .ref ad, .ref asu, .ref aru, .int rx, .ref ast, .int msd, .ref afo, .int mmn])), (aru, .inl (kR, 2100, .inl f112))] H112 := by rw [ef112]; exact hP
              have hD : va_D A [(mo, .inr (5, [.int mth, .int mw, .int mh, .ref ad, .ref asu, .ref aru, .int rx, .ref ast, .int msd, .ref afo, .int mmn])), (aru, .inl (kR, 2100, .inl f112))] := by rw [ef112]; exact hD
              have ef112 : f112 = upd f98 (((4 * zrx) + 1)).toNat jj := by rw [ef112, vi_cl h110]
              refine lv_aload_n hx hb d_Model_list_113 rfl (lv_at hl 1 rfl) ?_
              refine va_get (D := (dC, dI)) (ci := 5) (v := .ref aru) (C := R_Model) (T := T_Model) (N := 11) hx hb hts i_Model hown hK hP 0 rfl rfl 5 (by decide) (hts _ wd_570) (fun _ h9 => h9) rfl d_Model_list_114 ?_
              refine lv_iconst (v := 4) hx hb d_Model_list_117 (by decide) ?_
              refine lv_aload_n hx hb d_Model_list_118 rfl (lv_at hl 1 rfl) ?_
              refine va_get (D := (dC, dI)) (ci := 5) (v := .int rx) (C := R_Model) (T := T_Model) (N := 11) hx hb hts i_Model hown hK hP 0 rfl rfl 6 (by decide) (hts _ wd_571) (fun _ h9 => h9) rfl d_Model_list_119 ?_
              refine lv_imul hx hb d_Model_list_122 ?_
              refine lv_topi (fun v122 e122 => ?_)
              have h122 : v122.toInt = 4 * zrx := by rw [e122]; exact ti_mul (ti_k (by decide)) hrx (by omega) (by omega)
              refine lv_iconst (v := 2) hx hb d_Model_list_123 (by decide) ?_
              refine lv_iadd hx hb d_Model_list_124 ?_
              refine lv_topi (fun v124 e124 => ?_)
              have h124 : v124.toInt = (4 * zrx) + 2 := by rw [e124]; exact ti_add h122 (ti_k (by decide)) (by omega) (by omega)
              refine lv_iconst (v := 1) hx hb d_Model_list_125 (by decide) ?_
              have in126 : vp_in v124 2100 := vi_in h124 (by omega) (by omega)
              refine va_iast hx hb hK hP hD hS 1 0 rfl rfl in126 d_Model_list_126 (fun H126 locs hP hD hS => ?_)
              obtain ⟨f126, ef126⟩ : ∃ g, g = upd f112 (v124).toNatClampNeg 1 := ⟨_, rfl⟩
              have hP : va_P (dC, dI) vwCl [(mo, .inr (5, [.int mth, .int mw, .int mh, .ref ad, .ref asu, .ref aru, .int rx, .ref ast, .int msd, .ref afo, .int mmn])), (aru, .inl (kR, 2100, .inl f126))] H126 := by rw [ef126]; exact hP
              have hD : va_D A [(mo, .inr (5, [.int mth, .int mw, .int mh, .ref ad, .ref asu, .ref aru, .int rx, .ref ast, .int msd, .ref afo, .int mmn])), (aru, .inl (kR, 2100, .inl f126))] := by rw [ef126]; exact hD
              have ef126 : f126 = upd f112 (((4 * zrx) + 2)).toNat 1 := by rw [ef126, vi_cl h124]
              refine lv_aload_n hx hb d_Model_list_127 rfl (lv_at hl 1 rfl) ?_
              refine va_get (D := (dC, dI)) (ci := 5) (v := .ref aru) (C := R_Model) (T := T_Model) (N := 11) hx hb hts i_Model hown hK hP 0 rfl rfl 5 (by decide) (hts _ wd_570) (fun _ h9 => h9) rfl d_Model_list_128 ?_
              refine lv_iconst (v := 4) hx hb d_Model_list_131 (by decide) ?_
              refine lv_aload_n hx hb d_Model_list_132 rfl (lv_at hl 1 rfl) ?_
              refine va_get (D := (dC, dI)) (ci := 5) (v := .int rx) (C := R_Model) (T := T_Model) (N := 11) hx hb hts i_Model hown hK hP 0 rfl rfl 6 (by decide) (hts _ wd_571) (fun _ h9 => h9) rfl d_Model_list_133 ?_
              refine lv_imul hx hb d_Model_list_136 ?_
              refine lv_topi (fun v136 e136 => ?_)
              have h136 : v136.toInt = 4 * zrx := by rw [e136]; exact ti_mul (ti_k (by decide)) hrx (by omega) (by omega)
              refine lv_iconst (v := 3) hx hb d_Model_list_137 (by decide) ?_
              refine lv_iadd hx hb d_Model_list_138 ?_
              refine lv_topi (fun v138 e138 => ?_)
              have h138 : v138.toInt = (4 * zrx) + 3 := by rw [e138]; exact ti_add h136 (ti_k (by decide)) (by omega) (by omega)
              refine lv_iload hx hb d_Model_list_139 (lv_at hl 0 rfl) ?_
              have in141 : vp_in v138 2100 := vi_in h138 (by omega) (by omega)
              refine va_iast hx hb hK hP hD hS 1 0 rfl rfl in141 d_Model_list_141 (fun H141 locs hP hD hS => ?_)
              obtain ⟨f141, ef141⟩ : ∃ g, g = upd f126 (v138).toNatClampNeg v30 := ⟨_, rfl⟩
              have hP : va_P (dC, dI) vwCl [(mo, .inr (5, [.int mth, .int mw, .int mh, .ref ad, .ref asu, .ref aru, .int rx, .ref ast, .int msd, .ref afo, .int mmn])), (aru, .inl (kR, 2100, .inl f141))] H141 := by rw [ef141]; exact hP
              have hD : va_D A [(mo, .inr (5, [.int mth, .int mw, .int mh, .ref ad, .ref asu, .ref aru, .int rx, .ref ast, .int msd, .ref afo, .int mmn])), (aru, .inl (kR, 2100, .inl f141))] := by rw [ef141]; exact hD
              have ef141 : f141 = upd f126 (((4 * zrx) + 3)).toNat v30 := by rw [ef141, vi_cl h138]
              have nw := run_new (f2 := f141) j2 j3 (by omega) (by omega) (by omega) (by omega) (by omega) m30 (fun i hi => by rw [ef141, pk_un (by omega), ef126, pk_un (by omega), ef112, pk_un (by omega), ef98, pk_un (by omega)]) (by unfold rI; rw [ef141, pk_un (by omega), ef126, pk_un (by omega), ef112, pk_un (by omega), ef98, show (4 * zrx + 0).toNat = (4 * zrx).toNat by omega, pk_us]; exact hii) (by unfold rI; rw [ef141, pk_un (by omega), ef126, pk_un (by omega), ef112, pk_us]; exact hjj) (by unfold rI; rw [ef141, pk_un (by omega), ef126, pk_us]; decide) (by unfold rI; rw [ef141, pk_us]; exact h30)
              refine lv_aload_n hx hb d_Model_list_142 rfl (lv_at hl 1 rfl) ?_
              refine lv_dup hx hb d_Model_list_143 rfl ?_
              refine va_get (D := (dC, dI)) (ci := 5) (v := .int rx) (C := R_Model) (T := T_Model) (N := 11) hx hb hts i_Model hown hK hP 0 rfl rfl 6 (by decide) (hts _ wd_571) (fun _ h9 => h9) rfl d_Model_list_144 ?_
              refine lv_iconst (v := 1) hx hb d_Model_list_147 (by decide) ?_
              refine lv_iadd hx hb d_Model_list_148 ?_
              refine lv_topi (fun v148 e148 => ?_)
              have h148 : v148.toInt = zrx + 1 := by rw [e148]; exact ti_add hrx (ti_k (by decide)) (by omega) (by omega)
              refine va_put (D := (dC, dI)) (ci := 5) (v := .int v148) (ty := .int) (C := R_Model) (T := T_Model) (N := 11) hx hb hts i_Model t_Model t_Model_ok n_Model hown hK hP hD hS 0 rfl rfl 6 (by decide) (hts _ wd_571) (fun _ h9 => h9) rfl (by decide +kernel) rfl rfl (Nat.le_of_ble_eq_true rfl) d_Model_list_149 (fun H149 locs hP hD hS => ?_)
              have hP : va_P (dC, dI) vwCl [(mo, .inr (5, [.int mth, .int mw, .int mh, .ref ad, .ref asu, .ref aru, .int v148, .ref ast, .int msd, .ref afo, .int mmn])), (aru, .inl (kR, 2100, .inl f141))] H149 := hP
              have hD : va_D A [(mo, .inr (5, [.int mth, .int mw, .int mh, .ref ad, .ref asu, .ref aru, .int v148, .ref ast, .int msd, .ref afo, .int mmn])), (aru, .inl (kR, 2100, .inl f141))] := hD
              obtain ⟨v152, e152⟩ : ∃ y : Int32, y = ii + 1 := ⟨_, rfl⟩
              have h152 : v152.toInt = zii + 1 := by rw [e152]; exact ti_add hii (ti_k (by decide)) (by omega) (by omega)
              refine lv_iinc (v := v152) (lv' := [(4, .int v152), (5, .int v30), (0, .ref mo), (1, .int a1), (2, .int v1), (3, .int jj)]) hx hb d_Model_list_152 hl (k := 5) rfl (by rw [e152]; rfl) (by decide) rfl (fun ls hl => ?_)
              refine lv_goto (tgt := 20) hx hb d_Model_list_155 (by decide) ?_
              exact ih20 _ (by omega) _ _ _ ⟨v152, (zii + 1), v148, (zrx + 1), f141, ls, rfl, lv_sub hl [2, 3, 4, 5, 0] rfl, rfl, h152, by first | exact h148 | exact hrx, by omega, by first | exact nw.1 | exact xt.1 | exact run_skip j2 (by omega) m30, by first | exact nw.2.2 | exact xt.2.2.1 | exact j3, by first | exact nw.2.1 | exact xt.2.1 | exact last_skip m30, hP, hD, hS⟩
          · skip
            have c57 : (mdl (17 + 4 * v) (zii - 1) zjj) = (mdl (17 + 4 * v) zii zjj) := (ti_eq h52 h30).mp c57
            refine lv_aload_n hx hb d_Model_list_60 rfl (lv_at hl 1 rfl) ?_
            refine va_get (D := (dC, dI)) (ci := 5) (v := .ref aru) (C := R_Model) (T := T_Model) (N := 11) hx hb hts i_Model hown hK hP 0 rfl rfl 5 (by decide) (hts _ wd_570) (fun _ h9 => h9) rfl d_Model_list_61 ?_
            have lst := j4 (by omega) (by omega)
            refine lv_iconst (v := 4) hx hb d_Model_list_64 (by decide) ?_
            refine lv_aload_n hx hb d_Model_list_65 rfl (lv_at hl 1 rfl) ?_
            refine va_get (D := (dC, dI)) (ci := 5) (v := .int rx) (C := R_Model) (T := T_Model) (N := 11) hx hb hts i_Model hown hK hP 0 rfl rfl 6 (by decide) (hts _ wd_571) (fun _ h9 => h9) rfl d_Model_list_66 ?_
            refine lv_imul hx hb d_Model_list_69 ?_
            refine lv_topi (fun v69 e69 => ?_)
            have h69 : v69.toInt = 4 * zrx := by rw [e69]; exact ti_mul (ti_k (by decide)) hrx (by omega) (by omega)
            refine lv_iconst (v := 2) hx hb d_Model_list_70 (by decide) ?_
            refine lv_isub hx hb d_Model_list_71 ?_
            refine lv_topi (fun v71 e71 => ?_)
            have h71 : v71.toInt = (4 * zrx) - 2 := by rw [e71]; exact ti_sub h69 (ti_k (by decide)) (by omega) (by omega)
            refine lv_dup2_11 hx hb d_Model_list_72 rfl rfl ?_
            have in73 : vp_in v71 2100 := vi_in h71 (by omega) (by omega)
            refine va_iald hx hb hK hP 1 0 rfl rfl in73 d_Model_list_73 ?_
            refine lv_topi (fun v73 e73 => ?_)
            have e73 : v73 = fe (((4 * zrx) - 2)).toNat := by rw [e73, vi_cl h71]
            have wl8 := j3 (zrx - 1) (by omega) (by omega)
            have h73 : v73.toInt = rI fe (zrx - 1) 2 := by rw [e73]; unfold rI; congr 2; omega
            refine lv_iconst (v := 1) hx hb d_Model_list_74 (by decide) ?_
            refine lv_iadd hx hb d_Model_list_75 ?_
            refine lv_topi (fun v75 e75 => ?_)
            have h75 : v75.toInt = rI fe (zrx - 1) 2 + 1 := by rw [e75]; exact ti_add h73 (ti_k (by decide)) (by omega) (by omega)
            have hv9 : v75.toInt = rI fe (zrx - 1) 2 + 1 := h75
            have wl9 := j3 (zrx - 1) (by omega) (by omega)
            have in76 : vp_in v71 2100 := vi_in h71 (by omega) (by omega)
            refine va_iast hx hb hK hP hD hS 1 0 rfl rfl in76 d_Model_list_76 (fun H76 locs hP hD hS => ?_)
            obtain ⟨f76, ef76⟩ : ∃ g, g = upd fe (v71).toNatClampNeg v75 := ⟨_, rfl⟩
            have hP : va_P (dC, dI) vwCl [(mo, .inr (5, [.int mth, .int mw, .int mh, .ref ad, .ref asu, .ref aru, .int rx, .ref ast, .int msd, .ref afo, .int mmn])), (aru, .inl (kR, 2100, .inl f76))] H76 := by rw [ef76]; exact hP
            have hD : va_D A [(mo, .inr (5, [.int mth, .int mw, .int mh, .ref ad, .ref asu, .ref aru, .int rx, .ref ast, .int msd, .ref afo, .int mmn])), (aru, .inl (kR, 2100, .inl f76))] := by rw [ef76]; exact hD
            have ef76 : f76 = upd fe (((4 * zrx) - 2)).toNat v75 := by rw [ef76, vi_cl h71]
            have xt := run_ext j2 j4 j3 (by omega) (by omega) (by omega) m30 c57 ef76 hv9
            refine lv_goto (tgt := 152) hx hb d_Model_list_77 (by decide) ?_
            obtain ⟨v152, e152⟩ : ∃ y : Int32, y = ii + 1 := ⟨_, rfl⟩
            have h152 : v152.toInt = zii + 1 := by rw [e152]; exact ti_add hii (ti_k (by decide)) (by omega) (by omega)
            refine lv_iinc (v := v152) (lv' := [(4, .int v152), (5, .int v30), (0, .ref mo), (1, .int a1), (2, .int v1), (3, .int jj)]) hx hb d_Model_list_152 hl (k := 5) rfl (by rw [e152]; rfl) (by decide) rfl (fun ls hl => ?_)
            refine lv_goto (tgt := 20) hx hb d_Model_list_155 (by decide) ?_
            exact ih20 _ (by omega) _ _ _ ⟨v152, (zii + 1), rx, zrx, f76, ls, rfl, lv_sub hl [2, 3, 4, 5, 0] rfl, rfl, h152, by first | exact h148 | exact hrx, by omega, by first | exact nw.1 | exact xt.1 | exact run_skip j2 (by omega) m30, by first | exact nw.2.2 | exact xt.2.2.1 | exact j3, by first | exact nw.2.1 | exact xt.2.1 | exact last_skip m30, hP, hD, hS⟩
