set_option maxHeartbeats 4000000 in
set_option maxRecDepth 100000 in
theorem m_find (l : Launch) (dC : Nat → ClassId) (dI : Nat → Nat → Nat) (sz : Nat) (mo ad asu aru ast afo : Nat) (mth mw mh mro msd mmn : Int32) (Wd Ht : Int) (hmw : mw.toInt = Wd) (hmh : mh.toInt = Ht) (hW1 : 1 ≤ Wd) (hW2 : Wd ≤ 512) (hH1 : 1 ≤ Ht) (hH2 : Ht ≤ 512) (kD : ClassId) (fd : Nat → Int32) (D : Int → Int → Bool) (hfd : dOK fd D) (kU kR kT kF : ClassId) (fu fr ft ff : Nat → Int32) (hz : z0 fu) (a1 a2 a3 : Int32) (le ms9 LIM : Int) (g1 : a1.toInt = le) (g2 : a2.toInt = ms9) (g3 : a3.toInt = LIM) : Met l y_Model_find (.code y_Model_find b_Model_find 6 (some .int) :: allw) ({ frames := 4, cells := 0, slots := 0, locals := 116 }) (va_Pc [.ref mo, .int a1, .int a2, .int a3] (rw_B (dC, dI) vwCl [(mo, .inr (5, [.int mth, .int mw, .int mh, .ref ad, .ref asu, .ref aru, .int mro, .ref ast, .int msd, .ref afo, .int mmn])), (ad, .inl (kD, 262144, .inl fd)), (asu, .inl (kU, 263169, .inl fu)), (aru, .inl (kR, 2100, .inl fr)), (ast, .inl (kT, 1800, .inl ft)), (afo, .inl (kF, 1800, .inl ff))] [(kD, .boolean), (kU, .int), (kR, .int), (kT, .int), (kF, .int)] sz)) (va_Qi (fun (r : Int32) (u : Int32 × Int32 × Int32 × Int32 × (Nat → Int32) × (Nat → Int32) × (Nat → Int32) × (Nat → Int32)) => (¬ (1 ≤ le ∧ le ≤ 16 ∧ le ≤ ms9 ∧ ms9 ≤ 16 ∧ 0 ≤ LIM ∧ LIM ≤ 500) ∧ (u.1 : Int32) = 1 ∧ (u.2.2.1 : Int32) = msd ∧ (u.2.2.2.1 : Int32) = mmn ∧ u.2.2.2.2.1 = fu ∧ u.2.2.2.2.2.2.1 = ft ∧ u.2.2.2.2.2.2.2 = ff) ∨ ((1 ≤ le ∧ le ≤ 16 ∧ le ≤ ms9 ∧ ms9 ≤ 16 ∧ 0 ≤ LIM ∧ LIM ≤ 500) ∧ (u.1 : Int32) = 0 ∧ (r : Int32) = -1 ∧ (u.2.2.1 : Int32) = 0 ∧ (u.2.2.2.1 : Int32) = 0 ∧ z0 u.2.2.2.2.1 ∧ many D Wd Ht LIM le ms9) ∨ ((1 ≤ le ∧ le ≤ 16 ∧ le ≤ ms9 ∧ ms9 ≤ 16 ∧ 0 ≤ LIM ∧ LIM ≤ 500) ∧ (u.1 : Int32) = 0 ∧ (r : Int32) = (u.2.2.2.1 : Int32) ∧ z0 u.2.2.2.2.1 ∧ 0 ≤ (u.2.2.1 : Int32).toInt ∧ (u.2.2.1 : Int32).toInt ≤ 300 ∧ stOK D u.2.2.2.2.2.2.1 (u.2.2.1 : Int32).toInt (alF D Wd Ht LIM le ms9) ∧ 0 ≤ (u.2.2.2.1 : Int32).toInt ∧ (u.2.2.2.1 : Int32).toInt ≤ 300 ∧ foAll u.2.2.2.2.2.2.1 (u.2.2.1 : Int32).toInt u.2.2.2.2.2.2.2 (u.2.2.2.1 : Int32).toInt)) (fun u t => rw_E (dC, dI) vwCl [(mo, .inr (5, [.int u.1, .int mw, .int mh, .ref ad, .ref asu, .ref aru, .int u.2.1, .ref ast, .int u.2.2.1, .ref afo, .int u.2.2.2.1])), (ad, .inl (kD, 262144, .inl fd)), (asu, .inl (kU, 263169, .inl u.2.2.2.2.1)), (aru, .inl (kR, 2100, .inl u.2.2.2.2.2.1)), (ast, .inl (kT, 1800, .inl u.2.2.2.2.2.2.1)), (afo, .inl (kF, 1800, .inl u.2.2.2.2.2.2.2))] [(kD, .boolean), (kU, .int), (kR, .int), (kT, .int), (kF, .int)] (va_A [(mo, .inr (5, [.int mth, .int mw, .int mh, .ref ad, .ref asu, .ref aru, .int mro, .ref ast, .int msd, .ref afo, .int mmn])), (ad, .inl (kD, 262144, .inl fd)), (asu, .inl (kU, 263169, .inl fu)), (aru, .inl (kR, 2100, .inl fr)), (ast, .inl (kT, 1800, .inl ft)), (afo, .inl (kF, 1800, .inl ff))] sz) t) (va_A [(mo, .inr (5, [.int mth, .int mw, .int mh, .ref ad, .ref asu, .ref aru, .int mro, .ref ast, .int msd, .ref afo, .int mmn])), (ad, .inl (kD, 262144, .inl fd)), (asu, .inl (kU, 263169, .inl fu)), (aru, .inl (kR, 2100, .inl fr)), (ast, .inl (kT, 1800, .inl ft)), (afo, .inl (kF, 1800, .inl ff))] sz)) 0 0 (va_A [(mo, .inr (5, [.int mth, .int mw, .int mh, .ref ad, .ref asu, .ref aru, .int mro, .ref ast, .int msd, .ref afo, .int mmn])), (ad, .inl (kD, 262144, .inl fd)), (asu, .inl (kU, 263169, .inl fu)), (aru, .inl (kR, 2100, .inl fr)), (ast, .inl (kT, 1800, .inl ft)), (afo, .inl (kF, 1800, .inl ff))] sz) := by
  refine Met.ofW (cc := b_Model_find) (maxL := 6) (ret := (some .int)) (by decide) rfl ?_
  intro p e s m args below meth c s₁ B hml hv
  obtain ⟨rfl, hsz, hP, hK, hD0⟩ := hv
  have hx := B.exec
  have hb := B.bytes
  have hr := B.returns
  have hts : ∀ w ∈ allw, w.before _ s = true := fun w h => atoms_spec (ws := .code y_Model_find b_Model_find 6 (some .int) :: allw) B.pre w (List.mem_cons_of_mem _ h)
  have hown : s.vm.findClass R_Model = some m.cls := findClass_of_methodNamed B.named
  have hlocks := B.notSynchronized
  subst hsz
  have hD := hD0.self (sz := s.heap.size)
  generalize hAe : va_A [(mo, .inr (5, [.int mth, .int mw, .int mh, .ref ad, .ref asu, .ref aru, .int mro, .ref ast, .int msd, .ref afo, .int mmn])), (ad, .inl (kD, 262144, .inl fd)), (asu, .inl (kU, 263169, .inl fu)), (aru, .inl (kR, 2100, .inl fr)), (ast, .inl (kT, 1800, .inl ft)), (afo, .inl (kF, 1800, .inl ff))] s.heap.size = A at hD ⊢
  have hA : ∀ q : Nat, s.heap.size ≤ q → A q := fun q h => by rw [← hAe]; exact Or.inr h
  have hS : va_S A s.heap s.heap [] := va_S.rf
  have hP : va_P (dC, dI) vwCl [(mo, .inr (5, [.int mth, .int mw, .int mh, .ref ad, .ref asu, .ref aru, .int mro, .ref ast, .int msd, .ref afo, .int mmn])), (ad, .inl (kD, 262144, .inl fd)), (asu, .inl (kU, 263169, .inl fu)), (aru, .inl (kR, 2100, .inl fr)), (ast, .inl (kT, 1800, .inl ft)), (afo, .inl (kF, 1800, .inl ff))] s.heap := hP
  have hl := lv_entry ([.ref mo, .int a1, .int a2, .int a3]) (n := 6) (Nat.le_of_ble_eq_true rfl)
  rw [lg_entry_eq]
  generalize (lg_sl ([.ref mo, .int a1, .int a2, .int a3]) ++ List.replicate (6 - (lg_sl ([.ref mo, .int a1, .int a2, .int a3])).length) Slot.unset).toArray = ls at hl ⊢
  have hl : lv_has ls 6 [(0, .ref mo), (1, .int a1), (2, .int a2), (3, .int a3)] := hl
  refine lv_aload_n hx hb d_Model_find_0 rfl (lv_at hl 0 rfl) ?_
  refine w_cut (I := fun H' locs' g' => ∃ (tv : Int32) (ztv : Int) (ls : Array Slot), g' = F0 m 39 ls [.int tv, .ref mo] ∧ lv_has ls 6 [(0, .ref mo), (1, .int a1), (2, .int a2), (3, .int a3)] ∧ tv.toInt = ztv ∧ ((1 ≤ le ∧ le ≤ 16 ∧ le ≤ ms9 ∧ ms9 ≤ 16 ∧ 0 ≤ LIM ∧ LIM ≤ 500) ∧ ztv = 0 ∨ ¬ (1 ≤ le ∧ le ≤ 16 ∧ le ≤ ms9 ∧ ms9 ≤ 16 ∧ 0 ≤ LIM ∧ LIM ≤ 500) ∧ ztv = 1) ∧ va_P (dC, dI) vwCl [(mo, .inr (5, [.int mth, .int mw, .int mh, .ref ad, .ref asu, .ref aru, .int mro, .ref ast, .int msd, .ref afo, .int mmn])), (ad, .inl (kD, 262144, .inl fd)), (asu, .inl (kU, 263169, .inl fu)), (aru, .inl (kR, 2100, .inl fr)), (ast, .inl (kT, 1800, .inl ft)), (afo, .inl (kF, 1800, .inl ff))] H' ∧ va_D A [(mo, .inr (5, [.int mth, .int mw, .int mh, .ref ad, .ref asu, .ref aru, .int mro, .ref ast, .int msd, .ref afo, .int mmn])), (ad, .inl (kD, 262144, .inl fd)), (asu, .inl (kU, 263169, .inl fu)), (aru, .inl (kR, 2100, .inl fr)), (ast, .inl (kT, 1800, .inl ft)), (afo, .inl (kF, 1800, .inl ff))] ∧ va_S A s.heap H' locs') ?_ ?_
  · skip
    intro H39 locs g' hI
    obtain ⟨tv, ztv, ls, rfl, hl, htv, itv, hP, hD, hS⟩ := hI
    refine va_put (D := (dC, dI)) (ci := 5) (v := .int tv) (ty := .int) (C := R_Model) (T := T_Model) (N := 11) hx hb hts i_Model t_Model t_Model_ok n_Model hown hK hP hD hS 0 rfl rfl 0 (by decide) (hts _ wd_565) (fun _ h9 => h9) rfl (by decide +kernel) rfl rfl (Nat.le_of_ble_eq_true rfl) d_Model_find_39 (fun H39 locs hP hD hS => ?_)
    have hP : va_P (dC, dI) vwCl [(mo, .inr (5, [.int tv, .int mw, .int mh, .ref ad, .ref asu, .ref aru, .int mro, .ref ast, .int msd, .ref afo, .int mmn])), (ad, .inl (kD, 262144, .inl fd)), (asu, .inl (kU, 263169, .inl fu)), (aru, .inl (kR, 2100, .inl fr)), (ast, .inl (kT, 1800, .inl ft)), (afo, .inl (kF, 1800, .inl ff))] H39 := hP
    have hD : va_D A [(mo, .inr (5, [.int tv, .int mw, .int mh, .ref ad, .ref asu, .ref aru, .int mro, .ref ast, .int msd, .ref afo, .int mmn])), (ad, .inl (kD, 262144, .inl fd)), (asu, .inl (kU, 263169, .inl fu)), (aru, .inl (kR, 2100, .inl fr)), (ast, .inl (kT, 1800, .inl ft)), (afo, .inl (kF, 1800, .inl ff))] := hD
    refine lv_aload_n hx hb d_Model_find_42 rfl (lv_at hl 0 rfl) ?_
    refine va_get (D := (dC, dI)) (ci := 5) (v := .int tv) (C := R_Model) (T := T_Model) (N := 11) hx hb hts i_Model hown hK hP 0 rfl rfl 0 (by decide) (hts _ wd_565) (fun _ h9 => h9) rfl d_Model_find_43 ?_
    refine lv_if_le (tgt := 51) hx hb d_Model_find_46 (by decide) (fun c46 => ?_) (fun c46 => ?_)
    · skip
      have c46 : ztv ≤ 0 := (ti_le htv (ti_k (by decide))).mp c46
      refine lv_aload_n hx hb d_Model_find_51 rfl (lv_at hl 0 rfl) ?_
      have hPc := hP.sub (ws' := [(mo, .inr (5, [.int tv, .int mw, .int mh, .ref ad, .ref asu, .ref aru, .int mro, .ref ast, .int msd, .ref afo, .int mmn]))]) [0] rfl
      have hKc := hK.sub (tys' := []) [] rfl
      have hDc := hD.sub (ws' := [(mo, .inr (5, [.int tv, .int mw, .int mh, .ref ad, .ref asu, .ref aru, .int mro, .ref ast, .int msd, .ref afo, .int mmn]))]) [0] (by decide) rfl
      have hFc := va_free (wc := [(mo, .inr (5, [.int tv, .int mw, .int mh, .ref ad, .ref asu, .ref aru, .int mro, .ref ast, .int msd, .ref afo, .int mmn]))]) hD hS hA [0] rfl
      refine va_callv (va_runV (As := []) (rest := []) ⟨hx, hb, hml, hown, hts⟩ (m_forget l dC dI H39.size mo ad asu aru ast afo tv mw mh mro msd mmn) (aw_V 0 hts wd_608 wd_610 ws_29 wd_5 wd_611 rfl rfl (by decide +kernel) ⟨Nat.le_of_ble_eq_true rfl, Nat.le_of_ble_eq_true rfl⟩) ⟨rw_blind, va_recv hKc hPc (ci := 5) (q0 := 0) rfl rfl, rw_pre hPc hKc hDc⟩ rfl rfl hl.1 rfl (lv_room (Nat.le_of_ble_eq_true rfl)) d_Model_find_52 ⟨Nat.le_of_ble_eq_true rfl, Nat.le_of_ble_eq_true rfl⟩) hS (fun q _ h => hFc q h) hFc (fun u52_w t9 H52 locs ht hvm h52 hB hz1 hk1 hS => ?_)
      obtain ⟨hP1, _, hD1⟩ := hB
      rw [ht] at hP1
      try dsimp only at h52 hP1 hD1
      obtain ⟨hP, hD⟩ := va_join (wr := [(ad, .inl (kD, 262144, .inl fd)), (asu, .inl (kU, 263169, .inl fu)), (aru, .inl (kR, 2100, .inl fr)), (ast, .inl (kT, 1800, .inl ft)), (afo, .inl (kF, 1800, .inl ff))]) (w1 := [(mo, .inr (5, [.int tv, .int mw, .int mh, .ref ad, .ref asu, .ref aru, .int mro, .ref ast, .int 0, .ref afo, .int 0]))]) hP hD [0] [1, 2, 3, 4, 5] rfl rfl (by decide) (by decide) hk1 hFc hP1 hD1
      have hP := hP.sub (ws' := [(mo, .inr (5, [.int tv, .int mw, .int mh, .ref ad, .ref asu, .ref aru, .int mro, .ref ast, .int 0, .ref afo, .int 0])), (ad, .inl (kD, 262144, .inl fd)), (asu, .inl (kU, 263169, .inl fu)), (aru, .inl (kR, 2100, .inl fr)), (ast, .inl (kT, 1800, .inl ft)), (afo, .inl (kF, 1800, .inl ff))]) [5, 0, 1, 2, 3, 4] rfl
      have hD := hD.sub (ws' := [(mo, .inr (5, [.int tv, .int mw, .int mh, .ref ad, .ref asu, .ref aru, .int mro, .ref ast, .int 0, .ref afo, .int 0])), (ad, .inl (kD, 262144, .inl fd)), (asu, .inl (kU, 263169, .inl fu)), (aru, .inl (kR, 2100, .inl fr)), (ast, .inl (kT, 1800, .inl ft)), (afo, .inl (kF, 1800, .inl ff))]) [5, 0, 1, 2, 3, 4] (by decide) rfl
      clear hPc hKc hDc hFc ht hvm hz1 hk1 hP1 hD1
      refine lv_aload_n hx hb d_Model_find_55 rfl (lv_at hl 0 rfl) ?_
      have hPc := hP.sub (ws' := [(mo, .inr (5, [.int tv, .int mw, .int mh, .ref ad, .ref asu, .ref aru, .int mro, .ref ast, .int 0, .ref afo, .int 0])), (ad, .inl (kD, 262144, .inl fd)), (asu, .inl (kU, 263169, .inl fu))]) [0, 1, 2] rfl
      have hKc := hK.sub (tys' := [(kD, .boolean), (kU, .int)]) [0, 1] rfl
      have hDc := hD.sub (ws' := [(mo, .inr (5, [.int tv, .int mw, .int mh, .ref ad, .ref asu, .ref aru, .int mro, .ref ast, .int 0, .ref afo, .int 0])), (ad, .inl (kD, 262144, .inl fd)), (asu, .inl (kU, 263169, .inl fu))]) [0, 1, 2] (by decide) rfl
      have hFc := va_free (wc := [(mo, .inr (5, [.int tv, .int mw, .int mh, .ref ad, .ref asu, .ref aru, .int mro, .ref ast, .int 0, .ref afo, .int 0])), (ad, .inl (kD, 262144, .inl fd)), (asu, .inl (kU, 263169, .inl fu))]) hD hS hA [0, 1, 2] rfl
      refine va_callv (va_runV (As := []) (rest := []) ⟨hx, hb, hml, hown, hts⟩ (m_add l dC dI H52.size mo ad asu aru ast afo tv mw mh mro 0 0 Wd Ht hmw hmh hW1 hW2 hH1 hH2 kD fd D hfd kU fu hz) (aw_V 0 hts wd_666 wd_668 ws_34 wd_5 wd_669 rfl rfl (by decide +kernel) ⟨Nat.le_of_ble_eq_true rfl, Nat.le_of_ble_eq_true rfl⟩) ⟨rw_blind, va_recv hKc hPc (ci := 5) (q0 := 0) rfl rfl, rw_pre hPc hKc hDc⟩ rfl rfl hl.1 rfl (lv_room (Nat.le_of_ble_eq_true rfl)) d_Model_find_56 ⟨Nat.le_of_ble_eq_true rfl, Nat.le_of_ble_eq_true rfl⟩) hS (fun q _ h => hFc q h) hFc (fun u56_fu t9 H56 locs ht hvm h56 hB hz1 hk1 hS => ?_)
      obtain ⟨hP1, _, hD1⟩ := hB
      rw [ht] at hP1
      try dsimp only at h56 hP1 hD1
      obtain ⟨hP, hD⟩ := va_join (wr := [(aru, .inl (kR, 2100, .inl fr)), (ast, .inl (kT, 1800, .inl ft)), (afo, .inl (kF, 1800, .inl ff))]) (w1 := [(mo, .inr (5, [.int tv, .int mw, .int mh, .ref ad, .ref asu, .ref aru, .int mro, .ref ast, .int 0, .ref afo, .int 0])), (ad, .inl (kD, 262144, .inl fd)), (asu, .inl (kU, 263169, .inl u56_fu))]) hP hD [0, 1, 2] [3, 4, 5] rfl rfl (by decide) (by decide) hk1 hFc hP1 hD1
      have hP := hP.sub (ws' := [(mo, .inr (5, [.int tv, .int mw, .int mh, .ref ad, .ref asu, .ref aru, .int mro, .ref ast, .int 0, .ref afo, .int 0])), (ad, .inl (kD, 262144, .inl fd)), (asu, .inl (kU, 263169, .inl u56_fu)), (aru, .inl (kR, 2100, .inl fr)), (ast, .inl (kT, 1800, .inl ft)), (afo, .inl (kF, 1800, .inl ff))]) [3, 4, 5, 0, 1, 2] rfl
      have hD := hD.sub (ws' := [(mo, .inr (5, [.int tv, .int mw, .int mh, .ref ad, .ref asu, .ref aru, .int mro, .ref ast, .int 0, .ref afo, .int 0])), (ad, .inl (kD, 262144, .inl fd)), (asu, .inl (kU, 263169, .inl u56_fu)), (aru, .inl (kR, 2100, .inl fr)), (ast, .inl (kT, 1800, .inl ft)), (afo, .inl (kF, 1800, .inl ff))]) [3, 4, 5, 0, 1, 2] (by decide) rfl
      clear hPc hKc hDc hFc ht hvm hz1 hk1 hP1 hD1
      refine lv_iconst (v := 1) hx hb d_Model_find_59 (by decide) ?_
      refine lv_istore (lv' := [(4, .int 1), (0, .ref mo), (1, .int a1), (2, .int a2), (3, .int a3)]) hx hb d_Model_find_60 hl (by decide) rfl (fun ls hl => ?_)
      refine w_loop (I := fun n H' locs' g' => ∃ (vv : Int32) (zvv : Int) (ro : Int32) (zro : Int) (sv : Int32) (zsv : Int) (gr : Nat → Int32) (gt : Nat → Int32) (ls : Array Slot), g' = F0 m 62 ls [] ∧ lv_has ls 6 [(0, .ref mo), (1, .int a1), (2, .int a2), (3, .int a3), (4, .int vv)] ∧ n = (41 - zvv).toNat ∧ vv.toInt = zvv ∧ (ro.toInt = zro) ∧ (sv.toInt = zsv) ∧ (1 ≤ zvv ∧ zvv ≤ 41 ∧ 0 ≤ zsv ∧ zsv ≤ 300) ∧ (stOK D gt zsv (fvF D Wd Ht LIM le ms9 zvv le)) ∧ va_P (dC, dI) vwCl [(mo, .inr (5, [.int tv, .int mw, .int mh, .ref ad, .ref asu, .ref aru, .int ro, .ref ast, .int sv, .ref afo, .int 0])), (ad, .inl (kD, 262144, .inl fd)), (asu, .inl (kU, 263169, .inl u56_fu)), (aru, .inl (kR, 2100, .inl gr)), (ast, .inl (kT, 1800, .inl gt)), (afo, .inl (kF, 1800, .inl ff))] H' ∧ va_D A [(mo, .inr (5, [.int tv, .int mw, .int mh, .ref ad, .ref asu, .ref aru, .int ro, .ref ast, .int sv, .ref afo, .int 0])), (ad, .inl (kD, 262144, .inl fd)), (asu, .inl (kU, 263169, .inl u56_fu)), (aru, .inl (kR, 2100, .inl gr)), (ast, .inl (kT, 1800, .inl gt)), (afo, .inl (kF, 1800, .inl ff))] ∧ va_S A s.heap H' locs') ?_ ⟨1, 1, mro, mro.toInt, 0, 0, fr, ft, ls, rfl, lv_sub hl [1, 2, 3, 4, 0] rfl, rfl, (ti_k (by decide)), rfl, ti_k (by decide), by omega, fv_0, hP, hD, hS⟩
      intro n62 H62 locs g' hI ih62
      obtain ⟨vv, zvv, ro, zro, sv, zsv, gr, gt, ls, rfl, hl, hn, hvv, hro9, hsv, i1, i2, hP, hD, hS⟩ := hI
      refine lv_iload hx hb d_Model_find_62 (lv_at hl 4 rfl) ?_
      refine lv_bipush (v := 40) hx hb d_Model_find_64 (by decide) ?_
      refine lv_icmp_gt (tgt := 114) hx hb d_Model_find_66 (by decide) (fun c66 => ?_) (fun c66 => ?_)
      · skip
        have c66 : (40 : Int) < zvv := (ti_lt (ti_k (by decide)) hvv).mp c66
        refine lv_aload_n hx hb d_Model_find_114 rfl (lv_at hl 0 rfl) ?_
        have hPc := hP.sub (ws' := [(mo, .inr (5, [.int tv, .int mw, .int mh, .ref ad, .ref asu, .ref aru, .int ro, .ref ast, .int sv, .ref afo, .int 0])), (ast, .inl (kT, 1800, .inl gt)), (afo, .inl (kF, 1800, .inl ff))]) [0, 4, 5] rfl
        have hKc := hK.sub (tys' := [(kT, .int), (kF, .int)]) [3, 4] rfl
        have hDc := hD.sub (ws' := [(mo, .inr (5, [.int tv, .int mw, .int mh, .ref ad, .ref asu, .ref aru, .int ro, .ref ast, .int sv, .ref afo, .int 0])), (ast, .inl (kT, 1800, .inl gt)), (afo, .inl (kF, 1800, .inl ff))]) [0, 4, 5] (by decide) rfl
        have hFc := va_free (wc := [(mo, .inr (5, [.int tv, .int mw, .int mh, .ref ad, .ref asu, .ref aru, .int ro, .ref ast, .int sv, .ref afo, .int 0])), (ast, .inl (kT, 1800, .inl gt)), (afo, .inl (kF, 1800, .inl ff))]) hD hS hA [0, 4, 5] rfl
        refine va_callv (va_runV (As := []) (rest := []) ⟨hx, hb, hml, hown, hts⟩ (m_order l dC dI H62.size mo ad asu aru ast afo tv mw mh ro sv 0 zsv hsv (by omega) (by omega) kT gt (fun a a0 a1 => (i2.1 a a0 a1).1) D _ i2 kF ff (by decide)) (aw_V 0 hts wd_693 wd_695 ws_40 wd_5 wd_696 rfl rfl (by decide +kernel) ⟨Nat.le_of_ble_eq_true rfl, Nat.le_of_ble_eq_true rfl⟩) ⟨rw_blind, va_recv hKc hPc (ci := 5) (q0 := 0) rfl rfl, rw_pre hPc hKc hDc⟩ rfl rfl hl.1 rfl (lv_room (Nat.le_of_ble_eq_true rfl)) d_Model_find_115 ⟨Nat.le_of_ble_eq_true rfl, Nat.le_of_ble_eq_true rfl⟩) hS (fun q _ h => hFc q h) hFc (fun u t9 H115 locs ht hvm h115 hB hz1 hk1 hS => ?_)
        obtain ⟨u115_mn, u115_ff⟩ := u
        obtain ⟨hP1, _, hD1⟩ := hB
        rw [ht] at hP1
        try dsimp only at h115 hP1 hD1
        obtain ⟨hP, hD⟩ := va_join (wr := [(ad, .inl (kD, 262144, .inl fd)), (asu, .inl (kU, 263169, .inl u56_fu)), (aru, .inl (kR, 2100, .inl gr))]) (w1 := [(mo, .inr (5, [.int tv, .int mw, .int mh, .ref ad, .ref asu, .ref aru, .int ro, .ref ast, .int sv, .ref afo, .int u115_mn])), (ast, .inl (kT, 1800, .inl gt)), (afo, .inl (kF, 1800, .inl u115_ff))]) hP hD [0, 4, 5] [1, 2, 3] rfl rfl (by decide) (by decide) hk1 hFc hP1 hD1
        have hP := hP.sub (ws' := [(mo, .inr (5, [.int tv, .int mw, .int mh, .ref ad, .ref asu, .ref aru, .int ro, .ref ast, .int sv, .ref afo, .int u115_mn])), (ad, .inl (kD, 262144, .inl fd)), (asu, .inl (kU, 263169, .inl u56_fu)), (aru, .inl (kR, 2100, .inl gr)), (ast, .inl (kT, 1800, .inl gt)), (afo, .inl (kF, 1800, .inl u115_ff))]) [3, 0, 1, 2, 4, 5] rfl
        have hD := hD.sub (ws' := [(mo, .inr (5, [.int tv, .int mw, .int mh, .ref ad, .ref asu, .ref aru, .int ro, .ref ast, .int sv, .ref afo, .int u115_mn])), (ad, .inl (kD, 262144, .inl fd)), (asu, .inl (kU, 263169, .inl u56_fu)), (aru, .inl (kR, 2100, .inl gr)), (ast, .inl (kT, 1800, .inl gt)), (afo, .inl (kF, 1800, .inl u115_ff))]) [3, 0, 1, 2, 4, 5] (by decide) rfl
        clear hPc hKc hDc hFc ht hvm hz1 hk1 hP1 hD1
        refine lv_aload_n hx hb d_Model_find_118 rfl (lv_at hl 0 rfl) ?_
        refine va_get (D := (dC, dI)) (ci := 5) (v := .int u115_mn) (C := R_Model) (T := T_Model) (N := 11) hx hb hts i_Model hown hK hP 0 rfl rfl 10 (by decide) (hts _ wd_575) (fun _ h9 => h9) rfl d_Model_find_119 ?_
        have hpost : (¬ (1 ≤ le ∧ le ≤ 16 ∧ le ≤ ms9 ∧ ms9 ≤ 16 ∧ 0 ≤ LIM ∧ LIM ≤ 500) ∧ (tv : Int32) = 1 ∧ (sv : Int32) = msd ∧ (u115_mn : Int32) = mmn ∧ u56_fu = fu ∧ gt = ft ∧ u115_ff = ff) ∨ ((1 ≤ le ∧ le ≤ 16 ∧ le ≤ ms9 ∧ ms9 ≤ 16 ∧ 0 ≤ LIM ∧ LIM ≤ 500) ∧ (tv : Int32) = 0 ∧ (u115_mn : Int32) = -1 ∧ (sv : Int32) = 0 ∧ (u115_mn : Int32) = 0 ∧ z0 u56_fu ∧ many D Wd Ht LIM le ms9) ∨ ((1 ≤ le ∧ le ≤ 16 ∧ le ≤ ms9 ∧ ms9 ≤ 16 ∧ 0 ≤ LIM ∧ LIM ≤ 500) ∧ (tv : Int32) = 0 ∧ (u115_mn : Int32) = (u115_mn : Int32) ∧ z0 u56_fu ∧ 0 ≤ (sv : Int32).toInt ∧ (sv : Int32).toInt ≤ 300 ∧ stOK D gt (sv : Int32).toInt (alF D Wd Ht LIM le ms9) ∧ 0 ≤ (u115_mn : Int32).toInt ∧ (u115_mn : Int32).toInt ≤ 300 ∧ foAll gt (sv : Int32).toInt u115_ff (u115_mn : Int32).toInt) := by
          have e1 : tv = 0 := (ti_eq (y := 0) htv (by decide)).mpr (by omega)
          have e4 : zvv = 41 := by omega
          rw [e4] at i2
          refine Or.inr (Or.inr ⟨by omega, e1, rfl, h56.2, by omega, by omega, ?_, h115.1, h115.2.1, ?_⟩)
          · rw [hsv]; exact st_congr i2 (fun _ _ _ _ _ => fv_end)
          · rw [hsv]; exact h115.2.2
        have hP9 := hP.sub (ws' := [(mo, .inr (5, [.int tv, .int mw, .int mh, .ref ad, .ref asu, .ref aru, .int ro, .ref ast, .int sv, .ref afo, .int u115_mn])), (ad, .inl (kD, 262144, .inl fd)), (asu, .inl (kU, 263169, .inl u56_fu)), (aru, .inl (kR, 2100, .inl gr)), (ast, .inl (kT, 1800, .inl gt)), (afo, .inl (kF, 1800, .inl u115_ff))]) [0, 1, 2, 3, 4, 5] rfl
        have hD9 := hD.sub (ws' := [(mo, .inr (5, [.int tv, .int mw, .int mh, .ref ad, .ref asu, .ref aru, .int ro, .ref ast, .int sv, .ref afo, .int u115_mn])), (ad, .inl (kD, 262144, .inl fd)), (asu, .inl (kU, 263169, .inl u56_fu)), (aru, .inl (kR, 2100, .inl gr)), (ast, .inl (kT, 1800, .inl gt)), (afo, .inl (kF, 1800, .inl u115_ff))]) [0, 1, 2, 3, 4, 5] (by decide) rfl
        have hK9 := hK.sub (tys' := [(kD, .boolean), (kU, .int), (kR, .int), (kT, .int), (kF, .int)]) [0, 1, 2, 3, 4] rfl
        exact W.iret (v := u115_mn) hx hb hr (fun t ht hW => ⟨⟨u115_mn, (tv, ro, sv, u115_mn, u56_fu, gr, gt, u115_ff), rfl, hpost, by rw [ht]; exact hP9, va_K.moved hW.alike hK9, hD9⟩, hS.F ht⟩) hS.2.2 d_Model_find_122
      · skip
        have c66 : ¬ ((40 : Int) < zvv) := fun q => c66 ((ti_lt (ti_k (by decide)) hvv).mpr q)
        refine lv_aload_n hx hb d_Model_find_69 rfl (lv_at hl 0 rfl) ?_
        refine lv_iload hx hb d_Model_find_70 (lv_at hl 4 rfl) ?_
        have hPc := hP.sub (ws' := [(mo, .inr (5, [.int tv, .int mw, .int mh, .ref ad, .ref asu, .ref aru, .int ro, .ref ast, .int sv, .ref afo, .int 0])), (aru, .inl (kR, 2100, .inl gr))]) [0, 3] rfl
        have hKc := hK.sub (tys' := [(kR, .int)]) [2] rfl
        have hDc := hD.sub (ws' := [(mo, .inr (5, [.int tv, .int mw, .int mh, .ref ad, .ref asu, .ref aru, .int ro, .ref ast, .int sv, .ref afo, .int 0])), (aru, .inl (kR, 2100, .inl gr))]) [0, 3] (by decide) rfl
        have hFc := va_free (wc := [(mo, .inr (5, [.int tv, .int mw, .int mh, .ref ad, .ref asu, .ref aru, .int ro, .ref ast, .int sv, .ref afo, .int 0])), (aru, .inl (kR, 2100, .inl gr))]) hD hS hA [0, 3] rfl
        refine va_callv (va_runV (As := [.int vv]) (rest := []) ⟨hx, hb, hml, hown, hts⟩ (m_list l dC dI H62.size mo ad asu aru ast afo tv mw mh ro sv 0 kR gr vv zvv hvv (by omega) (by omega)) (aw_V 1 hts wd_670 wd_672 ws_35 wd_5 wd_673 rfl rfl (by decide +kernel) ⟨Nat.le_of_ble_eq_true rfl, Nat.le_of_ble_eq_true rfl⟩) ⟨rw_blind, va_recv hKc hPc (ci := 5) (q0 := 0) rfl rfl, rw_pre hPc hKc hDc⟩ rfl rfl hl.1 rfl (lv_room (Nat.le_of_ble_eq_true rfl)) d_Model_find_72 ⟨Nat.le_of_ble_eq_true rfl, Nat.le_of_ble_eq_true rfl⟩) hS (fun q _ h => hFc q h) hFc (fun u t9 H72 locs ht hvm h72 hB hz1 hk1 hS => ?_)
        obtain ⟨u72_ro, u72_fr⟩ := u
        obtain ⟨hP1, _, hD1⟩ := hB
        rw [ht] at hP1
        try dsimp only at h72 hP1 hD1
        obtain ⟨hP, hD⟩ := va_join (wr := [(ad, .inl (kD, 262144, .inl fd)), (asu, .inl (kU, 263169, .inl u56_fu)), (ast, .inl (kT, 1800, .inl gt)), (afo, .inl (kF, 1800, .inl ff))]) (w1 := [(mo, .inr (5, [.int tv, .int mw, .int mh, .ref ad, .ref asu, .ref aru, .int u72_ro, .ref ast, .int sv, .ref afo, .int 0])), (aru, .inl (kR, 2100, .inl u72_fr))]) hP hD [0, 3] [1, 2, 4, 5] rfl rfl (by decide) (by decide) hk1 hFc hP1 hD1
        have hP := hP.sub (ws' := [(mo, .inr (5, [.int tv, .int mw, .int mh, .ref ad, .ref asu, .ref aru, .int u72_ro, .ref ast, .int sv, .ref afo, .int 0])), (ad, .inl (kD, 262144, .inl fd)), (asu, .inl (kU, 263169, .inl u56_fu)), (aru, .inl (kR, 2100, .inl u72_fr)), (ast, .inl (kT, 1800, .inl gt)), (afo, .inl (kF, 1800, .inl ff))]) [4, 0, 1, 5, 2, 3] rfl
        have hD := hD.sub (ws' := [(mo, .inr (5, [.int tv, .int mw, .int mh, .ref ad, .ref asu, .ref aru, .int u72_ro, .ref ast, .int sv, .ref afo, .int 0])), (ad, .inl (kD, 262144, .inl fd)), (asu, .inl (kU, 263169, .inl u56_fu)), (aru, .inl (kR, 2100, .inl u72_fr)), (ast, .inl (kT, 1800, .inl gt)), (afo, .inl (kF, 1800, .inl ff))]) [4, 0, 1, 5, 2, 3] (by decide) rfl
        clear hPc hKc hDc hFc ht hvm hz1 hk1 hP1 hD1
        refine lv_iload_n hx hb d_Model_find_75 rfl (lv_at hl 1 rfl) ?_
        refine lv_istore (lv' := [(5, .int a1), (0, .ref mo), (1, .int a1), (2, .int a2), (3, .int a3), (4, .int vv)]) hx hb d_Model_find_76 hl (by decide) rfl (fun ls hl => ?_)
        refine w_loop (I := fun n H' locs' g' => ∃ (mm : Int32) (zmm : Int) (sm : Int32) (zsm : Int) (gm : Nat → Int32) (ls : Array Slot), g' = F0 m 78 ls [] ∧ lv_has ls 6 [(0, .ref mo), (1, .int a1), (2, .int a2), (3, .int a3), (4, .int vv), (5, .int mm)] ∧ n = (ms9 + 1 - zmm).toNat ∧ mm.toInt = zmm ∧ (sm.toInt = zsm) ∧ (le ≤ zmm ∧ zmm ≤ ms9 + 1 ∧ 0 ≤ zsm ∧ zsm ≤ 300) ∧ (stOK D gm zsm (fvF D Wd Ht LIM le ms9 zvv zmm)) ∧ va_P (dC, dI) vwCl [(mo, .inr (5, [.int tv, .int mw, .int mh, .ref ad, .ref asu, .ref aru, .int u72_ro, .ref ast, .int sm, .ref afo, .int 0])), (ad, .inl (kD, 262144, .inl fd)), (asu, .inl (kU, 263169, .inl u56_fu)), (aru, .inl (kR, 2100, .inl u72_fr)), (ast, .inl (kT, 1800, .inl gm)), (afo, .inl (kF, 1800, .inl ff))] H' ∧ va_D A [(mo, .inr (5, [.int tv, .int mw, .int mh, .ref ad, .ref asu, .ref aru, .int u72_ro, .ref ast, .int sm, .ref afo, .int 0])), (ad, .inl (kD, 262144, .inl fd)), (asu, .inl (kU, 263169, .inl u56_fu)), (aru, .inl (kR, 2100, .inl u72_fr)), (ast, .inl (kT, 1800, .inl gm)), (afo, .inl (kF, 1800, .inl ff))] ∧ va_S A s.heap H' locs') ?_ ⟨a1, le, sv, zsv, gt, ls, rfl, lv_sub hl [1, 2, 3, 4, 5, 0] rfl, rfl, g1, hsv, by omega, i2, hP, hD, hS⟩
        intro n78 H78 locs g' hI ih78
        obtain ⟨mm, zmm, sm, zsm, gm, ls, rfl, hl, hn, hmm, hsm, j1, j2, hP, hD, hS⟩ := hI
        refine lv_iload hx hb d_Model_find_78 (lv_at hl 5 rfl) ?_
        refine lv_iload_n hx hb d_Model_find_80 rfl (lv_at hl 2 rfl) ?_
        refine lv_icmp_gt (tgt := 108) hx hb d_Model_find_81 (by decide) (fun c81 => ?_) (fun c81 => ?_)
        · skip
          have c81 : ms9 < zmm := (ti_lt g2 hmm).mp c81
          obtain ⟨v108, e108⟩ : ∃ y : Int32, y = vv + 1 := ⟨_, rfl⟩
          have h108 : v108.toInt = zvv + 1 := by rw [e108]; exact ti_add hvv (ti_k (by decide)) (by omega) (by omega)
          refine lv_iinc (v := v108) (lv' := [(4, .int v108), (0, .ref mo), (1, .int a1), (2, .int a2), (3, .int a3), (5, .int mm)]) hx hb d_Model_find_108 hl (k := 4) rfl (by rw [e108]; rfl) (by decide) rfl (fun ls hl => ?_)
          refine lv_goto (tgt := 62) hx hb d_Model_find_111 (by decide) ?_
          exact ih62 _ (by omega) _ _ _ ⟨v108, (zvv + 1), u72_ro, u72_ro.toInt, sm, zsm, u72_fr, gm, ls, rfl, lv_sub hl [1, 2, 3, 4, 0] rfl, rfl, h108, rfl, hsm, by omega, st_congr j2 (fun _ _ _ _ _ => fv_v (by omega)), hP, hD, hS⟩
        · skip
          have c81 : ¬ (ms9 < zmm) := fun q => c81 ((ti_lt g2 hmm).mpr q)
          refine lv_aload_n hx hb d_Model_find_84 rfl (lv_at hl 0 rfl) ?_
          refine lv_iload hx hb d_Model_find_85 (lv_at hl 5 rfl) ?_
          refine lv_iload hx hb d_Model_find_87 (lv_at hl 4 rfl) ?_
          refine lv_iload_n hx hb d_Model_find_89 rfl (lv_at hl 3 rfl) ?_
          have hPc := hP.sub (ws' := [(mo, .inr (5, [.int tv, .int mw, .int mh, .ref ad, .ref asu, .ref aru, .int u72_ro, .ref ast, .int sm, .ref afo, .int 0])), (asu, .inl (kU, 263169, .inl u56_fu)), (aru, .inl (kR, 2100, .inl u72_fr)), (ast, .inl (kT, 1800, .inl gm))]) [0, 2, 3, 4] rfl
          have hKc := hK.sub (tys' := [(kU, .int), (kR, .int), (kT, .int)]) [1, 2, 3] rfl
          have hDc := hD.sub (ws' := [(mo, .inr (5, [.int tv, .int mw, .int mh, .ref ad, .ref asu, .ref aru, .int u72_ro, .ref ast, .int sm, .ref afo, .int 0])), (asu, .inl (kU, 263169, .inl u56_fu)), (aru, .inl (kR, 2100, .inl u72_fr)), (ast, .inl (kT, 1800, .inl gm))]) [0, 2, 3, 4] (by decide) rfl
          have hFc := va_free (wc := [(mo, .inr (5, [.int tv, .int mw, .int mh, .ref ad, .ref asu, .ref aru, .int u72_ro, .ref ast, .int sm, .ref afo, .int 0])), (asu, .inl (kU, 263169, .inl u56_fu)), (aru, .inl (kR, 2100, .inl u72_fr)), (ast, .inl (kT, 1800, .inl gm))]) hD hS hA [0, 2, 3, 4] rfl
          refine va_calli (va_runV (As := [.int mm, .int vv, .int a3]) (rest := []) ⟨hx, hb, hml, hown, hts⟩ (m_look l dC dI H78.size mo ad asu aru ast afo tv mw mh u72_ro sm 0 Wd Ht hmw hmh hW1 hW2 hH1 hH2 D kU kR kT u56_fu u72_fr gm h56.1 u72_ro.toInt (17 + 4 * zvv) zsm rfl hsm h72.1 h72.2.1 h72.2.2.1 (fvF D Wd Ht LIM le ms9 zvv zmm) j2 (by omega) (by omega) mm vv a3 zmm zvv LIM hmm hvv g3 (by omega) (by omega) (by omega) (by omega) (by omega) (by omega) rfl h72.2.2.2 fv_not) (aw_V 3 hts wd_674 wd_676 ws_36 wd_5 wd_677 rfl rfl (by decide +kernel) ⟨Nat.le_of_ble_eq_true rfl, Nat.le_of_ble_eq_true rfl⟩) ⟨rw_blind, va_recv hKc hPc (ci := 5) (q0 := 0) rfl rfl, rw_pre hPc hKc hDc⟩ rfl rfl hl.1 rfl (lv_room (Nat.le_of_ble_eq_true rfl)) d_Model_find_90 ⟨Nat.le_of_ble_eq_true rfl, Nat.le_of_ble_eq_true rfl⟩) hS (fun q _ h => hFc q h) hFc (fun v90 u t9 H90 locs ht hvm h90 hB hz1 hk1 hS => ?_)
          obtain ⟨u90_sd, u90_ft⟩ := u
          obtain ⟨hP1, _, hD1⟩ := hB
          rw [ht] at hP1
          try dsimp only at h90 hP1 hD1
          obtain ⟨hP, hD⟩ := va_join (wr := [(ad, .inl (kD, 262144, .inl fd)), (afo, .inl (kF, 1800, .inl ff))]) (w1 := [(mo, .inr (5, [.int tv, .int mw, .int mh, .ref ad, .ref asu, .ref aru, .int u72_ro, .ref ast, .int u90_sd, .ref afo, .int 0])), (asu, .inl (kU, 263169, .inl u56_fu)), (aru, .inl (kR, 2100, .inl u72_fr)), (ast, .inl (kT, 1800, .inl u90_ft))]) hP hD [0, 2, 3, 4] [1, 5] rfl rfl (by decide) (by decide) hk1 hFc hP1 hD1
          have hP := hP.sub (ws' := [(mo, .inr (5, [.int tv, .int mw, .int mh, .ref ad, .ref asu, .ref aru, .int u72_ro, .ref ast, .int u90_sd, .ref afo, .int 0])), (ad, .inl (kD, 262144, .inl fd)), (asu, .inl (kU, 263169, .inl u56_fu)), (aru, .inl (kR, 2100, .inl u72_fr)), (ast, .inl (kT, 1800, .inl u90_ft)), (afo, .inl (kF, 1800, .inl ff))]) [2, 0, 3, 4, 5, 1] rfl
          have hD := hD.sub (ws' := [(mo, .inr (5, [.int tv, .int mw, .int mh, .ref ad, .ref asu, .ref aru, .int u72_ro, .ref ast, .int u90_sd, .ref afo, .int 0])), (ad, .inl (kD, 262144, .inl fd)), (asu, .inl (kU, 263169, .inl u56_fu)), (aru, .inl (kR, 2100, .inl u72_fr)), (ast, .inl (kT, 1800, .inl u90_ft)), (afo, .inl (kF, 1800, .inl ff))]) [2, 0, 3, 4, 5, 1] (by decide) rfl
          clear hPc hKc hDc hFc ht hvm hz1 hk1 hP1 hD1
          have b90 : 0 ≤ u90_sd.toInt ∧ u90_sd.toInt ≤ 300 := by rcases h90 with q | q <;> omega
          refine lv_if_ne (tgt := 102) hx hb d_Model_find_93 (by decide) (fun c93 => ?_) (fun c93 => ?_)
          · skip
            obtain ⟨v102, e102⟩ : ∃ y : Int32, y = mm + 1 := ⟨_, rfl⟩
            have h102 : v102.toInt = zmm + 1 := by rw [e102]; exact ti_add hmm (ti_k (by decide)) (by omega) (by omega)
            refine lv_iinc (v := v102) (lv' := [(5, .int v102), (0, .ref mo), (1, .int a1), (2, .int a2), (3, .int a3), (4, .int vv)]) hx hb d_Model_find_102 hl (k := 5) rfl (by rw [e102]; rfl) (by decide) rfl (fun ls hl => ?_)
            refine lv_goto (tgt := 78) hx hb d_Model_find_105 (by decide) ?_
            exact ih78 _ (by omega) _ _ _ ⟨v102, (zmm + 1), u90_sd, u90_sd.toInt, u90_ft, ls, rfl, lv_sub hl [1, 2, 3, 4, 5, 0] rfl, rfl, h102, rfl, by omega, by rcases h90 with q | q <;> first | exact st_congr q.2.2.2 (fun _ _ _ _ _ => fv_m (by omega) (by omega) (by omega)) | exact absurd q.1 c93, hP, hD, hS⟩
          · skip
            refine lv_aload_n hx hb d_Model_find_96 rfl (lv_at hl 0 rfl) ?_
            have hPc := hP.sub (ws' := [(mo, .inr (5, [.int tv, .int mw, .int mh, .ref ad, .ref asu, .ref aru, .int u72_ro, .ref ast, .int u90_sd, .ref afo, .int 0]))]) [0] rfl
            have hKc := hK.sub (tys' := []) [] rfl
            have hDc := hD.sub (ws' := [(mo, .inr (5, [.int tv, .int mw, .int mh, .ref ad, .ref asu, .ref aru, .int u72_ro, .ref ast, .int u90_sd, .ref afo, .int 0]))]) [0] (by decide) rfl
            have hFc := va_free (wc := [(mo, .inr (5, [.int tv, .int mw, .int mh, .ref ad, .ref asu, .ref aru, .int u72_ro, .ref ast, .int u90_sd, .ref afo, .int 0]))]) hD hS hA [0] rfl
            refine va_callv (va_runV (As := []) (rest := []) ⟨hx, hb, hml, hown, hts⟩ (m_forget l dC dI H90.size mo ad asu aru ast afo tv mw mh u72_ro u90_sd 0) (aw_V 0 hts wd_608 wd_610 ws_29 wd_5 wd_611 rfl rfl (by decide +kernel) ⟨Nat.le_of_ble_eq_true rfl, Nat.le_of_ble_eq_true rfl⟩) ⟨rw_blind, va_recv hKc hPc (ci := 5) (q0 := 0) rfl rfl, rw_pre hPc hKc hDc⟩ rfl rfl hl.1 rfl (lv_room (Nat.le_of_ble_eq_true rfl)) d_Model_find_97 ⟨Nat.le_of_ble_eq_true rfl, Nat.le_of_ble_eq_true rfl⟩) hS (fun q _ h => hFc q h) hFc (fun u97_w t9 H97 locs ht hvm h97 hB hz1 hk1 hS => ?_)
            obtain ⟨hP1, _, hD1⟩ := hB
            rw [ht] at hP1
            try dsimp only at h97 hP1 hD1
            obtain ⟨hP, hD⟩ := va_join (wr := [(ad, .inl (kD, 262144, .inl fd)), (asu, .inl (kU, 263169, .inl u56_fu)), (aru, .inl (kR, 2100, .inl u72_fr)), (ast, .inl (kT, 1800, .inl u90_ft)), (afo, .inl (kF, 1800, .inl ff))]) (w1 := [(mo, .inr (5, [.int tv, .int mw, .int mh, .ref ad, .ref asu, .ref aru, .int u72_ro, .ref ast, .int 0, .ref afo, .int 0]))]) hP hD [0] [1, 2, 3, 4, 5] rfl rfl (by decide) (by decide) hk1 hFc hP1 hD1
            have hP := hP.sub (ws' := [(mo, .inr (5, [.int tv, .int mw, .int mh, .ref ad, .ref asu, .ref aru, .int u72_ro, .ref ast, .int 0, .ref afo, .int 0])), (ad, .inl (kD, 262144, .inl fd)), (asu, .inl (kU, 263169, .inl u56_fu)), (aru, .inl (kR, 2100, .inl u72_fr)), (ast, .inl (kT, 1800, .inl u90_ft)), (afo, .inl (kF, 1800, .inl ff))]) [5, 0, 1, 2, 3, 4] rfl
            have hD := hD.sub (ws' := [(mo, .inr (5, [.int tv, .int mw, .int mh, .ref ad, .ref asu, .ref aru, .int u72_ro, .ref ast, .int 0, .ref afo, .int 0])), (ad, .inl (kD, 262144, .inl fd)), (asu, .inl (kU, 263169, .inl u56_fu)), (aru, .inl (kR, 2100, .inl u72_fr)), (ast, .inl (kT, 1800, .inl u90_ft)), (afo, .inl (kF, 1800, .inl ff))]) [5, 0, 1, 2, 3, 4] (by decide) rfl
            clear hPc hKc hDc hFc ht hvm hz1 hk1 hP1 hD1
            refine lv_iconst (v := (-1)) hx hb d_Model_find_100 (by decide) ?_
            have hpost : (¬ (1 ≤ le ∧ le ≤ 16 ∧ le ≤ ms9 ∧ ms9 ≤ 16 ∧ 0 ≤ LIM ∧ LIM ≤ 500) ∧ (tv : Int32) = 1 ∧ (0 : Int32) = msd ∧ (0 : Int32) = mmn ∧ u56_fu = fu ∧ u90_ft = ft ∧ ff = ff) ∨ ((1 ≤ le ∧ le ≤ 16 ∧ le ≤ ms9 ∧ ms9 ≤ 16 ∧ 0 ≤ LIM ∧ LIM ≤ 500) ∧ (tv : Int32) = 0 ∧ ((-1) : Int32) = -1 ∧ (0 : Int32) = 0 ∧ (0 : Int32) = 0 ∧ z0 u56_fu ∧ many D Wd Ht LIM le ms9) ∨ ((1 ≤ le ∧ le ≤ 16 ∧ le ≤ ms9 ∧ ms9 ≤ 16 ∧ 0 ≤ LIM ∧ LIM ≤ 500) ∧ (tv : Int32) = 0 ∧ ((-1) : Int32) = (0 : Int32) ∧ z0 u56_fu ∧ 0 ≤ (0 : Int32).toInt ∧ (0 : Int32).toInt ≤ 300 ∧ stOK D u90_ft (0 : Int32).toInt (alF D Wd Ht LIM le ms9) ∧ 0 ≤ (0 : Int32).toInt ∧ (0 : Int32).toInt ≤ 300 ∧ foAll u90_ft (0 : Int32).toInt ff (0 : Int32).toInt) := by
              have e1 : tv = 0 := (ti_eq (y := 0) htv (by decide)).mpr (by omega)
              rcases h90 with q | ⟨_, _, F2, a, b, x, y, q, s, n⟩
              · exact absurd (q.1.symm.trans c93) (by decide)
              · exact Or.inr (Or.inl ⟨by omega, e1, rfl, rfl, rfl, h56.2, _, F2, a, fun _ _ _ _ _ g => fv_al (by omega) (by omega) (by omega) (by omega) (b _ _ _ _ _ g), x, y, zmm, zvv, q, fv_al (by omega) (by omega) (by omega) (by omega) (Or.inr ⟨rfl, rfl, s⟩), n⟩)
            have hP9 := hP.sub (ws' := [(mo, .inr (5, [.int tv, .int mw, .int mh, .ref ad, .ref asu, .ref aru, .int u72_ro, .ref ast, .int 0, .ref afo, .int 0])), (ad, .inl (kD, 262144, .inl fd)), (asu, .inl (kU, 263169, .inl u56_fu)), (aru, .inl (kR, 2100, .inl u72_fr)), (ast, .inl (kT, 1800, .inl u90_ft)), (afo, .inl (kF, 1800, .inl ff))]) [0, 1, 2, 3, 4, 5] rfl
            have hD9 := hD.sub (ws' := [(mo, .inr (5, [.int tv, .int mw, .int mh, .ref ad, .ref asu, .ref aru, .int u72_ro, .ref ast, .int 0, .ref afo, .int 0])), (ad, .inl (kD, 262144, .inl fd)), (asu, .inl (kU, 263169, .inl u56_fu)), (aru, .inl (kR, 2100, .inl u72_fr)), (ast, .inl (kT, 1800, .inl u90_ft)), (afo, .inl (kF, 1800, .inl ff))]) [0, 1, 2, 3, 4, 5] (by decide) rfl
            have hK9 := hK.sub (tys' := [(kD, .boolean), (kU, .int), (kR, .int), (kT, .int), (kF, .int)]) [0, 1, 2, 3, 4] rfl
            exact W.iret (v := (-1)) hx hb hr (fun t ht hW => ⟨⟨(-1), (tv, u72_ro, 0, 0, u56_fu, u72_fr, u90_ft, ff), rfl, hpost, by rw [ht]; exact hP9, va_K.moved hW.alike hK9, hD9⟩, hS.F ht⟩) hS.2.2 d_Model_find_101
    · skip
      have c46 : ¬ (ztv ≤ 0) := fun q => c46 ((ti_le htv (ti_k (by decide))).mpr q)
      refine lv_iconst (v := 0) hx hb d_Model_find_49 (by decide) ?_
      have hpost : (¬ (1 ≤ le ∧ le ≤ 16 ∧ le ≤ ms9 ∧ ms9 ≤ 16 ∧ 0 ≤ LIM ∧ LIM ≤ 500) ∧ (tv : Int32) = 1 ∧ (msd : Int32) = msd ∧ (mmn : Int32) = mmn ∧ fu = fu ∧ ft = ft ∧ ff = ff) ∨ ((1 ≤ le ∧ le ≤ 16 ∧ le ≤ ms9 ∧ ms9 ≤ 16 ∧ 0 ≤ LIM ∧ LIM ≤ 500) ∧ (tv : Int32) = 0 ∧ (0 : Int32) = -1 ∧ (msd : Int32) = 0 ∧ (mmn : Int32) = 0 ∧ z0 fu ∧ many D Wd Ht LIM le ms9) ∨ ((1 ≤ le ∧ le ≤ 16 ∧ le ≤ ms9 ∧ ms9 ≤ 16 ∧ 0 ≤ LIM ∧ LIM ≤ 500) ∧ (tv : Int32) = 0 ∧ (0 : Int32) = (mmn : Int32) ∧ z0 fu ∧ 0 ≤ (msd : Int32).toInt ∧ (msd : Int32).toInt ≤ 300 ∧ stOK D ft (msd : Int32).toInt (alF D Wd Ht LIM le ms9) ∧ 0 ≤ (mmn : Int32).toInt ∧ (mmn : Int32).toInt ≤ 300 ∧ foAll ft (msd : Int32).toInt ff (mmn : Int32).toInt) := by
        have e1 : tv = 1 := (ti_eq (y := 1) htv (by decide)).mpr (by omega)
        exact Or.inl ⟨by omega, e1, rfl, rfl, rfl, rfl, rfl⟩
      have hP9 := hP.sub (ws' := [(mo, .inr (5, [.int tv, .int mw, .int mh, .ref ad, .ref asu, .ref aru, .int mro, .ref ast, .int msd, .ref afo, .int mmn])), (ad, .inl (kD, 262144, .inl fd)), (asu, .inl (kU, 263169, .inl fu)), (aru, .inl (kR, 2100, .inl fr)), (ast, .inl (kT, 1800, .inl ft)), (afo, .inl (kF, 1800, .inl ff))]) [0, 1, 2, 3, 4, 5] rfl
      have hD9 := hD.sub (ws' := [(mo, .inr (5, [.int tv, .int mw, .int mh, .ref ad, .ref asu, .ref aru, .int mro, .ref ast, .int msd, .ref afo, .int mmn])), (ad, .inl (kD, 262144, .inl fd)), (asu, .inl (kU, 263169, .inl fu)), (aru, .inl (kR, 2100, .inl fr)), (ast, .inl (kT, 1800, .inl ft)), (afo, .inl (kF, 1800, .inl ff))]) [0, 1, 2, 3, 4, 5] (by decide) rfl
      have hK9 := hK.sub (tys' := [(kD, .boolean), (kU, .int), (kR, .int), (kT, .int), (kF, .int)]) [0, 1, 2, 3, 4] rfl
      exact W.iret (v := 0) hx hb hr (fun t ht hW => ⟨⟨0, (tv, mro, msd, mmn, fu, fr, ft, ff), rfl, hpost, by rw [ht]; exact hP9, va_K.moved hW.alike hK9, hD9⟩, hS.F ht⟩) hS.2.2 d_Model_find_50
  · skip
    intro hj39
    refine lv_iload_n hx hb d_Model_find_1 rfl (lv_at hl 1 rfl) ?_
    refine lv_iconst (v := 1) hx hb d_Model_find_2 (by decide) ?_
    refine lv_icmp_lt (tgt := 34) hx hb d_Model_find_3 (by decide) (fun c3 => ?_) (fun c3 => ?_)
    · skip
      have c3 : le < 1 := (ti_lt g1 (ti_k (by decide))).mp c3
      refine lv_iconst (v := 1) hx hb d_Model_find_34 (by decide) ?_
      refine lv_goto (tgt := 39) hx hb d_Model_find_35 (by decide) ?_
      exact hj39 _ _ _ ⟨1, 1, ls, rfl, lv_sub hl [0, 1, 2, 3] rfl, (ti_k (by decide)), by omega, hP, hD, hS⟩
    · skip
      have c3 : ¬ (le < 1) := fun q => c3 ((ti_lt g1 (ti_k (by decide))).mpr q)
      refine lv_iload_n hx hb d_Model_find_6 rfl (lv_at hl 1 rfl) ?_
      refine lv_bipush (v := 16) hx hb d_Model_find_7 (by decide) ?_
      refine lv_icmp_gt (tgt := 34) hx hb d_Model_find_9 (by decide) (fun c9 => ?_) (fun c9 => ?_)
      · skip
        have c9 : (16 : Int) < le := (ti_lt (ti_k (by decide)) g1).mp c9
        refine lv_iconst (v := 1) hx hb d_Model_find_34 (by decide) ?_
        refine lv_goto (tgt := 39) hx hb d_Model_find_35 (by decide) ?_
        exact hj39 _ _ _ ⟨1, 1, ls, rfl, lv_sub hl [0, 1, 2, 3] rfl, (ti_k (by decide)), by omega, hP, hD, hS⟩
      · skip
        have c9 : ¬ ((16 : Int) < le) := fun q => c9 ((ti_lt (ti_k (by decide)) g1).mpr q)
        refine lv_iload_n hx hb d_Model_find_12 rfl (lv_at hl 2 rfl) ?_
        refine lv_iload_n hx hb d_Model_find_13 rfl (lv_at hl 1 rfl) ?_
        refine lv_icmp_lt (tgt := 34) hx hb d_Model_find_14 (by decide) (fun c14 => ?_) (fun c14 => ?_)
        · skip
          have c14 : ms9 < le := (ti_lt g2 g1).mp c14
          refine lv_iconst (v := 1) hx hb d_Model_find_34 (by decide) ?_
          refine lv_goto (tgt := 39) hx hb d_Model_find_35 (by decide) ?_
          exact hj39 _ _ _ ⟨1, 1, ls, rfl, lv_sub hl [0, 1, 2, 3] rfl, (ti_k (by decide)), by omega, hP, hD, hS⟩
        · skip
          have c14 : ¬ (ms9 < le) := fun q => c14 ((ti_lt g2 g1).mpr q)
          refine lv_iload_n hx hb d_Model_find_17 rfl (lv_at hl 2 rfl) ?_
          refine lv_bipush (v := 16) hx hb d_Model_find_18 (by decide) ?_
          refine lv_icmp_gt (tgt := 34) hx hb d_Model_find_20 (by decide) (fun c20 => ?_) (fun c20 => ?_)
          · skip
            have c20 : (16 : Int) < ms9 := (ti_lt (ti_k (by decide)) g2).mp c20
            refine lv_iconst (v := 1) hx hb d_Model_find_34 (by decide) ?_
            refine lv_goto (tgt := 39) hx hb d_Model_find_35 (by decide) ?_
            exact hj39 _ _ _ ⟨1, 1, ls, rfl, lv_sub hl [0, 1, 2, 3] rfl, (ti_k (by decide)), by omega, hP, hD, hS⟩
          · skip
            have c20 : ¬ ((16 : Int) < ms9) := fun q => c20 ((ti_lt (ti_k (by decide)) g2).mpr q)
            refine lv_iload_n hx hb d_Model_find_23 rfl (lv_at hl 3 rfl) ?_
            refine lv_if_lt (tgt := 34) hx hb d_Model_find_24 (by decide) (fun c24 => ?_) (fun c24 => ?_)
            · skip
              have c24 : LIM < 0 := (ti_lt g3 (ti_k (by decide))).mp c24
              refine lv_iconst (v := 1) hx hb d_Model_find_34 (by decide) ?_
              refine lv_goto (tgt := 39) hx hb d_Model_find_35 (by decide) ?_
              exact hj39 _ _ _ ⟨1, 1, ls, rfl, lv_sub hl [0, 1, 2, 3] rfl, (ti_k (by decide)), by omega, hP, hD, hS⟩
            · skip
              have c24 : ¬ (LIM < 0) := fun q => c24 ((ti_lt g3 (ti_k (by decide))).mpr q)
              refine lv_iload_n hx hb d_Model_find_27 rfl (lv_at hl 3 rfl) ?_
              refine lv_sipush (v := 500) hx hb d_Model_find_28 (by decide) ?_
              refine lv_icmp_le (tgt := 38) hx hb d_Model_find_31 (by decide) (fun c31 => ?_) (fun c31 => ?_)
              · skip
                have c31 : LIM ≤ 500 := (ti_le g3 (ti_k (by decide))).mp c31
                refine lv_iconst (v := 0) hx hb d_Model_find_38 (by decide) ?_
                exact hj39 _ _ _ ⟨0, 0, ls, rfl, lv_sub hl [0, 1, 2, 3] rfl, (ti_k (by decide)), by omega, hP, hD, hS⟩
              · skip
                have c31 : ¬ (LIM ≤ 500) := fun q => c31 ((ti_le g3 (ti_k (by decide))).mpr q)
                refine lv_iconst (v := 1) hx hb d_Model_find_34 (by decide) ?_
                refine lv_goto (tgt := 39) hx hb d_Model_find_35 (by decide) ?_
                exact hj39 _ _ _ ⟨1, 1, ls, rfl, lv_sub hl [0, 1, 2, 3] rfl, (ti_k (by decide)), by omega, hP, hD, hS⟩
