set_option maxHeartbeats 4000000 in
set_option maxRecDepth 100000 in
theorem m_darkIn (l : Launch) (dC : Nat → ClassId) (dI : Nat → Nat → Nat) (mo ad asu aru ast afo : Nat) (mth mw mh mro msd mmn : Int32) (Wd Ht : Int) (hW2 : Wd ≤ 512) (hH2 : Ht ≤ 512) (D : Int → Int → Bool) (kU kR : ClassId) (fu fr : Nat → Int32) (hs : sOK fu D Wd Ht) (RO S : Int) (hro : mro.toInt = RO) (r1 : RO ≤ 525) (hS1 : 21 ≤ S) (hS2 : S ≤ 177) (hw : rW S fr RO) (x y M Q : Int) (b1 : 0 ≤ x) (b2 : 0 ≤ y) (b3 : 1 ≤ M) (b4 : M ≤ 16) (b5 : 0 ≤ Q) (b6 : Q ≤ 3) (b7 : x + M * S ≤ Wd) (b8 : y + M * S ≤ Ht) (a1 a2 a3 a4 a5 a6 : Int32) (k : Int) (g1 : a1.toInt = k) (g2 : a2.toInt = x) (g3 : a3.toInt = y) (g4 : a4.toInt = M) (g5 : a5.toInt = S) (g6 : a6.toInt = Q) (k0 : 0 ≤ k) (k1 : k < RO) : Met l y_Model_darkIn (.code y_Model_darkIn b_Model_darkIn 16 (some .int) :: allw) ({ frames := 1, cells := 0, slots := 0, locals := 23 }) (va_Pc [.ref mo, .int a1, .int a2, .int a3, .int a4, .int a5, .int a6] (ro_B (dC, dI) vwCl [(mo, .inr (5, [.int mth, .int mw, .int mh, .ref ad, .ref asu, .ref aru, .int mro, .ref ast, .int msd, .ref afo, .int mmn])), (asu, .inl (kU, 263169, .inl fu)), (aru, .inl (kR, 2100, .inl fr))] [(kU, .int), (kR, .int)])) (va_Qi (fun (r : Int32) (_ : Unit) => r.toInt = s1 (fun a => cB D x y M S Q a (rI fr k 1)) (rI fr k 0) (rI fr k 2).toNat) (fun _ _ => True) (fun _ => False)) 0 0 (fun _ => False) := by
  refine Met.ofW (cc := b_Model_darkIn) (maxL := 16) (ret := (some .int)) (by decide) rfl ?_
  intro p e s m args below meth c s₁ B hml hv
  obtain ⟨rfl, hP, hK⟩ := hv
  have hx := B.exec
  have hb := B.bytes
  have hr := B.returns
  have hts : ∀ w ∈ allw, w.before _ s = true := fun w h => atoms_spec (ws := .code y_Model_darkIn b_Model_darkIn 16 (some .int) :: allw) B.pre w (List.mem_cons_of_mem _ h)
  have hown : s.vm.findClass R_Model = some m.cls := findClass_of_methodNamed B.named
  have hlocks := B.notSynchronized
  have hS : va_S (fun _ => False) s.heap s.heap [] := va_S.rf
  have hP : va_P (dC, dI) vwCl [(mo, .inr (5, [.int mth, .int mw, .int mh, .ref ad, .ref asu, .ref aru, .int mro, .ref ast, .int msd, .ref afo, .int mmn])), (asu, .inl (kU, 263169, .inl fu)), (aru, .inl (kR, 2100, .inl fr))] s.heap := hP
  have hl := lv_entry ([.ref mo, .int a1, .int a2, .int a3, .int a4, .int a5, .int a6]) (n := 16) (Nat.le_of_ble_eq_true rfl)
  rw [lg_entry_eq]
  generalize (lg_sl ([.ref mo, .int a1, .int a2, .int a3, .int a4, .int a5, .int a6]) ++ List.replicate (16 - (lg_sl ([.ref mo, .int a1, .int a2, .int a3, .int a4, .int a5, .int a6])).length) Slot.unset).toArray = ls at hl ⊢
  have hl : lv_has ls 16 [(0, .ref mo), (1, .int a1), (2, .int a2), (3, .int a3), (4, .int a4), (5, .int a5), (6, .int a6)] := hl
  have wk := hw k k0 k1
  have MS := mul_b2 (a := M) (b := S) (p := 16) (q := 177) (by omega) (by omega) (by omega) (by omega)
  refine lv_aload_n hx hb d_Model_darkIn_0 rfl (lv_at hl 0 rfl) ?_
  refine va_get (D := (dC, dI)) (ci := 5) (v := .ref aru) (C := R_Model) (T := T_Model) (N := 11) hx hb hts i_Model hown hK hP 0 rfl rfl 5 (by decide) (hts _ wd_570) (fun _ h9 => h9) rfl d_Model_darkIn_1 ?_
  refine lv_iconst (v := 4) hx hb d_Model_darkIn_4 (by decide) ?_
  refine lv_iload_n hx hb d_Model_darkIn_5 rfl (lv_at hl 1 rfl) ?_
  refine lv_imul hx hb d_Model_darkIn_6 ?_
  refine lv_topi (fun v6 e6 => ?_)
  have h6 : v6.toInt = 4 * k := by rw [e6]; exact ti_mul (ti_k (by decide)) g1 (by omega) (by omega)
  have in7 : vp_in v6 2100 := vi_in h6 (by omega) (by omega)
  refine va_iald hx hb hK hP 2 1 rfl rfl in7 d_Model_darkIn_7 ?_
  refine lv_topi (fun v7 e7 => ?_)
  have e7 : v7 = fr ((4 * k)).toNat := by rw [e7, vi_cl h6]
  have h7 : v7.toInt = rI fr k 0 := by rw [e7]; first | rfl | (unfold rI; congr 2; omega)
  refine lv_istore (lv' := [(7, .int v7), (0, .ref mo), (1, .int a1), (2, .int a2), (3, .int a3), (4, .int a4), (5, .int a5), (6, .int a6)]) hx hb d_Model_darkIn_8 hl (by decide) rfl (fun ls hl => ?_)
  refine lv_aload_n hx hb d_Model_darkIn_10 rfl (lv_at hl 1 rfl) ?_
  refine va_get (D := (dC, dI)) (ci := 5) (v := .ref aru) (C := R_Model) (T := T_Model) (N := 11) hx hb hts i_Model hown hK hP 0 rfl rfl 5 (by decide) (hts _ wd_570) (fun _ h9 => h9) rfl d_Model_darkIn_11 ?_
  refine lv_iconst (v := 4) hx hb d_Model_darkIn_14 (by decide) ?_
  refine lv_iload_n hx hb d_Model_darkIn_15 rfl (lv_at hl 2 rfl) ?_
  refine lv_imul hx hb d_Model_darkIn_16 ?_
  refine lv_topi (fun v16 e16 => ?_)
  have h16 : v16.toInt = 4 * k := by rw [e16]; exact ti_mul (ti_k (by decide)) g1 (by omega) (by omega)
  refine lv_iconst (v := 1) hx hb d_Model_darkIn_17 (by decide) ?_
  refine lv_iadd hx hb d_Model_darkIn_18 ?_
  refine lv_topi (fun v18 e18 => ?_)
  have h18 : v18.toInt = (4 * k) + 1 := by rw [e18]; exact ti_add h16 (ti_k (by decide)) (by omega) (by omega)
  have in19 : vp_in v18 2100 := vi_in h18 (by omega) (by omega)
  refine va_iald hx hb hK hP 2 1 rfl rfl in19 d_Model_darkIn_19 ?_
  refine lv_topi (fun v19 e19 => ?_)
  have e19 : v19 = fr (((4 * k) + 1)).toNat := by rw [e19, vi_cl h18]
  have h19 : v19.toInt = rI fr k 1 := by rw [e19]; first | rfl | (unfold rI; congr 2; omega)
  refine lv_istore (lv' := [(8, .int v19), (7, .int v7), (0, .ref mo), (1, .int a1), (2, .int a2), (3, .int a3), (4, .int a4), (5, .int a5), (6, .int a6)]) hx hb d_Model_darkIn_20 hl (by decide) rfl (fun ls hl => ?_)
  refine lv_iload hx hb d_Model_darkIn_22 (lv_at hl 1 rfl) ?_
  refine lv_aload_n hx hb d_Model_darkIn_24 rfl (lv_at hl 2 rfl) ?_
  refine va_get (D := (dC, dI)) (ci := 5) (v := .ref aru) (C := R_Model) (T := T_Model) (N := 11) hx hb hts i_Model hown hK hP 0 rfl rfl 5 (by decide) (hts _ wd_570) (fun _ h9 => h9) rfl d_Model_darkIn_25 ?_
  refine lv_iconst (v := 4) hx hb d_Model_darkIn_28 (by decide) ?_
  refine lv_iload_n hx hb d_Model_darkIn_29 rfl (lv_at hl 3 rfl) ?_
  refine lv_imul hx hb d_Model_darkIn_30 ?_
  refine lv_topi (fun v30 e30 => ?_)
  have h30 : v30.toInt = 4 * k := by rw [e30]; exact ti_mul (ti_k (by decide)) g1 (by omega) (by omega)
  refine lv_iconst (v := 2) hx hb d_Model_darkIn_31 (by decide) ?_
  refine lv_iadd hx hb d_Model_darkIn_32 ?_
  refine lv_topi (fun v32 e32 => ?_)
  have h32 : v32.toInt = (4 * k) + 2 := by rw [e32]; exact ti_add h30 (ti_k (by decide)) (by omega) (by omega)
  have in33 : vp_in v32 2100 := vi_in h32 (by omega) (by omega)
  refine va_iald hx hb hK hP 2 1 rfl rfl in33 d_Model_darkIn_33 ?_
  refine lv_topi (fun v33 e33 => ?_)
  have e33 : v33 = fr (((4 * k) + 2)).toNat := by rw [e33, vi_cl h32]
  have h33 : v33.toInt = rI fr k 2 := by rw [e33]; first | rfl | (unfold rI; congr 2; omega)
  refine lv_iadd hx hb d_Model_darkIn_34 ?_
  refine lv_topi (fun v34 e34 => ?_)
  have h34 : v34.toInt = rI fr k 0 + rI fr k 2 := by rw [e34]; exact ti_add h7 h33 (by omega) (by omega)
  refine lv_iconst (v := 1) hx hb d_Model_darkIn_35 (by decide) ?_
  refine lv_isub hx hb d_Model_darkIn_36 ?_
  refine lv_topi (fun v36 e36 => ?_)
  have h36 : v36.toInt = (rI fr k 0 + rI fr k 2) - 1 := by rw [e36]; exact ti_sub h34 (ti_k (by decide)) (by omega) (by omega)
  refine lv_istore (lv' := [(9, .int v36), (8, .int v19), (7, .int v7), (0, .ref mo), (1, .int a1), (2, .int a2), (3, .int a3), (4, .int a4), (5, .int a5), (6, .int a6)]) hx hb d_Model_darkIn_37 hl (by decide) rfl (fun ls hl => ?_)
  refine lv_iload hx hb d_Model_darkIn_39 (lv_at hl 8 rfl) ?_
  refine lv_iload hx hb d_Model_darkIn_41 (lv_at hl 2 rfl) ?_
  refine lv_iload hx hb d_Model_darkIn_43 (lv_at hl 1 rfl) ?_
  refine lv_iload hx hb d_Model_darkIn_45 (lv_at hl 9 rfl) ?_
  have hPc := hP.sub (ws' := []) [] rfl
  have hKc := hK.sub (tys' := []) [] rfl
  refine va_calli (va_runS (As := [.int a5, .int v7, .int v19, .int a6]) (rest := []) ⟨hx, hb, hml, hown, hts⟩ (m_blockX l dC dI a5 v7 v19 a6 S (rI fr k 0) (rI fr k 1) Q g5 h7 h19 g6 (by omega) (by omega) (by omega) (by omega) (by omega)) (aw_S 4 hts wd_652 wd_653 wd_5 wd_654 rfl rfl (by decide +kernel) ⟨Nat.le_of_ble_eq_true rfl, Nat.le_of_ble_eq_true rfl⟩) ⟨ro_blind, ro_pre hPc hKc⟩ rfl rfl hl.1 rfl (lv_room (Nat.le_of_ble_eq_true rfl)) d_Model_darkIn_47 ⟨Nat.le_of_ble_eq_true rfl, Nat.le_of_ble_eq_true rfl⟩) hS (fun q _ h => h.elim) (fun q h => h.elim) (fun v47 _ t9 H47 locs ht hvm h47 hB hz1 hk1 hS => ?_)
  have hP := ro_keep hP hk1
  clear hPc hKc ht hvm hB hz1 hk1
  refine lv_iload hx hb d_Model_darkIn_50 (lv_at hl 8 rfl) ?_
  refine lv_iload hx hb d_Model_darkIn_52 (lv_at hl 0 rfl) ?_
  refine lv_iload hx hb d_Model_darkIn_54 (lv_at hl 1 rfl) ?_
  refine lv_iload hx hb d_Model_darkIn_56 (lv_at hl 9 rfl) ?_
  have hPc := hP.sub (ws' := []) [] rfl
  have hKc := hK.sub (tys' := []) [] rfl
  refine va_calli (va_runS (As := [.int a5, .int v36, .int v19, .int a6]) (rest := [.int v47]) ⟨hx, hb, hml, hown, hts⟩ (m_blockX l dC dI a5 v36 v19 a6 S ((rI fr k 0 + rI fr k 2) - 1) (rI fr k 1) Q g5 h36 h19 g6 (by omega) (by omega) (by omega) (by omega) (by omega)) (aw_S 4 hts wd_652 wd_653 wd_5 wd_654 rfl rfl (by decide +kernel) ⟨Nat.le_of_ble_eq_true rfl, Nat.le_of_ble_eq_true rfl⟩) ⟨ro_blind, ro_pre hPc hKc⟩ rfl rfl hl.1 rfl (lv_room (Nat.le_of_ble_eq_true rfl)) d_Model_darkIn_58 ⟨Nat.le_of_ble_eq_true rfl, Nat.le_of_ble_eq_true rfl⟩) hS (fun q _ h => h.elim) (fun q h => h.elim) (fun v58 _ t9 H58 locs ht hvm h58 hB hz1 hk1 hS => ?_)
  have hP := ro_keep hP hk1
  clear hPc hKc ht hvm hB hz1 hk1
  have hPc := hP.sub (ws' := []) [] rfl
  have hKc := hK.sub (tys' := []) [] rfl
  refine va_calli (va_runS (As := [.int v47, .int v58]) (rest := []) ⟨hx, hb, hml, hown, hts⟩ (m_least l dC dI v47 v58 (bA S Q (rI fr k 0) (rI fr k 1)) (bA S Q ((rI fr k 0 + rI fr k 2) - 1) (rI fr k 1)) h47 h58) (aw_S 2 hts wd_686 wd_687 wd_5 wd_688 rfl rfl (by decide +kernel) ⟨Nat.le_of_ble_eq_true rfl, Nat.le_of_ble_eq_true rfl⟩) ⟨ro_blind, ro_pre hPc hKc⟩ rfl rfl hl.1 rfl (lv_room (Nat.le_of_ble_eq_true rfl)) d_Model_darkIn_61 ⟨Nat.le_of_ble_eq_true rfl, Nat.le_of_ble_eq_true rfl⟩) hS (fun q _ h => h.elim) (fun q h => h.elim) (fun v61 _ t9 H61 locs ht hvm h61 hB hz1 hk1 hS => ?_)
  have hP := ro_keep hP hk1
  clear hPc hKc ht hvm hB hz1 hk1
  obtain ⟨LF, kLF⟩ : ∃ c : Int, c = (min (bA S Q (rI fr k 0) (rI fr k 1)) (bA S Q ((rI fr k 0 + rI fr k 2) - 1) (rI fr k 1))) := ⟨_, rfl⟩
  have h61 : v61.toInt = LF := by rw [h61, kLF]
  refine lv_istore (lv' := [(10, .int v61), (9, .int v36), (8, .int v19), (7, .int v7), (0, .ref mo), (1, .int a1), (2, .int a2), (3, .int a3), (4, .int a4), (5, .int a5), (6, .int a6)]) hx hb d_Model_darkIn_64 hl (by decide) rfl (fun ls hl => ?_)
  refine lv_iload hx hb d_Model_darkIn_66 (lv_at hl 9 rfl) ?_
  refine lv_iload hx hb d_Model_darkIn_68 (lv_at hl 3 rfl) ?_
  refine lv_iload hx hb d_Model_darkIn_70 (lv_at hl 2 rfl) ?_
  refine lv_iload hx hb d_Model_darkIn_72 (lv_at hl 10 rfl) ?_
  have hPc := hP.sub (ws' := []) [] rfl
  have hKc := hK.sub (tys' := []) [] rfl
  refine va_calli (va_runS (As := [.int a5, .int v7, .int v19, .int a6]) (rest := []) ⟨hx, hb, hml, hown, hts⟩ (m_blockY l dC dI a5 v7 v19 a6 S (rI fr k 0) (rI fr k 1) Q g5 h7 h19 g6 (by omega) (by omega) (by omega) (by omega) (by omega)) (aw_S 4 hts wd_655 wd_656 wd_5 wd_657 rfl rfl (by decide +kernel) ⟨Nat.le_of_ble_eq_true rfl, Nat.le_of_ble_eq_true rfl⟩) ⟨ro_blind, ro_pre hPc hKc⟩ rfl rfl hl.1 rfl (lv_room (Nat.le_of_ble_eq_true rfl)) d_Model_darkIn_74 ⟨Nat.le_of_ble_eq_true rfl, Nat.le_of_ble_eq_true rfl⟩) hS (fun q _ h => h.elim) (fun q h => h.elim) (fun v74 _ t9 H74 locs ht hvm h74 hB hz1 hk1 hS => ?_)
  have hP := ro_keep hP hk1
  clear hPc hKc ht hvm hB hz1 hk1
  refine lv_iload hx hb d_Model_darkIn_77 (lv_at hl 9 rfl) ?_
  refine lv_iload hx hb d_Model_darkIn_79 (lv_at hl 1 rfl) ?_
  refine lv_iload hx hb d_Model_darkIn_81 (lv_at hl 2 rfl) ?_
  refine lv_iload hx hb d_Model_darkIn_83 (lv_at hl 10 rfl) ?_
  have hPc := hP.sub (ws' := []) [] rfl
  have hKc := hK.sub (tys' := []) [] rfl
  refine va_calli (va_runS (As := [.int a5, .int v36, .int v19, .int a6]) (rest := [.int v74]) ⟨hx, hb, hml, hown, hts⟩ (m_blockY l dC dI a5 v36 v19 a6 S ((rI fr k 0 + rI fr k 2) - 1) (rI fr k 1) Q g5 h36 h19 g6 (by omega) (by omega) (by omega) (by omega) (by omega)) (aw_S 4 hts wd_655 wd_656 wd_5 wd_657 rfl rfl (by decide +kernel) ⟨Nat.le_of_ble_eq_true rfl, Nat.le_of_ble_eq_true rfl⟩) ⟨ro_blind, ro_pre hPc hKc⟩ rfl rfl hl.1 rfl (lv_room (Nat.le_of_ble_eq_true rfl)) d_Model_darkIn_85 ⟨Nat.le_of_ble_eq_true rfl, Nat.le_of_ble_eq_true rfl⟩) hS (fun q _ h => h.elim) (fun q h => h.elim) (fun v85 _ t9 H85 locs ht hvm h85 hB hz1 hk1 hS => ?_)
  have hP := ro_keep hP hk1
  clear hPc hKc ht hvm hB hz1 hk1
  have hPc := hP.sub (ws' := []) [] rfl
  have hKc := hK.sub (tys' := []) [] rfl
  refine va_calli (va_runS (As := [.int v74, .int v85]) (rest := []) ⟨hx, hb, hml, hown, hts⟩ (m_least l dC dI v74 v85 (bB S Q (rI fr k 0) (rI fr k 1)) (bB S Q ((rI fr k 0 + rI fr k 2) - 1) (rI fr k 1)) h74 h85) (aw_S 2 hts wd_686 wd_687 wd_5 wd_688 rfl rfl (by decide +kernel) ⟨Nat.le_of_ble_eq_true rfl, Nat.le_of_ble_eq_true rfl⟩) ⟨ro_blind, ro_pre hPc hKc⟩ rfl rfl hl.1 rfl (lv_room (Nat.le_of_ble_eq_true rfl)) d_Model_darkIn_88 ⟨Nat.le_of_ble_eq_true rfl, Nat.le_of_ble_eq_true rfl⟩) hS (fun q _ h => h.elim) (fun q h => h.elim) (fun v88 _ t9 H88 locs ht hvm h88 hB hz1 hk1 hS => ?_)
  have hP := ro_keep hP hk1
  clear hPc hKc ht hvm hB hz1 hk1
  obtain ⟨AB, kAB⟩ : ∃ c : Int, c = (min (bB S Q (rI fr k 0) (rI fr k 1)) (bB S Q ((rI fr k 0 + rI fr k 2) - 1) (rI fr k 1))) := ⟨_, rfl⟩
  have h88 : v88.toInt = AB := by rw [h88, kAB]
  refine lv_istore (lv' := [(11, .int v88), (10, .int v61), (9, .int v36), (8, .int v19), (7, .int v7), (0, .ref mo), (1, .int a1), (2, .int a2), (3, .int a3), (4, .int a4), (5, .int a5), (6, .int a6)]) hx hb d_Model_darkIn_91 hl (by decide) rfl (fun ls hl => ?_)
  refine w_cut (I := fun H' locs' g' => ∃ (wi : Int32) (zwi : Int) (ls : Array Slot), g' = F0 m 114 ls [.int wi] ∧ lv_has ls 16 [(0, .ref mo), (1, .int a1), (2, .int a2), (3, .int a3), (4, .int a4), (5, .int a5), (6, .int a6), (7, .int v7), (8, .int v19), (9, .int v36), (10, .int v61), (11, .int v88)] ∧ wi.toInt = zwi ∧ (zwi = if Q % 2 = 0 then rI fr k 2 else 1) ∧ va_P (dC, dI) vwCl [(mo, .inr (5, [.int mth, .int mw, .int mh, .ref ad, .ref asu, .ref aru, .int mro, .ref ast, .int msd, .ref afo, .int mmn])), (asu, .inl (kU, 263169, .inl fu)), (aru, .inl (kR, 2100, .inl fr))] H' ∧ va_S (fun _ => False) s.heap H' locs') ?_ ?_
  · skip
    intro H114 locs g' hI
    obtain ⟨wi, zwi, ls, rfl, hl, hwi, iwi, hP, hS⟩ := hI
    refine lv_istore (lv' := [(12, .int wi), (0, .ref mo), (1, .int a1), (2, .int a2), (3, .int a3), (4, .int a4), (5, .int a5), (6, .int a6), (7, .int v7), (8, .int v19), (9, .int v36), (10, .int v61), (11, .int v88)]) hx hb d_Model_darkIn_114 hl (by decide) rfl (fun ls hl => ?_)
    refine w_cut (I := fun H' locs' g' => ∃ (hg : Int32) (zhg : Int) (ls : Array Slot), g' = F0 m 137 ls [.int hg] ∧ lv_has ls 16 [(0, .ref mo), (1, .int a1), (2, .int a2), (3, .int a3), (4, .int a4), (5, .int a5), (6, .int a6), (7, .int v7), (8, .int v19), (9, .int v36), (10, .int v61), (11, .int v88), (12, .int wi)] ∧ hg.toInt = zhg ∧ (zhg = if Q % 2 = 0 then 1 else rI fr k 2) ∧ va_P (dC, dI) vwCl [(mo, .inr (5, [.int mth, .int mw, .int mh, .ref ad, .ref asu, .ref aru, .int mro, .ref ast, .int msd, .ref afo, .int mmn])), (asu, .inl (kU, 263169, .inl fu)), (aru, .inl (kR, 2100, .inl fr))] H' ∧ va_S (fun _ => False) s.heap H' locs') ?_ ?_
    · skip
      intro H137 locs g' hI
      obtain ⟨hg, zhg, ls, rfl, hl, hhg, ihg, hP, hS⟩ := hI
      refine lv_istore (lv' := [(13, .int hg), (0, .ref mo), (1, .int a1), (2, .int a2), (3, .int a3), (4, .int a4), (5, .int a5), (6, .int a6), (7, .int v7), (8, .int v19), (9, .int v36), (10, .int v61), (11, .int v88), (12, .int wi)]) hx hb d_Model_darkIn_137 hl (by decide) rfl (fun ls hl => ?_)
      have eL : LF = min (bA S Q (rI fr k 0) (rI fr k 1)) (bA S Q (rI fr k 0 + rI fr k 2 - 1) (rI fr k 1)) := kLF
      have eA : AB = min (bB S Q (rI fr k 0) (rI fr k 1)) (bB S Q (rI fr k 0 + rI fr k 2 - 1) (rI fr k 1)) := kAB
      have ge := dark_geo (by omega) (by omega) (by omega) (by omega) (by omega) (by omega) (by omega) eL eA iwi ihg
      have p1 := Int.mul_nonneg (show 0 ≤ M by omega) (show 0 ≤ LF by omega)
      have p2 := Int.mul_nonneg (show 0 ≤ M by omega) (show 0 ≤ AB by omega)
      have p3 : M * (LF + zwi) ≤ M * S := Int.mul_le_mul_of_nonneg_left (by omega) (by omega)
      have p4 : M * (AB + zhg) ≤ M * S := Int.mul_le_mul_of_nonneg_left (by omega) (by omega)
      rw [Int.mul_add] at p3 p4
      have p5 := Int.mul_nonneg (show 0 ≤ M by omega) (show 0 ≤ zwi by omega)
      have p6 := Int.mul_nonneg (show 0 ≤ M by omega) (show 0 ≤ zhg by omega)
      have p7 : 513 * M * zhg = 513 * (M * zhg) := Int.mul_assoc _ _ _
      refine lv_sipush (v := 513) hx hb d_Model_darkIn_139 (by decide) ?_
      refine lv_iload_n hx hb d_Model_darkIn_142 rfl (lv_at hl 4 rfl) ?_
      refine lv_iload hx hb d_Model_darkIn_143 (lv_at hl 5 rfl) ?_
      refine lv_iload hx hb d_Model_darkIn_145 (lv_at hl 12 rfl) ?_
      refine lv_imul hx hb d_Model_darkIn_147 ?_
      refine lv_topi (fun v147 e147 => ?_)
      have h147 : v147.toInt = M * AB := by rw [e147]; exact ti_mul g4 h88 (by omega) (by omega)
      refine lv_iadd hx hb d_Model_darkIn_148 ?_
      refine lv_topi (fun v148 e148 => ?_)
      have h148 : v148.toInt = y + (M * AB) := by rw [e148]; exact ti_add g3 h147 (by omega) (by omega)
      refine lv_imul hx hb d_Model_darkIn_149 ?_
      refine lv_topi (fun v149 e149 => ?_)
      have h149 : v149.toInt = 513 * (y + (M * AB)) := by rw [e149]; exact ti_mul (ti_k (by decide)) h148 (by omega) (by omega)
      refine lv_iload_n hx hb d_Model_darkIn_150 rfl (lv_at hl 3 rfl) ?_
      refine lv_iadd hx hb d_Model_darkIn_151 ?_
      refine lv_topi (fun v151 e151 => ?_)
      have h151 : v151.toInt = (513 * (y + (M * AB))) + x := by rw [e151]; exact ti_add h149 g2 (by omega) (by omega)
      refine lv_iload hx hb d_Model_darkIn_152 (lv_at hl 5 rfl) ?_
      refine lv_iload hx hb d_Model_darkIn_154 (lv_at hl 11 rfl) ?_
      refine lv_imul hx hb d_Model_darkIn_156 ?_
      refine lv_topi (fun v156 e156 => ?_)
      have h156 : v156.toInt = M * LF := by rw [e156]; exact ti_mul g4 h61 (by omega) (by omega)
      refine lv_iadd hx hb d_Model_darkIn_157 ?_
      refine lv_topi (fun v157 e157 => ?_)
      have h157 : v157.toInt = ((513 * (y + (M * AB))) + x) + (M * LF) := by rw [e157]; exact ti_add h151 h156 (by omega) (by omega)
      refine lv_istore (lv' := [(14, .int v157), (13, .int hg), (0, .ref mo), (1, .int a1), (2, .int a2), (3, .int a3), (4, .int a4), (5, .int a5), (6, .int a6), (7, .int v7), (8, .int v19), (9, .int v36), (10, .int v61), (11, .int v88), (12, .int wi)]) hx hb d_Model_darkIn_158 hl (by decide) rfl (fun ls hl => ?_)
      refine lv_iload hx hb d_Model_darkIn_160 (lv_at hl 0 rfl) ?_
      refine lv_sipush (v := 513) hx hb d_Model_darkIn_162 (by decide) ?_
      refine lv_iload hx hb d_Model_darkIn_165 (lv_at hl 6 rfl) ?_
      refine lv_imul hx hb d_Model_darkIn_167 ?_
      refine lv_topi (fun v167 e167 => ?_)
      have h167 : v167.toInt = 513 * M := by rw [e167]; exact ti_mul (ti_k (by decide)) g4 (by omega) (by omega)
      refine lv_iload hx hb d_Model_darkIn_168 (lv_at hl 1 rfl) ?_
      refine lv_imul hx hb d_Model_darkIn_170 ?_
      refine lv_topi (fun v170 e170 => ?_)
      have h170 : v170.toInt = (513 * M) * zhg := by rw [e170]; exact ti_mul h167 hhg (by omega) (by omega)
      refine lv_iadd hx hb d_Model_darkIn_171 ?_
      refine lv_topi (fun v171 e171 => ?_)
      have h171 : v171.toInt = (((513 * (y + (M * AB))) + x) + (M * LF)) + ((513 * M) * zhg) := by rw [e171]; exact ti_add h157 h170 (by omega) (by omega)
      refine lv_istore (lv' := [(15, .int v171), (14, .int v157), (13, .int hg), (0, .ref mo), (1, .int a1), (2, .int a2), (3, .int a3), (4, .int a4), (5, .int a5), (6, .int a6), (7, .int v7), (8, .int v19), (9, .int v36), (10, .int v61), (11, .int v88), (12, .int wi)]) hx hb d_Model_darkIn_172 hl (by decide) rfl (fun ls hl => ?_)
      refine lv_aload_n hx hb d_Model_darkIn_174 rfl (lv_at hl 3 rfl) ?_
      refine va_get (D := (dC, dI)) (ci := 5) (v := .ref asu) (C := R_Model) (T := T_Model) (N := 11) hx hb hts i_Model hown hK hP 0 rfl rfl 4 (by decide) (hts _ wd_569) (fun _ h9 => h9) rfl d_Model_darkIn_175 ?_
      refine lv_iload hx hb d_Model_darkIn_178 (lv_at hl 0 rfl) ?_
      refine lv_iload hx hb d_Model_darkIn_180 (lv_at hl 7 rfl) ?_
      refine lv_iload hx hb d_Model_darkIn_182 (lv_at hl 15 rfl) ?_
      refine lv_imul hx hb d_Model_darkIn_184 ?_
      refine lv_topi (fun v184 e184 => ?_)
      have h184 : v184.toInt = M * zwi := by rw [e184]; exact ti_mul g4 hwi (by omega) (by omega)
      refine lv_iadd hx hb d_Model_darkIn_185 ?_
      refine lv_topi (fun v185 e185 => ?_)
      have h185 : v185.toInt = ((((513 * (y + (M * AB))) + x) + (M * LF)) + ((513 * M) * zhg)) + (M * zwi) := by rw [e185]; exact ti_add h171 h184 (by omega) (by omega)
      have in186 : vp_in v185 263169 := vi_in h185 (by omega) (by omega)
      refine va_iald hx hb hK hP 1 0 rfl rfl in186 d_Model_darkIn_186 ?_
      refine lv_topi (fun v186 e186 => ?_)
      have e186 : v186 = fu ((((((513 * (y + (M * AB))) + x) + (M * LF)) + ((513 * M) * zhg)) + (M * zwi))).toNat := by rw [e186, vi_cl h185]
      have h186 : v186.toInt = cI D 0 0 (x + M * LF + M * zwi) (y + M * AB + M * zhg) := by rw [e186, ← hs (x + M * LF + M * zwi) (y + M * AB + M * zhg) (by omega) (by omega) (by omega) (by omega)]; congr 2; omega
      have n186 := cI_nn D 0 0 (x + M * LF + M * zwi) (y + M * AB + M * zhg)
      have l186 := cI_le D 0 0 (w := x + M * LF + M * zwi) (h := y + M * AB + M * zhg) (by omega) (by omega)
      have m186 := mul_b (a := x + M * LF + M * zwi) (b := y + M * AB + M * zhg) (n := 512) (by omega) (by omega) (by omega) (by omega)
      refine lv_aload_n hx hb d_Model_darkIn_187 rfl (lv_at hl 3 rfl) ?_
      refine va_get (D := (dC, dI)) (ci := 5) (v := .ref asu) (C := R_Model) (T := T_Model) (N := 11) hx hb hts i_Model hown hK hP 0 rfl rfl 4 (by decide) (hts _ wd_569) (fun _ h9 => h9) rfl d_Model_darkIn_188 ?_
      refine lv_iload hx hb d_Model_darkIn_191 (lv_at hl 0 rfl) ?_
      have in193 : vp_in v171 263169 := vi_in h171 (by omega) (by omega)
      refine va_iald hx hb hK hP 1 0 rfl rfl in193 d_Model_darkIn_193 ?_
      refine lv_topi (fun v193 e193 => ?_)
      have e193 : v193 = fu (((((513 * (y + (M * AB))) + x) + (M * LF)) + ((513 * M) * zhg))).toNat := by rw [e193, vi_cl h171]
      have h193 : v193.toInt = cI D 0 0 (x + M * LF) (y + M * AB + M * zhg) := by rw [e193, ← hs (x + M * LF) (y + M * AB + M * zhg) (by omega) (by omega) (by omega) (by omega)]; congr 2; omega
      have n193 := cI_nn D 0 0 (x + M * LF) (y + M * AB + M * zhg)
      have l193 := cI_le D 0 0 (w := x + M * LF) (h := y + M * AB + M * zhg) (by omega) (by omega)
      have m193 := mul_b (a := x + M * LF) (b := y + M * AB + M * zhg) (n := 512) (by omega) (by omega) (by omega) (by omega)
      refine lv_isub hx hb d_Model_darkIn_194 ?_
      refine lv_topi (fun v194 e194 => ?_)
      have h194 : v194.toInt = cI D 0 0 (x + M * LF + M * zwi) (y + M * AB + M * zhg) - cI D 0 0 (x + M * LF) (y + M * AB + M * zhg) := by rw [e194]; exact ti_sub h186 h193 (by omega) (by omega)
      refine lv_aload_n hx hb d_Model_darkIn_195 rfl (lv_at hl 3 rfl) ?_
      refine va_get (D := (dC, dI)) (ci := 5) (v := .ref asu) (C := R_Model) (T := T_Model) (N := 11) hx hb hts i_Model hown hK hP 0 rfl rfl 4 (by decide) (hts _ wd_569) (fun _ h9 => h9) rfl d_Model_darkIn_196 ?_
      refine lv_iload hx hb d_Model_darkIn_199 (lv_at hl 1 rfl) ?_
      refine lv_iload hx hb d_Model_darkIn_201 (lv_at hl 7 rfl) ?_
      refine lv_iload hx hb d_Model_darkIn_203 (lv_at hl 15 rfl) ?_
      refine lv_imul hx hb d_Model_darkIn_205 ?_
      refine lv_topi (fun v205 e205 => ?_)
      have h205 : v205.toInt = M * zwi := by rw [e205]; exact ti_mul g4 hwi (by omega) (by omega)
      refine lv_iadd hx hb d_Model_darkIn_206 ?_
      refine lv_topi (fun v206 e206 => ?_)
      have h206 : v206.toInt = (((513 * (y + (M * AB))) + x) + (M * LF)) + (M * zwi) := by rw [e206]; exact ti_add h157 h205 (by omega) (by omega)
      have in207 : vp_in v206 263169 := vi_in h206 (by omega) (by omega)
      refine va_iald hx hb hK hP 1 0 rfl rfl in207 d_Model_darkIn_207 ?_
      refine lv_topi (fun v207 e207 => ?_)
      have e207 : v207 = fu (((((513 * (y + (M * AB))) + x) + (M * LF)) + (M * zwi))).toNat := by rw [e207, vi_cl h206]
      have h207 : v207.toInt = cI D 0 0 (x + M * LF + M * zwi) (y + M * AB) := by rw [e207, ← hs (x + M * LF + M * zwi) (y + M * AB) (by omega) (by omega) (by omega) (by omega)]; congr 2; omega
      have n207 := cI_nn D 0 0 (x + M * LF + M * zwi) (y + M * AB)
      have l207 := cI_le D 0 0 (w := x + M * LF + M * zwi) (h := y + M * AB) (by omega) (by omega)
      have m207 := mul_b (a := x + M * LF + M * zwi) (b := y + M * AB) (n := 512) (by omega) (by omega) (by omega) (by omega)
      refine lv_isub hx hb d_Model_darkIn_208 ?_
      refine lv_topi (fun v208 e208 => ?_)
      have h208 : v208.toInt = (cI D 0 0 (x + M * LF + M * zwi) (y + M * AB + M * zhg) - cI D 0 0 (x + M * LF) (y + M * AB + M * zhg)) - cI D 0 0 (x + M * LF + M * zwi) (y + M * AB) := by rw [e208]; exact ti_sub h194 h207 (by omega) (by omega)
      refine lv_aload_n hx hb d_Model_darkIn_209 rfl (lv_at hl 3 rfl) ?_
      refine va_get (D := (dC, dI)) (ci := 5) (v := .ref asu) (C := R_Model) (T := T_Model) (N := 11) hx hb hts i_Model hown hK hP 0 rfl rfl 4 (by decide) (hts _ wd_569) (fun _ h9 => h9) rfl d_Model_darkIn_210 ?_
      refine lv_iload hx hb d_Model_darkIn_213 (lv_at hl 1 rfl) ?_
      have in215 : vp_in v157 263169 := vi_in h157 (by omega) (by omega)
      refine va_iald hx hb hK hP 1 0 rfl rfl in215 d_Model_darkIn_215 ?_
      refine lv_topi (fun v215 e215 => ?_)
      have e215 : v215 = fu ((((513 * (y + (M * AB))) + x) + (M * LF))).toNat := by rw [e215, vi_cl h157]
      have h215 : v215.toInt = cI D 0 0 (x + M * LF) (y + M * AB) := by rw [e215, ← hs (x + M * LF) (y + M * AB) (by omega) (by omega) (by omega) (by omega)]; congr 2; omega
      have n215 := cI_nn D 0 0 (x + M * LF) (y + M * AB)
      have l215 := cI_le D 0 0 (w := x + M * LF) (h := y + M * AB) (by omega) (by omega)
      have m215 := mul_b (a := x + M * LF) (b := y + M * AB) (n := 512) (by omega) (by omega) (by omega) (by omega)
      refine lv_iadd hx hb d_Model_darkIn_216 ?_
      refine lv_topi (fun v216 e216 => ?_)
      have h216 : v216.toInt = ((cI D 0 0 (x + M * LF + M * zwi) (y + M * AB + M * zhg) - cI D 0 0 (x + M * LF) (y + M * AB + M * zhg)) - cI D 0 0 (x + M * LF + M * zwi) (y + M * AB)) + cI D 0 0 (x + M * LF) (y + M * AB) := by rw [e216]; exact ti_add h208 h215 (by omega) (by omega)
      have hpost : v216.toInt = s1 (fun a => cB D x y M S Q a (rI fr k 1)) (rI fr k 0) (rI fr k 2).toNat := by
        rw [h216, ← dark_run (by omega) (by omega) (by omega) (by omega) eL eA iwi ihg]
        have t := cI_four (D := D) (x := x + M * LF) (y := y + M * AB) (w := M * zwi) (h := M * zhg) (by omega) (by omega) (by omega) (by omega)
        omega
      exact W.iret (v := v216) hx hb hr (fun t ht hW => ⟨⟨v216, (), rfl, hpost, trivial⟩, hS.F ht⟩) hS.2.2 d_Model_darkIn_217
    · skip
      intro hj137
      refine lv_iload hx hb d_Model_darkIn_116 (lv_at hl 7 rfl) ?_
      refine lv_iconst (v := 2) hx hb d_Model_darkIn_118 (by decide) ?_
      refine lv_irem hx hb d_Model_darkIn_119 (by decide) ?_
      refine lv_topi (fun v119 e119 => ?_)
      have h119 : v119.toInt = Q % 2 := by rw [e119]; exact ti_rem g6 (ti_k (by decide)) (by omega) (by omega)
      refine lv_if_ne (tgt := 127) hx hb d_Model_darkIn_120 (by decide) (fun c120 => ?_) (fun c120 => ?_)
      · skip
        have c120 : ¬ ((Q % 2) = 0) := fun q => c120 ((ti_eq h119 (ti_k (by decide))).mpr q)
        refine lv_aload_n hx hb d_Model_darkIn_127 rfl (lv_at hl 1 rfl) ?_
        refine va_get (D := (dC, dI)) (ci := 5) (v := .ref aru) (C := R_Model) (T := T_Model) (N := 11) hx hb hts i_Model hown hK hP 0 rfl rfl 5 (by decide) (hts _ wd_570) (fun _ h9 => h9) rfl d_Model_darkIn_128 ?_
        refine lv_iconst (v := 4) hx hb d_Model_darkIn_131 (by decide) ?_
        refine lv_iload_n hx hb d_Model_darkIn_132 rfl (lv_at hl 2 rfl) ?_
        refine lv_imul hx hb d_Model_darkIn_133 ?_
        refine lv_topi (fun v133 e133 => ?_)
        have h133 : v133.toInt = 4 * k := by rw [e133]; exact ti_mul (ti_k (by decide)) g1 (by omega) (by omega)
        refine lv_iconst (v := 2) hx hb d_Model_darkIn_134 (by decide) ?_
        refine lv_iadd hx hb d_Model_darkIn_135 ?_
        refine lv_topi (fun v135 e135 => ?_)
        have h135 : v135.toInt = (4 * k) + 2 := by rw [e135]; exact ti_add h133 (ti_k (by decide)) (by omega) (by omega)
        have in136 : vp_in v135 2100 := vi_in h135 (by omega) (by omega)
        refine va_iald hx hb hK hP 2 1 rfl rfl in136 d_Model_darkIn_136 ?_
        refine lv_topi (fun v136 e136 => ?_)
        have e136 : v136 = fr (((4 * k) + 2)).toNat := by rw [e136, vi_cl h135]
        have h136 : v136.toInt = rI fr k 2 := by rw [e136]; first | rfl | (unfold rI; congr 2; omega)
        exact hj137 _ _ _ ⟨v136, (rI fr k 2), ls, rfl, lv_sub hl [1, 2, 3, 4, 5, 6, 7, 8, 9, 10, 11, 12, 0] rfl, h136, by first | rw [if_pos c120] | rw [if_neg c120], hP, hS⟩
      · skip
        have c120 : (Q % 2) = 0 := (ti_eq h119 (ti_k (by decide))).mp c120
        refine lv_iconst (v := 1) hx hb d_Model_darkIn_123 (by decide) ?_
        refine lv_goto (tgt := 137) hx hb d_Model_darkIn_124 (by decide) ?_
        exact hj137 _ _ _ ⟨1, 1, ls, rfl, lv_sub hl [1, 2, 3, 4, 5, 6, 7, 8, 9, 10, 11, 12, 0] rfl, (ti_k (by decide)), by first | rw [if_pos c120] | rw [if_neg c120], hP, hS⟩
  · skip
    intro hj114
    refine lv_iload hx hb d_Model_darkIn_93 (lv_at hl 11 rfl) ?_
    refine lv_iconst (v := 2) hx hb d_Model_darkIn_95 (by decide) ?_
    refine lv_irem hx hb d_Model_darkIn_96 (by decide) ?_
    refine lv_topi (fun v96 e96 => ?_)
    have h96 : v96.toInt = Q % 2 := by rw [e96]; exact ti_rem g6 (ti_k (by decide)) (by omega) (by omega)
    refine lv_if_ne (tgt := 113) hx hb d_Model_darkIn_97 (by decide) (fun c97 => ?_) (fun c97 => ?_)
    · skip
      have c97 : ¬ ((Q % 2) = 0) := fun q => c97 ((ti_eq h96 (ti_k (by decide))).mpr q)
      refine lv_iconst (v := 1) hx hb d_Model_darkIn_113 (by decide) ?_
      exact hj114 _ _ _ ⟨1, 1, ls, rfl, lv_sub hl [5, 6, 7, 8, 9, 10, 11, 4, 3, 2, 1, 0] rfl, (ti_k (by decide)), by first | rw [if_pos c97] | rw [if_neg c97], hP, hS⟩
    · skip
      have c97 : (Q % 2) = 0 := (ti_eq h96 (ti_k (by decide))).mp c97
      refine lv_aload_n hx hb d_Model_darkIn_100 rfl (lv_at hl 5 rfl) ?_
      refine va_get (D := (dC, dI)) (ci := 5) (v := .ref aru) (C := R_Model) (T := T_Model) (N := 11) hx hb hts i_Model hown hK hP 0 rfl rfl 5 (by decide) (hts _ wd_570) (fun _ h9 => h9) rfl d_Model_darkIn_101 ?_
      refine lv_iconst (v := 4) hx hb d_Model_darkIn_104 (by decide) ?_
      refine lv_iload_n hx hb d_Model_darkIn_105 rfl (lv_at hl 6 rfl) ?_
      refine lv_imul hx hb d_Model_darkIn_106 ?_
      refine lv_topi (fun v106 e106 => ?_)
      have h106 : v106.toInt = 4 * k := by rw [e106]; exact ti_mul (ti_k (by decide)) g1 (by omega) (by omega)
      refine lv_iconst (v := 2) hx hb d_Model_darkIn_107 (by decide) ?_
      refine lv_iadd hx hb d_Model_darkIn_108 ?_
      refine lv_topi (fun v108 e108 => ?_)
      have h108 : v108.toInt = (4 * k) + 2 := by rw [e108]; exact ti_add h106 (ti_k (by decide)) (by omega) (by omega)
      have in109 : vp_in v108 2100 := vi_in h108 (by omega) (by omega)
      refine va_iald hx hb hK hP 2 1 rfl rfl in109 d_Model_darkIn_109 ?_
      refine lv_topi (fun v109 e109 => ?_)
      have e109 : v109 = fr (((4 * k) + 2)).toNat := by rw [e109, vi_cl h108]
      have h109 : v109.toInt = rI fr k 2 := by rw [e109]; first | rfl | (unfold rI; congr 2; omega)
      refine lv_goto (tgt := 114) hx hb d_Model_darkIn_110 (by decide) ?_
      exact hj114 _ _ _ ⟨v109, (rI fr k 2), ls, rfl, lv_sub hl [5, 6, 7, 8, 9, 10, 11, 4, 3, 2, 1, 0] rfl, h109, by first | rw [if_pos c97] | rw [if_neg c97], hP, hS⟩
