set_option maxHeartbeats 4000000 in
set_option maxRecDepth 100000 in
theorem m_modules (l : Launch) (dC : Nat → ClassId) (dI : Nat → Nat → Nat) (sz : Nat) (mo ad asu aru ast afo : Nat) (mth mw mh mro msd mmn : Int32) (Wd Ht : Int) (hmw : mw.toInt = Wd) (hmh : mh.toInt = Ht) (hW1 : 1 ≤ Wd) (hW2 : Wd ≤ 512) (hH1 : 1 ≤ Ht) (hH2 : Ht ≤ 512) (kD : ClassId) (fd : Nat → Int32) (D : Int → Int → Bool) (hfd : dOK fd D) (MN : Int) (hmn : mmn.toInt = MN) (s0 : 0 ≤ MN) (s1 : MN ≤ 300) (kF : ClassId) (ff : Nat → Int32) (hF : ∀ a, 0 ≤ a → a < MN → bE ff a ∧ sE ff a 0 + lE ff a ≤ 512 ∧ sE ff a 1 + lE ff a ≤ 512) (a1 a2 a3 : Int32) (k i j : Int) (g1 : a1.toInt = k) (g2 : a2.toInt = i) (g3 : a3.toInt = j) : Met l y_Model_modules (.code y_Model_modules b_Model_modules 15 (some .long) :: allw) ({ frames := 2, cells := 0, slots := 0, locals := 50 }) (va_Pc [.ref mo, .int a1, .int a2, .int a3] (rw_B (dC, dI) vwCl [(mo, .inr (5, [.int mth, .int mw, .int mh, .ref ad, .ref asu, .ref aru, .int mro, .ref ast, .int msd, .ref afo, .int mmn])), (ad, .inl (kD, 262144, .inl fd)), (afo, .inl (kF, 1800, .inl ff))] [(kD, .boolean), (kF, .int)] sz)) (va_Ql (fun (r : Int64) (u : Int32 × (Nat → Int32)) => (¬ (0 ≤ k ∧ k < MN) ∧ u.1 = 1 ∧ dOK u.2 D) ∨ ((0 ≤ k ∧ k < MN) ∧ u.1 = 0 ∧ dOK u.2 D ∧ ∀ t : Nat, t < 64 → lb r t = modF D ff j k (i + t) 0)) (fun u t => rw_E (dC, dI) vwCl [(mo, .inr (5, [.int u.1, .int mw, .int mh, .ref ad, .ref asu, .ref aru, .int mro, .ref ast, .int msd, .ref afo, .int mmn])), (ad, .inl (kD, 262144, .inl u.2)), (afo, .inl (kF, 1800, .inl ff))] [(kD, .boolean), (kF, .int)] (va_A [(mo, .inr (5, [.int mth, .int mw, .int mh, .ref ad, .ref asu, .ref aru, .int mro, .ref ast, .int msd, .ref afo, .int mmn])), (ad, .inl (kD, 262144, .inl fd)), (afo, .inl (kF, 1800, .inl ff))] sz) t) (va_A [(mo, .inr (5, [.int mth, .int mw, .int mh, .ref ad, .ref asu, .ref aru, .int mro, .ref ast, .int msd, .ref afo, .int mmn])), (ad, .inl (kD, 262144, .inl fd)), (afo, .inl (kF, 1800, .inl ff))] sz)) 0 0 (va_A [(mo, .inr (5, [.int mth, .int mw, .int mh, .ref ad, .ref asu, .ref aru, .int mro, .ref ast, .int msd, .ref afo, .int mmn])), (ad, .inl (kD, 262144, .inl fd)), (afo, .inl (kF, 1800, .inl ff))] sz) := by
  refine Met.ofW (cc := b_Model_modules) (maxL := 15) (ret := (some .long)) (by decide) rfl ?_
  intro p e s m args below meth c s₁ B hml hv
  obtain ⟨rfl, hsz, hP, hK, hD0⟩ := hv
  have hx := B.exec
  have hb := B.bytes
  have hr := B.returns
  have hts : ∀ w ∈ allw, w.before _ s = true := fun w h => atoms_spec (ws := .code y_Model_modules b_Model_modules 15 (some .long) :: allw) B.pre w (List.mem_cons_of_mem _ h)
  have hown : s.vm.findClass R_Model = some m.cls := findClass_of_methodNamed B.named
  have hlocks := B.notSynchronized
  subst hsz
  have hD := hD0.self (sz := s.heap.size)
  generalize hAe : va_A [(mo, .inr (5, [.int mth, .int mw, .int mh, .ref ad, .ref asu, .ref aru, .int mro, .ref ast, .int msd, .ref afo, .int mmn])), (ad, .inl (kD, 262144, .inl fd)), (afo, .inl (kF, 1800, .inl ff))] s.heap.size = A at hD ⊢
  have hA : ∀ q : Nat, s.heap.size ≤ q → A q := fun q h => by rw [← hAe]; exact Or.inr h
  have hS : va_S A s.heap s.heap [] := va_S.rf
  have hP : va_P (dC, dI) vwCl [(mo, .inr (5, [.int mth, .int mw, .int mh, .ref ad, .ref asu, .ref aru, .int mro, .ref ast, .int msd, .ref afo, .int mmn])), (ad, .inl (kD, 262144, .inl fd)), (afo, .inl (kF, 1800, .inl ff))] s.heap := hP
  have hl := lv_entry ([.ref mo, .int a1, .int a2, .int a3]) (n := 15) (Nat.le_of_ble_eq_true rfl)
  rw [lg_entry_eq]
  generalize (lg_sl ([.ref mo, .int a1, .int a2, .int a3]) ++ List.replicate (15 - (lg_sl ([.ref mo, .int a1, .int a2, .int a3])).length) Slot.unset).toArray = ls at hl ⊢
  have hl : lv_has ls 15 [(0, .ref mo), (1, .int a1), (2, .int a2), (3, .int a3)] := hl
  have q1 := ti_rng a1
  have q2 := ti_rng a2
  have q3 := ti_rng a3
  refine lv_aload_n hx hb d_Model_modules_0 rfl (lv_at hl 0 rfl) ?_
  refine w_cut (I := fun H' locs' g' => ∃ (tv : Int32) (ztv : Int) (ls : Array Slot), g' = F0 m 18 ls [.int tv, .ref mo] ∧ lv_has ls 15 [(0, .ref mo), (1, .int a1), (2, .int a2), (3, .int a3)] ∧ tv.toInt = ztv ∧ ((0 ≤ k ∧ k < MN) ∧ ztv = 0 ∨ ¬ (0 ≤ k ∧ k < MN) ∧ ztv = 1) ∧ va_P (dC, dI) vwCl [(mo, .inr (5, [.int mth, .int mw, .int mh, .ref ad, .ref asu, .ref aru, .int mro, .ref ast, .int msd, .ref afo, .int mmn])), (ad, .inl (kD, 262144, .inl fd)), (afo, .inl (kF, 1800, .inl ff))] H' ∧ va_D A [(mo, .inr (5, [.int mth, .int mw, .int mh, .ref ad, .ref asu, .ref aru, .int mro, .ref ast, .int msd, .ref afo, .int mmn])), (ad, .inl (kD, 262144, .inl fd)), (afo, .inl (kF, 1800, .inl ff))] ∧ va_S A s.heap H' locs') ?_ ?_
  · skip
    intro H18 locs g' hI
    obtain ⟨tv, ztv, ls, rfl, hl, htv, itv, hP, hD, hS⟩ := hI
    refine va_put (D := (dC, dI)) (ci := 5) (v := .int tv) (ty := .int) (C := R_Model) (T := T_Model) (N := 11) hx hb hts i_Model t_Model t_Model_ok n_Model hown hK hP hD hS 0 rfl rfl 0 (by decide) (hts _ wd_565) (fun _ h9 => h9) rfl (by decide +kernel) rfl rfl (Nat.le_of_ble_eq_true rfl) d_Model_modules_18 (fun H18 locs hP hD hS => ?_)
    have hP : va_P (dC, dI) vwCl [(mo, .inr (5, [.int tv, .int mw, .int mh, .ref ad, .ref asu, .ref aru, .int mro, .ref ast, .int msd, .ref afo, .int mmn])), (ad, .inl (kD, 262144, .inl fd)), (afo, .inl (kF, 1800, .inl ff))] H18 := hP
    have hD : va_D A [(mo, .inr (5, [.int tv, .int mw, .int mh, .ref ad, .ref asu, .ref aru, .int mro, .ref ast, .int msd, .ref afo, .int mmn])), (ad, .inl (kD, 262144, .inl fd)), (afo, .inl (kF, 1800, .inl ff))] := hD
    refine lv_aload_n hx hb d_Model_modules_21 rfl (lv_at hl 0 rfl) ?_
    refine va_get (D := (dC, dI)) (ci := 5) (v := .int tv) (C := R_Model) (T := T_Model) (N := 11) hx hb hts i_Model hown hK hP 0 rfl rfl 0 (by decide) (hts _ wd_565) (fun _ h9 => h9) rfl d_Model_modules_22 ?_
    refine lv_if_le (tgt := 30) hx hb d_Model_modules_25 (by decide) (fun c25 => ?_) (fun c25 => ?_)
    · skip
      have c25 : ztv ≤ 0 := (ti_le htv (ti_k (by decide))).mp c25
      have hk := hF k (by omega) (by omega)
      have hk2 := hk.1
      unfold bE at hk2
      have hk3 := hk.2
      refine lv_aload_n hx hb d_Model_modules_30 rfl (lv_at hl 0 rfl) ?_
      refine va_get (D := (dC, dI)) (ci := 5) (v := .ref afo) (C := R_Model) (T := T_Model) (N := 11) hx hb hts i_Model hown hK hP 0 rfl rfl 9 (by decide) (hts _ wd_574) (fun _ h9 => h9) rfl d_Model_modules_31 ?_
      refine lv_bipush (v := 6) hx hb d_Model_modules_34 (by decide) ?_
      refine lv_iload_n hx hb d_Model_modules_36 rfl (lv_at hl 1 rfl) ?_
      refine lv_imul hx hb d_Model_modules_37 ?_
      refine lv_topi (fun v37 e37 => ?_)
      have h37 : v37.toInt = 6 * k := by rw [e37]; exact ti_mul (ti_k (by decide)) g1 (by omega) (by omega)
      refine lv_iconst (v := 2) hx hb d_Model_modules_38 (by decide) ?_
      refine lv_iadd hx hb d_Model_modules_39 ?_
      refine lv_topi (fun v39 e39 => ?_)
      have h39 : v39.toInt = (6 * k) + 2 := by rw [e39]; exact ti_add h37 (ti_k (by decide)) (by omega) (by omega)
      have in40 : vp_in v39 1800 := vi_in h39 (by omega) (by omega)
      refine va_iald hx hb hK hP 2 1 rfl rfl in40 d_Model_modules_40 ?_
      refine lv_topi (fun v40 e40 => ?_)
      have e40 : v40 = ff (((6 * k) + 2)).toNat := by rw [e40, vi_cl h39]
      have h40 : v40.toInt = sE ff k 2 := by rw [e40]; first | rfl | (unfold sE; congr 2; omega)
      refine lv_istore (lv' := [(4, .int v40), (0, .ref mo), (1, .int a1), (2, .int a2), (3, .int a3)]) hx hb d_Model_modules_41 hl (by decide) rfl (fun ls hl => ?_)
      refine lv_aload_n hx hb d_Model_modules_43 rfl (lv_at hl 1 rfl) ?_
      refine va_get (D := (dC, dI)) (ci := 5) (v := .ref afo) (C := R_Model) (T := T_Model) (N := 11) hx hb hts i_Model hown hK hP 0 rfl rfl 9 (by decide) (hts _ wd_574) (fun _ h9 => h9) rfl d_Model_modules_44 ?_
      refine lv_bipush (v := 6) hx hb d_Model_modules_47 (by decide) ?_
      refine lv_iload_n hx hb d_Model_modules_49 rfl (lv_at hl 2 rfl) ?_
      refine lv_imul hx hb d_Model_modules_50 ?_
      refine lv_topi (fun v50 e50 => ?_)
      have h50 : v50.toInt = 6 * k := by rw [e50]; exact ti_mul (ti_k (by decide)) g1 (by omega) (by omega)
      refine lv_iconst (v := 3) hx hb d_Model_modules_51 (by decide) ?_
      refine lv_iadd hx hb d_Model_modules_52 ?_
      refine lv_topi (fun v52 e52 => ?_)
      have h52 : v52.toInt = (6 * k) + 3 := by rw [e52]; exact ti_add h50 (ti_k (by decide)) (by omega) (by omega)
      have in53 : vp_in v52 1800 := vi_in h52 (by omega) (by omega)
      refine va_iald hx hb hK hP 2 1 rfl rfl in53 d_Model_modules_53 ?_
      refine lv_topi (fun v53 e53 => ?_)
      have e53 : v53 = ff (((6 * k) + 3)).toNat := by rw [e53, vi_cl h52]
      have h53 : v53.toInt = sE ff k 3 := by rw [e53]; first | rfl | (unfold sE; congr 2; omega)
      have hPc := hP.sub (ws' := []) [] rfl
      have hKc := hK.sub (tys' := []) [] rfl
      refine va_calli (va_runS (As := [.int v53]) (rest := []) ⟨hx, hb, hml, hown, hts⟩ (m_side l dC dI v53 (sE ff k 3) h53 (by omega) (by omega)) (aw_S 1 hts wd_636 wd_637 wd_5 wd_638 rfl rfl (by decide +kernel) ⟨Nat.le_of_ble_eq_true rfl, Nat.le_of_ble_eq_true rfl⟩) ⟨ro_blind, ro_pre hPc hKc⟩ rfl rfl hl.1 rfl (lv_room (Nat.le_of_ble_eq_true rfl)) d_Model_modules_54 ⟨Nat.le_of_ble_eq_true rfl, Nat.le_of_ble_eq_true rfl⟩) hS (fun q _ h => h.elim) (fun q h => h.elim) (fun v54 _ t9 H54 locs ht hvm h54 hB hz1 hk1 hS => ?_)
      have hP := ro_keep hP hk1
      clear hPc hKc ht hvm hB hz1 hk1
      obtain ⟨S, kS⟩ : ∃ c : Int, c = (17 + 4 * (sE ff k 3)) := ⟨_, rfl⟩
      have h54 : v54.toInt = S := by rw [h54, kS]
      refine lv_istore (lv' := [(5, .int v54), (4, .int v40), (0, .ref mo), (1, .int a1), (2, .int a2), (3, .int a3)]) hx hb d_Model_modules_57 hl (by decide) rfl (fun ls hl => ?_)
      refine lv_aload_n hx hb d_Model_modules_59 rfl (lv_at hl 2 rfl) ?_
      refine va_get (D := (dC, dI)) (ci := 5) (v := .ref afo) (C := R_Model) (T := T_Model) (N := 11) hx hb hts i_Model hown hK hP 0 rfl rfl 9 (by decide) (hts _ wd_574) (fun _ h9 => h9) rfl d_Model_modules_60 ?_
      refine lv_bipush (v := 6) hx hb d_Model_modules_63 (by decide) ?_
      refine lv_iload_n hx hb d_Model_modules_65 rfl (lv_at hl 3 rfl) ?_
      refine lv_imul hx hb d_Model_modules_66 ?_
      refine lv_topi (fun v66 e66 => ?_)
      have h66 : v66.toInt = 6 * k := by rw [e66]; exact ti_mul (ti_k (by decide)) g1 (by omega) (by omega)
      refine lv_iconst (v := 4) hx hb d_Model_modules_67 (by decide) ?_
      refine lv_iadd hx hb d_Model_modules_68 ?_
      refine lv_topi (fun v68 e68 => ?_)
      have h68 : v68.toInt = (6 * k) + 4 := by rw [e68]; exact ti_add h66 (ti_k (by decide)) (by omega) (by omega)
      have in69 : vp_in v68 1800 := vi_in h68 (by omega) (by omega)
      refine va_iald hx hb hK hP 2 1 rfl rfl in69 d_Model_modules_69 ?_
      refine lv_topi (fun v69 e69 => ?_)
      have e69 : v69 = ff (((6 * k) + 4)).toNat := by rw [e69, vi_cl h68]
      have h69 : v69.toInt = sE ff k 4 := by rw [e69]; first | rfl | (unfold sE; congr 2; omega)
      refine lv_istore (lv' := [(6, .int v69), (5, .int v54), (4, .int v40), (0, .ref mo), (1, .int a1), (2, .int a2), (3, .int a3)]) hx hb d_Model_modules_70 hl (by decide) rfl (fun ls hl => ?_)
      refine lv_lconst (v := 0) hx hb d_Model_modules_72 (by decide) ?_
      refine lv_lstore (lv' := [(7, .long 0), (6, .int v69), (5, .int v54), (4, .int v40), (0, .ref mo), (1, .int a1), (2, .int a2), (3, .int a3)]) hx hb d_Model_modules_73 hl (by decide) rfl (fun ls hl => ?_)
      refine lv_iconst (v := 0) hx hb d_Model_modules_75 (by decide) ?_
      refine lv_istore (lv' := [(9, .int 0), (7, .long 0), (6, .int v69), (5, .int v54), (4, .int v40), (0, .ref mo), (1, .int a1), (2, .int a2), (3, .int a3)]) hx hb d_Model_modules_76 hl (by decide) rfl (fun ls hl => ?_)
      refine w_loop (I := fun n H' locs' g' => ∃ (bv : Int64) (cc : Int32) (zcc : Int) (fc : Nat → Int32) (ls : Array Slot), g' = F0 m 78 ls [] ∧ lv_has ls 15 [(0, .ref mo), (1, .int a1), (2, .int a2), (3, .int a3), (4, .int v40), (5, .int v54), (6, .int v69), (7, .long bv), (9, .int cc)] ∧ n = (64 - zcc).toNat ∧ cc.toInt = zcc ∧ (0 ≤ zcc ∧ zcc ≤ 64) ∧ (∀ t : Nat, t < 64 → lb bv t = (decide ((t : Int) < zcc) && modF D ff j k (i + t) 0)) ∧ (dOK fc D) ∧ va_P (dC, dI) vwCl [(mo, .inr (5, [.int tv, .int mw, .int mh, .ref ad, .ref asu, .ref aru, .int mro, .ref ast, .int msd, .ref afo, .int mmn])), (ad, .inl (kD, 262144, .inl fc)), (afo, .inl (kF, 1800, .inl ff))] H' ∧ va_D A [(mo, .inr (5, [.int tv, .int mw, .int mh, .ref ad, .ref asu, .ref aru, .int mro, .ref ast, .int msd, .ref afo, .int mmn])), (ad, .inl (kD, 262144, .inl fc)), (afo, .inl (kF, 1800, .inl ff))] ∧ va_S A s.heap H' locs') ?_ ⟨0, 0, 0, fd, ls, rfl, lv_sub hl [5, 6, 7, 8, 4, 3, 2, 1, 0] rfl, rfl, (ti_k (by decide)), by omega, fun t _ => by rw [lb_0, decide_eq_false (by omega), Bool.false_and], hfd, hP, hD, hS⟩
      intro n78 H78 locs g' hI ih78
      obtain ⟨bv, cc, zcc, fc, ls, rfl, hl, hn, hcc, i1, i2, i3, hP, hD, hS⟩ := hI
      refine lv_iload hx hb d_Model_modules_78 (lv_at hl 8 rfl) ?_
      refine lv_bipush (v := 64) hx hb d_Model_modules_80 (by decide) ?_
      refine lv_icmp_ge (tgt := 218) hx hb d_Model_modules_82 (by decide) (fun c82 => ?_) (fun c82 => ?_)
      · skip
        have c82 : 64 ≤ zcc := (ti_le (ti_k (by decide)) hcc).mp c82
        refine lv_lload hx hb d_Model_modules_218 (lv_at hl 7 rfl) ?_
        have hpost : (¬ (0 ≤ k ∧ k < MN) ∧ tv = 1 ∧ dOK fc D) ∨ ((0 ≤ k ∧ k < MN) ∧ tv = 0 ∧ dOK fc D ∧ ∀ t : Nat, t < 64 → lb bv t = modF D ff j k (i + t) 0) := by
          refine Or.inr ⟨by omega, (ti_eq (y := 0) htv (by decide)).mpr (by omega), i3, fun t ht => ?_⟩
          rw [i2 t ht, decide_eq_true (by omega), Bool.true_and]
        have hP9 := hP.sub (ws' := [(mo, .inr (5, [.int tv, .int mw, .int mh, .ref ad, .ref asu, .ref aru, .int mro, .ref ast, .int msd, .ref afo, .int mmn])), (ad, .inl (kD, 262144, .inl fc)), (afo, .inl (kF, 1800, .inl ff))]) [0, 1, 2] rfl
        have hD9 := hD.sub (ws' := [(mo, .inr (5, [.int tv, .int mw, .int mh, .ref ad, .ref asu, .ref aru, .int mro, .ref ast, .int msd, .ref afo, .int mmn])), (ad, .inl (kD, 262144, .inl fc)), (afo, .inl (kF, 1800, .inl ff))]) [0, 1, 2] (by decide) rfl
        have hK9 := hK.sub (tys' := [(kD, .boolean), (kF, .int)]) [0, 1] rfl
        exact W.lret (v := bv) hx hb hr (fun t ht hW => ⟨⟨bv, (tv, fc), rfl, hpost, by rw [ht]; exact hP9, va_K.moved hW.alike hK9, hD9⟩, hS.F ht⟩) hS.2.2 d_Model_modules_220
      · skip
        have c82 : ¬ (64 ≤ zcc) := fun q => c82 ((ti_le (ti_k (by decide)) hcc).mpr q)
        refine lv_iload_n hx hb d_Model_modules_85 rfl (lv_at hl 2 rfl) ?_
        refine lv_i2l hx hb d_Model_modules_86 rfl ?_
        refine lv_topl (fun v86 e86 => ?_)
        have h86 : v86.toInt = i := by rw [e86]; exact tl_i2l g2
        refine lv_iload hx hb d_Model_modules_87 (lv_at hl 8 rfl) ?_
        refine lv_i2l hx hb d_Model_modules_89 rfl ?_
        refine lv_topl (fun v89 e89 => ?_)
        have h89 : v89.toInt = zcc := by rw [e89]; exact tl_i2l hcc
        refine lv_ladd hx hb d_Model_modules_90 ?_
        refine lv_topl (fun v90 e90 => ?_)
        have h90 : v90.toInt = i + zcc := by rw [e90]; exact tl_add h86 h89 (by omega) (by omega)
        refine lv_lstore (lv' := [(10, .long v90), (0, .ref mo), (1, .int a1), (2, .int a2), (3, .int a3), (4, .int v40), (5, .int v54), (6, .int v69), (7, .long bv), (9, .int cc)]) hx hb d_Model_modules_91 hl (by decide) rfl (fun ls hl => ?_)
        refine lv_lload hx hb d_Model_modules_93 (lv_at hl 0 rfl) ?_
        refine lv_lconst (v := 0) hx hb d_Model_modules_95 (by decide) ?_
        refine W.lcmp hx hb d_Model_modules_96 ?_
        refine lv_topi (fun v96 e96 => ?_)
        have h96 : v96.toInt = (if 0 < (i + zcc) then 1 else if (i + zcc) = 0 then 0 else -1) := by rw [e96]; exact tl_cmp h90 (tl_k (by decide))
        refine lv_if_lt (tgt := 212) hx hb d_Model_modules_97 (by decide) (fun c97 => ?_) (fun c97 => ?_)
        · skip
          have c97 : (if 0 < (i + zcc) then 1 else if (i + zcc) = 0 then 0 else -1) < 0 := (ti_lt h96 (ti_k (by decide))).mp c97
          obtain ⟨v212, e212⟩ : ∃ y : Int32, y = cc + 1 := ⟨_, rfl⟩
          have h212 : v212.toInt = zcc + 1 := by rw [e212]; exact ti_add hcc (ti_k (by decide)) (by omega) (by omega)
          refine lv_iinc (v := v212) (lv' := [(9, .int v212), (10, .long v90), (0, .ref mo), (1, .int a1), (2, .int a2), (3, .int a3), (4, .int v40), (5, .int v54), (6, .int v69), (7, .long bv)]) hx hb d_Model_modules_212 hl (k := 9) rfl (by rw [e212]; rfl) (by decide) rfl (fun ls hl => ?_)
          refine lv_goto (tgt := 78) hx hb d_Model_modules_215 (by decide) ?_
          exact ih78 _ (by omega) _ _ _ ⟨bv, v212, (zcc + 1), fc, ls, rfl, lv_sub hl [2, 3, 4, 5, 6, 7, 8, 9, 0] rfl, rfl, h212, by omega, by first | exact dot_more i2 tt (fun t ht => by rw [e209, lb_or, e204, lb_one hcc (by omega) (by omega) ht]) | exact dot_same (fun t ht => by rw [e209, lb_or, lb_0, Bool.or_false]; exact i2 t ht) nf | exact dot_same i2 (modF_out (by omega)), by first | exact d182 | exact i3, hP, hD, hS⟩
        · skip
          have c97 : ¬ ((if 0 < (i + zcc) then 1 else if (i + zcc) = 0 then 0 else -1) < 0) := fun q => c97 ((ti_lt h96 (ti_k (by decide))).mpr q)
          refine lv_lload hx hb d_Model_modules_100 (lv_at hl 0 rfl) ?_
          refine lv_iload hx hb d_Model_modules_102 (lv_at hl 6 rfl) ?_
          refine lv_i2l hx hb d_Model_modules_104 rfl ?_
          refine lv_topl (fun v104 e104 => ?_)
          have h104 : v104.toInt = S := by rw [e104]; exact tl_i2l h54
          refine W.lcmp hx hb d_Model_modules_105 ?_
          refine lv_topi (fun v105 e105 => ?_)
          have h105 : v105.toInt = (if S < (i + zcc) then 1 else if (i + zcc) = S then 0 else -1) := by rw [e105]; exact tl_cmp h90 h104
          refine lv_if_ge (tgt := 212) hx hb d_Model_modules_106 (by decide) (fun c106 => ?_) (fun c106 => ?_)
          · skip
            have c106 : 0 ≤ (if S < (i + zcc) then 1 else if (i + zcc) = S then 0 else -1) := (ti_le (ti_k (by decide)) h105).mp c106
            obtain ⟨v212, e212⟩ : ∃ y : Int32, y = cc + 1 := ⟨_, rfl⟩
            have h212 : v212.toInt = zcc + 1 := by rw [e212]; exact ti_add hcc (ti_k (by decide)) (by omega) (by omega)
            refine lv_iinc (v := v212) (lv' := [(9, .int v212), (10, .long v90), (0, .ref mo), (1, .int a1), (2, .int a2), (3, .int a3), (4, .int v40), (5, .int v54), (6, .int v69), (7, .long bv)]) hx hb d_Model_modules_212 hl (k := 9) rfl (by rw [e212]; rfl) (by decide) rfl (fun ls hl => ?_)
            refine lv_goto (tgt := 78) hx hb d_Model_modules_215 (by decide) ?_
            exact ih78 _ (by omega) _ _ _ ⟨bv, v212, (zcc + 1), fc, ls, rfl, lv_sub hl [2, 3, 4, 5, 6, 7, 8, 9, 0] rfl, rfl, h212, by omega, by first | exact dot_more i2 tt (fun t ht => by rw [e209, lb_or, e204, lb_one hcc (by omega) (by omega) ht]) | exact dot_same (fun t ht => by rw [e209, lb_or, lb_0, Bool.or_false]; exact i2 t ht) nf | exact dot_same i2 (modF_out (by omega)), by first | exact d182 | exact i3, hP, hD, hS⟩
          · skip
            have c106 : ¬ (0 ≤ (if S < (i + zcc) then 1 else if (i + zcc) = S then 0 else -1)) := fun q => c106 ((ti_le (ti_k (by decide)) h105).mpr q)
            refine lv_iload_n hx hb d_Model_modules_109 rfl (lv_at hl 4 rfl) ?_
            refine lv_if_lt (tgt := 212) hx hb d_Model_modules_110 (by decide) (fun c110 => ?_) (fun c110 => ?_)
            · skip
              have c110 : j < 0 := (ti_lt g3 (ti_k (by decide))).mp c110
              obtain ⟨v212, e212⟩ : ∃ y : Int32, y = cc + 1 := ⟨_, rfl⟩
              have h212 : v212.toInt = zcc + 1 := by rw [e212]; exact ti_add hcc (ti_k (by decide)) (by omega) (by omega)
              refine lv_iinc (v := v212) (lv' := [(9, .int v212), (10, .long v90), (0, .ref mo), (1, .int a1), (2, .int a2), (3, .int a3), (4, .int v40), (5, .int v54), (6, .int v69), (7, .long bv)]) hx hb d_Model_modules_212 hl (k := 9) rfl (by rw [e212]; rfl) (by decide) rfl (fun ls hl => ?_)
              refine lv_goto (tgt := 78) hx hb d_Model_modules_215 (by decide) ?_
              exact ih78 _ (by omega) _ _ _ ⟨bv, v212, (zcc + 1), fc, ls, rfl, lv_sub hl [2, 3, 4, 5, 6, 7, 8, 9, 0] rfl, rfl, h212, by omega, by first | exact dot_more i2 tt (fun t ht => by rw [e209, lb_or, e204, lb_one hcc (by omega) (by omega) ht]) | exact dot_same (fun t ht => by rw [e209, lb_or, lb_0, Bool.or_false]; exact i2 t ht) nf | exact dot_same i2 (modF_out (by omega)), by first | exact d182 | exact i3, hP, hD, hS⟩
            · skip
              have c110 : ¬ (j < 0) := fun q => c110 ((ti_lt g3 (ti_k (by decide))).mpr q)
              refine lv_iload_n hx hb d_Model_modules_113 rfl (lv_at hl 4 rfl) ?_
              refine lv_iload hx hb d_Model_modules_114 (lv_at hl 6 rfl) ?_
              refine lv_icmp_ge (tgt := 212) hx hb d_Model_modules_116 (by decide) (fun c116 => ?_) (fun c116 => ?_)
              · skip
                have c116 : S ≤ j := (ti_le h54 g3).mp c116
                obtain ⟨v212, e212⟩ : ∃ y : Int32, y = cc + 1 := ⟨_, rfl⟩
                have h212 : v212.toInt = zcc + 1 := by rw [e212]; exact ti_add hcc (ti_k (by decide)) (by omega) (by omega)
                refine lv_iinc (v := v212) (lv' := [(9, .int v212), (10, .long v90), (0, .ref mo), (1, .int a1), (2, .int a2), (3, .int a3), (4, .int v40), (5, .int v54), (6, .int v69), (7, .long bv)]) hx hb d_Model_modules_212 hl (k := 9) rfl (by rw [e212]; rfl) (by decide) rfl (fun ls hl => ?_)
                refine lv_goto (tgt := 78) hx hb d_Model_modules_215 (by decide) ?_
                exact ih78 _ (by omega) _ _ _ ⟨bv, v212, (zcc + 1), fc, ls, rfl, lv_sub hl [2, 3, 4, 5, 6, 7, 8, 9, 0] rfl, rfl, h212, by omega, by first | exact dot_more i2 tt (fun t ht => by rw [e209, lb_or, e204, lb_one hcc (by omega) (by omega) ht]) | exact dot_same (fun t ht => by rw [e209, lb_or, lb_0, Bool.or_false]; exact i2 t ht) nf | exact dot_same i2 (modF_out (by omega)), by first | exact d182 | exact i3, hP, hD, hS⟩
              · skip
                have c116 : ¬ (S ≤ j) := fun q => c116 ((ti_le h54 g3).mpr q)
                have pa := bA_b (S := S) (Q := sE ff k 4) (i := i + zcc) (j := j) (by omega) (by omega) (by omega) (by omega)
                have pb := bB_b (S := S) (Q := sE ff k 4) (i := i + zcc) (j := j) (by omega) (by omega) (by omega) (by omega)
                have pA := blk_b (m := sE ff k 2) (S := S) (by omega) pa.1 pa.2
                have pB := blk_b (m := sE ff k 2) (S := S) (by omega) pb.1 pb.2
                have lk : lE ff k = sE ff k 2 * S := by rw [kS]; rfl
                refine lv_aload_n hx hb d_Model_modules_119 rfl (lv_at hl 1 rfl) ?_
                refine va_get (D := (dC, dI)) (ci := 5) (v := .ref afo) (C := R_Model) (T := T_Model) (N := 11) hx hb hts i_Model hown hK hP 0 rfl rfl 9 (by decide) (hts _ wd_574) (fun _ h9 => h9) rfl d_Model_modules_120 ?_
                refine lv_bipush (v := 6) hx hb d_Model_modules_123 (by decide) ?_
                refine lv_iload_n hx hb d_Model_modules_125 rfl (lv_at hl 2 rfl) ?_
                refine lv_imul hx hb d_Model_modules_126 ?_
                refine lv_topi (fun v126 e126 => ?_)
                have h126 : v126.toInt = 6 * k := by rw [e126]; exact ti_mul (ti_k (by decide)) g1 (by omega) (by omega)
                have in127 : vp_in v126 1800 := vi_in h126 (by omega) (by omega)
                refine va_iald hx hb hK hP 2 1 rfl rfl in127 d_Model_modules_127 ?_
                refine lv_topi (fun v127 e127 => ?_)
                have e127 : v127 = ff ((6 * k)).toNat := by rw [e127, vi_cl h126]
                have h127 : v127.toInt = sE ff k 0 := by rw [e127]; first | rfl | (unfold sE; congr 2; omega)
                refine lv_iload hx hb d_Model_modules_128 (lv_at hl 5 rfl) ?_
                refine lv_iload hx hb d_Model_modules_130 (lv_at hl 6 rfl) ?_
                refine lv_lload hx hb d_Model_modules_132 (lv_at hl 0 rfl) ?_
                refine lv_l2i hx hb d_Model_modules_134 rfl ?_
                refine lv_topi (fun v134 e134 => ?_)
                have h134 : v134.toInt = (i + zcc) := by rw [e134]; exact tl_l2i h90 (by omega) (by omega)
                refine lv_iload_n hx hb d_Model_modules_135 rfl (lv_at hl 4 rfl) ?_
                refine lv_iload hx hb d_Model_modules_136 (lv_at hl 7 rfl) ?_
                have hPc := hP.sub (ws' := []) [] rfl
                have hKc := hK.sub (tys' := []) [] rfl
                refine va_calli (va_runS (As := [.int v54, .int v134, .int a3, .int v69]) (rest := [.int v40, .int v127]) ⟨hx, hb, hml, hown, hts⟩ (m_blockX l dC dI v54 v134 a3 v69 S (i + zcc) j (sE ff k 4) h54 h134 g3 h69 (by omega) (by omega) (by omega) (by omega) (by omega)) (aw_S 4 hts wd_652 wd_653 wd_5 wd_654 rfl rfl (by decide +kernel) ⟨Nat.le_of_ble_eq_true rfl, Nat.le_of_ble_eq_true rfl⟩) ⟨ro_blind, ro_pre hPc hKc⟩ rfl rfl hl.1 rfl (lv_room (Nat.le_of_ble_eq_true rfl)) d_Model_modules_138 ⟨Nat.le_of_ble_eq_true rfl, Nat.le_of_ble_eq_true rfl⟩) hS (fun q _ h => h.elim) (fun q h => h.elim) (fun v138 _ t9 H138 locs ht hvm h138 hB hz1 hk1 hS => ?_)
                have hP := ro_keep hP hk1
                clear hPc hKc ht hvm hB hz1 hk1
                refine lv_imul hx hb d_Model_modules_141 ?_
                refine lv_topi (fun v141 e141 => ?_)
                have h141 : v141.toInt = sE ff k 2 * (bA S (sE ff k 4) (i + zcc) j) := by rw [e141]; exact ti_mul h40 h138 (by omega) (by omega)
                refine lv_iadd hx hb d_Model_modules_142 ?_
                refine lv_topi (fun v142 e142 => ?_)
                have h142 : v142.toInt = sE ff k 0 + (sE ff k 2 * (bA S (sE ff k 4) (i + zcc) j)) := by rw [e142]; exact ti_add h127 h141 (by omega) (by omega)
                refine lv_istore (lv' := [(12, .int v142), (10, .long v90), (0, .ref mo), (1, .int a1), (2, .int a2), (3, .int a3), (4, .int v40), (5, .int v54), (6, .int v69), (7, .long bv), (9, .int cc)]) hx hb d_Model_modules_143 hl (by decide) rfl (fun ls hl => ?_)
                refine lv_aload_n hx hb d_Model_modules_145 rfl (lv_at hl 2 rfl) ?_
                refine va_get (D := (dC, dI)) (ci := 5) (v := .ref afo) (C := R_Model) (T := T_Model) (N := 11) hx hb hts i_Model hown hK hP 0 rfl rfl 9 (by decide) (hts _ wd_574) (fun _ h9 => h9) rfl d_Model_modules_146 ?_
                refine lv_bipush (v := 6) hx hb d_Model_modules_149 (by decide) ?_
                refine lv_iload_n hx hb d_Model_modules_151 rfl (lv_at hl 3 rfl) ?_
                refine lv_imul hx hb d_Model_modules_152 ?_
                refine lv_topi (fun v152 e152 => ?_)
                have h152 : v152.toInt = 6 * k := by rw [e152]; exact ti_mul (ti_k (by decide)) g1 (by omega) (by omega)
                refine lv_iconst (v := 1) hx hb d_Model_modules_153 (by decide) ?_
                refine lv_iadd hx hb d_Model_modules_154 ?_
                refine lv_topi (fun v154 e154 => ?_)
                have h154 : v154.toInt = (6 * k) + 1 := by rw [e154]; exact ti_add h152 (ti_k (by decide)) (by omega) (by omega)
                have in155 : vp_in v154 1800 := vi_in h154 (by omega) (by omega)
                refine va_iald hx hb hK hP 2 1 rfl rfl in155 d_Model_modules_155 ?_
                refine lv_topi (fun v155 e155 => ?_)
                have e155 : v155 = ff (((6 * k) + 1)).toNat := by rw [e155, vi_cl h154]
                have h155 : v155.toInt = sE ff k 1 := by rw [e155]; first | rfl | (unfold sE; congr 2; omega)
                refine lv_iload hx hb d_Model_modules_156 (lv_at hl 6 rfl) ?_
                refine lv_iload hx hb d_Model_modules_158 (lv_at hl 7 rfl) ?_
                refine lv_lload hx hb d_Model_modules_160 (lv_at hl 1 rfl) ?_
                refine lv_l2i hx hb d_Model_modules_162 rfl ?_
                refine lv_topi (fun v162 e162 => ?_)
                have h162 : v162.toInt = (i + zcc) := by rw [e162]; exact tl_l2i h90 (by omega) (by omega)
                refine lv_iload_n hx hb d_Model_modules_163 rfl (lv_at hl 5 rfl) ?_
                refine lv_iload hx hb d_Model_modules_164 (lv_at hl 8 rfl) ?_
                have hPc := hP.sub (ws' := []) [] rfl
                have hKc := hK.sub (tys' := []) [] rfl
                refine va_calli (va_runS (As := [.int v54, .int v162, .int a3, .int v69]) (rest := [.int v40, .int v155]) ⟨hx, hb, hml, hown, hts⟩ (m_blockY l dC dI v54 v162 a3 v69 S (i + zcc) j (sE ff k 4) h54 h162 g3 h69 (by omega) (by omega) (by omega) (by omega) (by omega)) (aw_S 4 hts wd_655 wd_656 wd_5 wd_657 rfl rfl (by decide +kernel) ⟨Nat.le_of_ble_eq_true rfl, Nat.le_of_ble_eq_true rfl⟩) ⟨ro_blind, ro_pre hPc hKc⟩ rfl rfl hl.1 rfl (lv_room (Nat.le_of_ble_eq_true rfl)) d_Model_modules_166 ⟨Nat.le_of_ble_eq_true rfl, Nat.le_of_ble_eq_true rfl⟩) hS (fun q _ h => h.elim) (fun q h => h.elim) (fun v166 _ t9 H166 locs ht hvm h166 hB hz1 hk1 hS => ?_)
                have hP := ro_keep hP hk1
                clear hPc hKc ht hvm hB hz1 hk1
                refine lv_imul hx hb d_Model_modules_169 ?_
                refine lv_topi (fun v169 e169 => ?_)
                have h169 : v169.toInt = sE ff k 2 * (bB S (sE ff k 4) (i + zcc) j) := by rw [e169]; exact ti_mul h40 h166 (by omega) (by omega)
                refine lv_iadd hx hb d_Model_modules_170 ?_
                refine lv_topi (fun v170 e170 => ?_)
                have h170 : v170.toInt = sE ff k 1 + (sE ff k 2 * (bB S (sE ff k 4) (i + zcc) j)) := by rw [e170]; exact ti_add h155 h169 (by omega) (by omega)
                refine lv_istore (lv' := [(13, .int v170), (12, .int v142), (10, .long v90), (0, .ref mo), (1, .int a1), (2, .int a2), (3, .int a3), (4, .int v40), (5, .int v54), (6, .int v69), (7, .long bv), (9, .int cc)]) hx hb d_Model_modules_171 hl (by decide) rfl (fun ls hl => ?_)
                refine lv_aload_n hx hb d_Model_modules_173 rfl (lv_at hl 3 rfl) ?_
                refine lv_iload hx hb d_Model_modules_174 (lv_at hl 1 rfl) ?_
                refine lv_iload hx hb d_Model_modules_176 (lv_at hl 0 rfl) ?_
                refine lv_iload hx hb d_Model_modules_178 (lv_at hl 7 rfl) ?_
                refine lv_iconst (v := 0) hx hb d_Model_modules_180 (by decide) ?_
                refine lv_iconst (v := 0) hx hb d_Model_modules_181 (by decide) ?_
                have hPc := hP.sub (ws' := [(mo, .inr (5, [.int tv, .int mw, .int mh, .ref ad, .ref asu, .ref aru, .int mro, .ref ast, .int msd, .ref afo, .int mmn])), (ad, .inl (kD, 262144, .inl fc))]) [0, 1] rfl
                have hKc := hK.sub (tys' := [(kD, .boolean)]) [0] rfl
                have hDc := hD.sub (ws' := [(mo, .inr (5, [.int tv, .int mw, .int mh, .ref ad, .ref asu, .ref aru, .int mro, .ref ast, .int msd, .ref afo, .int mmn])), (ad, .inl (kD, 262144, .inl fc))]) [0, 1] (by decide) rfl
                have hFc := va_free (wc := [(mo, .inr (5, [.int tv, .int mw, .int mh, .ref ad, .ref asu, .ref aru, .int mro, .ref ast, .int msd, .ref afo, .int mmn])), (ad, .inl (kD, 262144, .inl fc))]) hD hS hA [0, 1] rfl
                refine va_calli (va_runV (As := [.int v142, .int v170, .int v40, .int 0, .int 0]) (rest := []) ⟨hx, hb, hml, hown, hts⟩ (m_differ l dC dI H166.size mo ad asu aru ast afo tv mw mh mro msd mmn Wd Ht hmw hmh hW1 hW2 hH1 hH2 kD fc D i3 v142 v170 v40 0 0 (sE ff k 0 + (sE ff k 2 * (bA S (sE ff k 4) (i + zcc) j))) (sE ff k 1 + (sE ff k 2 * (bB S (sE ff k 4) (i + zcc) j))) (sE ff k 2) false false h142 h170 h40 rfl rfl (by omega) (by omega) (by omega) (by omega) (by omega) (by omega)) (aw_V 5 hts wd_658 wd_660 ws_33 wd_5 wd_661 rfl rfl (by decide +kernel) ⟨Nat.le_of_ble_eq_true rfl, Nat.le_of_ble_eq_true rfl⟩) ⟨rw_blind, va_recv hKc hPc (ci := 5) (q0 := 0) rfl rfl, rw_pre hPc hKc hDc⟩ rfl rfl hl.1 rfl (lv_room (Nat.le_of_ble_eq_true rfl)) d_Model_modules_182 ⟨Nat.le_of_ble_eq_true rfl, Nat.le_of_ble_eq_true rfl⟩) hS (fun q _ h => hFc q h) hFc (fun v182 u182_fd t9 H182 locs ht hvm h182 hB hz1 hk1 hS => ?_)
                obtain ⟨hP1, _, hD1⟩ := hB
                rw [ht] at hP1
                try dsimp only at h182 hP1 hD1
                obtain ⟨hP, hD⟩ := va_join (wr := [(afo, .inl (kF, 1800, .inl ff))]) (w1 := [(mo, .inr (5, [.int tv, .int mw, .int mh, .ref ad, .ref asu, .ref aru, .int mro, .ref ast, .int msd, .ref afo, .int mmn])), (ad, .inl (kD, 262144, .inl u182_fd))]) hP hD [0, 1] [2] rfl rfl (by decide) (by decide) hk1 hFc hP1 hD1
                have hP := hP.sub (ws' := [(mo, .inr (5, [.int tv, .int mw, .int mh, .ref ad, .ref asu, .ref aru, .int mro, .ref ast, .int msd, .ref afo, .int mmn])), (ad, .inl (kD, 262144, .inl u182_fd)), (afo, .inl (kF, 1800, .inl ff))]) [1, 2, 0] rfl
                have hD := hD.sub (ws' := [(mo, .inr (5, [.int tv, .int mw, .int mh, .ref ad, .ref asu, .ref aru, .int mro, .ref ast, .int msd, .ref afo, .int mmn])), (ad, .inl (kD, 262144, .inl u182_fd)), (afo, .inl (kF, 1800, .inl ff))]) [1, 2, 0] (by decide) rfl
                clear hPc hKc hDc hFc ht hvm hz1 hk1 hP1 hD1
                have n182 := h182.1
                rw [neB_f] at n182
                have d182 := h182.2
                rw [pf_same] at d182
                have b182 := cI_nn D (sE ff k 0 + sE ff k 2 * bA S (sE ff k 4) (i + zcc) j) (sE ff k 1 + sE ff k 2 * bB S (sE ff k 4) (i + zcc) j) (sE ff k 2) (sE ff k 2)
                have t182 := cI_le D (sE ff k 0 + sE ff k 2 * bA S (sE ff k 4) (i + zcc) j) (sE ff k 1 + sE ff k 2 * bB S (sE ff k 4) (i + zcc) j) (w := sE ff k 2) (h := sE ff k 2) (by omega) (by omega)
                have mm2 := mul_b2 (a := sE ff k 2) (b := sE ff k 2) (p := 16) (q := 16) (by omega) (by omega) (by omega) (by omega)
                have mm0 := Int.mul_nonneg (show 0 ≤ sE ff k 2 by omega) (show 0 ≤ sE ff k 2 by omega)
                refine lv_istore (lv' := [(14, .int v182), (13, .int v170), (12, .int v142), (10, .long v90), (0, .ref mo), (1, .int a1), (2, .int a2), (3, .int a3), (4, .int v40), (5, .int v54), (6, .int v69), (7, .long bv), (9, .int cc)]) hx hb d_Model_modules_185 hl (by decide) rfl (fun ls hl => ?_)
                refine lv_lload hx hb d_Model_modules_187 (lv_at hl 11 rfl) ?_
                refine lv_iconst (v := 2) hx hb d_Model_modules_189 (by decide) ?_
                refine lv_iload hx hb d_Model_modules_190 (lv_at hl 0 rfl) ?_
                refine lv_imul hx hb d_Model_modules_192 ?_
                refine lv_topi (fun v192 e192 => ?_)
                have h192 : v192.toInt = 2 * v182.toInt := by rw [e192]; exact ti_mul (ti_k (by decide)) rfl (by omega) (by omega)
                refine lv_iload hx hb d_Model_modules_193 (lv_at hl 8 rfl) ?_
                refine lv_iload hx hb d_Model_modules_195 (lv_at hl 8 rfl) ?_
                refine lv_imul hx hb d_Model_modules_197 ?_
                refine lv_topi (fun v197 e197 => ?_)
                have h197 : v197.toInt = sE ff k 2 * sE ff k 2 := by rw [e197]; exact ti_mul h40 h40 (by omega) (by omega)
                refine lv_icmp_le (tgt := 208) hx hb d_Model_modules_198 (by decide) (fun c198 => ?_) (fun c198 => ?_)
                · skip
                  have c198 : (2 * v182.toInt) ≤ (sE ff k 2 * sE ff k 2) := (ti_le h192 h197).mp c198
                  have nf : modF D ff j k (i + zcc) 0 = false := by rw [modF_in kS (by omega) n182]; exact decide_eq_false (by omega)
                  refine lv_lconst (v := 0) hx hb d_Model_modules_208 (by decide) ?_
                  refine lv_lor hx hb d_Model_modules_209 ?_
                  refine lv_topl (fun v209 e209 => ?_)
                  refine lv_lstore (lv' := [(7, .long v209), (14, .int v182), (13, .int v170), (12, .int v142), (10, .long v90), (0, .ref mo), (1, .int a1), (2, .int a2), (3, .int a3), (4, .int v40), (5, .int v54), (6, .int v69), (9, .int cc)]) hx hb d_Model_modules_210 hl (by decide) rfl (fun ls hl => ?_)
                  obtain ⟨v212, e212⟩ : ∃ y : Int32, y = cc + 1 := ⟨_, rfl⟩
                  have h212 : v212.toInt = zcc + 1 := by rw [e212]; exact ti_add hcc (ti_k (by decide)) (by omega) (by omega)
                  refine lv_iinc (v := v212) (lv' := [(9, .int v212), (7, .long v209), (14, .int v182), (13, .int v170), (12, .int v142), (10, .long v90), (0, .ref mo), (1, .int a1), (2, .int a2), (3, .int a3), (4, .int v40), (5, .int v54), (6, .int v69)]) hx hb d_Model_modules_212 hl (k := 12) rfl (by rw [e212]; rfl) (by decide) rfl (fun ls hl => ?_)
                  refine lv_goto (tgt := 78) hx hb d_Model_modules_215 (by decide) ?_
                  exact ih78 _ (by omega) _ _ _ ⟨v209, v212, (zcc + 1), u182_fd, ls, rfl, lv_sub hl [6, 7, 8, 9, 10, 11, 12, 1, 0] rfl, rfl, h212, by omega, by first | exact dot_more i2 tt (fun t ht => by rw [e209, lb_or, e204, lb_one hcc (by omega) (by omega) ht]) | exact dot_same (fun t ht => by rw [e209, lb_or, lb_0, Bool.or_false]; exact i2 t ht) nf | exact dot_same i2 (modF_out (by omega)), by first | exact d182 | exact i3, hP, hD, hS⟩
                · skip
                  have c198 : ¬ ((2 * v182.toInt) ≤ (sE ff k 2 * sE ff k 2)) := fun q => c198 ((ti_le h192 h197).mpr q)
                  have tt : modF D ff j k (i + zcc) 0 = true := by rw [modF_in kS (by omega) n182]; exact decide_eq_true (by omega)
                  refine lv_lconst (v := 1) hx hb d_Model_modules_201 (by decide) ?_
                  refine lv_iload hx hb d_Model_modules_202 (lv_at hl 12 rfl) ?_
                  refine lv_lshl hx hb d_Model_modules_204 rfl ?_
                  refine lv_topl (fun v204 e204 => ?_)
                  refine lv_goto (tgt := 209) hx hb d_Model_modules_205 (by decide) ?_
                  refine lv_lor hx hb d_Model_modules_209 ?_
                  refine lv_topl (fun v209 e209 => ?_)
                  refine lv_lstore (lv' := [(7, .long v209), (14, .int v182), (13, .int v170), (12, .int v142), (10, .long v90), (0, .ref mo), (1, .int a1), (2, .int a2), (3, .int a3), (4, .int v40), (5, .int v54), (6, .int v69), (9, .int cc)]) hx hb d_Model_modules_210 hl (by decide) rfl (fun ls hl => ?_)
                  obtain ⟨v212, e212⟩ : ∃ y : Int32, y = cc + 1 := ⟨_, rfl⟩
                  have h212 : v212.toInt = zcc + 1 := by rw [e212]; exact ti_add hcc (ti_k (by decide)) (by omega) (by omega)
                  refine lv_iinc (v := v212) (lv' := [(9, .int v212), (7, .long v209), (14, .int v182), (13, .int v170), (12, .int v142), (10, .long v90), (0, .ref mo), (1, .int a1), (2, .int a2), (3, .int a3), (4, .int v40), (5, .int v54), (6, .int v69)]) hx hb d_Model_modules_212 hl (k := 12) rfl (by rw [e212]; rfl) (by decide) rfl (fun ls hl => ?_)
                  refine lv_goto (tgt := 78) hx hb d_Model_modules_215 (by decide) ?_
                  exact ih78 _ (by omega) _ _ _ ⟨v209, v212, (zcc + 1), u182_fd, ls, rfl, lv_sub hl [6, 7, 8, 9, 10, 11, 12, 1, 0] rfl, rfl, h212, by omega, by first | exact dot_more i2 tt (fun t ht => by rw [e209, lb_or, e204, lb_one hcc (by omega) (by omega) ht]) | exact dot_same (fun t ht => by rw [e209, lb_or, lb_0, Bool.or_false]; exact i2 t ht) nf | exact dot_same i2 (modF_out (by omega)), by first | exact d182 | exact i3, hP, hD, hS⟩
    · skip
      have c25 : ¬ (ztv ≤ 0) := fun q => c25 ((ti_le htv (ti_k (by decide))).mpr q)
      refine lv_lconst (v := 0) hx hb d_Model_modules_28 (by decide) ?_
      have hpost : (¬ (0 ≤ k ∧ k < MN) ∧ tv = 1 ∧ dOK fd D) ∨ ((0 ≤ k ∧ k < MN) ∧ tv = 0 ∧ dOK fd D ∧ ∀ t : Nat, t < 64 → lb 0 t = modF D ff j k (i + t) 0) := by
        exact Or.inl ⟨by omega, (ti_eq (y := 1) htv (by decide)).mpr (by omega), hfd⟩
      have hP9 := hP.sub (ws' := [(mo, .inr (5, [.int tv, .int mw, .int mh, .ref ad, .ref asu, .ref aru, .int mro, .ref ast, .int msd, .ref afo, .int mmn])), (ad, .inl (kD, 262144, .inl fd)), (afo, .inl (kF, 1800, .inl ff))]) [0, 1, 2] rfl
      have hD9 := hD.sub (ws' := [(mo, .inr (5, [.int tv, .int mw, .int mh, .ref ad, .ref asu, .ref aru, .int mro, .ref ast, .int msd, .ref afo, .int mmn])), (ad, .inl (kD, 262144, .inl fd)), (afo, .inl (kF, 1800, .inl ff))]) [0, 1, 2] (by decide) rfl
      have hK9 := hK.sub (tys' := [(kD, .boolean), (kF, .int)]) [0, 1] rfl
      exact W.lret (v := 0) hx hb hr (fun t ht hW => ⟨⟨0, (tv, fd), rfl, hpost, by rw [ht]; exact hP9, va_K.moved hW.alike hK9, hD9⟩, hS.F ht⟩) hS.2.2 d_Model_modules_29
  · skip
    intro hj18
    refine lv_iload_n hx hb d_Model_modules_1 rfl (lv_at hl 1 rfl) ?_
    refine lv_if_lt (tgt := 13) hx hb d_Model_modules_2 (by decide) (fun c2 => ?_) (fun c2 => ?_)
    · skip
      have c2 : k < 0 := (ti_lt g1 (ti_k (by decide))).mp c2
      refine lv_iconst (v := 1) hx hb d_Model_modules_13 (by decide) ?_
      refine lv_goto (tgt := 18) hx hb d_Model_modules_14 (by decide) ?_
      exact hj18 _ _ _ ⟨1, 1, ls, rfl, lv_sub hl [0, 1, 2, 3] rfl, (ti_k (by decide)), by omega, hP, hD, hS⟩
    · skip
      have c2 : ¬ (k < 0) := fun q => c2 ((ti_lt g1 (ti_k (by decide))).mpr q)
      refine lv_iload_n hx hb d_Model_modules_5 rfl (lv_at hl 1 rfl) ?_
      refine lv_aload_n hx hb d_Model_modules_6 rfl (lv_at hl 0 rfl) ?_
      refine va_get (D := (dC, dI)) (ci := 5) (v := .int mmn) (C := R_Model) (T := T_Model) (N := 11) hx hb hts i_Model hown hK hP 0 rfl rfl 10 (by decide) (hts _ wd_575) (fun _ h9 => h9) rfl d_Model_modules_7 ?_
      refine lv_icmp_lt (tgt := 17) hx hb d_Model_modules_10 (by decide) (fun c10 => ?_) (fun c10 => ?_)
      · skip
        have c10 : k < MN := (ti_lt g1 hmn).mp c10
        refine lv_iconst (v := 0) hx hb d_Model_modules_17 (by decide) ?_
        exact hj18 _ _ _ ⟨0, 0, ls, rfl, lv_sub hl [0, 1, 2, 3] rfl, (ti_k (by decide)), by omega, hP, hD, hS⟩
      · skip
        have c10 : ¬ (k < MN) := fun q => c10 ((ti_lt g1 hmn).mpr q)
        refine lv_iconst (v := 1) hx hb d_Model_modules_13 (by decide) ?_
        refine lv_goto (tgt := 18) hx hb d_Model_modules_14 (by decide) ?_
        exact hj18 _ _ _ ⟨1, 1, ls, rfl, lv_sub hl [0, 1, 2, 3] rfl, (ti_k (by decide)), by omega, hP, hD, hS⟩
