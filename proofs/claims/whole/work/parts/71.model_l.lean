set_option maxHeartbeats 4000000 in
set_option maxRecDepth 100000 in
theorem m_look (l : Launch) (dC : Nat → ClassId) (dI : Nat → Nat → Nat) (sz : Nat) (mo ad asu aru ast afo : Nat) (mth mw mh mro msd mmn : Int32) (Wd Ht : Int) (hmw : mw.toInt = Wd) (hmh : mh.toInt = Ht) (hW1 : 1 ≤ Wd) (hW2 : Wd ≤ 512) (hH1 : 1 ≤ Ht) (hH2 : Ht ≤ 512) (D : Int → Int → Bool) (kU kR kT : ClassId) (fu fr ft : Nat → Int32) (hs : sOK fu D Wd Ht) (RO S SD : Int) (hro : mro.toInt = RO) (hsd : msd.toInt = SD) (hr0 : 0 ≤ RO) (r1 : RO ≤ 525) (hw : rW S fr RO) (F : Int → Int → Int → Int → Int → Prop) (hst : stOK D ft SD F) (s0 : 0 ≤ SD) (s1 : SD ≤ 300) (a1 a2 a3 : Int32) (M v LIM : Int) (g1 : a1.toInt = M) (g2 : a2.toInt = v) (g3 : a3.toInt = LIM) (b3 : 1 ≤ M) (b4 : M ≤ 16) (v0 : 1 ≤ v) (v1 : v ≤ 40) (l0 : 0 ≤ LIM) (l1 : LIM ≤ 500) (eS : S = 17 + 4 * v) (hG : ∀ G : Int → Int → Int → Int, rS G fr RO.toNat = sI (gG G S) 0 0 S S) (hF : ∀ x y q, ¬ F x y M v q) : Met l y_Model_look (.code y_Model_look b_Model_look 9 (some .boolean) :: allw) ({ frames := 3, cells := 0, slots := 0, locals := 88 }) (va_Pc [.ref mo, .int a1, .int a2, .int a3] (rw_B (dC, dI) vwCl [(mo, .inr (5, [.int mth, .int mw, .int mh, .ref ad, .ref asu, .ref aru, .int mro, .ref ast, .int msd, .ref afo, .int mmn])), (asu, .inl (kU, 263169, .inl fu)), (aru, .inl (kR, 2100, .inl fr)), (ast, .inl (kT, 1800, .inl ft))] [(kU, .int), (kR, .int), (kT, .int)] sz)) (va_Qi (fun (r : Int32) (u : Int32 × (Nat → Int32)) => (r = 1 ∧ 0 ≤ u.1.toInt ∧ u.1.toInt ≤ 300 ∧ stOK D u.2 u.1.toInt (fun x' y' m' v' q' => F x' y' m' v' q' ∨ (m' = M ∧ v' = v ∧ St D Wd Ht LIM x' y' M v q'))) ∨ (r = 0 ∧ u.1.toInt = 300 ∧ ∃ F2 : Int → Int → Int → Int → Int → Prop, stOK D u.2 300 F2 ∧ (∀ x' y' m' v' q', F2 x' y' m' v' q' → F x' y' m' v' q' ∨ (m' = M ∧ v' = v ∧ St D Wd Ht LIM x' y' M v q')) ∧ ∃ x y q, St D Wd Ht LIM x y M v q ∧ ¬ F2 x y M v q)) (fun u t => rw_E (dC, dI) vwCl [(mo, .inr (5, [.int mth, .int mw, .int mh, .ref ad, .ref asu, .ref aru, .int mro, .ref ast, .int u.1, .ref afo, .int mmn])), (asu, .inl (kU, 263169, .inl fu)), (aru, .inl (kR, 2100, .inl fr)), (ast, .inl (kT, 1800, .inl u.2))] [(kU, .int), (kR, .int), (kT, .int)] (va_A [(mo, .inr (5, [.int mth, .int mw, .int mh, .ref ad, .ref asu, .ref aru, .int mro, .ref ast, .int msd, .ref afo, .int mmn])), (asu, .inl (kU, 263169, .inl fu)), (aru, .inl (kR, 2100, .inl fr)), (ast, .inl (kT, 1800, .inl ft))] sz) t) (va_A [(mo, .inr (5, [.int mth, .int mw, .int mh, .ref ad, .ref asu, .ref aru, .int mro, .ref ast, .int msd, .ref afo, .int mmn])), (asu, .inl (kU, 263169, .inl fu)), (aru, .inl (kR, 2100, .inl fr)), (ast, .inl (kT, 1800, .inl ft))] sz)) 0 0 (va_A [(mo, .inr (5, [.int mth, .int mw, .int mh, .ref ad, .ref asu, .ref aru, .int mro, .ref ast, .int msd, .ref afo, .int mmn])), (asu, .inl (kU, 263169, .inl fu)), (aru, .inl (kR, 2100, .inl fr)), (ast, .inl (kT, 1800, .inl ft))] sz) := by
  refine Met.ofW (cc := b_Model_look) (maxL := 9) (ret := (some .boolean)) (by decide) rfl ?_
  intro p e s m args below meth c s₁ B hml hv
  obtain ⟨rfl, hsz, hP, hK, hD0⟩ := hv
  have hx := B.exec
  have hb := B.bytes
  have hr := B.returns
  have hts : ∀ w ∈ allw, w.before _ s = true := fun w h => atoms_spec (ws := .code y_Model_look b_Model_look 9 (some .boolean) :: allw) B.pre w (List.mem_cons_of_mem _ h)
  have hown : s.vm.findClass R_Model = some m.cls := findClass_of_methodNamed B.named
  have hlocks := B.notSynchronized
  subst hsz
  have hD := hD0.self (sz := s.heap.size)
  generalize hAe : va_A [(mo, .inr (5, [.int mth, .int mw, .int mh, .ref ad, .ref asu, .ref aru, .int mro, .ref ast, .int msd, .ref afo, .int mmn])), (asu, .inl (kU, 263169, .inl fu)), (aru, .inl (kR, 2100, .inl fr)), (ast, .inl (kT, 1800, .inl ft))] s.heap.size = A at hD ⊢
  have hA : ∀ q : Nat, s.heap.size ≤ q → A q := fun q h => by rw [← hAe]; exact Or.inr h
  have hS : va_S A s.heap s.heap [] := va_S.rf
  have hP : va_P (dC, dI) vwCl [(mo, .inr (5, [.int mth, .int mw, .int mh, .ref ad, .ref asu, .ref aru, .int mro, .ref ast, .int msd, .ref afo, .int mmn])), (asu, .inl (kU, 263169, .inl fu)), (aru, .inl (kR, 2100, .inl fr)), (ast, .inl (kT, 1800, .inl ft))] s.heap := hP
  have hl := lv_entry ([.ref mo, .int a1, .int a2, .int a3]) (n := 9) (Nat.le_of_ble_eq_true rfl)
  rw [lg_entry_eq]
  generalize (lg_sl ([.ref mo, .int a1, .int a2, .int a3]) ++ List.replicate (9 - (lg_sl ([.ref mo, .int a1, .int a2, .int a3])).length) Slot.unset).toArray = ls at hl ⊢
  have hl : lv_has ls 9 [(0, .ref mo), (1, .int a1), (2, .int a2), (3, .int a3)] := hl
  have mS := mul_b2 (a := M) (b := 17 + 4 * v) (p := 16) (q := 177) (by omega) (by omega) (by omega) (by omega)
  have mS0 := Int.mul_nonneg (show 0 ≤ M by omega) (show 0 ≤ 17 + 4 * v by omega)
  refine lv_iload_n hx hb d_Model_look_0 rfl (lv_at hl 1 rfl) ?_
  refine lv_iload_n hx hb d_Model_look_1 rfl (lv_at hl 2 rfl) ?_
  have hPc := hP.sub (ws' := []) [] rfl
  have hKc := hK.sub (tys' := []) [] rfl
  refine va_calli (va_runS (As := [.int a2]) (rest := [.int a1]) ⟨hx, hb, hml, hown, hts⟩ (m_side l dC dI a2 v g2 (by omega) (by omega)) (aw_S 1 hts wd_636 wd_637 wd_5 wd_638 rfl rfl (by decide +kernel) ⟨Nat.le_of_ble_eq_true rfl, Nat.le_of_ble_eq_true rfl⟩) ⟨ro_blind, ro_pre hPc hKc⟩ rfl rfl hl.1 rfl (lv_room (Nat.le_of_ble_eq_true rfl)) d_Model_look_2 ⟨Nat.le_of_ble_eq_true rfl, Nat.le_of_ble_eq_true rfl⟩) hS (fun q _ h => h.elim) (fun q h => h.elim) (fun v2 _ t9 H2 locs ht hvm h2 hB hz1 hk1 hS => ?_)
  have hP := ro_keep hP hk1
  clear hPc hKc ht hvm hB hz1 hk1
  refine lv_imul hx hb d_Model_look_5 ?_
  refine lv_topi (fun v5 e5 => ?_)
  have h5 : v5.toInt = M * (17 + 4 * v) := by rw [e5]; exact ti_mul g1 h2 (by omega) (by omega)
  obtain ⟨dd, kdd⟩ : ∃ c : Int, c = (M * (17 + 4 * v)) := ⟨_, rfl⟩
  have h5 : v5.toInt = dd := by rw [h5, kdd]
  have eM : M * S = dd := by rw [kdd, eS]
  have dd1 : 1 ≤ dd := by have := Int.mul_le_mul (show 1 ≤ M by omega) (show 1 ≤ 17 + 4 * v by omega) (by omega) (by omega); omega
  refine lv_istore (lv' := [(4, .int v5), (0, .ref mo), (1, .int a1), (2, .int a2), (3, .int a3)]) hx hb d_Model_look_6 hl (by decide) rfl (fun ls hl => ?_)
  refine lv_iconst (v := 0) hx hb d_Model_look_8 (by decide) ?_
  refine lv_istore (lv' := [(5, .int 0), (4, .int v5), (0, .ref mo), (1, .int a1), (2, .int a2), (3, .int a3)]) hx hb d_Model_look_9 hl (by decide) rfl (fun ls hl => ?_)
  refine w_loop (I := fun n H' locs' g' => ∃ (yy : Int32) (zyy : Int) (sv : Int32) (zsv : Int) (fc : Nat → Int32) (ls : Array Slot), g' = F0 m 11 ls [] ∧ lv_has ls 9 [(0, .ref mo), (1, .int a1), (2, .int a2), (3, .int a3), (4, .int v5), (5, .int yy)] ∧ n = (514 - zyy).toNat ∧ yy.toInt = zyy ∧ (sv.toInt = zsv) ∧ (0 ≤ zyy ∧ zyy ≤ 513 ∧ 0 ≤ zsv ∧ zsv ≤ 300) ∧ (stOK D fc zsv (lkF D Wd Ht LIM M v F zyy 0 0)) ∧ va_P (dC, dI) vwCl [(mo, .inr (5, [.int mth, .int mw, .int mh, .ref ad, .ref asu, .ref aru, .int mro, .ref ast, .int sv, .ref afo, .int mmn])), (asu, .inl (kU, 263169, .inl fu)), (aru, .inl (kR, 2100, .inl fr)), (ast, .inl (kT, 1800, .inl fc))] H' ∧ va_D A [(mo, .inr (5, [.int mth, .int mw, .int mh, .ref ad, .ref asu, .ref aru, .int mro, .ref ast, .int sv, .ref afo, .int mmn])), (asu, .inl (kU, 263169, .inl fu)), (aru, .inl (kR, 2100, .inl fr)), (ast, .inl (kT, 1800, .inl fc))] ∧ va_S A s.heap H' locs') ?_ ⟨0, 0, msd, SD, ft, ls, rfl, lv_sub hl [2, 3, 4, 5, 1, 0] rfl, rfl, (ti_k (by decide)), hsd, by omega, st_congr hst (fun _ _ _ _ _ => lk_0), hP, hD, hS⟩
  intro n11 H11 locs g' hI ih11
  obtain ⟨yy, zyy, sv, zsv, fc, ls, rfl, hl, hn, hyy, hsv, i1, i2, hP, hD, hS⟩ := hI
  refine lv_aload_n hx hb d_Model_look_11 rfl (lv_at hl 0 rfl) ?_
  refine lv_iconst (v := 0) hx hb d_Model_look_12 (by decide) ?_
  refine lv_iload hx hb d_Model_look_13 (lv_at hl 5 rfl) ?_
  refine lv_iload hx hb d_Model_look_15 (lv_at hl 4 rfl) ?_
  have hPc := hP.sub (ws' := [(mo, .inr (5, [.int mth, .int mw, .int mh, .ref ad, .ref asu, .ref aru, .int mro, .ref ast, .int sv, .ref afo, .int mmn]))]) [0] rfl
  have hKc := hK.sub (tys' := []) [] rfl
  refine va_calli (va_runV (As := [.int 0, .int yy, .int v5]) (rest := []) ⟨hx, hb, hml, hown, hts⟩ (m_isPlace l dC dI mo ad asu aru ast afo mth mw mh mro sv mmn Wd Ht hmw hmh hW1 hW2 hH1 hH2 0 yy v5 0 zyy dd (ti_k (by decide)) hyy h5 (by omega)) (aw_V 3 hts wd_639 wd_641 ws_32 wd_5 wd_642 rfl rfl (by decide +kernel) ⟨Nat.le_of_ble_eq_true rfl, Nat.le_of_ble_eq_true rfl⟩) ⟨ro_blind, va_recv hKc hPc (ci := 5) (q0 := 0) rfl rfl, ro_pre hPc hKc⟩ rfl rfl hl.1 rfl (lv_room (Nat.le_of_ble_eq_true rfl)) d_Model_look_17 ⟨Nat.le_of_ble_eq_true rfl, Nat.le_of_ble_eq_true rfl⟩) hS (fun q _ h => h.elim) (fun q h => h.elim) (fun v17 _ t9 H17 locs ht hvm h17 hB hz1 hk1 hS => ?_)
  have hP := ro_keep hP hk1
  clear hPc hKc ht hvm hB hz1 hk1
  refine lv_if_eq (tgt := 113) hx hb d_Model_look_20 (by decide) (fun c20 => ?_) (fun c20 => ?_)
  · skip
    have c20 : ¬ ((0 : Int) ≤ 0 ∧ 0 ≤ Wd - dd ∧ 0 ≤ zyy ∧ zyy ≤ Ht - dd) := bi_z h17 c20
    refine lv_iconst (v := 1) hx hb d_Model_look_113 (by decide) ?_
    have hpost : ((1 : Int32) = 1 ∧ 0 ≤ sv.toInt ∧ sv.toInt ≤ 300 ∧ stOK D fc sv.toInt (fun x' y' m' v' q' => F x' y' m' v' q' ∨ (m' = M ∧ v' = v ∧ St D Wd Ht LIM x' y' M v q'))) ∨ ((1 : Int32) = 0 ∧ sv.toInt = 300 ∧ ∃ F2 : Int → Int → Int → Int → Int → Prop, stOK D fc 300 F2 ∧ (∀ x' y' m' v' q', F2 x' y' m' v' q' → F x' y' m' v' q' ∨ (m' = M ∧ v' = v ∧ St D Wd Ht LIM x' y' M v q')) ∧ ∃ x y q, St D Wd Ht LIM x y M v q ∧ ¬ F2 x y M v q) := by
      left
      refine ⟨rfl, by omega, by omega, ?_⟩
      rw [hsv]
      exact st_congr i2 (fun _ _ _ _ _ => lk_end kdd (by omega))
    have hP9 := hP.sub (ws' := [(mo, .inr (5, [.int mth, .int mw, .int mh, .ref ad, .ref asu, .ref aru, .int mro, .ref ast, .int sv, .ref afo, .int mmn])), (asu, .inl (kU, 263169, .inl fu)), (aru, .inl (kR, 2100, .inl fr)), (ast, .inl (kT, 1800, .inl fc))]) [0, 1, 2, 3] rfl
    have hD9 := hD.sub (ws' := [(mo, .inr (5, [.int mth, .int mw, .int mh, .ref ad, .ref asu, .ref aru, .int mro, .ref ast, .int sv, .ref afo, .int mmn])), (asu, .inl (kU, 263169, .inl fu)), (aru, .inl (kR, 2100, .inl fr)), (ast, .inl (kT, 1800, .inl fc))]) [0, 1, 2, 3] (by decide) rfl
    have hK9 := hK.sub (tys' := [(kU, .int), (kR, .int), (kT, .int)]) [0, 1, 2] rfl
    exact W.zret (v := 1) hx hb hr (by decide) (fun t ht hW => ⟨⟨1, (sv, fc), rfl, hpost, by rw [ht]; exact hP9, va_K.moved hW.alike hK9, hD9⟩, hS.F ht⟩) hS.2.2 d_Model_look_114
  · skip
    have c20 : (0 : Int) ≤ 0 ∧ 0 ≤ Wd - dd ∧ 0 ≤ zyy ∧ zyy ≤ Ht - dd := bi_nz h17 c20
    refine lv_iconst (v := 0) hx hb d_Model_look_23 (by decide) ?_
    refine lv_istore (lv' := [(6, .int 0), (0, .ref mo), (1, .int a1), (2, .int a2), (3, .int a3), (4, .int v5), (5, .int yy)]) hx hb d_Model_look_24 hl (by decide) rfl (fun ls hl => ?_)
    refine w_loop (I := fun n H' locs' g' => ∃ (xx : Int32) (zxx : Int) (sx : Int32) (zsx : Int) (fx : Nat → Int32) (ls : Array Slot), g' = F0 m 26 ls [] ∧ lv_has ls 9 [(0, .ref mo), (1, .int a1), (2, .int a2), (3, .int a3), (4, .int v5), (5, .int yy), (6, .int xx)] ∧ n = (514 - zxx).toNat ∧ xx.toInt = zxx ∧ (sx.toInt = zsx) ∧ (0 ≤ zxx ∧ zxx ≤ 513 ∧ 0 ≤ zsx ∧ zsx ≤ 300) ∧ (stOK D fx zsx (lkF D Wd Ht LIM M v F zyy zxx 0)) ∧ va_P (dC, dI) vwCl [(mo, .inr (5, [.int mth, .int mw, .int mh, .ref ad, .ref asu, .ref aru, .int mro, .ref ast, .int sx, .ref afo, .int mmn])), (asu, .inl (kU, 263169, .inl fu)), (aru, .inl (kR, 2100, .inl fr)), (ast, .inl (kT, 1800, .inl fx))] H' ∧ va_D A [(mo, .inr (5, [.int mth, .int mw, .int mh, .ref ad, .ref asu, .ref aru, .int mro, .ref ast, .int sx, .ref afo, .int mmn])), (asu, .inl (kU, 263169, .inl fu)), (aru, .inl (kR, 2100, .inl fr)), (ast, .inl (kT, 1800, .inl fx))] ∧ va_S A s.heap H' locs') ?_ ⟨0, 0, sv, zsv, fc, ls, rfl, lv_sub hl [1, 2, 3, 4, 5, 6, 0] rfl, rfl, (ti_k (by decide)), hsv, by omega, i2, hP, hD, hS⟩
    intro n26 H26 locs g' hI ih26
    obtain ⟨xx, zxx, sx, zsx, fx, ls, rfl, hl, hn, hxx, hsx, j1, j2, hP, hD, hS⟩ := hI
    refine lv_aload_n hx hb d_Model_look_26 rfl (lv_at hl 0 rfl) ?_
    refine lv_iload hx hb d_Model_look_27 (lv_at hl 6 rfl) ?_
    refine lv_iload hx hb d_Model_look_29 (lv_at hl 5 rfl) ?_
    refine lv_iload hx hb d_Model_look_31 (lv_at hl 4 rfl) ?_
    have hPc := hP.sub (ws' := [(mo, .inr (5, [.int mth, .int mw, .int mh, .ref ad, .ref asu, .ref aru, .int mro, .ref ast, .int sx, .ref afo, .int mmn]))]) [0] rfl
    have hKc := hK.sub (tys' := []) [] rfl
    refine va_calli (va_runV (As := [.int xx, .int yy, .int v5]) (rest := []) ⟨hx, hb, hml, hown, hts⟩ (m_isPlace l dC dI mo ad asu aru ast afo mth mw mh mro sx mmn Wd Ht hmw hmh hW1 hW2 hH1 hH2 xx yy v5 zxx zyy dd hxx hyy h5 (by omega)) (aw_V 3 hts wd_639 wd_641 ws_32 wd_5 wd_642 rfl rfl (by decide +kernel) ⟨Nat.le_of_ble_eq_true rfl, Nat.le_of_ble_eq_true rfl⟩) ⟨ro_blind, va_recv hKc hPc (ci := 5) (q0 := 0) rfl rfl, ro_pre hPc hKc⟩ rfl rfl hl.1 rfl (lv_room (Nat.le_of_ble_eq_true rfl)) d_Model_look_33 ⟨Nat.le_of_ble_eq_true rfl, Nat.le_of_ble_eq_true rfl⟩) hS (fun q _ h => h.elim) (fun q h => h.elim) (fun v33 _ t9 H33 locs ht hvm h33 hB hz1 hk1 hS => ?_)
    have hP := ro_keep hP hk1
    clear hPc hKc ht hvm hB hz1 hk1
    refine lv_if_eq (tgt := 107) hx hb d_Model_look_36 (by decide) (fun c36 => ?_) (fun c36 => ?_)
    · skip
      have c36 : ¬ ((0 : Int) ≤ zxx ∧ zxx ≤ Wd - dd ∧ 0 ≤ zyy ∧ zyy ≤ Ht - dd) := bi_z h33 c36
      obtain ⟨v107, e107⟩ : ∃ y : Int32, y = yy + 1 := ⟨_, rfl⟩
      have h107 : v107.toInt = zyy + 1 := by rw [e107]; exact ti_add hyy (ti_k (by decide)) (by omega) (by omega)
      refine lv_iinc (v := v107) (lv' := [(5, .int v107), (0, .ref mo), (1, .int a1), (2, .int a2), (3, .int a3), (4, .int v5), (6, .int xx)]) hx hb d_Model_look_107 hl (k := 5) rfl (by rw [e107]; rfl) (by decide) rfl (fun ls hl => ?_)
      refine lv_goto (tgt := 11) hx hb d_Model_look_110 (by decide) ?_
      exact ih11 _ (by omega) _ _ _ ⟨v107, (zyy + 1), sx, zsx, fx, ls, rfl, lv_sub hl [1, 2, 3, 4, 5, 0] rfl, rfl, h107, hsx, by omega, st_congr j2 (fun _ _ _ _ _ => lk_x kdd (by omega)), hP, hD, hS⟩
    · skip
      have c36 : (0 : Int) ≤ zxx ∧ zxx ≤ Wd - dd ∧ 0 ≤ zyy ∧ zyy ≤ Ht - dd := bi_nz h33 c36
      refine lv_iconst (v := 0) hx hb d_Model_look_39 (by decide) ?_
      refine lv_istore (lv' := [(7, .int 0), (0, .ref mo), (1, .int a1), (2, .int a2), (3, .int a3), (4, .int v5), (5, .int yy), (6, .int xx)]) hx hb d_Model_look_40 hl (by decide) rfl (fun ls hl => ?_)
      refine w_loop (I := fun n H' locs' g' => ∃ (qq : Int32) (zqq : Int) (sq : Int32) (zsq : Int) (fq : Nat → Int32) (ls : Array Slot), g' = F0 m 42 ls [] ∧ lv_has ls 9 [(0, .ref mo), (1, .int a1), (2, .int a2), (3, .int a3), (4, .int v5), (5, .int yy), (6, .int xx), (7, .int qq)] ∧ n = (5 - zqq).toNat ∧ qq.toInt = zqq ∧ (sq.toInt = zsq) ∧ (0 ≤ zqq ∧ zqq ≤ 4 ∧ 0 ≤ zsq ∧ zsq ≤ 300) ∧ (stOK D fq zsq (lkF D Wd Ht LIM M v F zyy zxx zqq)) ∧ va_P (dC, dI) vwCl [(mo, .inr (5, [.int mth, .int mw, .int mh, .ref ad, .ref asu, .ref aru, .int mro, .ref ast, .int sq, .ref afo, .int mmn])), (asu, .inl (kU, 263169, .inl fu)), (aru, .inl (kR, 2100, .inl fr)), (ast, .inl (kT, 1800, .inl fq))] H' ∧ va_D A [(mo, .inr (5, [.int mth, .int mw, .int mh, .ref ad, .ref asu, .ref aru, .int mro, .ref ast, .int sq, .ref afo, .int mmn])), (asu, .inl (kU, 263169, .inl fu)), (aru, .inl (kR, 2100, .inl fr)), (ast, .inl (kT, 1800, .inl fq))] ∧ va_S A s.heap H' locs') ?_ ⟨0, 0, sx, zsx, fx, ls, rfl, lv_sub hl [1, 2, 3, 4, 5, 6, 7, 0] rfl, rfl, (ti_k (by decide)), hsx, by omega, j2, hP, hD, hS⟩
      intro n42 H42 locs g' hI ih42
      obtain ⟨qq, zqq, sq, zsq, fq, ls, rfl, hl, hn, hqq, hsq, k1, k2, hP, hD, hS⟩ := hI
      refine lv_iload hx hb d_Model_look_42 (lv_at hl 7 rfl) ?_
      refine lv_iconst (v := 4) hx hb d_Model_look_44 (by decide) ?_
      refine lv_icmp_ge (tgt := 101) hx hb d_Model_look_45 (by decide) (fun c45 => ?_) (fun c45 => ?_)
      · skip
        have c45 : 4 ≤ zqq := (ti_le (ti_k (by decide)) hqq).mp c45
        obtain ⟨v101, e101⟩ : ∃ y : Int32, y = xx + 1 := ⟨_, rfl⟩
        have h101 : v101.toInt = zxx + 1 := by rw [e101]; exact ti_add hxx (ti_k (by decide)) (by omega) (by omega)
        refine lv_iinc (v := v101) (lv' := [(6, .int v101), (0, .ref mo), (1, .int a1), (2, .int a2), (3, .int a3), (4, .int v5), (5, .int yy), (7, .int qq)]) hx hb d_Model_look_101 hl (k := 6) rfl (by rw [e101]; rfl) (by decide) rfl (fun ls hl => ?_)
        refine lv_goto (tgt := 26) hx hb d_Model_look_104 (by decide) ?_
        have eq4 : zqq = 4 := by omega
        rw [eq4] at k2
        exact ih26 _ (by omega) _ _ _ ⟨v101, (zxx + 1), sq, zsq, fq, ls, rfl, lv_sub hl [1, 2, 3, 4, 5, 6, 0] rfl, rfl, h101, hsq, by omega, st_congr k2 (fun _ _ _ _ _ => lk_q4), hP, hD, hS⟩
      · skip
        have c45 : ¬ (4 ≤ zqq) := fun q => c45 ((ti_le (ti_k (by decide)) hqq).mpr q)
        refine lv_aload_n hx hb d_Model_look_48 rfl (lv_at hl 0 rfl) ?_
        refine lv_iload hx hb d_Model_look_49 (lv_at hl 6 rfl) ?_
        refine lv_iload hx hb d_Model_look_51 (lv_at hl 5 rfl) ?_
        refine lv_iload_n hx hb d_Model_look_53 rfl (lv_at hl 1 rfl) ?_
        refine lv_iload_n hx hb d_Model_look_54 rfl (lv_at hl 2 rfl) ?_
        refine lv_iload hx hb d_Model_look_55 (lv_at hl 7 rfl) ?_
        refine lv_iload_n hx hb d_Model_look_57 rfl (lv_at hl 3 rfl) ?_
        have hPc := hP.sub (ws' := [(mo, .inr (5, [.int mth, .int mw, .int mh, .ref ad, .ref asu, .ref aru, .int mro, .ref ast, .int sq, .ref afo, .int mmn])), (asu, .inl (kU, 263169, .inl fu)), (aru, .inl (kR, 2100, .inl fr))]) [0, 1, 2] rfl
        have hKc := hK.sub (tys' := [(kU, .int), (kR, .int)]) [0, 1] rfl
        refine va_calli (va_runV (As := [.int xx, .int yy, .int a1, .int a2, .int qq, .int a3]) (rest := []) ⟨hx, hb, hml, hown, hts⟩ (m_wrong l dC dI mo ad asu aru ast afo mth mw mh mro sq mmn Wd Ht hW2 hH2 D kU kR fu fr hs RO S hro r1 (by omega) (by omega) hw zxx zyy M zqq (by omega) (by omega) (by omega) (by omega) (by omega) (by omega) (by omega) (by omega) xx yy a1 a2 qq a3 v LIM hxx hyy g1 g2 hqq g3 eS hr0 l0 l1) (aw_V 6 hts wd_678 wd_680 ws_37 wd_5 wd_681 rfl rfl (by decide +kernel) ⟨Nat.le_of_ble_eq_true rfl, Nat.le_of_ble_eq_true rfl⟩) ⟨ro_blind, va_recv hKc hPc (ci := 5) (q0 := 0) rfl rfl, ro_pre hPc hKc⟩ rfl rfl hl.1 rfl (lv_room (Nat.le_of_ble_eq_true rfl)) d_Model_look_58 ⟨Nat.le_of_ble_eq_true rfl, Nat.le_of_ble_eq_true rfl⟩) hS (fun q _ h => h.elim) (fun q h => h.elim) (fun v58 _ t9 H58 locs ht hvm h58 hB hz1 hk1 hS => ?_)
        have hP := ro_keep hP hk1
        clear hPc hKc ht hvm hB hz1 hk1
        rw [hG, eS] at h58
        have tw : sI (gG (gW D zxx zyy M (17 + 4 * v) zqq) (17 + 4 * v)) 0 0 (17 + 4 * v) (17 + 4 * v) = TW D zxx zyy M v zqq := rfl
        rw [tw] at h58
        have tn := TW_nn (D := D) (x := zxx) (y := zyy) (M := M) (v := v) (Q := zqq) (by omega)
        refine lv_istore (lv' := [(8, .int v58), (0, .ref mo), (1, .int a1), (2, .int a2), (3, .int a3), (4, .int v5), (5, .int yy), (6, .int xx), (7, .int qq)]) hx hb d_Model_look_61 hl (by decide) rfl (fun ls hl => ?_)
        refine lv_iload hx hb d_Model_look_63 (lv_at hl 0 rfl) ?_
        refine lv_iload_n hx hb d_Model_look_65 rfl (lv_at hl 4 rfl) ?_
        refine lv_icmp_gt (tgt := 95) hx hb d_Model_look_66 (by decide) (fun c66 => ?_) (fun c66 => ?_)
        · skip
          have c66 : LIM < v58.toInt := (ti_lt g3 rfl).mp c66
          have ns : ¬ St D Wd Ht LIM zxx zyy M v zqq := by unfold St; omega
          obtain ⟨v95, e95⟩ : ∃ y : Int32, y = qq + 1 := ⟨_, rfl⟩
          have h95 : v95.toInt = zqq + 1 := by rw [e95]; exact ti_add hqq (ti_k (by decide)) (by omega) (by omega)
          refine lv_iinc (v := v95) (lv' := [(7, .int v95), (8, .int v58), (0, .ref mo), (1, .int a1), (2, .int a2), (3, .int a3), (4, .int v5), (5, .int yy), (6, .int xx)]) hx hb d_Model_look_95 hl (k := 8) rfl (by rw [e95]; rfl) (by decide) rfl (fun ls hl => ?_)
          refine lv_goto (tgt := 42) hx hb d_Model_look_98 (by decide) ?_
          exact ih42 _ (by omega) _ _ _ ⟨v95, (zqq + 1), sq, zsq, fq, ls, rfl, lv_sub hl [2, 3, 4, 5, 6, 7, 8, 0] rfl, rfl, h95, by first | exact hsq | rfl, by omega, by first | exact st_congr k2 (fun _ _ _ _ _ => lk_no ns) | (rw [h92.1]; exact st_congr (st_add k2 (by omega) h92.2 hxx hyy g1 g2 hqq et (by omega) (by omega) (by omega) (by omega) (by omega) (by omega) (by omega) (by omega) (by omega) (by omega) (by omega) (lk_not hF)) (fun _ _ _ _ _ => lk_yes ys)), hP, hD, hS⟩
        · skip
          have c66 : ¬ (LIM < v58.toInt) := fun q => c66 ((ti_lt g3 rfl).mpr q)
          have ys : St D Wd Ht LIM zxx zyy M v zqq := by unfold St; rw [← kdd]; omega
          have et : v58.toInt = TW D zxx zyy M v zqq := by omega
          have tl : TW D zxx zyy M v zqq ≤ 500 := by omega
          refine lv_aload_n hx hb d_Model_look_69 rfl (lv_at hl 1 rfl) ?_
          refine va_get (D := (dC, dI)) (ci := 5) (v := .int sq) (C := R_Model) (T := T_Model) (N := 11) hx hb hts i_Model hown hK hP 0 rfl rfl 8 (by decide) (hts _ wd_573) (fun _ h9 => h9) rfl d_Model_look_70 ?_
          refine lv_sipush (v := 300) hx hb d_Model_look_73 (by decide) ?_
          refine lv_icmp_ne (tgt := 81) hx hb d_Model_look_76 (by decide) (fun c76 => ?_) (fun c76 => ?_)
          · skip
            have c76 : ¬ (zsq = 300) := fun q => c76 ((ti_eq hsq (ti_k (by decide))).mpr q)
            refine lv_aload_n hx hb d_Model_look_81 rfl (lv_at hl 1 rfl) ?_
            refine lv_iload hx hb d_Model_look_82 (lv_at hl 7 rfl) ?_
            refine lv_iload hx hb d_Model_look_84 (lv_at hl 6 rfl) ?_
            refine lv_iload_n hx hb d_Model_look_86 rfl (lv_at hl 2 rfl) ?_
            refine lv_iload_n hx hb d_Model_look_87 rfl (lv_at hl 3 rfl) ?_
            refine lv_iload hx hb d_Model_look_88 (lv_at hl 8 rfl) ?_
            refine lv_iload hx hb d_Model_look_90 (lv_at hl 0 rfl) ?_
            have hPc := hP.sub (ws' := [(mo, .inr (5, [.int mth, .int mw, .int mh, .ref ad, .ref asu, .ref aru, .int mro, .ref ast, .int sq, .ref afo, .int mmn])), (ast, .inl (kT, 1800, .inl fq))]) [0, 3] rfl
            have hKc := hK.sub (tys' := [(kT, .int)]) [2] rfl
            have hDc := hD.sub (ws' := [(mo, .inr (5, [.int mth, .int mw, .int mh, .ref ad, .ref asu, .ref aru, .int mro, .ref ast, .int sq, .ref afo, .int mmn])), (ast, .inl (kT, 1800, .inl fq))]) [0, 3] (by decide) rfl
            have hFc := va_free (wc := [(mo, .inr (5, [.int mth, .int mw, .int mh, .ref ad, .ref asu, .ref aru, .int mro, .ref ast, .int sq, .ref afo, .int mmn])), (ast, .inl (kT, 1800, .inl fq))]) hD hS hA [0, 3] rfl
            refine va_callv (va_runV (As := [.int xx, .int yy, .int a1, .int a2, .int qq, .int v58]) (rest := []) ⟨hx, hb, hml, hown, hts⟩ (m_enter l dC dI H58.size mo ad asu aru ast afo mth mw mh mro sq mmn zsq hsq (by omega) (by omega) kT fq xx yy a1 a2 qq v58) (aw_V 6 hts wd_689 wd_691 ws_39 wd_5 wd_692 rfl rfl (by decide +kernel) ⟨Nat.le_of_ble_eq_true rfl, Nat.le_of_ble_eq_true rfl⟩) ⟨rw_blind, va_recv hKc hPc (ci := 5) (q0 := 0) rfl rfl, rw_pre hPc hKc hDc⟩ rfl rfl hl.1 rfl (lv_room (Nat.le_of_ble_eq_true rfl)) d_Model_look_92 ⟨Nat.le_of_ble_eq_true rfl, Nat.le_of_ble_eq_true rfl⟩) hS (fun q _ h => hFc q h) hFc (fun u t9 H92 locs ht hvm h92 hB hz1 hk1 hS => ?_)
            obtain ⟨u92_sd, u92_ft⟩ := u
            obtain ⟨hP1, _, hD1⟩ := hB
            rw [ht] at hP1
            try dsimp only at h92 hP1 hD1
            obtain ⟨hP, hD⟩ := va_join (wr := [(asu, .inl (kU, 263169, .inl fu)), (aru, .inl (kR, 2100, .inl fr))]) (w1 := [(mo, .inr (5, [.int mth, .int mw, .int mh, .ref ad, .ref asu, .ref aru, .int mro, .ref ast, .int u92_sd, .ref afo, .int mmn])), (ast, .inl (kT, 1800, .inl u92_ft))]) hP hD [0, 3] [1, 2] rfl rfl (by decide) (by decide) hk1 hFc hP1 hD1
            have hP := hP.sub (ws' := [(mo, .inr (5, [.int mth, .int mw, .int mh, .ref ad, .ref asu, .ref aru, .int mro, .ref ast, .int u92_sd, .ref afo, .int mmn])), (asu, .inl (kU, 263169, .inl fu)), (aru, .inl (kR, 2100, .inl fr)), (ast, .inl (kT, 1800, .inl u92_ft))]) [2, 0, 1, 3] rfl
            have hD := hD.sub (ws' := [(mo, .inr (5, [.int mth, .int mw, .int mh, .ref ad, .ref asu, .ref aru, .int mro, .ref ast, .int u92_sd, .ref afo, .int mmn])), (asu, .inl (kU, 263169, .inl fu)), (aru, .inl (kR, 2100, .inl fr)), (ast, .inl (kT, 1800, .inl u92_ft))]) [2, 0, 1, 3] (by decide) rfl
            clear hPc hKc hDc hFc ht hvm hz1 hk1 hP1 hD1
            obtain ⟨v95, e95⟩ : ∃ y : Int32, y = qq + 1 := ⟨_, rfl⟩
            have h95 : v95.toInt = zqq + 1 := by rw [e95]; exact ti_add hqq (ti_k (by decide)) (by omega) (by omega)
            refine lv_iinc (v := v95) (lv' := [(7, .int v95), (8, .int v58), (0, .ref mo), (1, .int a1), (2, .int a2), (3, .int a3), (4, .int v5), (5, .int yy), (6, .int xx)]) hx hb d_Model_look_95 hl (k := 8) rfl (by rw [e95]; rfl) (by decide) rfl (fun ls hl => ?_)
            refine lv_goto (tgt := 42) hx hb d_Model_look_98 (by decide) ?_
            exact ih42 _ (by omega) _ _ _ ⟨v95, (zqq + 1), u92_sd, u92_sd.toInt, u92_ft, ls, rfl, lv_sub hl [2, 3, 4, 5, 6, 7, 8, 0] rfl, rfl, h95, by first | exact hsq | rfl, by omega, by first | exact st_congr k2 (fun _ _ _ _ _ => lk_no ns) | (rw [h92.1]; exact st_congr (st_add k2 (by omega) h92.2 hxx hyy g1 g2 hqq et (by omega) (by omega) (by omega) (by omega) (by omega) (by omega) (by omega) (by omega) (by omega) (by omega) (by omega) (lk_not hF)) (fun _ _ _ _ _ => lk_yes ys)), hP, hD, hS⟩
          · skip
            have c76 : zsq = 300 := (ti_eq hsq (ti_k (by decide))).mp c76
            refine lv_iconst (v := 0) hx hb d_Model_look_79 (by decide) ?_
            have hpost : ((0 : Int32) = 1 ∧ 0 ≤ sq.toInt ∧ sq.toInt ≤ 300 ∧ stOK D fq sq.toInt (fun x' y' m' v' q' => F x' y' m' v' q' ∨ (m' = M ∧ v' = v ∧ St D Wd Ht LIM x' y' M v q'))) ∨ ((0 : Int32) = 0 ∧ sq.toInt = 300 ∧ ∃ F2 : Int → Int → Int → Int → Int → Prop, stOK D fq 300 F2 ∧ (∀ x' y' m' v' q', F2 x' y' m' v' q' → F x' y' m' v' q' ∨ (m' = M ∧ v' = v ∧ St D Wd Ht LIM x' y' M v q')) ∧ ∃ x y q, St D Wd Ht LIM x y M v q ∧ ¬ F2 x y M v q) := by
              right
              have e3 : zsq = 300 := by omega
              rw [e3] at k2
              exact ⟨rfl, by omega, _, k2, fun _ _ _ _ _ g => lk_sub g, zxx, zyy, zqq, ys, lk_not hF⟩
            have hP9 := hP.sub (ws' := [(mo, .inr (5, [.int mth, .int mw, .int mh, .ref ad, .ref asu, .ref aru, .int mro, .ref ast, .int sq, .ref afo, .int mmn])), (asu, .inl (kU, 263169, .inl fu)), (aru, .inl (kR, 2100, .inl fr)), (ast, .inl (kT, 1800, .inl fq))]) [0, 1, 2, 3] rfl
            have hD9 := hD.sub (ws' := [(mo, .inr (5, [.int mth, .int mw, .int mh, .ref ad, .ref asu, .ref aru, .int mro, .ref ast, .int sq, .ref afo, .int mmn])), (asu, .inl (kU, 263169, .inl fu)), (aru, .inl (kR, 2100, .inl fr)), (ast, .inl (kT, 1800, .inl fq))]) [0, 1, 2, 3] (by decide) rfl
            have hK9 := hK.sub (tys' := [(kU, .int), (kR, .int), (kT, .int)]) [0, 1, 2] rfl
            exact W.zret (v := 0) hx hb hr (by decide) (fun t ht hW => ⟨⟨0, (sq, fq), rfl, hpost, by rw [ht]; exact hP9, va_K.moved hW.alike hK9, hD9⟩, hS.F ht⟩) hS.2.2 d_Model_look_80
