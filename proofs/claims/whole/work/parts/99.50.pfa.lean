set_option maxHeartbeats 4000000 in
set_option maxRecDepth 100000 in
theorem c_isWithin (l : Launch) (dC : Nat → ClassId) (dI : Nat → Nat → Nat) (a0 a1 a2 : Int32) (x l1 h1 : Int) (g0 : a0.toInt = x) (g1 : a1.toInt = l1) (g2 : a2.toInt = h1) : Met l y_PF_isWithin (.code y_PF_isWithin b_PF_isWithin 3 (some .boolean) :: allw) ({ frames := 0, cells := 0, slots := 0, locals := 0 }) (va_Pc [.int a0, .int a1, .int a2] (ro_B (dC, dI) vwCl [] [])) (va_Qi (fun (r : Int32) (_ : Unit) => isB r (l1 ≤ x ∧ x ≤ h1)) (fun _ _ => True) (fun _ => False)) 0 0 (fun _ => False) := by
  refine Met.ofW (cc := b_PF_isWithin) (maxL := 3) (ret := (some .boolean)) (by decide) rfl ?_
  intro p e s m args below meth c s₁ B hml hv
  obtain ⟨rfl, hP, hK⟩ := hv
  have hx := B.exec
  have hb := B.bytes
  have hr := B.returns
  have hts : ∀ w ∈ allw, w.before _ s = true := fun w h => atoms_spec (ws := .code y_PF_isWithin b_PF_isWithin 3 (some .boolean) :: allw) B.pre w (List.mem_cons_of_mem _ h)
  have hown : s.vm.findClass R_PF = some m.cls := findClass_of_methodNamed B.named
  have hlocks := B.notSynchronized
  have hS : va_S (fun _ => False) s.heap s.heap [] := va_S.rf
  have hP : va_P (dC, dI) vwCl [] s.heap := hP
  have hl := lv_entry ([.int a0, .int a1, .int a2]) (n := 3) (Nat.le_of_ble_eq_true rfl)
  rw [lg_entry_eq]
  generalize (lg_sl ([.int a0, .int a1, .int a2]) ++ List.replicate (3 - (lg_sl ([.int a0, .int a1, .int a2])).length) Slot.unset).toArray = ls at hl ⊢
  have hl : lv_has ls 3 [(0, .int a0), (1, .int a1), (2, .int a2)] := hl
  refine lv_iload_n hx hb d_PF_isWithin_0 rfl (lv_at hl 0 rfl) ?_
  refine lv_iload_n hx hb d_PF_isWithin_1 rfl (lv_at hl 1 rfl) ?_
  refine lv_icmp_lt (tgt := 14) hx hb d_PF_isWithin_2 (by decide) (fun c2 => ?_) (fun c2 => ?_)
  · skip
    have c2 : x < l1 := (ti_lt g0 g1).mp c2
    refine lv_iconst (v := 0) hx hb d_PF_isWithin_14 (by decide) ?_
    have hpost : isB 0 (l1 ≤ x ∧ x ≤ h1) := by
      exact Or.inr ⟨rfl, by omega⟩
    exact W.zret (v := 0) hx hb hr (by decide) (fun t ht hW => ⟨⟨0, (), rfl, hpost, trivial⟩, hS.F ht⟩) hS.2.2 d_PF_isWithin_15
  · skip
    have c2 : ¬ (x < l1) := fun q => c2 ((ti_lt g0 g1).mpr q)
    refine lv_iload_n hx hb d_PF_isWithin_5 rfl (lv_at hl 0 rfl) ?_
    refine lv_iload_n hx hb d_PF_isWithin_6 rfl (lv_at hl 2 rfl) ?_
    refine lv_icmp_gt (tgt := 14) hx hb d_PF_isWithin_7 (by decide) (fun c7 => ?_) (fun c7 => ?_)
    · skip
      have c7 : h1 < x := (ti_lt g2 g0).mp c7
      refine lv_iconst (v := 0) hx hb d_PF_isWithin_14 (by decide) ?_
      have hpost : isB 0 (l1 ≤ x ∧ x ≤ h1) := by
        exact Or.inr ⟨rfl, by omega⟩
      exact W.zret (v := 0) hx hb hr (by decide) (fun t ht hW => ⟨⟨0, (), rfl, hpost, trivial⟩, hS.F ht⟩) hS.2.2 d_PF_isWithin_15
    · skip
      have c7 : ¬ (h1 < x) := fun q => c7 ((ti_lt g2 g0).mpr q)
      refine lv_iconst (v := 1) hx hb d_PF_isWithin_10 (by decide) ?_
      refine lv_goto (tgt := 15) hx hb d_PF_isWithin_11 (by decide) ?_
      have hpost : isB 1 (l1 ≤ x ∧ x ≤ h1) := by
        exact Or.inl ⟨rfl, by omega⟩
      exact W.zret (v := 1) hx hb hr (by decide) (fun t ht hW => ⟨⟨1, (), rfl, hpost, trivial⟩, hS.F ht⟩) hS.2.2 d_PF_isWithin_15

set_option maxHeartbeats 4000000 in
set_option maxRecDepth 100000 in
theorem c_isMostlyDark (l : Launch) (dC : Nat → ClassId) (dI : Nat → Nat → Nat) (hf hq hst hld : Nat) (ho : Nat) (ol ot om os oq : Int32) (L T M S Q : Int) (hol : ol.toInt = L) (hot : ot.toInt = T) (hom : om.toInt = M) (hos : os.toInt = S) (hoq : oq.toInt = Q) (hS0 : 21 ≤ S) (hS7 : S ≤ 177) (hM0 : 1 ≤ M) (hM1 : M ≤ 16) (hL0 : 0 ≤ L) (hT0 : 0 ≤ T) (hQ0 : 0 ≤ Q) (hQ3 : Q ≤ 3) (hp hw hs : Nat) (kW kS : ClassId) (pw ph psr : Int32) (fw : Nat → Int64) (fs : Nat → Int32) (Wd Ht : Int) (D : Int → Int → Bool) (hpw : pw.toInt = Wd) (hph : ph.toInt = Ht) (hW1 : 1 ≤ Wd) (hW2 : Wd ≤ 512) (hH1 : 1 ≤ Ht) (hH2 : Ht ≤ 512) (hbits : bOK fw D) (hsup : ∀ x y, D x y = true → 0 ≤ x ∧ x < Wd ∧ 0 ≤ y ∧ y < Ht) (on1 : L + M * S ≤ Wd) (on2 : T + M * S ≤ Ht) (a2 a3 : Int32) (i j : Int) (g2 : a2.toInt = i) (g3 : a3.toInt = j) (i0 : 0 ≤ i) (i1 : i < S) (j0 : 0 ≤ j) (j1 : j < S) : Met l y_PF_isMostlyDark (.code y_PF_isMostlyDark b_PF_isMostlyDark 6 (some .boolean) :: allw) ({ frames := 2, cells := 0, slots := 0, locals := 53 }) (va_Pc [.ref hf, .ref ho, .int a2, .int a3] (ro_B (dC, dI) vwCl [(hf, .inr (4, [.ref hq, .ref hp, .ref hst, .ref hld])), (ho, .inr (1, [.int ol, .int ot, .int om, .int os, .int oq])), (hp, .inr (0, [.int pw, .int ph, .ref hw, .ref hs, .int psr])), (hw, .inl (kW, 4096, .inr (.inl fw))), (hs, .inl (kS, 263169, .inl fs))] [(kW, .long), (kS, .int)])) (va_Qi (fun (r : Int32) (_ : Unit) => isB r (M * M < 2 * cI D (L + M * bA S Q i j) (T + M * bB S Q i j) M M)) (fun _ _ => True) (fun _ => False)) 0 0 (fun _ => False) := by
  refine Met.ofW (cc := b_PF_isMostlyDark) (maxL := 6) (ret := (some .boolean)) (by decide) rfl ?_
  intro p e s m args below meth c s₁ B hml hv
  obtain ⟨rfl, hP, hK⟩ := hv
  have hx := B.exec
  have hb := B.bytes
  have hr := B.returns
  have hts : ∀ w ∈ allw, w.before _ s = true := fun w h => atoms_spec (ws := .code y_PF_isMostlyDark b_PF_isMostlyDark 6 (some .boolean) :: allw) B.pre w (List.mem_cons_of_mem _ h)
  have hown : s.vm.findClass R_PF = some m.cls := findClass_of_methodNamed B.named
  have hlocks := B.notSynchronized
  have hS : va_S (fun _ => False) s.heap s.heap [] := va_S.rf
  have hP : va_P (dC, dI) vwCl [(hf, .inr (4, [.ref hq, .ref hp, .ref hst, .ref hld])), (ho, .inr (1, [.int ol, .int ot, .int om, .int os, .int oq])), (hp, .inr (0, [.int pw, .int ph, .ref hw, .ref hs, .int psr])), (hw, .inl (kW, 4096, .inr (.inl fw))), (hs, .inl (kS, 263169, .inl fs))] s.heap := hP
  have hl := lv_entry ([.ref hf, .ref ho, .int a2, .int a3]) (n := 6) (Nat.le_of_ble_eq_true rfl)
  rw [lg_entry_eq]
  generalize (lg_sl ([.ref hf, .ref ho, .int a2, .int a3]) ++ List.replicate (6 - (lg_sl ([.ref hf, .ref ho, .int a2, .int a3])).length) Slot.unset).toArray = ls at hl ⊢
  have hl : lv_has ls 6 [(0, .ref hf), (1, .ref ho), (2, .int a2), (3, .int a3)] := hl
  have pa := bA_b (S := S) (Q := Q) (i := i) (j := j) (by omega) (by omega) (by omega) (by omega)
  have pb := bB_b (S := S) (Q := Q) (i := i) (j := j) (by omega) (by omega) (by omega) (by omega)
  have pA := blk_b (m := M) (S := S) (by omega) pa.1 pa.2
  have pB := blk_b (m := M) (S := S) (by omega) pb.1 pb.2
  have m2 := mul_b (a := M) (b := M) (n := 16) (by omega) (by omega) (by omega) (by omega)
  have m0 := Int.mul_nonneg (show 0 ≤ M by omega) (show 0 ≤ M by omega)
  refine lv_aload_n hx hb d_PF_isMostlyDark_0 rfl (lv_at hl 1 rfl) ?_
  refine va_get (D := (dC, dI)) (ci := 1) (v := .int om) (C := R_Place) (T := T_Place) (N := 5) hx hb hts i_Place hown hK hP 1 rfl rfl 2 (by decide) (hts _ wd_324) (fun _ h9 => h9) rfl d_PF_isMostlyDark_1 ?_
  refine lv_istore (lv' := [(4, .int om), (0, .ref hf), (1, .ref ho), (2, .int a2), (3, .int a3)]) hx hb d_PF_isMostlyDark_4 hl (by decide) rfl (fun ls hl => ?_)
  refine lv_aload_n hx hb d_PF_isMostlyDark_6 rfl (lv_at hl 1 rfl) ?_
  refine va_get (D := (dC, dI)) (ci := 4) (v := .ref hp) (C := R_PF) (T := T_PF) (N := 4) hx hb hts i_PF hown hK hP 0 rfl rfl 1 (by decide) (hts _ wd_127) (fun _ h9 => h9) rfl d_PF_isMostlyDark_7 ?_
  refine lv_aload_n hx hb d_PF_isMostlyDark_10 rfl (lv_at hl 2 rfl) ?_
  refine lv_iload_n hx hb d_PF_isMostlyDark_11 rfl (lv_at hl 3 rfl) ?_
  refine lv_iload_n hx hb d_PF_isMostlyDark_12 rfl (lv_at hl 4 rfl) ?_
  have hPc := hP.sub (ws' := [(ho, .inr (1, [.int ol, .int ot, .int om, .int os, .int oq]))]) [1] rfl
  have hKc := hK.sub (tys' := []) [] rfl
  refine va_calli (va_runV (As := [.int a2, .int a3]) (rest := [.ref hp]) ⟨hx, hb, hml, hown, hts⟩ (c_blockLeft l dC dI ho ol ot om os oq L T M S Q hol hot hom hos hoq a2 a3 i j g2 g3 (by omega) (by omega) (by omega) (by omega) (by omega) (by omega) (by omega) (by omega) (by omega) (by omega) (by omega)) (aw_V 2 hts wd_359 wd_360 wd_361 wd_13 wd_362 rfl rfl (by decide +kernel) ⟨Nat.le_of_ble_eq_true rfl, Nat.le_of_ble_eq_true rfl⟩) ⟨ro_blind, va_recv hKc hPc (ci := 1) (q0 := 0) rfl rfl, ro_pre hPc hKc⟩ rfl rfl hl.1 rfl (lv_room (Nat.le_of_ble_eq_true rfl)) d_PF_isMostlyDark_13 ⟨Nat.le_of_ble_eq_true rfl, Nat.le_of_ble_eq_true rfl⟩) hS (fun q _ h => h.elim) (fun q h => h.elim) (fun v13 _ t9 H13 locs ht hvm h13 hB hz1 hk1 hS => ?_)
  have hP := ro_keep hP hk1
  clear hPc hKc ht hvm hB hz1 hk1
  refine lv_aload_n hx hb d_PF_isMostlyDark_16 rfl (lv_at hl 2 rfl) ?_
  refine lv_iload_n hx hb d_PF_isMostlyDark_17 rfl (lv_at hl 3 rfl) ?_
  refine lv_iload_n hx hb d_PF_isMostlyDark_18 rfl (lv_at hl 4 rfl) ?_
  have hPc := hP.sub (ws' := [(ho, .inr (1, [.int ol, .int ot, .int om, .int os, .int oq]))]) [1] rfl
  have hKc := hK.sub (tys' := []) [] rfl
  refine va_calli (va_runV (As := [.int a2, .int a3]) (rest := [.int v13, .ref hp]) ⟨hx, hb, hml, hown, hts⟩ (c_blockTop l dC dI ho ol ot om os oq L T M S Q hol hot hom hos hoq a2 a3 i j g2 g3 (by omega) (by omega) (by omega) (by omega) (by omega) (by omega) (by omega) (by omega) (by omega) (by omega) (by omega)) (aw_V 2 hts wd_363 wd_364 wd_365 wd_13 wd_366 rfl rfl (by decide +kernel) ⟨Nat.le_of_ble_eq_true rfl, Nat.le_of_ble_eq_true rfl⟩) ⟨ro_blind, va_recv hKc hPc (ci := 1) (q0 := 0) rfl rfl, ro_pre hPc hKc⟩ rfl rfl hl.1 rfl (lv_room (Nat.le_of_ble_eq_true rfl)) d_PF_isMostlyDark_19 ⟨Nat.le_of_ble_eq_true rfl, Nat.le_of_ble_eq_true rfl⟩) hS (fun q _ h => h.elim) (fun q h => h.elim) (fun v19 _ t9 H19 locs ht hvm h19 hB hz1 hk1 hS => ?_)
  have hP := ro_keep hP hk1
  clear hPc hKc ht hvm hB hz1 hk1
  refine lv_iload hx hb d_PF_isMostlyDark_22 (lv_at hl 0 rfl) ?_
  refine lv_iload hx hb d_PF_isMostlyDark_24 (lv_at hl 0 rfl) ?_
  have hPc := hP.sub (ws' := [(hp, .inr (0, [.int pw, .int ph, .ref hw, .ref hs, .int psr])), (hw, .inl (kW, 4096, .inr (.inl fw))), (hs, .inl (kS, 263169, .inl fs))]) [2, 3, 4] rfl
  have hKc := hK.sub (tys' := [(kW, .long), (kS, .int)]) [0, 1] rfl
  refine va_calli (va_runV (As := [.int v13, .int v19, .int om, .int om]) (rest := []) ⟨hx, hb, hml, hown, hts⟩ (c_countNow l dC dI hp hw hs kW kS pw ph psr fw fs Wd Ht D hpw hph hW1 hW2 hH1 hH2 hbits hsup v13 v19 om om (L + M * bA S Q i j) (T + M * bB S Q i j) M M h13 h19 hom hom (by omega) (by omega) (by omega) (by omega) (by omega) (by omega)) (aw_V 4 hts wd_553 wd_554 wd_555 wd_3 wd_556 rfl rfl (by decide +kernel) ⟨Nat.le_of_ble_eq_true rfl, Nat.le_of_ble_eq_true rfl⟩) ⟨ro_blind, va_recv hKc hPc (ci := 0) (q0 := 0) rfl rfl, ro_pre hPc hKc⟩ rfl rfl hl.1 rfl (lv_room (Nat.le_of_ble_eq_true rfl)) d_PF_isMostlyDark_26 ⟨Nat.le_of_ble_eq_true rfl, Nat.le_of_ble_eq_true rfl⟩) hS (fun q _ h => h.elim) (fun q h => h.elim) (fun v26 _ t9 H26 locs ht hvm h26 hB hz1 hk1 hS => ?_)
  have hP := ro_keep hP hk1
  clear hPc hKc ht hvm hB hz1 hk1
  have n26 := cI_nn D (L + M * bA S Q i j) (T + M * bB S Q i j) M M
  have l26 := cI_le D (L + M * bA S Q i j) (T + M * bB S Q i j) (w := M) (h := M) (by omega) (by omega)
  refine lv_istore (lv' := [(5, .int v26), (4, .int om), (0, .ref hf), (1, .ref ho), (2, .int a2), (3, .int a3)]) hx hb d_PF_isMostlyDark_29 hl (by decide) rfl (fun ls hl => ?_)
  refine lv_iconst (v := 2) hx hb d_PF_isMostlyDark_31 (by decide) ?_
  refine lv_iload hx hb d_PF_isMostlyDark_32 (lv_at hl 0 rfl) ?_
  refine lv_imul hx hb d_PF_isMostlyDark_34 ?_
  refine lv_topi (fun v34 e34 => ?_)
  have h34 : v34.toInt = 2 * (cI D (L + M * bA S Q i j) (T + M * bB S Q i j) M M) := by rw [e34]; exact ti_mul (ti_k (by decide)) h26 (by omega) (by omega)
  refine lv_iload hx hb d_PF_isMostlyDark_35 (lv_at hl 1 rfl) ?_
  refine lv_iload hx hb d_PF_isMostlyDark_37 (lv_at hl 1 rfl) ?_
  refine lv_imul hx hb d_PF_isMostlyDark_39 ?_
  refine lv_topi (fun v39 e39 => ?_)
  have h39 : v39.toInt = M * M := by rw [e39]; exact ti_mul hom hom (by omega) (by omega)
  refine lv_icmp_le (tgt := 47) hx hb d_PF_isMostlyDark_40 (by decide) (fun c40 => ?_) (fun c40 => ?_)
  · skip
    have c40 : (2 * (cI D (L + M * bA S Q i j) (T + M * bB S Q i j) M M)) ≤ (M * M) := (ti_le h34 h39).mp c40
    refine lv_iconst (v := 0) hx hb d_PF_isMostlyDark_47 (by decide) ?_
    have hpost : isB 0 (M * M < 2 * cI D (L + M * bA S Q i j) (T + M * bB S Q i j) M M) := by
      exact Or.inr ⟨rfl, by omega⟩
    exact W.zret (v := 0) hx hb hr (by decide) (fun t ht hW => ⟨⟨0, (), rfl, hpost, trivial⟩, hS.F ht⟩) hS.2.2 d_PF_isMostlyDark_48
  · skip
    have c40 : ¬ ((2 * (cI D (L + M * bA S Q i j) (T + M * bB S Q i j) M M)) ≤ (M * M)) := fun q => c40 ((ti_le h34 h39).mpr q)
    refine lv_iconst (v := 1) hx hb d_PF_isMostlyDark_43 (by decide) ?_
    refine lv_goto (tgt := 48) hx hb d_PF_isMostlyDark_44 (by decide) ?_
    have hpost : isB 1 (M * M < 2 * cI D (L + M * bA S Q i j) (T + M * bB S Q i j) M M) := by
      exact Or.inl ⟨rfl, by omega⟩
    exact W.zret (v := 1) hx hb hr (by decide) (fun t ht hW => ⟨⟨1, (), rfl, hpost, trivial⟩, hS.F ht⟩) hS.2.2 d_PF_isMostlyDark_48
