set_option maxHeartbeats 4000000 in
set_option maxRecDepth 100000 in
theorem c_lowest (l : Launch) (dC : Nat → ClassId) (dI : Nat → Nat → Nat) (a0 : Int32) (k : Int) (g0 : a0.toInt = k) (hk : 0 ≤ k) : Met l y_Paper_lowest (.code y_Paper_lowest b_Paper_lowest 1 (some .long) :: allw) ({ frames := 0, cells := 0, slots := 0, locals := 0 }) (va_Pc [.int a0] (ro_B (dC, dI) vwCl [] [])) (va_Ql (fun (r : Int64) (_ : Unit) => ∀ i, i < 64 → lb r i = decide ((i : Int) < k)) (fun _ _ => True) (fun _ => False)) 0 0 (fun _ => False) := by
  refine Met.ofW (cc := b_Paper_lowest) (maxL := 1) (ret := (some .long)) (by decide) rfl ?_
  intro p e s m args below meth c s₁ B hml hv
  obtain ⟨rfl, hP, hK⟩ := hv
  have hx := B.exec
  have hb := B.bytes
  have hr := B.returns
  have hts : ∀ w ∈ allw, w.before _ s = true := fun w h => atoms_spec (ws := .code y_Paper_lowest b_Paper_lowest 1 (some .long) :: allw) B.pre w (List.mem_cons_of_mem _ h)
  have hown : s.vm.findClass R_Paper = some m.cls := findClass_of_methodNamed B.named
  have hlocks := B.notSynchronized
  have hS : va_S (fun _ => False) s.heap s.heap [] := va_S.rf
  have hP : va_P (dC, dI) vwCl [] s.heap := hP
  have hl := lv_entry ([.int a0]) (n := 1) (Nat.le_of_ble_eq_true rfl)
  rw [lg_entry_eq]
  generalize (lg_sl ([.int a0]) ++ List.replicate (1 - (lg_sl ([.int a0])).length) Slot.unset).toArray = ls at hl ⊢
  have hl : lv_has ls 1 [(0, .int a0)] := hl
  refine lv_iload_n hx hb d_Paper_lowest_0 rfl (lv_at hl 0 rfl) ?_
  refine lv_bipush (v := 64) hx hb d_Paper_lowest_1 (by decide) ?_
  refine lv_icmp_lt (tgt := 12) hx hb d_Paper_lowest_3 (by decide) (fun c3 => ?_) (fun c3 => ?_)
  · skip
    have c3 : k < 64 := (ti_lt g0 (ti_k (by decide))).mp c3
    refine lv_lconst (v := 1) hx hb d_Paper_lowest_12 (by decide) ?_
    refine lv_iload_n hx hb d_Paper_lowest_13 rfl (lv_at hl 0 rfl) ?_
    refine lv_lshl hx hb d_Paper_lowest_14 rfl ?_
    refine lv_topl (fun v14 e14 => ?_)
    refine lv_lconst (v := 1) hx hb d_Paper_lowest_15 (by decide) ?_
    refine lv_lsub hx hb d_Paper_lowest_16 ?_
    refine lv_topl (fun v16 e16 => ?_)
    have hpost : ∀ i, i < 64 → lb v16 i = decide ((i : Int) < k) := by
      intro i hi
      rw [e16, e14]
      exact lo_some g0 hk c3 hi
    exact W.lret (v := v16) hx hb hr (fun t ht hW => ⟨⟨v16, (), rfl, hpost, trivial⟩, hS.F ht⟩) hS.2.2 d_Paper_lowest_17
  · skip
    have c3 : ¬ (k < 64) := fun q => c3 ((ti_lt g0 (ti_k (by decide))).mpr q)
    refine lv_ldc2 (v := (-1)) hx hb hown (hts _ wd_276) d_Paper_lowest_6 ?_
    refine lv_goto (tgt := 17) hx hb d_Paper_lowest_9 (by decide) ?_
    have hpost : ∀ i, i < 64 → lb (-1) i = decide ((i : Int) < k) := by
      intro i hi
      exact lo_all c3 hi
    exact W.lret (v := (-1)) hx hb hr (fun t ht hW => ⟨⟨(-1), (), rfl, hpost, trivial⟩, hS.F ht⟩) hS.2.2 d_Paper_lowest_17

set_option maxHeartbeats 4000000 in
set_option maxRecDepth 100000 in
theorem c_countSummed (l : Launch) (dC : Nat → ClassId) (dI : Nat → Nat → Nat) (hp hw hs : Nat) (kS : ClassId) (pw ph psr : Int32) (fs : Nat → Int32) (Wd Ht : Int) (D : Int → Int → Bool) (hpw : pw.toInt = Wd) (hph : ph.toInt = Ht) (hW1 : 1 ≤ Wd) (hW2 : Wd ≤ 512) (hH1 : 1 ≤ Ht) (hH2 : Ht ≤ 512) (hsum : ∀ x y, 0 ≤ x → x ≤ Wd → 0 ≤ y → y ≤ Ht → (fs (y * 513 + x).toNat).toInt = cI D 0 0 x y) (a1 a2 a3 a4 : Int32) (x y w h : Int) (g1 : a1.toInt = x) (g2 : a2.toInt = y) (g3 : a3.toInt = w) (g4 : a4.toInt = h) : Met l y_Paper_countSummed (.code y_Paper_countSummed b_Paper_countSummed 7 (some .int) :: allw) ({ frames := 0, cells := 0, slots := 0, locals := 0 }) (va_Pc [.ref hp, .int a1, .int a2, .int a3, .int a4] (ro_B (dC, dI) vwCl [(hp, .inr (0, [.int pw, .int ph, .ref hw, .ref hs, .int psr])), (hs, .inl (kS, 263169, .inl fs))] [(kS, .int)])) (va_Qi (fun (r : Int32) (_ : Unit) => r.toInt = cS D Wd Ht x y w h) (fun _ _ => True) (fun _ => False)) 0 0 (fun _ => False) := by
  refine Met.ofW (cc := b_Paper_countSummed) (maxL := 7) (ret := (some .int)) (by decide) rfl ?_
  intro p e s m args below meth c s₁ B hml hv
  obtain ⟨rfl, hP, hK⟩ := hv
  have hx := B.exec
  have hb := B.bytes
  have hr := B.returns
  have hts : ∀ w ∈ allw, w.before _ s = true := fun w h => atoms_spec (ws := .code y_Paper_countSummed b_Paper_countSummed 7 (some .int) :: allw) B.pre w (List.mem_cons_of_mem _ h)
  have hown : s.vm.findClass R_Paper = some m.cls := findClass_of_methodNamed B.named
  have hlocks := B.notSynchronized
  have hS : va_S (fun _ => False) s.heap s.heap [] := va_S.rf
  have hP : va_P (dC, dI) vwCl [(hp, .inr (0, [.int pw, .int ph, .ref hw, .ref hs, .int psr])), (hs, .inl (kS, 263169, .inl fs))] s.heap := hP
  have hl := lv_entry ([.ref hp, .int a1, .int a2, .int a3, .int a4]) (n := 7) (Nat.le_of_ble_eq_true rfl)
  rw [lg_entry_eq]
  generalize (lg_sl ([.ref hp, .int a1, .int a2, .int a3, .int a4]) ++ List.replicate (7 - (lg_sl ([.ref hp, .int a1, .int a2, .int a3, .int a4])).length) Slot.unset).toArray = ls at hl ⊢
  have hl : lv_has ls 7 [(0, .ref hp), (1, .int a1), (2, .int a2), (3, .int a3), (4, .int a4)] := hl
  have q1 := ti_rng a1
  have q2 := ti_rng a2
  have q3 := ti_rng a3
  have q4 := ti_rng a4
  refine lv_iload_n hx hb d_Paper_countSummed_0 rfl (lv_at hl 3 rfl) ?_
  refine lv_if_le (tgt := 38) hx hb d_Paper_countSummed_1 (by decide) (fun c1 => ?_) (fun c1 => ?_)
  · skip
    have c1 : w ≤ 0 := (ti_le g3 (ti_k (by decide))).mp c1
    refine lv_iconst (v := 0) hx hb d_Paper_countSummed_38 (by decide) ?_
    have hpost : (0 : Int32).toInt = cS D Wd Ht x y w h := by
      rw [cS_out (by omega)]; rfl
    exact W.iret (v := 0) hx hb hr (fun t ht hW => ⟨⟨0, (), rfl, hpost, trivial⟩, hS.F ht⟩) hS.2.2 d_Paper_countSummed_39
  · skip
    have c1 : ¬ (w ≤ 0) := fun q => c1 ((ti_le g3 (ti_k (by decide))).mpr q)
    refine lv_iload hx hb d_Paper_countSummed_4 (lv_at hl 4 rfl) ?_
    refine lv_if_le (tgt := 38) hx hb d_Paper_countSummed_6 (by decide) (fun c6 => ?_) (fun c6 => ?_)
    · skip
      have c6 : h ≤ 0 := (ti_le g4 (ti_k (by decide))).mp c6
      refine lv_iconst (v := 0) hx hb d_Paper_countSummed_38 (by decide) ?_
      have hpost : (0 : Int32).toInt = cS D Wd Ht x y w h := by
        rw [cS_out (by omega)]; rfl
      exact W.iret (v := 0) hx hb hr (fun t ht hW => ⟨⟨0, (), rfl, hpost, trivial⟩, hS.F ht⟩) hS.2.2 d_Paper_countSummed_39
    · skip
      have c6 : ¬ (h ≤ 0) := fun q => c6 ((ti_le g4 (ti_k (by decide))).mpr q)
      refine lv_iload_n hx hb d_Paper_countSummed_9 rfl (lv_at hl 1 rfl) ?_
      refine lv_if_lt (tgt := 38) hx hb d_Paper_countSummed_10 (by decide) (fun c10 => ?_) (fun c10 => ?_)
      · skip
        have c10 : x < 0 := (ti_lt g1 (ti_k (by decide))).mp c10
        refine lv_iconst (v := 0) hx hb d_Paper_countSummed_38 (by decide) ?_
        have hpost : (0 : Int32).toInt = cS D Wd Ht x y w h := by
          rw [cS_out (by omega)]; rfl
        exact W.iret (v := 0) hx hb hr (fun t ht hW => ⟨⟨0, (), rfl, hpost, trivial⟩, hS.F ht⟩) hS.2.2 d_Paper_countSummed_39
      · skip
        have c10 : ¬ (x < 0) := fun q => c10 ((ti_lt g1 (ti_k (by decide))).mpr q)
        refine lv_iload_n hx hb d_Paper_countSummed_13 rfl (lv_at hl 2 rfl) ?_
        refine lv_if_lt (tgt := 38) hx hb d_Paper_countSummed_14 (by decide) (fun c14 => ?_) (fun c14 => ?_)
        · skip
          have c14 : y < 0 := (ti_lt g2 (ti_k (by decide))).mp c14
          refine lv_iconst (v := 0) hx hb d_Paper_countSummed_38 (by decide) ?_
          have hpost : (0 : Int32).toInt = cS D Wd Ht x y w h := by
            rw [cS_out (by omega)]; rfl
          exact W.iret (v := 0) hx hb hr (fun t ht hW => ⟨⟨0, (), rfl, hpost, trivial⟩, hS.F ht⟩) hS.2.2 d_Paper_countSummed_39
        · skip
          have c14 : ¬ (y < 0) := fun q => c14 ((ti_lt g2 (ti_k (by decide))).mpr q)
          refine lv_iload_n hx hb d_Paper_countSummed_17 rfl (lv_at hl 1 rfl) ?_
          refine lv_aload_n hx hb d_Paper_countSummed_18 rfl (lv_at hl 0 rfl) ?_
          refine va_get (D := (dC, dI)) (ci := 0) (v := .int pw) (C := R_Paper) (T := T_Paper) (N := 5) hx hb hts i_Paper hown hK hP 0 rfl rfl 0 (by decide) (hts _ wd_37) (fun _ h9 => h9) rfl d_Paper_countSummed_19 ?_
          refine lv_iload_n hx hb d_Paper_countSummed_22 rfl (lv_at hl 3 rfl) ?_
          refine lv_isub hx hb d_Paper_countSummed_23 ?_
          refine lv_topi (fun v23 e23 => ?_)
          have h23 : v23.toInt = Wd - w := by rw [e23]; exact ti_sub hpw g3 (by omega) (by omega)
          refine lv_icmp_gt (tgt := 38) hx hb d_Paper_countSummed_24 (by decide) (fun c24 => ?_) (fun c24 => ?_)
          · skip
            have c24 : (Wd - w) < x := (ti_lt h23 g1).mp c24
            refine lv_iconst (v := 0) hx hb d_Paper_countSummed_38 (by decide) ?_
            have hpost : (0 : Int32).toInt = cS D Wd Ht x y w h := by
              rw [cS_out (by omega)]; rfl
            exact W.iret (v := 0) hx hb hr (fun t ht hW => ⟨⟨0, (), rfl, hpost, trivial⟩, hS.F ht⟩) hS.2.2 d_Paper_countSummed_39
          · skip
            have c24 : ¬ ((Wd - w) < x) := fun q => c24 ((ti_lt h23 g1).mpr q)
            refine lv_iload_n hx hb d_Paper_countSummed_27 rfl (lv_at hl 2 rfl) ?_
            refine lv_aload_n hx hb d_Paper_countSummed_28 rfl (lv_at hl 0 rfl) ?_
            refine va_get (D := (dC, dI)) (ci := 0) (v := .int ph) (C := R_Paper) (T := T_Paper) (N := 5) hx hb hts i_Paper hown hK hP 0 rfl rfl 1 (by decide) (hts _ wd_40) (fun _ h9 => h9) rfl d_Paper_countSummed_29 ?_
            refine lv_iload hx hb d_Paper_countSummed_32 (lv_at hl 4 rfl) ?_
            refine lv_isub hx hb d_Paper_countSummed_34 ?_
            refine lv_topi (fun v34 e34 => ?_)
            have h34 : v34.toInt = Ht - h := by rw [e34]; exact ti_sub hph g4 (by omega) (by omega)
            refine lv_icmp_le (tgt := 40) hx hb d_Paper_countSummed_35 (by decide) (fun c35 => ?_) (fun c35 => ?_)
            · skip
              have c35 : y ≤ (Ht - h) := (ti_le g2 h34).mp c35
              refine lv_iload_n hx hb d_Paper_countSummed_40 rfl (lv_at hl 2 rfl) ?_
              refine lv_sipush (v := 513) hx hb d_Paper_countSummed_41 (by decide) ?_
              refine lv_imul hx hb d_Paper_countSummed_44 ?_
              refine lv_topi (fun v44 e44 => ?_)
              have h44 : v44.toInt = y * 513 := by rw [e44]; exact ti_mul g2 (ti_k (by decide)) (by omega) (by omega)
              refine lv_iload_n hx hb d_Paper_countSummed_45 rfl (lv_at hl 1 rfl) ?_
              refine lv_iadd hx hb d_Paper_countSummed_46 ?_
              refine lv_topi (fun v46 e46 => ?_)
              have h46 : v46.toInt = (y * 513) + x := by rw [e46]; exact ti_add h44 g1 (by omega) (by omega)
              refine lv_istore (lv' := [(5, .int v46), (0, .ref hp), (1, .int a1), (2, .int a2), (3, .int a3), (4, .int a4)]) hx hb d_Paper_countSummed_47 hl (by decide) rfl (fun ls hl => ?_)
              refine lv_iload hx hb d_Paper_countSummed_49 (lv_at hl 0 rfl) ?_
              refine lv_iload hx hb d_Paper_countSummed_51 (lv_at hl 5 rfl) ?_
              refine lv_sipush (v := 513) hx hb d_Paper_countSummed_53 (by decide) ?_
              refine lv_imul hx hb d_Paper_countSummed_56 ?_
              refine lv_topi (fun v56 e56 => ?_)
              have h56 : v56.toInt = h * 513 := by rw [e56]; exact ti_mul g4 (ti_k (by decide)) (by omega) (by omega)
              refine lv_iadd hx hb d_Paper_countSummed_57 ?_
              refine lv_topi (fun v57 e57 => ?_)
              have h57 : v57.toInt = ((y * 513) + x) + (h * 513) := by rw [e57]; exact ti_add h46 h56 (by omega) (by omega)
              refine lv_istore (lv' := [(6, .int v57), (5, .int v46), (0, .ref hp), (1, .int a1), (2, .int a2), (3, .int a3), (4, .int a4)]) hx hb d_Paper_countSummed_58 hl (by decide) rfl (fun ls hl => ?_)
              have s1 := hsum (x + w) (y + h) (by omega) (by omega) (by omega) (by omega)
              have s2 := hsum x (y + h) (by omega) (by omega) (by omega) (by omega)
              have s3 := hsum (x + w) y (by omega) (by omega) (by omega) (by omega)
              have s4 := hsum x y (by omega) (by omega) (by omega) (by omega)
              have b1 := cI_le D 0 0 (w := x + w) (h := y + h) (by omega) (by omega)
              have b2 := cI_le D 0 0 (w := x) (h := y + h) (by omega) (by omega)
              have b3 := cI_le D 0 0 (w := x + w) (h := y) (by omega) (by omega)
              have b4 := cI_le D 0 0 (w := x) (h := y) (by omega) (by omega)
              have m1 := mul_b (a := x + w) (b := y + h) (n := 512) (by omega) (by omega) (by omega) (by omega)
              have m2 := mul_b (a := x) (b := y + h) (n := 512) (by omega) (by omega) (by omega) (by omega)
              have m3 := mul_b (a := x + w) (b := y) (n := 512) (by omega) (by omega) (by omega) (by omega)
              have m4 := mul_b (a := x) (b := y) (n := 512) (by omega) (by omega) (by omega) (by omega)
              have n1 := cI_nn D 0 0 (x + w) (y + h)
              have n2 := cI_nn D 0 0 x (y + h)
              have n3 := cI_nn D 0 0 (x + w) y
              have n4 := cI_nn D 0 0 x y
              have t4 := cI_four (D := D) (x := x) (y := y) (w := w) (h := h) (by omega) (by omega) (by omega) (by omega)
              refine lv_aload_n hx hb d_Paper_countSummed_60 rfl (lv_at hl 2 rfl) ?_
              refine va_get (D := (dC, dI)) (ci := 0) (v := .ref hs) (C := R_Paper) (T := T_Paper) (N := 5) hx hb hts i_Paper hown hK hP 0 rfl rfl 3 (by decide) (hts _ wd_44) (fun _ h9 => h9) rfl d_Paper_countSummed_61 ?_
              refine lv_iload hx hb d_Paper_countSummed_64 (lv_at hl 0 rfl) ?_
              refine lv_iload_n hx hb d_Paper_countSummed_66 rfl (lv_at hl 5 rfl) ?_
              refine lv_iadd hx hb d_Paper_countSummed_67 ?_
              refine lv_topi (fun v67 e67 => ?_)
              have h67 : v67.toInt = (((y * 513) + x) + (h * 513)) + w := by rw [e67]; exact ti_add h57 g3 (by omega) (by omega)
              have in68 : vp_in v67 263169 := vi_in h67 (by omega) (by omega)
              refine va_iald hx hb hK hP 1 0 rfl rfl in68 d_Paper_countSummed_68 ?_
              refine lv_topi (fun v68 e68 => ?_)
              have e68 : v68 = fs (((((y * 513) + x) + (h * 513)) + w)).toNat := by rw [e68, vi_cl h67]
              have h68 : v68.toInt = cI D 0 0 (x + w) (y + h) := by rw [e68, ← s1]; congr 2; omega
              refine lv_aload_n hx hb d_Paper_countSummed_69 rfl (lv_at hl 2 rfl) ?_
              refine va_get (D := (dC, dI)) (ci := 0) (v := .ref hs) (C := R_Paper) (T := T_Paper) (N := 5) hx hb hts i_Paper hown hK hP 0 rfl rfl 3 (by decide) (hts _ wd_44) (fun _ h9 => h9) rfl d_Paper_countSummed_70 ?_
              refine lv_iload hx hb d_Paper_countSummed_73 (lv_at hl 0 rfl) ?_
              have in75 : vp_in v57 263169 := vi_in h57 (by omega) (by omega)
              refine va_iald hx hb hK hP 1 0 rfl rfl in75 d_Paper_countSummed_75 ?_
              refine lv_topi (fun v75 e75 => ?_)
              have e75 : v75 = fs ((((y * 513) + x) + (h * 513))).toNat := by rw [e75, vi_cl h57]
              have h75 : v75.toInt = cI D 0 0 x (y + h) := by rw [e75, ← s2]; congr 2; omega
              refine lv_isub hx hb d_Paper_countSummed_76 ?_
              refine lv_topi (fun v76 e76 => ?_)
              have h76 : v76.toInt = cI D 0 0 (x + w) (y + h) - cI D 0 0 x (y + h) := by rw [e76]; exact ti_sub h68 h75 (by omega) (by omega)
              refine lv_aload_n hx hb d_Paper_countSummed_77 rfl (lv_at hl 2 rfl) ?_
              refine va_get (D := (dC, dI)) (ci := 0) (v := .ref hs) (C := R_Paper) (T := T_Paper) (N := 5) hx hb hts i_Paper hown hK hP 0 rfl rfl 3 (by decide) (hts _ wd_44) (fun _ h9 => h9) rfl d_Paper_countSummed_78 ?_
              refine lv_iload hx hb d_Paper_countSummed_81 (lv_at hl 1 rfl) ?_
              refine lv_iload_n hx hb d_Paper_countSummed_83 rfl (lv_at hl 5 rfl) ?_
              refine lv_iadd hx hb d_Paper_countSummed_84 ?_
              refine lv_topi (fun v84 e84 => ?_)
              have h84 : v84.toInt = ((y * 513) + x) + w := by rw [e84]; exact ti_add h46 g3 (by omega) (by omega)
              have in85 : vp_in v84 263169 := vi_in h84 (by omega) (by omega)
              refine va_iald hx hb hK hP 1 0 rfl rfl in85 d_Paper_countSummed_85 ?_
              refine lv_topi (fun v85 e85 => ?_)
              have e85 : v85 = fs ((((y * 513) + x) + w)).toNat := by rw [e85, vi_cl h84]
              have h85 : v85.toInt = cI D 0 0 (x + w) y := by rw [e85, ← s3]; congr 2; omega
              refine lv_isub hx hb d_Paper_countSummed_86 ?_
              refine lv_topi (fun v86 e86 => ?_)
              have h86 : v86.toInt = (cI D 0 0 (x + w) (y + h) - cI D 0 0 x (y + h)) - cI D 0 0 (x + w) y := by rw [e86]; exact ti_sub h76 h85 (by omega) (by omega)
              refine lv_aload_n hx hb d_Paper_countSummed_87 rfl (lv_at hl 2 rfl) ?_
              refine va_get (D := (dC, dI)) (ci := 0) (v := .ref hs) (C := R_Paper) (T := T_Paper) (N := 5) hx hb hts i_Paper hown hK hP 0 rfl rfl 3 (by decide) (hts _ wd_44) (fun _ h9 => h9) rfl d_Paper_countSummed_88 ?_
              refine lv_iload hx hb d_Paper_countSummed_91 (lv_at hl 1 rfl) ?_
              have in93 : vp_in v46 263169 := vi_in h46 (by omega) (by omega)
              refine va_iald hx hb hK hP 1 0 rfl rfl in93 d_Paper_countSummed_93 ?_
              refine lv_topi (fun v93 e93 => ?_)
              have e93 : v93 = fs (((y * 513) + x)).toNat := by rw [e93, vi_cl h46]
              have h93 : v93.toInt = cI D 0 0 x y := by rw [e93, ← s4]
              refine lv_iadd hx hb d_Paper_countSummed_94 ?_
              refine lv_topi (fun v94 e94 => ?_)
              have h94 : v94.toInt = ((cI D 0 0 (x + w) (y + h) - cI D 0 0 x (y + h)) - cI D 0 0 (x + w) y) + cI D 0 0 x y := by rw [e94]; exact ti_add h86 h93 (by omega) (by omega)
              have hpost : (v94 : Int32).toInt = cS D Wd Ht x y w h := by
                rw [cS_in (by omega), h94]; omega
              exact W.iret (v := v94) hx hb hr (fun t ht hW => ⟨⟨v94, (), rfl, hpost, trivial⟩, hS.F ht⟩) hS.2.2 d_Paper_countSummed_95
            · skip
              have c35 : ¬ (y ≤ (Ht - h)) := fun q => c35 ((ti_le g2 h34).mpr q)
              refine lv_iconst (v := 0) hx hb d_Paper_countSummed_38 (by decide) ?_
              have hpost : (0 : Int32).toInt = cS D Wd Ht x y w h := by
                rw [cS_out (by omega)]; rfl
              exact W.iret (v := 0) hx hb hr (fun t ht hW => ⟨⟨0, (), rfl, hpost, trivial⟩, hS.F ht⟩) hS.2.2 d_Paper_countSummed_39

set_option maxHeartbeats 4000000 in
set_option maxRecDepth 100000 in
theorem c_bits (l : Launch) (dC : Nat → ClassId) (dI : Nat → Nat → Nat) (hp hw hs : Nat) (kW kS : ClassId) (pw ph psr : Int32) (fw : Nat → Int64) (fs : Nat → Int32) (Wd Ht : Int) (D : Int → Int → Bool) (hpw : pw.toInt = Wd) (hph : ph.toInt = Ht) (hW1 : 1 ≤ Wd) (hW2 : Wd ≤ 512) (hH1 : 1 ≤ Ht) (hH2 : Ht ≤ 512) (hbits : ∀ x y, 0 ≤ x → x < 512 → 0 ≤ y → y < 512 → lb (fw (y * 8 + x / 64).toNat) (x % 64).toNat = D x y) (hsup : ∀ x y, D x y = true → 0 ≤ x ∧ x < Wd ∧ 0 ≤ y ∧ y < Ht) (a1 a2 : Int32) (x y : Int) (g1 : a1.toInt = x) (g2 : a2.toInt = y) : Met l y_Paper_bits (.code y_Paper_bits b_Paper_bits 8 (some .long) :: allw) ({ frames := 0, cells := 0, slots := 0, locals := 0 }) (va_Pc [.ref hp, .int a1, .int a2] (ro_B (dC, dI) vwCl [(hp, .inr (0, [.int pw, .int ph, .ref hw, .ref hs, .int psr])), (hw, .inl (kW, 4096, .inr (.inl fw))), (hs, .inl (kS, 263169, .inl fs))] [(kW, .long), (kS, .int)])) (va_Ql (fun (r : Int64) (_ : Unit) => ∀ i, i < 64 → lb r i = D (x + i) y) (fun _ _ => True) (fun _ => False)) 0 0 (fun _ => False) := by
  refine Met.ofW (cc := b_Paper_bits) (maxL := 8) (ret := (some .long)) (by decide) rfl ?_
  intro p e s m args below meth c s₁ B hml hv
  obtain ⟨rfl, hP, hK⟩ := hv
  have hx := B.exec
  have hb := B.bytes
  have hr := B.returns
  have hts : ∀ w ∈ allw, w.before _ s = true := fun w h => atoms_spec (ws := .code y_Paper_bits b_Paper_bits 8 (some .long) :: allw) B.pre w (List.mem_cons_of_mem _ h)
  have hown : s.vm.findClass R_Paper = some m.cls := findClass_of_methodNamed B.named
  have hlocks := B.notSynchronized
  have hS : va_S (fun _ => False) s.heap s.heap [] := va_S.rf
  have hP : va_P (dC, dI) vwCl [(hp, .inr (0, [.int pw, .int ph, .ref hw, .ref hs, .int psr])), (hw, .inl (kW, 4096, .inr (.inl fw))), (hs, .inl (kS, 263169, .inl fs))] s.heap := hP
  have hl := lv_entry ([.ref hp, .int a1, .int a2]) (n := 8) (Nat.le_of_ble_eq_true rfl)
  rw [lg_entry_eq]
  generalize (lg_sl ([.ref hp, .int a1, .int a2]) ++ List.replicate (8 - (lg_sl ([.ref hp, .int a1, .int a2])).length) Slot.unset).toArray = ls at hl ⊢
  have hl : lv_has ls 8 [(0, .ref hp), (1, .int a1), (2, .int a2)] := hl
  have q1 := ti_rng a1
  have q2 := ti_rng a2
  refine lv_iload_n hx hb d_Paper_bits_0 rfl (lv_at hl 2 rfl) ?_
  refine lv_if_lt (tgt := 26) hx hb d_Paper_bits_1 (by decide) (fun c1 => ?_) (fun c1 => ?_)
  · skip
    have c1 : y < 0 := (ti_lt g2 (ti_k (by decide))).mp c1
    refine lv_lconst (v := 0) hx hb d_Paper_bits_26 (by decide) ?_
    have hpost : ∀ i, i < 64 → lb 0 i = D (x + i) y := by
      intro i hi
      rw [lb_0]; exact (D_f hsup (by omega)).symm
    exact W.lret (v := 0) hx hb hr (fun t ht hW => ⟨⟨0, (), rfl, hpost, trivial⟩, hS.F ht⟩) hS.2.2 d_Paper_bits_27
  · skip
    have c1 : ¬ (y < 0) := fun q => c1 ((ti_lt g2 (ti_k (by decide))).mpr q)
    refine lv_iload_n hx hb d_Paper_bits_4 rfl (lv_at hl 2 rfl) ?_
    refine lv_aload_n hx hb d_Paper_bits_5 rfl (lv_at hl 0 rfl) ?_
    refine va_get (D := (dC, dI)) (ci := 0) (v := .int ph) (C := R_Paper) (T := T_Paper) (N := 5) hx hb hts i_Paper hown hK hP 0 rfl rfl 1 (by decide) (hts _ wd_40) (fun _ h9 => h9) rfl d_Paper_bits_6 ?_
    refine lv_icmp_ge (tgt := 26) hx hb d_Paper_bits_9 (by decide) (fun c9 => ?_) (fun c9 => ?_)
    · skip
      have c9 : Ht ≤ y := (ti_le hph g2).mp c9
      refine lv_lconst (v := 0) hx hb d_Paper_bits_26 (by decide) ?_
      have hpost : ∀ i, i < 64 → lb 0 i = D (x + i) y := by
        intro i hi
        rw [lb_0]; exact (D_f hsup (by omega)).symm
      exact W.lret (v := 0) hx hb hr (fun t ht hW => ⟨⟨0, (), rfl, hpost, trivial⟩, hS.F ht⟩) hS.2.2 d_Paper_bits_27
    · skip
      have c9 : ¬ (Ht ≤ y) := fun q => c9 ((ti_le hph g2).mpr q)
      refine lv_iload_n hx hb d_Paper_bits_12 rfl (lv_at hl 1 rfl) ?_
      refine lv_bipush (v := (-64)) hx hb d_Paper_bits_13 (by decide) ?_
      refine lv_icmp_le (tgt := 26) hx hb d_Paper_bits_15 (by decide) (fun c15 => ?_) (fun c15 => ?_)
      · skip
        have c15 : x ≤ (-64) := (ti_le g1 (ti_k (by decide))).mp c15
        refine lv_lconst (v := 0) hx hb d_Paper_bits_26 (by decide) ?_
        have hpost : ∀ i, i < 64 → lb 0 i = D (x + i) y := by
          intro i hi
          rw [lb_0]; exact (D_f hsup (by omega)).symm
        exact W.lret (v := 0) hx hb hr (fun t ht hW => ⟨⟨0, (), rfl, hpost, trivial⟩, hS.F ht⟩) hS.2.2 d_Paper_bits_27
      · skip
        have c15 : ¬ (x ≤ (-64)) := fun q => c15 ((ti_le g1 (ti_k (by decide))).mpr q)
        refine lv_iload_n hx hb d_Paper_bits_18 rfl (lv_at hl 1 rfl) ?_
        refine lv_aload_n hx hb d_Paper_bits_19 rfl (lv_at hl 0 rfl) ?_
        refine va_get (D := (dC, dI)) (ci := 0) (v := .int pw) (C := R_Paper) (T := T_Paper) (N := 5) hx hb hts i_Paper hown hK hP 0 rfl rfl 0 (by decide) (hts _ wd_37) (fun _ h9 => h9) rfl d_Paper_bits_20 ?_
        refine lv_icmp_lt (tgt := 28) hx hb d_Paper_bits_23 (by decide) (fun c23 => ?_) (fun c23 => ?_)
        · skip
          have c23 : x < Wd := (ti_lt g1 hpw).mp c23
          refine lv_iload_n hx hb d_Paper_bits_28 rfl (lv_at hl 2 rfl) ?_
          refine lv_bipush (v := 8) hx hb d_Paper_bits_29 (by decide) ?_
          refine lv_imul hx hb d_Paper_bits_31 ?_
          refine lv_topi (fun v31 e31 => ?_)
          have h31 : v31.toInt = y * 8 := by rw [e31]; exact ti_mul g2 (ti_k (by decide)) (by omega) (by omega)
          refine lv_istore_n (lv' := [(3, .int v31), (0, .ref hp), (1, .int a1), (2, .int a2)]) hx hb d_Paper_bits_32 rfl hl (by decide) rfl (fun ls hl => ?_)
          refine lv_iload_n hx hb d_Paper_bits_33 rfl (lv_at hl 2 rfl) ?_
          refine lv_if_ge (tgt := 47) hx hb d_Paper_bits_34 (by decide) (fun c34 => ?_) (fun c34 => ?_)
          · skip
            have c34 : 0 ≤ x := (ti_le (ti_k (by decide)) g1).mp c34
            refine lv_iload_n hx hb d_Paper_bits_47 rfl (lv_at hl 2 rfl) ?_
            refine lv_bipush (v := 6) hx hb d_Paper_bits_48 (by decide) ?_
            refine lv_ishr hx hb d_Paper_bits_50 ?_
            refine lv_topi (fun v50 e50 => ?_)
            have h50 : v50.toInt = x / 64 := by rw [e50]; exact ti_shr6 g1
            refine lv_istore (lv' := [(4, .int v50), (3, .int v31), (0, .ref hp), (1, .int a1), (2, .int a2)]) hx hb d_Paper_bits_51 hl (by decide) rfl (fun ls hl => ?_)
            refine lv_iload_n hx hb d_Paper_bits_53 rfl (lv_at hl 3 rfl) ?_
            refine lv_bipush (v := 63) hx hb d_Paper_bits_54 (by decide) ?_
            refine lv_iand hx hb d_Paper_bits_56 ?_
            refine lv_topi (fun v56 e56 => ?_)
            have h56 : v56.toInt = x % 64 := by rw [e56]; exact ti_and63 g1 (by omega)
            refine lv_istore (lv' := [(5, .int v56), (4, .int v50), (3, .int v31), (0, .ref hp), (1, .int a1), (2, .int a2)]) hx hb d_Paper_bits_57 hl (by decide) rfl (fun ls hl => ?_)
            refine lv_aload_n hx hb d_Paper_bits_59 rfl (lv_at hl 3 rfl) ?_
            refine va_get (D := (dC, dI)) (ci := 0) (v := .ref hw) (C := R_Paper) (T := T_Paper) (N := 5) hx hb hts i_Paper hown hK hP 0 rfl rfl 2 (by decide) (hts _ wd_43) (fun _ h9 => h9) rfl d_Paper_bits_60 ?_
            refine lv_iload_n hx hb d_Paper_bits_63 rfl (lv_at hl 2 rfl) ?_
            refine lv_iload hx hb d_Paper_bits_64 (lv_at hl 1 rfl) ?_
            refine lv_iadd hx hb d_Paper_bits_66 ?_
            refine lv_topi (fun v66 e66 => ?_)
            have h66 : v66.toInt = (y * 8) + (x / 64) := by rw [e66]; exact ti_add h31 h50 (by omega) (by omega)
            have in67 : vp_in v66 4096 := vi_in h66 (by omega) (by omega)
            refine va_lald hx hb hK hP 1 0 rfl rfl in67 d_Paper_bits_67 ?_
            refine lv_topl (fun v67 e67 => ?_)
            have e67 : v67 = fw (((y * 8) + (x / 64))).toNat := by rw [e67, vi_cl h66]
            have w67 : ∀ j, j < 64 → lb v67 j = D (x / 64 * 64 + j) y := fun j hj => by rw [e67]; exact bt_row hbits (by omega) (by omega) (by omega) (by omega) hj
            refine lv_iload hx hb d_Paper_bits_68 (lv_at hl 0 rfl) ?_
            refine lv_lushr hx hb d_Paper_bits_70 rfl ?_
            refine lv_topl (fun v70 e70 => ?_)
            refine lv_lstore (lv' := [(6, .long v70), (5, .int v56), (4, .int v50), (3, .int v31), (0, .ref hp), (1, .int a1), (2, .int a2)]) hx hb d_Paper_bits_71 hl (by decide) rfl (fun ls hl => ?_)
            refine lv_iload hx hb d_Paper_bits_73 (lv_at hl 1 rfl) ?_
            refine lv_if_eq (tgt := 109) hx hb d_Paper_bits_75 (by decide) (fun c75 => ?_) (fun c75 => ?_)
            · skip
              have c75 : (x % 64) = 0 := (ti_eq h56 (ti_k (by decide))).mp c75
              refine lv_lload hx hb d_Paper_bits_109 (lv_at hl 0 rfl) ?_
              have hpost : ∀ i, i < 64 → lb v70 i = D (x + i) y := by
                exact bits_A hsup hW2 w67 (fun i => by rw [e70]; exact lb_ushr h56 (by omega) (by omega) i) (by omega) (by omega)
              exact W.lret (v := v70) hx hb hr (fun t ht hW => ⟨⟨v70, (), rfl, hpost, trivial⟩, hS.F ht⟩) hS.2.2 d_Paper_bits_111
            · skip
              have c75 : ¬ ((x % 64) = 0) := fun q => c75 ((ti_eq h56 (ti_k (by decide))).mpr q)
              refine lv_iload hx hb d_Paper_bits_78 (lv_at hl 2 rfl) ?_
              refine lv_iconst (v := 1) hx hb d_Paper_bits_80 (by decide) ?_
              refine lv_iadd hx hb d_Paper_bits_81 ?_
              refine lv_topi (fun v81 e81 => ?_)
              have h81 : v81.toInt = (x / 64) + 1 := by rw [e81]; exact ti_add h50 (ti_k (by decide)) (by omega) (by omega)
              refine lv_bipush (v := 8) hx hb d_Paper_bits_82 (by decide) ?_
              refine lv_icmp_ge (tgt := 109) hx hb d_Paper_bits_84 (by decide) (fun c84 => ?_) (fun c84 => ?_)
              · skip
                have c84 : 8 ≤ ((x / 64) + 1) := (ti_le (ti_k (by decide)) h81).mp c84
                refine lv_lload hx hb d_Paper_bits_109 (lv_at hl 0 rfl) ?_
                have hpost : ∀ i, i < 64 → lb v70 i = D (x + i) y := by
                  exact bits_A hsup hW2 w67 (fun i => by rw [e70]; exact lb_ushr h56 (by omega) (by omega) i) (by omega) (by omega)
                exact W.lret (v := v70) hx hb hr (fun t ht hW => ⟨⟨v70, (), rfl, hpost, trivial⟩, hS.F ht⟩) hS.2.2 d_Paper_bits_111
              · skip
                have c84 : ¬ (8 ≤ ((x / 64) + 1)) := fun q => c84 ((ti_le (ti_k (by decide)) h81).mpr q)
                refine lv_lload hx hb d_Paper_bits_87 (lv_at hl 0 rfl) ?_
                refine lv_aload_n hx hb d_Paper_bits_89 rfl (lv_at hl 4 rfl) ?_
                refine va_get (D := (dC, dI)) (ci := 0) (v := .ref hw) (C := R_Paper) (T := T_Paper) (N := 5) hx hb hts i_Paper hown hK hP 0 rfl rfl 2 (by decide) (hts _ wd_43) (fun _ h9 => h9) rfl d_Paper_bits_90 ?_
                refine lv_iload_n hx hb d_Paper_bits_93 rfl (lv_at hl 3 rfl) ?_
                refine lv_iload hx hb d_Paper_bits_94 (lv_at hl 2 rfl) ?_
                refine lv_iadd hx hb d_Paper_bits_96 ?_
                refine lv_topi (fun v96 e96 => ?_)
                have h96 : v96.toInt = (y * 8) + (x / 64) := by rw [e96]; exact ti_add h31 h50 (by omega) (by omega)
                refine lv_iconst (v := 1) hx hb d_Paper_bits_97 (by decide) ?_
                refine lv_iadd hx hb d_Paper_bits_98 ?_
                refine lv_topi (fun v98 e98 => ?_)
                have h98 : v98.toInt = ((y * 8) + (x / 64)) + 1 := by rw [e98]; exact ti_add h96 (ti_k (by decide)) (by omega) (by omega)
                have in99 : vp_in v98 4096 := vi_in h98 (by omega) (by omega)
                refine va_lald hx hb hK hP 1 0 rfl rfl in99 d_Paper_bits_99 ?_
                refine lv_topl (fun v99 e99 => ?_)
                have e99 : v99 = fw ((((y * 8) + (x / 64)) + 1)).toNat := by rw [e99, vi_cl h98]
                have w99 : ∀ j, j < 64 → lb v99 j = D ((x / 64 + 1) * 64 + j) y := fun j hj => by rw [e99, Int.add_assoc]; exact bt_row hbits (by omega) (by omega) (by omega) (by omega) hj
                refine lv_bipush (v := 64) hx hb d_Paper_bits_100 (by decide) ?_
                refine lv_iload hx hb d_Paper_bits_102 (lv_at hl 1 rfl) ?_
                refine lv_isub hx hb d_Paper_bits_104 ?_
                refine lv_topi (fun v104 e104 => ?_)
                have h104 : v104.toInt = 64 - (x % 64) := by rw [e104]; exact ti_sub (ti_k (by decide)) h56 (by omega) (by omega)
                refine lv_lshl hx hb d_Paper_bits_105 rfl ?_
                refine lv_topl (fun v105 e105 => ?_)
                refine lv_lor hx hb d_Paper_bits_106 ?_
                refine lv_topl (fun v106 e106 => ?_)
                refine lv_lstore (lv' := [(6, .long v106), (5, .int v56), (4, .int v50), (3, .int v31), (0, .ref hp), (1, .int a1), (2, .int a2)]) hx hb d_Paper_bits_107 hl (by decide) rfl (fun ls hl => ?_)
                refine lv_lload hx hb d_Paper_bits_109 (lv_at hl 0 rfl) ?_
                have hpost : ∀ i, i < 64 → lb v106 i = D (x + i) y := by
                  exact bits_B (v := v70) (W := Wd) (H := Ht) w67 w99 (fun i => by rw [e70]; exact lb_ushr h56 (by omega) (by omega) i) (fun i hi => by rw [e106, lb_or, e105, lb_shl h104 (by omega) (by omega) hi]) (by omega) (by omega)
                exact W.lret (v := v106) hx hb hr (fun t ht hW => ⟨⟨v106, (), rfl, hpost, trivial⟩, hS.F ht⟩) hS.2.2 d_Paper_bits_111
          · skip
            have c34 : ¬ (0 ≤ x) := fun q => c34 ((ti_le (ti_k (by decide)) g1).mpr q)
            refine lv_aload_n hx hb d_Paper_bits_37 rfl (lv_at hl 1 rfl) ?_
            refine va_get (D := (dC, dI)) (ci := 0) (v := .ref hw) (C := R_Paper) (T := T_Paper) (N := 5) hx hb hts i_Paper hown hK hP 0 rfl rfl 2 (by decide) (hts _ wd_43) (fun _ h9 => h9) rfl d_Paper_bits_38 ?_
            refine lv_iload_n hx hb d_Paper_bits_41 rfl (lv_at hl 0 rfl) ?_
            have in42 : vp_in v31 4096 := vi_in h31 (by omega) (by omega)
            refine va_lald hx hb hK hP 1 0 rfl rfl in42 d_Paper_bits_42 ?_
            refine lv_topl (fun v42 e42 => ?_)
            have e42 : v42 = fw ((y * 8)).toNat := by rw [e42, vi_cl h31]
            have w42 : ∀ j, j < 64 → lb v42 j = D (j : Int) y := fun j hj => by have t := bt_row hbits (y := y) (k := 0) (by omega) (by omega) (by omega) (by omega) hj; rw [Int.add_zero, Int.zero_mul, Int.zero_add] at t; rw [e42]; exact t
            refine lv_iload_n hx hb d_Paper_bits_43 rfl (lv_at hl 2 rfl) ?_
            refine lv_ineg hx hb d_Paper_bits_44 ?_
            refine lv_topi (fun v44 e44 => ?_)
            have h44 : v44.toInt = -x := by rw [e44]; exact ti_neg g1 (by omega) (by omega)
            refine lv_lshl hx hb d_Paper_bits_45 rfl ?_
            refine lv_topl (fun v45 e45 => ?_)
            have hpost : ∀ i, i < 64 → lb v45 i = D (x + i) y := by
              intro i hi
              rw [e45, lb_shl h44 (by omega) (by omega) hi]
              by_cases q : (-x).toNat ≤ i
              · rw [decide_eq_true q, Bool.true_and, w42 _ (by omega)]; congr 1; omega
              · rw [decide_eq_false q, Bool.false_and]; exact (D_f hsup (by omega)).symm
            exact W.lret (v := v45) hx hb hr (fun t ht hW => ⟨⟨v45, (), rfl, hpost, trivial⟩, hS.F ht⟩) hS.2.2 d_Paper_bits_46
        · skip
          have c23 : ¬ (x < Wd) := fun q => c23 ((ti_lt g1 hpw).mpr q)
          refine lv_lconst (v := 0) hx hb d_Paper_bits_26 (by decide) ?_
          have hpost : ∀ i, i < 64 → lb 0 i = D (x + i) y := by
            intro i hi
            rw [lb_0]; exact (D_f hsup (by omega)).symm
          exact W.lret (v := 0) hx hb hr (fun t ht hW => ⟨⟨0, (), rfl, hpost, trivial⟩, hS.F ht⟩) hS.2.2 d_Paper_bits_27
