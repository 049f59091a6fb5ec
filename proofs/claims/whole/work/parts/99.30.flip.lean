set_option maxHeartbeats 4000000 in
set_option maxRecDepth 100000 in
theorem c_flip (l : Launch) (dC : Nat → ClassId) (dI : Nat → Nat → Nat) (sz : Nat) (hp hw hs : Nat) (kW kS : ClassId) (pw ph psr : Int32) (fw : Nat → Int64) (fs : Nat → Int32) (Wd Ht : Int) (D : Int → Int → Bool) (hpw : pw.toInt = Wd) (hph : ph.toInt = Ht) (hW1 : 1 ≤ Wd) (hW2 : Wd ≤ 512) (hH1 : 1 ≤ Ht) (hH2 : Ht ≤ 512) (hbits : bOK fw D) (SR : Int) (hsr : psr.toInt = SR) (hsr0 : 0 ≤ SR) (hsr1 : SR ≤ Ht) (hsk : sK fs D Wd SR) (a1 a2 : Int32) (a3 : Int64) (x y : Int) (g1 : a1.toInt = x) (g2 : a2.toInt = y) : Met l y_Paper_flip (.code y_Paper_flip b_Paper_flip 10 (some .int) :: allw) ({ frames := 1, cells := 0, slots := 0, locals := 21 }) (va_Pc [.ref hp, .int a1, .int a2, .long a3] (rw_B (dC, dI) vwCl [(hp, .inr (0, [.int pw, .int ph, .ref hw, .ref hs, .int psr])), (hw, .inl (kW, 4096, .inr (.inl fw))), (hs, .inl (kS, 263169, .inl fs))] [(kW, .long), (kS, .int)] sz)) (va_Qi (fun (r : Int32) (u : (Nat → Int64) × Int32) => r.toInt = nb (flF Wd Ht x y a3) 64 ∧ bOK u.1 (flD D Wd Ht x y a3 64) ∧ 0 ≤ (u.2 : Int32).toInt ∧ (u.2 : Int32).toInt ≤ SR ∧ sK fs (flD D Wd Ht x y a3 64) Wd (u.2 : Int32).toInt) (fun u t => rw_E (dC, dI) vwCl [(hp, .inr (0, [.int pw, .int ph, .ref hw, .ref hs, .int u.2])), (hw, .inl (kW, 4096, .inr (.inl u.1))), (hs, .inl (kS, 263169, .inl fs))] [(kW, .long), (kS, .int)] (va_A [(hp, .inr (0, [.int pw, .int ph, .ref hw, .ref hs, .int psr])), (hw, .inl (kW, 4096, .inr (.inl fw))), (hs, .inl (kS, 263169, .inl fs))] sz) t) (va_A [(hp, .inr (0, [.int pw, .int ph, .ref hw, .ref hs, .int psr])), (hw, .inl (kW, 4096, .inr (.inl fw))), (hs, .inl (kS, 263169, .inl fs))] sz)) 0 0 (va_A [(hp, .inr (0, [.int pw, .int ph, .ref hw, .ref hs, .int psr])), (hw, .inl (kW, 4096, .inr (.inl fw))), (hs, .inl (kS, 263169, .inl fs))] sz) := by
  refine Met.ofW (cc := b_Paper_flip) (maxL := 10) (ret := (some .int)) (by decide) rfl ?_
  intro p e s m args below meth c s₁ B hml hv
  obtain ⟨rfl, hsz, hP, hK, hD0⟩ := hv
  have hx := B.exec
  have hb := B.bytes
  have hr := B.returns
  have hts : ∀ w ∈ allw, w.before _ s = true := fun w h => atoms_spec (ws := .code y_Paper_flip b_Paper_flip 10 (some .int) :: allw) B.pre w (List.mem_cons_of_mem _ h)
  have hown : s.vm.findClass R_Paper = some m.cls := findClass_of_methodNamed B.named
  have hlocks := B.notSynchronized
  subst hsz
  have hD := hD0.self (sz := s.heap.size)
  generalize hAe : va_A [(hp, .inr (0, [.int pw, .int ph, .ref hw, .ref hs, .int psr])), (hw, .inl (kW, 4096, .inr (.inl fw))), (hs, .inl (kS, 263169, .inl fs))] s.heap.size = A at hD ⊢
  have hA : ∀ q : Nat, s.heap.size ≤ q → A q := fun q h => by rw [← hAe]; exact Or.inr h
  have hS : va_S A s.heap s.heap [] := va_S.rf
  have hP : va_P (dC, dI) vwCl [(hp, .inr (0, [.int pw, .int ph, .ref hw, .ref hs, .int psr])), (hw, .inl (kW, 4096, .inr (.inl fw))), (hs, .inl (kS, 263169, .inl fs))] s.heap := hP
  have hl := lv_entry ([.ref hp, .int a1, .int a2, .long a3]) (n := 10) (Nat.le_of_ble_eq_true rfl)
  rw [lg_entry_eq]
  generalize (lg_sl ([.ref hp, .int a1, .int a2, .long a3]) ++ List.replicate (10 - (lg_sl ([.ref hp, .int a1, .int a2, .long a3])).length) Slot.unset).toArray = ls at hl ⊢
  have hl : lv_has ls 10 [(0, .ref hp), (1, .int a1), (2, .int a2), (3, .long a3)] := hl
  have q1 := ti_rng a1
  have q2 := ti_rng a2
  refine lv_iload_n hx hb d_Paper_flip_0 rfl (lv_at hl 2 rfl) ?_
  refine lv_if_lt (tgt := 26) hx hb d_Paper_flip_1 (by decide) (fun c1 => ?_) (fun c1 => ?_)
  · skip
    have c1 : y < 0 := (ti_lt g2 (ti_k (by decide))).mp c1
    refine lv_iconst (v := 0) hx hb d_Paper_flip_26 (by decide) ?_
    have hpost : (0 : Int32).toInt = nb (flF Wd Ht x y a3) 64 ∧ bOK fw (flD D Wd Ht x y a3 64) ∧ 0 ≤ (psr : Int32).toInt ∧ (psr : Int32).toInt ≤ SR ∧ sK fs (flD D Wd Ht x y a3 64) Wd (psr : Int32).toInt := by
      have z := fl_none (D := D) (W := Wd) (H := Ht) (x := x) (y := y) (mask := a3) (by omega)
      rw [z.1, z.2]
      exact ⟨rfl, hbits, by omega, by omega, by rw [hsr]; exact hsk⟩
    have hP9 := hP.sub (ws' := [(hp, .inr (0, [.int pw, .int ph, .ref hw, .ref hs, .int psr])), (hw, .inl (kW, 4096, .inr (.inl fw))), (hs, .inl (kS, 263169, .inl fs))]) [0, 1, 2] rfl
    have hD9 := hD.sub (ws' := [(hp, .inr (0, [.int pw, .int ph, .ref hw, .ref hs, .int psr])), (hw, .inl (kW, 4096, .inr (.inl fw))), (hs, .inl (kS, 263169, .inl fs))]) [0, 1, 2] (by decide) rfl
    have hK9 := hK.sub (tys' := [(kW, .long), (kS, .int)]) [0, 1] rfl
    exact W.iret (v := 0) hx hb hr (fun t ht hW => ⟨⟨0, (fw, psr), rfl, hpost, by rw [ht]; exact hP9, va_K.moved hW.alike hK9, hD9⟩, hS.F ht⟩) hS.2.2 d_Paper_flip_27
  · skip
    have c1 : ¬ (y < 0) := fun q => c1 ((ti_lt g2 (ti_k (by decide))).mpr q)
    refine lv_iload_n hx hb d_Paper_flip_4 rfl (lv_at hl 2 rfl) ?_
    refine lv_aload_n hx hb d_Paper_flip_5 rfl (lv_at hl 0 rfl) ?_
    refine va_get (D := (dC, dI)) (ci := 0) (v := .int ph) (C := R_Paper) (T := T_Paper) (N := 5) hx hb hts i_Paper hown hK hP 0 rfl rfl 1 (by decide) (hts _ wd_40) (fun _ h9 => h9) rfl d_Paper_flip_6 ?_
    refine lv_icmp_ge (tgt := 26) hx hb d_Paper_flip_9 (by decide) (fun c9 => ?_) (fun c9 => ?_)
    · skip
      have c9 : Ht ≤ y := (ti_le hph g2).mp c9
      refine lv_iconst (v := 0) hx hb d_Paper_flip_26 (by decide) ?_
      have hpost : (0 : Int32).toInt = nb (flF Wd Ht x y a3) 64 ∧ bOK fw (flD D Wd Ht x y a3 64) ∧ 0 ≤ (psr : Int32).toInt ∧ (psr : Int32).toInt ≤ SR ∧ sK fs (flD D Wd Ht x y a3 64) Wd (psr : Int32).toInt := by
        have z := fl_none (D := D) (W := Wd) (H := Ht) (x := x) (y := y) (mask := a3) (by omega)
        rw [z.1, z.2]
        exact ⟨rfl, hbits, by omega, by omega, by rw [hsr]; exact hsk⟩
      have hP9 := hP.sub (ws' := [(hp, .inr (0, [.int pw, .int ph, .ref hw, .ref hs, .int psr])), (hw, .inl (kW, 4096, .inr (.inl fw))), (hs, .inl (kS, 263169, .inl fs))]) [0, 1, 2] rfl
      have hD9 := hD.sub (ws' := [(hp, .inr (0, [.int pw, .int ph, .ref hw, .ref hs, .int psr])), (hw, .inl (kW, 4096, .inr (.inl fw))), (hs, .inl (kS, 263169, .inl fs))]) [0, 1, 2] (by decide) rfl
      have hK9 := hK.sub (tys' := [(kW, .long), (kS, .int)]) [0, 1] rfl
      exact W.iret (v := 0) hx hb hr (fun t ht hW => ⟨⟨0, (fw, psr), rfl, hpost, by rw [ht]; exact hP9, va_K.moved hW.alike hK9, hD9⟩, hS.F ht⟩) hS.2.2 d_Paper_flip_27
    · skip
      have c9 : ¬ (Ht ≤ y) := fun q => c9 ((ti_le hph g2).mpr q)
      refine lv_iload_n hx hb d_Paper_flip_12 rfl (lv_at hl 1 rfl) ?_
      refine lv_bipush (v := (-64)) hx hb d_Paper_flip_13 (by decide) ?_
      refine lv_icmp_le (tgt := 26) hx hb d_Paper_flip_15 (by decide) (fun c15 => ?_) (fun c15 => ?_)
      · skip
        have c15 : x ≤ (-64) := (ti_le g1 (ti_k (by decide))).mp c15
        refine lv_iconst (v := 0) hx hb d_Paper_flip_26 (by decide) ?_
        have hpost : (0 : Int32).toInt = nb (flF Wd Ht x y a3) 64 ∧ bOK fw (flD D Wd Ht x y a3 64) ∧ 0 ≤ (psr : Int32).toInt ∧ (psr : Int32).toInt ≤ SR ∧ sK fs (flD D Wd Ht x y a3 64) Wd (psr : Int32).toInt := by
          have z := fl_none (D := D) (W := Wd) (H := Ht) (x := x) (y := y) (mask := a3) (by omega)
          rw [z.1, z.2]
          exact ⟨rfl, hbits, by omega, by omega, by rw [hsr]; exact hsk⟩
        have hP9 := hP.sub (ws' := [(hp, .inr (0, [.int pw, .int ph, .ref hw, .ref hs, .int psr])), (hw, .inl (kW, 4096, .inr (.inl fw))), (hs, .inl (kS, 263169, .inl fs))]) [0, 1, 2] rfl
        have hD9 := hD.sub (ws' := [(hp, .inr (0, [.int pw, .int ph, .ref hw, .ref hs, .int psr])), (hw, .inl (kW, 4096, .inr (.inl fw))), (hs, .inl (kS, 263169, .inl fs))]) [0, 1, 2] (by decide) rfl
        have hK9 := hK.sub (tys' := [(kW, .long), (kS, .int)]) [0, 1] rfl
        exact W.iret (v := 0) hx hb hr (fun t ht hW => ⟨⟨0, (fw, psr), rfl, hpost, by rw [ht]; exact hP9, va_K.moved hW.alike hK9, hD9⟩, hS.F ht⟩) hS.2.2 d_Paper_flip_27
      · skip
        have c15 : ¬ (x ≤ (-64)) := fun q => c15 ((ti_le g1 (ti_k (by decide))).mpr q)
        refine lv_iload_n hx hb d_Paper_flip_18 rfl (lv_at hl 1 rfl) ?_
        refine lv_aload_n hx hb d_Paper_flip_19 rfl (lv_at hl 0 rfl) ?_
        refine va_get (D := (dC, dI)) (ci := 0) (v := .int pw) (C := R_Paper) (T := T_Paper) (N := 5) hx hb hts i_Paper hown hK hP 0 rfl rfl 0 (by decide) (hts _ wd_37) (fun _ h9 => h9) rfl d_Paper_flip_20 ?_
        refine lv_icmp_lt (tgt := 28) hx hb d_Paper_flip_23 (by decide) (fun c23 => ?_) (fun c23 => ?_)
        · skip
          have c23 : x < Wd := (ti_lt g1 hpw).mp c23
          refine w_cut (I := fun H' locs' g' => ∃ (bv : Int64) (ls : Array Slot), g' = F0 m 40 ls [.long bv] ∧ lv_has ls 10 [(0, .ref hp), (1, .int a1), (2, .int a2), (3, .long a3)] ∧ (∀ i : Nat, lb bv i = lb a3 ((max x 0 - x).toNat + i)) ∧ va_P (dC, dI) vwCl [(hp, .inr (0, [.int pw, .int ph, .ref hw, .ref hs, .int psr])), (hw, .inl (kW, 4096, .inr (.inl fw))), (hs, .inl (kS, 263169, .inl fs))] H' ∧ va_D A [(hp, .inr (0, [.int pw, .int ph, .ref hw, .ref hs, .int psr])), (hw, .inl (kW, 4096, .inr (.inl fw))), (hs, .inl (kS, 263169, .inl fs))] ∧ va_S A s.heap H' locs') ?_ ?_
          · skip
            intro H40 locs g' hI
            obtain ⟨bv, ls, rfl, hl, jb, hP, hD, hS⟩ := hI
            refine lv_lstore (lv' := [(5, .long bv), (0, .ref hp), (1, .int a1), (2, .int a2), (3, .long a3)]) hx hb d_Paper_flip_40 hl (by decide) rfl (fun ls hl => ?_)
            refine lv_iload_n hx hb d_Paper_flip_42 rfl (lv_at hl 2 rfl) ?_
            refine lv_iconst (v := 0) hx hb d_Paper_flip_43 (by decide) ?_
            refine va_mmax hx hb (by rw [hml]; exact hl.1.symm) hown (hts _ wd_147) (hts _ wd_148) (hts _ wd_11) (hts _ wd_149) (Nat.le_of_ble_eq_true rfl) (Nat.le_of_ble_eq_true rfl) (Nat.le_of_ble_eq_true rfl) (Nat.le_of_ble_eq_true rfl) d_Paper_flip_44 ?_
            refine lv_topi (fun v44 e44 => ?_)
            have h44 : v44.toInt = max x 0 := by rw [e44]; exact ti_max g1 (ti_k (by decide))
            obtain ⟨FR, kFR⟩ : ∃ c : Int, c = (max x 0) := ⟨_, rfl⟩
            have h44 : v44.toInt = FR := by rw [h44, kFR]
            refine lv_istore (lv' := [(7, .int v44), (5, .long bv), (0, .ref hp), (1, .int a1), (2, .int a2), (3, .long a3)]) hx hb d_Paper_flip_47 hl (by decide) rfl (fun ls hl => ?_)
            refine w_cut (I := fun H' locs' g' => ∃ (bw : Int64) (ls : Array Slot), g' = F0 m 77 ls [] ∧ lv_has ls 10 [(0, .ref hp), (1, .int a1), (2, .int a2), (3, .long a3), (5, .long bw), (7, .int v44)] ∧ (∀ i : Nat, i < 64 → lb bw i = (decide (FR + (i : Int) < Wd) && lb a3 ((FR - x).toNat + i))) ∧ va_P (dC, dI) vwCl [(hp, .inr (0, [.int pw, .int ph, .ref hw, .ref hs, .int psr])), (hw, .inl (kW, 4096, .inr (.inl fw))), (hs, .inl (kS, 263169, .inl fs))] H' ∧ va_D A [(hp, .inr (0, [.int pw, .int ph, .ref hw, .ref hs, .int psr])), (hw, .inl (kW, 4096, .inr (.inl fw))), (hs, .inl (kS, 263169, .inl fs))] ∧ va_S A s.heap H' locs') ?_ ?_
            · skip
              intro H77 locs g' hI
              obtain ⟨bw, ls, rfl, hl, jw, hP, hD, hS⟩ := hI
              refine lv_lload hx hb d_Paper_flip_77 (lv_at hl 4 rfl) ?_
              refine lv_lconst (v := 0) hx hb d_Paper_flip_79 (by decide) ?_
              refine W.lcmp hx hb d_Paper_flip_80 ?_
              refine lv_topi (fun v80 e80 => ?_)
              refine lv_if_ne (tgt := 86) hx hb d_Paper_flip_81 (by decide) (fun c81 => ?_) (fun c81 => ?_)
              · skip
                refine lv_iload_n hx hb d_Paper_flip_86 rfl (lv_at hl 2 rfl) ?_
                refine lv_bipush (v := 8) hx hb d_Paper_flip_87 (by decide) ?_
                refine lv_imul hx hb d_Paper_flip_89 ?_
                refine lv_topi (fun v89 e89 => ?_)
                have h89 : v89.toInt = y * 8 := by rw [e89]; exact ti_mul g2 (ti_k (by decide)) (by omega) (by omega)
                refine lv_iload hx hb d_Paper_flip_90 (lv_at hl 5 rfl) ?_
                refine lv_bipush (v := 6) hx hb d_Paper_flip_92 (by decide) ?_
                refine lv_ishr hx hb d_Paper_flip_94 ?_
                refine lv_topi (fun v94 e94 => ?_)
                have h94 : v94.toInt = FR / 64 := by rw [e94]; exact ti_shr6 h44
                refine lv_iadd hx hb d_Paper_flip_95 ?_
                refine lv_topi (fun v95 e95 => ?_)
                have h95 : v95.toInt = (y * 8) + (FR / 64) := by rw [e95]; exact ti_add h89 h94 (by omega) (by omega)
                refine lv_istore (lv' := [(8, .int v95), (0, .ref hp), (1, .int a1), (2, .int a2), (3, .long a3), (5, .long bw), (7, .int v44)]) hx hb d_Paper_flip_96 hl (by decide) rfl (fun ls hl => ?_)
                refine lv_iload hx hb d_Paper_flip_98 (lv_at hl 6 rfl) ?_
                refine lv_bipush (v := 63) hx hb d_Paper_flip_100 (by decide) ?_
                refine lv_iand hx hb d_Paper_flip_102 ?_
                refine lv_topi (fun v102 e102 => ?_)
                have h102 : v102.toInt = FR % 64 := by rw [e102]; exact ti_and63 h44 (by omega)
                refine lv_istore (lv' := [(9, .int v102), (8, .int v95), (0, .ref hp), (1, .int a1), (2, .int a2), (3, .long a3), (5, .long bw), (7, .int v44)]) hx hb d_Paper_flip_103 hl (by decide) rfl (fun ls hl => ?_)
                refine lv_aload_n hx hb d_Paper_flip_105 rfl (lv_at hl 2 rfl) ?_
                refine va_get (D := (dC, dI)) (ci := 0) (v := .ref hw) (C := R_Paper) (T := T_Paper) (N := 5) hx hb hts i_Paper hown hK hP 0 rfl rfl 2 (by decide) (hts _ wd_43) (fun _ h9 => h9) rfl d_Paper_flip_106 ?_
                refine lv_iload hx hb d_Paper_flip_109 (lv_at hl 1 rfl) ?_
                refine lv_dup2_11 hx hb d_Paper_flip_111 rfl rfl ?_
                have in112 : vp_in v95 4096 := vi_in h95 (by omega) (by omega)
                refine va_lald hx hb hK hP 1 0 rfl rfl in112 d_Paper_flip_112 ?_
                refine lv_topl (fun v112 e112 => ?_)
                have e112 : v112 = fw (((y * 8) + (FR / 64))).toNat := by rw [e112, vi_cl h95]
                refine lv_lload hx hb d_Paper_flip_113 (lv_at hl 6 rfl) ?_
                refine lv_iload hx hb d_Paper_flip_115 (lv_at hl 0 rfl) ?_
                refine lv_lshl hx hb d_Paper_flip_117 rfl ?_
                refine lv_topl (fun v117 e117 => ?_)
                refine lv_lxor hx hb d_Paper_flip_118 ?_
                refine lv_topl (fun v118 e118 => ?_)
                have in119 : vp_in v95 4096 := vi_in h95 (by omega) (by omega)
                refine va_last hx hb hK hP hD hS 1 0 rfl rfl in119 d_Paper_flip_119 (fun H119 locs hP hD hS => ?_)
                obtain ⟨f119, ef119⟩ : ∃ g, g = vp_updL fw (v95).toNatClampNeg v118 := ⟨_, rfl⟩
                have hP : va_P (dC, dI) vwCl [(hp, .inr (0, [.int pw, .int ph, .ref hw, .ref hs, .int psr])), (hw, .inl (kW, 4096, .inr (.inl f119))), (hs, .inl (kS, 263169, .inl fs))] H119 := by rw [ef119]; exact hP
                have hD : va_D A [(hp, .inr (0, [.int pw, .int ph, .ref hw, .ref hs, .int psr])), (hw, .inl (kW, 4096, .inr (.inl f119))), (hs, .inl (kS, 263169, .inl fs))] := by rw [ef119]; exact hD
                have ef119 : f119 = vp_updL fw (((y * 8) + (FR / 64))).toNat v118 := by rw [ef119, vi_cl h95]
                refine w_cut (I := fun H' locs' g' => ∃ (fx : Nat → Int64) (ls : Array Slot), g' = F0 m 157 ls [] ∧ lv_has ls 10 [(0, .ref hp), (1, .int a1), (2, .int a2), (3, .long a3), (5, .long bw), (7, .int v44), (8, .int v95), (9, .int v102)] ∧ (bOK fx (flD D Wd Ht x y a3 64)) ∧ va_P (dC, dI) vwCl [(hp, .inr (0, [.int pw, .int ph, .ref hw, .ref hs, .int psr])), (hw, .inl (kW, 4096, .inr (.inl fx))), (hs, .inl (kS, 263169, .inl fs))] H' ∧ va_D A [(hp, .inr (0, [.int pw, .int ph, .ref hw, .ref hs, .int psr])), (hw, .inl (kW, 4096, .inr (.inl fx))), (hs, .inl (kS, 263169, .inl fs))] ∧ va_S A s.heap H' locs') ?_ ?_
                · skip
                  intro H157 locs g' hI
                  obtain ⟨fx, ls, rfl, hl, jx, hP, hD, hS⟩ := hI
                  refine lv_aload_n hx hb d_Paper_flip_157 rfl (lv_at hl 0 rfl) ?_
                  refine lv_aload_n hx hb d_Paper_flip_158 rfl (lv_at hl 0 rfl) ?_
                  refine va_get (D := (dC, dI)) (ci := 0) (v := .int psr) (C := R_Paper) (T := T_Paper) (N := 5) hx hb hts i_Paper hown hK hP 0 rfl rfl 4 (by decide) (hts _ wd_45) (fun _ h9 => h9) rfl d_Paper_flip_159 ?_
                  refine lv_iload_n hx hb d_Paper_flip_162 rfl (lv_at hl 2 rfl) ?_
                  refine va_mmin hx hb (by rw [hml]; exact hl.1.symm) hown (hts _ wd_150) (hts _ wd_151) (hts _ wd_11) (hts _ wd_152) (Nat.le_of_ble_eq_true rfl) (Nat.le_of_ble_eq_true rfl) (Nat.le_of_ble_eq_true rfl) (Nat.le_of_ble_eq_true rfl) d_Paper_flip_163 ?_
                  refine lv_topi (fun v163 e163 => ?_)
                  have h163 : v163.toInt = min SR y := by rw [e163]; exact ti_min hsr g2
                  refine va_put (D := (dC, dI)) (ci := 0) (v := .int v163) (ty := .int) (C := R_Paper) (T := T_Paper) (N := 5) hx hb hts i_Paper t_Paper t_Paper_ok n_Paper hown hK hP hD hS 0 rfl rfl 4 (by decide) (hts _ wd_45) (fun _ h9 => h9) rfl (by decide +kernel) rfl rfl (Nat.le_of_ble_eq_true rfl) d_Paper_flip_166 (fun H166 locs hP hD hS => ?_)
                  have hP : va_P (dC, dI) vwCl [(hp, .inr (0, [.int pw, .int ph, .ref hw, .ref hs, .int v163])), (hw, .inl (kW, 4096, .inr (.inl fx))), (hs, .inl (kS, 263169, .inl fs))] H166 := hP
                  have hD : va_D A [(hp, .inr (0, [.int pw, .int ph, .ref hw, .ref hs, .int v163])), (hw, .inl (kW, 4096, .inr (.inl fx))), (hs, .inl (kS, 263169, .inl fs))] := hD
                  refine lv_lload hx hb d_Paper_flip_169 (lv_at hl 4 rfl) ?_
                  have hPc := hP.sub (ws' := []) [] rfl
                  have hKc := hK.sub (tys' := []) [] rfl
                  refine va_calli (va_runS (As := [.long bw]) (rest := []) ⟨hx, hb, hml, hown, hts⟩ (c_bitCount l dC dI bw) (aw_S 1 hts wd_153 wd_154 wd_12 wd_155 rfl rfl (by decide +kernel) ⟨Nat.le_of_ble_eq_true rfl, Nat.le_of_ble_eq_true rfl⟩) ⟨ro_blind, ro_pre hPc hKc⟩ rfl rfl hl.1 rfl (lv_room (Nat.le_of_ble_eq_true rfl)) d_Paper_flip_171 ⟨Nat.le_of_ble_eq_true rfl, Nat.le_of_ble_eq_true rfl⟩) hS (fun q _ h => h.elim) (fun q h => h.elim) (fun v171 _ t9 H171 locs ht hvm h171 hB hz1 hk1 hS => ?_)
                  have hP := ro_keep hP hk1
                  clear hPc hKc ht hvm hB hz1 hk1
                  have hpost : (v171 : Int32).toInt = nb (flF Wd Ht x y a3) 64 ∧ bOK fx (flD D Wd Ht x y a3 64) ∧ 0 ≤ (v163 : Int32).toInt ∧ (v163 : Int32).toInt ≤ SR ∧ sK fs (flD D Wd Ht x y a3 64) Wd (v163 : Int32).toInt := by
                    refine ⟨by rw [h171]; exact fl_count (by omega) (by omega) (by omega) kFR jw, jx, by omega, by omega, ?_⟩
                    rw [h163]; exact sk_turn hsk fl_above
                  have hP9 := hP.sub (ws' := [(hp, .inr (0, [.int pw, .int ph, .ref hw, .ref hs, .int v163])), (hw, .inl (kW, 4096, .inr (.inl fx))), (hs, .inl (kS, 263169, .inl fs))]) [0, 1, 2] rfl
                  have hD9 := hD.sub (ws' := [(hp, .inr (0, [.int pw, .int ph, .ref hw, .ref hs, .int v163])), (hw, .inl (kW, 4096, .inr (.inl fx))), (hs, .inl (kS, 263169, .inl fs))]) [0, 1, 2] (by decide) rfl
                  have hK9 := hK.sub (tys' := [(kW, .long), (kS, .int)]) [0, 1] rfl
                  exact W.iret (v := v171) hx hb hr (fun t ht hW => ⟨⟨v171, (fx, v163), rfl, hpost, by rw [ht]; exact hP9, va_K.moved hW.alike hK9, hD9⟩, hS.F ht⟩) hS.2.2 d_Paper_flip_174
                · skip
                  intro hj157
                  refine lv_iload hx hb d_Paper_flip_120 (lv_at hl 0 rfl) ?_
                  refine lv_if_eq (tgt := 157) hx hb d_Paper_flip_122 (by decide) (fun c122 => ?_) (fun c122 => ?_)
                  · skip
                    have c122 : (FR % 64) = 0 := (ti_eq h102 (ti_k (by decide))).mp c122
                    exact hj157 _ _ _ ⟨f119, ls, rfl, lv_sub hl [2, 3, 4, 5, 6, 7, 1, 0] rfl, fl_w1 hbits (by omega) (by omega) (by omega) (by omega) (fl_same (by omega) (by omega) (by omega) kFR jw) h102 e112 e117 e118 ef119 (by omega), hP, hD, hS⟩
                  · skip
                    have c122 : ¬ ((FR % 64) = 0) := fun q => c122 ((ti_eq h102 (ti_k (by decide))).mpr q)
                    refine lv_iload hx hb d_Paper_flip_125 (lv_at hl 7 rfl) ?_
                    refine lv_bipush (v := 6) hx hb d_Paper_flip_127 (by decide) ?_
                    refine lv_ishr hx hb d_Paper_flip_129 ?_
                    refine lv_topi (fun v129 e129 => ?_)
                    have h129 : v129.toInt = FR / 64 := by rw [e129]; exact ti_shr6 h44
                    refine lv_iconst (v := 1) hx hb d_Paper_flip_130 (by decide) ?_
                    refine lv_iadd hx hb d_Paper_flip_131 ?_
                    refine lv_topi (fun v131 e131 => ?_)
                    have h131 : v131.toInt = (FR / 64) + 1 := by rw [e131]; exact ti_add h129 (ti_k (by decide)) (by omega) (by omega)
                    refine lv_bipush (v := 8) hx hb d_Paper_flip_132 (by decide) ?_
                    refine lv_icmp_ge (tgt := 157) hx hb d_Paper_flip_134 (by decide) (fun c134 => ?_) (fun c134 => ?_)
                    · skip
                      have c134 : (8 : Int) ≤ ((FR / 64) + 1) := (ti_le (ti_k (by decide)) h131).mp c134
                      exact hj157 _ _ _ ⟨f119, ls, rfl, lv_sub hl [2, 3, 4, 5, 6, 7, 1, 0] rfl, fl_w1 hbits (by omega) (by omega) (by omega) (by omega) (fl_same (by omega) (by omega) (by omega) kFR jw) h102 e112 e117 e118 ef119 (by omega), hP, hD, hS⟩
                    · skip
                      have c134 : ¬ ((8 : Int) ≤ ((FR / 64) + 1)) := fun q => c134 ((ti_le (ti_k (by decide)) h131).mpr q)
                      refine lv_aload_n hx hb d_Paper_flip_137 rfl (lv_at hl 2 rfl) ?_
                      refine va_get (D := (dC, dI)) (ci := 0) (v := .ref hw) (C := R_Paper) (T := T_Paper) (N := 5) hx hb hts i_Paper hown hK hP 0 rfl rfl 2 (by decide) (hts _ wd_43) (fun _ h9 => h9) rfl d_Paper_flip_138 ?_
                      refine lv_iload hx hb d_Paper_flip_141 (lv_at hl 1 rfl) ?_
                      refine lv_iconst (v := 1) hx hb d_Paper_flip_143 (by decide) ?_
                      refine lv_iadd hx hb d_Paper_flip_144 ?_
                      refine lv_topi (fun v144 e144 => ?_)
                      have h144 : v144.toInt = ((y * 8) + (FR / 64)) + 1 := by rw [e144]; exact ti_add h95 (ti_k (by decide)) (by omega) (by omega)
                      refine lv_dup2_11 hx hb d_Paper_flip_145 rfl rfl ?_
                      have in146 : vp_in v144 4096 := vi_in h144 (by omega) (by omega)
                      refine va_lald hx hb hK hP 1 0 rfl rfl in146 d_Paper_flip_146 ?_
                      refine lv_topl (fun v146 e146 => ?_)
                      have e146 : v146 = f119 ((((y * 8) + (FR / 64)) + 1)).toNat := by rw [e146, vi_cl h144]
                      refine lv_lload hx hb d_Paper_flip_147 (lv_at hl 6 rfl) ?_
                      refine lv_bipush (v := 64) hx hb d_Paper_flip_149 (by decide) ?_
                      refine lv_iload hx hb d_Paper_flip_151 (lv_at hl 0 rfl) ?_
                      refine lv_isub hx hb d_Paper_flip_153 ?_
                      refine lv_topi (fun v153 e153 => ?_)
                      have h153 : v153.toInt = 64 - (FR % 64) := by rw [e153]; exact ti_sub (ti_k (by decide)) h102 (by omega) (by omega)
                      refine lv_lushr hx hb d_Paper_flip_154 rfl ?_
                      refine lv_topl (fun v154 e154 => ?_)
                      refine lv_lxor hx hb d_Paper_flip_155 ?_
                      refine lv_topl (fun v155 e155 => ?_)
                      have in156 : vp_in v144 4096 := vi_in h144 (by omega) (by omega)
                      refine va_last hx hb hK hP hD hS 1 0 rfl rfl in156 d_Paper_flip_156 (fun H156 locs hP hD hS => ?_)
                      obtain ⟨f156, ef156⟩ : ∃ g, g = vp_updL f119 (v144).toNatClampNeg v155 := ⟨_, rfl⟩
                      have hP : va_P (dC, dI) vwCl [(hp, .inr (0, [.int pw, .int ph, .ref hw, .ref hs, .int psr])), (hw, .inl (kW, 4096, .inr (.inl f156))), (hs, .inl (kS, 263169, .inl fs))] H156 := by rw [ef156]; exact hP
                      have hD : va_D A [(hp, .inr (0, [.int pw, .int ph, .ref hw, .ref hs, .int psr])), (hw, .inl (kW, 4096, .inr (.inl f156))), (hs, .inl (kS, 263169, .inl fs))] := by rw [ef156]; exact hD
                      have ef156 : f156 = vp_updL f119 ((((y * 8) + (FR / 64)) + 1)).toNat v155 := by rw [ef156, vi_cl h144]
                      exact hj157 _ _ _ ⟨f156, ls, rfl, lv_sub hl [2, 3, 4, 5, 6, 7, 1, 0] rfl, fl_w2 hbits (by omega) (by omega) (by omega) (by omega) (fl_same (by omega) (by omega) (by omega) kFR jw) h102 e112 e117 e118 ef119 (by omega) (by omega) h153 e146 e154 e155 ef156, hP, hD, hS⟩
              · skip
                refine lv_iconst (v := 0) hx hb d_Paper_flip_84 (by decide) ?_
                have hpost : (0 : Int32).toInt = nb (flF Wd Ht x y a3) 64 ∧ bOK fw (flD D Wd Ht x y a3 64) ∧ 0 ≤ (psr : Int32).toInt ∧ (psr : Int32).toInt ≤ SR ∧ sK fs (flD D Wd Ht x y a3 64) Wd (psr : Int32).toInt := by
                  have z := fl_zero (D := D) (W := Wd) (H := Ht) (x := x) (y := y) (by omega) (by omega) (by omega) kFR jw (lg_z.mp (e80 ▸ c81))
                  rw [z.1, z.2]
                  exact ⟨rfl, hbits, by omega, by omega, by rw [hsr]; exact hsk⟩
                have hP9 := hP.sub (ws' := [(hp, .inr (0, [.int pw, .int ph, .ref hw, .ref hs, .int psr])), (hw, .inl (kW, 4096, .inr (.inl fw))), (hs, .inl (kS, 263169, .inl fs))]) [0, 1, 2] rfl
                have hD9 := hD.sub (ws' := [(hp, .inr (0, [.int pw, .int ph, .ref hw, .ref hs, .int psr])), (hw, .inl (kW, 4096, .inr (.inl fw))), (hs, .inl (kS, 263169, .inl fs))]) [0, 1, 2] (by decide) rfl
                have hK9 := hK.sub (tys' := [(kW, .long), (kS, .int)]) [0, 1] rfl
                exact W.iret (v := 0) hx hb hr (fun t ht hW => ⟨⟨0, (fw, psr), rfl, hpost, by rw [ht]; exact hP9, va_K.moved hW.alike hK9, hD9⟩, hS.F ht⟩) hS.2.2 d_Paper_flip_85
            · skip
              intro hj77
              refine lv_aload_n hx hb d_Paper_flip_49 rfl (lv_at hl 2 rfl) ?_
              refine va_get (D := (dC, dI)) (ci := 0) (v := .int pw) (C := R_Paper) (T := T_Paper) (N := 5) hx hb hts i_Paper hown hK hP 0 rfl rfl 0 (by decide) (hts _ wd_37) (fun _ h9 => h9) rfl d_Paper_flip_50 ?_
              refine lv_iload hx hb d_Paper_flip_53 (lv_at hl 0 rfl) ?_
              refine lv_isub hx hb d_Paper_flip_55 ?_
              refine lv_topi (fun v55 e55 => ?_)
              have h55 : v55.toInt = Wd - FR := by rw [e55]; exact ti_sub hpw h44 (by omega) (by omega)
              refine lv_bipush (v := 64) hx hb d_Paper_flip_56 (by decide) ?_
              refine lv_icmp_ge (tgt := 77) hx hb d_Paper_flip_58 (by decide) (fun c58 => ?_) (fun c58 => ?_)
              · skip
                have c58 : (64 : Int) ≤ (Wd - FR) := (ti_le (ti_k (by decide)) h55).mp c58
                exact hj77 _ _ _ ⟨bv, ls, rfl, lv_sub hl [2, 3, 4, 5, 1, 0] rfl, fun i hi => by rw [jb, ← kFR, decide_eq_true (by omega), Bool.true_and], hP, hD, hS⟩
              · skip
                have c58 : ¬ ((64 : Int) ≤ (Wd - FR)) := fun q => c58 ((ti_le (ti_k (by decide)) h55).mpr q)
                refine lv_lload hx hb d_Paper_flip_61 (lv_at hl 1 rfl) ?_
                refine lv_lconst (v := 1) hx hb d_Paper_flip_63 (by decide) ?_
                refine lv_aload_n hx hb d_Paper_flip_64 rfl (lv_at hl 2 rfl) ?_
                refine va_get (D := (dC, dI)) (ci := 0) (v := .int pw) (C := R_Paper) (T := T_Paper) (N := 5) hx hb hts i_Paper hown hK hP 0 rfl rfl 0 (by decide) (hts _ wd_37) (fun _ h9 => h9) rfl d_Paper_flip_65 ?_
                refine lv_iload hx hb d_Paper_flip_68 (lv_at hl 0 rfl) ?_
                refine lv_isub hx hb d_Paper_flip_70 ?_
                refine lv_topi (fun v70 e70 => ?_)
                have h70 : v70.toInt = Wd - FR := by rw [e70]; exact ti_sub hpw h44 (by omega) (by omega)
                refine lv_lshl hx hb d_Paper_flip_71 rfl ?_
                refine lv_topl (fun v71 e71 => ?_)
                refine lv_lconst (v := 1) hx hb d_Paper_flip_72 (by decide) ?_
                refine lv_lsub hx hb d_Paper_flip_73 ?_
                refine lv_topl (fun v73 e73 => ?_)
                refine lv_land hx hb d_Paper_flip_74 ?_
                refine lv_topl (fun v74 e74 => ?_)
                refine lv_lstore (lv' := [(5, .long v74), (7, .int v44), (0, .ref hp), (1, .int a1), (2, .int a2), (3, .long a3)]) hx hb d_Paper_flip_75 hl (by decide) rfl (fun ls hl => ?_)
                exact hj77 _ _ _ ⟨v74, ls, rfl, lv_sub hl [2, 3, 4, 5, 0, 1] rfl, fun i hi => by rw [e74, lb_and, e73, e71, lo_some h70 (by omega) (by omega) hi, jb, ← kFR, Bool.and_comm]; congr 1; apply decide_eq_decide.mpr; omega, hP, hD, hS⟩
          · skip
            intro hj40
            refine lv_iload_n hx hb d_Paper_flip_28 rfl (lv_at hl 1 rfl) ?_
            refine lv_if_ge (tgt := 39) hx hb d_Paper_flip_29 (by decide) (fun c29 => ?_) (fun c29 => ?_)
            · skip
              have c29 : (0 : Int) ≤ x := (ti_le (ti_k (by decide)) g1).mp c29
              refine lv_lload_n hx hb d_Paper_flip_39 rfl (lv_at hl 3 rfl) ?_
              exact hj40 _ _ _ ⟨a3, ls, rfl, lv_sub hl [0, 1, 2, 3] rfl, fun i => by congr 1; omega, hP, hD, hS⟩
            · skip
              have c29 : ¬ ((0 : Int) ≤ x) := fun q => c29 ((ti_le (ti_k (by decide)) g1).mpr q)
              refine lv_lload_n hx hb d_Paper_flip_32 rfl (lv_at hl 3 rfl) ?_
              refine lv_iload_n hx hb d_Paper_flip_33 rfl (lv_at hl 1 rfl) ?_
              refine lv_ineg hx hb d_Paper_flip_34 ?_
              refine lv_topi (fun v34 e34 => ?_)
              have h34 : v34.toInt = -x := by rw [e34]; exact ti_neg g1 (by omega) (by omega)
              refine lv_lushr hx hb d_Paper_flip_35 rfl ?_
              refine lv_topl (fun v35 e35 => ?_)
              refine lv_goto (tgt := 40) hx hb d_Paper_flip_36 (by decide) ?_
              exact hj40 _ _ _ ⟨v35, ls, rfl, lv_sub hl [0, 1, 2, 3] rfl, fun i => by rw [e35, lb_ushr h34 (by omega) (by omega)]; congr 1; omega, hP, hD, hS⟩
        · skip
          have c23 : ¬ (x < Wd) := fun q => c23 ((ti_lt g1 hpw).mpr q)
          refine lv_iconst (v := 0) hx hb d_Paper_flip_26 (by decide) ?_
          have hpost : (0 : Int32).toInt = nb (flF Wd Ht x y a3) 64 ∧ bOK fw (flD D Wd Ht x y a3 64) ∧ 0 ≤ (psr : Int32).toInt ∧ (psr : Int32).toInt ≤ SR ∧ sK fs (flD D Wd Ht x y a3 64) Wd (psr : Int32).toInt := by
            have z := fl_none (D := D) (W := Wd) (H := Ht) (x := x) (y := y) (mask := a3) (by omega)
            rw [z.1, z.2]
            exact ⟨rfl, hbits, by omega, by omega, by rw [hsr]; exact hsk⟩
          have hP9 := hP.sub (ws' := [(hp, .inr (0, [.int pw, .int ph, .ref hw, .ref hs, .int psr])), (hw, .inl (kW, 4096, .inr (.inl fw))), (hs, .inl (kS, 263169, .inl fs))]) [0, 1, 2] rfl
          have hD9 := hD.sub (ws' := [(hp, .inr (0, [.int pw, .int ph, .ref hw, .ref hs, .int psr])), (hw, .inl (kW, 4096, .inr (.inl fw))), (hs, .inl (kS, 263169, .inl fs))]) [0, 1, 2] (by decide) rfl
          have hK9 := hK.sub (tys' := [(kW, .long), (kS, .int)]) [0, 1] rfl
          exact W.iret (v := 0) hx hb hr (fun t ht hW => ⟨⟨0, (fw, psr), rfl, hpost, by rw [ht]; exact hP9, va_K.moved hW.alike hK9, hD9⟩, hS.F ht⟩) hS.2.2 d_Paper_flip_27
