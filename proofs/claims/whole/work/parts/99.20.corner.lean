set_option maxHeartbeats 4000000 in
set_option maxRecDepth 100000 in
theorem c_cornerWrong (l : Launch) (dC : Nat → ClassId) (dI : Nat → Nat → Nat) (sz : Nat) (hq hp hw hs hst hqf hkn : Nat) (kS : ClassId) (pw ph psr lim thd md sz0 tm tx ty sx sy stp : Int32) (fs : Nat → Int32) (Wd Ht M S : Int) (D : Int → Int → Bool) (hpw : pw.toInt = Wd) (hph : ph.toInt = Ht) (hmd : md.toInt = M) (hsz0 : sz0.toInt = S) (hW1 : 1 ≤ Wd) (hW2 : Wd ≤ 512) (hH1 : 1 ≤ Ht) (hH2 : Ht ≤ 512) (hM1 : 1 ≤ M) (hM2 : M ≤ 16) (hsum : ∀ x y, 0 ≤ x → x ≤ Wd → 0 ≤ y → y ≤ Ht → (fs (y * 513 + x).toNat).toInt = cI D 0 0 x y) (cN : ClassId) (kn : Nat → Int64) (ST : Int) (hst0 : stp.toInt = ST) (hst1 : 0 ≤ ST) (hst2 : ST < 8388608) (hkn0 : KN D M ST kn) (a1 a2 a3 : Int32) (k x y : Int) (g1 : a1.toInt = k) (g2 : a2.toInt = x) (g3 : a3.toInt = y) (hk0 : 0 ≤ k) (hk3 : k ≤ 3) (hx0 : 0 ≤ x) (hx3 : x + 7 * M ≤ Wd) (hy0 : 0 ≤ y) (hy3 : y + 7 * M ≤ Ht) : Met l y_Search_cornerWrong (.code y_Search_cornerWrong b_Search_cornerWrong 11 (some .int) :: allw) ({ frames := 1, cells := 0, slots := 0, locals := 26 }) (va_Pc [.ref hq, .int a1, .int a2, .int a3] (rw_B (dC, dI) vwCl [(hq, .inr (3, [.ref hp, .ref hst, .int lim, .int thd, .int md, .int sz0, .int tm, .int tx, .int ty, .int sx, .int sy, .ref hqf, .ref hkn, .int stp])), (hp, .inr (0, [.int pw, .int ph, .ref hw, .ref hs, .int psr])), (hs, .inl (kS, 263169, .inl fs)), (hkn, .inl (cN, 262144, .inr (.inl kn)))] [(kS, .int), (cN, .long)] sz)) (va_Qi (fun (r : Int32) (u : Nat → Int64) => r.toInt = cwR D Wd Ht M k x y ∧ KN D M ST u) (fun u t => rw_E (dC, dI) vwCl [(hq, .inr (3, [.ref hp, .ref hst, .int lim, .int thd, .int md, .int sz0, .int tm, .int tx, .int ty, .int sx, .int sy, .ref hqf, .ref hkn, .int stp])), (hp, .inr (0, [.int pw, .int ph, .ref hw, .ref hs, .int psr])), (hs, .inl (kS, 263169, .inl fs)), (hkn, .inl (cN, 262144, .inr (.inl u)))] [(kS, .int), (cN, .long)] (va_A [(hq, .inr (3, [.ref hp, .ref hst, .int lim, .int thd, .int md, .int sz0, .int tm, .int tx, .int ty, .int sx, .int sy, .ref hqf, .ref hkn, .int stp])), (hp, .inr (0, [.int pw, .int ph, .ref hw, .ref hs, .int psr])), (hs, .inl (kS, 263169, .inl fs)), (hkn, .inl (cN, 262144, .inr (.inl kn)))] sz) t) (va_A [(hq, .inr (3, [.ref hp, .ref hst, .int lim, .int thd, .int md, .int sz0, .int tm, .int tx, .int ty, .int sx, .int sy, .ref hqf, .ref hkn, .int stp])), (hp, .inr (0, [.int pw, .int ph, .ref hw, .ref hs, .int psr])), (hs, .inl (kS, 263169, .inl fs)), (hkn, .inl (cN, 262144, .inr (.inl kn)))] sz)) 0 0 (va_A [(hq, .inr (3, [.ref hp, .ref hst, .int lim, .int thd, .int md, .int sz0, .int tm, .int tx, .int ty, .int sx, .int sy, .ref hqf, .ref hkn, .int stp])), (hp, .inr (0, [.int pw, .int ph, .ref hw, .ref hs, .int psr])), (hs, .inl (kS, 263169, .inl fs)), (hkn, .inl (cN, 262144, .inr (.inl kn)))] sz) := by
  refine Met.ofW (cc := b_Search_cornerWrong) (maxL := 11) (ret := (some .int)) (by decide) rfl ?_
  intro p e s m args below meth c s₁ B hml hv
  obtain ⟨rfl, hsz, hP, hK, hD0⟩ := hv
  have hx := B.exec
  have hb := B.bytes
  have hr := B.returns
  have hts : ∀ w ∈ allw, w.before _ s = true := fun w h => atoms_spec (ws := .code y_Search_cornerWrong b_Search_cornerWrong 11 (some .int) :: allw) B.pre w (List.mem_cons_of_mem _ h)
  have hown : s.vm.findClass R_Search = some m.cls := findClass_of_methodNamed B.named
  have hlocks := B.notSynchronized
  subst hsz
  have hD := hD0.self (sz := s.heap.size)
  generalize hAe : va_A [(hq, .inr (3, [.ref hp, .ref hst, .int lim, .int thd, .int md, .int sz0, .int tm, .int tx, .int ty, .int sx, .int sy, .ref hqf, .ref hkn, .int stp])), (hp, .inr (0, [.int pw, .int ph, .ref hw, .ref hs, .int psr])), (hs, .inl (kS, 263169, .inl fs)), (hkn, .inl (cN, 262144, .inr (.inl kn)))] s.heap.size = A at hD ⊢
  have hA : ∀ q : Nat, s.heap.size ≤ q → A q := fun q h => by rw [← hAe]; exact Or.inr h
  have hS : va_S A s.heap s.heap [] := va_S.rf
  have hP : va_P (dC, dI) vwCl [(hq, .inr (3, [.ref hp, .ref hst, .int lim, .int thd, .int md, .int sz0, .int tm, .int tx, .int ty, .int sx, .int sy, .ref hqf, .ref hkn, .int stp])), (hp, .inr (0, [.int pw, .int ph, .ref hw, .ref hs, .int psr])), (hs, .inl (kS, 263169, .inl fs)), (hkn, .inl (cN, 262144, .inr (.inl kn)))] s.heap := hP
  have hl := lv_entry ([.ref hq, .int a1, .int a2, .int a3]) (n := 11) (Nat.le_of_ble_eq_true rfl)
  rw [lg_entry_eq]
  generalize (lg_sl ([.ref hq, .int a1, .int a2, .int a3]) ++ List.replicate (11 - (lg_sl ([.ref hq, .int a1, .int a2, .int a3])).length) Slot.unset).toArray = ls at hl ⊢
  have hl : lv_has ls 11 [(0, .ref hq), (1, .int a1), (2, .int a2), (3, .int a3)] := hl
  have m2 := mul_b (a := M) (b := M) (n := 16) (by omega) (by omega) (by omega) (by omega)
  have m1 := Int.mul_le_mul (show 1 ≤ M by omega) (show 1 ≤ M by omega) (by omega) (by omega)
  have e33 : 33 * M * M = 33 * (M * M) := Int.mul_assoc _ _ _
  refine lv_aload_n hx hb d_Search_cornerWrong_0 rfl (lv_at hl 0 rfl) ?_
  refine va_get (D := (dC, dI)) (ci := 3) (v := .int md) (C := R_Search) (T := T_Search) (N := 14) hx hb hts i_Search hown hK hP 0 rfl rfl 4 (by decide) (hts _ wd_85) (fun _ h9 => h9) rfl d_Search_cornerWrong_1 ?_
  refine lv_istore (lv' := [(4, .int md), (0, .ref hq), (1, .int a1), (2, .int a2), (3, .int a3)]) hx hb d_Search_cornerWrong_4 hl (by decide) rfl (fun ls hl => ?_)
  refine w_cut (I := fun H' locs' g' => ∃ (lf : Int32) (zlf : Int) (ls : Array Slot), g' = F0 m 21 ls [.int lf] ∧ lv_has ls 11 [(0, .ref hq), (1, .int a1), (2, .int a2), (3, .int a3), (4, .int md)] ∧ lf.toInt = zlf ∧ (zlf = if k = 1 ∨ k = 2 then x - M else x) ∧ va_P (dC, dI) vwCl [(hq, .inr (3, [.ref hp, .ref hst, .int lim, .int thd, .int md, .int sz0, .int tm, .int tx, .int ty, .int sx, .int sy, .ref hqf, .ref hkn, .int stp])), (hp, .inr (0, [.int pw, .int ph, .ref hw, .ref hs, .int psr])), (hs, .inl (kS, 263169, .inl fs)), (hkn, .inl (cN, 262144, .inr (.inl kn)))] H' ∧ va_D A [(hq, .inr (3, [.ref hp, .ref hst, .int lim, .int thd, .int md, .int sz0, .int tm, .int tx, .int ty, .int sx, .int sy, .ref hqf, .ref hkn, .int stp])), (hp, .inr (0, [.int pw, .int ph, .ref hw, .ref hs, .int psr])), (hs, .inl (kS, 263169, .inl fs)), (hkn, .inl (cN, 262144, .inr (.inl kn)))] ∧ va_S A s.heap H' locs') ?_ ?_
  · skip
    intro H21 locs g' hI
    obtain ⟨lf, zlf, ls, rfl, hl, hlf, ilf, hP, hD, hS⟩ := hI
    refine lv_istore (lv' := [(5, .int lf), (0, .ref hq), (1, .int a1), (2, .int a2), (3, .int a3), (4, .int md)]) hx hb d_Search_cornerWrong_21 hl (by decide) rfl (fun ls hl => ?_)
    refine w_cut (I := fun H' locs' g' => ∃ (tp : Int32) (ztp : Int) (ls : Array Slot), g' = F0 m 38 ls [.int tp] ∧ lv_has ls 11 [(0, .ref hq), (1, .int a1), (2, .int a2), (3, .int a3), (4, .int md), (5, .int lf)] ∧ tp.toInt = ztp ∧ (ztp = if 2 ≤ k then y - M else y) ∧ va_P (dC, dI) vwCl [(hq, .inr (3, [.ref hp, .ref hst, .int lim, .int thd, .int md, .int sz0, .int tm, .int tx, .int ty, .int sx, .int sy, .ref hqf, .ref hkn, .int stp])), (hp, .inr (0, [.int pw, .int ph, .ref hw, .ref hs, .int psr])), (hs, .inl (kS, 263169, .inl fs)), (hkn, .inl (cN, 262144, .inr (.inl kn)))] H' ∧ va_D A [(hq, .inr (3, [.ref hp, .ref hst, .int lim, .int thd, .int md, .int sz0, .int tm, .int tx, .int ty, .int sx, .int sy, .ref hqf, .ref hkn, .int stp])), (hp, .inr (0, [.int pw, .int ph, .ref hw, .ref hs, .int psr])), (hs, .inl (kS, 263169, .inl fs)), (hkn, .inl (cN, 262144, .inr (.inl kn)))] ∧ va_S A s.heap H' locs') ?_ ?_
    · skip
      intro H38 locs g' hI
      obtain ⟨tp, ztp, ls, rfl, hl, htp, itp, hP, hD, hS⟩ := hI
      refine lv_istore (lv' := [(6, .int tp), (0, .ref hq), (1, .int a1), (2, .int a2), (3, .int a3), (4, .int md), (5, .int lf)]) hx hb d_Search_cornerWrong_38 hl (by decide) rfl (fun ls hl => ?_)
      have jlf : (zlf = x - M ∨ zlf = x) ∧ zlf ≤ x := by rw [ilf]; split <;> omega
      have jtp : (ztp = y - M ∨ ztp = y) ∧ ztp ≤ y := by rw [itp]; split <;> omega
      refine lv_iload hx hb d_Search_cornerWrong_40 (lv_at hl 6 rfl) ?_
      refine lv_if_lt (tgt := 86) hx hb d_Search_cornerWrong_42 (by decide) (fun c42 => ?_) (fun c42 => ?_)
      · skip
        have c42 : zlf < 0 := (ti_lt hlf (ti_k (by decide))).mp c42
        refine lv_sipush (v := 501) hx hb d_Search_cornerWrong_86 (by decide) ?_
        have hpost : (501 : Int32).toInt = cwR D Wd Ht M k x y ∧ KN D M ST kn := by
          refine ⟨?_, hkn0⟩
          unfold cwR; rw [← ilf, ← itp, if_pos (by omega)]; rfl
        have hP9 := hP.sub (ws' := [(hq, .inr (3, [.ref hp, .ref hst, .int lim, .int thd, .int md, .int sz0, .int tm, .int tx, .int ty, .int sx, .int sy, .ref hqf, .ref hkn, .int stp])), (hp, .inr (0, [.int pw, .int ph, .ref hw, .ref hs, .int psr])), (hs, .inl (kS, 263169, .inl fs)), (hkn, .inl (cN, 262144, .inr (.inl kn)))]) [0, 1, 2, 3] rfl
        have hD9 := hD.sub (ws' := [(hq, .inr (3, [.ref hp, .ref hst, .int lim, .int thd, .int md, .int sz0, .int tm, .int tx, .int ty, .int sx, .int sy, .ref hqf, .ref hkn, .int stp])), (hp, .inr (0, [.int pw, .int ph, .ref hw, .ref hs, .int psr])), (hs, .inl (kS, 263169, .inl fs)), (hkn, .inl (cN, 262144, .inr (.inl kn)))]) [0, 1, 2, 3] (by decide) rfl
        have hK9 := hK.sub (tys' := [(kS, .int), (cN, .long)]) [0, 1] rfl
        exact W.iret (v := 501) hx hb hr (fun t ht hW => ⟨⟨501, kn, rfl, hpost, by rw [ht]; exact hP9, va_K.moved hW.alike hK9, hD9⟩, hS.F ht⟩) hS.2.2 d_Search_cornerWrong_89
      · skip
        have c42 : ¬ (zlf < 0) := fun q => c42 ((ti_lt hlf (ti_k (by decide))).mpr q)
        refine lv_iload hx hb d_Search_cornerWrong_45 (lv_at hl 0 rfl) ?_
        refine lv_if_lt (tgt := 86) hx hb d_Search_cornerWrong_47 (by decide) (fun c47 => ?_) (fun c47 => ?_)
        · skip
          have c47 : ztp < 0 := (ti_lt htp (ti_k (by decide))).mp c47
          refine lv_sipush (v := 501) hx hb d_Search_cornerWrong_86 (by decide) ?_
          have hpost : (501 : Int32).toInt = cwR D Wd Ht M k x y ∧ KN D M ST kn := by
            refine ⟨?_, hkn0⟩
            unfold cwR; rw [← ilf, ← itp, if_pos (by omega)]; rfl
          have hP9 := hP.sub (ws' := [(hq, .inr (3, [.ref hp, .ref hst, .int lim, .int thd, .int md, .int sz0, .int tm, .int tx, .int ty, .int sx, .int sy, .ref hqf, .ref hkn, .int stp])), (hp, .inr (0, [.int pw, .int ph, .ref hw, .ref hs, .int psr])), (hs, .inl (kS, 263169, .inl fs)), (hkn, .inl (cN, 262144, .inr (.inl kn)))]) [0, 1, 2, 3] rfl
          have hD9 := hD.sub (ws' := [(hq, .inr (3, [.ref hp, .ref hst, .int lim, .int thd, .int md, .int sz0, .int tm, .int tx, .int ty, .int sx, .int sy, .ref hqf, .ref hkn, .int stp])), (hp, .inr (0, [.int pw, .int ph, .ref hw, .ref hs, .int psr])), (hs, .inl (kS, 263169, .inl fs)), (hkn, .inl (cN, 262144, .inr (.inl kn)))]) [0, 1, 2, 3] (by decide) rfl
          have hK9 := hK.sub (tys' := [(kS, .int), (cN, .long)]) [0, 1] rfl
          exact W.iret (v := 501) hx hb hr (fun t ht hW => ⟨⟨501, kn, rfl, hpost, by rw [ht]; exact hP9, va_K.moved hW.alike hK9, hD9⟩, hS.F ht⟩) hS.2.2 d_Search_cornerWrong_89
        · skip
          have c47 : ¬ (ztp < 0) := fun q => c47 ((ti_lt htp (ti_k (by decide))).mpr q)
          refine lv_iload hx hb d_Search_cornerWrong_50 (lv_at hl 6 rfl) ?_
          refine lv_aload_n hx hb d_Search_cornerWrong_52 rfl (lv_at hl 1 rfl) ?_
          refine va_get (D := (dC, dI)) (ci := 3) (v := .ref hp) (C := R_Search) (T := T_Search) (N := 14) hx hb hts i_Search hown hK hP 0 rfl rfl 0 (by decide) (hts _ wd_79) (fun _ h9 => h9) rfl d_Search_cornerWrong_53 ?_
          refine va_get (D := (dC, dI)) (ci := 0) (v := .int pw) (C := R_Paper) (T := T_Paper) (N := 5) hx hb hts i_Paper hown hK hP 1 rfl rfl 0 (by decide) (hts _ wd_38) (fun _ h9 => h9) rfl d_Search_cornerWrong_56 ?_
          refine lv_bipush (v := 8) hx hb d_Search_cornerWrong_59 (by decide) ?_
          refine lv_iload hx hb d_Search_cornerWrong_61 (lv_at hl 5 rfl) ?_
          refine lv_imul hx hb d_Search_cornerWrong_63 ?_
          refine lv_topi (fun v63 e63 => ?_)
          have h63 : v63.toInt = 8 * M := by rw [e63]; exact ti_mul (ti_k (by decide)) hmd (by omega) (by omega)
          refine lv_isub hx hb d_Search_cornerWrong_64 ?_
          refine lv_topi (fun v64 e64 => ?_)
          have h64 : v64.toInt = Wd - (8 * M) := by rw [e64]; exact ti_sub hpw h63 (by omega) (by omega)
          refine lv_icmp_gt (tgt := 86) hx hb d_Search_cornerWrong_65 (by decide) (fun c65 => ?_) (fun c65 => ?_)
          · skip
            have c65 : (Wd - (8 * M)) < zlf := (ti_lt h64 hlf).mp c65
            refine lv_sipush (v := 501) hx hb d_Search_cornerWrong_86 (by decide) ?_
            have hpost : (501 : Int32).toInt = cwR D Wd Ht M k x y ∧ KN D M ST kn := by
              refine ⟨?_, hkn0⟩
              unfold cwR; rw [← ilf, ← itp, if_pos (by omega)]; rfl
            have hP9 := hP.sub (ws' := [(hq, .inr (3, [.ref hp, .ref hst, .int lim, .int thd, .int md, .int sz0, .int tm, .int tx, .int ty, .int sx, .int sy, .ref hqf, .ref hkn, .int stp])), (hp, .inr (0, [.int pw, .int ph, .ref hw, .ref hs, .int psr])), (hs, .inl (kS, 263169, .inl fs)), (hkn, .inl (cN, 262144, .inr (.inl kn)))]) [0, 1, 2, 3] rfl
            have hD9 := hD.sub (ws' := [(hq, .inr (3, [.ref hp, .ref hst, .int lim, .int thd, .int md, .int sz0, .int tm, .int tx, .int ty, .int sx, .int sy, .ref hqf, .ref hkn, .int stp])), (hp, .inr (0, [.int pw, .int ph, .ref hw, .ref hs, .int psr])), (hs, .inl (kS, 263169, .inl fs)), (hkn, .inl (cN, 262144, .inr (.inl kn)))]) [0, 1, 2, 3] (by decide) rfl
            have hK9 := hK.sub (tys' := [(kS, .int), (cN, .long)]) [0, 1] rfl
            exact W.iret (v := 501) hx hb hr (fun t ht hW => ⟨⟨501, kn, rfl, hpost, by rw [ht]; exact hP9, va_K.moved hW.alike hK9, hD9⟩, hS.F ht⟩) hS.2.2 d_Search_cornerWrong_89
          · skip
            have c65 : ¬ ((Wd - (8 * M)) < zlf) := fun q => c65 ((ti_lt h64 hlf).mpr q)
            refine lv_iload hx hb d_Search_cornerWrong_68 (lv_at hl 0 rfl) ?_
            refine lv_aload_n hx hb d_Search_cornerWrong_70 rfl (lv_at hl 1 rfl) ?_
            refine va_get (D := (dC, dI)) (ci := 3) (v := .ref hp) (C := R_Search) (T := T_Search) (N := 14) hx hb hts i_Search hown hK hP 0 rfl rfl 0 (by decide) (hts _ wd_79) (fun _ h9 => h9) rfl d_Search_cornerWrong_71 ?_
            refine va_get (D := (dC, dI)) (ci := 0) (v := .int ph) (C := R_Paper) (T := T_Paper) (N := 5) hx hb hts i_Paper hown hK hP 1 rfl rfl 1 (by decide) (hts _ wd_41) (fun _ h9 => h9) rfl d_Search_cornerWrong_74 ?_
            refine lv_bipush (v := 8) hx hb d_Search_cornerWrong_77 (by decide) ?_
            refine lv_iload hx hb d_Search_cornerWrong_79 (lv_at hl 5 rfl) ?_
            refine lv_imul hx hb d_Search_cornerWrong_81 ?_
            refine lv_topi (fun v81 e81 => ?_)
            have h81 : v81.toInt = 8 * M := by rw [e81]; exact ti_mul (ti_k (by decide)) hmd (by omega) (by omega)
            refine lv_isub hx hb d_Search_cornerWrong_82 ?_
            refine lv_topi (fun v82 e82 => ?_)
            have h82 : v82.toInt = Ht - (8 * M) := by rw [e82]; exact ti_sub hph h81 (by omega) (by omega)
            refine lv_icmp_le (tgt := 90) hx hb d_Search_cornerWrong_83 (by decide) (fun c83 => ?_) (fun c83 => ?_)
            · skip
              have c83 : ztp ≤ (Ht - (8 * M)) := (ti_le htp h82).mp c83
              refine lv_iload_n hx hb d_Search_cornerWrong_90 rfl (lv_at hl 4 rfl) ?_
              refine lv_sipush (v := 512) hx hb d_Search_cornerWrong_91 (by decide) ?_
              refine lv_imul hx hb d_Search_cornerWrong_94 ?_
              refine lv_topi (fun v94 e94 => ?_)
              have h94 : v94.toInt = y * 512 := by rw [e94]; exact ti_mul g3 (ti_k (by decide)) (by omega) (by omega)
              refine lv_iload_n hx hb d_Search_cornerWrong_95 rfl (lv_at hl 3 rfl) ?_
              refine lv_iadd hx hb d_Search_cornerWrong_96 ?_
              refine lv_topi (fun v96 e96 => ?_)
              have h96 : v96.toInt = (y * 512) + x := by rw [e96]; exact ti_add h94 g2 (by omega) (by omega)
              refine lv_istore (lv' := [(7, .int v96), (6, .int tp), (0, .ref hq), (1, .int a1), (2, .int a2), (3, .int a3), (4, .int md), (5, .int lf)]) hx hb d_Search_cornerWrong_97 hl (by decide) rfl (fun ls hl => ?_)
              refine lv_bipush (v := 10) hx hb d_Search_cornerWrong_99 (by decide) ?_
              refine lv_iload_n hx hb d_Search_cornerWrong_101 rfl (lv_at hl 3 rfl) ?_
              refine lv_imul hx hb d_Search_cornerWrong_102 ?_
              refine lv_topi (fun v102 e102 => ?_)
              have h102 : v102.toInt = 10 * k := by rw [e102]; exact ti_mul (ti_k (by decide)) g1 (by omega) (by omega)
              refine lv_istore (lv' := [(8, .int v102), (7, .int v96), (6, .int tp), (0, .ref hq), (1, .int a1), (2, .int a2), (3, .int a3), (4, .int md), (5, .int lf)]) hx hb d_Search_cornerWrong_103 hl (by decide) rfl (fun ls hl => ?_)
              refine w_cut (I := fun H' locs' g' => ∃ (kc : Nat → Int64) (ls : Array Slot), g' = F0 m 139 ls [] ∧ lv_has ls 11 [(0, .ref hq), (1, .int a1), (2, .int a2), (3, .int a3), (4, .int md), (5, .int lf), (6, .int tp), (7, .int v96), (8, .int v102)] ∧ (KN D M ST kc) ∧ (((lnN (kc (y * 512 + x).toNat) / 1099511627776 : Nat) : Int) = ST) ∧ va_P (dC, dI) vwCl [(hq, .inr (3, [.ref hp, .ref hst, .int lim, .int thd, .int md, .int sz0, .int tm, .int tx, .int ty, .int sx, .int sy, .ref hqf, .ref hkn, .int stp])), (hp, .inr (0, [.int pw, .int ph, .ref hw, .ref hs, .int psr])), (hs, .inl (kS, 263169, .inl fs)), (hkn, .inl (cN, 262144, .inr (.inl kc)))] H' ∧ va_D A [(hq, .inr (3, [.ref hp, .ref hst, .int lim, .int thd, .int md, .int sz0, .int tm, .int tx, .int ty, .int sx, .int sy, .ref hqf, .ref hkn, .int stp])), (hp, .inr (0, [.int pw, .int ph, .ref hw, .ref hs, .int psr])), (hs, .inl (kS, 263169, .inl fs)), (hkn, .inl (cN, 262144, .inr (.inl kc)))] ∧ va_S A s.heap H' locs') ?_ ?_
              · skip
                intro H139 locs g' hI
                obtain ⟨kc, ls, rfl, hl, jkn, jtop, hP, hD, hS⟩ := hI
                refine lv_aload_n hx hb d_Search_cornerWrong_139 rfl (lv_at hl 0 rfl) ?_
                refine va_get (D := (dC, dI)) (ci := 3) (v := .ref hkn) (C := R_Search) (T := T_Search) (N := 14) hx hb hts i_Search hown hK hP 0 rfl rfl 12 (by decide) (hts _ wd_93) (fun _ h9 => h9) rfl d_Search_cornerWrong_140 ?_
                refine lv_iload hx hb d_Search_cornerWrong_143 (lv_at hl 7 rfl) ?_
                have in145 : vp_in v96 262144 := vi_in h96 (by omega) (by omega)
                refine va_lald hx hb hK hP 3 1 rfl rfl in145 d_Search_cornerWrong_145 ?_
                refine lv_topl (fun v145 e145 => ?_)
                have e145 : v145 = kc (((y * 512) + x)).toNat := by rw [e145, vi_cl h96]
                refine lv_iload hx hb d_Search_cornerWrong_146 (lv_at hl 8 rfl) ?_
                refine lv_lushr hx hb d_Search_cornerWrong_148 rfl ?_
                refine lv_topl (fun v148 e148 => ?_)
                refine lv_l2i hx hb d_Search_cornerWrong_149 rfl ?_
                refine lv_topi (fun v149 e149 => ?_)
                refine lv_sipush (v := 1023) hx hb d_Search_cornerWrong_150 (by decide) ?_
                refine lv_iand hx hb d_Search_cornerWrong_153 ?_
                refine lv_topi (fun v153 e153 => ?_)
                have h153 : v153.toInt = ((kfl (lnN v145) k.toNat : Nat) : Int) := by rw [e153]; exact kn_fl h102 hk0 hk3 e148 e149
                have kb : kfl (lnN v145) k.toNat < 1024 := Nat.mod_lt _ (by decide)
                have kg0 := kn_get jkn hx0 (by omega) hy0 (by omega) hk0 hk3 jtop k.toNat (by omega)
                rw [← e145] at kg0
                refine lv_istore (lv' := [(9, .int v153), (0, .ref hq), (1, .int a1), (2, .int a2), (3, .int a3), (4, .int md), (5, .int lf), (6, .int tp), (7, .int v96), (8, .int v102)]) hx hb d_Search_cornerWrong_154 hl (by decide) rfl (fun ls hl => ?_)
                refine lv_iload hx hb d_Search_cornerWrong_156 (lv_at hl 0 rfl) ?_
                refine lv_if_eq (tgt := 166) hx hb d_Search_cornerWrong_158 (by decide) (fun c158 => ?_) (fun c158 => ?_)
                · skip
                  have c158 : ((kfl (lnN v145) k.toNat : Nat) : Int) = 0 := (ti_eq h153 (ti_k (by decide))).mp c158
                  have cr : cwR D Wd Ht M k x y = cwv D M k x y := by unfold cwR; rw [← ilf, ← itp]; exact if_neg (by omega)
                  refine lv_bipush (v := 33) hx hb d_Search_cornerWrong_166 (by decide) ?_
                  refine lv_iload hx hb d_Search_cornerWrong_168 (lv_at hl 5 rfl) ?_
                  refine lv_imul hx hb d_Search_cornerWrong_170 ?_
                  refine lv_topi (fun v170 e170 => ?_)
                  have h170 : v170.toInt = 33 * M := by rw [e170]; exact ti_mul (ti_k (by decide)) hmd (by omega) (by omega)
                  refine lv_iload hx hb d_Search_cornerWrong_171 (lv_at hl 5 rfl) ?_
                  refine lv_imul hx hb d_Search_cornerWrong_173 ?_
                  refine lv_topi (fun v173 e173 => ?_)
                  have h173 : v173.toInt = (33 * M) * M := by rw [e173]; exact ti_mul h170 hmd (by omega) (by omega)
                  refine lv_aload_n hx hb d_Search_cornerWrong_174 rfl (lv_at hl 1 rfl) ?_
                  refine va_get (D := (dC, dI)) (ci := 3) (v := .ref hp) (C := R_Search) (T := T_Search) (N := 14) hx hb hts i_Search hown hK hP 0 rfl rfl 0 (by decide) (hts _ wd_79) (fun _ h9 => h9) rfl d_Search_cornerWrong_175 ?_
                  refine lv_iload hx hb d_Search_cornerWrong_178 (lv_at hl 6 rfl) ?_
                  refine lv_iload hx hb d_Search_cornerWrong_180 (lv_at hl 7 rfl) ?_
                  refine lv_bipush (v := 8) hx hb d_Search_cornerWrong_182 (by decide) ?_
                  refine lv_iload hx hb d_Search_cornerWrong_184 (lv_at hl 5 rfl) ?_
                  refine lv_imul hx hb d_Search_cornerWrong_186 ?_
                  refine lv_topi (fun v186 e186 => ?_)
                  have h186 : v186.toInt = 8 * M := by rw [e186]; exact ti_mul (ti_k (by decide)) hmd (by omega) (by omega)
                  refine lv_bipush (v := 8) hx hb d_Search_cornerWrong_187 (by decide) ?_
                  refine lv_iload hx hb d_Search_cornerWrong_189 (lv_at hl 5 rfl) ?_
                  refine lv_imul hx hb d_Search_cornerWrong_191 ?_
                  refine lv_topi (fun v191 e191 => ?_)
                  have h191 : v191.toInt = 8 * M := by rw [e191]; exact ti_mul (ti_k (by decide)) hmd (by omega) (by omega)
                  have hPc := hP.sub (ws' := [(hp, .inr (0, [.int pw, .int ph, .ref hw, .ref hs, .int psr])), (hs, .inl (kS, 263169, .inl fs))]) [1, 2] rfl
                  have hKc := hK.sub (tys' := [(kS, .int)]) [0] rfl
                  refine va_calli (va_runV (As := [.int lf, .int tp, .int v186, .int v191]) (rest := [.int v173]) ⟨hx, hb, hml, hown, hts⟩ (c_countSummed l dC dI hp hw hs kS pw ph psr fs Wd Ht D hpw hph hW1 hW2 hH1 hH2 hsum lf tp v186 v191 zlf ztp (8 * M) (8 * M) hlf htp h186 h191) (aw_V 4 hts wd_414 wd_415 wd_416 wd_3 wd_417 rfl rfl (by decide +kernel) ⟨Nat.le_of_ble_eq_true rfl, Nat.le_of_ble_eq_true rfl⟩) ⟨ro_blind, va_recv hKc hPc (ci := 0) (q0 := 0) rfl rfl, ro_pre hPc hKc⟩ rfl rfl hl.1 rfl (lv_room (Nat.le_of_ble_eq_true rfl)) d_Search_cornerWrong_192 ⟨Nat.le_of_ble_eq_true rfl, Nat.le_of_ble_eq_true rfl⟩) hS (fun q _ h => h.elim) (fun q h => h.elim) (fun v192 _ t9 H192 locs ht hvm h192 hB hz1 hk1 hS => ?_)
                  have hP := ro_keep hP hk1
                  clear hPc hKc ht hvm hB hz1 hk1
                  have g192 : cS D Wd Ht (zlf) (ztp) (8 * M) (8 * M) = cI D (zlf) (ztp) (8 * M) (8 * M) := cS_in (by omega)
                  rw [g192] at h192
                  have n192 := cI_nn D (zlf) (ztp) (8 * M) (8 * M)
                  have l192 := cI_le D (zlf) (ztp) (w := 8 * M) (h := 8 * M) (by omega) (by omega)
                  have s192 : 8 * M * (8 * M) = 8 * 8 * (M * M) := sq_k 8 M
                  refine lv_iadd hx hb d_Search_cornerWrong_195 ?_
                  refine lv_topi (fun v195 e195 => ?_)
                  have h195 : v195.toInt = ((33 * M) * M) + (cI D (zlf) (ztp) (8 * M) (8 * M)) := by rw [e195]; exact ti_add h173 h192 (by omega) (by omega)
                  refine lv_iconst (v := 2) hx hb d_Search_cornerWrong_196 (by decide) ?_
                  refine lv_aload_n hx hb d_Search_cornerWrong_197 rfl (lv_at hl 1 rfl) ?_
                  refine va_get (D := (dC, dI)) (ci := 3) (v := .ref hp) (C := R_Search) (T := T_Search) (N := 14) hx hb hts i_Search hown hK hP 0 rfl rfl 0 (by decide) (hts _ wd_79) (fun _ h9 => h9) rfl d_Search_cornerWrong_198 ?_
                  refine lv_iload_n hx hb d_Search_cornerWrong_201 rfl (lv_at hl 3 rfl) ?_
                  refine lv_iload_n hx hb d_Search_cornerWrong_202 rfl (lv_at hl 4 rfl) ?_
                  refine lv_bipush (v := 7) hx hb d_Search_cornerWrong_203 (by decide) ?_
                  refine lv_iload hx hb d_Search_cornerWrong_205 (lv_at hl 5 rfl) ?_
                  refine lv_imul hx hb d_Search_cornerWrong_207 ?_
                  refine lv_topi (fun v207 e207 => ?_)
                  have h207 : v207.toInt = 7 * M := by rw [e207]; exact ti_mul (ti_k (by decide)) hmd (by omega) (by omega)
                  refine lv_bipush (v := 7) hx hb d_Search_cornerWrong_208 (by decide) ?_
                  refine lv_iload hx hb d_Search_cornerWrong_210 (lv_at hl 5 rfl) ?_
                  refine lv_imul hx hb d_Search_cornerWrong_212 ?_
                  refine lv_topi (fun v212 e212 => ?_)
                  have h212 : v212.toInt = 7 * M := by rw [e212]; exact ti_mul (ti_k (by decide)) hmd (by omega) (by omega)
                  have hPc := hP.sub (ws' := [(hp, .inr (0, [.int pw, .int ph, .ref hw, .ref hs, .int psr])), (hs, .inl (kS, 263169, .inl fs))]) [1, 2] rfl
                  have hKc := hK.sub (tys' := [(kS, .int)]) [0] rfl
                  refine va_calli (va_runV (As := [.int a2, .int a3, .int v207, .int v212]) (rest := [.int 2, .int v195]) ⟨hx, hb, hml, hown, hts⟩ (c_countSummed l dC dI hp hw hs kS pw ph psr fs Wd Ht D hpw hph hW1 hW2 hH1 hH2 hsum a2 a3 v207 v212 x y (7 * M) (7 * M) g2 g3 h207 h212) (aw_V 4 hts wd_414 wd_415 wd_416 wd_3 wd_417 rfl rfl (by decide +kernel) ⟨Nat.le_of_ble_eq_true rfl, Nat.le_of_ble_eq_true rfl⟩) ⟨ro_blind, va_recv hKc hPc (ci := 0) (q0 := 0) rfl rfl, ro_pre hPc hKc⟩ rfl rfl hl.1 rfl (lv_room (Nat.le_of_ble_eq_true rfl)) d_Search_cornerWrong_213 ⟨Nat.le_of_ble_eq_true rfl, Nat.le_of_ble_eq_true rfl⟩) hS (fun q _ h => h.elim) (fun q h => h.elim) (fun v213 _ t9 H213 locs ht hvm h213 hB hz1 hk1 hS => ?_)
                  have hP := ro_keep hP hk1
                  clear hPc hKc ht hvm hB hz1 hk1
                  have g213 : cS D Wd Ht (x) (y) (7 * M) (7 * M) = cI D (x) (y) (7 * M) (7 * M) := cS_in (by omega)
                  rw [g213] at h213
                  have n213 := cI_nn D (x) (y) (7 * M) (7 * M)
                  have l213 := cI_le D (x) (y) (w := 7 * M) (h := 7 * M) (by omega) (by omega)
                  have s213 : 7 * M * (7 * M) = 7 * 7 * (M * M) := sq_k 7 M
                  refine lv_imul hx hb d_Search_cornerWrong_216 ?_
                  refine lv_topi (fun v216 e216 => ?_)
                  have h216 : v216.toInt = 2 * (cI D (x) (y) (7 * M) (7 * M)) := by rw [e216]; exact ti_mul (ti_k (by decide)) h213 (by omega) (by omega)
                  refine lv_isub hx hb d_Search_cornerWrong_217 ?_
                  refine lv_topi (fun v217 e217 => ?_)
                  have h217 : v217.toInt = (((33 * M) * M) + (cI D (zlf) (ztp) (8 * M) (8 * M))) - (2 * (cI D (x) (y) (7 * M) (7 * M))) := by rw [e217]; exact ti_sub h195 h216 (by omega) (by omega)
                  refine lv_iconst (v := 2) hx hb d_Search_cornerWrong_218 (by decide) ?_
                  refine lv_aload_n hx hb d_Search_cornerWrong_219 rfl (lv_at hl 1 rfl) ?_
                  refine va_get (D := (dC, dI)) (ci := 3) (v := .ref hp) (C := R_Search) (T := T_Search) (N := 14) hx hb hts i_Search hown hK hP 0 rfl rfl 0 (by decide) (hts _ wd_79) (fun _ h9 => h9) rfl d_Search_cornerWrong_220 ?_
                  refine lv_iload_n hx hb d_Search_cornerWrong_223 rfl (lv_at hl 3 rfl) ?_
                  refine lv_iload hx hb d_Search_cornerWrong_224 (lv_at hl 5 rfl) ?_
                  refine lv_iadd hx hb d_Search_cornerWrong_226 ?_
                  refine lv_topi (fun v226 e226 => ?_)
                  have h226 : v226.toInt = x + M := by rw [e226]; exact ti_add g2 hmd (by omega) (by omega)
                  refine lv_iload_n hx hb d_Search_cornerWrong_227 rfl (lv_at hl 4 rfl) ?_
                  refine lv_iload hx hb d_Search_cornerWrong_228 (lv_at hl 5 rfl) ?_
                  refine lv_iadd hx hb d_Search_cornerWrong_230 ?_
                  refine lv_topi (fun v230 e230 => ?_)
                  have h230 : v230.toInt = y + M := by rw [e230]; exact ti_add g3 hmd (by omega) (by omega)
                  refine lv_iconst (v := 5) hx hb d_Search_cornerWrong_231 (by decide) ?_
                  refine lv_iload hx hb d_Search_cornerWrong_232 (lv_at hl 5 rfl) ?_
                  refine lv_imul hx hb d_Search_cornerWrong_234 ?_
                  refine lv_topi (fun v234 e234 => ?_)
                  have h234 : v234.toInt = 5 * M := by rw [e234]; exact ti_mul (ti_k (by decide)) hmd (by omega) (by omega)
                  refine lv_iconst (v := 5) hx hb d_Search_cornerWrong_235 (by decide) ?_
                  refine lv_iload hx hb d_Search_cornerWrong_236 (lv_at hl 5 rfl) ?_
                  refine lv_imul hx hb d_Search_cornerWrong_238 ?_
                  refine lv_topi (fun v238 e238 => ?_)
                  have h238 : v238.toInt = 5 * M := by rw [e238]; exact ti_mul (ti_k (by decide)) hmd (by omega) (by omega)
                  have hPc := hP.sub (ws' := [(hp, .inr (0, [.int pw, .int ph, .ref hw, .ref hs, .int psr])), (hs, .inl (kS, 263169, .inl fs))]) [1, 2] rfl
                  have hKc := hK.sub (tys' := [(kS, .int)]) [0] rfl
                  refine va_calli (va_runV (As := [.int v226, .int v230, .int v234, .int v238]) (rest := [.int 2, .int v217]) ⟨hx, hb, hml, hown, hts⟩ (c_countSummed l dC dI hp hw hs kS pw ph psr fs Wd Ht D hpw hph hW1 hW2 hH1 hH2 hsum v226 v230 v234 v238 (x + M) (y + M) (5 * M) (5 * M) h226 h230 h234 h238) (aw_V 4 hts wd_414 wd_415 wd_416 wd_3 wd_417 rfl rfl (by decide +kernel) ⟨Nat.le_of_ble_eq_true rfl, Nat.le_of_ble_eq_true rfl⟩) ⟨ro_blind, va_recv hKc hPc (ci := 0) (q0 := 0) rfl rfl, ro_pre hPc hKc⟩ rfl rfl hl.1 rfl (lv_room (Nat.le_of_ble_eq_true rfl)) d_Search_cornerWrong_239 ⟨Nat.le_of_ble_eq_true rfl, Nat.le_of_ble_eq_true rfl⟩) hS (fun q _ h => h.elim) (fun q h => h.elim) (fun v239 _ t9 H239 locs ht hvm h239 hB hz1 hk1 hS => ?_)
                  have hP := ro_keep hP hk1
                  clear hPc hKc ht hvm hB hz1 hk1
                  have g239 : cS D Wd Ht (x + M) (y + M) (5 * M) (5 * M) = cI D (x + M) (y + M) (5 * M) (5 * M) := cS_in (by omega)
                  rw [g239] at h239
                  have n239 := cI_nn D (x + M) (y + M) (5 * M) (5 * M)
                  have l239 := cI_le D (x + M) (y + M) (w := 5 * M) (h := 5 * M) (by omega) (by omega)
                  have s239 : 5 * M * (5 * M) = 5 * 5 * (M * M) := sq_k 5 M
                  refine lv_imul hx hb d_Search_cornerWrong_242 ?_
                  refine lv_topi (fun v242 e242 => ?_)
                  have h242 : v242.toInt = 2 * (cI D (x + M) (y + M) (5 * M) (5 * M)) := by rw [e242]; exact ti_mul (ti_k (by decide)) h239 (by omega) (by omega)
                  refine lv_iadd hx hb d_Search_cornerWrong_243 ?_
                  refine lv_topi (fun v243 e243 => ?_)
                  have h243 : v243.toInt = ((((33 * M) * M) + (cI D (zlf) (ztp) (8 * M) (8 * M))) - (2 * (cI D (x) (y) (7 * M) (7 * M)))) + (2 * (cI D (x + M) (y + M) (5 * M) (5 * M))) := by rw [e243]; exact ti_add h217 h242 (by omega) (by omega)
                  refine lv_iconst (v := 2) hx hb d_Search_cornerWrong_244 (by decide) ?_
                  refine lv_aload_n hx hb d_Search_cornerWrong_245 rfl (lv_at hl 1 rfl) ?_
                  refine va_get (D := (dC, dI)) (ci := 3) (v := .ref hp) (C := R_Search) (T := T_Search) (N := 14) hx hb hts i_Search hown hK hP 0 rfl rfl 0 (by decide) (hts _ wd_79) (fun _ h9 => h9) rfl d_Search_cornerWrong_246 ?_
                  refine lv_iload_n hx hb d_Search_cornerWrong_249 rfl (lv_at hl 3 rfl) ?_
                  refine lv_iconst (v := 2) hx hb d_Search_cornerWrong_250 (by decide) ?_
                  refine lv_iload hx hb d_Search_cornerWrong_251 (lv_at hl 5 rfl) ?_
                  refine lv_imul hx hb d_Search_cornerWrong_253 ?_
                  refine lv_topi (fun v253 e253 => ?_)
                  have h253 : v253.toInt = 2 * M := by rw [e253]; exact ti_mul (ti_k (by decide)) hmd (by omega) (by omega)
                  refine lv_iadd hx hb d_Search_cornerWrong_254 ?_
                  refine lv_topi (fun v254 e254 => ?_)
                  have h254 : v254.toInt = x + (2 * M) := by rw [e254]; exact ti_add g2 h253 (by omega) (by omega)
                  refine lv_iload_n hx hb d_Search_cornerWrong_255 rfl (lv_at hl 4 rfl) ?_
                  refine lv_iconst (v := 2) hx hb d_Search_cornerWrong_256 (by decide) ?_
                  refine lv_iload hx hb d_Search_cornerWrong_257 (lv_at hl 5 rfl) ?_
                  refine lv_imul hx hb d_Search_cornerWrong_259 ?_
                  refine lv_topi (fun v259 e259 => ?_)
                  have h259 : v259.toInt = 2 * M := by rw [e259]; exact ti_mul (ti_k (by decide)) hmd (by omega) (by omega)
                  refine lv_iadd hx hb d_Search_cornerWrong_260 ?_
                  refine lv_topi (fun v260 e260 => ?_)
                  have h260 : v260.toInt = y + (2 * M) := by rw [e260]; exact ti_add g3 h259 (by omega) (by omega)
                  refine lv_iconst (v := 3) hx hb d_Search_cornerWrong_261 (by decide) ?_
                  refine lv_iload hx hb d_Search_cornerWrong_262 (lv_at hl 5 rfl) ?_
                  refine lv_imul hx hb d_Search_cornerWrong_264 ?_
                  refine lv_topi (fun v264 e264 => ?_)
                  have h264 : v264.toInt = 3 * M := by rw [e264]; exact ti_mul (ti_k (by decide)) hmd (by omega) (by omega)
                  refine lv_iconst (v := 3) hx hb d_Search_cornerWrong_265 (by decide) ?_
                  refine lv_iload hx hb d_Search_cornerWrong_266 (lv_at hl 5 rfl) ?_
                  refine lv_imul hx hb d_Search_cornerWrong_268 ?_
                  refine lv_topi (fun v268 e268 => ?_)
                  have h268 : v268.toInt = 3 * M := by rw [e268]; exact ti_mul (ti_k (by decide)) hmd (by omega) (by omega)
                  have hPc := hP.sub (ws' := [(hp, .inr (0, [.int pw, .int ph, .ref hw, .ref hs, .int psr])), (hs, .inl (kS, 263169, .inl fs))]) [1, 2] rfl
                  have hKc := hK.sub (tys' := [(kS, .int)]) [0] rfl
                  refine va_calli (va_runV (As := [.int v254, .int v260, .int v264, .int v268]) (rest := [.int 2, .int v243]) ⟨hx, hb, hml, hown, hts⟩ (c_countSummed l dC dI hp hw hs kS pw ph psr fs Wd Ht D hpw hph hW1 hW2 hH1 hH2 hsum v254 v260 v264 v268 (x + (2 * M)) (y + (2 * M)) (3 * M) (3 * M) h254 h260 h264 h268) (aw_V 4 hts wd_414 wd_415 wd_416 wd_3 wd_417 rfl rfl (by decide +kernel) ⟨Nat.le_of_ble_eq_true rfl, Nat.le_of_ble_eq_true rfl⟩) ⟨ro_blind, va_recv hKc hPc (ci := 0) (q0 := 0) rfl rfl, ro_pre hPc hKc⟩ rfl rfl hl.1 rfl (lv_room (Nat.le_of_ble_eq_true rfl)) d_Search_cornerWrong_269 ⟨Nat.le_of_ble_eq_true rfl, Nat.le_of_ble_eq_true rfl⟩) hS (fun q _ h => h.elim) (fun q h => h.elim) (fun v269 _ t9 H269 locs ht hvm h269 hB hz1 hk1 hS => ?_)
                  have hP := ro_keep hP hk1
                  clear hPc hKc ht hvm hB hz1 hk1
                  have g269 : cS D Wd Ht (x + 2 * M) (y + 2 * M) (3 * M) (3 * M) = cI D (x + 2 * M) (y + 2 * M) (3 * M) (3 * M) := cS_in (by omega)
                  rw [g269] at h269
                  have n269 := cI_nn D (x + 2 * M) (y + 2 * M) (3 * M) (3 * M)
                  have l269 := cI_le D (x + 2 * M) (y + 2 * M) (w := 3 * M) (h := 3 * M) (by omega) (by omega)
                  have s269 : 3 * M * (3 * M) = 3 * 3 * (M * M) := sq_k 3 M
                  refine lv_imul hx hb d_Search_cornerWrong_272 ?_
                  refine lv_topi (fun v272 e272 => ?_)
                  have h272 : v272.toInt = 2 * (cI D (x + 2 * M) (y + 2 * M) (3 * M) (3 * M)) := by rw [e272]; exact ti_mul (ti_k (by decide)) h269 (by omega) (by omega)
                  refine lv_isub hx hb d_Search_cornerWrong_273 ?_
                  refine lv_topi (fun v273 e273 => ?_)
                  have h273 : v273.toInt = (((((33 * M) * M) + (cI D (zlf) (ztp) (8 * M) (8 * M))) - (2 * (cI D (x) (y) (7 * M) (7 * M)))) + (2 * (cI D (x + M) (y + M) (5 * M) (5 * M)))) - (2 * (cI D (x + 2 * M) (y + 2 * M) (3 * M) (3 * M))) := by rw [e273]; exact ti_sub h243 h272 (by omega) (by omega)
                  refine lv_istore (lv' := [(10, .int v273), (9, .int v153), (0, .ref hq), (1, .int a1), (2, .int a2), (3, .int a3), (4, .int md), (5, .int lf), (6, .int tp), (7, .int v96), (8, .int v102)]) hx hb d_Search_cornerWrong_274 hl (by decide) rfl (fun ls hl => ?_)
                  refine lv_iload hx hb d_Search_cornerWrong_276 (lv_at hl 0 rfl) ?_
                  refine lv_sipush (v := 501) hx hb d_Search_cornerWrong_278 (by decide) ?_
                  refine va_mmin hx hb (by rw [hml]; exact hl.1.symm) hown (hts _ wd_396) (hts _ wd_151) (hts _ wd_11) (hts _ wd_152) (Nat.le_of_ble_eq_true rfl) (Nat.le_of_ble_eq_true rfl) (Nat.le_of_ble_eq_true rfl) (Nat.le_of_ble_eq_true rfl) d_Search_cornerWrong_281 ?_
                  refine lv_topi (fun v281 e281 => ?_)
                  have h281 : v281.toInt = min ((((((33 * M) * M) + (cI D (zlf) (ztp) (8 * M) (8 * M))) - (2 * (cI D (x) (y) (7 * M) (7 * M)))) + (2 * (cI D (x + M) (y + M) (5 * M) (5 * M)))) - (2 * (cI D (x + 2 * M) (y + 2 * M) (3 * M) (3 * M)))) 501 := by rw [e281]; exact ti_min h273 (ti_k (by decide))
                  refine lv_istore (lv' := [(10, .int v281), (9, .int v153), (0, .ref hq), (1, .int a1), (2, .int a2), (3, .int a3), (4, .int md), (5, .int lf), (6, .int tp), (7, .int v96), (8, .int v102)]) hx hb d_Search_cornerWrong_284 hl (by decide) rfl (fun ls hl => ?_)
                  refine lv_aload_n hx hb d_Search_cornerWrong_286 rfl (lv_at hl 2 rfl) ?_
                  refine va_get (D := (dC, dI)) (ci := 3) (v := .ref hkn) (C := R_Search) (T := T_Search) (N := 14) hx hb hts i_Search hown hK hP 0 rfl rfl 12 (by decide) (hts _ wd_93) (fun _ h9 => h9) rfl d_Search_cornerWrong_287 ?_
                  refine lv_iload hx hb d_Search_cornerWrong_290 (lv_at hl 9 rfl) ?_
                  refine lv_dup2_11 hx hb d_Search_cornerWrong_292 rfl rfl ?_
                  have in293 : vp_in v96 262144 := vi_in h96 (by omega) (by omega)
                  refine va_lald hx hb hK hP 3 1 rfl rfl in293 d_Search_cornerWrong_293 ?_
                  refine lv_topl (fun v293 e293 => ?_)
                  have e293 : v293 = kc (((y * 512) + x)).toNat := by rw [e293, vi_cl h96]
                  refine lv_iload hx hb d_Search_cornerWrong_294 (lv_at hl 0 rfl) ?_
                  refine lv_iconst (v := 1) hx hb d_Search_cornerWrong_296 (by decide) ?_
                  refine lv_iadd hx hb d_Search_cornerWrong_297 ?_
                  refine lv_topi (fun v297 e297 => ?_)
                  have h297 : v297.toInt = (min ((((((33 * M) * M) + (cI D (zlf) (ztp) (8 * M) (8 * M))) - (2 * (cI D (x) (y) (7 * M) (7 * M)))) + (2 * (cI D (x + M) (y + M) (5 * M) (5 * M)))) - (2 * (cI D (x + 2 * M) (y + 2 * M) (3 * M) (3 * M)))) 501) + 1 := by rw [e297]; exact ti_add h281 (ti_k (by decide)) (by omega) (by omega)
                  refine lv_i2l hx hb d_Search_cornerWrong_298 rfl ?_
                  refine lv_topl (fun v298 e298 => ?_)
                  refine lv_iload hx hb d_Search_cornerWrong_299 (lv_at hl 10 rfl) ?_
                  refine lv_lshl hx hb d_Search_cornerWrong_301 rfl ?_
                  refine lv_topl (fun v301 e301 => ?_)
                  refine lv_lor hx hb d_Search_cornerWrong_302 ?_
                  refine lv_topl (fun v302 e302 => ?_)
                  have in303 : vp_in v96 262144 := vi_in h96 (by omega) (by omega)
                  refine va_last hx hb hK hP hD hS 3 1 rfl rfl in303 d_Search_cornerWrong_303 (fun H303 locs hP hD hS => ?_)
                  obtain ⟨f303, ef303⟩ : ∃ g, g = vp_updL kc (v96).toNatClampNeg v302 := ⟨_, rfl⟩
                  have hP : va_P (dC, dI) vwCl [(hq, .inr (3, [.ref hp, .ref hst, .int lim, .int thd, .int md, .int sz0, .int tm, .int tx, .int ty, .int sx, .int sy, .ref hqf, .ref hkn, .int stp])), (hp, .inr (0, [.int pw, .int ph, .ref hw, .ref hs, .int psr])), (hs, .inl (kS, 263169, .inl fs)), (hkn, .inl (cN, 262144, .inr (.inl f303)))] H303 := by rw [ef303]; exact hP
                  have hD : va_D A [(hq, .inr (3, [.ref hp, .ref hst, .int lim, .int thd, .int md, .int sz0, .int tm, .int tx, .int ty, .int sx, .int sy, .ref hqf, .ref hkn, .int stp])), (hp, .inr (0, [.int pw, .int ph, .ref hw, .ref hs, .int psr])), (hs, .inl (kS, 263169, .inl fs)), (hkn, .inl (cN, 262144, .inr (.inl f303)))] := by rw [ef303]; exact hD
                  have ef303 : f303 = vp_updL kc (((y * 512) + x)).toNat v302 := by rw [ef303, vi_cl h96]
                  refine lv_iload hx hb d_Search_cornerWrong_304 (lv_at hl 0 rfl) ?_
                  have hpost : (v281 : Int32).toInt = cwR D Wd Ht M k x y ∧ KN D M ST f303 := by
                    have ez : kfl (lnN (kc (y * 512 + x).toNat)) k.toNat = 0 := by rw [← e145]; omega
                    have ew : min (33 * M * M + cI D zlf ztp (8 * M) (8 * M) - 2 * cI D x y (7 * M) (7 * M) + 2 * cI D (x + M) (y + M) (5 * M) (5 * M) - 2 * cI D (x + 2 * M) (y + 2 * M) (3 * M) (3 * M)) 501 = cwv D M k x y := by unfold cwv cW; rw [← ilf, ← itp, e33]
                    refine ⟨by rw [h281, cr]; exact ew, ?_⟩
                    exact kn_keep jkn (by omega) hx0 (by omega) hy0 (by omega) hk0 hk3 jtop ez h297 ew h102 e293 e298 e301 e302 (fun j hj => by rw [ef303]; exact pk_uLn hj) (by rw [ef303]; exact pk_uLs)
                  have hP9 := hP.sub (ws' := [(hq, .inr (3, [.ref hp, .ref hst, .int lim, .int thd, .int md, .int sz0, .int tm, .int tx, .int ty, .int sx, .int sy, .ref hqf, .ref hkn, .int stp])), (hp, .inr (0, [.int pw, .int ph, .ref hw, .ref hs, .int psr])), (hs, .inl (kS, 263169, .inl fs)), (hkn, .inl (cN, 262144, .inr (.inl f303)))]) [0, 1, 2, 3] rfl
                  have hD9 := hD.sub (ws' := [(hq, .inr (3, [.ref hp, .ref hst, .int lim, .int thd, .int md, .int sz0, .int tm, .int tx, .int ty, .int sx, .int sy, .ref hqf, .ref hkn, .int stp])), (hp, .inr (0, [.int pw, .int ph, .ref hw, .ref hs, .int psr])), (hs, .inl (kS, 263169, .inl fs)), (hkn, .inl (cN, 262144, .inr (.inl f303)))]) [0, 1, 2, 3] (by decide) rfl
                  have hK9 := hK.sub (tys' := [(kS, .int), (cN, .long)]) [0, 1] rfl
                  exact W.iret (v := v281) hx hb hr (fun t ht hW => ⟨⟨v281, f303, rfl, hpost, by rw [ht]; exact hP9, va_K.moved hW.alike hK9, hD9⟩, hS.F ht⟩) hS.2.2 d_Search_cornerWrong_306
                · skip
                  have c158 : ¬ (((kfl (lnN v145) k.toNat : Nat) : Int) = 0) := fun q => c158 ((ti_eq h153 (ti_k (by decide))).mpr q)
                  have cr : cwR D Wd Ht M k x y = cwv D M k x y := by unfold cwR; rw [← ilf, ← itp]; exact if_neg (by omega)
                  refine lv_iload hx hb d_Search_cornerWrong_161 (lv_at hl 0 rfl) ?_
                  refine lv_iconst (v := 1) hx hb d_Search_cornerWrong_163 (by decide) ?_
                  refine lv_isub hx hb d_Search_cornerWrong_164 ?_
                  refine lv_topi (fun v164 e164 => ?_)
                  have h164 : v164.toInt = ((kfl (lnN v145) k.toNat : Nat) : Int) - 1 := by rw [e164]; exact ti_sub h153 (ti_k (by decide)) (by omega) (by omega)
                  have hpost : (v164 : Int32).toInt = cwR D Wd Ht M k x y ∧ KN D M ST kc := by
                    refine ⟨?_, jkn⟩
                    have ek : ((k.toNat : Nat) : Int) = k := by omega
                    rw [ek] at kg0
                    rw [h164, cr]
                    omega
                  have hP9 := hP.sub (ws' := [(hq, .inr (3, [.ref hp, .ref hst, .int lim, .int thd, .int md, .int sz0, .int tm, .int tx, .int ty, .int sx, .int sy, .ref hqf, .ref hkn, .int stp])), (hp, .inr (0, [.int pw, .int ph, .ref hw, .ref hs, .int psr])), (hs, .inl (kS, 263169, .inl fs)), (hkn, .inl (cN, 262144, .inr (.inl kc)))]) [0, 1, 2, 3] rfl
                  have hD9 := hD.sub (ws' := [(hq, .inr (3, [.ref hp, .ref hst, .int lim, .int thd, .int md, .int sz0, .int tm, .int tx, .int ty, .int sx, .int sy, .ref hqf, .ref hkn, .int stp])), (hp, .inr (0, [.int pw, .int ph, .ref hw, .ref hs, .int psr])), (hs, .inl (kS, 263169, .inl fs)), (hkn, .inl (cN, 262144, .inr (.inl kc)))]) [0, 1, 2, 3] (by decide) rfl
                  have hK9 := hK.sub (tys' := [(kS, .int), (cN, .long)]) [0, 1] rfl
                  exact W.iret (v := v164) hx hb hr (fun t ht hW => ⟨⟨v164, kc, rfl, hpost, by rw [ht]; exact hP9, va_K.moved hW.alike hK9, hD9⟩, hS.F ht⟩) hS.2.2 d_Search_cornerWrong_165
              · skip
                intro hj139
                refine lv_aload_n hx hb d_Search_cornerWrong_105 rfl (lv_at hl 3 rfl) ?_
                refine va_get (D := (dC, dI)) (ci := 3) (v := .ref hkn) (C := R_Search) (T := T_Search) (N := 14) hx hb hts i_Search hown hK hP 0 rfl rfl 12 (by decide) (hts _ wd_93) (fun _ h9 => h9) rfl d_Search_cornerWrong_106 ?_
                refine lv_iload hx hb d_Search_cornerWrong_109 (lv_at hl 1 rfl) ?_
                have in111 : vp_in v96 262144 := vi_in h96 (by omega) (by omega)
                refine va_lald hx hb hK hP 3 1 rfl rfl in111 d_Search_cornerWrong_111 ?_
                refine lv_topl (fun v111 e111 => ?_)
                have e111 : v111 = kn (((y * 512) + x)).toNat := by rw [e111, vi_cl h96]
                refine lv_bipush (v := 40) hx hb d_Search_cornerWrong_112 (by decide) ?_
                refine lv_lushr hx hb d_Search_cornerWrong_114 rfl ?_
                refine lv_topl (fun v114 e114 => ?_)
                refine lv_aload_n hx hb d_Search_cornerWrong_115 rfl (lv_at hl 3 rfl) ?_
                refine va_get (D := (dC, dI)) (ci := 3) (v := .int stp) (C := R_Search) (T := T_Search) (N := 14) hx hb hts i_Search hown hK hP 0 rfl rfl 13 (by decide) (hts _ wd_94) (fun _ h9 => h9) rfl d_Search_cornerWrong_116 ?_
                refine lv_i2l hx hb d_Search_cornerWrong_119 rfl ?_
                refine lv_topl (fun v119 e119 => ?_)
                refine W.lcmp hx hb d_Search_cornerWrong_120 ?_
                refine lv_topi (fun v120 e120 => ?_)
                refine lv_if_eq (tgt := 139) hx hb d_Search_cornerWrong_121 (by decide) (fun c121 => ?_) (fun c121 => ?_)
                · skip
                  exact hj139 _ _ _ ⟨kn, ls, rfl, lv_sub hl [3, 4, 5, 6, 7, 8, 2, 1, 0] rfl, hkn0, kn_eq hkn0 (by omega) hst0 hst1 e111 e114 e119 (lg_z.mp (e120 ▸ c121)), hP, hD, hS⟩
                · skip
                  refine lv_aload_n hx hb d_Search_cornerWrong_124 rfl (lv_at hl 3 rfl) ?_
                  refine va_get (D := (dC, dI)) (ci := 3) (v := .ref hkn) (C := R_Search) (T := T_Search) (N := 14) hx hb hts i_Search hown hK hP 0 rfl rfl 12 (by decide) (hts _ wd_93) (fun _ h9 => h9) rfl d_Search_cornerWrong_125 ?_
                  refine lv_iload hx hb d_Search_cornerWrong_128 (lv_at hl 1 rfl) ?_
                  refine lv_aload_n hx hb d_Search_cornerWrong_130 rfl (lv_at hl 3 rfl) ?_
                  refine va_get (D := (dC, dI)) (ci := 3) (v := .int stp) (C := R_Search) (T := T_Search) (N := 14) hx hb hts i_Search hown hK hP 0 rfl rfl 13 (by decide) (hts _ wd_94) (fun _ h9 => h9) rfl d_Search_cornerWrong_131 ?_
                  refine lv_i2l hx hb d_Search_cornerWrong_134 rfl ?_
                  refine lv_topl (fun v134 e134 => ?_)
                  refine lv_bipush (v := 40) hx hb d_Search_cornerWrong_135 (by decide) ?_
                  refine lv_lshl hx hb d_Search_cornerWrong_137 rfl ?_
                  refine lv_topl (fun v137 e137 => ?_)
                  have in138 : vp_in v96 262144 := vi_in h96 (by omega) (by omega)
                  refine va_last hx hb hK hP hD hS 3 1 rfl rfl in138 d_Search_cornerWrong_138 (fun H138 locs hP hD hS => ?_)
                  obtain ⟨f138, ef138⟩ : ∃ g, g = vp_updL kn (v96).toNatClampNeg v137 := ⟨_, rfl⟩
                  have hP : va_P (dC, dI) vwCl [(hq, .inr (3, [.ref hp, .ref hst, .int lim, .int thd, .int md, .int sz0, .int tm, .int tx, .int ty, .int sx, .int sy, .ref hqf, .ref hkn, .int stp])), (hp, .inr (0, [.int pw, .int ph, .ref hw, .ref hs, .int psr])), (hs, .inl (kS, 263169, .inl fs)), (hkn, .inl (cN, 262144, .inr (.inl f138)))] H138 := by rw [ef138]; exact hP
                  have hD : va_D A [(hq, .inr (3, [.ref hp, .ref hst, .int lim, .int thd, .int md, .int sz0, .int tm, .int tx, .int ty, .int sx, .int sy, .ref hqf, .ref hkn, .int stp])), (hp, .inr (0, [.int pw, .int ph, .ref hw, .ref hs, .int psr])), (hs, .inl (kS, 263169, .inl fs)), (hkn, .inl (cN, 262144, .inr (.inl f138)))] := by rw [ef138]; exact hD
                  have ef138 : f138 = vp_updL kn (((y * 512) + x)).toNat v137 := by rw [ef138, vi_cl h96]
                  exact hj139 _ _ _ ⟨f138, ls, rfl, lv_sub hl [3, 4, 5, 6, 7, 8, 2, 1, 0] rfl, (kn_clear (kg := f138) (v := v137) (i := (y * 512 + x).toNat) hkn0 hst0 hst1 hst2 (fun j hj => by rw [ef138]; exact pk_uLn hj) (by rw [ef138]; exact pk_uLs) (by rw [e137, e134])).1, (kn_clear (kg := f138) (v := v137) (i := (y * 512 + x).toNat) hkn0 hst0 hst1 hst2 (fun j hj => by rw [ef138]; exact pk_uLn hj) (by rw [ef138]; exact pk_uLs) (by rw [e137, e134])).2, hP, hD, hS⟩
            · skip
              have c83 : ¬ (ztp ≤ (Ht - (8 * M))) := fun q => c83 ((ti_le htp h82).mpr q)
              refine lv_sipush (v := 501) hx hb d_Search_cornerWrong_86 (by decide) ?_
              have hpost : (501 : Int32).toInt = cwR D Wd Ht M k x y ∧ KN D M ST kn := by
                refine ⟨?_, hkn0⟩
                unfold cwR; rw [← ilf, ← itp, if_pos (by omega)]; rfl
              have hP9 := hP.sub (ws' := [(hq, .inr (3, [.ref hp, .ref hst, .int lim, .int thd, .int md, .int sz0, .int tm, .int tx, .int ty, .int sx, .int sy, .ref hqf, .ref hkn, .int stp])), (hp, .inr (0, [.int pw, .int ph, .ref hw, .ref hs, .int psr])), (hs, .inl (kS, 263169, .inl fs)), (hkn, .inl (cN, 262144, .inr (.inl kn)))]) [0, 1, 2, 3] rfl
              have hD9 := hD.sub (ws' := [(hq, .inr (3, [.ref hp, .ref hst, .int lim, .int thd, .int md, .int sz0, .int tm, .int tx, .int ty, .int sx, .int sy, .ref hqf, .ref hkn, .int stp])), (hp, .inr (0, [.int pw, .int ph, .ref hw, .ref hs, .int psr])), (hs, .inl (kS, 263169, .inl fs)), (hkn, .inl (cN, 262144, .inr (.inl kn)))]) [0, 1, 2, 3] (by decide) rfl
              have hK9 := hK.sub (tys' := [(kS, .int), (cN, .long)]) [0, 1] rfl
              exact W.iret (v := 501) hx hb hr (fun t ht hW => ⟨⟨501, kn, rfl, hpost, by rw [ht]; exact hP9, va_K.moved hW.alike hK9, hD9⟩, hS.F ht⟩) hS.2.2 d_Search_cornerWrong_89
    · skip
      intro hj38
      refine lv_iload_n hx hb d_Search_cornerWrong_23 rfl (lv_at hl 2 rfl) ?_
      have hPc := hP.sub (ws' := []) [] rfl
      have hKc := hK.sub (tys' := []) [] rfl
      refine va_calli (va_runS (As := [.int a1]) (rest := []) ⟨hx, hb, hml, hown, hts⟩ (c_isLow l dC dI a1 k g1) (aw_S 1 hts wd_442 wd_443 wd_2 wd_444 rfl rfl (by decide +kernel) ⟨Nat.le_of_ble_eq_true rfl, Nat.le_of_ble_eq_true rfl⟩) ⟨ro_blind, ro_pre hPc hKc⟩ rfl rfl hl.1 rfl (lv_room (Nat.le_of_ble_eq_true rfl)) d_Search_cornerWrong_24 ⟨Nat.le_of_ble_eq_true rfl, Nat.le_of_ble_eq_true rfl⟩) hS (fun q _ h => h.elim) (fun q h => h.elim) (fun v24 _ t9 H24 locs ht hvm h24 hB hz1 hk1 hS => ?_)
      have hP := ro_keep hP hk1
      clear hPc hKc ht hvm hB hz1 hk1
      refine lv_if_eq (tgt := 37) hx hb d_Search_cornerWrong_27 (by decide) (fun c27 => ?_) (fun c27 => ?_)
      · skip
        have c27 : ¬ (2 ≤ k) := bi_z h24 c27
        refine lv_iload_n hx hb d_Search_cornerWrong_37 rfl (lv_at hl 4 rfl) ?_
        exact hj38 _ _ _ ⟨a3, y, ls, rfl, lv_sub hl [1, 2, 3, 4, 5, 0] rfl, g3, by first | rw [if_pos c27] | rw [if_neg c27], hP, hD, hS⟩
      · skip
        have c27 : 2 ≤ k := bi_nz h24 c27
        refine lv_iload_n hx hb d_Search_cornerWrong_30 rfl (lv_at hl 4 rfl) ?_
        refine lv_iload hx hb d_Search_cornerWrong_31 (lv_at hl 5 rfl) ?_
        refine lv_isub hx hb d_Search_cornerWrong_33 ?_
        refine lv_topi (fun v33 e33 => ?_)
        have h33 : v33.toInt = y - M := by rw [e33]; exact ti_sub g3 hmd (by omega) (by omega)
        refine lv_goto (tgt := 38) hx hb d_Search_cornerWrong_34 (by decide) ?_
        exact hj38 _ _ _ ⟨v33, (y - M), ls, rfl, lv_sub hl [1, 2, 3, 4, 5, 0] rfl, h33, by first | rw [if_pos c27] | rw [if_neg c27], hP, hD, hS⟩
  · skip
    intro hj21
    refine lv_iload_n hx hb d_Search_cornerWrong_6 rfl (lv_at hl 2 rfl) ?_
    have hPc := hP.sub (ws' := []) [] rfl
    have hKc := hK.sub (tys' := []) [] rfl
    refine va_calli (va_runS (As := [.int a1]) (rest := []) ⟨hx, hb, hml, hown, hts⟩ (c_isRight l dC dI a1 k g1) (aw_S 1 hts wd_439 wd_440 wd_2 wd_441 rfl rfl (by decide +kernel) ⟨Nat.le_of_ble_eq_true rfl, Nat.le_of_ble_eq_true rfl⟩) ⟨ro_blind, ro_pre hPc hKc⟩ rfl rfl hl.1 rfl (lv_room (Nat.le_of_ble_eq_true rfl)) d_Search_cornerWrong_7 ⟨Nat.le_of_ble_eq_true rfl, Nat.le_of_ble_eq_true rfl⟩) hS (fun q _ h => h.elim) (fun q h => h.elim) (fun v7 _ t9 H7 locs ht hvm h7 hB hz1 hk1 hS => ?_)
    have hP := ro_keep hP hk1
    clear hPc hKc ht hvm hB hz1 hk1
    refine lv_if_eq (tgt := 20) hx hb d_Search_cornerWrong_10 (by decide) (fun c10 => ?_) (fun c10 => ?_)
    · skip
      have c10 : ¬ (k = 1 ∨ k = 2) := bi_z h7 c10
      refine lv_iload_n hx hb d_Search_cornerWrong_20 rfl (lv_at hl 3 rfl) ?_
      exact hj21 _ _ _ ⟨a2, x, ls, rfl, lv_sub hl [1, 2, 3, 4, 0] rfl, g2, by first | rw [if_pos c10] | rw [if_neg c10], hP, hD, hS⟩
    · skip
      have c10 : k = 1 ∨ k = 2 := bi_nz h7 c10
      refine lv_iload_n hx hb d_Search_cornerWrong_13 rfl (lv_at hl 3 rfl) ?_
      refine lv_iload hx hb d_Search_cornerWrong_14 (lv_at hl 0 rfl) ?_
      refine lv_isub hx hb d_Search_cornerWrong_16 ?_
      refine lv_topi (fun v16 e16 => ?_)
      have h16 : v16.toInt = x - M := by rw [e16]; exact ti_sub g2 hmd (by omega) (by omega)
      refine lv_goto (tgt := 21) hx hb d_Search_cornerWrong_17 (by decide) ?_
      exact hj21 _ _ _ ⟨v16, (x - M), ls, rfl, lv_sub hl [1, 2, 3, 4, 0] rfl, h16, by first | rw [if_pos c10] | rw [if_neg c10], hP, hD, hS⟩
