set_option maxHeartbeats 4000000 in
set_option maxRecDepth 100000 in
theorem c_spotFloor (l : Launch) (dC : Nat → ClassId) (dI : Nat → Nat → Nat) (hq hp hw hs hst hqf hkn : Nat) (kS : ClassId) (pw ph psr lim thd md sz0 tm tx ty sx sy stp : Int32) (fs : Nat → Int32) (Wd Ht M S TX TY SX SY : Int) (D : Int → Int → Bool) (hpw : pw.toInt = Wd) (hph : ph.toInt = Ht) (hmd : md.toInt = M) (hsz0 : sz0.toInt = S) (htx : tx.toInt = TX) (hty : ty.toInt = TY) (hsx : sx.toInt = SX) (hsy : sy.toInt = SY) (hB : sBnd Wd Ht M S TX TY SX SY) (hsum : ∀ x y, 0 ≤ x → x ≤ Wd → 0 ≤ y → y ≤ Ht → (fs (y * 513 + x).toNat).toInt = cI D 0 0 x y) (a1 : Int32) (k : Int) (g1 : a1.toInt = k) (hk0 : 0 ≤ k) (hk3 : k ≤ 3) (hS21 : 21 ≤ S) (bx : TX + S * M + SX ≤ Wd) (bty : TY + S * M + SY ≤ Ht) : Met l y_Search_spotFloor (.code y_Search_spotFloor b_Search_spotFloor 4 (some .int) :: allw) ({ frames := 2, cells := 0, slots := 0, locals := 54 }) (va_Pc [.ref hq, .int a1] (ro_B (dC, dI) vwCl [(hq, .inr (3, [.ref hp, .ref hst, .int lim, .int thd, .int md, .int sz0, .int tm, .int tx, .int ty, .int sx, .int sy, .ref hqf, .ref hkn, .int stp])), (hp, .inr (0, [.int pw, .int ph, .ref hw, .ref hs, .int psr])), (hs, .inl (kS, 263169, .inl fs))] [(kS, .int)])) (va_Qi (fun (r : Int32) (_ : Unit) => ∃ d, r.toInt = M * M - d ∧ isMost D SX SY (TX + M * (if k = 0 then 8 else if k = 1 then 7 else if k = 2 then S - 9 else S - 8)) (TY + M * (if k = 0 then S - 8 else if k = 1 then 8 else if k = 2 then 7 else S - 9)) M M d) (fun _ _ => True) (fun _ => False)) 0 0 (fun _ => False) := by
  refine Met.ofW (cc := b_Search_spotFloor) (maxL := 4) (ret := (some .int)) (by decide) rfl ?_
  intro p e s m args below meth c s₁ B hml hv
  obtain ⟨rfl, hP, hK⟩ := hv
  have hx := B.exec
  have hb := B.bytes
  have hr := B.returns
  have hts : ∀ w ∈ allw, w.before _ s = true := fun w h => atoms_spec (ws := .code y_Search_spotFloor b_Search_spotFloor 4 (some .int) :: allw) B.pre w (List.mem_cons_of_mem _ h)
  have hown : s.vm.findClass R_Search = some m.cls := findClass_of_methodNamed B.named
  have hlocks := B.notSynchronized
  have hS : va_S (fun _ => False) s.heap s.heap [] := va_S.rf
  have hP : va_P (dC, dI) vwCl [(hq, .inr (3, [.ref hp, .ref hst, .int lim, .int thd, .int md, .int sz0, .int tm, .int tx, .int ty, .int sx, .int sy, .ref hqf, .ref hkn, .int stp])), (hp, .inr (0, [.int pw, .int ph, .ref hw, .ref hs, .int psr])), (hs, .inl (kS, 263169, .inl fs))] s.heap := hP
  have hl := lv_entry ([.ref hq, .int a1]) (n := 4) (Nat.le_of_ble_eq_true rfl)
  rw [lg_entry_eq]
  generalize (lg_sl ([.ref hq, .int a1]) ++ List.replicate (4 - (lg_sl ([.ref hq, .int a1])).length) Slot.unset).toArray = ls at hl ⊢
  have hl : lv_has ls 4 [(0, .ref hq), (1, .int a1)] := hl
  obtain ⟨hW1, hW2, hH1, hH2, hM1, hM2, hS1, hS2, hX1, hX2, hY1, hY2, hx1, hx2, hy1, hy2⟩ := id hB
  have m2 := mul_b (a := M) (b := M) (n := 16) (by omega) (by omega) (by omega) (by omega)
  have m1 := Int.mul_le_mul (show 1 ≤ M by omega) (show 1 ≤ M by omega) (by omega) (by omega)
  have mc : S * M = M * S := Int.mul_comm _ _
  refine lv_iload_n hx hb d_Search_spotFloor_0 rfl (lv_at hl 1 rfl) ?_
  refine w_cut (I := fun H' locs' g' => ∃ (aa : Int32) (zaa : Int) (ls : Array Slot), g' = F0 m 41 ls [.int aa] ∧ lv_has ls 4 [(0, .ref hq), (1, .int a1)] ∧ aa.toInt = zaa ∧ (zaa = if k = 0 then 8 else if k = 1 then 7 else if k = 2 then S - 9 else S - 8) ∧ va_P (dC, dI) vwCl [(hq, .inr (3, [.ref hp, .ref hst, .int lim, .int thd, .int md, .int sz0, .int tm, .int tx, .int ty, .int sx, .int sy, .ref hqf, .ref hkn, .int stp])), (hp, .inr (0, [.int pw, .int ph, .ref hw, .ref hs, .int psr])), (hs, .inl (kS, 263169, .inl fs))] H' ∧ va_S (fun _ => False) s.heap H' locs') ?_ ?_
  · skip
    intro H41 locs g' hI
    obtain ⟨aa, zaa, ls, rfl, hl, haa, iaa, hP, hS⟩ := hI
    refine lv_istore_n (lv' := [(2, .int aa), (0, .ref hq), (1, .int a1)]) hx hb d_Search_spotFloor_41 rfl hl (by decide) rfl (fun ls hl => ?_)
    refine lv_iload_n hx hb d_Search_spotFloor_42 rfl (lv_at hl 2 rfl) ?_
    refine w_cut (I := fun H' locs' g' => ∃ (bb : Int32) (zbb : Int) (ls : Array Slot), g' = F0 m 83 ls [.int bb] ∧ lv_has ls 4 [(0, .ref hq), (1, .int a1), (2, .int aa)] ∧ bb.toInt = zbb ∧ (zbb = if k = 0 then S - 8 else if k = 1 then 8 else if k = 2 then 7 else S - 9) ∧ va_P (dC, dI) vwCl [(hq, .inr (3, [.ref hp, .ref hst, .int lim, .int thd, .int md, .int sz0, .int tm, .int tx, .int ty, .int sx, .int sy, .ref hqf, .ref hkn, .int stp])), (hp, .inr (0, [.int pw, .int ph, .ref hw, .ref hs, .int psr])), (hs, .inl (kS, 263169, .inl fs))] H' ∧ va_S (fun _ => False) s.heap H' locs') ?_ ?_
    · skip
      intro H83 locs g' hI
      obtain ⟨bb, zbb, ls, rfl, hl, hbb, ibb, hP, hS⟩ := hI
      refine lv_istore_n (lv' := [(3, .int bb), (0, .ref hq), (1, .int a1), (2, .int aa)]) hx hb d_Search_spotFloor_83 rfl hl (by decide) rfl (fun ls hl => ?_)
      have ja : 0 ≤ zaa ∧ zaa + 1 ≤ S := by
        rw [iaa]; split
        · omega
        · split
          · omega
          · split <;> omega
      have jb : 0 ≤ zbb ∧ zbb + 1 ≤ S := by
        rw [ibb]; split
        · omega
        · split
          · omega
          · split <;> omega
      have ka := Int.mul_nonneg (show 0 ≤ M by omega) ja.1
      have kb := Int.mul_nonneg (show 0 ≤ M by omega) jb.1
      have la := Int.mul_le_mul_of_nonneg_left ja.2 (show 0 ≤ M by omega)
      have lb := Int.mul_le_mul_of_nonneg_left jb.2 (show 0 ≤ M by omega)
      rw [Int.mul_add, Int.mul_one] at la lb
      refine lv_aload_n hx hb d_Search_spotFloor_84 rfl (lv_at hl 1 rfl) ?_
      refine va_get (D := (dC, dI)) (ci := 3) (v := .int md) (C := R_Search) (T := T_Search) (N := 14) hx hb hts i_Search hown hK hP 0 rfl rfl 4 (by decide) (hts _ wd_85) (fun _ h9 => h9) rfl d_Search_spotFloor_85 ?_
      refine lv_aload_n hx hb d_Search_spotFloor_88 rfl (lv_at hl 1 rfl) ?_
      refine va_get (D := (dC, dI)) (ci := 3) (v := .int md) (C := R_Search) (T := T_Search) (N := 14) hx hb hts i_Search hown hK hP 0 rfl rfl 4 (by decide) (hts _ wd_85) (fun _ h9 => h9) rfl d_Search_spotFloor_89 ?_
      refine lv_imul hx hb d_Search_spotFloor_92 ?_
      refine lv_topi (fun v92 e92 => ?_)
      have h92 : v92.toInt = M * M := by rw [e92]; exact ti_mul hmd hmd (by omega) (by omega)
      refine lv_aload_n hx hb d_Search_spotFloor_93 rfl (lv_at hl 1 rfl) ?_
      refine lv_aload_n hx hb d_Search_spotFloor_94 rfl (lv_at hl 1 rfl) ?_
      refine va_get (D := (dC, dI)) (ci := 3) (v := .int tx) (C := R_Search) (T := T_Search) (N := 14) hx hb hts i_Search hown hK hP 0 rfl rfl 7 (by decide) (hts _ wd_88) (fun _ h9 => h9) rfl d_Search_spotFloor_95 ?_
      refine lv_aload_n hx hb d_Search_spotFloor_98 rfl (lv_at hl 1 rfl) ?_
      refine va_get (D := (dC, dI)) (ci := 3) (v := .int md) (C := R_Search) (T := T_Search) (N := 14) hx hb hts i_Search hown hK hP 0 rfl rfl 4 (by decide) (hts _ wd_85) (fun _ h9 => h9) rfl d_Search_spotFloor_99 ?_
      refine lv_iload_n hx hb d_Search_spotFloor_102 rfl (lv_at hl 3 rfl) ?_
      refine lv_imul hx hb d_Search_spotFloor_103 ?_
      refine lv_topi (fun v103 e103 => ?_)
      have h103 : v103.toInt = M * zaa := by rw [e103]; exact ti_mul hmd haa (by omega) (by omega)
      refine lv_iadd hx hb d_Search_spotFloor_104 ?_
      refine lv_topi (fun v104 e104 => ?_)
      have h104 : v104.toInt = TX + (M * zaa) := by rw [e104]; exact ti_add htx h103 (by omega) (by omega)
      refine lv_aload_n hx hb d_Search_spotFloor_105 rfl (lv_at hl 1 rfl) ?_
      refine va_get (D := (dC, dI)) (ci := 3) (v := .int ty) (C := R_Search) (T := T_Search) (N := 14) hx hb hts i_Search hown hK hP 0 rfl rfl 8 (by decide) (hts _ wd_89) (fun _ h9 => h9) rfl d_Search_spotFloor_106 ?_
      refine lv_aload_n hx hb d_Search_spotFloor_109 rfl (lv_at hl 1 rfl) ?_
      refine va_get (D := (dC, dI)) (ci := 3) (v := .int md) (C := R_Search) (T := T_Search) (N := 14) hx hb hts i_Search hown hK hP 0 rfl rfl 4 (by decide) (hts _ wd_85) (fun _ h9 => h9) rfl d_Search_spotFloor_110 ?_
      refine lv_iload_n hx hb d_Search_spotFloor_113 rfl (lv_at hl 0 rfl) ?_
      refine lv_imul hx hb d_Search_spotFloor_114 ?_
      refine lv_topi (fun v114 e114 => ?_)
      have h114 : v114.toInt = M * zbb := by rw [e114]; exact ti_mul hmd hbb (by omega) (by omega)
      refine lv_iadd hx hb d_Search_spotFloor_115 ?_
      refine lv_topi (fun v115 e115 => ?_)
      have h115 : v115.toInt = TY + (M * zbb) := by rw [e115]; exact ti_add hty h114 (by omega) (by omega)
      refine lv_aload_n hx hb d_Search_spotFloor_116 rfl (lv_at hl 1 rfl) ?_
      refine va_get (D := (dC, dI)) (ci := 3) (v := .int md) (C := R_Search) (T := T_Search) (N := 14) hx hb hts i_Search hown hK hP 0 rfl rfl 4 (by decide) (hts _ wd_85) (fun _ h9 => h9) rfl d_Search_spotFloor_117 ?_
      refine lv_aload_n hx hb d_Search_spotFloor_120 rfl (lv_at hl 1 rfl) ?_
      refine va_get (D := (dC, dI)) (ci := 3) (v := .int md) (C := R_Search) (T := T_Search) (N := 14) hx hb hts i_Search hown hK hP 0 rfl rfl 4 (by decide) (hts _ wd_85) (fun _ h9 => h9) rfl d_Search_spotFloor_121 ?_
      have hPc := hP.sub (ws' := [(hq, .inr (3, [.ref hp, .ref hst, .int lim, .int thd, .int md, .int sz0, .int tm, .int tx, .int ty, .int sx, .int sy, .ref hqf, .ref hkn, .int stp])), (hp, .inr (0, [.int pw, .int ph, .ref hw, .ref hs, .int psr])), (hs, .inl (kS, 263169, .inl fs))]) [0, 1, 2] rfl
      have hKc := hK.sub (tys' := [(kS, .int)]) [0] rfl
      refine va_calli (va_runV (As := [.int v104, .int v115, .int md, .int md]) (rest := [.int v92]) ⟨hx, hb, hml, hown, hts⟩ (c_mostDark l dC dI hq hp hw hs hst hqf hkn kS pw ph psr lim thd md sz0 tm tx ty sx sy stp fs Wd Ht M S TX TY SX SY D hpw hph hmd hsz0 htx hty hsx hsy hB hsum v104 v115 md md (TX + (M * zaa)) (TY + (M * zbb)) M M h104 h115 hmd hmd (by omega) (by omega) (by omega) (by omega) (by omega) (by omega)) (aw_V 4 hts wd_410 wd_412 ws_9 wd_2 wd_413 rfl rfl (by decide +kernel) ⟨Nat.le_of_ble_eq_true rfl, Nat.le_of_ble_eq_true rfl⟩) ⟨ro_blind, va_recv hKc hPc (ci := 3) (q0 := 0) rfl rfl, ro_pre hPc hKc⟩ rfl rfl hl.1 rfl (lv_room (Nat.le_of_ble_eq_true rfl)) d_Search_spotFloor_124 ⟨Nat.le_of_ble_eq_true rfl, Nat.le_of_ble_eq_true rfl⟩) hS (fun q _ h => h.elim) (fun q h => h.elim) (fun v124 _ t9 H124 locs ht hvm h124 hB hz1 hk1 hS => ?_)
      have hP := ro_keep hP hk1
      clear hPc hKc ht hvm hB hz1 hk1
      have r124 := h124.2.2
      refine lv_isub hx hb d_Search_spotFloor_127 ?_
      refine lv_topi (fun v127 e127 => ?_)
      have h127 : v127.toInt = (M * M) - v124.toInt := by rw [e127]; exact ti_sub h92 rfl (by omega) (by omega)
      have hpost : ∃ d, (v127 : Int32).toInt = M * M - d ∧ isMost D SX SY (TX + M * (if k = 0 then 8 else if k = 1 then 7 else if k = 2 then S - 9 else S - 8)) (TY + M * (if k = 0 then S - 8 else if k = 1 then 8 else if k = 2 then 7 else S - 9)) M M d := by
        exact ⟨_, h127, by rw [← iaa, ← ibb]; exact h124⟩
      exact W.iret (v := v127) hx hb hr (fun t ht hW => ⟨⟨v127, (), rfl, hpost, trivial⟩, hS.F ht⟩) hS.2.2 d_Search_spotFloor_128
    · skip
      intro hj83
      refine lv_if_ne (tgt := 56) hx hb d_Search_spotFloor_43 (by decide) (fun c43 => ?_) (fun c43 => ?_)
      · skip
        have c43 : ¬ (k = 0) := fun q => c43 ((ti_eq g1 (ti_k (by decide))).mpr q)
        refine lv_iload_n hx hb d_Search_spotFloor_56 rfl (lv_at hl 2 rfl) ?_
        refine lv_iconst (v := 1) hx hb d_Search_spotFloor_57 (by decide) ?_
        refine lv_icmp_ne (tgt := 66) hx hb d_Search_spotFloor_58 (by decide) (fun c58 => ?_) (fun c58 => ?_)
        · skip
          have c58 : ¬ (k = 1) := fun q => c58 ((ti_eq g1 (ti_k (by decide))).mpr q)
          refine lv_iload_n hx hb d_Search_spotFloor_66 rfl (lv_at hl 2 rfl) ?_
          refine lv_iconst (v := 2) hx hb d_Search_spotFloor_67 (by decide) ?_
          refine lv_icmp_ne (tgt := 76) hx hb d_Search_spotFloor_68 (by decide) (fun c68 => ?_) (fun c68 => ?_)
          · skip
            have c68 : ¬ (k = 2) := fun q => c68 ((ti_eq g1 (ti_k (by decide))).mpr q)
            refine lv_aload_n hx hb d_Search_spotFloor_76 rfl (lv_at hl 1 rfl) ?_
            refine va_get (D := (dC, dI)) (ci := 3) (v := .int sz0) (C := R_Search) (T := T_Search) (N := 14) hx hb hts i_Search hown hK hP 0 rfl rfl 5 (by decide) (hts _ wd_86) (fun _ h9 => h9) rfl d_Search_spotFloor_77 ?_
            refine lv_bipush (v := 9) hx hb d_Search_spotFloor_80 (by decide) ?_
            refine lv_isub hx hb d_Search_spotFloor_82 ?_
            refine lv_topi (fun v82 e82 => ?_)
            have h82 : v82.toInt = S - 9 := by rw [e82]; exact ti_sub hsz0 (ti_k (by decide)) (by omega) (by omega)
            exact hj83 _ _ _ ⟨v82, (S - 9), ls, rfl, lv_sub hl [1, 2, 0] rfl, h82, by rw [if_neg c43, if_neg c58, if_neg c68], hP, hS⟩
          · skip
            have c68 : k = 2 := (ti_eq g1 (ti_k (by decide))).mp c68
            refine lv_bipush (v := 7) hx hb d_Search_spotFloor_71 (by decide) ?_
            refine lv_goto (tgt := 83) hx hb d_Search_spotFloor_73 (by decide) ?_
            exact hj83 _ _ _ ⟨7, 7, ls, rfl, lv_sub hl [1, 2, 0] rfl, (ti_k (by decide)), by rw [if_neg c43, if_neg c58, if_pos c68], hP, hS⟩
        · skip
          have c58 : k = 1 := (ti_eq g1 (ti_k (by decide))).mp c58
          refine lv_bipush (v := 8) hx hb d_Search_spotFloor_61 (by decide) ?_
          refine lv_goto (tgt := 83) hx hb d_Search_spotFloor_63 (by decide) ?_
          exact hj83 _ _ _ ⟨8, 8, ls, rfl, lv_sub hl [1, 2, 0] rfl, (ti_k (by decide)), by rw [if_neg c43, if_pos c58], hP, hS⟩
      · skip
        have c43 : k = 0 := (ti_eq g1 (ti_k (by decide))).mp c43
        refine lv_aload_n hx hb d_Search_spotFloor_46 rfl (lv_at hl 1 rfl) ?_
        refine va_get (D := (dC, dI)) (ci := 3) (v := .int sz0) (C := R_Search) (T := T_Search) (N := 14) hx hb hts i_Search hown hK hP 0 rfl rfl 5 (by decide) (hts _ wd_86) (fun _ h9 => h9) rfl d_Search_spotFloor_47 ?_
        refine lv_bipush (v := 8) hx hb d_Search_spotFloor_50 (by decide) ?_
        refine lv_isub hx hb d_Search_spotFloor_52 ?_
        refine lv_topi (fun v52 e52 => ?_)
        have h52 : v52.toInt = S - 8 := by rw [e52]; exact ti_sub hsz0 (ti_k (by decide)) (by omega) (by omega)
        refine lv_goto (tgt := 83) hx hb d_Search_spotFloor_53 (by decide) ?_
        exact hj83 _ _ _ ⟨v52, (S - 8), ls, rfl, lv_sub hl [1, 2, 0] rfl, h52, by rw [if_pos c43], hP, hS⟩
  · skip
    intro hj41
    refine lv_if_ne (tgt := 9) hx hb d_Search_spotFloor_1 (by decide) (fun c1 => ?_) (fun c1 => ?_)
    · skip
      have c1 : ¬ (k = 0) := fun q => c1 ((ti_eq g1 (ti_k (by decide))).mpr q)
      refine lv_iload_n hx hb d_Search_spotFloor_9 rfl (lv_at hl 1 rfl) ?_
      refine lv_iconst (v := 1) hx hb d_Search_spotFloor_10 (by decide) ?_
      refine lv_icmp_ne (tgt := 19) hx hb d_Search_spotFloor_11 (by decide) (fun c11 => ?_) (fun c11 => ?_)
      · skip
        have c11 : ¬ (k = 1) := fun q => c11 ((ti_eq g1 (ti_k (by decide))).mpr q)
        refine lv_iload_n hx hb d_Search_spotFloor_19 rfl (lv_at hl 1 rfl) ?_
        refine lv_iconst (v := 2) hx hb d_Search_spotFloor_20 (by decide) ?_
        refine lv_icmp_ne (tgt := 34) hx hb d_Search_spotFloor_21 (by decide) (fun c21 => ?_) (fun c21 => ?_)
        · skip
          have c21 : ¬ (k = 2) := fun q => c21 ((ti_eq g1 (ti_k (by decide))).mpr q)
          refine lv_aload_n hx hb d_Search_spotFloor_34 rfl (lv_at hl 0 rfl) ?_
          refine va_get (D := (dC, dI)) (ci := 3) (v := .int sz0) (C := R_Search) (T := T_Search) (N := 14) hx hb hts i_Search hown hK hP 0 rfl rfl 5 (by decide) (hts _ wd_86) (fun _ h9 => h9) rfl d_Search_spotFloor_35 ?_
          refine lv_bipush (v := 8) hx hb d_Search_spotFloor_38 (by decide) ?_
          refine lv_isub hx hb d_Search_spotFloor_40 ?_
          refine lv_topi (fun v40 e40 => ?_)
          have h40 : v40.toInt = S - 8 := by rw [e40]; exact ti_sub hsz0 (ti_k (by decide)) (by omega) (by omega)
          exact hj41 _ _ _ ⟨v40, (S - 8), ls, rfl, lv_sub hl [0, 1] rfl, h40, by rw [if_neg c1, if_neg c11, if_neg c21], hP, hS⟩
        · skip
          have c21 : k = 2 := (ti_eq g1 (ti_k (by decide))).mp c21
          refine lv_aload_n hx hb d_Search_spotFloor_24 rfl (lv_at hl 0 rfl) ?_
          refine va_get (D := (dC, dI)) (ci := 3) (v := .int sz0) (C := R_Search) (T := T_Search) (N := 14) hx hb hts i_Search hown hK hP 0 rfl rfl 5 (by decide) (hts _ wd_86) (fun _ h9 => h9) rfl d_Search_spotFloor_25 ?_
          refine lv_bipush (v := 9) hx hb d_Search_spotFloor_28 (by decide) ?_
          refine lv_isub hx hb d_Search_spotFloor_30 ?_
          refine lv_topi (fun v30 e30 => ?_)
          have h30 : v30.toInt = S - 9 := by rw [e30]; exact ti_sub hsz0 (ti_k (by decide)) (by omega) (by omega)
          refine lv_goto (tgt := 41) hx hb d_Search_spotFloor_31 (by decide) ?_
          exact hj41 _ _ _ ⟨v30, (S - 9), ls, rfl, lv_sub hl [0, 1] rfl, h30, by rw [if_neg c1, if_neg c11, if_pos c21], hP, hS⟩
      · skip
        have c11 : k = 1 := (ti_eq g1 (ti_k (by decide))).mp c11
        refine lv_bipush (v := 7) hx hb d_Search_spotFloor_14 (by decide) ?_
        refine lv_goto (tgt := 41) hx hb d_Search_spotFloor_16 (by decide) ?_
        exact hj41 _ _ _ ⟨7, 7, ls, rfl, lv_sub hl [0, 1] rfl, (ti_k (by decide)), by rw [if_neg c1, if_pos c11], hP, hS⟩
    · skip
      have c1 : k = 0 := (ti_eq g1 (ti_k (by decide))).mp c1
      refine lv_bipush (v := 8) hx hb d_Search_spotFloor_4 (by decide) ?_
      refine lv_goto (tgt := 41) hx hb d_Search_spotFloor_6 (by decide) ?_
      exact hj41 _ _ _ ⟨8, 8, ls, rfl, lv_sub hl [0, 1] rfl, (ti_k (by decide)), by rw [if_pos c1], hP, hS⟩
