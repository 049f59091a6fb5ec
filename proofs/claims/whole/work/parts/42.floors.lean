set_option maxHeartbeats 4000000 in
set_option maxRecDepth 100000 in
theorem c_finderX (l : Launch) (dC : Nat → ClassId) (dI : Nat → Nat → Nat) (hq hp hw hs hst hqf hkn : Nat) (kS : ClassId) (pw ph psr lim thd md sz0 tm tx ty sx sy stp : Int32) (fs : Nat → Int32) (Wd Ht M S TX TY SX SY : Int) (D : Int → Int → Bool) (hpw : pw.toInt = Wd) (hph : ph.toInt = Ht) (hmd : md.toInt = M) (hsz0 : sz0.toInt = S) (htx : tx.toInt = TX) (hty : ty.toInt = TY) (hsx : sx.toInt = SX) (hsy : sy.toInt = SY) (hB : sBnd Wd Ht M S TX TY SX SY) (hsum : ∀ x y, 0 ≤ x → x ≤ Wd → 0 ≤ y → y ≤ Ht → (fs (y * 513 + x).toNat).toInt = cI D 0 0 x y) (a1 : Int32) (k : Int) (g1 : a1.toInt = k) (hk0 : 0 ≤ k) (hk3 : k ≤ 3) (hS21 : 21 ≤ S) : Met l y_Search_finderX (.code y_Search_finderX b_Search_finderX 2 (some .int) :: allw) ({ frames := 1, cells := 0, slots := 0, locals := 20 }) (va_Pc [.ref hq, .int a1] (ro_B (dC, dI) vwCl [(hq, .inr (3, [.ref hp, .ref hst, .int lim, .int thd, .int md, .int sz0, .int tm, .int tx, .int ty, .int sx, .int sy, .ref hqf, .ref hkn, .int stp])), (hp, .inr (0, [.int pw, .int ph, .ref hw, .ref hs, .int psr])), (hs, .inl (kS, 263169, .inl fs))] [(kS, .int)])) (va_Qi (fun (r : Int32) (_ : Unit) => r.toInt = TX + if k = 1 ∨ k = 2 then (S - 7) * M else 0) (fun _ _ => True) (fun _ => False)) 0 0 (fun _ => False) := by
  refine Met.ofW (cc := b_Search_finderX) (maxL := 2) (ret := (some .int)) (by decide) rfl ?_
  intro p e s m args below meth c s₁ B hml hv
  obtain ⟨rfl, hP, hK⟩ := hv
  have hx := B.exec
  have hb := B.bytes
  have hr := B.returns
  have hts : ∀ w ∈ allw, w.before _ s = true := fun w h => atoms_spec (ws := .code y_Search_finderX b_Search_finderX 2 (some .int) :: allw) B.pre w (List.mem_cons_of_mem _ h)
  have hown : s.vm.findClass R_Search = some m.cls := findClass_of_methodNamed B.named
  have hlocks := B.notSynchronized
  have hS : va_S (fun _ => False) s.heap s.heap [] := va_S.rf
  have hP : va_P (dC, dI) vwCl [(hq, .inr (3, [.ref hp, .ref hst, .int lim, .int thd, .int md, .int sz0, .int tm, .int tx, .int ty, .int sx, .int sy, .ref hqf, .ref hkn, .int stp])), (hp, .inr (0, [.int pw, .int ph, .ref hw, .ref hs, .int psr])), (hs, .inl (kS, 263169, .inl fs))] s.heap := hP
  have hl := lv_entry ([.ref hq, .int a1]) (n := 2) (Nat.le_of_ble_eq_true rfl)
  rw [lg_entry_eq]
  generalize (lg_sl ([.ref hq, .int a1]) ++ List.replicate (2 - (lg_sl ([.ref hq, .int a1])).length) Slot.unset).toArray = ls at hl ⊢
  have hl : lv_has ls 2 [(0, .ref hq), (1, .int a1)] := hl
  obtain ⟨hW1, hW2, hH1, hH2, hM1, hM2, hS1, hS2, hX1, hX2, hY1, hY2, hx1, hx2, hy1, hy2⟩ := id hB
  have mS := mul_b2 (a := S - 7) (b := M) (p := 170) (q := 16) (by omega) (by omega) (by omega) (by omega)
  have mS0 := Int.mul_nonneg (show 0 ≤ S - 7 by omega) (show 0 ≤ M by omega)
  refine lv_aload_n hx hb d_Search_finderX_0 rfl (lv_at hl 0 rfl) ?_
  refine va_get (D := (dC, dI)) (ci := 3) (v := .int tx) (C := R_Search) (T := T_Search) (N := 14) hx hb hts i_Search hown hK hP 0 rfl rfl 7 (by decide) (hts _ wd_88) (fun _ h9 => h9) rfl d_Search_finderX_1 ?_
  refine lv_iload_n hx hb d_Search_finderX_4 rfl (lv_at hl 1 rfl) ?_
  have hPc := hP.sub (ws' := []) [] rfl
  have hKc := hK.sub (tys' := []) [] rfl
  refine va_calli (va_runS (As := [.int a1]) (rest := [.int tx]) ⟨hx, hb, hml, hown, hts⟩ (c_isRight l dC dI a1 k g1) (aw_S 1 hts wd_439 wd_440 wd_2 wd_441 rfl rfl (by decide +kernel) ⟨Nat.le_of_ble_eq_true rfl, Nat.le_of_ble_eq_true rfl⟩) ⟨ro_blind, ro_pre hPc hKc⟩ rfl rfl hl.1 rfl (lv_room (Nat.le_of_ble_eq_true rfl)) d_Search_finderX_5 ⟨Nat.le_of_ble_eq_true rfl, Nat.le_of_ble_eq_true rfl⟩) hS (fun q _ h => h.elim) (fun q h => h.elim) (fun v5 _ t9 H5 locs ht hvm h5 hB hz1 hk1 hS => ?_)
  have hP := ro_keep hP hk1
  clear hPc hKc ht hvm hB hz1 hk1
  refine lv_if_eq (tgt := 26) hx hb d_Search_finderX_8 (by decide) (fun c8 => ?_) (fun c8 => ?_)
  · skip
    have c8 : ¬ (k = 1 ∨ k = 2) := bi_z h5 c8
    refine lv_iconst (v := 0) hx hb d_Search_finderX_26 (by decide) ?_
    refine lv_iadd hx hb d_Search_finderX_27 ?_
    refine lv_topi (fun v27 e27 => ?_)
    have h27 : v27.toInt = TX + 0 := by rw [e27]; exact ti_add htx (ti_k (by decide)) (by omega) (by omega)
    have hpost : (v27 : Int32).toInt = TX + if k = 1 ∨ k = 2 then (S - 7) * M else 0 := by
      rw [h27, if_neg c8]
    exact W.iret (v := v27) hx hb hr (fun t ht hW => ⟨⟨v27, (), rfl, hpost, trivial⟩, hS.F ht⟩) hS.2.2 d_Search_finderX_28
  · skip
    have c8 : k = 1 ∨ k = 2 := bi_nz h5 c8
    refine lv_aload_n hx hb d_Search_finderX_11 rfl (lv_at hl 0 rfl) ?_
    refine va_get (D := (dC, dI)) (ci := 3) (v := .int sz0) (C := R_Search) (T := T_Search) (N := 14) hx hb hts i_Search hown hK hP 0 rfl rfl 5 (by decide) (hts _ wd_86) (fun _ h9 => h9) rfl d_Search_finderX_12 ?_
    refine lv_bipush (v := 7) hx hb d_Search_finderX_15 (by decide) ?_
    refine lv_isub hx hb d_Search_finderX_17 ?_
    refine lv_topi (fun v17 e17 => ?_)
    have h17 : v17.toInt = S - 7 := by rw [e17]; exact ti_sub hsz0 (ti_k (by decide)) (by omega) (by omega)
    refine lv_aload_n hx hb d_Search_finderX_18 rfl (lv_at hl 0 rfl) ?_
    refine va_get (D := (dC, dI)) (ci := 3) (v := .int md) (C := R_Search) (T := T_Search) (N := 14) hx hb hts i_Search hown hK hP 0 rfl rfl 4 (by decide) (hts _ wd_85) (fun _ h9 => h9) rfl d_Search_finderX_19 ?_
    refine lv_imul hx hb d_Search_finderX_22 ?_
    refine lv_topi (fun v22 e22 => ?_)
    have h22 : v22.toInt = (S - 7) * M := by rw [e22]; exact ti_mul h17 hmd (by omega) (by omega)
    refine lv_goto (tgt := 27) hx hb d_Search_finderX_23 (by decide) ?_
    refine lv_iadd hx hb d_Search_finderX_27 ?_
    refine lv_topi (fun v27 e27 => ?_)
    have h27 : v27.toInt = TX + ((S - 7) * M) := by rw [e27]; exact ti_add htx h22 (by omega) (by omega)
    have hpost : (v27 : Int32).toInt = TX + if k = 1 ∨ k = 2 then (S - 7) * M else 0 := by
      rw [h27, if_pos c8]
    exact W.iret (v := v27) hx hb hr (fun t ht hW => ⟨⟨v27, (), rfl, hpost, trivial⟩, hS.F ht⟩) hS.2.2 d_Search_finderX_28

set_option maxHeartbeats 4000000 in
set_option maxRecDepth 100000 in
theorem c_finderY (l : Launch) (dC : Nat → ClassId) (dI : Nat → Nat → Nat) (hq hp hw hs hst hqf hkn : Nat) (kS : ClassId) (pw ph psr lim thd md sz0 tm tx ty sx sy stp : Int32) (fs : Nat → Int32) (Wd Ht M S TX TY SX SY : Int) (D : Int → Int → Bool) (hpw : pw.toInt = Wd) (hph : ph.toInt = Ht) (hmd : md.toInt = M) (hsz0 : sz0.toInt = S) (htx : tx.toInt = TX) (hty : ty.toInt = TY) (hsx : sx.toInt = SX) (hsy : sy.toInt = SY) (hB : sBnd Wd Ht M S TX TY SX SY) (hsum : ∀ x y, 0 ≤ x → x ≤ Wd → 0 ≤ y → y ≤ Ht → (fs (y * 513 + x).toNat).toInt = cI D 0 0 x y) (a1 : Int32) (k : Int) (g1 : a1.toInt = k) (hk0 : 0 ≤ k) (hk3 : k ≤ 3) (hS21 : 21 ≤ S) : Met l y_Search_finderY (.code y_Search_finderY b_Search_finderY 2 (some .int) :: allw) ({ frames := 1, cells := 0, slots := 0, locals := 20 }) (va_Pc [.ref hq, .int a1] (ro_B (dC, dI) vwCl [(hq, .inr (3, [.ref hp, .ref hst, .int lim, .int thd, .int md, .int sz0, .int tm, .int tx, .int ty, .int sx, .int sy, .ref hqf, .ref hkn, .int stp])), (hp, .inr (0, [.int pw, .int ph, .ref hw, .ref hs, .int psr])), (hs, .inl (kS, 263169, .inl fs))] [(kS, .int)])) (va_Qi (fun (r : Int32) (_ : Unit) => r.toInt = TY + if 2 ≤ k then (S - 7) * M else 0) (fun _ _ => True) (fun _ => False)) 0 0 (fun _ => False) := by
  refine Met.ofW (cc := b_Search_finderY) (maxL := 2) (ret := (some .int)) (by decide) rfl ?_
  intro p e s m args below meth c s₁ B hml hv
  obtain ⟨rfl, hP, hK⟩ := hv
  have hx := B.exec
  have hb := B.bytes
  have hr := B.returns
  have hts : ∀ w ∈ allw, w.before _ s = true := fun w h => atoms_spec (ws := .code y_Search_finderY b_Search_finderY 2 (some .int) :: allw) B.pre w (List.mem_cons_of_mem _ h)
  have hown : s.vm.findClass R_Search = some m.cls := findClass_of_methodNamed B.named
  have hlocks := B.notSynchronized
  have hS : va_S (fun _ => False) s.heap s.heap [] := va_S.rf
  have hP : va_P (dC, dI) vwCl [(hq, .inr (3, [.ref hp, .ref hst, .int lim, .int thd, .int md, .int sz0, .int tm, .int tx, .int ty, .int sx, .int sy, .ref hqf, .ref hkn, .int stp])), (hp, .inr (0, [.int pw, .int ph, .ref hw, .ref hs, .int psr])), (hs, .inl (kS, 263169, .inl fs))] s.heap := hP
  have hl := lv_entry ([.ref hq, .int a1]) (n := 2) (Nat.le_of_ble_eq_true rfl)
  rw [lg_entry_eq]
  generalize (lg_sl ([.ref hq, .int a1]) ++ List.replicate (2 - (lg_sl ([.ref hq, .int a1])).length) Slot.unset).toArray = ls at hl ⊢
  have hl : lv_has ls 2 [(0, .ref hq), (1, .int a1)] := hl
  obtain ⟨hW1, hW2, hH1, hH2, hM1, hM2, hS1, hS2, hX1, hX2, hY1, hY2, hx1, hx2, hy1, hy2⟩ := id hB
  have mS := mul_b2 (a := S - 7) (b := M) (p := 170) (q := 16) (by omega) (by omega) (by omega) (by omega)
  have mS0 := Int.mul_nonneg (show 0 ≤ S - 7 by omega) (show 0 ≤ M by omega)
  refine lv_aload_n hx hb d_Search_finderY_0 rfl (lv_at hl 0 rfl) ?_
  refine va_get (D := (dC, dI)) (ci := 3) (v := .int ty) (C := R_Search) (T := T_Search) (N := 14) hx hb hts i_Search hown hK hP 0 rfl rfl 8 (by decide) (hts _ wd_89) (fun _ h9 => h9) rfl d_Search_finderY_1 ?_
  refine lv_iload_n hx hb d_Search_finderY_4 rfl (lv_at hl 1 rfl) ?_
  have hPc := hP.sub (ws' := []) [] rfl
  have hKc := hK.sub (tys' := []) [] rfl
  refine va_calli (va_runS (As := [.int a1]) (rest := [.int ty]) ⟨hx, hb, hml, hown, hts⟩ (c_isLow l dC dI a1 k g1) (aw_S 1 hts wd_442 wd_443 wd_2 wd_444 rfl rfl (by decide +kernel) ⟨Nat.le_of_ble_eq_true rfl, Nat.le_of_ble_eq_true rfl⟩) ⟨ro_blind, ro_pre hPc hKc⟩ rfl rfl hl.1 rfl (lv_room (Nat.le_of_ble_eq_true rfl)) d_Search_finderY_5 ⟨Nat.le_of_ble_eq_true rfl, Nat.le_of_ble_eq_true rfl⟩) hS (fun q _ h => h.elim) (fun q h => h.elim) (fun v5 _ t9 H5 locs ht hvm h5 hB hz1 hk1 hS => ?_)
  have hP := ro_keep hP hk1
  clear hPc hKc ht hvm hB hz1 hk1
  refine lv_if_eq (tgt := 26) hx hb d_Search_finderY_8 (by decide) (fun c8 => ?_) (fun c8 => ?_)
  · skip
    have c8 : ¬ (2 ≤ k) := bi_z h5 c8
    refine lv_iconst (v := 0) hx hb d_Search_finderY_26 (by decide) ?_
    refine lv_iadd hx hb d_Search_finderY_27 ?_
    refine lv_topi (fun v27 e27 => ?_)
    have h27 : v27.toInt = TY + 0 := by rw [e27]; exact ti_add hty (ti_k (by decide)) (by omega) (by omega)
    have hpost : (v27 : Int32).toInt = TY + if 2 ≤ k then (S - 7) * M else 0 := by
      rw [h27, if_neg c8]
    exact W.iret (v := v27) hx hb hr (fun t ht hW => ⟨⟨v27, (), rfl, hpost, trivial⟩, hS.F ht⟩) hS.2.2 d_Search_finderY_28
  · skip
    have c8 : 2 ≤ k := bi_nz h5 c8
    refine lv_aload_n hx hb d_Search_finderY_11 rfl (lv_at hl 0 rfl) ?_
    refine va_get (D := (dC, dI)) (ci := 3) (v := .int sz0) (C := R_Search) (T := T_Search) (N := 14) hx hb hts i_Search hown hK hP 0 rfl rfl 5 (by decide) (hts _ wd_86) (fun _ h9 => h9) rfl d_Search_finderY_12 ?_
    refine lv_bipush (v := 7) hx hb d_Search_finderY_15 (by decide) ?_
    refine lv_isub hx hb d_Search_finderY_17 ?_
    refine lv_topi (fun v17 e17 => ?_)
    have h17 : v17.toInt = S - 7 := by rw [e17]; exact ti_sub hsz0 (ti_k (by decide)) (by omega) (by omega)
    refine lv_aload_n hx hb d_Search_finderY_18 rfl (lv_at hl 0 rfl) ?_
    refine va_get (D := (dC, dI)) (ci := 3) (v := .int md) (C := R_Search) (T := T_Search) (N := 14) hx hb hts i_Search hown hK hP 0 rfl rfl 4 (by decide) (hts _ wd_85) (fun _ h9 => h9) rfl d_Search_finderY_19 ?_
    refine lv_imul hx hb d_Search_finderY_22 ?_
    refine lv_topi (fun v22 e22 => ?_)
    have h22 : v22.toInt = (S - 7) * M := by rw [e22]; exact ti_mul h17 hmd (by omega) (by omega)
    refine lv_goto (tgt := 27) hx hb d_Search_finderY_23 (by decide) ?_
    refine lv_iadd hx hb d_Search_finderY_27 ?_
    refine lv_topi (fun v27 e27 => ?_)
    have h27 : v27.toInt = TY + ((S - 7) * M) := by rw [e27]; exact ti_add hty h22 (by omega) (by omega)
    have hpost : (v27 : Int32).toInt = TY + if 2 ≤ k then (S - 7) * M else 0 := by
      rw [h27, if_pos c8]
    exact W.iret (v := v27) hx hb hr (fun t ht hW => ⟨⟨v27, (), rfl, hpost, trivial⟩, hS.F ht⟩) hS.2.2 d_Search_finderY_28

set_option maxHeartbeats 4000000 in
set_option maxRecDepth 100000 in
theorem c_lineX (l : Launch) (dC : Nat → ClassId) (dI : Nat → Nat → Nat) (hq hp hw hs hst hqf hkn : Nat) (kS : ClassId) (pw ph psr lim thd md sz0 tm tx ty sx sy stp : Int32) (fs : Nat → Int32) (Wd Ht M S TX TY SX SY : Int) (D : Int → Int → Bool) (hpw : pw.toInt = Wd) (hph : ph.toInt = Ht) (hmd : md.toInt = M) (hsz0 : sz0.toInt = S) (htx : tx.toInt = TX) (hty : ty.toInt = TY) (hsx : sx.toInt = SX) (hsy : sy.toInt = SY) (hB : sBnd Wd Ht M S TX TY SX SY) (hsum : ∀ x y, 0 ≤ x → x ≤ Wd → 0 ≤ y → y ≤ Ht → (fs (y * 513 + x).toNat).toInt = cI D 0 0 x y) (a1 : Int32) (k : Int) (g1 : a1.toInt = k) (hk0 : 0 ≤ k) (hk3 : k ≤ 3) (hS21 : 21 ≤ S) : Met l y_Search_lineX (.code y_Search_lineX b_Search_lineX 2 (some .int) :: allw) ({ frames := 0, cells := 0, slots := 0, locals := 0 }) (va_Pc [.ref hq, .int a1] (ro_B (dC, dI) vwCl [(hq, .inr (3, [.ref hp, .ref hst, .int lim, .int thd, .int md, .int sz0, .int tm, .int tx, .int ty, .int sx, .int sy, .ref hqf, .ref hkn, .int stp])), (hp, .inr (0, [.int pw, .int ph, .ref hw, .ref hs, .int psr])), (hs, .inl (kS, 263169, .inl fs))] [(kS, .int)])) (va_Qi (fun (r : Int32) (_ : Unit) => r.toInt = TX + M * (if k = 1 then S - 7 else if k = 3 then 6 else 8)) (fun _ _ => True) (fun _ => False)) 0 0 (fun _ => False) := by
  refine Met.ofW (cc := b_Search_lineX) (maxL := 2) (ret := (some .int)) (by decide) rfl ?_
  intro p e s m args below meth c s₁ B hml hv
  obtain ⟨rfl, hP, hK⟩ := hv
  have hx := B.exec
  have hb := B.bytes
  have hr := B.returns
  have hts : ∀ w ∈ allw, w.before _ s = true := fun w h => atoms_spec (ws := .code y_Search_lineX b_Search_lineX 2 (some .int) :: allw) B.pre w (List.mem_cons_of_mem _ h)
  have hown : s.vm.findClass R_Search = some m.cls := findClass_of_methodNamed B.named
  have hlocks := B.notSynchronized
  have hS : va_S (fun _ => False) s.heap s.heap [] := va_S.rf
  have hP : va_P (dC, dI) vwCl [(hq, .inr (3, [.ref hp, .ref hst, .int lim, .int thd, .int md, .int sz0, .int tm, .int tx, .int ty, .int sx, .int sy, .ref hqf, .ref hkn, .int stp])), (hp, .inr (0, [.int pw, .int ph, .ref hw, .ref hs, .int psr])), (hs, .inl (kS, 263169, .inl fs))] s.heap := hP
  have hl := lv_entry ([.ref hq, .int a1]) (n := 2) (Nat.le_of_ble_eq_true rfl)
  rw [lg_entry_eq]
  generalize (lg_sl ([.ref hq, .int a1]) ++ List.replicate (2 - (lg_sl ([.ref hq, .int a1])).length) Slot.unset).toArray = ls at hl ⊢
  have hl : lv_has ls 2 [(0, .ref hq), (1, .int a1)] := hl
  obtain ⟨hW1, hW2, hH1, hH2, hM1, hM2, hS1, hS2, hX1, hX2, hY1, hY2, hx1, hx2, hy1, hy2⟩ := id hB
  have mS := mul_b2 (a := M) (b := S - 7) (p := 16) (q := 170) (by omega) (by omega) (by omega) (by omega)
  have mS0 := Int.mul_nonneg (show 0 ≤ M by omega) (show 0 ≤ S - 7 by omega)
  refine lv_aload_n hx hb d_Search_lineX_0 rfl (lv_at hl 0 rfl) ?_
  refine va_get (D := (dC, dI)) (ci := 3) (v := .int tx) (C := R_Search) (T := T_Search) (N := 14) hx hb hts i_Search hown hK hP 0 rfl rfl 7 (by decide) (hts _ wd_88) (fun _ h9 => h9) rfl d_Search_lineX_1 ?_
  refine lv_aload_n hx hb d_Search_lineX_4 rfl (lv_at hl 0 rfl) ?_
  refine va_get (D := (dC, dI)) (ci := 3) (v := .int md) (C := R_Search) (T := T_Search) (N := 14) hx hb hts i_Search hown hK hP 0 rfl rfl 4 (by decide) (hts _ wd_85) (fun _ h9 => h9) rfl d_Search_lineX_5 ?_
  refine lv_iload_n hx hb d_Search_lineX_8 rfl (lv_at hl 1 rfl) ?_
  refine lv_iconst (v := 1) hx hb d_Search_lineX_9 (by decide) ?_
  refine lv_icmp_ne (tgt := 23) hx hb d_Search_lineX_10 (by decide) (fun c10 => ?_) (fun c10 => ?_)
  · skip
    have c10 : ¬ (k = 1) := fun q => c10 ((ti_eq g1 (ti_k (by decide))).mpr q)
    refine lv_iload_n hx hb d_Search_lineX_23 rfl (lv_at hl 1 rfl) ?_
    refine lv_iconst (v := 3) hx hb d_Search_lineX_24 (by decide) ?_
    refine lv_icmp_ne (tgt := 33) hx hb d_Search_lineX_25 (by decide) (fun c25 => ?_) (fun c25 => ?_)
    · skip
      have c25 : ¬ (k = 3) := fun q => c25 ((ti_eq g1 (ti_k (by decide))).mpr q)
      refine lv_bipush (v := 8) hx hb d_Search_lineX_33 (by decide) ?_
      refine lv_imul hx hb d_Search_lineX_35 ?_
      refine lv_topi (fun v35 e35 => ?_)
      have h35 : v35.toInt = M * 8 := by rw [e35]; exact ti_mul hmd (ti_k (by decide)) (by omega) (by omega)
      refine lv_iadd hx hb d_Search_lineX_36 ?_
      refine lv_topi (fun v36 e36 => ?_)
      have h36 : v36.toInt = TX + (M * 8) := by rw [e36]; exact ti_add htx h35 (by omega) (by omega)
      have hpost : (v36 : Int32).toInt = TX + M * (if k = 1 then S - 7 else if k = 3 then 6 else 8) := by
        rw [h36, if_neg c10, if_neg c25]
      exact W.iret (v := v36) hx hb hr (fun t ht hW => ⟨⟨v36, (), rfl, hpost, trivial⟩, hS.F ht⟩) hS.2.2 d_Search_lineX_37
    · skip
      have c25 : k = 3 := (ti_eq g1 (ti_k (by decide))).mp c25
      refine lv_bipush (v := 6) hx hb d_Search_lineX_28 (by decide) ?_
      refine lv_goto (tgt := 35) hx hb d_Search_lineX_30 (by decide) ?_
      refine lv_imul hx hb d_Search_lineX_35 ?_
      refine lv_topi (fun v35 e35 => ?_)
      have h35 : v35.toInt = M * 6 := by rw [e35]; exact ti_mul hmd (ti_k (by decide)) (by omega) (by omega)
      refine lv_iadd hx hb d_Search_lineX_36 ?_
      refine lv_topi (fun v36 e36 => ?_)
      have h36 : v36.toInt = TX + (M * 6) := by rw [e36]; exact ti_add htx h35 (by omega) (by omega)
      have hpost : (v36 : Int32).toInt = TX + M * (if k = 1 then S - 7 else if k = 3 then 6 else 8) := by
        rw [h36, if_neg c10, if_pos c25]
      exact W.iret (v := v36) hx hb hr (fun t ht hW => ⟨⟨v36, (), rfl, hpost, trivial⟩, hS.F ht⟩) hS.2.2 d_Search_lineX_37
  · skip
    have c10 : k = 1 := (ti_eq g1 (ti_k (by decide))).mp c10
    refine lv_aload_n hx hb d_Search_lineX_13 rfl (lv_at hl 0 rfl) ?_
    refine va_get (D := (dC, dI)) (ci := 3) (v := .int sz0) (C := R_Search) (T := T_Search) (N := 14) hx hb hts i_Search hown hK hP 0 rfl rfl 5 (by decide) (hts _ wd_86) (fun _ h9 => h9) rfl d_Search_lineX_14 ?_
    refine lv_bipush (v := 7) hx hb d_Search_lineX_17 (by decide) ?_
    refine lv_isub hx hb d_Search_lineX_19 ?_
    refine lv_topi (fun v19 e19 => ?_)
    have h19 : v19.toInt = S - 7 := by rw [e19]; exact ti_sub hsz0 (ti_k (by decide)) (by omega) (by omega)
    refine lv_goto (tgt := 35) hx hb d_Search_lineX_20 (by decide) ?_
    refine lv_imul hx hb d_Search_lineX_35 ?_
    refine lv_topi (fun v35 e35 => ?_)
    have h35 : v35.toInt = M * (S - 7) := by rw [e35]; exact ti_mul hmd h19 (by omega) (by omega)
    refine lv_iadd hx hb d_Search_lineX_36 ?_
    refine lv_topi (fun v36 e36 => ?_)
    have h36 : v36.toInt = TX + (M * (S - 7)) := by rw [e36]; exact ti_add htx h35 (by omega) (by omega)
    have hpost : (v36 : Int32).toInt = TX + M * (if k = 1 then S - 7 else if k = 3 then 6 else 8) := by
      rw [h36, if_pos c10]
    exact W.iret (v := v36) hx hb hr (fun t ht hW => ⟨⟨v36, (), rfl, hpost, trivial⟩, hS.F ht⟩) hS.2.2 d_Search_lineX_37

set_option maxHeartbeats 4000000 in
set_option maxRecDepth 100000 in
theorem c_lineY (l : Launch) (dC : Nat → ClassId) (dI : Nat → Nat → Nat) (hq hp hw hs hst hqf hkn : Nat) (kS : ClassId) (pw ph psr lim thd md sz0 tm tx ty sx sy stp : Int32) (fs : Nat → Int32) (Wd Ht M S TX TY SX SY : Int) (D : Int → Int → Bool) (hpw : pw.toInt = Wd) (hph : ph.toInt = Ht) (hmd : md.toInt = M) (hsz0 : sz0.toInt = S) (htx : tx.toInt = TX) (hty : ty.toInt = TY) (hsx : sx.toInt = SX) (hsy : sy.toInt = SY) (hB : sBnd Wd Ht M S TX TY SX SY) (hsum : ∀ x y, 0 ≤ x → x ≤ Wd → 0 ≤ y → y ≤ Ht → (fs (y * 513 + x).toNat).toInt = cI D 0 0 x y) (a1 : Int32) (k : Int) (g1 : a1.toInt = k) (hk0 : 0 ≤ k) (hk3 : k ≤ 3) (hS21 : 21 ≤ S) : Met l y_Search_lineY (.code y_Search_lineY b_Search_lineY 2 (some .int) :: allw) ({ frames := 0, cells := 0, slots := 0, locals := 0 }) (va_Pc [.ref hq, .int a1] (ro_B (dC, dI) vwCl [(hq, .inr (3, [.ref hp, .ref hst, .int lim, .int thd, .int md, .int sz0, .int tm, .int tx, .int ty, .int sx, .int sy, .ref hqf, .ref hkn, .int stp])), (hp, .inr (0, [.int pw, .int ph, .ref hw, .ref hs, .int psr])), (hs, .inl (kS, 263169, .inl fs))] [(kS, .int)])) (va_Qi (fun (r : Int32) (_ : Unit) => r.toInt = TY + M * (if k = 0 then 6 else if k = 2 then S - 7 else 8)) (fun _ _ => True) (fun _ => False)) 0 0 (fun _ => False) := by
  refine Met.ofW (cc := b_Search_lineY) (maxL := 2) (ret := (some .int)) (by decide) rfl ?_
  intro p e s m args below meth c s₁ B hml hv
  obtain ⟨rfl, hP, hK⟩ := hv
  have hx := B.exec
  have hb := B.bytes
  have hr := B.returns
  have hts : ∀ w ∈ allw, w.before _ s = true := fun w h => atoms_spec (ws := .code y_Search_lineY b_Search_lineY 2 (some .int) :: allw) B.pre w (List.mem_cons_of_mem _ h)
  have hown : s.vm.findClass R_Search = some m.cls := findClass_of_methodNamed B.named
  have hlocks := B.notSynchronized
  have hS : va_S (fun _ => False) s.heap s.heap [] := va_S.rf
  have hP : va_P (dC, dI) vwCl [(hq, .inr (3, [.ref hp, .ref hst, .int lim, .int thd, .int md, .int sz0, .int tm, .int tx, .int ty, .int sx, .int sy, .ref hqf, .ref hkn, .int stp])), (hp, .inr (0, [.int pw, .int ph, .ref hw, .ref hs, .int psr])), (hs, .inl (kS, 263169, .inl fs))] s.heap := hP
  have hl := lv_entry ([.ref hq, .int a1]) (n := 2) (Nat.le_of_ble_eq_true rfl)
  rw [lg_entry_eq]
  generalize (lg_sl ([.ref hq, .int a1]) ++ List.replicate (2 - (lg_sl ([.ref hq, .int a1])).length) Slot.unset).toArray = ls at hl ⊢
  have hl : lv_has ls 2 [(0, .ref hq), (1, .int a1)] := hl
  obtain ⟨hW1, hW2, hH1, hH2, hM1, hM2, hS1, hS2, hX1, hX2, hY1, hY2, hx1, hx2, hy1, hy2⟩ := id hB
  have mS := mul_b2 (a := M) (b := S - 7) (p := 16) (q := 170) (by omega) (by omega) (by omega) (by omega)
  have mS0 := Int.mul_nonneg (show 0 ≤ M by omega) (show 0 ≤ S - 7 by omega)
  refine lv_aload_n hx hb d_Search_lineY_0 rfl (lv_at hl 0 rfl) ?_
  refine va_get (D := (dC, dI)) (ci := 3) (v := .int ty) (C := R_Search) (T := T_Search) (N := 14) hx hb hts i_Search hown hK hP 0 rfl rfl 8 (by decide) (hts _ wd_89) (fun _ h9 => h9) rfl d_Search_lineY_1 ?_
  refine lv_aload_n hx hb d_Search_lineY_4 rfl (lv_at hl 0 rfl) ?_
  refine va_get (D := (dC, dI)) (ci := 3) (v := .int md) (C := R_Search) (T := T_Search) (N := 14) hx hb hts i_Search hown hK hP 0 rfl rfl 4 (by decide) (hts _ wd_85) (fun _ h9 => h9) rfl d_Search_lineY_5 ?_
  refine lv_iload_n hx hb d_Search_lineY_8 rfl (lv_at hl 1 rfl) ?_
  refine lv_if_ne (tgt := 17) hx hb d_Search_lineY_9 (by decide) (fun c9 => ?_) (fun c9 => ?_)
  · skip
    have c9 : ¬ (k = 0) := fun q => c9 ((ti_eq g1 (ti_k (by decide))).mpr q)
    refine lv_iload_n hx hb d_Search_lineY_17 rfl (lv_at hl 1 rfl) ?_
    refine lv_iconst (v := 2) hx hb d_Search_lineY_18 (by decide) ?_
    refine lv_icmp_ne (tgt := 32) hx hb d_Search_lineY_19 (by decide) (fun c19 => ?_) (fun c19 => ?_)
    · skip
      have c19 : ¬ (k = 2) := fun q => c19 ((ti_eq g1 (ti_k (by decide))).mpr q)
      refine lv_bipush (v := 8) hx hb d_Search_lineY_32 (by decide) ?_
      refine lv_imul hx hb d_Search_lineY_34 ?_
      refine lv_topi (fun v34 e34 => ?_)
      have h34 : v34.toInt = M * 8 := by rw [e34]; exact ti_mul hmd (ti_k (by decide)) (by omega) (by omega)
      refine lv_iadd hx hb d_Search_lineY_35 ?_
      refine lv_topi (fun v35 e35 => ?_)
      have h35 : v35.toInt = TY + (M * 8) := by rw [e35]; exact ti_add hty h34 (by omega) (by omega)
      have hpost : (v35 : Int32).toInt = TY + M * (if k = 0 then 6 else if k = 2 then S - 7 else 8) := by
        rw [h35, if_neg c9, if_neg c19]
      exact W.iret (v := v35) hx hb hr (fun t ht hW => ⟨⟨v35, (), rfl, hpost, trivial⟩, hS.F ht⟩) hS.2.2 d_Search_lineY_36
    · skip
      have c19 : k = 2 := (ti_eq g1 (ti_k (by decide))).mp c19
      refine lv_aload_n hx hb d_Search_lineY_22 rfl (lv_at hl 0 rfl) ?_
      refine va_get (D := (dC, dI)) (ci := 3) (v := .int sz0) (C := R_Search) (T := T_Search) (N := 14) hx hb hts i_Search hown hK hP 0 rfl rfl 5 (by decide) (hts _ wd_86) (fun _ h9 => h9) rfl d_Search_lineY_23 ?_
      refine lv_bipush (v := 7) hx hb d_Search_lineY_26 (by decide) ?_
      refine lv_isub hx hb d_Search_lineY_28 ?_
      refine lv_topi (fun v28 e28 => ?_)
      have h28 : v28.toInt = S - 7 := by rw [e28]; exact ti_sub hsz0 (ti_k (by decide)) (by omega) (by omega)
      refine lv_goto (tgt := 34) hx hb d_Search_lineY_29 (by decide) ?_
      refine lv_imul hx hb d_Search_lineY_34 ?_
      refine lv_topi (fun v34 e34 => ?_)
      have h34 : v34.toInt = M * (S - 7) := by rw [e34]; exact ti_mul hmd h28 (by omega) (by omega)
      refine lv_iadd hx hb d_Search_lineY_35 ?_
      refine lv_topi (fun v35 e35 => ?_)
      have h35 : v35.toInt = TY + (M * (S - 7)) := by rw [e35]; exact ti_add hty h34 (by omega) (by omega)
      have hpost : (v35 : Int32).toInt = TY + M * (if k = 0 then 6 else if k = 2 then S - 7 else 8) := by
        rw [h35, if_neg c9, if_pos c19]
      exact W.iret (v := v35) hx hb hr (fun t ht hW => ⟨⟨v35, (), rfl, hpost, trivial⟩, hS.F ht⟩) hS.2.2 d_Search_lineY_36
  · skip
    have c9 : k = 0 := (ti_eq g1 (ti_k (by decide))).mp c9
    refine lv_bipush (v := 6) hx hb d_Search_lineY_12 (by decide) ?_
    refine lv_goto (tgt := 34) hx hb d_Search_lineY_14 (by decide) ?_
    refine lv_imul hx hb d_Search_lineY_34 ?_
    refine lv_topi (fun v34 e34 => ?_)
    have h34 : v34.toInt = M * 6 := by rw [e34]; exact ti_mul hmd (ti_k (by decide)) (by omega) (by omega)
    refine lv_iadd hx hb d_Search_lineY_35 ?_
    refine lv_topi (fun v35 e35 => ?_)
    have h35 : v35.toInt = TY + (M * 6) := by rw [e35]; exact ti_add hty h34 (by omega) (by omega)
    have hpost : (v35 : Int32).toInt = TY + M * (if k = 0 then 6 else if k = 2 then S - 7 else 8) := by
      rw [h35, if_pos c9]
    exact W.iret (v := v35) hx hb hr (fun t ht hW => ⟨⟨v35, (), rfl, hpost, trivial⟩, hS.F ht⟩) hS.2.2 d_Search_lineY_36

set_option maxHeartbeats 4000000 in
set_option maxRecDepth 100000 in
theorem c_finderFloor (l : Launch) (dC : Nat → ClassId) (dI : Nat → Nat → Nat) (hq hp hw hs hst hqf hkn : Nat) (kS : ClassId) (pw ph psr lim thd md sz0 tm tx ty sx sy stp : Int32) (fs : Nat → Int32) (Wd Ht M S TX TY SX SY : Int) (D : Int → Int → Bool) (hpw : pw.toInt = Wd) (hph : ph.toInt = Ht) (hmd : md.toInt = M) (hsz0 : sz0.toInt = S) (htx : tx.toInt = TX) (hty : ty.toInt = TY) (hsx : sx.toInt = SX) (hsy : sy.toInt = SY) (hB : sBnd Wd Ht M S TX TY SX SY) (hsum : ∀ x y, 0 ≤ x → x ≤ Wd → 0 ≤ y → y ≤ Ht → (fs (y * 513 + x).toNat).toInt = cI D 0 0 x y) (a1 a2 : Int32) (x y : Int) (g1 : a1.toInt = x) (g2 : a2.toInt = y) (b1 : 0 ≤ x) (b2 : 0 ≤ y) (b5 : x + 7 * M + SX ≤ Wd) (b6 : y + 7 * M + SY ≤ Ht) : Met l y_Search_finderFloor (.code y_Search_finderFloor b_Search_finderFloor 7 (some .int) :: allw) ({ frames := 2, cells := 0, slots := 0, locals := 54 }) (va_Pc [.ref hq, .int a1, .int a2] (ro_B (dC, dI) vwCl [(hq, .inr (3, [.ref hp, .ref hst, .int lim, .int thd, .int md, .int sz0, .int tm, .int tx, .int ty, .int sx, .int sy, .ref hqf, .ref hkn, .int stp])), (hp, .inr (0, [.int pw, .int ph, .ref hw, .ref hs, .int psr])), (hs, .inl (kS, 263169, .inl fs))] [(kS, .int)])) (va_Qi (fun (r : Int32) (_ : Unit) => (∀ dx dy, 0 ≤ dx → dx ≤ SX → 0 ≤ dy → dy ≤ SY → r.toInt ≤ w7 D M (x + dx) (y + dy)) ∧ -1000000 ≤ r.toInt ∧ r.toInt ≤ 1000000) (fun _ _ => True) (fun _ => False)) 0 0 (fun _ => False) := by
  refine Met.ofW (cc := b_Search_finderFloor) (maxL := 7) (ret := (some .int)) (by decide) rfl ?_
  intro p e s m args below meth c s₁ B hml hv
  obtain ⟨rfl, hP, hK⟩ := hv
  have hx := B.exec
  have hb := B.bytes
  have hr := B.returns
  have hts : ∀ w ∈ allw, w.before _ s = true := fun w h => atoms_spec (ws := .code y_Search_finderFloor b_Search_finderFloor 7 (some .int) :: allw) B.pre w (List.mem_cons_of_mem _ h)
  have hown : s.vm.findClass R_Search = some m.cls := findClass_of_methodNamed B.named
  have hlocks := B.notSynchronized
  have hS : va_S (fun _ => False) s.heap s.heap [] := va_S.rf
  have hP : va_P (dC, dI) vwCl [(hq, .inr (3, [.ref hp, .ref hst, .int lim, .int thd, .int md, .int sz0, .int tm, .int tx, .int ty, .int sx, .int sy, .ref hqf, .ref hkn, .int stp])), (hp, .inr (0, [.int pw, .int ph, .ref hw, .ref hs, .int psr])), (hs, .inl (kS, 263169, .inl fs))] s.heap := hP
  have hl := lv_entry ([.ref hq, .int a1, .int a2]) (n := 7) (Nat.le_of_ble_eq_true rfl)
  rw [lg_entry_eq]
  generalize (lg_sl ([.ref hq, .int a1, .int a2]) ++ List.replicate (7 - (lg_sl ([.ref hq, .int a1, .int a2])).length) Slot.unset).toArray = ls at hl ⊢
  have hl : lv_has ls 7 [(0, .ref hq), (1, .int a1), (2, .int a2)] := hl
  obtain ⟨hW1, hW2, hH1, hH2, hM1, hM2, hS1, hS2, hX1, hX2, hY1, hY2, hx1, hx2, hy1, hy2⟩ := id hB
  have e9 : 9 * M * M = 9 * (M * M) := Int.mul_assoc _ _ _
  have e24 : 24 * M * M = 24 * (M * M) := Int.mul_assoc _ _ _
  have m2 := mul_b (a := M) (b := M) (n := 16) (by omega) (by omega) (by omega) (by omega)
  have m1 := Int.mul_le_mul (show 1 ≤ M by omega) (show 1 ≤ M by omega) (by omega) (by omega)
  have e3 : 3 * M * (3 * M) = 9 * (M * M) := sq_k 3 M
  have e5 : 5 * M * (5 * M) = 25 * (M * M) := sq_k 5 M
  have e7 : 7 * M * (7 * M) = 49 * (M * M) := sq_k 7 M
  refine lv_aload_n hx hb d_Search_finderFloor_0 rfl (lv_at hl 0 rfl) ?_
  refine va_get (D := (dC, dI)) (ci := 3) (v := .int md) (C := R_Search) (T := T_Search) (N := 14) hx hb hts i_Search hown hK hP 0 rfl rfl 4 (by decide) (hts _ wd_85) (fun _ h9 => h9) rfl d_Search_finderFloor_1 ?_
  refine lv_istore_n (lv' := [(3, .int md), (0, .ref hq), (1, .int a1), (2, .int a2)]) hx hb d_Search_finderFloor_4 rfl hl (by decide) rfl (fun ls hl => ?_)
  refine lv_aload_n hx hb d_Search_finderFloor_5 rfl (lv_at hl 1 rfl) ?_
  refine lv_iload_n hx hb d_Search_finderFloor_6 rfl (lv_at hl 2 rfl) ?_
  refine lv_iconst (v := 2) hx hb d_Search_finderFloor_7 (by decide) ?_
  refine lv_iload_n hx hb d_Search_finderFloor_8 rfl (lv_at hl 0 rfl) ?_
  refine lv_imul hx hb d_Search_finderFloor_9 ?_
  refine lv_topi (fun v9 e9 => ?_)
  have h9 : v9.toInt = 2 * M := by rw [e9]; exact ti_mul (ti_k (by decide)) hmd (by omega) (by omega)
  refine lv_iadd hx hb d_Search_finderFloor_10 ?_
  refine lv_topi (fun v10 e10 => ?_)
  have h10 : v10.toInt = x + (2 * M) := by rw [e10]; exact ti_add g1 h9 (by omega) (by omega)
  refine lv_iload_n hx hb d_Search_finderFloor_11 rfl (lv_at hl 3 rfl) ?_
  refine lv_iconst (v := 2) hx hb d_Search_finderFloor_12 (by decide) ?_
  refine lv_iload_n hx hb d_Search_finderFloor_13 rfl (lv_at hl 0 rfl) ?_
  refine lv_imul hx hb d_Search_finderFloor_14 ?_
  refine lv_topi (fun v14 e14 => ?_)
  have h14 : v14.toInt = 2 * M := by rw [e14]; exact ti_mul (ti_k (by decide)) hmd (by omega) (by omega)
  refine lv_iadd hx hb d_Search_finderFloor_15 ?_
  refine lv_topi (fun v15 e15 => ?_)
  have h15 : v15.toInt = y + (2 * M) := by rw [e15]; exact ti_add g2 h14 (by omega) (by omega)
  refine lv_iconst (v := 3) hx hb d_Search_finderFloor_16 (by decide) ?_
  refine lv_iload_n hx hb d_Search_finderFloor_17 rfl (lv_at hl 0 rfl) ?_
  refine lv_imul hx hb d_Search_finderFloor_18 ?_
  refine lv_topi (fun v18 e18 => ?_)
  have h18 : v18.toInt = 3 * M := by rw [e18]; exact ti_mul (ti_k (by decide)) hmd (by omega) (by omega)
  refine lv_iconst (v := 3) hx hb d_Search_finderFloor_19 (by decide) ?_
  refine lv_iload_n hx hb d_Search_finderFloor_20 rfl (lv_at hl 0 rfl) ?_
  refine lv_imul hx hb d_Search_finderFloor_21 ?_
  refine lv_topi (fun v21 e21 => ?_)
  have h21 : v21.toInt = 3 * M := by rw [e21]; exact ti_mul (ti_k (by decide)) hmd (by omega) (by omega)
  have hPc := hP.sub (ws' := [(hq, .inr (3, [.ref hp, .ref hst, .int lim, .int thd, .int md, .int sz0, .int tm, .int tx, .int ty, .int sx, .int sy, .ref hqf, .ref hkn, .int stp])), (hp, .inr (0, [.int pw, .int ph, .ref hw, .ref hs, .int psr])), (hs, .inl (kS, 263169, .inl fs))]) [0, 1, 2] rfl
  have hKc := hK.sub (tys' := [(kS, .int)]) [0] rfl
  refine va_calli (va_runV (As := [.int v10, .int v15, .int v18, .int v21]) (rest := []) ⟨hx, hb, hml, hown, hts⟩ (c_mostDark l dC dI hq hp hw hs hst hqf hkn kS pw ph psr lim thd md sz0 tm tx ty sx sy stp fs Wd Ht M S TX TY SX SY D hpw hph hmd hsz0 htx hty hsx hsy hB hsum v10 v15 v18 v21 (x + (2 * M)) (y + (2 * M)) (3 * M) (3 * M) h10 h15 h18 h21 (by omega) (by omega) (by omega) (by omega) (by omega) (by omega)) (aw_V 4 hts wd_410 wd_412 ws_9 wd_2 wd_413 rfl rfl (by decide +kernel) ⟨Nat.le_of_ble_eq_true rfl, Nat.le_of_ble_eq_true rfl⟩) ⟨ro_blind, va_recv hKc hPc (ci := 3) (q0 := 0) rfl rfl, ro_pre hPc hKc⟩ rfl rfl hl.1 rfl (lv_room (Nat.le_of_ble_eq_true rfl)) d_Search_finderFloor_22 ⟨Nat.le_of_ble_eq_true rfl, Nat.le_of_ble_eq_true rfl⟩) hS (fun q _ h => h.elim) (fun q h => h.elim) (fun v22 _ t9 H22 locs ht hvm h22 hB hz1 hk1 hS => ?_)
  have hP := ro_keep hP hk1
  clear hPc hKc ht hvm hB hz1 hk1
  have r22 := h22.2.2
  refine lv_istore (lv' := [(4, .int v22), (3, .int md), (0, .ref hq), (1, .int a1), (2, .int a2)]) hx hb d_Search_finderFloor_25 hl (by decide) rfl (fun ls hl => ?_)
  refine lv_aload_n hx hb d_Search_finderFloor_27 rfl (lv_at hl 2 rfl) ?_
  refine lv_iload_n hx hb d_Search_finderFloor_28 rfl (lv_at hl 3 rfl) ?_
  refine lv_iload_n hx hb d_Search_finderFloor_29 rfl (lv_at hl 1 rfl) ?_
  refine lv_iadd hx hb d_Search_finderFloor_30 ?_
  refine lv_topi (fun v30 e30 => ?_)
  have h30 : v30.toInt = x + M := by rw [e30]; exact ti_add g1 hmd (by omega) (by omega)
  refine lv_iload_n hx hb d_Search_finderFloor_31 rfl (lv_at hl 4 rfl) ?_
  refine lv_iload_n hx hb d_Search_finderFloor_32 rfl (lv_at hl 1 rfl) ?_
  refine lv_iadd hx hb d_Search_finderFloor_33 ?_
  refine lv_topi (fun v33 e33 => ?_)
  have h33 : v33.toInt = y + M := by rw [e33]; exact ti_add g2 hmd (by omega) (by omega)
  refine lv_iconst (v := 5) hx hb d_Search_finderFloor_34 (by decide) ?_
  refine lv_iload_n hx hb d_Search_finderFloor_35 rfl (lv_at hl 1 rfl) ?_
  refine lv_imul hx hb d_Search_finderFloor_36 ?_
  refine lv_topi (fun v36 e36 => ?_)
  have h36 : v36.toInt = 5 * M := by rw [e36]; exact ti_mul (ti_k (by decide)) hmd (by omega) (by omega)
  refine lv_iconst (v := 5) hx hb d_Search_finderFloor_37 (by decide) ?_
  refine lv_iload_n hx hb d_Search_finderFloor_38 rfl (lv_at hl 1 rfl) ?_
  refine lv_imul hx hb d_Search_finderFloor_39 ?_
  refine lv_topi (fun v39 e39 => ?_)
  have h39 : v39.toInt = 5 * M := by rw [e39]; exact ti_mul (ti_k (by decide)) hmd (by omega) (by omega)
  have hPc := hP.sub (ws' := [(hq, .inr (3, [.ref hp, .ref hst, .int lim, .int thd, .int md, .int sz0, .int tm, .int tx, .int ty, .int sx, .int sy, .ref hqf, .ref hkn, .int stp])), (hp, .inr (0, [.int pw, .int ph, .ref hw, .ref hs, .int psr])), (hs, .inl (kS, 263169, .inl fs))]) [0, 1, 2] rfl
  have hKc := hK.sub (tys' := [(kS, .int)]) [0] rfl
  refine va_calli (va_runV (As := [.int v30, .int v33, .int v36, .int v39]) (rest := []) ⟨hx, hb, hml, hown, hts⟩ (c_leastDark l dC dI hq hp hw hs hst hqf hkn kS pw ph psr lim thd md sz0 tm tx ty sx sy stp fs Wd Ht M S TX TY SX SY D hpw hph hmd hsz0 htx hty hsx hsy hB hsum v30 v33 v36 v39 (x + M) (y + M) (5 * M) (5 * M) h30 h33 h36 h39 (by omega) (by omega) (by omega) (by omega) (by omega) (by omega)) (aw_V 4 hts wd_423 wd_425 ws_11 wd_2 wd_426 rfl rfl (by decide +kernel) ⟨Nat.le_of_ble_eq_true rfl, Nat.le_of_ble_eq_true rfl⟩) ⟨ro_blind, va_recv hKc hPc (ci := 3) (q0 := 0) rfl rfl, ro_pre hPc hKc⟩ rfl rfl hl.1 rfl (lv_room (Nat.le_of_ble_eq_true rfl)) d_Search_finderFloor_40 ⟨Nat.le_of_ble_eq_true rfl, Nat.le_of_ble_eq_true rfl⟩) hS (fun q _ h => h.elim) (fun q h => h.elim) (fun v40 _ t9 H40 locs ht hvm h40 hB hz1 hk1 hS => ?_)
  have hP := ro_keep hP hk1
  clear hPc hKc ht hvm hB hz1 hk1
  have r40 := h40.2.2
  refine lv_istore (lv' := [(5, .int v40), (4, .int v22), (3, .int md), (0, .ref hq), (1, .int a1), (2, .int a2)]) hx hb d_Search_finderFloor_43 hl (by decide) rfl (fun ls hl => ?_)
  refine lv_aload_n hx hb d_Search_finderFloor_45 rfl (lv_at hl 3 rfl) ?_
  refine lv_iload_n hx hb d_Search_finderFloor_46 rfl (lv_at hl 4 rfl) ?_
  refine lv_iload_n hx hb d_Search_finderFloor_47 rfl (lv_at hl 5 rfl) ?_
  refine lv_bipush (v := 7) hx hb d_Search_finderFloor_48 (by decide) ?_
  refine lv_iload_n hx hb d_Search_finderFloor_50 rfl (lv_at hl 2 rfl) ?_
  refine lv_imul hx hb d_Search_finderFloor_51 ?_
  refine lv_topi (fun v51 e51 => ?_)
  have h51 : v51.toInt = 7 * M := by rw [e51]; exact ti_mul (ti_k (by decide)) hmd (by omega) (by omega)
  refine lv_bipush (v := 7) hx hb d_Search_finderFloor_52 (by decide) ?_
  refine lv_iload_n hx hb d_Search_finderFloor_54 rfl (lv_at hl 2 rfl) ?_
  refine lv_imul hx hb d_Search_finderFloor_55 ?_
  refine lv_topi (fun v55 e55 => ?_)
  have h55 : v55.toInt = 7 * M := by rw [e55]; exact ti_mul (ti_k (by decide)) hmd (by omega) (by omega)
  have hPc := hP.sub (ws' := [(hq, .inr (3, [.ref hp, .ref hst, .int lim, .int thd, .int md, .int sz0, .int tm, .int tx, .int ty, .int sx, .int sy, .ref hqf, .ref hkn, .int stp])), (hp, .inr (0, [.int pw, .int ph, .ref hw, .ref hs, .int psr])), (hs, .inl (kS, 263169, .inl fs))]) [0, 1, 2] rfl
  have hKc := hK.sub (tys' := [(kS, .int)]) [0] rfl
  refine va_calli (va_runV (As := [.int a1, .int a2, .int v51, .int v55]) (rest := []) ⟨hx, hb, hml, hown, hts⟩ (c_mostDark l dC dI hq hp hw hs hst hqf hkn kS pw ph psr lim thd md sz0 tm tx ty sx sy stp fs Wd Ht M S TX TY SX SY D hpw hph hmd hsz0 htx hty hsx hsy hB hsum a1 a2 v51 v55 x y (7 * M) (7 * M) g1 g2 h51 h55 (by omega) (by omega) (by omega) (by omega) (by omega) (by omega)) (aw_V 4 hts wd_410 wd_412 ws_9 wd_2 wd_413 rfl rfl (by decide +kernel) ⟨Nat.le_of_ble_eq_true rfl, Nat.le_of_ble_eq_true rfl⟩) ⟨ro_blind, va_recv hKc hPc (ci := 3) (q0 := 0) rfl rfl, ro_pre hPc hKc⟩ rfl rfl hl.1 rfl (lv_room (Nat.le_of_ble_eq_true rfl)) d_Search_finderFloor_56 ⟨Nat.le_of_ble_eq_true rfl, Nat.le_of_ble_eq_true rfl⟩) hS (fun q _ h => h.elim) (fun q h => h.elim) (fun v56 _ t9 H56 locs ht hvm h56 hB hz1 hk1 hS => ?_)
  have hP := ro_keep hP hk1
  clear hPc hKc ht hvm hB hz1 hk1
  have r56 := h56.2.2
  refine lv_iload hx hb d_Search_finderFloor_59 (lv_at hl 0 rfl) ?_
  refine lv_isub hx hb d_Search_finderFloor_61 ?_
  refine lv_topi (fun v61 e61 => ?_)
  have h61 : v61.toInt = v56.toInt - v40.toInt := by rw [e61]; exact ti_sub rfl rfl (by omega) (by omega)
  refine lv_istore (lv' := [(6, .int v61), (5, .int v40), (4, .int v22), (3, .int md), (0, .ref hq), (1, .int a1), (2, .int a2)]) hx hb d_Search_finderFloor_62 hl (by decide) rfl (fun ls hl => ?_)
  refine lv_bipush (v := 9) hx hb d_Search_finderFloor_64 (by decide) ?_
  refine lv_iload_n hx hb d_Search_finderFloor_66 rfl (lv_at hl 3 rfl) ?_
  refine lv_imul hx hb d_Search_finderFloor_67 ?_
  refine lv_topi (fun v67 e67 => ?_)
  have h67 : v67.toInt = 9 * M := by rw [e67]; exact ti_mul (ti_k (by decide)) hmd (by omega) (by omega)
  refine lv_iload_n hx hb d_Search_finderFloor_68 rfl (lv_at hl 3 rfl) ?_
  refine lv_imul hx hb d_Search_finderFloor_69 ?_
  refine lv_topi (fun v69 e69 => ?_)
  have h69 : v69.toInt = (9 * M) * M := by rw [e69]; exact ti_mul h67 hmd (by omega) (by omega)
  refine lv_iload hx hb d_Search_finderFloor_70 (lv_at hl 2 rfl) ?_
  refine lv_isub hx hb d_Search_finderFloor_72 ?_
  refine lv_topi (fun v72 e72 => ?_)
  have h72 : v72.toInt = ((9 * M) * M) - v22.toInt := by rw [e72]; exact ti_sub h69 rfl (by omega) (by omega)
  refine lv_iload hx hb d_Search_finderFloor_73 (lv_at hl 1 rfl) ?_
  refine lv_iload hx hb d_Search_finderFloor_75 (lv_at hl 2 rfl) ?_
  refine lv_isub hx hb d_Search_finderFloor_77 ?_
  refine lv_topi (fun v77 e77 => ?_)
  have h77 : v77.toInt = v40.toInt - v22.toInt := by rw [e77]; exact ti_sub rfl rfl (by omega) (by omega)
  refine lv_iconst (v := 0) hx hb d_Search_finderFloor_78 (by decide) ?_
  refine va_mmax hx hb (by rw [hml]; exact hl.1.symm) hown (hts _ wd_422) (hts _ wd_148) (hts _ wd_11) (hts _ wd_149) (Nat.le_of_ble_eq_true rfl) (Nat.le_of_ble_eq_true rfl) (Nat.le_of_ble_eq_true rfl) (Nat.le_of_ble_eq_true rfl) d_Search_finderFloor_79 ?_
  refine lv_topi (fun v79 e79 => ?_)
  have h79 : v79.toInt = max (v40.toInt - v22.toInt) 0 := by rw [e79]; exact ti_max h77 (ti_k (by decide))
  refine lv_iadd hx hb d_Search_finderFloor_82 ?_
  refine lv_topi (fun v82 e82 => ?_)
  have h82 : v82.toInt = (((9 * M) * M) - v22.toInt) + (max (v40.toInt - v22.toInt) 0) := by rw [e82]; exact ti_add h72 h79 (by omega) (by omega)
  refine lv_bipush (v := 24) hx hb d_Search_finderFloor_83 (by decide) ?_
  refine lv_iload_n hx hb d_Search_finderFloor_85 rfl (lv_at hl 3 rfl) ?_
  refine lv_imul hx hb d_Search_finderFloor_86 ?_
  refine lv_topi (fun v86 e86 => ?_)
  have h86 : v86.toInt = 24 * M := by rw [e86]; exact ti_mul (ti_k (by decide)) hmd (by omega) (by omega)
  refine lv_iload_n hx hb d_Search_finderFloor_87 rfl (lv_at hl 3 rfl) ?_
  refine lv_imul hx hb d_Search_finderFloor_88 ?_
  refine lv_topi (fun v88 e88 => ?_)
  have h88 : v88.toInt = (24 * M) * M := by rw [e88]; exact ti_mul h86 hmd (by omega) (by omega)
  refine lv_iload hx hb d_Search_finderFloor_89 (lv_at hl 0 rfl) ?_
  refine lv_isub hx hb d_Search_finderFloor_91 ?_
  refine lv_topi (fun v91 e91 => ?_)
  have h91 : v91.toInt = ((24 * M) * M) - (v56.toInt - v40.toInt) := by rw [e91]; exact ti_sub h88 h61 (by omega) (by omega)
  refine lv_iconst (v := 0) hx hb d_Search_finderFloor_92 (by decide) ?_
  refine va_mmax hx hb (by rw [hml]; exact hl.1.symm) hown (hts _ wd_422) (hts _ wd_148) (hts _ wd_11) (hts _ wd_149) (Nat.le_of_ble_eq_true rfl) (Nat.le_of_ble_eq_true rfl) (Nat.le_of_ble_eq_true rfl) (Nat.le_of_ble_eq_true rfl) d_Search_finderFloor_93 ?_
  refine lv_topi (fun v93 e93 => ?_)
  have h93 : v93.toInt = max (((24 * M) * M) - (v56.toInt - v40.toInt)) 0 := by rw [e93]; exact ti_max h91 (ti_k (by decide))
  refine lv_iadd hx hb d_Search_finderFloor_96 ?_
  refine lv_topi (fun v96 e96 => ?_)
  have h96 : v96.toInt = ((((9 * M) * M) - v22.toInt) + (max (v40.toInt - v22.toInt) 0)) + (max (((24 * M) * M) - (v56.toInt - v40.toInt)) 0) := by rw [e96]; exact ti_add h82 h93 (by omega) (by omega)
  have hpost : (∀ dx dy, 0 ≤ dx → dx ≤ SX → 0 ≤ dy → dy ≤ SY → v96.toInt ≤ w7 D M (x + dx) (y + dy)) ∧ -1000000 ≤ v96.toInt ∧ v96.toInt ≤ 1000000 := by
    refine ⟨fun dx dy d1 d2 d3 d4 => ?_, by omega, by omega⟩
    rw [h96]
    exact floor7 h22 h40 h56 (by omega) dx dy d1 d2 d3 d4
  exact W.iret (v := v96) hx hb hr (fun t ht hW => ⟨⟨v96, (), rfl, hpost, trivial⟩, hS.F ht⟩) hS.2.2 d_Search_finderFloor_97

set_option maxHeartbeats 4000000 in
set_option maxRecDepth 100000 in
theorem c_borderFloor (l : Launch) (dC : Nat → ClassId) (dI : Nat → Nat → Nat) (hq hp hw hs hst hqf hkn : Nat) (kS : ClassId) (pw ph psr lim thd md sz0 tm tx ty sx sy stp : Int32) (fs : Nat → Int32) (Wd Ht M S TX TY SX SY : Int) (D : Int → Int → Bool) (hpw : pw.toInt = Wd) (hph : ph.toInt = Ht) (hmd : md.toInt = M) (hsz0 : sz0.toInt = S) (htx : tx.toInt = TX) (hty : ty.toInt = TY) (hsx : sx.toInt = SX) (hsy : sy.toInt = SY) (hB : sBnd Wd Ht M S TX TY SX SY) (hsum : ∀ x y, 0 ≤ x → x ≤ Wd → 0 ≤ y → y ≤ Ht → (fs (y * 513 + x).toNat).toInt = cI D 0 0 x y) (a1 : Int32) (k : Int) (g1 : a1.toInt = k) (hk0 : 0 ≤ k) (hk3 : k ≤ 3) (hS21 : 21 ≤ S) (a2 a3 : Int32) (x y : Int) (g2 : a2.toInt = x) (g3 : a3.toInt = y) (b1 : 0 ≤ x) (b2 : 0 ≤ y) (b3 : (k = 1 ∨ k = 2) → M ≤ x) (b4 : 2 ≤ k → M ≤ y) (b5 : x + 7 * M + SX ≤ Wd) (b6 : y + 7 * M + SY ≤ Ht) (b7 : ¬ (k = 1 ∨ k = 2) → x + 8 * M + SX ≤ Wd) (b8 : ¬ 2 ≤ k → y + 8 * M + SY ≤ Ht) : Met l y_Search_borderFloor (.code y_Search_borderFloor b_Search_borderFloor 7 (some .int) :: allw) ({ frames := 2, cells := 0, slots := 0, locals := 53 }) (va_Pc [.ref hq, .int a1, .int a2, .int a3] (ro_B (dC, dI) vwCl [(hq, .inr (3, [.ref hp, .ref hst, .int lim, .int thd, .int md, .int sz0, .int tm, .int tx, .int ty, .int sx, .int sy, .ref hqf, .ref hkn, .int stp])), (hp, .inr (0, [.int pw, .int ph, .ref hw, .ref hs, .int psr])), (hs, .inl (kS, 263169, .inl fs))] [(kS, .int)])) (va_Qi (fun (r : Int32) (_ : Unit) => (∀ dx dy, 0 ≤ dx → dx ≤ SX → 0 ≤ dy → dy ≤ SY → r.toInt ≤ bd D M k (x + dx) (y + dy)) ∧ -1000000 ≤ r.toInt ∧ r.toInt ≤ 1000000) (fun _ _ => True) (fun _ => False)) 0 0 (fun _ => False) := by
  refine Met.ofW (cc := b_Search_borderFloor) (maxL := 7) (ret := (some .int)) (by decide) rfl ?_
  intro p e s m args below meth c s₁ B hml hv
  obtain ⟨rfl, hP, hK⟩ := hv
  have hx := B.exec
  have hb := B.bytes
  have hr := B.returns
  have hts : ∀ w ∈ allw, w.before _ s = true := fun w h => atoms_spec (ws := .code y_Search_borderFloor b_Search_borderFloor 7 (some .int) :: allw) B.pre w (List.mem_cons_of_mem _ h)
  have hown : s.vm.findClass R_Search = some m.cls := findClass_of_methodNamed B.named
  have hlocks := B.notSynchronized
  have hS : va_S (fun _ => False) s.heap s.heap [] := va_S.rf
  have hP : va_P (dC, dI) vwCl [(hq, .inr (3, [.ref hp, .ref hst, .int lim, .int thd, .int md, .int sz0, .int tm, .int tx, .int ty, .int sx, .int sy, .ref hqf, .ref hkn, .int stp])), (hp, .inr (0, [.int pw, .int ph, .ref hw, .ref hs, .int psr])), (hs, .inl (kS, 263169, .inl fs))] s.heap := hP
  have hl := lv_entry ([.ref hq, .int a1, .int a2, .int a3]) (n := 7) (Nat.le_of_ble_eq_true rfl)
  rw [lg_entry_eq]
  generalize (lg_sl ([.ref hq, .int a1, .int a2, .int a3]) ++ List.replicate (7 - (lg_sl ([.ref hq, .int a1, .int a2, .int a3])).length) Slot.unset).toArray = ls at hl ⊢
  have hl : lv_has ls 7 [(0, .ref hq), (1, .int a1), (2, .int a2), (3, .int a3)] := hl
  obtain ⟨hW1, hW2, hH1, hH2, hM1, hM2, hS1, hS2, hX1, hX2, hY1, hY2, hx1, hx2, hy1, hy2⟩ := id hB
  have m2 := mul_b (a := M) (b := M) (n := 16) (by omega) (by omega) (by omega) (by omega)
  have m1 := Int.mul_le_mul (show 1 ≤ M by omega) (show 1 ≤ M by omega) (by omega) (by omega)
  have f7 : M * (7 * M) = 7 * (M * M) := Int.mul_left_comm _ _ _
  have f8 : 8 * M * M = 8 * (M * M) := Int.mul_assoc _ _ _
  refine lv_aload_n hx hb d_Search_borderFloor_0 rfl (lv_at hl 0 rfl) ?_
  refine va_get (D := (dC, dI)) (ci := 3) (v := .int md) (C := R_Search) (T := T_Search) (N := 14) hx hb hts i_Search hown hK hP 0 rfl rfl 4 (by decide) (hts _ wd_85) (fun _ h9 => h9) rfl d_Search_borderFloor_1 ?_
  refine lv_istore (lv' := [(4, .int md), (0, .ref hq), (1, .int a1), (2, .int a2), (3, .int a3)]) hx hb d_Search_borderFloor_4 hl (by decide) rfl (fun ls hl => ?_)
  refine lv_iload_n hx hb d_Search_borderFloor_6 rfl (lv_at hl 2 rfl) ?_
  have hPc := hP.sub (ws' := []) [] rfl
  have hKc := hK.sub (tys' := []) [] rfl
  refine va_calli (va_runS (As := [.int a1]) (rest := []) ⟨hx, hb, hml, hown, hts⟩ (c_isRight l dC dI a1 k g1) (aw_S 1 hts wd_439 wd_440 wd_2 wd_441 rfl rfl (by decide +kernel) ⟨Nat.le_of_ble_eq_true rfl, Nat.le_of_ble_eq_true rfl⟩) ⟨ro_blind, ro_pre hPc hKc⟩ rfl rfl hl.1 rfl (lv_room (Nat.le_of_ble_eq_true rfl)) d_Search_borderFloor_7 ⟨Nat.le_of_ble_eq_true rfl, Nat.le_of_ble_eq_true rfl⟩) hS (fun q _ h => h.elim) (fun q h => h.elim) (fun v7 _ t9 H7 locs ht hvm h7 hB hz1 hk1 hS => ?_)
  have hP := ro_keep hP hk1
  clear hPc hKc ht hvm hB hz1 hk1
  refine w_cut (I := fun H' locs' g' => ∃ (bx : Int32) (zbx : Int) (ls : Array Slot), g' = F0 m 27 ls [.int bx] ∧ lv_has ls 7 [(0, .ref hq), (1, .int a1), (2, .int a2), (3, .int a3), (4, .int md)] ∧ bx.toInt = zbx ∧ (zbx = if k = 1 ∨ k = 2 then x - M else x + 7 * M) ∧ va_P (dC, dI) vwCl [(hq, .inr (3, [.ref hp, .ref hst, .int lim, .int thd, .int md, .int sz0, .int tm, .int tx, .int ty, .int sx, .int sy, .ref hqf, .ref hkn, .int stp])), (hp, .inr (0, [.int pw, .int ph, .ref hw, .ref hs, .int psr])), (hs, .inl (kS, 263169, .inl fs))] H' ∧ va_S (fun _ => False) s.heap H' locs') ?_ ?_
  · skip
    intro H27 locs g' hI
    obtain ⟨bx, zbx, ls, rfl, hl, hbx, ibx, hP, hS⟩ := hI
    refine lv_istore (lv' := [(5, .int bx), (0, .ref hq), (1, .int a1), (2, .int a2), (3, .int a3), (4, .int md)]) hx hb d_Search_borderFloor_27 hl (by decide) rfl (fun ls hl => ?_)
    refine lv_iload_n hx hb d_Search_borderFloor_29 rfl (lv_at hl 2 rfl) ?_
    have hPc := hP.sub (ws' := []) [] rfl
    have hKc := hK.sub (tys' := []) [] rfl
    refine va_calli (va_runS (As := [.int a1]) (rest := []) ⟨hx, hb, hml, hown, hts⟩ (c_isLow l dC dI a1 k g1) (aw_S 1 hts wd_442 wd_443 wd_2 wd_444 rfl rfl (by decide +kernel) ⟨Nat.le_of_ble_eq_true rfl, Nat.le_of_ble_eq_true rfl⟩) ⟨ro_blind, ro_pre hPc hKc⟩ rfl rfl hl.1 rfl (lv_room (Nat.le_of_ble_eq_true rfl)) d_Search_borderFloor_30 ⟨Nat.le_of_ble_eq_true rfl, Nat.le_of_ble_eq_true rfl⟩) hS (fun q _ h => h.elim) (fun q h => h.elim) (fun v30 _ t9 H30 locs ht hvm h30 hB hz1 hk1 hS => ?_)
    have hP := ro_keep hP hk1
    clear hPc hKc ht hvm hB hz1 hk1
    refine w_cut (I := fun H' locs' g' => ∃ (byy : Int32) (zbyy : Int) (ls : Array Slot), g' = F0 m 50 ls [.int byy] ∧ lv_has ls 7 [(0, .ref hq), (1, .int a1), (2, .int a2), (3, .int a3), (4, .int md), (5, .int bx)] ∧ byy.toInt = zbyy ∧ (zbyy = if 2 ≤ k then y - M else y + 7 * M) ∧ va_P (dC, dI) vwCl [(hq, .inr (3, [.ref hp, .ref hst, .int lim, .int thd, .int md, .int sz0, .int tm, .int tx, .int ty, .int sx, .int sy, .ref hqf, .ref hkn, .int stp])), (hp, .inr (0, [.int pw, .int ph, .ref hw, .ref hs, .int psr])), (hs, .inl (kS, 263169, .inl fs))] H' ∧ va_S (fun _ => False) s.heap H' locs') ?_ ?_
    · skip
      intro H50 locs g' hI
      obtain ⟨byy, zbyy, ls, rfl, hl, hbyy, iby, hP, hS⟩ := hI
      refine lv_istore (lv' := [(6, .int byy), (0, .ref hq), (1, .int a1), (2, .int a2), (3, .int a3), (4, .int md), (5, .int bx)]) hx hb d_Search_borderFloor_50 hl (by decide) rfl (fun ls hl => ?_)
      have ibx2 : zbx ≤ x + 7 * M ∧ 0 ≤ zbx ∧ zbx + M + SX ≤ Wd := by
        by_cases q : k = 1 ∨ k = 2
        · rw [if_pos q] at ibx; have := b3 q; omega
        · rw [if_neg q] at ibx; have := b7 q; omega
      have iby2 : zbyy ≤ y + 7 * M ∧ 0 ≤ zbyy ∧ zbyy + M + SY ≤ Ht := by
        by_cases q : 2 ≤ k
        · rw [if_pos q] at iby; have := b4 q; omega
        · rw [if_neg q] at iby; have := b8 q; omega
      refine lv_aload_n hx hb d_Search_borderFloor_52 rfl (lv_at hl 1 rfl) ?_
      refine lv_iload hx hb d_Search_borderFloor_53 (lv_at hl 6 rfl) ?_
      refine lv_iload_n hx hb d_Search_borderFloor_55 rfl (lv_at hl 4 rfl) ?_
      refine lv_iload hx hb d_Search_borderFloor_56 (lv_at hl 5 rfl) ?_
      refine lv_bipush (v := 7) hx hb d_Search_borderFloor_58 (by decide) ?_
      refine lv_iload hx hb d_Search_borderFloor_60 (lv_at hl 5 rfl) ?_
      refine lv_imul hx hb d_Search_borderFloor_62 ?_
      refine lv_topi (fun v62 e62 => ?_)
      have h62 : v62.toInt = 7 * M := by rw [e62]; exact ti_mul (ti_k (by decide)) hmd (by omega) (by omega)
      have hPc := hP.sub (ws' := [(hq, .inr (3, [.ref hp, .ref hst, .int lim, .int thd, .int md, .int sz0, .int tm, .int tx, .int ty, .int sx, .int sy, .ref hqf, .ref hkn, .int stp])), (hp, .inr (0, [.int pw, .int ph, .ref hw, .ref hs, .int psr])), (hs, .inl (kS, 263169, .inl fs))]) [0, 1, 2] rfl
      have hKc := hK.sub (tys' := [(kS, .int)]) [0] rfl
      refine va_calli (va_runV (As := [.int bx, .int a3, .int md, .int v62]) (rest := []) ⟨hx, hb, hml, hown, hts⟩ (c_leastDark l dC dI hq hp hw hs hst hqf hkn kS pw ph psr lim thd md sz0 tm tx ty sx sy stp fs Wd Ht M S TX TY SX SY D hpw hph hmd hsz0 htx hty hsx hsy hB hsum bx a3 md v62 zbx y M (7 * M) hbx g3 hmd h62 (by omega) (by omega) (by omega) (by omega) (by omega) (by omega)) (aw_V 4 hts wd_423 wd_425 ws_11 wd_2 wd_426 rfl rfl (by decide +kernel) ⟨Nat.le_of_ble_eq_true rfl, Nat.le_of_ble_eq_true rfl⟩) ⟨ro_blind, va_recv hKc hPc (ci := 3) (q0 := 0) rfl rfl, ro_pre hPc hKc⟩ rfl rfl hl.1 rfl (lv_room (Nat.le_of_ble_eq_true rfl)) d_Search_borderFloor_63 ⟨Nat.le_of_ble_eq_true rfl, Nat.le_of_ble_eq_true rfl⟩) hS (fun q _ h => h.elim) (fun q h => h.elim) (fun v63 _ t9 H63 locs ht hvm h63 hB hz1 hk1 hS => ?_)
      have hP := ro_keep hP hk1
      clear hPc hKc ht hvm hB hz1 hk1
      have r63 := h63.2.2
      refine lv_aload_n hx hb d_Search_borderFloor_66 rfl (lv_at hl 1 rfl) ?_
      refine lv_iload_n hx hb d_Search_borderFloor_67 rfl (lv_at hl 3 rfl) ?_
      refine lv_iload hx hb d_Search_borderFloor_68 (lv_at hl 6 rfl) ?_
      refine va_mmin hx hb (by rw [hml]; exact hl.1.symm) hown (hts _ wd_396) (hts _ wd_151) (hts _ wd_11) (hts _ wd_152) (Nat.le_of_ble_eq_true rfl) (Nat.le_of_ble_eq_true rfl) (Nat.le_of_ble_eq_true rfl) (Nat.le_of_ble_eq_true rfl) d_Search_borderFloor_70 ?_
      refine lv_topi (fun v70 e70 => ?_)
      have h70 : v70.toInt = min x zbx := by rw [e70]; exact ti_min g2 hbx
      obtain ⟨MX, kMX⟩ : ∃ c : Int, c = (min x zbx) := ⟨_, rfl⟩
      have h70 : v70.toInt = MX := by rw [h70, kMX]
      have iMX : MX = if k = 1 ∨ k = 2 then x - M else x := by
        by_cases q : k = 1 ∨ k = 2
        · rw [if_pos q] at ibx ⊢; omega
        · rw [if_neg q] at ibx ⊢; omega
      have iMX2 : 0 ≤ MX ∧ MX + 8 * M + SX ≤ Wd := by
        by_cases q : k = 1 ∨ k = 2
        · rw [if_pos q] at iMX; have := b3 q; omega
        · rw [if_neg q] at iMX; have := b7 q; omega
      refine lv_iload hx hb d_Search_borderFloor_73 (lv_at hl 0 rfl) ?_
      refine lv_bipush (v := 8) hx hb d_Search_borderFloor_75 (by decide) ?_
      refine lv_iload hx hb d_Search_borderFloor_77 (lv_at hl 5 rfl) ?_
      refine lv_imul hx hb d_Search_borderFloor_79 ?_
      refine lv_topi (fun v79 e79 => ?_)
      have h79 : v79.toInt = 8 * M := by rw [e79]; exact ti_mul (ti_k (by decide)) hmd (by omega) (by omega)
      refine lv_iload hx hb d_Search_borderFloor_80 (lv_at hl 5 rfl) ?_
      have hPc := hP.sub (ws' := [(hq, .inr (3, [.ref hp, .ref hst, .int lim, .int thd, .int md, .int sz0, .int tm, .int tx, .int ty, .int sx, .int sy, .ref hqf, .ref hkn, .int stp])), (hp, .inr (0, [.int pw, .int ph, .ref hw, .ref hs, .int psr])), (hs, .inl (kS, 263169, .inl fs))]) [0, 1, 2] rfl
      have hKc := hK.sub (tys' := [(kS, .int)]) [0] rfl
      refine va_calli (va_runV (As := [.int v70, .int byy, .int v79, .int md]) (rest := [.int v63]) ⟨hx, hb, hml, hown, hts⟩ (c_leastDark l dC dI hq hp hw hs hst hqf hkn kS pw ph psr lim thd md sz0 tm tx ty sx sy stp fs Wd Ht M S TX TY SX SY D hpw hph hmd hsz0 htx hty hsx hsy hB hsum v70 byy v79 md MX zbyy (8 * M) M h70 hbyy h79 hmd (by omega) (by omega) (by omega) (by omega) (by omega) (by omega)) (aw_V 4 hts wd_423 wd_425 ws_11 wd_2 wd_426 rfl rfl (by decide +kernel) ⟨Nat.le_of_ble_eq_true rfl, Nat.le_of_ble_eq_true rfl⟩) ⟨ro_blind, va_recv hKc hPc (ci := 3) (q0 := 0) rfl rfl, ro_pre hPc hKc⟩ rfl rfl hl.1 rfl (lv_room (Nat.le_of_ble_eq_true rfl)) d_Search_borderFloor_82 ⟨Nat.le_of_ble_eq_true rfl, Nat.le_of_ble_eq_true rfl⟩) hS (fun q _ h => h.elim) (fun q h => h.elim) (fun v82 _ t9 H82 locs ht hvm h82 hB hz1 hk1 hS => ?_)
      have hP := ro_keep hP hk1
      clear hPc hKc ht hvm hB hz1 hk1
      have r82 := h82.2.2
      refine lv_iadd hx hb d_Search_borderFloor_85 ?_
      refine lv_topi (fun v85 e85 => ?_)
      have h85 : v85.toInt = v63.toInt + v82.toInt := by rw [e85]; exact ti_add rfl rfl (by omega) (by omega)
      have hpost : (∀ dx dy, 0 ≤ dx → dx ≤ SX → 0 ≤ dy → dy ≤ SY → v85.toInt ≤ bd D M k (x + dx) (y + dy)) ∧ -1000000 ≤ v85.toInt ∧ v85.toInt ≤ 1000000 := by
        refine ⟨fun dx dy d1 d2 d3 d4 => ?_, by omega, by omega⟩
        rw [h85]
        exact bd_low h63 h82 ibx iMX iby dx dy d1 d2 d3 d4
      exact W.iret (v := v85) hx hb hr (fun t ht hW => ⟨⟨v85, (), rfl, hpost, trivial⟩, hS.F ht⟩) hS.2.2 d_Search_borderFloor_86
    · skip
      intro hj50
      refine lv_if_eq (tgt := 43) hx hb d_Search_borderFloor_33 (by decide) (fun c33 => ?_) (fun c33 => ?_)
      · skip
        have c33 : ¬ (2 ≤ k) := bi_z h30 c33
        refine lv_iload_n hx hb d_Search_borderFloor_43 rfl (lv_at hl 4 rfl) ?_
        refine lv_bipush (v := 7) hx hb d_Search_borderFloor_44 (by decide) ?_
        refine lv_iload hx hb d_Search_borderFloor_46 (lv_at hl 5 rfl) ?_
        refine lv_imul hx hb d_Search_borderFloor_48 ?_
        refine lv_topi (fun v48 e48 => ?_)
        have h48 : v48.toInt = 7 * M := by rw [e48]; exact ti_mul (ti_k (by decide)) hmd (by omega) (by omega)
        refine lv_iadd hx hb d_Search_borderFloor_49 ?_
        refine lv_topi (fun v49 e49 => ?_)
        have h49 : v49.toInt = y + (7 * M) := by rw [e49]; exact ti_add g3 h48 (by omega) (by omega)
        exact hj50 _ _ _ ⟨v49, (y + (7 * M)), ls, rfl, lv_sub hl [1, 2, 3, 4, 5, 0] rfl, h49, by rw [if_neg c33], hP, hS⟩
      · skip
        have c33 : 2 ≤ k := bi_nz h30 c33
        refine lv_iload_n hx hb d_Search_borderFloor_36 rfl (lv_at hl 4 rfl) ?_
        refine lv_iload hx hb d_Search_borderFloor_37 (lv_at hl 5 rfl) ?_
        refine lv_isub hx hb d_Search_borderFloor_39 ?_
        refine lv_topi (fun v39 e39 => ?_)
        have h39 : v39.toInt = y - M := by rw [e39]; exact ti_sub g3 hmd (by omega) (by omega)
        refine lv_goto (tgt := 50) hx hb d_Search_borderFloor_40 (by decide) ?_
        exact hj50 _ _ _ ⟨v39, (y - M), ls, rfl, lv_sub hl [1, 2, 3, 4, 5, 0] rfl, h39, by rw [if_pos c33], hP, hS⟩
  · skip
    intro hj27
    refine lv_if_eq (tgt := 20) hx hb d_Search_borderFloor_10 (by decide) (fun c10 => ?_) (fun c10 => ?_)
    · skip
      have c10 : ¬ (k = 1 ∨ k = 2) := bi_z h7 c10
      refine lv_iload_n hx hb d_Search_borderFloor_20 rfl (lv_at hl 3 rfl) ?_
      refine lv_bipush (v := 7) hx hb d_Search_borderFloor_21 (by decide) ?_
      refine lv_iload hx hb d_Search_borderFloor_23 (lv_at hl 0 rfl) ?_
      refine lv_imul hx hb d_Search_borderFloor_25 ?_
      refine lv_topi (fun v25 e25 => ?_)
      have h25 : v25.toInt = 7 * M := by rw [e25]; exact ti_mul (ti_k (by decide)) hmd (by omega) (by omega)
      refine lv_iadd hx hb d_Search_borderFloor_26 ?_
      refine lv_topi (fun v26 e26 => ?_)
      have h26 : v26.toInt = x + (7 * M) := by rw [e26]; exact ti_add g2 h25 (by omega) (by omega)
      exact hj27 _ _ _ ⟨v26, (x + (7 * M)), ls, rfl, lv_sub hl [1, 2, 3, 4, 0] rfl, h26, by rw [if_neg c10], hP, hS⟩
    · skip
      have c10 : k = 1 ∨ k = 2 := bi_nz h7 c10
      refine lv_iload_n hx hb d_Search_borderFloor_13 rfl (lv_at hl 3 rfl) ?_
      refine lv_iload hx hb d_Search_borderFloor_14 (lv_at hl 0 rfl) ?_
      refine lv_isub hx hb d_Search_borderFloor_16 ?_
      refine lv_topi (fun v16 e16 => ?_)
      have h16 : v16.toInt = x - M := by rw [e16]; exact ti_sub g2 hmd (by omega) (by omega)
      refine lv_goto (tgt := 27) hx hb d_Search_borderFloor_17 (by decide) ?_
      exact hj27 _ _ _ ⟨v16, (x - M), ls, rfl, lv_sub hl [1, 2, 3, 4, 0] rfl, h16, by rw [if_pos c10], hP, hS⟩
