set_option maxHeartbeats 4000000 in
set_option maxRecDepth 100000 in
theorem c_isRight (l : Launch) (dC : Nat → ClassId) (dI : Nat → Nat → Nat) (a0 : Int32) (k : Int) (g0 : a0.toInt = k) : Met l y_Search_isRight (.code y_Search_isRight b_Search_isRight 1 (some .boolean) :: allw) ({ frames := 0, cells := 0, slots := 0, locals := 0 }) (va_Pc [.int a0] (ro_B (dC, dI) vwCl [] [])) (va_Qi (fun (r : Int32) (_ : Unit) => isB r (k = 1 ∨ k = 2)) (fun _ _ => True) (fun _ => False)) 0 0 (fun _ => False) := by
  refine Met.ofW (cc := b_Search_isRight) (maxL := 1) (ret := (some .boolean)) (by decide) rfl ?_
  intro p e s m args below meth c s₁ B hml hv
  obtain ⟨rfl, hP, hK⟩ := hv
  have hx := B.exec
  have hb := B.bytes
  have hr := B.returns
  have hts : ∀ w ∈ allw, w.before _ s = true := fun w h => atoms_spec (ws := .code y_Search_isRight b_Search_isRight 1 (some .boolean) :: allw) B.pre w (List.mem_cons_of_mem _ h)
  have hown : s.vm.findClass R_Search = some m.cls := findClass_of_methodNamed B.named
  have hlocks := B.notSynchronized
  have hS : va_S (fun _ => False) s.heap s.heap [] := va_S.rf
  have hP : va_P (dC, dI) vwCl [] s.heap := hP
  have hl := lv_entry ([.int a0]) (n := 1) (Nat.le_of_ble_eq_true rfl)
  rw [lg_entry_eq]
  generalize (lg_sl ([.int a0]) ++ List.replicate (1 - (lg_sl ([.int a0])).length) Slot.unset).toArray = ls at hl ⊢
  have hl : lv_has ls 1 [(0, .int a0)] := hl
  refine lv_iload_n hx hb d_Search_isRight_0 rfl (lv_at hl 0 rfl) ?_
  refine lv_iconst (v := 1) hx hb d_Search_isRight_1 (by decide) ?_
  refine lv_icmp_eq (tgt := 10) hx hb d_Search_isRight_2 (by decide) (fun c2 => ?_) (fun c2 => ?_)
  · skip
    have c2 : k = 1 := (ti_eq g0 (ti_k (by decide))).mp c2
    refine lv_iconst (v := 1) hx hb d_Search_isRight_10 (by decide) ?_
    refine lv_goto (tgt := 15) hx hb d_Search_isRight_11 (by decide) ?_
    have hpost : isB 1 (k = 1 ∨ k = 2) := by
      exact Or.inl ⟨rfl, by omega⟩
    exact W.zret (v := 1) hx hb hr (by decide) (fun t ht hW => ⟨⟨1, (), rfl, hpost, trivial⟩, hS.F ht⟩) hS.2.2 d_Search_isRight_15
  · skip
    have c2 : ¬ (k = 1) := fun q => c2 ((ti_eq g0 (ti_k (by decide))).mpr q)
    refine lv_iload_n hx hb d_Search_isRight_5 rfl (lv_at hl 0 rfl) ?_
    refine lv_iconst (v := 2) hx hb d_Search_isRight_6 (by decide) ?_
    refine lv_icmp_ne (tgt := 14) hx hb d_Search_isRight_7 (by decide) (fun c7 => ?_) (fun c7 => ?_)
    · skip
      have c7 : ¬ (k = 2) := fun q => c7 ((ti_eq g0 (ti_k (by decide))).mpr q)
      refine lv_iconst (v := 0) hx hb d_Search_isRight_14 (by decide) ?_
      have hpost : isB 0 (k = 1 ∨ k = 2) := by
        exact Or.inr ⟨rfl, by omega⟩
      exact W.zret (v := 0) hx hb hr (by decide) (fun t ht hW => ⟨⟨0, (), rfl, hpost, trivial⟩, hS.F ht⟩) hS.2.2 d_Search_isRight_15
    · skip
      have c7 : k = 2 := (ti_eq g0 (ti_k (by decide))).mp c7
      refine lv_iconst (v := 1) hx hb d_Search_isRight_10 (by decide) ?_
      refine lv_goto (tgt := 15) hx hb d_Search_isRight_11 (by decide) ?_
      have hpost : isB 1 (k = 1 ∨ k = 2) := by
        exact Or.inl ⟨rfl, by omega⟩
      exact W.zret (v := 1) hx hb hr (by decide) (fun t ht hW => ⟨⟨1, (), rfl, hpost, trivial⟩, hS.F ht⟩) hS.2.2 d_Search_isRight_15

set_option maxHeartbeats 4000000 in
set_option maxRecDepth 100000 in
theorem c_isLow (l : Launch) (dC : Nat → ClassId) (dI : Nat → Nat → Nat) (a0 : Int32) (k : Int) (g0 : a0.toInt = k) : Met l y_Search_isLow (.code y_Search_isLow b_Search_isLow 1 (some .boolean) :: allw) ({ frames := 0, cells := 0, slots := 0, locals := 0 }) (va_Pc [.int a0] (ro_B (dC, dI) vwCl [] [])) (va_Qi (fun (r : Int32) (_ : Unit) => isB r (2 ≤ k)) (fun _ _ => True) (fun _ => False)) 0 0 (fun _ => False) := by
  refine Met.ofW (cc := b_Search_isLow) (maxL := 1) (ret := (some .boolean)) (by decide) rfl ?_
  intro p e s m args below meth c s₁ B hml hv
  obtain ⟨rfl, hP, hK⟩ := hv
  have hx := B.exec
  have hb := B.bytes
  have hr := B.returns
  have hts : ∀ w ∈ allw, w.before _ s = true := fun w h => atoms_spec (ws := .code y_Search_isLow b_Search_isLow 1 (some .boolean) :: allw) B.pre w (List.mem_cons_of_mem _ h)
  have hown : s.vm.findClass R_Search = some m.cls := findClass_of_methodNamed B.named
  have hlocks := B.notSynchronized
  have hS : va_S (fun _ => False) s.heap s.heap [] := va_S.rf
  have hP : va_P (dC, dI) vwCl [] s.heap := hP
  have hl := lv_entry ([.int a0]) (n := 1) (Nat.le_of_ble_eq_true rfl)
  rw [lg_entry_eq]
  generalize (lg_sl ([.int a0]) ++ List.replicate (1 - (lg_sl ([.int a0])).length) Slot.unset).toArray = ls at hl ⊢
  have hl : lv_has ls 1 [(0, .int a0)] := hl
  refine lv_iload_n hx hb d_Search_isLow_0 rfl (lv_at hl 0 rfl) ?_
  refine lv_iconst (v := 2) hx hb d_Search_isLow_1 (by decide) ?_
  refine lv_icmp_lt (tgt := 9) hx hb d_Search_isLow_2 (by decide) (fun c2 => ?_) (fun c2 => ?_)
  · skip
    have c2 : k < 2 := (ti_lt g0 (ti_k (by decide))).mp c2
    refine lv_iconst (v := 0) hx hb d_Search_isLow_9 (by decide) ?_
    have hpost : isB 0 (2 ≤ k) := by
      exact Or.inr ⟨rfl, by omega⟩
    exact W.zret (v := 0) hx hb hr (by decide) (fun t ht hW => ⟨⟨0, (), rfl, hpost, trivial⟩, hS.F ht⟩) hS.2.2 d_Search_isLow_10
  · skip
    have c2 : ¬ (k < 2) := fun q => c2 ((ti_lt g0 (ti_k (by decide))).mpr q)
    refine lv_iconst (v := 1) hx hb d_Search_isLow_5 (by decide) ?_
    refine lv_goto (tgt := 10) hx hb d_Search_isLow_6 (by decide) ?_
    have hpost : isB 1 (2 ≤ k) := by
      exact Or.inl ⟨rfl, by omega⟩
    exact W.zret (v := 1) hx hb hr (by decide) (fun t ht hW => ⟨⟨1, (), rfl, hpost, trivial⟩, hS.F ht⟩) hS.2.2 d_Search_isLow_10

set_option maxHeartbeats 4000000 in
set_option maxRecDepth 100000 in
theorem c_isSingle (l : Launch) (dC : Nat → ClassId) (dI : Nat → Nat → Nat) (hq hp hw hs hst hqf hkn : Nat) (kS : ClassId) (pw ph psr lim thd md sz0 tm tx ty sx sy stp : Int32) (fs : Nat → Int32) (Wd Ht M S TX TY SX SY : Int) (D : Int → Int → Bool) (hpw : pw.toInt = Wd) (hph : ph.toInt = Ht) (hmd : md.toInt = M) (hsz0 : sz0.toInt = S) (htx : tx.toInt = TX) (hty : ty.toInt = TY) (hsx : sx.toInt = SX) (hsy : sy.toInt = SY) (hB : sBnd Wd Ht M S TX TY SX SY) (hsum : ∀ x y, 0 ≤ x → x ≤ Wd → 0 ≤ y → y ≤ Ht → (fs (y * 513 + x).toNat).toInt = cI D 0 0 x y) : Met l y_Search_isSingle (.code y_Search_isSingle b_Search_isSingle 1 (some .boolean) :: allw) ({ frames := 0, cells := 0, slots := 0, locals := 0 }) (va_Pc [.ref hq] (ro_B (dC, dI) vwCl [(hq, .inr (3, [.ref hp, .ref hst, .int lim, .int thd, .int md, .int sz0, .int tm, .int tx, .int ty, .int sx, .int sy, .ref hqf, .ref hkn, .int stp])), (hp, .inr (0, [.int pw, .int ph, .ref hw, .ref hs, .int psr])), (hs, .inl (kS, 263169, .inl fs))] [(kS, .int)])) (va_Qi (fun (r : Int32) (_ : Unit) => isB r (SX = 0 ∧ SY = 0)) (fun _ _ => True) (fun _ => False)) 0 0 (fun _ => False) := by
  refine Met.ofW (cc := b_Search_isSingle) (maxL := 1) (ret := (some .boolean)) (by decide) rfl ?_
  intro p e s m args below meth c s₁ B hml hv
  obtain ⟨rfl, hP, hK⟩ := hv
  have hx := B.exec
  have hb := B.bytes
  have hr := B.returns
  have hts : ∀ w ∈ allw, w.before _ s = true := fun w h => atoms_spec (ws := .code y_Search_isSingle b_Search_isSingle 1 (some .boolean) :: allw) B.pre w (List.mem_cons_of_mem _ h)
  have hown : s.vm.findClass R_Search = some m.cls := findClass_of_methodNamed B.named
  have hlocks := B.notSynchronized
  have hS : va_S (fun _ => False) s.heap s.heap [] := va_S.rf
  have hP : va_P (dC, dI) vwCl [(hq, .inr (3, [.ref hp, .ref hst, .int lim, .int thd, .int md, .int sz0, .int tm, .int tx, .int ty, .int sx, .int sy, .ref hqf, .ref hkn, .int stp])), (hp, .inr (0, [.int pw, .int ph, .ref hw, .ref hs, .int psr])), (hs, .inl (kS, 263169, .inl fs))] s.heap := hP
  have hl := lv_entry ([.ref hq]) (n := 1) (Nat.le_of_ble_eq_true rfl)
  rw [lg_entry_eq]
  generalize (lg_sl ([.ref hq]) ++ List.replicate (1 - (lg_sl ([.ref hq])).length) Slot.unset).toArray = ls at hl ⊢
  have hl : lv_has ls 1 [(0, .ref hq)] := hl
  refine lv_aload_n hx hb d_Search_isSingle_0 rfl (lv_at hl 0 rfl) ?_
  refine va_get (D := (dC, dI)) (ci := 3) (v := .int sx) (C := R_Search) (T := T_Search) (N := 14) hx hb hts i_Search hown hK hP 0 rfl rfl 9 (by decide) (hts _ wd_90) (fun _ h9 => h9) rfl d_Search_isSingle_1 ?_
  refine lv_if_ne (tgt := 18) hx hb d_Search_isSingle_4 (by decide) (fun c4 => ?_) (fun c4 => ?_)
  · skip
    have c4 : ¬ (SX = 0) := fun q => c4 ((ti_eq hsx (ti_k (by decide))).mpr q)
    refine lv_iconst (v := 0) hx hb d_Search_isSingle_18 (by decide) ?_
    have hpost : isB 0 (SX = 0 ∧ SY = 0) := by
      exact Or.inr ⟨rfl, by omega⟩
    exact W.zret (v := 0) hx hb hr (by decide) (fun t ht hW => ⟨⟨0, (), rfl, hpost, trivial⟩, hS.F ht⟩) hS.2.2 d_Search_isSingle_19
  · skip
    have c4 : SX = 0 := (ti_eq hsx (ti_k (by decide))).mp c4
    refine lv_aload_n hx hb d_Search_isSingle_7 rfl (lv_at hl 0 rfl) ?_
    refine va_get (D := (dC, dI)) (ci := 3) (v := .int sy) (C := R_Search) (T := T_Search) (N := 14) hx hb hts i_Search hown hK hP 0 rfl rfl 10 (by decide) (hts _ wd_91) (fun _ h9 => h9) rfl d_Search_isSingle_8 ?_
    refine lv_if_ne (tgt := 18) hx hb d_Search_isSingle_11 (by decide) (fun c11 => ?_) (fun c11 => ?_)
    · skip
      have c11 : ¬ (SY = 0) := fun q => c11 ((ti_eq hsy (ti_k (by decide))).mpr q)
      refine lv_iconst (v := 0) hx hb d_Search_isSingle_18 (by decide) ?_
      have hpost : isB 0 (SX = 0 ∧ SY = 0) := by
        exact Or.inr ⟨rfl, by omega⟩
      exact W.zret (v := 0) hx hb hr (by decide) (fun t ht hW => ⟨⟨0, (), rfl, hpost, trivial⟩, hS.F ht⟩) hS.2.2 d_Search_isSingle_19
    · skip
      have c11 : SY = 0 := (ti_eq hsy (ti_k (by decide))).mp c11
      refine lv_iconst (v := 1) hx hb d_Search_isSingle_14 (by decide) ?_
      refine lv_goto (tgt := 19) hx hb d_Search_isSingle_15 (by decide) ?_
      have hpost : isB 1 (SX = 0 ∧ SY = 0) := by
        exact Or.inl ⟨rfl, by omega⟩
      exact W.zret (v := 1) hx hb hr (by decide) (fun t ht hW => ⟨⟨1, (), rfl, hpost, trivial⟩, hS.F ht⟩) hS.2.2 d_Search_isSingle_19

set_option maxHeartbeats 4000000 in
set_option maxRecDepth 100000 in
theorem c_mostDark (l : Launch) (dC : Nat → ClassId) (dI : Nat → Nat → Nat) (hq hp hw hs hst hqf hkn : Nat) (kS : ClassId) (pw ph psr lim thd md sz0 tm tx ty sx sy stp : Int32) (fs : Nat → Int32) (Wd Ht M S TX TY SX SY : Int) (D : Int → Int → Bool) (hpw : pw.toInt = Wd) (hph : ph.toInt = Ht) (hmd : md.toInt = M) (hsz0 : sz0.toInt = S) (htx : tx.toInt = TX) (hty : ty.toInt = TY) (hsx : sx.toInt = SX) (hsy : sy.toInt = SY) (hB : sBnd Wd Ht M S TX TY SX SY) (hsum : ∀ x y, 0 ≤ x → x ≤ Wd → 0 ≤ y → y ≤ Ht → (fs (y * 513 + x).toNat).toInt = cI D 0 0 x y) (a1 a2 a3 a4 : Int32) (x y w h : Int) (g1 : a1.toInt = x) (g2 : a2.toInt = y) (g3 : a3.toInt = w) (g4 : a4.toInt = h) (b1 : 0 ≤ x) (b2 : 0 ≤ y) (b3 : 1 ≤ w) (b4 : 1 ≤ h) (b5 : x + w + SX ≤ Wd) (b6 : y + h + SY ≤ Ht) : Met l y_Search_mostDark (.code y_Search_mostDark b_Search_mostDark 9 (some .int) :: allw) ({ frames := 1, cells := 0, slots := 0, locals := 26 }) (va_Pc [.ref hq, .int a1, .int a2, .int a3, .int a4] (ro_B (dC, dI) vwCl [(hq, .inr (3, [.ref hp, .ref hst, .int lim, .int thd, .int md, .int sz0, .int tm, .int tx, .int ty, .int sx, .int sy, .ref hqf, .ref hkn, .int stp])), (hp, .inr (0, [.int pw, .int ph, .ref hw, .ref hs, .int psr])), (hs, .inl (kS, 263169, .inl fs))] [(kS, .int)])) (va_Qi (fun (r : Int32) (_ : Unit) => isMost D SX SY x y w h r.toInt) (fun _ _ => True) (fun _ => False)) 0 0 (fun _ => False) := by
  refine Met.ofW (cc := b_Search_mostDark) (maxL := 9) (ret := (some .int)) (by decide) rfl ?_
  intro p e s m args below meth c s₁ B hml hv
  obtain ⟨rfl, hP, hK⟩ := hv
  have hx := B.exec
  have hb := B.bytes
  have hr := B.returns
  have hts : ∀ w ∈ allw, w.before _ s = true := fun w h => atoms_spec (ws := .code y_Search_mostDark b_Search_mostDark 9 (some .int) :: allw) B.pre w (List.mem_cons_of_mem _ h)
  have hown : s.vm.findClass R_Search = some m.cls := findClass_of_methodNamed B.named
  have hlocks := B.notSynchronized
  have hS : va_S (fun _ => False) s.heap s.heap [] := va_S.rf
  have hP : va_P (dC, dI) vwCl [(hq, .inr (3, [.ref hp, .ref hst, .int lim, .int thd, .int md, .int sz0, .int tm, .int tx, .int ty, .int sx, .int sy, .ref hqf, .ref hkn, .int stp])), (hp, .inr (0, [.int pw, .int ph, .ref hw, .ref hs, .int psr])), (hs, .inl (kS, 263169, .inl fs))] s.heap := hP
  have hl := lv_entry ([.ref hq, .int a1, .int a2, .int a3, .int a4]) (n := 9) (Nat.le_of_ble_eq_true rfl)
  rw [lg_entry_eq]
  generalize (lg_sl ([.ref hq, .int a1, .int a2, .int a3, .int a4]) ++ List.replicate (9 - (lg_sl ([.ref hq, .int a1, .int a2, .int a3, .int a4])).length) Slot.unset).toArray = ls at hl ⊢
  have hl : lv_has ls 9 [(0, .ref hq), (1, .int a1), (2, .int a2), (3, .int a3), (4, .int a4)] := hl
  obtain ⟨hW1, hW2, hH1, hH2, hM1, hM2, hS1, hS2, hX1, hX2, hY1, hY2, hx1, hx2, hy1, hy2⟩ := id hB
  have m1 := mul_b (a := w) (b := h) (n := 512) (by omega) (by omega) (by omega) (by omega)
  have m2 := Int.mul_nonneg (show 0 ≤ w by omega) (show 0 ≤ h by omega)
  have m3 := mul_b (a := w + SX) (b := h + SY) (n := 512) (by omega) (by omega) (by omega) (by omega)
  have n1 := cI_nn D x y (w + SX) (h + SY)
  have n2 := cI_le D x y (w := w + SX) (h := h + SY) (by omega) (by omega)
  refine lv_aload_n hx hb d_Search_mostDark_0 rfl (lv_at hl 0 rfl) ?_
  refine va_get (D := (dC, dI)) (ci := 3) (v := .ref hp) (C := R_Search) (T := T_Search) (N := 14) hx hb hts i_Search hown hK hP 0 rfl rfl 0 (by decide) (hts _ wd_79) (fun _ h9 => h9) rfl d_Search_mostDark_1 ?_
  refine lv_iload_n hx hb d_Search_mostDark_4 rfl (lv_at hl 1 rfl) ?_
  refine lv_iload_n hx hb d_Search_mostDark_5 rfl (lv_at hl 2 rfl) ?_
  refine lv_iload_n hx hb d_Search_mostDark_6 rfl (lv_at hl 3 rfl) ?_
  refine lv_aload_n hx hb d_Search_mostDark_7 rfl (lv_at hl 0 rfl) ?_
  refine va_get (D := (dC, dI)) (ci := 3) (v := .int sx) (C := R_Search) (T := T_Search) (N := 14) hx hb hts i_Search hown hK hP 0 rfl rfl 9 (by decide) (hts _ wd_90) (fun _ h9 => h9) rfl d_Search_mostDark_8 ?_
  refine lv_iadd hx hb d_Search_mostDark_11 ?_
  refine lv_topi (fun v11 e11 => ?_)
  have h11 : v11.toInt = w + SX := by rw [e11]; exact ti_add g3 hsx (by omega) (by omega)
  refine lv_iload hx hb d_Search_mostDark_12 (lv_at hl 4 rfl) ?_
  refine lv_aload_n hx hb d_Search_mostDark_14 rfl (lv_at hl 0 rfl) ?_
  refine va_get (D := (dC, dI)) (ci := 3) (v := .int sy) (C := R_Search) (T := T_Search) (N := 14) hx hb hts i_Search hown hK hP 0 rfl rfl 10 (by decide) (hts _ wd_91) (fun _ h9 => h9) rfl d_Search_mostDark_15 ?_
  refine lv_iadd hx hb d_Search_mostDark_18 ?_
  refine lv_topi (fun v18 e18 => ?_)
  have h18 : v18.toInt = h + SY := by rw [e18]; exact ti_add g4 hsy (by omega) (by omega)
  have hPc := hP.sub (ws' := [(hp, .inr (0, [.int pw, .int ph, .ref hw, .ref hs, .int psr])), (hs, .inl (kS, 263169, .inl fs))]) [1, 2] rfl
  have hKc := hK.sub (tys' := [(kS, .int)]) [0] rfl
  refine va_calli (va_runV (As := [.int a1, .int a2, .int v11, .int v18]) (rest := []) ⟨hx, hb, hml, hown, hts⟩ (c_countSummed l dC dI hp hw hs kS pw ph psr fs Wd Ht D hpw hph hW1 hW2 hH1 hH2 hsum a1 a2 v11 v18 x y (w + SX) (h + SY) g1 g2 h11 h18) (aw_V 4 hts wd_414 wd_415 wd_416 wd_3 wd_417 rfl rfl (by decide +kernel) ⟨Nat.le_of_ble_eq_true rfl, Nat.le_of_ble_eq_true rfl⟩) ⟨ro_blind, va_recv hKc hPc (ci := 0) (q0 := 0) rfl rfl, ro_pre hPc hKc⟩ rfl rfl hl.1 rfl (lv_room (Nat.le_of_ble_eq_true rfl)) d_Search_mostDark_19 ⟨Nat.le_of_ble_eq_true rfl, Nat.le_of_ble_eq_true rfl⟩) hS (fun q _ h => h.elim) (fun q h => h.elim) (fun v19 _ t9 H19 locs ht hvm h19 hB hz1 hk1 hS => ?_)
  have hP := ro_keep hP hk1
  clear hPc hKc ht hvm hB hz1 hk1
  have g19 : cS D Wd Ht x y (w + SX) (h + SY) = cI D x y (w + SX) (h + SY) := cS_in (by omega)
  rw [g19] at h19
  refine lv_istore (lv' := [(5, .int v19), (0, .ref hq), (1, .int a1), (2, .int a2), (3, .int a3), (4, .int a4)]) hx hb d_Search_mostDark_22 hl (by decide) rfl (fun ls hl => ?_)
  refine lv_aload_n hx hb d_Search_mostDark_24 rfl (lv_at hl 1 rfl) ?_
  have hPc := hP.sub (ws' := [(hq, .inr (3, [.ref hp, .ref hst, .int lim, .int thd, .int md, .int sz0, .int tm, .int tx, .int ty, .int sx, .int sy, .ref hqf, .ref hkn, .int stp])), (hp, .inr (0, [.int pw, .int ph, .ref hw, .ref hs, .int psr])), (hs, .inl (kS, 263169, .inl fs))]) [0, 1, 2] rfl
  have hKc := hK.sub (tys' := [(kS, .int)]) [0] rfl
  refine va_calli (va_runV (As := []) (rest := []) ⟨hx, hb, hml, hown, hts⟩ (c_isSingle l dC dI hq hp hw hs hst hqf hkn kS pw ph psr lim thd md sz0 tm tx ty sx sy stp fs Wd Ht M S TX TY SX SY D hpw hph hmd hsz0 htx hty hsx hsy hB hsum) (aw_V 0 hts wd_418 wd_420 ws_10 wd_2 wd_421 rfl rfl (by decide +kernel) ⟨Nat.le_of_ble_eq_true rfl, Nat.le_of_ble_eq_true rfl⟩) ⟨ro_blind, va_recv hKc hPc (ci := 3) (q0 := 0) rfl rfl, ro_pre hPc hKc⟩ rfl rfl hl.1 rfl (lv_room (Nat.le_of_ble_eq_true rfl)) d_Search_mostDark_25 ⟨Nat.le_of_ble_eq_true rfl, Nat.le_of_ble_eq_true rfl⟩) hS (fun q _ h => h.elim) (fun q h => h.elim) (fun v25 _ t9 H25 locs ht hvm h25 hB hz1 hk1 hS => ?_)
  have hP := ro_keep hP hk1
  clear hPc hKc ht hvm hB hz1 hk1
  refine lv_if_eq (tgt := 34) hx hb d_Search_mostDark_28 (by decide) (fun c28 => ?_) (fun c28 => ?_)
  · skip
    have c28 : ¬ (SX = 0 ∧ SY = 0) := bi_z h25 c28
    refine lv_iload_n hx hb d_Search_mostDark_34 rfl (lv_at hl 4 rfl) ?_
    refine lv_aload_n hx hb d_Search_mostDark_35 rfl (lv_at hl 1 rfl) ?_
    refine va_get (D := (dC, dI)) (ci := 3) (v := .int sx) (C := R_Search) (T := T_Search) (N := 14) hx hb hts i_Search hown hK hP 0 rfl rfl 9 (by decide) (hts _ wd_90) (fun _ h9 => h9) rfl d_Search_mostDark_36 ?_
    refine lv_isub hx hb d_Search_mostDark_39 ?_
    refine lv_topi (fun v39 e39 => ?_)
    have h39 : v39.toInt = w - SX := by rw [e39]; exact ti_sub g3 hsx (by omega) (by omega)
    refine lv_iconst (v := 0) hx hb d_Search_mostDark_40 (by decide) ?_
    refine va_mmax hx hb (by rw [hml]; exact hl.1.symm) hown (hts _ wd_422) (hts _ wd_148) (hts _ wd_11) (hts _ wd_149) (Nat.le_of_ble_eq_true rfl) (Nat.le_of_ble_eq_true rfl) (Nat.le_of_ble_eq_true rfl) (Nat.le_of_ble_eq_true rfl) d_Search_mostDark_41 ?_
    refine lv_topi (fun v41 e41 => ?_)
    have h41 : v41.toInt = max (w - SX) 0 := by rw [e41]; exact ti_max h39 (ti_k (by decide))
    obtain ⟨CW, kCW⟩ : ∃ c : Int, c = (max (w - SX) 0) := ⟨_, rfl⟩
    have h41 : v41.toInt = CW := by rw [h41, kCW]
    refine lv_istore (lv' := [(6, .int v41), (5, .int v19), (0, .ref hq), (1, .int a1), (2, .int a2), (3, .int a3), (4, .int a4)]) hx hb d_Search_mostDark_44 hl (by decide) rfl (fun ls hl => ?_)
    refine lv_iload hx hb d_Search_mostDark_46 (lv_at hl 6 rfl) ?_
    refine lv_aload_n hx hb d_Search_mostDark_48 rfl (lv_at hl 2 rfl) ?_
    refine va_get (D := (dC, dI)) (ci := 3) (v := .int sy) (C := R_Search) (T := T_Search) (N := 14) hx hb hts i_Search hown hK hP 0 rfl rfl 10 (by decide) (hts _ wd_91) (fun _ h9 => h9) rfl d_Search_mostDark_49 ?_
    refine lv_isub hx hb d_Search_mostDark_52 ?_
    refine lv_topi (fun v52 e52 => ?_)
    have h52 : v52.toInt = h - SY := by rw [e52]; exact ti_sub g4 hsy (by omega) (by omega)
    refine lv_iconst (v := 0) hx hb d_Search_mostDark_53 (by decide) ?_
    refine va_mmax hx hb (by rw [hml]; exact hl.1.symm) hown (hts _ wd_422) (hts _ wd_148) (hts _ wd_11) (hts _ wd_149) (Nat.le_of_ble_eq_true rfl) (Nat.le_of_ble_eq_true rfl) (Nat.le_of_ble_eq_true rfl) (Nat.le_of_ble_eq_true rfl) d_Search_mostDark_54 ?_
    refine lv_topi (fun v54 e54 => ?_)
    have h54 : v54.toInt = max (h - SY) 0 := by rw [e54]; exact ti_max h52 (ti_k (by decide))
    obtain ⟨CH, kCH⟩ : ∃ c : Int, c = (max (h - SY) 0) := ⟨_, rfl⟩
    have h54 : v54.toInt = CH := by rw [h54, kCH]
    refine lv_istore (lv' := [(7, .int v54), (6, .int v41), (5, .int v19), (0, .ref hq), (1, .int a1), (2, .int a2), (3, .int a3), (4, .int a4)]) hx hb d_Search_mostDark_57 hl (by decide) rfl (fun ls hl => ?_)
    refine lv_aload_n hx hb d_Search_mostDark_59 rfl (lv_at hl 3 rfl) ?_
    refine va_get (D := (dC, dI)) (ci := 3) (v := .ref hp) (C := R_Search) (T := T_Search) (N := 14) hx hb hts i_Search hown hK hP 0 rfl rfl 0 (by decide) (hts _ wd_79) (fun _ h9 => h9) rfl d_Search_mostDark_60 ?_
    refine lv_iload_n hx hb d_Search_mostDark_63 rfl (lv_at hl 4 rfl) ?_
    refine lv_aload_n hx hb d_Search_mostDark_64 rfl (lv_at hl 3 rfl) ?_
    refine va_get (D := (dC, dI)) (ci := 3) (v := .int sx) (C := R_Search) (T := T_Search) (N := 14) hx hb hts i_Search hown hK hP 0 rfl rfl 9 (by decide) (hts _ wd_90) (fun _ h9 => h9) rfl d_Search_mostDark_65 ?_
    refine lv_iadd hx hb d_Search_mostDark_68 ?_
    refine lv_topi (fun v68 e68 => ?_)
    have h68 : v68.toInt = x + SX := by rw [e68]; exact ti_add g1 hsx (by omega) (by omega)
    refine lv_iload_n hx hb d_Search_mostDark_69 rfl (lv_at hl 5 rfl) ?_
    refine lv_aload_n hx hb d_Search_mostDark_70 rfl (lv_at hl 3 rfl) ?_
    refine va_get (D := (dC, dI)) (ci := 3) (v := .int sy) (C := R_Search) (T := T_Search) (N := 14) hx hb hts i_Search hown hK hP 0 rfl rfl 10 (by decide) (hts _ wd_91) (fun _ h9 => h9) rfl d_Search_mostDark_71 ?_
    refine lv_iadd hx hb d_Search_mostDark_74 ?_
    refine lv_topi (fun v74 e74 => ?_)
    have h74 : v74.toInt = y + SY := by rw [e74]; exact ti_add g2 hsy (by omega) (by omega)
    refine lv_iload hx hb d_Search_mostDark_75 (lv_at hl 1 rfl) ?_
    refine lv_iload hx hb d_Search_mostDark_77 (lv_at hl 0 rfl) ?_
    have hPc := hP.sub (ws' := [(hp, .inr (0, [.int pw, .int ph, .ref hw, .ref hs, .int psr])), (hs, .inl (kS, 263169, .inl fs))]) [1, 2] rfl
    have hKc := hK.sub (tys' := [(kS, .int)]) [0] rfl
    refine va_calli (va_runV (As := [.int v68, .int v74, .int v41, .int v54]) (rest := []) ⟨hx, hb, hml, hown, hts⟩ (c_countSummed l dC dI hp hw hs kS pw ph psr fs Wd Ht D hpw hph hW1 hW2 hH1 hH2 hsum v68 v74 v41 v54 (x + SX) (y + SY) CW CH h68 h74 h41 h54) (aw_V 4 hts wd_414 wd_415 wd_416 wd_3 wd_417 rfl rfl (by decide +kernel) ⟨Nat.le_of_ble_eq_true rfl, Nat.le_of_ble_eq_true rfl⟩) ⟨ro_blind, va_recv hKc hPc (ci := 0) (q0 := 0) rfl rfl, ro_pre hPc hKc⟩ rfl rfl hl.1 rfl (lv_room (Nat.le_of_ble_eq_true rfl)) d_Search_mostDark_79 ⟨Nat.le_of_ble_eq_true rfl, Nat.le_of_ble_eq_true rfl⟩) hS (fun q _ h => h.elim) (fun q h => h.elim) (fun v79 _ t9 H79 locs ht hvm h79 hB hz1 hk1 hS => ?_)
    have hP := ro_keep hP hk1
    clear hPc hKc ht hvm hB hz1 hk1
    have g79 : cS D Wd Ht (x + SX) (y + SY) CW CH = cI D (x + SX) (y + SY) CW CH := cS_max (by omega) (by omega) (by omega) (by omega) (by omega) (by omega)
    rw [g79] at h79
    have m4 := mul_b (a := CW) (b := CH) (n := 512) (by omega) (by omega) (by omega) (by omega)
    have m5 := Int.mul_nonneg (show 0 ≤ CW by omega) (show 0 ≤ CH by omega)
    have n3 := cI_nn D (x + SX) (y + SY) CW CH
    have n4 := cI_le D (x + SX) (y + SY) (w := CW) (h := CH) (by omega) (by omega)
    refine lv_istore (lv' := [(8, .int v79), (7, .int v54), (6, .int v41), (5, .int v19), (0, .ref hq), (1, .int a1), (2, .int a2), (3, .int a3), (4, .int a4)]) hx hb d_Search_mostDark_82 hl (by decide) rfl (fun ls hl => ?_)
    refine lv_iload hx hb d_Search_mostDark_84 (lv_at hl 3 rfl) ?_
    refine lv_iload hx hb d_Search_mostDark_86 (lv_at hl 0 rfl) ?_
    refine lv_iload_n hx hb d_Search_mostDark_88 rfl (lv_at hl 7 rfl) ?_
    refine lv_iload hx hb d_Search_mostDark_89 (lv_at hl 8 rfl) ?_
    refine lv_imul hx hb d_Search_mostDark_91 ?_
    refine lv_topi (fun v91 e91 => ?_)
    have h91 : v91.toInt = w * h := by rw [e91]; exact ti_mul g3 g4 (by omega) (by omega)
    refine lv_iadd hx hb d_Search_mostDark_92 ?_
    refine lv_topi (fun v92 e92 => ?_)
    have h92 : v92.toInt = (cI D (x + SX) (y + SY) CW CH) + (w * h) := by rw [e92]; exact ti_add h79 h91 (by omega) (by omega)
    refine lv_iload hx hb d_Search_mostDark_93 (lv_at hl 2 rfl) ?_
    refine lv_iload hx hb d_Search_mostDark_95 (lv_at hl 1 rfl) ?_
    refine lv_imul hx hb d_Search_mostDark_97 ?_
    refine lv_topi (fun v97 e97 => ?_)
    have h97 : v97.toInt = CW * CH := by rw [e97]; exact ti_mul h41 h54 (by omega) (by omega)
    refine lv_isub hx hb d_Search_mostDark_98 ?_
    refine lv_topi (fun v98 e98 => ?_)
    have h98 : v98.toInt = ((cI D (x + SX) (y + SY) CW CH) + (w * h)) - (CW * CH) := by rw [e98]; exact ti_sub h92 h97 (by omega) (by omega)
    refine va_mmin hx hb (by rw [hml]; exact hl.1.symm) hown (hts _ wd_396) (hts _ wd_151) (hts _ wd_11) (hts _ wd_152) (Nat.le_of_ble_eq_true rfl) (Nat.le_of_ble_eq_true rfl) (Nat.le_of_ble_eq_true rfl) (Nat.le_of_ble_eq_true rfl) d_Search_mostDark_99 ?_
    refine lv_topi (fun v99 e99 => ?_)
    have h99 : v99.toInt = min (cI D x y (w + SX) (h + SY)) (((cI D (x + SX) (y + SY) CW CH) + (w * h)) - (CW * CH)) := by rw [e99]; exact ti_min h19 h98
    have hpost : isMost D SX SY x y w h (v99 : Int32).toInt := by
      rw [h99]
      exact isMost_2 (by omega) (by omega) (by omega) (by omega) kCW kCH (by omega)
    exact W.iret (v := v99) hx hb hr (fun t ht hW => ⟨⟨v99, (), rfl, hpost, trivial⟩, hS.F ht⟩) hS.2.2 d_Search_mostDark_102
  · skip
    have c28 : SX = 0 ∧ SY = 0 := bi_nz h25 c28
    refine lv_iload hx hb d_Search_mostDark_31 (lv_at hl 0 rfl) ?_
    have hpost : isMost D SX SY x y w h (v19 : Int32).toInt := by
      rw [h19]
      exact isMost_1 (by omega) (by omega)
    exact W.iret (v := v19) hx hb hr (fun t ht hW => ⟨⟨v19, (), rfl, hpost, trivial⟩, hS.F ht⟩) hS.2.2 d_Search_mostDark_33

set_option maxHeartbeats 4000000 in
set_option maxRecDepth 100000 in
theorem c_leastDark (l : Launch) (dC : Nat → ClassId) (dI : Nat → Nat → Nat) (hq hp hw hs hst hqf hkn : Nat) (kS : ClassId) (pw ph psr lim thd md sz0 tm tx ty sx sy stp : Int32) (fs : Nat → Int32) (Wd Ht M S TX TY SX SY : Int) (D : Int → Int → Bool) (hpw : pw.toInt = Wd) (hph : ph.toInt = Ht) (hmd : md.toInt = M) (hsz0 : sz0.toInt = S) (htx : tx.toInt = TX) (hty : ty.toInt = TY) (hsx : sx.toInt = SX) (hsy : sy.toInt = SY) (hB : sBnd Wd Ht M S TX TY SX SY) (hsum : ∀ x y, 0 ≤ x → x ≤ Wd → 0 ≤ y → y ≤ Ht → (fs (y * 513 + x).toNat).toInt = cI D 0 0 x y) (a1 a2 a3 a4 : Int32) (x y w h : Int) (g1 : a1.toInt = x) (g2 : a2.toInt = y) (g3 : a3.toInt = w) (g4 : a4.toInt = h) (b1 : 0 ≤ x) (b2 : 0 ≤ y) (b3 : 1 ≤ w) (b4 : 1 ≤ h) (b5 : x + w + SX ≤ Wd) (b6 : y + h + SY ≤ Ht) : Met l y_Search_leastDark (.code y_Search_leastDark b_Search_leastDark 8 (some .int) :: allw) ({ frames := 1, cells := 0, slots := 0, locals := 26 }) (va_Pc [.ref hq, .int a1, .int a2, .int a3, .int a4] (ro_B (dC, dI) vwCl [(hq, .inr (3, [.ref hp, .ref hst, .int lim, .int thd, .int md, .int sz0, .int tm, .int tx, .int ty, .int sx, .int sy, .ref hqf, .ref hkn, .int stp])), (hp, .inr (0, [.int pw, .int ph, .ref hw, .ref hs, .int psr])), (hs, .inl (kS, 263169, .inl fs))] [(kS, .int)])) (va_Qi (fun (r : Int32) (_ : Unit) => isLeast D SX SY x y w h r.toInt) (fun _ _ => True) (fun _ => False)) 0 0 (fun _ => False) := by
  refine Met.ofW (cc := b_Search_leastDark) (maxL := 8) (ret := (some .int)) (by decide) rfl ?_
  intro p e s m args below meth c s₁ B hml hv
  obtain ⟨rfl, hP, hK⟩ := hv
  have hx := B.exec
  have hb := B.bytes
  have hr := B.returns
  have hts : ∀ w ∈ allw, w.before _ s = true := fun w h => atoms_spec (ws := .code y_Search_leastDark b_Search_leastDark 8 (some .int) :: allw) B.pre w (List.mem_cons_of_mem _ h)
  have hown : s.vm.findClass R_Search = some m.cls := findClass_of_methodNamed B.named
  have hlocks := B.notSynchronized
  have hS : va_S (fun _ => False) s.heap s.heap [] := va_S.rf
  have hP : va_P (dC, dI) vwCl [(hq, .inr (3, [.ref hp, .ref hst, .int lim, .int thd, .int md, .int sz0, .int tm, .int tx, .int ty, .int sx, .int sy, .ref hqf, .ref hkn, .int stp])), (hp, .inr (0, [.int pw, .int ph, .ref hw, .ref hs, .int psr])), (hs, .inl (kS, 263169, .inl fs))] s.heap := hP
  have hl := lv_entry ([.ref hq, .int a1, .int a2, .int a3, .int a4]) (n := 8) (Nat.le_of_ble_eq_true rfl)
  rw [lg_entry_eq]
  generalize (lg_sl ([.ref hq, .int a1, .int a2, .int a3, .int a4]) ++ List.replicate (8 - (lg_sl ([.ref hq, .int a1, .int a2, .int a3, .int a4])).length) Slot.unset).toArray = ls at hl ⊢
  have hl : lv_has ls 8 [(0, .ref hq), (1, .int a1), (2, .int a2), (3, .int a3), (4, .int a4)] := hl
  obtain ⟨hW1, hW2, hH1, hH2, hM1, hM2, hS1, hS2, hX1, hX2, hY1, hY2, hx1, hx2, hy1, hy2⟩ := id hB
  have m1 := mul_b (a := w) (b := h) (n := 512) (by omega) (by omega) (by omega) (by omega)
  have m2 := Int.mul_nonneg (show 0 ≤ w by omega) (show 0 ≤ h by omega)
  have m3 := mul_b (a := w + SX) (b := h + SY) (n := 512) (by omega) (by omega) (by omega) (by omega)
  have n1 := cI_nn D x y (w + SX) (h + SY)
  have n2 := cI_le D x y (w := w + SX) (h := h + SY) (by omega) (by omega)
  have m6 := Int.mul_nonneg (show 0 ≤ w + SX by omega) (show 0 ≤ h + SY by omega)
  refine lv_aload_n hx hb d_Search_leastDark_0 rfl (lv_at hl 0 rfl) ?_
  refine va_get (D := (dC, dI)) (ci := 3) (v := .ref hp) (C := R_Search) (T := T_Search) (N := 14) hx hb hts i_Search hown hK hP 0 rfl rfl 0 (by decide) (hts _ wd_79) (fun _ h9 => h9) rfl d_Search_leastDark_1 ?_
  refine lv_iload_n hx hb d_Search_leastDark_4 rfl (lv_at hl 1 rfl) ?_
  refine lv_iload_n hx hb d_Search_leastDark_5 rfl (lv_at hl 2 rfl) ?_
  refine lv_iload_n hx hb d_Search_leastDark_6 rfl (lv_at hl 3 rfl) ?_
  refine lv_aload_n hx hb d_Search_leastDark_7 rfl (lv_at hl 0 rfl) ?_
  refine va_get (D := (dC, dI)) (ci := 3) (v := .int sx) (C := R_Search) (T := T_Search) (N := 14) hx hb hts i_Search hown hK hP 0 rfl rfl 9 (by decide) (hts _ wd_90) (fun _ h9 => h9) rfl d_Search_leastDark_8 ?_
  refine lv_iadd hx hb d_Search_leastDark_11 ?_
  refine lv_topi (fun v11 e11 => ?_)
  have h11 : v11.toInt = w + SX := by rw [e11]; exact ti_add g3 hsx (by omega) (by omega)
  refine lv_iload hx hb d_Search_leastDark_12 (lv_at hl 4 rfl) ?_
  refine lv_aload_n hx hb d_Search_leastDark_14 rfl (lv_at hl 0 rfl) ?_
  refine va_get (D := (dC, dI)) (ci := 3) (v := .int sy) (C := R_Search) (T := T_Search) (N := 14) hx hb hts i_Search hown hK hP 0 rfl rfl 10 (by decide) (hts _ wd_91) (fun _ h9 => h9) rfl d_Search_leastDark_15 ?_
  refine lv_iadd hx hb d_Search_leastDark_18 ?_
  refine lv_topi (fun v18 e18 => ?_)
  have h18 : v18.toInt = h + SY := by rw [e18]; exact ti_add g4 hsy (by omega) (by omega)
  have hPc := hP.sub (ws' := [(hp, .inr (0, [.int pw, .int ph, .ref hw, .ref hs, .int psr])), (hs, .inl (kS, 263169, .inl fs))]) [1, 2] rfl
  have hKc := hK.sub (tys' := [(kS, .int)]) [0] rfl
  refine va_calli (va_runV (As := [.int a1, .int a2, .int v11, .int v18]) (rest := []) ⟨hx, hb, hml, hown, hts⟩ (c_countSummed l dC dI hp hw hs kS pw ph psr fs Wd Ht D hpw hph hW1 hW2 hH1 hH2 hsum a1 a2 v11 v18 x y (w + SX) (h + SY) g1 g2 h11 h18) (aw_V 4 hts wd_414 wd_415 wd_416 wd_3 wd_417 rfl rfl (by decide +kernel) ⟨Nat.le_of_ble_eq_true rfl, Nat.le_of_ble_eq_true rfl⟩) ⟨ro_blind, va_recv hKc hPc (ci := 0) (q0 := 0) rfl rfl, ro_pre hPc hKc⟩ rfl rfl hl.1 rfl (lv_room (Nat.le_of_ble_eq_true rfl)) d_Search_leastDark_19 ⟨Nat.le_of_ble_eq_true rfl, Nat.le_of_ble_eq_true rfl⟩) hS (fun q _ h => h.elim) (fun q h => h.elim) (fun v19 _ t9 H19 locs ht hvm h19 hB hz1 hk1 hS => ?_)
  have hP := ro_keep hP hk1
  clear hPc hKc ht hvm hB hz1 hk1
  have g19 : cS D Wd Ht x y (w + SX) (h + SY) = cI D x y (w + SX) (h + SY) := cS_in (by omega)
  rw [g19] at h19
  refine lv_istore (lv' := [(5, .int v19), (0, .ref hq), (1, .int a1), (2, .int a2), (3, .int a3), (4, .int a4)]) hx hb d_Search_leastDark_22 hl (by decide) rfl (fun ls hl => ?_)
  refine lv_aload_n hx hb d_Search_leastDark_24 rfl (lv_at hl 1 rfl) ?_
  have hPc := hP.sub (ws' := [(hq, .inr (3, [.ref hp, .ref hst, .int lim, .int thd, .int md, .int sz0, .int tm, .int tx, .int ty, .int sx, .int sy, .ref hqf, .ref hkn, .int stp])), (hp, .inr (0, [.int pw, .int ph, .ref hw, .ref hs, .int psr])), (hs, .inl (kS, 263169, .inl fs))]) [0, 1, 2] rfl
  have hKc := hK.sub (tys' := [(kS, .int)]) [0] rfl
  refine va_calli (va_runV (As := []) (rest := []) ⟨hx, hb, hml, hown, hts⟩ (c_isSingle l dC dI hq hp hw hs hst hqf hkn kS pw ph psr lim thd md sz0 tm tx ty sx sy stp fs Wd Ht M S TX TY SX SY D hpw hph hmd hsz0 htx hty hsx hsy hB hsum) (aw_V 0 hts wd_418 wd_420 ws_10 wd_2 wd_421 rfl rfl (by decide +kernel) ⟨Nat.le_of_ble_eq_true rfl, Nat.le_of_ble_eq_true rfl⟩) ⟨ro_blind, va_recv hKc hPc (ci := 3) (q0 := 0) rfl rfl, ro_pre hPc hKc⟩ rfl rfl hl.1 rfl (lv_room (Nat.le_of_ble_eq_true rfl)) d_Search_leastDark_25 ⟨Nat.le_of_ble_eq_true rfl, Nat.le_of_ble_eq_true rfl⟩) hS (fun q _ h => h.elim) (fun q h => h.elim) (fun v25 _ t9 H25 locs ht hvm h25 hB hz1 hk1 hS => ?_)
  have hP := ro_keep hP hk1
  clear hPc hKc ht hvm hB hz1 hk1
  refine lv_if_eq (tgt := 34) hx hb d_Search_leastDark_28 (by decide) (fun c28 => ?_) (fun c28 => ?_)
  · skip
    have c28 : ¬ (SX = 0 ∧ SY = 0) := bi_z h25 c28
    refine lv_iload_n hx hb d_Search_leastDark_34 rfl (lv_at hl 4 rfl) ?_
    refine lv_aload_n hx hb d_Search_leastDark_35 rfl (lv_at hl 1 rfl) ?_
    refine va_get (D := (dC, dI)) (ci := 3) (v := .int sx) (C := R_Search) (T := T_Search) (N := 14) hx hb hts i_Search hown hK hP 0 rfl rfl 9 (by decide) (hts _ wd_90) (fun _ h9 => h9) rfl d_Search_leastDark_36 ?_
    refine lv_iadd hx hb d_Search_leastDark_39 ?_
    refine lv_topi (fun v39 e39 => ?_)
    have h39 : v39.toInt = w + SX := by rw [e39]; exact ti_add g3 hsx (by omega) (by omega)
    refine lv_iload hx hb d_Search_leastDark_40 (lv_at hl 5 rfl) ?_
    refine lv_aload_n hx hb d_Search_leastDark_42 rfl (lv_at hl 1 rfl) ?_
    refine va_get (D := (dC, dI)) (ci := 3) (v := .int sy) (C := R_Search) (T := T_Search) (N := 14) hx hb hts i_Search hown hK hP 0 rfl rfl 10 (by decide) (hts _ wd_91) (fun _ h9 => h9) rfl d_Search_leastDark_43 ?_
    refine lv_iadd hx hb d_Search_leastDark_46 ?_
    refine lv_topi (fun v46 e46 => ?_)
    have h46 : v46.toInt = h + SY := by rw [e46]; exact ti_add g4 hsy (by omega) (by omega)
    refine lv_imul hx hb d_Search_leastDark_47 ?_
    refine lv_topi (fun v47 e47 => ?_)
    have h47 : v47.toInt = (w + SX) * (h + SY) := by rw [e47]; exact ti_mul h39 h46 (by omega) (by omega)
    refine lv_iload_n hx hb d_Search_leastDark_48 rfl (lv_at hl 4 rfl) ?_
    refine lv_iload hx hb d_Search_leastDark_49 (lv_at hl 5 rfl) ?_
    refine lv_imul hx hb d_Search_leastDark_51 ?_
    refine lv_topi (fun v51 e51 => ?_)
    have h51 : v51.toInt = w * h := by rw [e51]; exact ti_mul g3 g4 (by omega) (by omega)
    refine lv_isub hx hb d_Search_leastDark_52 ?_
    refine lv_topi (fun v52 e52 => ?_)
    have h52 : v52.toInt = ((w + SX) * (h + SY)) - (w * h) := by rw [e52]; exact ti_sub h47 h51 (by omega) (by omega)
    refine lv_istore (lv' := [(6, .int v52), (5, .int v19), (0, .ref hq), (1, .int a1), (2, .int a2), (3, .int a3), (4, .int a4)]) hx hb d_Search_leastDark_53 hl (by decide) rfl (fun ls hl => ?_)
    refine lv_aload_n hx hb d_Search_leastDark_55 rfl (lv_at hl 2 rfl) ?_
    refine va_get (D := (dC, dI)) (ci := 3) (v := .ref hp) (C := R_Search) (T := T_Search) (N := 14) hx hb hts i_Search hown hK hP 0 rfl rfl 0 (by decide) (hts _ wd_79) (fun _ h9 => h9) rfl d_Search_leastDark_56 ?_
    refine lv_iload_n hx hb d_Search_leastDark_59 rfl (lv_at hl 3 rfl) ?_
    refine lv_aload_n hx hb d_Search_leastDark_60 rfl (lv_at hl 2 rfl) ?_
    refine va_get (D := (dC, dI)) (ci := 3) (v := .int sx) (C := R_Search) (T := T_Search) (N := 14) hx hb hts i_Search hown hK hP 0 rfl rfl 9 (by decide) (hts _ wd_90) (fun _ h9 => h9) rfl d_Search_leastDark_61 ?_
    refine lv_iadd hx hb d_Search_leastDark_64 ?_
    refine lv_topi (fun v64 e64 => ?_)
    have h64 : v64.toInt = x + SX := by rw [e64]; exact ti_add g1 hsx (by omega) (by omega)
    refine lv_iload_n hx hb d_Search_leastDark_65 rfl (lv_at hl 4 rfl) ?_
    refine lv_aload_n hx hb d_Search_leastDark_66 rfl (lv_at hl 2 rfl) ?_
    refine va_get (D := (dC, dI)) (ci := 3) (v := .int sy) (C := R_Search) (T := T_Search) (N := 14) hx hb hts i_Search hown hK hP 0 rfl rfl 10 (by decide) (hts _ wd_91) (fun _ h9 => h9) rfl d_Search_leastDark_67 ?_
    refine lv_iadd hx hb d_Search_leastDark_70 ?_
    refine lv_topi (fun v70 e70 => ?_)
    have h70 : v70.toInt = y + SY := by rw [e70]; exact ti_add g2 hsy (by omega) (by omega)
    refine lv_iload_n hx hb d_Search_leastDark_71 rfl (lv_at hl 5 rfl) ?_
    refine lv_aload_n hx hb d_Search_leastDark_72 rfl (lv_at hl 2 rfl) ?_
    refine va_get (D := (dC, dI)) (ci := 3) (v := .int sx) (C := R_Search) (T := T_Search) (N := 14) hx hb hts i_Search hown hK hP 0 rfl rfl 9 (by decide) (hts _ wd_90) (fun _ h9 => h9) rfl d_Search_leastDark_73 ?_
    refine lv_isub hx hb d_Search_leastDark_76 ?_
    refine lv_topi (fun v76 e76 => ?_)
    have h76 : v76.toInt = w - SX := by rw [e76]; exact ti_sub g3 hsx (by omega) (by omega)
    refine lv_iload hx hb d_Search_leastDark_77 (lv_at hl 6 rfl) ?_
    refine lv_aload_n hx hb d_Search_leastDark_79 rfl (lv_at hl 2 rfl) ?_
    refine va_get (D := (dC, dI)) (ci := 3) (v := .int sy) (C := R_Search) (T := T_Search) (N := 14) hx hb hts i_Search hown hK hP 0 rfl rfl 10 (by decide) (hts _ wd_91) (fun _ h9 => h9) rfl d_Search_leastDark_80 ?_
    refine lv_isub hx hb d_Search_leastDark_83 ?_
    refine lv_topi (fun v83 e83 => ?_)
    have h83 : v83.toInt = h - SY := by rw [e83]; exact ti_sub g4 hsy (by omega) (by omega)
    have hPc := hP.sub (ws' := [(hp, .inr (0, [.int pw, .int ph, .ref hw, .ref hs, .int psr])), (hs, .inl (kS, 263169, .inl fs))]) [1, 2] rfl
    have hKc := hK.sub (tys' := [(kS, .int)]) [0] rfl
    refine va_calli (va_runV (As := [.int v64, .int v70, .int v76, .int v83]) (rest := []) ⟨hx, hb, hml, hown, hts⟩ (c_countSummed l dC dI hp hw hs kS pw ph psr fs Wd Ht D hpw hph hW1 hW2 hH1 hH2 hsum v64 v70 v76 v83 (x + SX) (y + SY) (w - SX) (h - SY) h64 h70 h76 h83) (aw_V 4 hts wd_414 wd_415 wd_416 wd_3 wd_417 rfl rfl (by decide +kernel) ⟨Nat.le_of_ble_eq_true rfl, Nat.le_of_ble_eq_true rfl⟩) ⟨ro_blind, va_recv hKc hPc (ci := 0) (q0 := 0) rfl rfl, ro_pre hPc hKc⟩ rfl rfl hl.1 rfl (lv_room (Nat.le_of_ble_eq_true rfl)) d_Search_leastDark_84 ⟨Nat.le_of_ble_eq_true rfl, Nat.le_of_ble_eq_true rfl⟩) hS (fun q _ h => h.elim) (fun q h => h.elim) (fun v84 _ t9 H84 locs ht hvm h84 hB hz1 hk1 hS => ?_)
    have hP := ro_keep hP hk1
    clear hPc hKc ht hvm hB hz1 hk1
    refine lv_istore (lv' := [(7, .int v84), (6, .int v52), (5, .int v19), (0, .ref hq), (1, .int a1), (2, .int a2), (3, .int a3), (4, .int a4)]) hx hb d_Search_leastDark_87 hl (by decide) rfl (fun ls hl => ?_)
    refine lv_iload hx hb d_Search_leastDark_89 (lv_at hl 2 rfl) ?_
    refine lv_iload hx hb d_Search_leastDark_91 (lv_at hl 1 rfl) ?_
    refine lv_isub hx hb d_Search_leastDark_93 ?_
    refine lv_topi (fun v93 e93 => ?_)
    have h93 : v93.toInt = (cI D x y (w + SX) (h + SY)) - (((w + SX) * (h + SY)) - (w * h)) := by rw [e93]; exact ti_sub h19 h52 (by omega) (by omega)
    refine lv_iload hx hb d_Search_leastDark_94 (lv_at hl 0 rfl) ?_
    refine va_mmax hx hb (by rw [hml]; exact hl.1.symm) hown (hts _ wd_422) (hts _ wd_148) (hts _ wd_11) (hts _ wd_149) (Nat.le_of_ble_eq_true rfl) (Nat.le_of_ble_eq_true rfl) (Nat.le_of_ble_eq_true rfl) (Nat.le_of_ble_eq_true rfl) d_Search_leastDark_96 ?_
    refine lv_topi (fun v96 e96 => ?_)
    have h96 : v96.toInt = max ((cI D x y (w + SX) (h + SY)) - (((w + SX) * (h + SY)) - (w * h))) (cS D Wd Ht (x + SX) (y + SY) (w - SX) (h - SY)) := by rw [e96]; exact ti_max h93 h84
    have hpost : isLeast D SX SY x y w h (v96 : Int32).toInt := by
      rw [h96]
      refine isLeast_2 (by omega) (by omega) (by omega) (by omega) (by omega) (by omega) ?_ (by omega)
      by_cases q : w - SX ≤ 0 ∨ h - SY ≤ 0
      · exact Or.inl ⟨q, cS_out (by omega)⟩
      · exact Or.inr ⟨q, cS_in (by omega)⟩
    exact W.iret (v := v96) hx hb hr (fun t ht hW => ⟨⟨v96, (), rfl, hpost, trivial⟩, hS.F ht⟩) hS.2.2 d_Search_leastDark_99
  · skip
    have c28 : SX = 0 ∧ SY = 0 := bi_nz h25 c28
    refine lv_iload hx hb d_Search_leastDark_31 (lv_at hl 0 rfl) ?_
    have hpost : isLeast D SX SY x y w h (v19 : Int32).toInt := by
      rw [h19]
      exact isLeast_1 (by omega) (by omega)
    exact W.iret (v := v19) hx hb hr (fun t ht hW => ⟨⟨v19, (), rfl, hpost, trivial⟩, hS.F ht⟩) hS.2.2 d_Search_leastDark_33
