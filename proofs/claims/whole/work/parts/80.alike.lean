set_option maxHeartbeats 4000000 in
set_option maxRecDepth 100000 in
theorem c_isAlike (l : Launch) (dC : Nat → ClassId) (dI : Nat → Nat → Nat) (hq hp hw hs hst hqf hkn : Nat) (kS : ClassId) (pw ph psr lim thd md sz0 tm tx ty sx sy stp : Int32) (fs : Nat → Int32) (Wd Ht M S TX TY SX SY : Int) (D : Int → Int → Bool) (hpw : pw.toInt = Wd) (hph : ph.toInt = Ht) (hmd : md.toInt = M) (hsz0 : sz0.toInt = S) (htx : tx.toInt = TX) (hty : ty.toInt = TY) (hsx : sx.toInt = SX) (hsy : sy.toInt = SY) (hB : sBnd Wd Ht M S TX TY SX SY) (hsum : ∀ x y, 0 ≤ x → x ≤ Wd → 0 ≤ y → y ≤ Ht → (fs (y * 513 + x).toNat).toInt = cI D 0 0 x y) (a1 a2 a3 : Int32) (x y L : Int) (g1 : a1.toInt = x) (g2 : a2.toInt = y) (g3 : a3.toInt = L) (b1 : 0 ≤ x) (b2 : 0 ≤ y) (b3 : 1 ≤ L) (b5 : x + L + SX ≤ Wd) (b6 : y + L + SY ≤ Ht) : Met l y_Search_isAlike (.code y_Search_isAlike b_Search_isAlike 7 (some .boolean) :: allw) ({ frames := 1, cells := 0, slots := 0, locals := 26 }) (va_Pc [.ref hq, .int a1, .int a2, .int a3] (ro_B (dC, dI) vwCl [(hq, .inr (3, [.ref hp, .ref hst, .int lim, .int thd, .int md, .int sz0, .int tm, .int tx, .int ty, .int sx, .int sy, .ref hqf, .ref hkn, .int stp])), (hp, .inr (0, [.int pw, .int ph, .ref hw, .ref hs, .int psr])), (hs, .inl (kS, 263169, .inl fs))] [(kS, .int)])) (va_Qi (fun (r : Int32) (_ : Unit) => isB r (cI D x y (L + SX) (L + SY) = 0 ∨ cI D x y (L + SX) (L + SY) = (L + SX) * (L + SY))) (fun _ _ => True) (fun _ => False)) 0 0 (fun _ => False) := by
  refine Met.ofW (cc := b_Search_isAlike) (maxL := 7) (ret := (some .boolean)) (by decide) rfl ?_
  intro p e s m args below meth c s₁ B hml hv
  obtain ⟨rfl, hP, hK⟩ := hv
  have hx := B.exec
  have hb := B.bytes
  have hr := B.returns
  have hts : ∀ w ∈ allw, w.before _ s = true := fun w h => atoms_spec (ws := .code y_Search_isAlike b_Search_isAlike 7 (some .boolean) :: allw) B.pre w (List.mem_cons_of_mem _ h)
  have hown : s.vm.findClass R_Search = some m.cls := findClass_of_methodNamed B.named
  have hlocks := B.notSynchronized
  have hS : va_S (fun _ => False) s.heap s.heap [] := va_S.rf
  have hP : va_P (dC, dI) vwCl [(hq, .inr (3, [.ref hp, .ref hst, .int lim, .int thd, .int md, .int sz0, .int tm, .int tx, .int ty, .int sx, .int sy, .ref hqf, .ref hkn, .int stp])), (hp, .inr (0, [.int pw, .int ph, .ref hw, .ref hs, .int psr])), (hs, .inl (kS, 263169, .inl fs))] s.heap := hP
  have hl := lv_entry ([.ref hq, .int a1, .int a2, .int a3]) (n := 7) (Nat.le_of_ble_eq_true rfl)
  rw [lg_entry_eq]
  generalize (lg_sl ([.ref hq, .int a1, .int a2, .int a3]) ++ List.replicate (7 - (lg_sl ([.ref hq, .int a1, .int a2, .int a3])).length) Slot.unset).toArray = ls at hl ⊢
  have hl : lv_has ls 7 [(0, .ref hq), (1, .int a1), (2, .int a2), (3, .int a3)] := hl
  obtain ⟨hW1, hW2, hH1, hH2, hM1, hM2, hS1, hS2, hX1, hX2, hY1, hY2, hx1, hx2, hy1, hy2⟩ := id hB
  have m3 := mul_b (a := L + SX) (b := L + SY) (n := 512) (by omega) (by omega) (by omega) (by omega)
  have m4 := Int.mul_nonneg (show 0 ≤ L + SX by omega) (show 0 ≤ L + SY by omega)
  refine lv_iload_n hx hb d_Search_isAlike_0 rfl (lv_at hl 3 rfl) ?_
  refine lv_aload_n hx hb d_Search_isAlike_1 rfl (lv_at hl 0 rfl) ?_
  refine va_get (D := (dC, dI)) (ci := 3) (v := .int sx) (C := R_Search) (T := T_Search) (N := 14) hx hb hts i_Search hown hK hP 0 rfl rfl 9 (by decide) (hts _ wd_90) (fun _ h9 => h9) rfl d_Search_isAlike_2 ?_
  refine lv_iadd hx hb d_Search_isAlike_5 ?_
  refine lv_topi (fun v5 e5 => ?_)
  have h5 : v5.toInt = L + SX := by rw [e5]; exact ti_add g3 hsx (by omega) (by omega)
  refine lv_istore (lv' := [(4, .int v5), (0, .ref hq), (1, .int a1), (2, .int a2), (3, .int a3)]) hx hb d_Search_isAlike_6 hl (by decide) rfl (fun ls hl => ?_)
  refine lv_iload_n hx hb d_Search_isAlike_8 rfl (lv_at hl 4 rfl) ?_
  refine lv_aload_n hx hb d_Search_isAlike_9 rfl (lv_at hl 1 rfl) ?_
  refine va_get (D := (dC, dI)) (ci := 3) (v := .int sy) (C := R_Search) (T := T_Search) (N := 14) hx hb hts i_Search hown hK hP 0 rfl rfl 10 (by decide) (hts _ wd_91) (fun _ h9 => h9) rfl d_Search_isAlike_10 ?_
  refine lv_iadd hx hb d_Search_isAlike_13 ?_
  refine lv_topi (fun v13 e13 => ?_)
  have h13 : v13.toInt = L + SY := by rw [e13]; exact ti_add g3 hsy (by omega) (by omega)
  refine lv_istore (lv' := [(5, .int v13), (4, .int v5), (0, .ref hq), (1, .int a1), (2, .int a2), (3, .int a3)]) hx hb d_Search_isAlike_14 hl (by decide) rfl (fun ls hl => ?_)
  refine lv_aload_n hx hb d_Search_isAlike_16 rfl (lv_at hl 2 rfl) ?_
  refine va_get (D := (dC, dI)) (ci := 3) (v := .ref hp) (C := R_Search) (T := T_Search) (N := 14) hx hb hts i_Search hown hK hP 0 rfl rfl 0 (by decide) (hts _ wd_79) (fun _ h9 => h9) rfl d_Search_isAlike_17 ?_
  refine lv_iload_n hx hb d_Search_isAlike_20 rfl (lv_at hl 3 rfl) ?_
  refine lv_iload_n hx hb d_Search_isAlike_21 rfl (lv_at hl 4 rfl) ?_
  refine lv_iload hx hb d_Search_isAlike_22 (lv_at hl 1 rfl) ?_
  refine lv_iload hx hb d_Search_isAlike_24 (lv_at hl 0 rfl) ?_
  have hPc := hP.sub (ws' := [(hp, .inr (0, [.int pw, .int ph, .ref hw, .ref hs, .int psr])), (hs, .inl (kS, 263169, .inl fs))]) [1, 2] rfl
  have hKc := hK.sub (tys' := [(kS, .int)]) [0] rfl
  refine va_calli (va_runV (As := [.int a1, .int a2, .int v5, .int v13]) (rest := []) ⟨hx, hb, hml, hown, hts⟩ (c_countSummed l dC dI hp hw hs kS pw ph psr fs Wd Ht D hpw hph hW1 hW2 hH1 hH2 hsum a1 a2 v5 v13 x y (L + SX) (L + SY) g1 g2 h5 h13) (aw_V 4 hts wd_414 wd_415 wd_416 wd_3 wd_417 rfl rfl (by decide +kernel) ⟨Nat.le_of_ble_eq_true rfl, Nat.le_of_ble_eq_true rfl⟩) ⟨ro_blind, va_recv hKc hPc (ci := 0) (q0 := 0) rfl rfl, ro_pre hPc hKc⟩ rfl rfl hl.1 rfl (lv_room (Nat.le_of_ble_eq_true rfl)) d_Search_isAlike_26 ⟨Nat.le_of_ble_eq_true rfl, Nat.le_of_ble_eq_true rfl⟩) hS (fun q _ h => h.elim) (fun q h => h.elim) (fun v26 _ t9 H26 locs ht hvm h26 hB hz1 hk1 hS => ?_)
  have hP := ro_keep hP hk1
  clear hPc hKc ht hvm hB hz1 hk1
  have g26 : cS D Wd Ht x y (L + SX) (L + SY) = cI D x y (L + SX) (L + SY) := cS_in (by omega)
  rw [g26] at h26
  refine lv_istore (lv' := [(6, .int v26), (5, .int v13), (4, .int v5), (0, .ref hq), (1, .int a1), (2, .int a2), (3, .int a3)]) hx hb d_Search_isAlike_29 hl (by decide) rfl (fun ls hl => ?_)
  refine lv_iload hx hb d_Search_isAlike_31 (lv_at hl 0 rfl) ?_
  refine lv_if_eq (tgt := 46) hx hb d_Search_isAlike_33 (by decide) (fun c33 => ?_) (fun c33 => ?_)
  · skip
    have c33 : (cI D x y (L + SX) (L + SY)) = 0 := (ti_eq h26 (ti_k (by decide))).mp c33
    refine lv_iconst (v := 1) hx hb d_Search_isAlike_46 (by decide) ?_
    refine lv_goto (tgt := 51) hx hb d_Search_isAlike_47 (by decide) ?_
    have hpost : isB 1 (cI D x y (L + SX) (L + SY) = 0 ∨ cI D x y (L + SX) (L + SY) = (L + SX) * (L + SY)) := by
      exact Or.inl ⟨rfl, by omega⟩
    exact W.zret (v := 1) hx hb hr (by decide) (fun t ht hW => ⟨⟨1, (), rfl, hpost, trivial⟩, hS.F ht⟩) hS.2.2 d_Search_isAlike_51
  · skip
    have c33 : ¬ ((cI D x y (L + SX) (L + SY)) = 0) := fun q => c33 ((ti_eq h26 (ti_k (by decide))).mpr q)
    refine lv_iload hx hb d_Search_isAlike_36 (lv_at hl 0 rfl) ?_
    refine lv_iload hx hb d_Search_isAlike_38 (lv_at hl 2 rfl) ?_
    refine lv_iload hx hb d_Search_isAlike_40 (lv_at hl 1 rfl) ?_
    refine lv_imul hx hb d_Search_isAlike_42 ?_
    refine lv_topi (fun v42 e42 => ?_)
    have h42 : v42.toInt = (L + SX) * (L + SY) := by rw [e42]; exact ti_mul h5 h13 (by omega) (by omega)
    refine lv_icmp_ne (tgt := 50) hx hb d_Search_isAlike_43 (by decide) (fun c43 => ?_) (fun c43 => ?_)
    · skip
      have c43 : ¬ ((cI D x y (L + SX) (L + SY)) = ((L + SX) * (L + SY))) := fun q => c43 ((ti_eq h26 h42).mpr q)
      refine lv_iconst (v := 0) hx hb d_Search_isAlike_50 (by decide) ?_
      have hpost : isB 0 (cI D x y (L + SX) (L + SY) = 0 ∨ cI D x y (L + SX) (L + SY) = (L + SX) * (L + SY)) := by
        exact Or.inr ⟨rfl, by omega⟩
      exact W.zret (v := 0) hx hb hr (by decide) (fun t ht hW => ⟨⟨0, (), rfl, hpost, trivial⟩, hS.F ht⟩) hS.2.2 d_Search_isAlike_51
    · skip
      have c43 : (cI D x y (L + SX) (L + SY)) = ((L + SX) * (L + SY)) := (ti_eq h26 h42).mp c43
      refine lv_iconst (v := 1) hx hb d_Search_isAlike_46 (by decide) ?_
      refine lv_goto (tgt := 51) hx hb d_Search_isAlike_47 (by decide) ?_
      have hpost : isB 1 (cI D x y (L + SX) (L + SY) = 0 ∨ cI D x y (L + SX) (L + SY) = (L + SX) * (L + SY)) := by
        exact Or.inl ⟨rfl, by omega⟩
      exact W.zret (v := 1) hx hb hr (by decide) (fun t ht hW => ⟨⟨1, (), rfl, hpost, trivial⟩, hS.F ht⟩) hS.2.2 d_Search_isAlike_51
