set_option maxHeartbeats 4000000 in
set_option maxRecDepth 100000 in
theorem c_lineFloor (l : Launch) (dC : Nat → ClassId) (dI : Nat → Nat → Nat) (hq hp hw hs hst hqf hkn : Nat) (kS : ClassId) (pw ph psr lim thd md sz0 tm tx ty sx sy stp : Int32) (fs : Nat → Int32) (Wd Ht M S TX TY SX SY : Int) (D : Int → Int → Bool) (hpw : pw.toInt = Wd) (hph : ph.toInt = Ht) (hmd : md.toInt = M) (hsz0 : sz0.toInt = S) (htx : tx.toInt = TX) (hty : ty.toInt = TY) (hsx : sx.toInt = SX) (hsy : sy.toInt = SY) (hB : sBnd Wd Ht M S TX TY SX SY) (hsum : ∀ x y, 0 ≤ x → x ≤ Wd → 0 ≤ y → y ≤ Ht → (fs (y * 513 + x).toNat).toInt = cI D 0 0 x y) (a1 : Int32) (k : Int) (g1 : a1.toInt = k) (hk0 : 0 ≤ k) (hk3 : k ≤ 3) (hS21 : 21 ≤ S) (bx : TX + S * M + SX ≤ Wd) (bty : TY + S * M + SY ≤ Ht) : Met l y_Search_lineFloor (.code y_Search_lineFloor b_Search_lineFloor 9 (some .int) :: allw) ({ frames := 2, cells := 0, slots := 0, locals := 54 }) (va_Pc [.ref hq, .int a1] (ro_B (dC, dI) vwCl [(hq, .inr (3, [.ref hp, .ref hst, .int lim, .int thd, .int md, .int sz0, .int tm, .int tx, .int ty, .int sx, .int sy, .ref hqf, .ref hkn, .int stp])), (hp, .inr (0, [.int pw, .int ph, .ref hw, .ref hs, .int psr])), (hs, .inl (kS, 263169, .inl fs))] [(kS, .int)])) (va_Qi (fun (r : Int32) (_ : Unit) => (∃ d, isMost D SX SY (TX + M * (if k = 1 then S - 7 else if k = 3 then 6 else 8)) (TY + M * (if k = 0 then 6 else if k = 2 then S - 7 else 8)) (if k % 2 = 0 then (S - 16) * M else M) (if k % 2 = 0 then M else (S - 16) * M) d ∧ (S - 15) / 2 * M * M - d > 0 ∧ r.toInt = (S - 15) / 2 * M * M - d) ∨ (∃ d e, isMost D SX SY (TX + M * (if k = 1 then S - 7 else if k = 3 then 6 else 8)) (TY + M * (if k = 0 then 6 else if k = 2 then S - 7 else 8)) (if k % 2 = 0 then (S - 16) * M else M) (if k % 2 = 0 then M else (S - 16) * M) d ∧ isLeast D SX SY (TX + M * (if k = 1 then S - 7 else if k = 3 then 6 else 8)) (TY + M * (if k = 0 then 6 else if k = 2 then S - 7 else 8)) (if k % 2 = 0 then (S - 16) * M else M) (if k % 2 = 0 then M else (S - 16) * M) e ∧ (S - 15) / 2 * M * M - d ≤ 0 ∧ r.toInt = max (e - (S - 15) / 2 * M * M) 0)) (fun _ _ => True) (fun _ => False)) 0 0 (fun _ => False) := by
  refine Met.ofW (cc := b_Search_lineFloor) (maxL := 9) (ret := (some .int)) (by decide) rfl ?_
  intro p e s m args below meth c s₁ B hml hv
  obtain ⟨rfl, hP, hK⟩ := hv
  have hx := B.exec
  have hb := B.bytes
  have hr := B.returns
  have hts : ∀ w ∈ allw, w.before _ s = true := fun w h => atoms_spec (ws := .code y_Search_lineFloor b_Search_lineFloor 9 (some .int) :: allw) B.pre w (List.mem_cons_of_mem _ h)
  have hown : s.vm.findClass R_Search = some m.cls := findClass_of_methodNamed B.named
  have hlocks := B.notSynchronized
  have hS : va_S (fun _ => False) s.heap s.heap [] := va_S.rf
  have hP : va_P (dC, dI) vwCl [(hq, .inr (3, [.ref hp, .ref hst, .int lim, .int thd, .int md, .int sz0, .int tm, .int tx, .int ty, .int sx, .int sy, .ref hqf, .ref hkn, .int stp])), (hp, .inr (0, [.int pw, .int ph, .ref hw, .ref hs, .int psr])), (hs, .inl (kS, 263169, .inl fs))] s.heap := hP
  have hl := lv_entry ([.ref hq, .int a1]) (n := 9) (Nat.le_of_ble_eq_true rfl)
  rw [lg_entry_eq]
  generalize (lg_sl ([.ref hq, .int a1]) ++ List.replicate (9 - (lg_sl ([.ref hq, .int a1])).length) Slot.unset).toArray = ls at hl ⊢
  have hl : lv_has ls 9 [(0, .ref hq), (1, .int a1)] := hl
  obtain ⟨hW1, hW2, hH1, hH2, hM1, hM2, hS1, hS2, hX1, hX2, hY1, hY2, hx1, hx2, hy1, hy2⟩ := id hB
  have m2 := mul_b (a := M) (b := M) (n := 16) (by omega) (by omega) (by omega) (by omega)
  have m1 := Int.mul_le_mul (show 1 ≤ M by omega) (show 1 ≤ M by omega) (by omega) (by omega)
  have mS : S * M = (S - 16) * M + 16 * M := by rw [← Int.add_mul]; congr 1; omega
  have mT : M * (S - 7) = (S - 16) * M + 9 * M := by rw [Int.mul_comm, ← Int.add_mul]; congr 1; omega
  have mL := mul_b2 (a := S - 16) (b := M) (p := 161) (q := 16) (by omega) (by omega) (by omega) (by omega)
  have mL1 := Int.mul_le_mul (show 1 ≤ S - 16 by omega) (show 1 ≤ M by omega) (by omega) (by omega)
  have mD := mul_b2 (a := (S - 15) / 2) (b := M) (p := 81) (q := 16) (by omega) (by omega) (by omega) (by omega)
  have mD0 := Int.mul_nonneg (show 0 ≤ (S - 15) / 2 by omega) (show 0 ≤ M by omega)
  have mE := mul_b2 (a := (S - 15) / 2 * M) (b := M) (p := 1296) (q := 16) (by omega) (by omega) (by omega) (by omega)
  have mE0 := Int.mul_nonneg mD0 (show 0 ≤ M by omega)
  have mF := mul_b2 (a := (S - 16) * M) (b := M) (p := 2576) (q := 16) (by omega) (by omega) (by omega) (by omega)
  have mG := mul_b2 (a := M) (b := (S - 16) * M) (p := 16) (q := 2576) (by omega) (by omega) (by omega) (by omega)
  refine lv_aload_n hx hb d_Search_lineFloor_0 rfl (lv_at hl 0 rfl) ?_
  refine va_get (D := (dC, dI)) (ci := 3) (v := .int sz0) (C := R_Search) (T := T_Search) (N := 14) hx hb hts i_Search hown hK hP 0 rfl rfl 5 (by decide) (hts _ wd_86) (fun _ h9 => h9) rfl d_Search_lineFloor_1 ?_
  refine lv_bipush (v := 16) hx hb d_Search_lineFloor_4 (by decide) ?_
  refine lv_isub hx hb d_Search_lineFloor_6 ?_
  refine lv_topi (fun v6 e6 => ?_)
  have h6 : v6.toInt = S - 16 := by rw [e6]; exact ti_sub hsz0 (ti_k (by decide)) (by omega) (by omega)
  refine lv_aload_n hx hb d_Search_lineFloor_7 rfl (lv_at hl 0 rfl) ?_
  refine va_get (D := (dC, dI)) (ci := 3) (v := .int md) (C := R_Search) (T := T_Search) (N := 14) hx hb hts i_Search hown hK hP 0 rfl rfl 4 (by decide) (hts _ wd_85) (fun _ h9 => h9) rfl d_Search_lineFloor_8 ?_
  refine lv_imul hx hb d_Search_lineFloor_11 ?_
  refine lv_topi (fun v11 e11 => ?_)
  have h11 : v11.toInt = (S - 16) * M := by rw [e11]; exact ti_mul h6 hmd (by omega) (by omega)
  refine lv_istore_n (lv' := [(2, .int v11), (0, .ref hq), (1, .int a1)]) hx hb d_Search_lineFloor_12 rfl hl (by decide) rfl (fun ls hl => ?_)
  refine w_cut (I := fun H' locs' g' => ∃ (ww : Int32) (zww : Int) (ls : Array Slot), g' = F0 m 27 ls [.int ww] ∧ lv_has ls 9 [(0, .ref hq), (1, .int a1), (2, .int v11)] ∧ ww.toInt = zww ∧ (zww = (if k % 2 = 0 then (S - 16) * M else M)) ∧ va_P (dC, dI) vwCl [(hq, .inr (3, [.ref hp, .ref hst, .int lim, .int thd, .int md, .int sz0, .int tm, .int tx, .int ty, .int sx, .int sy, .ref hqf, .ref hkn, .int stp])), (hp, .inr (0, [.int pw, .int ph, .ref hw, .ref hs, .int psr])), (hs, .inl (kS, 263169, .inl fs))] H' ∧ va_S (fun _ => False) s.heap H' locs') ?_ ?_
  · skip
    intro H27 locs g' hI
    obtain ⟨ww, zww, ls, rfl, hl, hww, iww, hP, hS⟩ := hI
    refine lv_istore_n (lv' := [(3, .int ww), (0, .ref hq), (1, .int a1), (2, .int v11)]) hx hb d_Search_lineFloor_27 rfl hl (by decide) rfl (fun ls hl => ?_)
    refine w_cut (I := fun H' locs' g' => ∃ (hh : Int32) (zhh : Int) (ls : Array Slot), g' = F0 m 42 ls [.int hh] ∧ lv_has ls 9 [(0, .ref hq), (1, .int a1), (2, .int v11), (3, .int ww)] ∧ hh.toInt = zhh ∧ (zhh = (if k % 2 = 0 then M else (S - 16) * M)) ∧ va_P (dC, dI) vwCl [(hq, .inr (3, [.ref hp, .ref hst, .int lim, .int thd, .int md, .int sz0, .int tm, .int tx, .int ty, .int sx, .int sy, .ref hqf, .ref hkn, .int stp])), (hp, .inr (0, [.int pw, .int ph, .ref hw, .ref hs, .int psr])), (hs, .inl (kS, 263169, .inl fs))] H' ∧ va_S (fun _ => False) s.heap H' locs') ?_ ?_
    · skip
      intro H42 locs g' hI
      obtain ⟨hh, zhh, ls, rfl, hl, hhh, ihh, hP, hS⟩ := hI
      refine lv_istore (lv' := [(4, .int hh), (0, .ref hq), (1, .int a1), (2, .int v11), (3, .int ww)]) hx hb d_Search_lineFloor_42 hl (by decide) rfl (fun ls hl => ?_)
      refine lv_aload_n hx hb d_Search_lineFloor_44 rfl (lv_at hl 1 rfl) ?_
      refine va_get (D := (dC, dI)) (ci := 3) (v := .int sz0) (C := R_Search) (T := T_Search) (N := 14) hx hb hts i_Search hown hK hP 0 rfl rfl 5 (by decide) (hts _ wd_86) (fun _ h9 => h9) rfl d_Search_lineFloor_45 ?_
      refine lv_bipush (v := 15) hx hb d_Search_lineFloor_48 (by decide) ?_
      refine lv_isub hx hb d_Search_lineFloor_50 ?_
      refine lv_topi (fun v50 e50 => ?_)
      have h50 : v50.toInt = S - 15 := by rw [e50]; exact ti_sub hsz0 (ti_k (by decide)) (by omega) (by omega)
      refine lv_iconst (v := 2) hx hb d_Search_lineFloor_51 (by decide) ?_
      refine lv_idiv hx hb d_Search_lineFloor_52 (by decide) ?_
      refine lv_topi (fun v52 e52 => ?_)
      have h52 : v52.toInt = (S - 15) / 2 := by rw [e52]; exact ti_div h50 (ti_k (by decide)) (by omega) (by omega)
      refine lv_aload_n hx hb d_Search_lineFloor_53 rfl (lv_at hl 1 rfl) ?_
      refine va_get (D := (dC, dI)) (ci := 3) (v := .int md) (C := R_Search) (T := T_Search) (N := 14) hx hb hts i_Search hown hK hP 0 rfl rfl 4 (by decide) (hts _ wd_85) (fun _ h9 => h9) rfl d_Search_lineFloor_54 ?_
      refine lv_imul hx hb d_Search_lineFloor_57 ?_
      refine lv_topi (fun v57 e57 => ?_)
      have h57 : v57.toInt = ((S - 15) / 2) * M := by rw [e57]; exact ti_mul h52 hmd (by omega) (by omega)
      refine lv_aload_n hx hb d_Search_lineFloor_58 rfl (lv_at hl 1 rfl) ?_
      refine va_get (D := (dC, dI)) (ci := 3) (v := .int md) (C := R_Search) (T := T_Search) (N := 14) hx hb hts i_Search hown hK hP 0 rfl rfl 4 (by decide) (hts _ wd_85) (fun _ h9 => h9) rfl d_Search_lineFloor_59 ?_
      refine lv_imul hx hb d_Search_lineFloor_62 ?_
      refine lv_topi (fun v62 e62 => ?_)
      have h62 : v62.toInt = (((S - 15) / 2) * M) * M := by rw [e62]; exact ti_mul h57 hmd (by omega) (by omega)
      refine lv_istore (lv' := [(5, .int v62), (4, .int hh), (0, .ref hq), (1, .int a1), (2, .int v11), (3, .int ww)]) hx hb d_Search_lineFloor_63 hl (by decide) rfl (fun ls hl => ?_)
      refine lv_aload_n hx hb d_Search_lineFloor_65 rfl (lv_at hl 2 rfl) ?_
      refine lv_iload_n hx hb d_Search_lineFloor_66 rfl (lv_at hl 3 rfl) ?_
      have hPc := hP.sub (ws' := [(hq, .inr (3, [.ref hp, .ref hst, .int lim, .int thd, .int md, .int sz0, .int tm, .int tx, .int ty, .int sx, .int sy, .ref hqf, .ref hkn, .int stp])), (hp, .inr (0, [.int pw, .int ph, .ref hw, .ref hs, .int psr])), (hs, .inl (kS, 263169, .inl fs))]) [0, 1, 2] rfl
      have hKc := hK.sub (tys' := [(kS, .int)]) [0] rfl
      refine va_calli (va_runV (As := [.int a1]) (rest := []) ⟨hx, hb, hml, hown, hts⟩ (c_lineX l dC dI hq hp hw hs hst hqf hkn kS pw ph psr lim thd md sz0 tm tx ty sx sy stp fs Wd Ht M S TX TY SX SY D hpw hph hmd hsz0 htx hty hsx hsy hB hsum a1 k g1 hk0 hk3 hS21) (aw_V 1 hts wd_476 wd_478 ws_22 wd_2 wd_479 rfl rfl (by decide +kernel) ⟨Nat.le_of_ble_eq_true rfl, Nat.le_of_ble_eq_true rfl⟩) ⟨ro_blind, va_recv hKc hPc (ci := 3) (q0 := 0) rfl rfl, ro_pre hPc hKc⟩ rfl rfl hl.1 rfl (lv_room (Nat.le_of_ble_eq_true rfl)) d_Search_lineFloor_67 ⟨Nat.le_of_ble_eq_true rfl, Nat.le_of_ble_eq_true rfl⟩) hS (fun q _ h => h.elim) (fun q h => h.elim) (fun v67 _ t9 H67 locs ht hvm h67 hB hz1 hk1 hS => ?_)
      have hP := ro_keep hP hk1
      clear hPc hKc ht hvm hB hz1 hk1
      refine lv_istore (lv' := [(6, .int v67), (5, .int v62), (4, .int hh), (0, .ref hq), (1, .int a1), (2, .int v11), (3, .int ww)]) hx hb d_Search_lineFloor_70 hl (by decide) rfl (fun ls hl => ?_)
      refine lv_aload_n hx hb d_Search_lineFloor_72 rfl (lv_at hl 3 rfl) ?_
      refine lv_iload_n hx hb d_Search_lineFloor_73 rfl (lv_at hl 4 rfl) ?_
      have hPc := hP.sub (ws' := [(hq, .inr (3, [.ref hp, .ref hst, .int lim, .int thd, .int md, .int sz0, .int tm, .int tx, .int ty, .int sx, .int sy, .ref hqf, .ref hkn, .int stp])), (hp, .inr (0, [.int pw, .int ph, .ref hw, .ref hs, .int psr])), (hs, .inl (kS, 263169, .inl fs))]) [0, 1, 2] rfl
      have hKc := hK.sub (tys' := [(kS, .int)]) [0] rfl
      refine va_calli (va_runV (As := [.int a1]) (rest := []) ⟨hx, hb, hml, hown, hts⟩ (c_lineY l dC dI hq hp hw hs hst hqf hkn kS pw ph psr lim thd md sz0 tm tx ty sx sy stp fs Wd Ht M S TX TY SX SY D hpw hph hmd hsz0 htx hty hsx hsy hB hsum a1 k g1 hk0 hk3 hS21) (aw_V 1 hts wd_480 wd_482 ws_23 wd_2 wd_483 rfl rfl (by decide +kernel) ⟨Nat.le_of_ble_eq_true rfl, Nat.le_of_ble_eq_true rfl⟩) ⟨ro_blind, va_recv hKc hPc (ci := 3) (q0 := 0) rfl rfl, ro_pre hPc hKc⟩ rfl rfl hl.1 rfl (lv_room (Nat.le_of_ble_eq_true rfl)) d_Search_lineFloor_74 ⟨Nat.le_of_ble_eq_true rfl, Nat.le_of_ble_eq_true rfl⟩) hS (fun q _ h => h.elim) (fun q h => h.elim) (fun v74 _ t9 H74 locs ht hvm h74 hB hz1 hk1 hS => ?_)
      have hP := ro_keep hP hk1
      clear hPc hKc ht hvm hB hz1 hk1
      refine lv_istore (lv' := [(7, .int v74), (6, .int v67), (5, .int v62), (4, .int hh), (0, .ref hq), (1, .int a1), (2, .int v11), (3, .int ww)]) hx hb d_Search_lineFloor_77 hl (by decide) rfl (fun ls hl => ?_)
      have jx : 0 ≤ TX + M * (if k = 1 then S - 7 else if k = 3 then 6 else 8) ∧ TX + M * (if k = 1 then S - 7 else if k = 3 then 6 else 8) + zww + SX ≤ Wd ∧ 0 ≤ TY + M * (if k = 0 then 6 else if k = 2 then S - 7 else 8) ∧ TY + M * (if k = 0 then 6 else if k = 2 then S - 7 else 8) + zhh + SY ≤ Ht ∧ 1 ≤ zww ∧ 1 ≤ zhh ∧ zww * zhh ≤ 41216 := by
        rw [iww, ihh]
        have kk : k = 0 ∨ k = 1 ∨ k = 2 ∨ k = 3 := by omega
        rcases kk with kk | kk | kk | kk
        · subst kk; exact ⟨by show (0 : Int) ≤ TX + M * 8; omega, by show TX + M * 8 + (S - 16) * M + SX ≤ Wd; omega, by show (0 : Int) ≤ TY + M * 6; omega, by show TY + M * 6 + M + SY ≤ Ht; omega, by show 1 ≤ (S - 16) * M; omega, by show 1 ≤ M; omega, by show ((S - 16) * M) * M ≤ 41216; omega⟩
        · subst kk; exact ⟨by show (0 : Int) ≤ TX + M * (S - 7); omega, by show TX + M * (S - 7) + M + SX ≤ Wd; omega, by show (0 : Int) ≤ TY + M * 8; omega, by show TY + M * 8 + (S - 16) * M + SY ≤ Ht; omega, by show 1 ≤ M; omega, by show 1 ≤ (S - 16) * M; omega, by show M * ((S - 16) * M) ≤ 41216; omega⟩
        · subst kk; exact ⟨by show (0 : Int) ≤ TX + M * 8; omega, by show TX + M * 8 + (S - 16) * M + SX ≤ Wd; omega, by show (0 : Int) ≤ TY + M * (S - 7); omega, by show TY + M * (S - 7) + M + SY ≤ Ht; omega, by show 1 ≤ (S - 16) * M; omega, by show 1 ≤ M; omega, by show ((S - 16) * M) * M ≤ 41216; omega⟩
        · subst kk; exact ⟨by show (0 : Int) ≤ TX + M * 6; omega, by show TX + M * 6 + M + SX ≤ Wd; omega, by show (0 : Int) ≤ TY + M * 8; omega, by show TY + M * 8 + (S - 16) * M + SY ≤ Ht; omega, by show 1 ≤ M; omega, by show 1 ≤ (S - 16) * M; omega, by show M * ((S - 16) * M) ≤ 41216; omega⟩
      obtain ⟨jx1, jx2, jx3, jx4, jx5, jx6, jx7⟩ := jx
      refine lv_iload hx hb d_Search_lineFloor_79 (lv_at hl 2 rfl) ?_
      refine lv_aload_n hx hb d_Search_lineFloor_81 rfl (lv_at hl 4 rfl) ?_
      refine lv_iload hx hb d_Search_lineFloor_82 (lv_at hl 1 rfl) ?_
      refine lv_iload hx hb d_Search_lineFloor_84 (lv_at hl 0 rfl) ?_
      refine lv_iload_n hx hb d_Search_lineFloor_86 rfl (lv_at hl 7 rfl) ?_
      refine lv_iload hx hb d_Search_lineFloor_87 (lv_at hl 3 rfl) ?_
      have hPc := hP.sub (ws' := [(hq, .inr (3, [.ref hp, .ref hst, .int lim, .int thd, .int md, .int sz0, .int tm, .int tx, .int ty, .int sx, .int sy, .ref hqf, .ref hkn, .int stp])), (hp, .inr (0, [.int pw, .int ph, .ref hw, .ref hs, .int psr])), (hs, .inl (kS, 263169, .inl fs))]) [0, 1, 2] rfl
      have hKc := hK.sub (tys' := [(kS, .int)]) [0] rfl
      refine va_calli (va_runV (As := [.int v67, .int v74, .int ww, .int hh]) (rest := [.int v62]) ⟨hx, hb, hml, hown, hts⟩ (c_mostDark l dC dI hq hp hw hs hst hqf hkn kS pw ph psr lim thd md sz0 tm tx ty sx sy stp fs Wd Ht M S TX TY SX SY D hpw hph hmd hsz0 htx hty hsx hsy hB hsum v67 v74 ww hh (TX + M * (if k = 1 then S - 7 else if k = 3 then 6 else 8)) (TY + M * (if k = 0 then 6 else if k = 2 then S - 7 else 8)) zww zhh h67 h74 hww hhh (by omega) (by omega) (by omega) (by omega) (by omega) (by omega)) (aw_V 4 hts wd_410 wd_412 ws_9 wd_2 wd_413 rfl rfl (by decide +kernel) ⟨Nat.le_of_ble_eq_true rfl, Nat.le_of_ble_eq_true rfl⟩) ⟨ro_blind, va_recv hKc hPc (ci := 3) (q0 := 0) rfl rfl, ro_pre hPc hKc⟩ rfl rfl hl.1 rfl (lv_room (Nat.le_of_ble_eq_true rfl)) d_Search_lineFloor_89 ⟨Nat.le_of_ble_eq_true rfl, Nat.le_of_ble_eq_true rfl⟩) hS (fun q _ h => h.elim) (fun q h => h.elim) (fun v89 _ t9 H89 locs ht hvm h89 hB hz1 hk1 hS => ?_)
      have hP := ro_keep hP hk1
      clear hPc hKc ht hvm hB hz1 hk1
      have r89 := h89.2.2
      refine lv_isub hx hb d_Search_lineFloor_92 ?_
      refine lv_topi (fun v92 e92 => ?_)
      have h92 : v92.toInt = ((((S - 15) / 2) * M) * M) - v89.toInt := by rw [e92]; exact ti_sub h62 rfl (by omega) (by omega)
      refine lv_istore (lv' := [(8, .int v92), (7, .int v74), (6, .int v67), (5, .int v62), (4, .int hh), (0, .ref hq), (1, .int a1), (2, .int v11), (3, .int ww)]) hx hb d_Search_lineFloor_93 hl (by decide) rfl (fun ls hl => ?_)
      refine lv_iload hx hb d_Search_lineFloor_95 (lv_at hl 0 rfl) ?_
      refine lv_if_le (tgt := 105) hx hb d_Search_lineFloor_97 (by decide) (fun c97 => ?_) (fun c97 => ?_)
      · skip
        have c97 : (((((S - 15) / 2) * M) * M) - v89.toInt) ≤ 0 := (ti_le h92 (ti_k (by decide))).mp c97
        refine lv_aload_n hx hb d_Search_lineFloor_105 rfl (lv_at hl 5 rfl) ?_
        refine lv_iload hx hb d_Search_lineFloor_106 (lv_at hl 2 rfl) ?_
        refine lv_iload hx hb d_Search_lineFloor_108 (lv_at hl 1 rfl) ?_
        refine lv_iload_n hx hb d_Search_lineFloor_110 rfl (lv_at hl 8 rfl) ?_
        refine lv_iload hx hb d_Search_lineFloor_111 (lv_at hl 4 rfl) ?_
        have hPc := hP.sub (ws' := [(hq, .inr (3, [.ref hp, .ref hst, .int lim, .int thd, .int md, .int sz0, .int tm, .int tx, .int ty, .int sx, .int sy, .ref hqf, .ref hkn, .int stp])), (hp, .inr (0, [.int pw, .int ph, .ref hw, .ref hs, .int psr])), (hs, .inl (kS, 263169, .inl fs))]) [0, 1, 2] rfl
        have hKc := hK.sub (tys' := [(kS, .int)]) [0] rfl
        refine va_calli (va_runV (As := [.int v67, .int v74, .int ww, .int hh]) (rest := []) ⟨hx, hb, hml, hown, hts⟩ (c_leastDark l dC dI hq hp hw hs hst hqf hkn kS pw ph psr lim thd md sz0 tm tx ty sx sy stp fs Wd Ht M S TX TY SX SY D hpw hph hmd hsz0 htx hty hsx hsy hB hsum v67 v74 ww hh (TX + M * (if k = 1 then S - 7 else if k = 3 then 6 else 8)) (TY + M * (if k = 0 then 6 else if k = 2 then S - 7 else 8)) zww zhh h67 h74 hww hhh (by omega) (by omega) (by omega) (by omega) (by omega) (by omega)) (aw_V 4 hts wd_423 wd_425 ws_11 wd_2 wd_426 rfl rfl (by decide +kernel) ⟨Nat.le_of_ble_eq_true rfl, Nat.le_of_ble_eq_true rfl⟩) ⟨ro_blind, va_recv hKc hPc (ci := 3) (q0 := 0) rfl rfl, ro_pre hPc hKc⟩ rfl rfl hl.1 rfl (lv_room (Nat.le_of_ble_eq_true rfl)) d_Search_lineFloor_113 ⟨Nat.le_of_ble_eq_true rfl, Nat.le_of_ble_eq_true rfl⟩) hS (fun q _ h => h.elim) (fun q h => h.elim) (fun v113 _ t9 H113 locs ht hvm h113 hB hz1 hk1 hS => ?_)
        have hP := ro_keep hP hk1
        clear hPc hKc ht hvm hB hz1 hk1
        have r113 := h113.2.2
        refine lv_iload hx hb d_Search_lineFloor_116 (lv_at hl 3 rfl) ?_
        refine lv_isub hx hb d_Search_lineFloor_118 ?_
        refine lv_topi (fun v118 e118 => ?_)
        have h118 : v118.toInt = v113.toInt - ((((S - 15) / 2) * M) * M) := by rw [e118]; exact ti_sub rfl h62 (by omega) (by omega)
        refine lv_iconst (v := 0) hx hb d_Search_lineFloor_119 (by decide) ?_
        refine va_mmax hx hb (by rw [hml]; exact hl.1.symm) hown (hts _ wd_422) (hts _ wd_148) (hts _ wd_11) (hts _ wd_149) (Nat.le_of_ble_eq_true rfl) (Nat.le_of_ble_eq_true rfl) (Nat.le_of_ble_eq_true rfl) (Nat.le_of_ble_eq_true rfl) d_Search_lineFloor_120 ?_
        refine lv_topi (fun v120 e120 => ?_)
        have h120 : v120.toInt = max (v113.toInt - ((((S - 15) / 2) * M) * M)) 0 := by rw [e120]; exact ti_max h118 (ti_k (by decide))
        have hpost : (∃ d, isMost D SX SY (TX + M * (if k = 1 then S - 7 else if k = 3 then 6 else 8)) (TY + M * (if k = 0 then 6 else if k = 2 then S - 7 else 8)) (if k % 2 = 0 then (S - 16) * M else M) (if k % 2 = 0 then M else (S - 16) * M) d ∧ (S - 15) / 2 * M * M - d > 0 ∧ (v120 : Int32).toInt = (S - 15) / 2 * M * M - d) ∨ (∃ d e, isMost D SX SY (TX + M * (if k = 1 then S - 7 else if k = 3 then 6 else 8)) (TY + M * (if k = 0 then 6 else if k = 2 then S - 7 else 8)) (if k % 2 = 0 then (S - 16) * M else M) (if k % 2 = 0 then M else (S - 16) * M) d ∧ isLeast D SX SY (TX + M * (if k = 1 then S - 7 else if k = 3 then 6 else 8)) (TY + M * (if k = 0 then 6 else if k = 2 then S - 7 else 8)) (if k % 2 = 0 then (S - 16) * M else M) (if k % 2 = 0 then M else (S - 16) * M) e ∧ (S - 15) / 2 * M * M - d ≤ 0 ∧ (v120 : Int32).toInt = max (e - (S - 15) / 2 * M * M) 0) := by
          rw [iww, ihh] at h89 h113
          exact Or.inr ⟨_, _, h89, h113, by omega, h120⟩
        exact W.iret (v := v120) hx hb hr (fun t ht hW => ⟨⟨v120, (), rfl, hpost, trivial⟩, hS.F ht⟩) hS.2.2 d_Search_lineFloor_123
      · skip
        have c97 : ¬ ((((((S - 15) / 2) * M) * M) - v89.toInt) ≤ 0) := fun q => c97 ((ti_le h92 (ti_k (by decide))).mpr q)
        refine lv_iload hx hb d_Search_lineFloor_100 (lv_at hl 0 rfl) ?_
        refine lv_goto (tgt := 123) hx hb d_Search_lineFloor_102 (by decide) ?_
        have hpost : (∃ d, isMost D SX SY (TX + M * (if k = 1 then S - 7 else if k = 3 then 6 else 8)) (TY + M * (if k = 0 then 6 else if k = 2 then S - 7 else 8)) (if k % 2 = 0 then (S - 16) * M else M) (if k % 2 = 0 then M else (S - 16) * M) d ∧ (S - 15) / 2 * M * M - d > 0 ∧ (v92 : Int32).toInt = (S - 15) / 2 * M * M - d) ∨ (∃ d e, isMost D SX SY (TX + M * (if k = 1 then S - 7 else if k = 3 then 6 else 8)) (TY + M * (if k = 0 then 6 else if k = 2 then S - 7 else 8)) (if k % 2 = 0 then (S - 16) * M else M) (if k % 2 = 0 then M else (S - 16) * M) d ∧ isLeast D SX SY (TX + M * (if k = 1 then S - 7 else if k = 3 then 6 else 8)) (TY + M * (if k = 0 then 6 else if k = 2 then S - 7 else 8)) (if k % 2 = 0 then (S - 16) * M else M) (if k % 2 = 0 then M else (S - 16) * M) e ∧ (S - 15) / 2 * M * M - d ≤ 0 ∧ (v92 : Int32).toInt = max (e - (S - 15) / 2 * M * M) 0) := by
          rw [iww, ihh] at h89
          exact Or.inl ⟨_, h89, by omega, h92⟩
        exact W.iret (v := v92) hx hb hr (fun t ht hW => ⟨⟨v92, (), rfl, hpost, trivial⟩, hS.F ht⟩) hS.2.2 d_Search_lineFloor_123
    · skip
      intro hj42
      refine lv_iload_n hx hb d_Search_lineFloor_28 rfl (lv_at hl 2 rfl) ?_
      refine lv_iconst (v := 2) hx hb d_Search_lineFloor_29 (by decide) ?_
      refine lv_irem hx hb d_Search_lineFloor_30 (by decide) ?_
      refine lv_topi (fun v30 e30 => ?_)
      have h30 : v30.toInt = k % 2 := by rw [e30]; exact ti_rem g1 (ti_k (by decide)) (by omega) (by omega)
      refine lv_if_ne (tgt := 41) hx hb d_Search_lineFloor_31 (by decide) (fun c31 => ?_) (fun c31 => ?_)
      · skip
        have c31 : ¬ ((k % 2) = 0) := fun q => c31 ((ti_eq h30 (ti_k (by decide))).mpr q)
        refine lv_iload_n hx hb d_Search_lineFloor_41 rfl (lv_at hl 3 rfl) ?_
        exact hj42 _ _ _ ⟨v11, ((S - 16) * M), ls, rfl, lv_sub hl [1, 2, 3, 0] rfl, h11, by first | rw [if_pos c31] | rw [if_neg c31], hP, hS⟩
      · skip
        have c31 : (k % 2) = 0 := (ti_eq h30 (ti_k (by decide))).mp c31
        refine lv_aload_n hx hb d_Search_lineFloor_34 rfl (lv_at hl 1 rfl) ?_
        refine va_get (D := (dC, dI)) (ci := 3) (v := .int md) (C := R_Search) (T := T_Search) (N := 14) hx hb hts i_Search hown hK hP 0 rfl rfl 4 (by decide) (hts _ wd_85) (fun _ h9 => h9) rfl d_Search_lineFloor_35 ?_
        refine lv_goto (tgt := 42) hx hb d_Search_lineFloor_38 (by decide) ?_
        exact hj42 _ _ _ ⟨md, M, ls, rfl, lv_sub hl [1, 2, 3, 0] rfl, hmd, by first | rw [if_pos c31] | rw [if_neg c31], hP, hS⟩
  · skip
    intro hj27
    refine lv_iload_n hx hb d_Search_lineFloor_13 rfl (lv_at hl 2 rfl) ?_
    refine lv_iconst (v := 2) hx hb d_Search_lineFloor_14 (by decide) ?_
    refine lv_irem hx hb d_Search_lineFloor_15 (by decide) ?_
    refine lv_topi (fun v15 e15 => ?_)
    have h15 : v15.toInt = k % 2 := by rw [e15]; exact ti_rem g1 (ti_k (by decide)) (by omega) (by omega)
    refine lv_if_ne (tgt := 23) hx hb d_Search_lineFloor_16 (by decide) (fun c16 => ?_) (fun c16 => ?_)
    · skip
      have c16 : ¬ ((k % 2) = 0) := fun q => c16 ((ti_eq h15 (ti_k (by decide))).mpr q)
      refine lv_aload_n hx hb d_Search_lineFloor_23 rfl (lv_at hl 1 rfl) ?_
      refine va_get (D := (dC, dI)) (ci := 3) (v := .int md) (C := R_Search) (T := T_Search) (N := 14) hx hb hts i_Search hown hK hP 0 rfl rfl 4 (by decide) (hts _ wd_85) (fun _ h9 => h9) rfl d_Search_lineFloor_24 ?_
      exact hj27 _ _ _ ⟨md, M, ls, rfl, lv_sub hl [1, 2, 0] rfl, hmd, by first | rw [if_pos c16] | rw [if_neg c16], hP, hS⟩
    · skip
      have c16 : (k % 2) = 0 := (ti_eq h15 (ti_k (by decide))).mp c16
      refine lv_iload_n hx hb d_Search_lineFloor_19 rfl (lv_at hl 0 rfl) ?_
      refine lv_goto (tgt := 27) hx hb d_Search_lineFloor_20 (by decide) ?_
      exact hj27 _ _ _ ⟨v11, ((S - 16) * M), ls, rfl, lv_sub hl [1, 2, 0] rfl, h11, by first | rw [if_pos c16] | rw [if_neg c16], hP, hS⟩
