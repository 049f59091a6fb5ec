set_option maxHeartbeats 4000000 in
set_option maxRecDepth 100000 in
theorem c_withLine (l : Launch) (dC : Nat → ClassId) (dI : Nat → Nat → Nat) (hq hp hw hs hst hqf hkn : Nat) (kS : ClassId) (pw ph psr lim thd md sz0 tm tx ty sx sy stp : Int32) (fs : Nat → Int32) (Wd Ht M S TX TY SX SY : Int) (D : Int → Int → Bool) (hpw : pw.toInt = Wd) (hph : ph.toInt = Ht) (hmd : md.toInt = M) (hsz0 : sz0.toInt = S) (htx : tx.toInt = TX) (hty : ty.toInt = TY) (hsx : sx.toInt = SX) (hsy : sy.toInt = SY) (hB : sBnd Wd Ht M S TX TY SX SY) (hsum : ∀ x y, 0 ≤ x → x ≤ Wd → 0 ≤ y → y ≤ Ht → (fs (y * 513 + x).toNat).toInt = cI D 0 0 x y) (LIM : Int) (hlim : lim.toInt = LIM) (hL : LIM ≤ 1000000000) (a1 : Int32) (k : Int) (g1 : a1.toInt = k) (hk0 : 0 ≤ k) (hk3 : k ≤ 3) (hS21 : 21 ≤ S) (a2 : Int32) (WB : Int) (g2 : a2.toInt = WB) (hw0 : 0 ≤ WB) (hw1 : WB ≤ 1000000000) (bx : TX + S * M + SX ≤ Wd) (bty : TY + S * M + SY ≤ Ht) : Met l y_Search_withLine (.code y_Search_withLine b_Search_withLine 11 (some .int) :: allw) ({ frames := 1, cells := 0, slots := 0, locals := 26 }) (va_Pc [.ref hq, .int a1, .int a2] (ro_B (dC, dI) vwCl [(hq, .inr (3, [.ref hp, .ref hst, .int lim, .int thd, .int md, .int sz0, .int tm, .int tx, .int ty, .int sx, .int sy, .ref hqf, .ref hkn, .int stp])), (hp, .inr (0, [.int pw, .int ph, .ref hw, .ref hs, .int psr])), (hs, .inl (kS, 263169, .inl fs))] [(kS, .int)])) (va_Qi (fun (r : Int32) (_ : Unit) => ∃ j, 0 ≤ j ∧ j ≤ S - 16 ∧ r.toInt = WB + s1 (lwF D M (TX + M * (if k = 1 then S - 7 else if k = 3 then 6 else 8)) (TY + M * (if k = 0 then 6 else if k = 2 then S - 7 else 8)) (if k % 2 = 0 then M else 0)) 0 j.toNat ∧ (j = S - 16 ∨ LIM < r.toInt)) (fun _ _ => True) (fun _ => False)) 0 0 (fun _ => False) := by
  refine Met.ofW (cc := b_Search_withLine) (maxL := 11) (ret := (some .int)) (by decide) rfl ?_
  intro p e s m args below meth c s₁ B hml hv
  obtain ⟨rfl, hP, hK⟩ := hv
  have hx := B.exec
  have hb := B.bytes
  have hr := B.returns
  have hts : ∀ w ∈ allw, w.before _ s = true := fun w h => atoms_spec (ws := .code y_Search_withLine b_Search_withLine 11 (some .int) :: allw) B.pre w (List.mem_cons_of_mem _ h)
  have hown : s.vm.findClass R_Search = some m.cls := findClass_of_methodNamed B.named
  have hlocks := B.notSynchronized
  have hS : va_S (fun _ => False) s.heap s.heap [] := va_S.rf
  have hP : va_P (dC, dI) vwCl [(hq, .inr (3, [.ref hp, .ref hst, .int lim, .int thd, .int md, .int sz0, .int tm, .int tx, .int ty, .int sx, .int sy, .ref hqf, .ref hkn, .int stp])), (hp, .inr (0, [.int pw, .int ph, .ref hw, .ref hs, .int psr])), (hs, .inl (kS, 263169, .inl fs))] s.heap := hP
  have hl := lv_entry ([.ref hq, .int a1, .int a2]) (n := 11) (Nat.le_of_ble_eq_true rfl)
  rw [lg_entry_eq]
  generalize (lg_sl ([.ref hq, .int a1, .int a2]) ++ List.replicate (11 - (lg_sl ([.ref hq, .int a1, .int a2])).length) Slot.unset).toArray = ls at hl ⊢
  have hl : lv_has ls 11 [(0, .ref hq), (1, .int a1), (2, .int a2)] := hl
  obtain ⟨hW1, hW2, hH1, hH2, hM1, hM2, hS1, hS2, hX1, hX2, hY1, hY2, hx1, hx2, hy1, hy2⟩ := id hB
  have m2 := mul_b (a := M) (b := M) (n := 16) (by omega) (by omega) (by omega) (by omega)
  have m1 := Int.mul_le_mul (show 1 ≤ M by omega) (show 1 ≤ M by omega) (by omega) (by omega)
  have mS : S * M = (S - 17) * M + 17 * M := by rw [← Int.add_mul]; congr 1; omega
  have mT : M * (S - 7) = (S - 17) * M + 10 * M := by rw [Int.mul_comm, ← Int.add_mul]; congr 1; omega
  have mL := mul_b2 (a := S - 17) (b := M) (p := 160) (q := 16) (by omega) (by omega) (by omega) (by omega)
  have mL1 := Int.mul_nonneg (show 0 ≤ S - 17 by omega) (show 0 ≤ M by omega)
  have kk : k = 0 ∨ k = 1 ∨ k = 2 ∨ k = 3 := by omega
  refine lv_aload_n hx hb d_Search_withLine_0 rfl (lv_at hl 0 rfl) ?_
  refine va_get (D := (dC, dI)) (ci := 3) (v := .int md) (C := R_Search) (T := T_Search) (N := 14) hx hb hts i_Search hown hK hP 0 rfl rfl 4 (by decide) (hts _ wd_85) (fun _ h9 => h9) rfl d_Search_withLine_1 ?_
  refine lv_istore_n (lv' := [(3, .int md), (0, .ref hq), (1, .int a1), (2, .int a2)]) hx hb d_Search_withLine_4 rfl hl (by decide) rfl (fun ls hl => ?_)
  refine w_cut (I := fun H' locs' g' => ∃ (sp : Int32) (zsp : Int) (ls : Array Slot), g' = F0 m 16 ls [.int sp] ∧ lv_has ls 11 [(0, .ref hq), (1, .int a1), (2, .int a2), (3, .int md)] ∧ sp.toInt = zsp ∧ (zsp = (if k % 2 = 0 then M else 0)) ∧ va_P (dC, dI) vwCl [(hq, .inr (3, [.ref hp, .ref hst, .int lim, .int thd, .int md, .int sz0, .int tm, .int tx, .int ty, .int sx, .int sy, .ref hqf, .ref hkn, .int stp])), (hp, .inr (0, [.int pw, .int ph, .ref hw, .ref hs, .int psr])), (hs, .inl (kS, 263169, .inl fs))] H' ∧ va_S (fun _ => False) s.heap H' locs') ?_ ?_
  · skip
    intro H16 locs g' hI
    obtain ⟨sp, zsp, ls, rfl, hl, hsp, ist, hP, hS⟩ := hI
    refine lv_istore (lv' := [(4, .int sp), (0, .ref hq), (1, .int a1), (2, .int a2), (3, .int md)]) hx hb d_Search_withLine_16 hl (by decide) rfl (fun ls hl => ?_)
    have jst : 0 ≤ zsp ∧ zsp ≤ M := by rw [ist]; split <;> omega
    refine lv_iload_n hx hb d_Search_withLine_18 rfl (lv_at hl 4 rfl) ?_
    refine lv_iload hx hb d_Search_withLine_19 (lv_at hl 0 rfl) ?_
    refine lv_isub hx hb d_Search_withLine_21 ?_
    refine lv_topi (fun v21 e21 => ?_)
    have h21 : v21.toInt = M - zsp := by rw [e21]; exact ti_sub hmd hsp (by omega) (by omega)
    refine lv_istore (lv' := [(5, .int v21), (4, .int sp), (0, .ref hq), (1, .int a1), (2, .int a2), (3, .int md)]) hx hb d_Search_withLine_22 hl (by decide) rfl (fun ls hl => ?_)
    refine lv_aload_n hx hb d_Search_withLine_24 rfl (lv_at hl 2 rfl) ?_
    refine lv_iload_n hx hb d_Search_withLine_25 rfl (lv_at hl 3 rfl) ?_
    have hPc := hP.sub (ws' := [(hq, .inr (3, [.ref hp, .ref hst, .int lim, .int thd, .int md, .int sz0, .int tm, .int tx, .int ty, .int sx, .int sy, .ref hqf, .ref hkn, .int stp])), (hp, .inr (0, [.int pw, .int ph, .ref hw, .ref hs, .int psr])), (hs, .inl (kS, 263169, .inl fs))]) [0, 1, 2] rfl
    have hKc := hK.sub (tys' := [(kS, .int)]) [0] rfl
    refine va_calli (va_runV (As := [.int a1]) (rest := []) ⟨hx, hb, hml, hown, hts⟩ (c_lineX l dC dI hq hp hw hs hst hqf hkn kS pw ph psr lim thd md sz0 tm tx ty sx sy stp fs Wd Ht M S TX TY SX SY D hpw hph hmd hsz0 htx hty hsx hsy hB hsum a1 k g1 hk0 hk3 hS21) (aw_V 1 hts wd_476 wd_478 ws_22 wd_2 wd_479 rfl rfl (by decide +kernel) ⟨Nat.le_of_ble_eq_true rfl, Nat.le_of_ble_eq_true rfl⟩) ⟨ro_blind, va_recv hKc hPc (ci := 3) (q0 := 0) rfl rfl, ro_pre hPc hKc⟩ rfl rfl hl.1 rfl (lv_room (Nat.le_of_ble_eq_true rfl)) d_Search_withLine_26 ⟨Nat.le_of_ble_eq_true rfl, Nat.le_of_ble_eq_true rfl⟩) hS (fun q _ h => h.elim) (fun q h => h.elim) (fun v26 _ t9 H26 locs ht hvm h26 hB hz1 hk1 hS => ?_)
    have hP := ro_keep hP hk1
    clear hPc hKc ht hvm hB hz1 hk1
    refine lv_istore (lv' := [(6, .int v26), (5, .int v21), (4, .int sp), (0, .ref hq), (1, .int a1), (2, .int a2), (3, .int md)]) hx hb d_Search_withLine_29 hl (by decide) rfl (fun ls hl => ?_)
    refine lv_aload_n hx hb d_Search_withLine_31 rfl (lv_at hl 3 rfl) ?_
    refine lv_iload_n hx hb d_Search_withLine_32 rfl (lv_at hl 4 rfl) ?_
    have hPc := hP.sub (ws' := [(hq, .inr (3, [.ref hp, .ref hst, .int lim, .int thd, .int md, .int sz0, .int tm, .int tx, .int ty, .int sx, .int sy, .ref hqf, .ref hkn, .int stp])), (hp, .inr (0, [.int pw, .int ph, .ref hw, .ref hs, .int psr])), (hs, .inl (kS, 263169, .inl fs))]) [0, 1, 2] rfl
    have hKc := hK.sub (tys' := [(kS, .int)]) [0] rfl
    refine va_calli (va_runV (As := [.int a1]) (rest := []) ⟨hx, hb, hml, hown, hts⟩ (c_lineY l dC dI hq hp hw hs hst hqf hkn kS pw ph psr lim thd md sz0 tm tx ty sx sy stp fs Wd Ht M S TX TY SX SY D hpw hph hmd hsz0 htx hty hsx hsy hB hsum a1 k g1 hk0 hk3 hS21) (aw_V 1 hts wd_480 wd_482 ws_23 wd_2 wd_483 rfl rfl (by decide +kernel) ⟨Nat.le_of_ble_eq_true rfl, Nat.le_of_ble_eq_true rfl⟩) ⟨ro_blind, va_recv hKc hPc (ci := 3) (q0 := 0) rfl rfl, ro_pre hPc hKc⟩ rfl rfl hl.1 rfl (lv_room (Nat.le_of_ble_eq_true rfl)) d_Search_withLine_33 ⟨Nat.le_of_ble_eq_true rfl, Nat.le_of_ble_eq_true rfl⟩) hS (fun q _ h => h.elim) (fun q h => h.elim) (fun v33 _ t9 H33 locs ht hvm h33 hB hz1 hk1 hS => ?_)
    have hP := ro_keep hP hk1
    clear hPc hKc ht hvm hB hz1 hk1
    refine lv_istore (lv' := [(7, .int v33), (6, .int v26), (5, .int v21), (4, .int sp), (0, .ref hq), (1, .int a1), (2, .int a2), (3, .int md)]) hx hb d_Search_withLine_36 hl (by decide) rfl (fun ls hl => ?_)
    have jl : 0 ≤ TX + M * (if k = 1 then S - 7 else if k = 3 then 6 else 8) ∧ TX + M * (if k = 1 then S - 7 else if k = 3 then 6 else 8) ≤ 10000 ∧ 0 ≤ TY + M * (if k = 0 then 6 else if k = 2 then S - 7 else 8) ∧ TY + M * (if k = 0 then 6 else if k = 2 then S - 7 else 8) ≤ 10000 := by
      rcases kk with kk | kk | kk | kk
      · subst kk; exact ⟨by show (0 : Int) ≤ TX + M * 8; omega, by show TX + M * 8 ≤ 10000; omega, by show (0 : Int) ≤ TY + M * 6; omega, by show TY + M * 6 ≤ 10000; omega⟩
      · subst kk; exact ⟨by show (0 : Int) ≤ TX + M * (S - 7); omega, by show TX + M * (S - 7) ≤ 10000; omega, by show (0 : Int) ≤ TY + M * 8; omega, by show TY + M * 8 ≤ 10000; omega⟩
      · subst kk; exact ⟨by show (0 : Int) ≤ TX + M * 8; omega, by show TX + M * 8 ≤ 10000; omega, by show (0 : Int) ≤ TY + M * (S - 7); omega, by show TY + M * (S - 7) ≤ 10000; omega⟩
      · subst kk; exact ⟨by show (0 : Int) ≤ TX + M * 6; omega, by show TX + M * 6 ≤ 10000; omega, by show (0 : Int) ≤ TY + M * 8; omega, by show TY + M * 8 ≤ 10000; omega⟩
    refine lv_iload_n hx hb d_Search_withLine_38 rfl (lv_at hl 6 rfl) ?_
    refine lv_istore (lv' := [(8, .int a2), (7, .int v33), (6, .int v26), (5, .int v21), (4, .int sp), (0, .ref hq), (1, .int a1), (2, .int a2), (3, .int md)]) hx hb d_Search_withLine_39 hl (by decide) rfl (fun ls hl => ?_)
    refine lv_iconst (v := 0) hx hb d_Search_withLine_41 (by decide) ?_
    refine lv_istore (lv' := [(9, .int 0), (8, .int a2), (7, .int v33), (6, .int v26), (5, .int v21), (4, .int sp), (0, .ref hq), (1, .int a1), (2, .int a2), (3, .int md)]) hx hb d_Search_withLine_42 hl (by decide) rfl (fun ls hl => ?_)
    refine w_loop (I := fun n H' locs' g' => ∃ (ww : Int32) (zww : Int) (ii : Int32) (zii : Int) (ls : Array Slot), g' = F0 m 44 ls [] ∧ lv_has ls 11 [(0, .ref hq), (1, .int a1), (2, .int a2), (3, .int md), (4, .int sp), (5, .int v21), (6, .int v26), (7, .int v33), (8, .int ww), (9, .int ii)] ∧ n = (S - 16 - zii).toNat ∧ ww.toInt = zww ∧ ii.toInt = zii ∧ (0 ≤ zii ∧ zii ≤ S - 16 ∧ 0 ≤ zww ∧ zww ≤ WB + 256 * zii) ∧ (zww = WB + s1 (lwF D M (TX + M * (if k = 1 then S - 7 else if k = 3 then 6 else 8)) (TY + M * (if k = 0 then 6 else if k = 2 then S - 7 else 8)) zsp) 0 zii.toNat) ∧ va_P (dC, dI) vwCl [(hq, .inr (3, [.ref hp, .ref hst, .int lim, .int thd, .int md, .int sz0, .int tm, .int tx, .int ty, .int sx, .int sy, .ref hqf, .ref hkn, .int stp])), (hp, .inr (0, [.int pw, .int ph, .ref hw, .ref hs, .int psr])), (hs, .inl (kS, 263169, .inl fs))] H' ∧ va_S (fun _ => False) s.heap H' locs') ?_ ⟨a2, WB, 0, 0, ls, rfl, lv_sub hl [6, 7, 8, 9, 5, 4, 3, 2, 1, 0] rfl, rfl, g2, (ti_k (by decide)), by omega, by show WB = WB + 0; omega, hP, hS⟩
    intro n44 H44 locs g' hI ih44
    obtain ⟨ww, zww, ii, zii, ls, rfl, hl, hn, hww, hii, i1, i2, hP, hS⟩ := hI
    refine lv_iload hx hb d_Search_withLine_44 (lv_at hl 9 rfl) ?_
    refine lv_aload_n hx hb d_Search_withLine_46 rfl (lv_at hl 0 rfl) ?_
    refine va_get (D := (dC, dI)) (ci := 3) (v := .int sz0) (C := R_Search) (T := T_Search) (N := 14) hx hb hts i_Search hown hK hP 0 rfl rfl 5 (by decide) (hts _ wd_86) (fun _ h9 => h9) rfl d_Search_withLine_47 ?_
    refine lv_bipush (v := 16) hx hb d_Search_withLine_50 (by decide) ?_
    refine lv_isub hx hb d_Search_withLine_52 ?_
    refine lv_topi (fun v52 e52 => ?_)
    have h52 : v52.toInt = S - 16 := by rw [e52]; exact ti_sub hsz0 (ti_k (by decide)) (by omega) (by omega)
    refine lv_icmp_ge (tgt := 121) hx hb d_Search_withLine_53 (by decide) (fun c53 => ?_) (fun c53 => ?_)
    · skip
      have c53 : (S - 16) ≤ zii := (ti_le h52 hii).mp c53
      refine lv_iload hx hb d_Search_withLine_121 (lv_at hl 8 rfl) ?_
      have hpost : ∃ j, 0 ≤ j ∧ j ≤ S - 16 ∧ (ww : Int32).toInt = WB + s1 (lwF D M (TX + M * (if k = 1 then S - 7 else if k = 3 then 6 else 8)) (TY + M * (if k = 0 then 6 else if k = 2 then S - 7 else 8)) (if k % 2 = 0 then M else 0)) 0 j.toNat ∧ (j = S - 16 ∨ LIM < (ww : Int32).toInt) := by
        rw [hww]
        exact ⟨zii, by omega, by omega, by rw [← ist]; exact i2, by omega⟩
      exact W.iret (v := ww) hx hb hr (fun t ht hW => ⟨⟨ww, (), rfl, hpost, trivial⟩, hS.F ht⟩) hS.2.2 d_Search_withLine_123
    · skip
      have c53 : ¬ ((S - 16) ≤ zii) := fun q => c53 ((ti_le h52 hii).mpr q)
      refine lv_iload hx hb d_Search_withLine_56 (lv_at hl 8 rfl) ?_
      refine lv_aload_n hx hb d_Search_withLine_58 rfl (lv_at hl 0 rfl) ?_
      refine va_get (D := (dC, dI)) (ci := 3) (v := .int lim) (C := R_Search) (T := T_Search) (N := 14) hx hb hts i_Search hown hK hP 0 rfl rfl 2 (by decide) (hts _ wd_83) (fun _ h9 => h9) rfl d_Search_withLine_59 ?_
      refine lv_icmp_gt (tgt := 121) hx hb d_Search_withLine_62 (by decide) (fun c62 => ?_) (fun c62 => ?_)
      · skip
        have c62 : LIM < zww := (ti_lt hlim hww).mp c62
        refine lv_iload hx hb d_Search_withLine_121 (lv_at hl 8 rfl) ?_
        have hpost : ∃ j, 0 ≤ j ∧ j ≤ S - 16 ∧ (ww : Int32).toInt = WB + s1 (lwF D M (TX + M * (if k = 1 then S - 7 else if k = 3 then 6 else 8)) (TY + M * (if k = 0 then 6 else if k = 2 then S - 7 else 8)) (if k % 2 = 0 then M else 0)) 0 j.toNat ∧ (j = S - 16 ∨ LIM < (ww : Int32).toInt) := by
          rw [hww]
          exact ⟨zii, by omega, by omega, by rw [← ist]; exact i2, by omega⟩
        exact W.iret (v := ww) hx hb hr (fun t ht hW => ⟨⟨ww, (), rfl, hpost, trivial⟩, hS.F ht⟩) hS.2.2 d_Search_withLine_123
      · skip
        have c62 : ¬ (LIM < zww) := fun q => c62 ((ti_lt hlim hww).mpr q)
        have u := Int.mul_le_mul_of_nonneg_right (show zii ≤ S - 17 by omega) (show 0 ≤ M by omega)
        have u0 := Int.mul_nonneg (show 0 ≤ zii by omega) (show 0 ≤ M by omega)
        have b3 := mul_b2 (a := zii) (b := zsp) (p := 161) (q := 16) (by omega) (by omega) (by omega) (by omega)
        have b4 := mul_b2 (a := zii) (b := M - zsp) (p := 161) (q := 16) (by omega) (by omega) (by omega) (by omega)
        have b5 := Int.mul_nonneg (show 0 ≤ zii by omega) (show 0 ≤ zsp by omega)
        have b6 := Int.mul_nonneg (show 0 ≤ zii by omega) (show 0 ≤ M - zsp by omega)
        have jx : 0 ≤ TX + M * (if k = 1 then S - 7 else if k = 3 then 6 else 8) + zii * zsp ∧ TX + M * (if k = 1 then S - 7 else if k = 3 then 6 else 8) + zii * zsp + M ≤ Wd ∧ 0 ≤ TY + M * (if k = 0 then 6 else if k = 2 then S - 7 else 8) + zii * (M - zsp) ∧ TY + M * (if k = 0 then 6 else if k = 2 then S - 7 else 8) + zii * (M - zsp) + M ≤ Ht := by
          clear b3 b4 b5 b6
          rcases kk with kk | kk | kk | kk
          · subst kk
            have e : zsp = M := ist
            rw [e]
            refine ⟨?_, ?_, ?_, ?_⟩
            · show (0 : Int) ≤ TX + M * 8 + zii * M; omega
            · show TX + M * 8 + zii * M + M ≤ Wd; omega
            · show (0 : Int) ≤ TY + M * 6 + zii * (M - M); rw [Int.sub_self, Int.mul_zero]; omega
            · show TY + M * 6 + zii * (M - M) + M ≤ Ht; rw [Int.sub_self, Int.mul_zero]; omega
          · subst kk
            have e : zsp = 0 := ist
            rw [e]
            refine ⟨?_, ?_, ?_, ?_⟩
            · show (0 : Int) ≤ TX + M * (S - 7) + zii * 0; rw [Int.mul_zero]; omega
            · show TX + M * (S - 7) + zii * 0 + M ≤ Wd; rw [Int.mul_zero]; omega
            · show (0 : Int) ≤ TY + M * 8 + zii * (M - 0); rw [Int.sub_zero]; omega
            · show TY + M * 8 + zii * (M - 0) + M ≤ Ht; rw [Int.sub_zero]; omega
          · subst kk
            have e : zsp = M := ist
            rw [e]
            refine ⟨?_, ?_, ?_, ?_⟩
            · show (0 : Int) ≤ TX + M * 8 + zii * M; omega
            · show TX + M * 8 + zii * M + M ≤ Wd; omega
            · show (0 : Int) ≤ TY + M * (S - 7) + zii * (M - M); rw [Int.sub_self, Int.mul_zero]; omega
            · show TY + M * (S - 7) + zii * (M - M) + M ≤ Ht; rw [Int.sub_self, Int.mul_zero]; omega
          · subst kk
            have e : zsp = 0 := ist
            rw [e]
            refine ⟨?_, ?_, ?_, ?_⟩
            · show (0 : Int) ≤ TX + M * 6 + zii * 0; rw [Int.mul_zero]; omega
            · show TX + M * 6 + zii * 0 + M ≤ Wd; rw [Int.mul_zero]; omega
            · show (0 : Int) ≤ TY + M * 8 + zii * (M - 0); rw [Int.sub_zero]; omega
            · show TY + M * 8 + zii * (M - 0) + M ≤ Ht; rw [Int.sub_zero]; omega
        refine lv_aload_n hx hb d_Search_withLine_65 rfl (lv_at hl 0 rfl) ?_
        refine va_get (D := (dC, dI)) (ci := 3) (v := .ref hp) (C := R_Search) (T := T_Search) (N := 14) hx hb hts i_Search hown hK hP 0 rfl rfl 0 (by decide) (hts _ wd_79) (fun _ h9 => h9) rfl d_Search_withLine_66 ?_
        refine lv_iload hx hb d_Search_withLine_69 (lv_at hl 6 rfl) ?_
        refine lv_iload hx hb d_Search_withLine_71 (lv_at hl 9 rfl) ?_
        refine lv_iload hx hb d_Search_withLine_73 (lv_at hl 4 rfl) ?_
        refine lv_imul hx hb d_Search_withLine_75 ?_
        refine lv_topi (fun v75 e75 => ?_)
        have h75 : v75.toInt = zii * zsp := by rw [e75]; exact ti_mul hii hsp (by omega) (by omega)
        refine lv_iadd hx hb d_Search_withLine_76 ?_
        refine lv_topi (fun v76 e76 => ?_)
        have h76 : v76.toInt = (TX + M * (if k = 1 then S - 7 else if k = 3 then 6 else 8)) + (zii * zsp) := by rw [e76]; exact ti_add h26 h75 (by omega) (by omega)
        refine lv_iload hx hb d_Search_withLine_77 (lv_at hl 7 rfl) ?_
        refine lv_iload hx hb d_Search_withLine_79 (lv_at hl 9 rfl) ?_
        refine lv_iload hx hb d_Search_withLine_81 (lv_at hl 5 rfl) ?_
        refine lv_imul hx hb d_Search_withLine_83 ?_
        refine lv_topi (fun v83 e83 => ?_)
        have h83 : v83.toInt = zii * (M - zsp) := by rw [e83]; exact ti_mul hii h21 (by omega) (by omega)
        refine lv_iadd hx hb d_Search_withLine_84 ?_
        refine lv_topi (fun v84 e84 => ?_)
        have h84 : v84.toInt = (TY + M * (if k = 0 then 6 else if k = 2 then S - 7 else 8)) + (zii * (M - zsp)) := by rw [e84]; exact ti_add h33 h83 (by omega) (by omega)
        refine lv_iload_n hx hb d_Search_withLine_85 rfl (lv_at hl 3 rfl) ?_
        refine lv_iload_n hx hb d_Search_withLine_86 rfl (lv_at hl 3 rfl) ?_
        have hPc := hP.sub (ws' := [(hp, .inr (0, [.int pw, .int ph, .ref hw, .ref hs, .int psr])), (hs, .inl (kS, 263169, .inl fs))]) [1, 2] rfl
        have hKc := hK.sub (tys' := [(kS, .int)]) [0] rfl
        refine va_calli (va_runV (As := [.int v76, .int v84, .int md, .int md]) (rest := []) ⟨hx, hb, hml, hown, hts⟩ (c_countSummed l dC dI hp hw hs kS pw ph psr fs Wd Ht D hpw hph hW1 hW2 hH1 hH2 hsum v76 v84 md md ((TX + M * (if k = 1 then S - 7 else if k = 3 then 6 else 8)) + (zii * zsp)) ((TY + M * (if k = 0 then 6 else if k = 2 then S - 7 else 8)) + (zii * (M - zsp))) M M h76 h84 hmd hmd) (aw_V 4 hts wd_414 wd_415 wd_416 wd_3 wd_417 rfl rfl (by decide +kernel) ⟨Nat.le_of_ble_eq_true rfl, Nat.le_of_ble_eq_true rfl⟩) ⟨ro_blind, va_recv hKc hPc (ci := 0) (q0 := 0) rfl rfl, ro_pre hPc hKc⟩ rfl rfl hl.1 rfl (lv_room (Nat.le_of_ble_eq_true rfl)) d_Search_withLine_87 ⟨Nat.le_of_ble_eq_true rfl, Nat.le_of_ble_eq_true rfl⟩) hS (fun q _ h => h.elim) (fun q h => h.elim) (fun v87 _ t9 H87 locs ht hvm h87 hB hz1 hk1 hS => ?_)
        have hP := ro_keep hP hk1
        clear hPc hKc ht hvm hB hz1 hk1
        have g87 : cS D Wd Ht (TX + M * (if k = 1 then S - 7 else if k = 3 then 6 else 8) + zii * zsp) (TY + M * (if k = 0 then 6 else if k = 2 then S - 7 else 8) + zii * (M - zsp)) M M = cI D (TX + M * (if k = 1 then S - 7 else if k = 3 then 6 else 8) + zii * zsp) (TY + M * (if k = 0 then 6 else if k = 2 then S - 7 else 8) + zii * (M - zsp)) M M := cS_in (by omega)
        rw [g87] at h87
        have n1 := cI_nn D (TX + M * (if k = 1 then S - 7 else if k = 3 then 6 else 8) + zii * zsp) (TY + M * (if k = 0 then 6 else if k = 2 then S - 7 else 8) + zii * (M - zsp)) M M
        have n2 := cI_le D (TX + M * (if k = 1 then S - 7 else if k = 3 then 6 else 8) + zii * zsp) (TY + M * (if k = 0 then 6 else if k = 2 then S - 7 else 8) + zii * (M - zsp)) (w := M) (h := M) (by omega) (by omega)
        refine lv_istore (lv' := [(10, .int v87), (0, .ref hq), (1, .int a1), (2, .int a2), (3, .int md), (4, .int sp), (5, .int v21), (6, .int v26), (7, .int v33), (8, .int ww), (9, .int ii)]) hx hb d_Search_withLine_90 hl (by decide) rfl (fun ls hl => ?_)
        refine lv_iload hx hb d_Search_withLine_92 (lv_at hl 9 rfl) ?_
        refine lv_iload hx hb d_Search_withLine_94 (lv_at hl 10 rfl) ?_
        refine lv_iconst (v := 2) hx hb d_Search_withLine_96 (by decide) ?_
        refine lv_irem hx hb d_Search_withLine_97 (by decide) ?_
        refine lv_topi (fun v97 e97 => ?_)
        have h97 : v97.toInt = zii % 2 := by rw [e97]; exact ti_rem hii (ti_k (by decide)) (by omega) (by omega)
        refine lv_if_ne (tgt := 110) hx hb d_Search_withLine_98 (by decide) (fun c98 => ?_) (fun c98 => ?_)
        · skip
          have c98 : ¬ ((zii % 2) = 0) := fun q => c98 ((ti_eq h97 (ti_k (by decide))).mpr q)
          refine lv_iload hx hb d_Search_withLine_110 (lv_at hl 0 rfl) ?_
          refine lv_iadd hx hb d_Search_withLine_112 ?_
          refine lv_topi (fun v112 e112 => ?_)
          have h112 : v112.toInt = zww + (cI D (TX + M * (if k = 1 then S - 7 else if k = 3 then 6 else 8) + zii * zsp) (TY + M * (if k = 0 then 6 else if k = 2 then S - 7 else 8) + zii * (M - zsp)) M M) := by rw [e112]; exact ti_add hww h87 (by omega) (by omega)
          refine lv_istore (lv' := [(8, .int v112), (10, .int v87), (0, .ref hq), (1, .int a1), (2, .int a2), (3, .int md), (4, .int sp), (5, .int v21), (6, .int v26), (7, .int v33), (9, .int ii)]) hx hb d_Search_withLine_113 hl (by decide) rfl (fun ls hl => ?_)
          obtain ⟨v115, e115⟩ : ∃ y : Int32, y = ii + 1 := ⟨_, rfl⟩
          have h115 : v115.toInt = zii + 1 := by rw [e115]; exact ti_add hii (ti_k (by decide)) (by omega) (by omega)
          refine lv_iinc (v := v115) (lv' := [(9, .int v115), (8, .int v112), (10, .int v87), (0, .ref hq), (1, .int a1), (2, .int a2), (3, .int md), (4, .int sp), (5, .int v21), (6, .int v26), (7, .int v33)]) hx hb d_Search_withLine_115 hl (k := 10) rfl (by rw [e115]; rfl) (by decide) rfl (fun ls hl => ?_)
          refine lv_goto (tgt := 44) hx hb d_Search_withLine_118 (by decide) ?_
          exact ih44 _ (by omega) _ _ _ ⟨v112, (zww + (cI D (TX + M * (if k = 1 then S - 7 else if k = 3 then 6 else 8) + zii * zsp) (TY + M * (if k = 0 then 6 else if k = 2 then S - 7 else 8) + zii * (M - zsp)) M M)), v115, (zii + 1), ls, rfl, lv_sub hl [3, 4, 5, 6, 7, 8, 9, 10, 1, 0] rfl, rfl, h112, h115, by omega, by first | exact lw_step i2 (by omega) (by unfold lwF; rw [if_pos c98]) | exact lw_step i2 (by omega) (by unfold lwF; rw [if_neg c98]), hP, hS⟩
        · skip
          have c98 : (zii % 2) = 0 := (ti_eq h97 (ti_k (by decide))).mp c98
          refine lv_iload_n hx hb d_Search_withLine_101 rfl (lv_at hl 4 rfl) ?_
          refine lv_iload_n hx hb d_Search_withLine_102 rfl (lv_at hl 4 rfl) ?_
          refine lv_imul hx hb d_Search_withLine_103 ?_
          refine lv_topi (fun v103 e103 => ?_)
          have h103 : v103.toInt = M * M := by rw [e103]; exact ti_mul hmd hmd (by omega) (by omega)
          refine lv_iload hx hb d_Search_withLine_104 (lv_at hl 0 rfl) ?_
          refine lv_isub hx hb d_Search_withLine_106 ?_
          refine lv_topi (fun v106 e106 => ?_)
          have h106 : v106.toInt = (M * M) - (cI D (TX + M * (if k = 1 then S - 7 else if k = 3 then 6 else 8) + zii * zsp) (TY + M * (if k = 0 then 6 else if k = 2 then S - 7 else 8) + zii * (M - zsp)) M M) := by rw [e106]; exact ti_sub h103 h87 (by omega) (by omega)
          refine lv_goto (tgt := 112) hx hb d_Search_withLine_107 (by decide) ?_
          refine lv_iadd hx hb d_Search_withLine_112 ?_
          refine lv_topi (fun v112 e112 => ?_)
          have h112 : v112.toInt = zww + ((M * M) - (cI D (TX + M * (if k = 1 then S - 7 else if k = 3 then 6 else 8) + zii * zsp) (TY + M * (if k = 0 then 6 else if k = 2 then S - 7 else 8) + zii * (M - zsp)) M M)) := by rw [e112]; exact ti_add hww h106 (by omega) (by omega)
          refine lv_istore (lv' := [(8, .int v112), (10, .int v87), (0, .ref hq), (1, .int a1), (2, .int a2), (3, .int md), (4, .int sp), (5, .int v21), (6, .int v26), (7, .int v33), (9, .int ii)]) hx hb d_Search_withLine_113 hl (by decide) rfl (fun ls hl => ?_)
          obtain ⟨v115, e115⟩ : ∃ y : Int32, y = ii + 1 := ⟨_, rfl⟩
          have h115 : v115.toInt = zii + 1 := by rw [e115]; exact ti_add hii (ti_k (by decide)) (by omega) (by omega)
          refine lv_iinc (v := v115) (lv' := [(9, .int v115), (8, .int v112), (10, .int v87), (0, .ref hq), (1, .int a1), (2, .int a2), (3, .int md), (4, .int sp), (5, .int v21), (6, .int v26), (7, .int v33)]) hx hb d_Search_withLine_115 hl (k := 10) rfl (by rw [e115]; rfl) (by decide) rfl (fun ls hl => ?_)
          refine lv_goto (tgt := 44) hx hb d_Search_withLine_118 (by decide) ?_
          exact ih44 _ (by omega) _ _ _ ⟨v112, (zww + ((M * M) - (cI D (TX + M * (if k = 1 then S - 7 else if k = 3 then 6 else 8) + zii * zsp) (TY + M * (if k = 0 then 6 else if k = 2 then S - 7 else 8) + zii * (M - zsp)) M M))), v115, (zii + 1), ls, rfl, lv_sub hl [3, 4, 5, 6, 7, 8, 9, 10, 1, 0] rfl, rfl, h112, h115, by omega, by first | exact lw_step i2 (by omega) (by unfold lwF; rw [if_pos c98]) | exact lw_step i2 (by omega) (by unfold lwF; rw [if_neg c98]), hP, hS⟩
  · skip
    intro hj16
    refine lv_iload_n hx hb d_Search_withLine_5 rfl (lv_at hl 2 rfl) ?_
    refine lv_iconst (v := 2) hx hb d_Search_withLine_6 (by decide) ?_
    refine lv_irem hx hb d_Search_withLine_7 (by decide) ?_
    refine lv_topi (fun v7 e7 => ?_)
    have h7 : v7.toInt = k % 2 := by rw [e7]; exact ti_rem g1 (ti_k (by decide)) (by omega) (by omega)
    refine lv_if_ne (tgt := 15) hx hb d_Search_withLine_8 (by decide) (fun c8 => ?_) (fun c8 => ?_)
    · skip
      have c8 : ¬ ((k % 2) = 0) := fun q => c8 ((ti_eq h7 (ti_k (by decide))).mpr q)
      refine lv_iconst (v := 0) hx hb d_Search_withLine_15 (by decide) ?_
      exact hj16 _ _ _ ⟨0, 0, ls, rfl, lv_sub hl [1, 2, 3, 0] rfl, (ti_k (by decide)), by first | rw [if_pos c8] | rw [if_neg c8], hP, hS⟩
    · skip
      have c8 : (k % 2) = 0 := (ti_eq h7 (ti_k (by decide))).mp c8
      refine lv_iload_n hx hb d_Search_withLine_11 rfl (lv_at hl 0 rfl) ?_
      refine lv_goto (tgt := 16) hx hb d_Search_withLine_12 (by decide) ?_
      exact hj16 _ _ _ ⟨md, M, ls, rfl, lv_sub hl [1, 2, 3, 0] rfl, hmd, by first | rw [if_pos c8] | rw [if_neg c8], hP, hS⟩
