set_option maxHeartbeats 4000000 in
set_option maxRecDepth 100000 in
theorem c_judge (l : Launch) (dC : Nat → ClassId) (dI : Nat → Nat → Nat) (sz : Nat) (hq hp hw hs hst hqf hkn : Nat) (kS : ClassId) (pw ph psr lim thd md sz0 tm tx ty sx sy stp : Int32) (fs : Nat → Int32) (Wd Ht M S TX TY SX SY : Int) (D : Int → Int → Bool) (hpw : pw.toInt = Wd) (hph : ph.toInt = Ht) (hmd : md.toInt = M) (hsz0 : sz0.toInt = S) (htx : tx.toInt = TX) (hty : ty.toInt = TY) (hsx : sx.toInt = SX) (hsy : sy.toInt = SY) (hB : sBnd Wd Ht M S TX TY SX SY) (hsum : ∀ x y, 0 ≤ x → x ≤ Wd → 0 ≤ y → y ≤ Ht → (fs (y * 513 + x).toNat).toInt = cI D 0 0 x y) (LIM : Int) (hlim : lim.toInt = LIM) (hL0 : 0 ≤ LIM) (hL1 : LIM ≤ 500) (V : Int) (hV : S = 17 + 4 * V) (V1 : 1 ≤ V) (V2 : V ≤ 40) (ak ar : Nat) (cK cR : ClassId) (cnt : Int32) (kf wf : Nat → Int32) (nc : Int) (hcnt : cnt.toInt = nc) (AL F : Int → Int → Int → Int → Int → Prop) (hSR : SR D AL F tm kf wf nc) (cQ : ClassId) (qf : Nat → Int32) (a1 : Int32) (L : Int) (g1 : a1.toInt = L) (l0 : 0 ≤ L) (l1 : L < 16) (bx : TX + S * M + SX ≤ Wd) (bty : TY + S * M + SY ≤ Ht) (hqb : ∀ q : Int, 0 ≤ q → q < 4 → (qf q.toNat).toInt ≤ 100000000) (hqv : ∀ q : Int, 0 ≤ q → q < 4 → bt L q = true → (qf q.toNat).toInt = cWk D TX TY M (17 + 4 * V) q + cWk D TX TY M (17 + 4 * V) ((q + 1) % 4) + cWk D TX TY M (17 + 4 * V) ((q + 3) % 4) + spW D TX TY M (17 + 4 * V) q) (hAL : ∀ x y m v q, F x y m v q → AL x y m v q) (hnew : ∀ q, 0 ≤ q → q < 4 → bt L q = true → TW D TX TY M V q ≤ LIM → AL TX TY M V q ∧ ¬ F TX TY M V q) : Met l y_Search_judge (.code y_Search_judge b_Search_judge 6 none :: allw) ({ frames := 2, cells := 0, slots := 0, locals := 56 }) (va_Pc [.ref hq, .int a1] (rw_B (dC, dI) vwCl [(hq, .inr (3, [.ref hp, .ref hst, .int lim, .int thd, .int md, .int sz0, .int tm, .int tx, .int ty, .int sx, .int sy, .ref hqf, .ref hkn, .int stp])), (hp, .inr (0, [.int pw, .int ph, .ref hw, .ref hs, .int psr])), (hs, .inl (kS, 263169, .inl fs)), (hst, .inr (2, [.ref ak, .ref ar, .int cnt])), (ak, .inl (cK, 300, .inl kf)), (ar, .inl (cR, 300, .inl wf)), (hqf, .inl (cQ, 4, .inl qf))] [(kS, .int), (cK, .int), (cR, .int), (cQ, .int)] sz)) (va_Qv (fun (u : Int32 × Int32 × (Nat → Int32) × (Nat → Int32)) => SR D AL (jgF D LIM M V TX TY L 4 F) u.1 u.2.2.1 u.2.2.2 (u.2.1 : Int32).toInt) (fun u t => rw_E (dC, dI) vwCl [(hq, .inr (3, [.ref hp, .ref hst, .int lim, .int thd, .int md, .int sz0, .int u.1, .int tx, .int ty, .int sx, .int sy, .ref hqf, .ref hkn, .int stp])), (hp, .inr (0, [.int pw, .int ph, .ref hw, .ref hs, .int psr])), (hs, .inl (kS, 263169, .inl fs)), (hst, .inr (2, [.ref ak, .ref ar, .int u.2.1])), (ak, .inl (cK, 300, .inl u.2.2.1)), (ar, .inl (cR, 300, .inl u.2.2.2)), (hqf, .inl (cQ, 4, .inl qf))] [(kS, .int), (cK, .int), (cR, .int), (cQ, .int)] (va_A [(hq, .inr (3, [.ref hp, .ref hst, .int lim, .int thd, .int md, .int sz0, .int tm, .int tx, .int ty, .int sx, .int sy, .ref hqf, .ref hkn, .int stp])), (hp, .inr (0, [.int pw, .int ph, .ref hw, .ref hs, .int psr])), (hs, .inl (kS, 263169, .inl fs)), (hst, .inr (2, [.ref ak, .ref ar, .int cnt])), (ak, .inl (cK, 300, .inl kf)), (ar, .inl (cR, 300, .inl wf)), (hqf, .inl (cQ, 4, .inl qf))] sz) t) (va_A [(hq, .inr (3, [.ref hp, .ref hst, .int lim, .int thd, .int md, .int sz0, .int tm, .int tx, .int ty, .int sx, .int sy, .ref hqf, .ref hkn, .int stp])), (hp, .inr (0, [.int pw, .int ph, .ref hw, .ref hs, .int psr])), (hs, .inl (kS, 263169, .inl fs)), (hst, .inr (2, [.ref ak, .ref ar, .int cnt])), (ak, .inl (cK, 300, .inl kf)), (ar, .inl (cR, 300, .inl wf)), (hqf, .inl (cQ, 4, .inl qf))] sz)) 0 0 (va_A [(hq, .inr (3, [.ref hp, .ref hst, .int lim, .int thd, .int md, .int sz0, .int tm, .int tx, .int ty, .int sx, .int sy, .ref hqf, .ref hkn, .int stp])), (hp, .inr (0, [.int pw, .int ph, .ref hw, .ref hs, .int psr])), (hs, .inl (kS, 263169, .inl fs)), (hst, .inr (2, [.ref ak, .ref ar, .int cnt])), (ak, .inl (cK, 300, .inl kf)), (ar, .inl (cR, 300, .inl wf)), (hqf, .inl (cQ, 4, .inl qf))] sz) := by
  refine Met.ofW (cc := b_Search_judge) (maxL := 6) (ret := none) (by decide) rfl ?_
  intro p e s m args below meth c s₁ B hml hv
  obtain ⟨rfl, hsz, hP, hK, hD0⟩ := hv
  have hx := B.exec
  have hb := B.bytes
  have hr := B.returns
  have hts : ∀ w ∈ allw, w.before _ s = true := fun w h => atoms_spec (ws := .code y_Search_judge b_Search_judge 6 none :: allw) B.pre w (List.mem_cons_of_mem _ h)
  have hown : s.vm.findClass R_Search = some m.cls := findClass_of_methodNamed B.named
  have hlocks := B.notSynchronized
  subst hsz
  have hD := hD0.self (sz := s.heap.size)
  generalize hAe : va_A [(hq, .inr (3, [.ref hp, .ref hst, .int lim, .int thd, .int md, .int sz0, .int tm, .int tx, .int ty, .int sx, .int sy, .ref hqf, .ref hkn, .int stp])), (hp, .inr (0, [.int pw, .int ph, .ref hw, .ref hs, .int psr])), (hs, .inl (kS, 263169, .inl fs)), (hst, .inr (2, [.ref ak, .ref ar, .int cnt])), (ak, .inl (cK, 300, .inl kf)), (ar, .inl (cR, 300, .inl wf)), (hqf, .inl (cQ, 4, .inl qf))] s.heap.size = A at hD ⊢
  have hA : ∀ q : Nat, s.heap.size ≤ q → A q := fun q h => by rw [← hAe]; exact Or.inr h
  have hS : va_S A s.heap s.heap [] := va_S.rf
  have hP : va_P (dC, dI) vwCl [(hq, .inr (3, [.ref hp, .ref hst, .int lim, .int thd, .int md, .int sz0, .int tm, .int tx, .int ty, .int sx, .int sy, .ref hqf, .ref hkn, .int stp])), (hp, .inr (0, [.int pw, .int ph, .ref hw, .ref hs, .int psr])), (hs, .inl (kS, 263169, .inl fs)), (hst, .inr (2, [.ref ak, .ref ar, .int cnt])), (ak, .inl (cK, 300, .inl kf)), (ar, .inl (cR, 300, .inl wf)), (hqf, .inl (cQ, 4, .inl qf))] s.heap := hP
  have hl := lv_entry ([.ref hq, .int a1]) (n := 6) (Nat.le_of_ble_eq_true rfl)
  rw [lg_entry_eq]
  generalize (lg_sl ([.ref hq, .int a1]) ++ List.replicate (6 - (lg_sl ([.ref hq, .int a1])).length) Slot.unset).toArray = ls at hl ⊢
  have hl : lv_has ls 6 [(0, .ref hq), (1, .int a1)] := hl
  obtain ⟨hW1, hW2, hH1, hH2, hM1, hM2, hS1, hS2, hX1, hX2, hY1, hY2, hx1, hx2, hy1, hy2⟩ := id hB
  have m2 := mul_b (a := M) (b := M) (n := 16) (by omega) (by omega) (by omega) (by omega)
  refine lv_aload_n hx hb d_Search_judge_0 rfl (lv_at hl 0 rfl) ?_
  refine va_get (D := (dC, dI)) (ci := 3) (v := .int sz0) (C := R_Search) (T := T_Search) (N := 14) hx hb hts i_Search hown hK hP 0 rfl rfl 5 (by decide) (hts _ wd_86) (fun _ h9 => h9) rfl d_Search_judge_1 ?_
  refine lv_bipush (v := 17) hx hb d_Search_judge_4 (by decide) ?_
  refine lv_isub hx hb d_Search_judge_6 ?_
  refine lv_topi (fun v6 e6 => ?_)
  have h6 : v6.toInt = S - 17 := by rw [e6]; exact ti_sub hsz0 (ti_k (by decide)) (by omega) (by omega)
  refine lv_iconst (v := 4) hx hb d_Search_judge_7 (by decide) ?_
  refine lv_idiv hx hb d_Search_judge_8 (by decide) ?_
  refine lv_topi (fun v8 e8 => ?_)
  have h8 : v8.toInt = V := by rw [e8]; rw [ti_div h6 (ti_k (z := 4) (by decide)) (by omega) (by omega)]; omega
  refine lv_istore_n (lv' := [(2, .int v8), (0, .ref hq), (1, .int a1)]) hx hb d_Search_judge_9 rfl hl (by decide) rfl (fun ls hl => ?_)
  refine lv_iconst (v := 0) hx hb d_Search_judge_10 (by decide) ?_
  refine lv_istore_n (lv' := [(3, .int 0), (2, .int v8), (0, .ref hq), (1, .int a1)]) hx hb d_Search_judge_11 rfl hl (by decide) rfl (fun ls hl => ?_)
  refine w_loop (I := fun n H' locs' g' => ∃ (qq : Int32) (zqq : Int) (tc : Int32) (cc : Int32) (zc : Int) (kc : Nat → Int32) (wc : Nat → Int32) (ls : Array Slot), g' = F0 m 12 ls [] ∧ lv_has ls 6 [(0, .ref hq), (1, .int a1), (2, .int v8), (3, .int qq)] ∧ n = (4 - zqq).toNat ∧ qq.toInt = zqq ∧ (0 ≤ zqq ∧ zqq ≤ 4) ∧ (cc.toInt = zc) ∧ (SR D AL (jgF D LIM M V TX TY L zqq F) tc kc wc zc) ∧ va_P (dC, dI) vwCl [(hq, .inr (3, [.ref hp, .ref hst, .int lim, .int thd, .int md, .int sz0, .int tc, .int tx, .int ty, .int sx, .int sy, .ref hqf, .ref hkn, .int stp])), (hp, .inr (0, [.int pw, .int ph, .ref hw, .ref hs, .int psr])), (hs, .inl (kS, 263169, .inl fs)), (hst, .inr (2, [.ref ak, .ref ar, .int cc])), (ak, .inl (cK, 300, .inl kc)), (ar, .inl (cR, 300, .inl wc)), (hqf, .inl (cQ, 4, .inl qf))] H' ∧ va_D A [(hq, .inr (3, [.ref hp, .ref hst, .int lim, .int thd, .int md, .int sz0, .int tc, .int tx, .int ty, .int sx, .int sy, .ref hqf, .ref hkn, .int stp])), (hp, .inr (0, [.int pw, .int ph, .ref hw, .ref hs, .int psr])), (hs, .inl (kS, 263169, .inl fs)), (hst, .inr (2, [.ref ak, .ref ar, .int cc])), (ak, .inl (cK, 300, .inl kc)), (ar, .inl (cR, 300, .inl wc)), (hqf, .inl (cQ, 4, .inl qf))] ∧ va_S A s.heap H' locs') ?_ ⟨0, 0, tm, cnt, nc, kf, wf, ls, rfl, lv_sub hl [2, 3, 1, 0] rfl, rfl, (ti_k (by decide)), by omega, hcnt, SR_congr hSR (fun _ _ _ _ _ => jg_0), hP, hD, hS⟩
  intro n12 H12 locs g' hI ih12
  obtain ⟨qq, zqq, tc, cc, zc, kc, wc, ls, rfl, hl, hn, hqq, i1, hcc, iSR, hP, hD, hS⟩ := hI
  have hcb := iSR.1
  refine lv_iload_n hx hb d_Search_judge_12 rfl (lv_at hl 3 rfl) ?_
  refine lv_iconst (v := 4) hx hb d_Search_judge_13 (by decide) ?_
  refine lv_icmp_ge (tgt := 107) hx hb d_Search_judge_14 (by decide) (fun c14 => ?_) (fun c14 => ?_)
  · skip
    have c14 : (4 : Int) ≤ zqq := (ti_le (ti_k (by decide)) hqq).mp c14
    have hpost : SR D AL (jgF D LIM M V TX TY L 4 F) tc kc wc (cc : Int32).toInt := by
      have e4 : zqq = 4 := by omega
      rw [e4] at iSR
      first | (rw [hcc]; exact iSR) | exact iSR
    have hP9 := hP.sub (ws' := [(hq, .inr (3, [.ref hp, .ref hst, .int lim, .int thd, .int md, .int sz0, .int tc, .int tx, .int ty, .int sx, .int sy, .ref hqf, .ref hkn, .int stp])), (hp, .inr (0, [.int pw, .int ph, .ref hw, .ref hs, .int psr])), (hs, .inl (kS, 263169, .inl fs)), (hst, .inr (2, [.ref ak, .ref ar, .int cc])), (ak, .inl (cK, 300, .inl kc)), (ar, .inl (cR, 300, .inl wc)), (hqf, .inl (cQ, 4, .inl qf))]) [0, 1, 2, 3, 4, 5, 6] rfl
    have hD9 := hD.sub (ws' := [(hq, .inr (3, [.ref hp, .ref hst, .int lim, .int thd, .int md, .int sz0, .int tc, .int tx, .int ty, .int sx, .int sy, .ref hqf, .ref hkn, .int stp])), (hp, .inr (0, [.int pw, .int ph, .ref hw, .ref hs, .int psr])), (hs, .inl (kS, 263169, .inl fs)), (hst, .inr (2, [.ref ak, .ref ar, .int cc])), (ak, .inl (cK, 300, .inl kc)), (ar, .inl (cR, 300, .inl wc)), (hqf, .inl (cQ, 4, .inl qf))]) [0, 1, 2, 3, 4, 5, 6] (by decide) rfl
    have hK9 := hK.sub (tys' := [(kS, .int), (cK, .int), (cR, .int), (cQ, .int)]) [0, 1, 2, 3] rfl
    exact W.vret hx hb hr (fun t ht hW => ⟨⟨(tc, cc, kc, wc), rfl, hpost, by rw [ht]; exact hP9, va_K.moved hW.alike hK9, hD9⟩, hS.F ht⟩) hS.2.2 d_Search_judge_107
  · skip
    have c14 : ¬ ((4 : Int) ≤ zqq) := fun q => c14 ((ti_le (ti_k (by decide)) hqq).mpr q)
    refine lv_iload_n hx hb d_Search_judge_17 rfl (lv_at hl 1 rfl) ?_
    refine lv_iload_n hx hb d_Search_judge_18 rfl (lv_at hl 3 rfl) ?_
    refine lv_ishr hx hb d_Search_judge_19 ?_
    refine lv_topi (fun v19 e19 => ?_)
    refine lv_iconst (v := 1) hx hb d_Search_judge_20 (by decide) ?_
    refine lv_iand hx hb d_Search_judge_21 ?_
    refine lv_topi (fun v21 e21 => ?_)
    refine lv_if_eq (tgt := 101) hx hb d_Search_judge_22 (by decide) (fun c22 => ?_) (fun c22 => ?_)
    · skip
      have b22 : bt L zqq = false := (bt_test g1 hqq (by omega) (by omega) (by omega) (by omega)).mp (by rw [← e19, ← e21]; exact c22)
      obtain ⟨v101, e101⟩ : ∃ y : Int32, y = qq + 1 := ⟨_, rfl⟩
      have h101 : v101.toInt = zqq + 1 := by rw [e101]; exact ti_add hqq (ti_k (by decide)) (by omega) (by omega)
      refine lv_iinc (v := v101) (lv' := [(3, .int v101), (0, .ref hq), (1, .int a1), (2, .int v8)]) hx hb d_Search_judge_101 hl (k := 3) rfl (by rw [e101]; rfl) (by decide) rfl (fun ls hl => ?_)
      refine lv_goto (tgt := 12) hx hb d_Search_judge_104 (by decide) ?_
      exact ih12 _ (by omega) _ _ _ ⟨v101, (zqq + 1), tc, cc, zc, kc, wc, ls, rfl, lv_sub hl [1, 2, 3, 0] rfl, rfl, h101, by omega, by first | exact hcc | rfl, by first | exact SR_congr iSR (fun _ _ _ _ _ => jg_no (Or.inl b22)) | exact SR_congr iSR (fun _ _ _ _ _ => jg_no (Or.inr n79)) | exact sr93 | exact sr98, hP, hD, hS⟩
    · skip
      have b22 : bt L zqq = true := by
        cases hb : bt L zqq with
        | true => rfl
        | false => exact absurd (by rw [e21, e19]; exact (bt_test g1 hqq (by omega) (by omega) (by omega) (by omega)).mpr hb) c22
      have w38 := hqv zqq (by omega) (by omega) b22
      have x38 := hqb zqq (by omega) (by omega)
      have y38a := cW_nn (D := D) (M := M) (k := zqq) (x := fX TX M (17 + 4 * V) (zqq)) (y := fY TY M (17 + 4 * V) (zqq)) (by omega)
      have y38b := cW_nn (D := D) (M := M) (k := (zqq + 1) % 4) (x := fX TX M (17 + 4 * V) ((zqq + 1) % 4)) (y := fY TY M (17 + 4 * V) ((zqq + 1) % 4)) (by omega)
      have y38c := cW_nn (D := D) (M := M) (k := (zqq + 3) % 4) (x := fX TX M (17 + 4 * V) ((zqq + 3) % 4)) (y := fY TY M (17 + 4 * V) ((zqq + 3) % 4)) (by omega)
      have y38d := sp_nn (D := D) (x := TX) (y := TY) (M := M) (S := 17 + 4 * V) (k := zqq) (by omega)
      have z38 : 0 ≤ (qf zqq.toNat).toInt := by unfold cWk at w38; omega
      refine lv_aload_n hx hb d_Search_judge_25 rfl (lv_at hl 0 rfl) ?_
      refine lv_iload_n hx hb d_Search_judge_26 rfl (lv_at hl 3 rfl) ?_
      refine lv_iconst (v := 3) hx hb d_Search_judge_27 (by decide) ?_
      refine lv_iadd hx hb d_Search_judge_28 ?_
      refine lv_topi (fun v28 e28 => ?_)
      have h28 : v28.toInt = zqq + 3 := by rw [e28]; exact ti_add hqq (ti_k (by decide)) (by omega) (by omega)
      refine lv_iconst (v := 3) hx hb d_Search_judge_29 (by decide) ?_
      refine lv_iand hx hb d_Search_judge_30 ?_
      refine lv_topi (fun v30 e30 => ?_)
      have h30 : v30.toInt = (zqq + 3) % 4 := by rw [e30]; exact bt_and3 h28 (by omega) (by omega)
      refine lv_aload_n hx hb d_Search_judge_31 rfl (lv_at hl 0 rfl) ?_
      refine lv_iload_n hx hb d_Search_judge_32 rfl (lv_at hl 3 rfl) ?_
      refine lv_aload_n hx hb d_Search_judge_33 rfl (lv_at hl 0 rfl) ?_
      refine va_get (D := (dC, dI)) (ci := 3) (v := .ref hqf) (C := R_Search) (T := T_Search) (N := 14) hx hb hts i_Search hown hK hP 0 rfl rfl 11 (by decide) (hts _ wd_92) (fun _ h9 => h9) rfl d_Search_judge_34 ?_
      refine lv_iload_n hx hb d_Search_judge_37 rfl (lv_at hl 3 rfl) ?_
      have in38 : vp_in qq 4 := vi_in hqq (by omega) (by omega)
      refine va_iald hx hb hK hP 6 3 rfl rfl in38 d_Search_judge_38 ?_
      refine lv_topi (fun v38 e38 => ?_)
      have e38 : v38 = qf (zqq).toNat := by rw [e38, vi_cl hqq]
      have hPc := hP.sub (ws' := [(hq, .inr (3, [.ref hp, .ref hst, .int lim, .int thd, .int md, .int sz0, .int tc, .int tx, .int ty, .int sx, .int sy, .ref hqf, .ref hkn, .int stp])), (hp, .inr (0, [.int pw, .int ph, .ref hw, .ref hs, .int psr])), (hs, .inl (kS, 263169, .inl fs))]) [0, 1, 2] rfl
      have hKc := hK.sub (tys' := [(kS, .int)]) [0] rfl
      refine va_calli (va_runV (As := [.int qq, .int v38]) (rest := [.int v30, .ref hq]) ⟨hx, hb, hml, hown, hts⟩ (c_withLine l dC dI hq hp hw hs hst hqf hkn kS pw ph psr lim thd md sz0 tc tx ty sx sy stp fs Wd Ht M S TX TY SX SY D hpw hph hmd hsz0 htx hty hsx hsy hB hsum LIM hlim (by omega) qq zqq hqq (by omega) (by omega) (by omega) v38 ((qf zqq.toNat).toInt) (congrArg Int32.toInt e38) (by omega) (by omega) bx bty) (aw_V 2 hts wd_488 wd_490 ws_25 wd_2 wd_491 rfl rfl (by decide +kernel) ⟨Nat.le_of_ble_eq_true rfl, Nat.le_of_ble_eq_true rfl⟩) ⟨ro_blind, va_recv hKc hPc (ci := 3) (q0 := 0) rfl rfl, ro_pre hPc hKc⟩ rfl rfl hl.1 rfl (lv_room (Nat.le_of_ble_eq_true rfl)) d_Search_judge_39 ⟨Nat.le_of_ble_eq_true rfl, Nat.le_of_ble_eq_true rfl⟩) hS (fun q _ h => h.elim) (fun q h => h.elim) (fun v39 _ t9 H39 locs ht hvm h39 hB hz1 hk1 hS => ?_)
      have hP := ro_keep hP hk1
      clear hPc hKc ht hvm hB hz1 hk1
      have b39 := wp_b (by omega) (by omega) (by omega) h39
      have j39 : (v39.toInt ≤ LIM ↔ (qf zqq.toNat).toInt + LSk D TX TY M (17 + 4 * V) zqq ≤ LIM) ∧ (v39.toInt ≤ LIM → v39.toInt = (qf zqq.toNat).toInt + LSk D TX TY M (17 + 4 * V) zqq) := by rw [← hV]; exact lw_end (by omega) h39
      have hPc := hP.sub (ws' := [(hq, .inr (3, [.ref hp, .ref hst, .int lim, .int thd, .int md, .int sz0, .int tc, .int tx, .int ty, .int sx, .int sy, .ref hqf, .ref hkn, .int stp])), (hp, .inr (0, [.int pw, .int ph, .ref hw, .ref hs, .int psr])), (hs, .inl (kS, 263169, .inl fs))]) [0, 1, 2] rfl
      have hKc := hK.sub (tys' := [(kS, .int)]) [0] rfl
      refine va_calli (va_runV (As := [.int v30, .int v39]) (rest := []) ⟨hx, hb, hml, hown, hts⟩ (c_withLine l dC dI hq hp hw hs hst hqf hkn kS pw ph psr lim thd md sz0 tc tx ty sx sy stp fs Wd Ht M S TX TY SX SY D hpw hph hmd hsz0 htx hty hsx hsy hB hsum LIM hlim (by omega) v30 ((zqq + 3) % 4) h30 (by omega) (by omega) (by omega) v39 v39.toInt rfl (by omega) (by omega) bx bty) (aw_V 2 hts wd_488 wd_490 ws_25 wd_2 wd_491 rfl rfl (by decide +kernel) ⟨Nat.le_of_ble_eq_true rfl, Nat.le_of_ble_eq_true rfl⟩) ⟨ro_blind, va_recv hKc hPc (ci := 3) (q0 := 0) rfl rfl, ro_pre hPc hKc⟩ rfl rfl hl.1 rfl (lv_room (Nat.le_of_ble_eq_true rfl)) d_Search_judge_42 ⟨Nat.le_of_ble_eq_true rfl, Nat.le_of_ble_eq_true rfl⟩) hS (fun q _ h => h.elim) (fun q h => h.elim) (fun v42 _ t9 H42 locs ht hvm h42 hB hz1 hk1 hS => ?_)
      have hP := ro_keep hP hk1
      clear hPc hKc ht hvm hB hz1 hk1
      have b42 := wp_b (by omega) (by omega) (by omega) h42
      have j40 : (v42.toInt ≤ LIM ↔ v39.toInt + LSk D TX TY M (17 + 4 * V) ((zqq + 3) % 4) ≤ LIM) ∧ (v42.toInt ≤ LIM → v42.toInt = v39.toInt + LSk D TX TY M (17 + 4 * V) ((zqq + 3) % 4)) := by rw [← hV]; exact lw_end (by omega) h42
      have j42 := jg_sum (by omega) V1 (by omega) (by omega) w38 j39 b42.1 j40
      refine lv_istore (lv' := [(4, .int v42), (0, .ref hq), (1, .int a1), (2, .int v8), (3, .int qq)]) hx hb d_Search_judge_45 hl (by decide) rfl (fun ls hl => ?_)
      refine lv_aload_n hx hb d_Search_judge_47 rfl (lv_at hl 1 rfl) ?_
      refine va_get (D := (dC, dI)) (ci := 3) (v := .int tx) (C := R_Search) (T := T_Search) (N := 14) hx hb hts i_Search hown hK hP 0 rfl rfl 7 (by decide) (hts _ wd_88) (fun _ h9 => h9) rfl d_Search_judge_48 ?_
      refine lv_aload_n hx hb d_Search_judge_51 rfl (lv_at hl 1 rfl) ?_
      refine va_get (D := (dC, dI)) (ci := 3) (v := .int ty) (C := R_Search) (T := T_Search) (N := 14) hx hb hts i_Search hown hK hP 0 rfl rfl 8 (by decide) (hts _ wd_89) (fun _ h9 => h9) rfl d_Search_judge_52 ?_
      refine lv_aload_n hx hb d_Search_judge_55 rfl (lv_at hl 1 rfl) ?_
      refine va_get (D := (dC, dI)) (ci := 3) (v := .int md) (C := R_Search) (T := T_Search) (N := 14) hx hb hts i_Search hown hK hP 0 rfl rfl 4 (by decide) (hts _ wd_85) (fun _ h9 => h9) rfl d_Search_judge_56 ?_
      refine lv_bipush (v := 8) hx hb d_Search_judge_59 (by decide) ?_
      refine lv_ishl hx hb d_Search_judge_61 ?_
      refine lv_topi (fun v61 e61 => ?_)
      refine lv_iload_n hx hb d_Search_judge_62 rfl (lv_at hl 3 rfl) ?_
      refine lv_iconst (v := 2) hx hb d_Search_judge_63 (by decide) ?_
      refine lv_ishl hx hb d_Search_judge_64 ?_
      refine lv_topi (fun v64 e64 => ?_)
      refine lv_ior hx hb d_Search_judge_65 ?_
      refine lv_topi (fun v65 e65 => ?_)
      refine lv_iload_n hx hb d_Search_judge_66 rfl (lv_at hl 4 rfl) ?_
      refine lv_ior hx hb d_Search_judge_67 ?_
      refine lv_topi (fun v67 e67 => ?_)
      have h67 : v67.toInt = M * 256 + V * 4 + zqq := by rw [e67]; rw [e65, e61, e64]; exact jg_key hmd h8 hqq (by omega) (by omega) (by omega) (by omega) (by omega) (by omega)
      have p68 := Int.mul_le_mul (show 1 ≤ M by omega) (show (21 : Int) ≤ S by omega) (by omega) (by omega)
      have q68 : S * M = M * S := Int.mul_comm _ _
      have hPc := hP.sub (ws' := []) [] rfl
      have hKc := hK.sub (tys' := []) [] rfl
      refine va_calli (va_runS (As := [.int tx, .int ty, .int v67]) (rest := []) ⟨hx, hb, hml, hown, hts⟩ (c_keyOf l dC dI tx ty v67 TX TY (M * 256 + V * 4 + zqq) htx hty h67 (by omega) (by omega) (by omega) (by omega) (by omega) (by omega)) (aw_S 3 hts wd_492 wd_303 wd_13 wd_304 rfl rfl (by decide +kernel) ⟨Nat.le_of_ble_eq_true rfl, Nat.le_of_ble_eq_true rfl⟩) ⟨ro_blind, ro_pre hPc hKc⟩ rfl rfl hl.1 rfl (lv_room (Nat.le_of_ble_eq_true rfl)) d_Search_judge_68 ⟨Nat.le_of_ble_eq_true rfl, Nat.le_of_ble_eq_true rfl⟩) hS (fun q _ h => h.elim) (fun q h => h.elim) (fun v68 _ t9 H68 locs ht hvm h68 hB hz1 hk1 hS => ?_)
      have hP := ro_keep hP hk1
      clear hPc hKc ht hvm hB hz1 hk1
      refine lv_istore (lv' := [(5, .int v68), (4, .int v42), (0, .ref hq), (1, .int a1), (2, .int v8), (3, .int qq)]) hx hb d_Search_judge_71 hl (by decide) rfl (fun ls hl => ?_)
      refine lv_iload hx hb d_Search_judge_73 (lv_at hl 1 rfl) ?_
      refine lv_aload_n hx hb d_Search_judge_75 rfl (lv_at hl 2 rfl) ?_
      refine va_get (D := (dC, dI)) (ci := 3) (v := .int lim) (C := R_Search) (T := T_Search) (N := 14) hx hb hts i_Search hown hK hP 0 rfl rfl 2 (by decide) (hts _ wd_83) (fun _ h9 => h9) rfl d_Search_judge_76 ?_
      refine lv_icmp_gt (tgt := 101) hx hb d_Search_judge_79 (by decide) (fun c79 => ?_) (fun c79 => ?_)
      · skip
        have c79 : LIM < v42.toInt := (ti_lt hlim rfl).mp c79
        have n79 : LIM < TW D TX TY M V zqq := by have t := j42.1; omega
        obtain ⟨v101, e101⟩ : ∃ y : Int32, y = qq + 1 := ⟨_, rfl⟩
        have h101 : v101.toInt = zqq + 1 := by rw [e101]; exact ti_add hqq (ti_k (by decide)) (by omega) (by omega)
        refine lv_iinc (v := v101) (lv' := [(3, .int v101), (5, .int v68), (4, .int v42), (0, .ref hq), (1, .int a1), (2, .int v8)]) hx hb d_Search_judge_101 hl (k := 5) rfl (by rw [e101]; rfl) (by decide) rfl (fun ls hl => ?_)
        refine lv_goto (tgt := 12) hx hb d_Search_judge_104 (by decide) ?_
        exact ih12 _ (by omega) _ _ _ ⟨v101, (zqq + 1), tc, cc, zc, kc, wc, ls, rfl, lv_sub hl [3, 4, 5, 0] rfl, rfl, h101, by omega, by first | exact hcc | rfl, by first | exact SR_congr iSR (fun _ _ _ _ _ => jg_no (Or.inl b22)) | exact SR_congr iSR (fun _ _ _ _ _ => jg_no (Or.inr n79)) | exact sr93 | exact sr98, hP, hD, hS⟩
      · skip
        have c79 : ¬ (LIM < v42.toInt) := fun q => c79 ((ti_lt hlim rfl).mpr q)
        have t79 : TW D TX TY M V zqq ≤ LIM := j42.1.mp (by omega)
        have e79 := j42.2 (by omega)
        obtain ⟨al79, nf79⟩ := hnew zqq (by omega) (by omega) b22 t79
        have nj79 : ¬ jgF D LIM M V TX TY L zqq F TX TY M V zqq := by
          rintro (q | ⟨_, _, _, _, _, q, _⟩)
          · exact nf79 q
          · omega
        have p79 := fX_b (x := TX) (M := M) (S := S) (k := 0) (by omega) (by omega)
        have m79 := Int.mul_le_mul (show 1 ≤ M by omega) (show (21 : Int) ≤ S by omega) (by omega) (by omega)
        have mc79 : S * M = M * S := Int.mul_comm _ _
        have bn79 : bnd5 TX TY M V zqq := by unfold bnd5; omega
        have ky79 : v68.toInt = keyI TX TY M V zqq := by rw [h68]; unfold keyI; omega
        refine lv_aload_n hx hb d_Search_judge_82 rfl (lv_at hl 2 rfl) ?_
        refine va_get (D := (dC, dI)) (ci := 3) (v := .ref hst) (C := R_Search) (T := T_Search) (N := 14) hx hb hts i_Search hown hK hP 0 rfl rfl 1 (by decide) (hts _ wd_81) (fun _ h9 => h9) rfl d_Search_judge_83 ?_
        refine lv_iload hx hb d_Search_judge_86 (lv_at hl 0 rfl) ?_
        refine lv_iload hx hb d_Search_judge_88 (lv_at hl 1 rfl) ?_
        have hPc := hP.sub (ws' := [(hst, .inr (2, [.ref ak, .ref ar, .int cc])), (ak, .inl (cK, 300, .inl kc)), (ar, .inl (cR, 300, .inl wc))]) [3, 4, 5] rfl
        have hKc := hK.sub (tys' := [(cK, .int), (cR, .int)]) [1, 2] rfl
        have hDc := hD.sub (ws' := [(hst, .inr (2, [.ref ak, .ref ar, .int cc])), (ak, .inl (cK, 300, .inl kc)), (ar, .inl (cR, 300, .inl wc))]) [3, 4, 5] (by decide) rfl
        have hFc := va_free (wc := [(hst, .inr (2, [.ref ak, .ref ar, .int cc])), (ak, .inl (cK, 300, .inl kc)), (ar, .inl (cR, 300, .inl wc))]) hD hS hA [3, 4, 5] rfl
        refine va_calli (va_runV (As := [.int v68, .int v42]) (rest := []) ⟨hx, hb, hml, hown, hts⟩ (c_add l dC dI H68.size hst ak ar cK cR cc kc wc zc hcc (by omega) (by omega) v68 v42 (TY * 4194304 + TX * 8192 + (M * 256 + V * 4 + zqq)) v42.toInt h68 rfl) (aw_V 2 hts wd_493 wd_494 wd_495 wd_4 wd_496 rfl rfl (by decide +kernel) ⟨Nat.le_of_ble_eq_true rfl, Nat.le_of_ble_eq_true rfl⟩) ⟨rw_blind, va_recv hKc hPc (ci := 2) (q0 := 0) rfl rfl, rw_pre hPc hKc hDc⟩ rfl rfl hl.1 rfl (lv_room (Nat.le_of_ble_eq_true rfl)) d_Search_judge_90 ⟨Nat.le_of_ble_eq_true rfl, Nat.le_of_ble_eq_true rfl⟩) hS (fun q _ h => hFc q h) hFc (fun v90 u t9 H90 locs ht hvm h90 hB hz1 hk1 hS => ?_)
        obtain ⟨u90_cnt, u90_kf, u90_wf⟩ := u
        obtain ⟨hP1, _, hD1⟩ := hB
        rw [ht] at hP1
        try dsimp only at h90 hP1 hD1
        obtain ⟨hP, hD⟩ := va_join (wr := [(hq, .inr (3, [.ref hp, .ref hst, .int lim, .int thd, .int md, .int sz0, .int tc, .int tx, .int ty, .int sx, .int sy, .ref hqf, .ref hkn, .int stp])), (hp, .inr (0, [.int pw, .int ph, .ref hw, .ref hs, .int psr])), (hs, .inl (kS, 263169, .inl fs)), (hqf, .inl (cQ, 4, .inl qf))]) (w1 := [(hst, .inr (2, [.ref ak, .ref ar, .int u90_cnt])), (ak, .inl (cK, 300, .inl u90_kf)), (ar, .inl (cR, 300, .inl u90_wf))]) hP hD [3, 4, 5] [0, 1, 2, 6] rfl rfl (by decide) (by decide) hk1 hFc hP1 hD1
        have hP := hP.sub (ws' := [(hq, .inr (3, [.ref hp, .ref hst, .int lim, .int thd, .int md, .int sz0, .int tc, .int tx, .int ty, .int sx, .int sy, .ref hqf, .ref hkn, .int stp])), (hp, .inr (0, [.int pw, .int ph, .ref hw, .ref hs, .int psr])), (hs, .inl (kS, 263169, .inl fs)), (hst, .inr (2, [.ref ak, .ref ar, .int u90_cnt])), (ak, .inl (cK, 300, .inl u90_kf)), (ar, .inl (cR, 300, .inl u90_wf)), (hqf, .inl (cQ, 4, .inl qf))]) [0, 1, 2, 4, 5, 6, 3] rfl
        have hD := hD.sub (ws' := [(hq, .inr (3, [.ref hp, .ref hst, .int lim, .int thd, .int md, .int sz0, .int tc, .int tx, .int ty, .int sx, .int sy, .ref hqf, .ref hkn, .int stp])), (hp, .inr (0, [.int pw, .int ph, .ref hw, .ref hs, .int psr])), (hs, .inl (kS, 263169, .inl fs)), (hst, .inr (2, [.ref ak, .ref ar, .int u90_cnt])), (ak, .inl (cK, 300, .inl u90_kf)), (ar, .inl (cR, 300, .inl u90_wf)), (hqf, .inl (cQ, 4, .inl qf))]) [0, 1, 2, 4, 5, 6, 3] (by decide) rfl
        clear hPc hKc hDc hFc ht hvm hz1 hk1 hP1 hD1
        refine lv_if_ne (tgt := 101) hx hb d_Search_judge_93 (by decide) (fun c93 => ?_) (fun c93 => ?_)
        · skip
          have sr93 : SR D AL (jgF D LIM M V TX TY L (zqq + 1) F) tc u90_kf u90_wf u90_cnt.toInt := by
            rcases h90 with ⟨_, r0, _⟩ | ⟨r1, _, r2, r3⟩
            · exact absurd r0 c93
            · rw [r2]; exact SR_congr (SR_add iSR r1 r3 ky79 e79 (by omega) bn79 nj79) (fun _ _ _ _ _ => jg_yes (by omega) b22 t79)
          obtain ⟨v101, e101⟩ : ∃ y : Int32, y = qq + 1 := ⟨_, rfl⟩
          have h101 : v101.toInt = zqq + 1 := by rw [e101]; exact ti_add hqq (ti_k (by decide)) (by omega) (by omega)
          refine lv_iinc (v := v101) (lv' := [(3, .int v101), (5, .int v68), (4, .int v42), (0, .ref hq), (1, .int a1), (2, .int v8)]) hx hb d_Search_judge_101 hl (k := 5) rfl (by rw [e101]; rfl) (by decide) rfl (fun ls hl => ?_)
          refine lv_goto (tgt := 12) hx hb d_Search_judge_104 (by decide) ?_
          exact ih12 _ (by omega) _ _ _ ⟨v101, (zqq + 1), tc, u90_cnt, (u90_cnt.toInt), u90_kf, u90_wf, ls, rfl, lv_sub hl [3, 4, 5, 0] rfl, rfl, h101, by omega, by first | exact hcc | rfl, by first | exact SR_congr iSR (fun _ _ _ _ _ => jg_no (Or.inl b22)) | exact SR_congr iSR (fun _ _ _ _ _ => jg_no (Or.inr n79)) | exact sr93 | exact sr98, hP, hD, hS⟩
        · skip
          obtain ⟨f0, f1, f2, f3⟩ : zc = 300 ∧ u90_cnt = cc ∧ u90_kf = kc ∧ u90_wf = wc := by
            rcases h90 with ⟨r1, _, r2, r3, r4⟩ | ⟨_, r0, _⟩
            · exact ⟨r1, r2, r3, r4⟩
            · rw [r0] at c93; exact absurd c93 (by decide)
          have sr98 : SR D AL (jgF D LIM M V TX TY L (zqq + 1) F) 1 u90_kf u90_wf u90_cnt.toInt := by
            rw [f1, f2, f3, hcc]
            exact SR_over iSR f0 (fun x y m v q h => by rcases h with h | ⟨rfl, rfl, rfl, rfl, q0, q1, qb, qt⟩; exact hAL _ _ _ _ _ h; exact (hnew q q0 (by omega) qb qt).1) al79 bn79 nj79
          refine lv_aload_n hx hb d_Search_judge_96 rfl (lv_at hl 2 rfl) ?_
          refine lv_iconst (v := 1) hx hb d_Search_judge_97 (by decide) ?_
          refine va_put (D := (dC, dI)) (ci := 3) (v := .int 1) (ty := .boolean) (C := R_Search) (T := T_Search) (N := 14) hx hb hts i_Search t_Search t_Search_ok n_Search hown hK hP hD hS 0 rfl rfl 6 (by decide) (hts _ wd_87) (fun _ h9 => h9) rfl (by decide +kernel) rfl rfl (Nat.le_of_ble_eq_true rfl) d_Search_judge_98 (fun H98 locs hP hD hS => ?_)
          have hP : va_P (dC, dI) vwCl [(hq, .inr (3, [.ref hp, .ref hst, .int lim, .int thd, .int md, .int sz0, .int 1, .int tx, .int ty, .int sx, .int sy, .ref hqf, .ref hkn, .int stp])), (hp, .inr (0, [.int pw, .int ph, .ref hw, .ref hs, .int psr])), (hs, .inl (kS, 263169, .inl fs)), (hst, .inr (2, [.ref ak, .ref ar, .int u90_cnt])), (ak, .inl (cK, 300, .inl u90_kf)), (ar, .inl (cR, 300, .inl u90_wf)), (hqf, .inl (cQ, 4, .inl qf))] H98 := hP
          have hD : va_D A [(hq, .inr (3, [.ref hp, .ref hst, .int lim, .int thd, .int md, .int sz0, .int 1, .int tx, .int ty, .int sx, .int sy, .ref hqf, .ref hkn, .int stp])), (hp, .inr (0, [.int pw, .int ph, .ref hw, .ref hs, .int psr])), (hs, .inl (kS, 263169, .inl fs)), (hst, .inr (2, [.ref ak, .ref ar, .int u90_cnt])), (ak, .inl (cK, 300, .inl u90_kf)), (ar, .inl (cR, 300, .inl u90_wf)), (hqf, .inl (cQ, 4, .inl qf))] := hD
          obtain ⟨v101, e101⟩ : ∃ y : Int32, y = qq + 1 := ⟨_, rfl⟩
          have h101 : v101.toInt = zqq + 1 := by rw [e101]; exact ti_add hqq (ti_k (by decide)) (by omega) (by omega)
          refine lv_iinc (v := v101) (lv' := [(3, .int v101), (5, .int v68), (4, .int v42), (0, .ref hq), (1, .int a1), (2, .int v8)]) hx hb d_Search_judge_101 hl (k := 5) rfl (by rw [e101]; rfl) (by decide) rfl (fun ls hl => ?_)
          refine lv_goto (tgt := 12) hx hb d_Search_judge_104 (by decide) ?_
          exact ih12 _ (by omega) _ _ _ ⟨v101, (zqq + 1), 1, u90_cnt, (u90_cnt.toInt), u90_kf, u90_wf, ls, rfl, lv_sub hl [3, 4, 5, 0] rfl, rfl, h101, by omega, by first | exact hcc | rfl, by first | exact SR_congr iSR (fun _ _ _ _ _ => jg_no (Or.inl b22)) | exact SR_congr iSR (fun _ _ _ _ _ => jg_no (Or.inr n79)) | exact sr93 | exact sr98, hP, hD, hS⟩
