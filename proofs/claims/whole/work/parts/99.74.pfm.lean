set_option maxHeartbeats 4000000 in
set_option maxRecDepth 100000 in
theorem c_modules (l : Launch) (dC : Nat → ClassId) (dI : Nat → Nat → Nat) (sz : Nat) (hl9 : l.stackTraces = false) (hf hq hst hld : Nat) (hp hw hs : Nat) (kW kS : ClassId) (pw ph psr : Int32) (fw : Nat → Int64) (fs : Nat → Int32) (Wd Ht : Int) (D : Int → Int → Bool) (hpw : pw.toInt = Wd) (hph : ph.toInt = Ht) (hW1 : 1 ≤ Wd) (hW2 : Wd ≤ 512) (hH1 : 1 ≤ Ht) (hH2 : Ht ≤ 512) (hbits : bOK fw D) (hsup : ∀ x y, D x y = true → 0 ≤ x ∧ x < Wd ∧ 0 ≤ y ∧ y < Ht) (bk br : Nat) (dK : ClassId) (cnt2 : Int32) (kg : Nat → Int32) (n2 : Int) (hn2 : cnt2.toInt = n2) (n20 : 0 ≤ n2) (n21 : n2 ≤ 300) (hkey : ∀ i : Nat, (i : Int) < n2 → ∃ X Y MM VV QQ, bnd5 X Y MM VV QQ ∧ (kg i).toInt = keyI X Y MM VV QQ ∧ X + MM * (17 + 4 * VV) ≤ Wd ∧ Y + MM * (17 + 4 * VV) ≤ Ht) (a1 a2 a3 : Int32) (k i j : Int) (g1 : a1.toInt = k) (g2 : a2.toInt = i) (g3 : a3.toInt = j) : vx_Met l y_PF_modules (.code y_PF_modules b_PF_modules 9 (some .long) :: allw) ({ frames := 6, cells := 1, slots := 6, locals := 100 }) (va_Pc [.ref hf, .int a1, .int a2, .int a3] (tB (dC, dI) vwCl [(hf, .inr (4, [.ref hq, .ref hp, .ref hst, .ref hld])), (hp, .inr (0, [.int pw, .int ph, .ref hw, .ref hs, .int psr])), (hw, .inl (kW, 4096, .inr (.inl fw))), (hs, .inl (kS, 263169, .inl fs)), (hld, .inr (2, [.ref bk, .ref br, .int cnt2])), (bk, .inl (dK, 300, .inl kg))] [(kW, .long), (kS, .int), (dK, .int)] sz R_IOB [(139, "there is no such place")])) (va_Ql (fun (r : Int64) (u : Unit) => (0 ≤ k ∧ k < n2) ∧ ∃ X Y MM VV QQ, bnd5 X Y MM VV QQ ∧ (kg k.toNat).toInt = keyI X Y MM VV QQ ∧ ∀ t : Nat, t < 64 → lb r t = mcF D X Y MM (17 + 4 * VV) QQ j (i + t) 0) (fun u t => rw_E (dC, dI) vwCl [(hf, .inr (4, [.ref hq, .ref hp, .ref hst, .ref hld])), (hp, .inr (0, [.int pw, .int ph, .ref hw, .ref hs, .int psr])), (hw, .inl (kW, 4096, .inr (.inl fw))), (hs, .inl (kS, 263169, .inl fs)), (hld, .inr (2, [.ref bk, .ref br, .int cnt2])), (bk, .inl (dK, 300, .inl kg))] [(kW, .long), (kS, .int), (dK, .int)] (va_A [(hf, .inr (4, [.ref hq, .ref hp, .ref hst, .ref hld])), (hp, .inr (0, [.int pw, .int ph, .ref hw, .ref hs, .int psr])), (hw, .inl (kW, 4096, .inr (.inl fw))), (hs, .inl (kS, 263169, .inl fs)), (hld, .inr (2, [.ref bk, .ref br, .int cnt2])), (bk, .inl (dK, 300, .inl kg))] sz) t) (va_A [(hf, .inr (4, [.ref hq, .ref hp, .ref hst, .ref hld])), (hp, .inr (0, [.int pw, .int ph, .ref hw, .ref hs, .int psr])), (hw, .inl (kW, 4096, .inr (.inl fw))), (hs, .inl (kS, 263169, .inl fs)), (hld, .inr (2, [.ref bk, .ref br, .int cnt2])), (bk, .inl (dK, 300, .inl kg))] sz)) (xE (dC, dI) vwCl [(hf, .inr (4, [.ref hq, .ref hp, .ref hst, .ref hld])), (hp, .inr (0, [.int pw, .int ph, .ref hw, .ref hs, .int psr])), (hw, .inl (kW, 4096, .inr (.inl fw))), (hs, .inl (kS, 263169, .inl fs)), (hld, .inr (2, [.ref bk, .ref br, .int cnt2])), (bk, .inl (dK, 300, .inl kg))] [(kW, .long), (kS, .int), (dK, .int)] (va_A [(hf, .inr (4, [.ref hq, .ref hp, .ref hst, .ref hld])), (hp, .inr (0, [.int pw, .int ph, .ref hw, .ref hs, .int psr])), (hw, .inl (kW, 4096, .inr (.inl fw))), (hs, .inl (kS, 263169, .inl fs)), (hld, .inr (2, [.ref bk, .ref br, .int cnt2])), (bk, .inl (dK, 300, .inl kg))] sz) R_IOB (¬ (0 ≤ k ∧ k < n2))) 1 6 (va_A [(hf, .inr (4, [.ref hq, .ref hp, .ref hst, .ref hld])), (hp, .inr (0, [.int pw, .int ph, .ref hw, .ref hs, .int psr])), (hw, .inl (kW, 4096, .inr (.inl fw))), (hs, .inl (kS, 263169, .inl fs)), (hld, .inr (2, [.ref bk, .ref br, .int cnt2])), (bk, .inl (dK, 300, .inl kg))] sz) := by
  refine vx_ofW (cc := b_PF_modules) (maxL := 9) (ret := (some .long)) (by decide) rfl ?_
  intro p e s m args below meth c s₁ B hml hex hv
  obtain ⟨rfl, ⟨hsz, hP, hK, hD0⟩, hTx, hTr, hTz⟩ := hv
  have hx := B.exec
  have hb := B.bytes
  have hr := B.returns
  have hts : ∀ w ∈ allw, w.before _ s = true := fun w h => atoms_spec (ws := .code y_PF_modules b_PF_modules 9 (some .long) :: allw) B.pre w (List.mem_cons_of_mem _ h)
  have hown : s.vm.findClass R_PF = some m.cls := findClass_of_methodNamed B.named
  have hlocks := B.notSynchronized
  subst hsz
  have hD := hD0.self (sz := s.heap.size)
  generalize hAe : va_A [(hf, .inr (4, [.ref hq, .ref hp, .ref hst, .ref hld])), (hp, .inr (0, [.int pw, .int ph, .ref hw, .ref hs, .int psr])), (hw, .inl (kW, 4096, .inr (.inl fw))), (hs, .inl (kS, 263169, .inl fs)), (hld, .inr (2, [.ref bk, .ref br, .int cnt2])), (bk, .inl (dK, 300, .inl kg))] s.heap.size = A at hD hTz ⊢
  have hA : ∀ q : Nat, s.heap.size ≤ q → A q := fun q h => by rw [← hAe]; exact Or.inr h
  have hS : va_S A s.heap s.heap [] := va_S.rf
  have hP : va_P (dC, dI) vwCl [(hf, .inr (4, [.ref hq, .ref hp, .ref hst, .ref hld])), (hp, .inr (0, [.int pw, .int ph, .ref hw, .ref hs, .int psr])), (hw, .inl (kW, 4096, .inr (.inl fw))), (hs, .inl (kS, 263169, .inl fs)), (hld, .inr (2, [.ref bk, .ref br, .int cnt2])), (bk, .inl (dK, 300, .inl kg))] s.heap := hP
  have hl := lv_entry ([.ref hf, .int a1, .int a2, .int a3]) (n := 9) (Nat.le_of_ble_eq_true rfl)
  rw [lg_entry_eq]
  generalize (lg_sl ([.ref hf, .int a1, .int a2, .int a3]) ++ List.replicate (9 - (lg_sl ([.ref hf, .int a1, .int a2, .int a3])).length) Slot.unset).toArray = ls at hl ⊢
  have hl : lv_has ls 9 [(0, .ref hf), (1, .int a1), (2, .int a2), (3, .int a3)] := hl
  refine lv_iload_n hx hb d_PF_modules_0 rfl (lv_at hl 1 rfl) ?_
  refine lv_iconst (v := 0) hx hb d_PF_modules_1 (by decide) ?_
  refine lv_aload_n hx hb d_PF_modules_2 rfl (lv_at hl 0 rfl) ?_
  refine va_get (D := (dC, dI)) (ci := 4) (v := .ref hld) (C := R_PF) (T := T_PF) (N := 4) hx hb hts i_PF hown hK hP 0 rfl rfl 3 (by decide) (hts _ wd_129) (fun _ h9 => h9) rfl d_PF_modules_3 ?_
  refine va_get (D := (dC, dI)) (ci := 2) (v := .int cnt2) (C := R_List) (T := T_List) (N := 3) hx hb hts i_List hown hK hP 4 rfl rfl 2 (by decide) (hts _ wd_70) (fun _ h9 => h9) rfl d_PF_modules_6 ?_
  refine lv_iconst (v := 1) hx hb d_PF_modules_9 (by decide) ?_
  refine lv_isub hx hb d_PF_modules_10 ?_
  refine lv_topi (fun v10 e10 => ?_)
  have h10 : v10.toInt = n2 - 1 := by rw [e10]; exact ti_sub hn2 (ti_k (by decide)) (by omega) (by omega)
  have hPc := hP.sub (ws' := []) [] rfl
  have hKc := hK.sub (tys' := []) [] rfl
  refine va_calli (va_runS (As := [.int a1, .int 0, .int v10]) (rest := []) ⟨hx, hb, hml, hown, hts⟩ (c_isWithin l dC dI a1 0 v10 k 0 (n2 - 1) g1 (ti_k (by decide)) h10) (aw_S 3 hts wd_179 wd_180 wd_1 wd_181 rfl rfl (by decide +kernel) ⟨Nat.le_of_ble_eq_true rfl, Nat.le_of_ble_eq_true rfl⟩) ⟨ro_blind, ro_pre hPc hKc⟩ rfl rfl hl.1 rfl (lv_room (Nat.le_of_ble_eq_true rfl)) d_PF_modules_11 ⟨Nat.le_of_ble_eq_true rfl, Nat.le_of_ble_eq_true rfl⟩) hS (fun q _ h => h.elim) (fun q h => h.elim) (fun v11 _ t9 H11 locs ht hvm h11 hB hz1 hk1 hS => ?_)
  have hP := ro_keep hP hk1
  clear hPc hKc ht hvm hB hz1 hk1
  refine lv_if_ne (tgt := 27) hx hb d_PF_modules_14 (by decide) (fun c14 => ?_) (fun c14 => ?_)
  · skip
    have c14 : (0 : Int) ≤ k ∧ k ≤ (n2 - 1) := bi_nz h11 c14
    refine va_new (ci := 1) (fs := [.int 0, .int 0, .int 0, .int 0, .int 0]) (C := R_Place) (T := T_Place) (N := 5) hx hb hts i_Place t_Place t_Place_ok hown (hts _ wd_300) (hts _ wd_301) (hts _ wd_13) hK hP hD hS hA rfl (fun j hj => by rcases (show j = 0 ∨ j = 1 ∨ j = 2 ∨ j = 3 ∨ j = 4 by omega) with rfl | rfl | rfl | rfl | rfl <;> rfl) (Nat.le_of_ble_eq_true rfl) (Nat.le_of_ble_eq_true rfl) d_PF_modules_27 (fun q27 H27 hP hD hS => ?_)
    have hP : va_P (dC, dI) vwCl [(hf, .inr (4, [.ref hq, .ref hp, .ref hst, .ref hld])), (hp, .inr (0, [.int pw, .int ph, .ref hw, .ref hs, .int psr])), (hw, .inl (kW, 4096, .inr (.inl fw))), (hs, .inl (kS, 263169, .inl fs)), (hld, .inr (2, [.ref bk, .ref br, .int cnt2])), (bk, .inl (dK, 300, .inl kg)), (q27, .inr (1, [.int 0, .int 0, .int 0, .int 0, .int 0]))] H27 := hP
    have hD : va_D A [(hf, .inr (4, [.ref hq, .ref hp, .ref hst, .ref hld])), (hp, .inr (0, [.int pw, .int ph, .ref hw, .ref hs, .int psr])), (hw, .inl (kW, 4096, .inr (.inl fw))), (hs, .inl (kS, 263169, .inl fs)), (hld, .inr (2, [.ref bk, .ref br, .int cnt2])), (bk, .inl (dK, 300, .inl kg)), (q27, .inr (1, [.int 0, .int 0, .int 0, .int 0, .int 0]))] := hD
    refine W.widen (k := 1) (n := 5) (by decide) (by decide) ?_
    refine lv_dup hx hb d_PF_modules_30 rfl ?_
    refine lv_aload_n hx hb d_PF_modules_31 rfl (lv_at hl 0 rfl) ?_
    refine va_get (D := (dC, dI)) (ci := 4) (v := .ref hld) (C := R_PF) (T := T_PF) (N := 4) hx hb hts i_PF hown hK hP 0 rfl rfl 3 (by decide) (hts _ wd_129) (fun _ h9 => h9) rfl d_PF_modules_32 ?_
    refine va_get (D := (dC, dI)) (ci := 2) (v := .ref bk) (C := R_List) (T := T_List) (N := 3) hx hb hts i_List hown hK hP 4 rfl rfl 0 (by decide) (hts _ wd_66) (fun _ h9 => h9) rfl d_PF_modules_35 ?_
    refine lv_iload_n hx hb d_PF_modules_38 rfl (lv_at hl 1 rfl) ?_
    have in39 : vp_in a1 300 := vi_in g1 (by omega) (by omega)
    refine va_iald hx hb hK hP 5 2 rfl rfl in39 d_PF_modules_39 ?_
    refine lv_topi (fun v39 e39 => ?_)
    have e39 : v39 = kg (k).toNat := by rw [e39, vi_cl g1]
    obtain ⟨X, Y, MM, VV, QQ, hb5, hke, on1, on2⟩ := hkey k.toNat (by omega)
    have hb6 := hb5
    unfold bnd5 at hb6
    have h39 : v39.toInt = keyI X Y MM VV QQ := by rw [e39]; exact hke
    obtain ⟨SS, kSS⟩ : ∃ c : Int, c = 17 + 4 * VV := ⟨_, rfl⟩
    have hPc := hP.sub (ws' := [(q27, .inr (1, [.int 0, .int 0, .int 0, .int 0, .int 0]))]) [6] rfl
    have hKc := hK.sub (tys' := []) [] rfl
    have hDc := hD.sub (ws' := [(q27, .inr (1, [.int 0, .int 0, .int 0, .int 0, .int 0]))]) [6] (by decide) rfl
    have hFc := va_free (wc := [(q27, .inr (1, [.int 0, .int 0, .int 0, .int 0, .int 0]))]) hD hS hA [6] rfl
    refine va_callv (va_runI (As := [.int v39]) (rest := [.ref q27]) ⟨hx, hb, hml, hown, hts⟩ (c_initPlace l dC dI H27.size q27 0 0 0 0 0 v39 (keyI X Y MM VV QQ) h39 (key_b hb5).1) (cwI 1 hts (aw_ws wd_307) rfl rfl rfl (hts _ wd_13) (hts _ wd_305) (hts _ wd_306) rfl (by decide +kernel) ⟨Nat.le_of_ble_eq_true rfl, Nat.le_of_ble_eq_true rfl⟩) ⟨rw_blind, rw_pre hPc hKc hDc⟩ rfl rfl hl.1 rfl (lv_room (Nat.le_of_ble_eq_true rfl)) d_PF_modules_40 ⟨Nat.le_of_ble_eq_true rfl, Nat.le_of_ble_eq_true rfl⟩) hS (fun q _ h => hFc q h) hFc (fun u t9 H40 locs ht hvm h40 hB hz1 hk1 hS => ?_)
    obtain ⟨u40_l, u40_t, u40_m, u40_s, u40_q⟩ := u
    obtain ⟨hP1, hK1, hD1⟩ := hB
    rw [ht] at hP1
    try dsimp only at h40 hP1 hD1
    obtain ⟨hP, hD⟩ := va_join (wr := [(hf, .inr (4, [.ref hq, .ref hp, .ref hst, .ref hld])), (hp, .inr (0, [.int pw, .int ph, .ref hw, .ref hs, .int psr])), (hw, .inl (kW, 4096, .inr (.inl fw))), (hs, .inl (kS, 263169, .inl fs)), (hld, .inr (2, [.ref bk, .ref br, .int cnt2])), (bk, .inl (dK, 300, .inl kg))]) (w1 := [(q27, .inr (1, [.int u40_l, .int u40_t, .int u40_m, .int u40_s, .int u40_q]))]) hP hD [6] [0, 1, 2, 3, 4, 5] rfl rfl (by decide) (by decide) hk1 hFc hP1 hD1
    have hP := hP.sub (ws' := [(hf, .inr (4, [.ref hq, .ref hp, .ref hst, .ref hld])), (hp, .inr (0, [.int pw, .int ph, .ref hw, .ref hs, .int psr])), (hw, .inl (kW, 4096, .inr (.inl fw))), (hs, .inl (kS, 263169, .inl fs)), (hld, .inr (2, [.ref bk, .ref br, .int cnt2])), (bk, .inl (dK, 300, .inl kg)), (q27, .inr (1, [.int u40_l, .int u40_t, .int u40_m, .int u40_s, .int u40_q]))]) [0, 1, 2, 3, 4, 5, 6] rfl
    have hD := hD.sub (ws' := [(hf, .inr (4, [.ref hq, .ref hp, .ref hst, .ref hld])), (hp, .inr (0, [.int pw, .int ph, .ref hw, .ref hs, .int psr])), (hw, .inl (kW, 4096, .inr (.inl fw))), (hs, .inl (kS, 263169, .inl fs)), (hld, .inr (2, [.ref bk, .ref br, .int cnt2])), (bk, .inl (dK, 300, .inl kg)), (q27, .inr (1, [.int u40_l, .int u40_t, .int u40_m, .int u40_s, .int u40_q]))]) [0, 1, 2, 3, 4, 5, 6] (by decide) rfl
    clear hPc hKc hDc hFc ht hvm hz1 hk1 hP1 hD1 hK1
    obtain ⟨y1, y2, y3, y4, y5⟩ := h40
    obtain ⟨p1, p2, p3, p4, p5⟩ := key_parts hb5 (K := keyI X Y MM VV QQ) rfl
    rw [p1] at y1
    rw [p2] at y2
    rw [p3] at y3
    rw [p4] at y4
    rw [p5] at y5
    have f1 : u40_l.toInt = X := y1
    have f2 : u40_t.toInt = Y := y2
    have f3 : u40_m.toInt = MM := y3
    have f4 : u40_s.toInt = SS := by rw [y4, kSS]
    have f5 : u40_q.toInt = QQ := y5
    clear p1 p2 p3 p4 p5 y1 y2 y3 y4 y5
    refine lv_astore (lv' := [(4, .ref q27), (0, .ref hf), (1, .int a1), (2, .int a2), (3, .int a3)]) hx hb d_PF_modules_43 hl (by decide) rfl (fun ls hl => ?_)
    refine lv_lconst (v := 0) hx hb d_PF_modules_45 (by decide) ?_
    refine lv_lstore (lv' := [(5, .long 0), (4, .ref q27), (0, .ref hf), (1, .int a1), (2, .int a2), (3, .int a3)]) hx hb d_PF_modules_46 hl (by decide) rfl (fun ls hl => ?_)
    refine lv_iconst (v := 0) hx hb d_PF_modules_48 (by decide) ?_
    refine lv_istore (lv' := [(7, .int 0), (5, .long 0), (4, .ref q27), (0, .ref hf), (1, .int a1), (2, .int a2), (3, .int a3)]) hx hb d_PF_modules_49 hl (by decide) rfl (fun ls hl => ?_)
    refine w_loop (I := fun n H' locs' g' => ∃ (bv : Int64) (bb : Int32) (zbb : Int) (ls : Array Slot), g' = F0 m 51 ls [] ∧ lv_has ls 9 [(0, .ref hf), (1, .int a1), (2, .int a2), (3, .int a3), (4, .ref q27), (5, .long bv), (7, .int bb)] ∧ n = (64 - zbb).toNat ∧ bb.toInt = zbb ∧ (0 ≤ zbb ∧ zbb ≤ 64) ∧ (∀ t : Nat, t < 64 → lb bv t = (decide ((t : Int) < zbb) && mcF D X Y MM SS QQ j (i + t) 0)) ∧ va_P (dC, dI) vwCl [(hf, .inr (4, [.ref hq, .ref hp, .ref hst, .ref hld])), (hp, .inr (0, [.int pw, .int ph, .ref hw, .ref hs, .int psr])), (hw, .inl (kW, 4096, .inr (.inl fw))), (hs, .inl (kS, 263169, .inl fs)), (hld, .inr (2, [.ref bk, .ref br, .int cnt2])), (bk, .inl (dK, 300, .inl kg)), (q27, .inr (1, [.int u40_l, .int u40_t, .int u40_m, .int u40_s, .int u40_q]))] H' ∧ va_D A [(hf, .inr (4, [.ref hq, .ref hp, .ref hst, .ref hld])), (hp, .inr (0, [.int pw, .int ph, .ref hw, .ref hs, .int psr])), (hw, .inl (kW, 4096, .inr (.inl fw))), (hs, .inl (kS, 263169, .inl fs)), (hld, .inr (2, [.ref bk, .ref br, .int cnt2])), (bk, .inl (dK, 300, .inl kg)), (q27, .inr (1, [.int u40_l, .int u40_t, .int u40_m, .int u40_s, .int u40_q]))] ∧ va_S A s.heap H' locs') ?_ ⟨0, 0, 0, ls, rfl, lv_sub hl [3, 4, 5, 6, 2, 1, 0] rfl, rfl, (ti_k (by decide)), by omega, fun t _ => by rw [lb_0, decide_eq_false (by omega), Bool.false_and], hP, hD, hS⟩
    intro n51 H51 locs g' hI ih51
    obtain ⟨bv, bb, zbb, ls, rfl, hl, hn, hbb, i1, i2, hP, hD, hS⟩ := hI
    refine lv_iload hx hb d_PF_modules_51 (lv_at hl 6 rfl) ?_
    refine lv_bipush (v := 64) hx hb d_PF_modules_53 (by decide) ?_
    refine lv_icmp_ge (tgt := 102) hx hb d_PF_modules_55 (by decide) (fun c55 => ?_) (fun c55 => ?_)
    · skip
      have c55 : (64 : Int) ≤ zbb := (ti_le (ti_k (by decide)) hbb).mp c55
      refine lv_lload hx hb d_PF_modules_102 (lv_at hl 5 rfl) ?_
      have hpost : (0 ≤ k ∧ k < n2) ∧ ∃ X Y MM VV QQ, bnd5 X Y MM VV QQ ∧ (kg k.toNat).toInt = keyI X Y MM VV QQ ∧ ∀ t : Nat, t < 64 → lb bv t = mcF D X Y MM (17 + 4 * VV) QQ j (i + t) 0 := by
        refine ⟨by omega, X, Y, MM, VV, QQ, hb5, hke, fun t ht => ?_⟩
        rw [i2 t ht, decide_eq_true (by omega), Bool.true_and, kSS]
      have hP9 := hP.sub (ws' := [(hf, .inr (4, [.ref hq, .ref hp, .ref hst, .ref hld])), (hp, .inr (0, [.int pw, .int ph, .ref hw, .ref hs, .int psr])), (hw, .inl (kW, 4096, .inr (.inl fw))), (hs, .inl (kS, 263169, .inl fs)), (hld, .inr (2, [.ref bk, .ref br, .int cnt2])), (bk, .inl (dK, 300, .inl kg))]) [0, 1, 2, 3, 4, 5] rfl
      have hD9 := hD.sub (ws' := [(hf, .inr (4, [.ref hq, .ref hp, .ref hst, .ref hld])), (hp, .inr (0, [.int pw, .int ph, .ref hw, .ref hs, .int psr])), (hw, .inl (kW, 4096, .inr (.inl fw))), (hs, .inl (kS, 263169, .inl fs)), (hld, .inr (2, [.ref bk, .ref br, .int cnt2])), (bk, .inl (dK, 300, .inl kg))]) [0, 1, 2, 3, 4, 5] (by decide) rfl
      have hK9 := hK.sub (tys' := [(kW, .long), (kS, .int), (dK, .int)]) [0, 1, 2] rfl
      refine W.widen (k := 1) (n := 6) (by decide) (by decide) ?_
      refine vx_ret ?_
      exact W.lret (v := bv) hx hb hr (fun t ht hW => ⟨⟨bv, (), rfl, hpost, by rw [ht]; exact hP9, va_K.moved hW.alike hK9, hD9⟩, hS.F ht⟩) hS.2.2 d_PF_modules_104
    · skip
      have c55 : ¬ ((64 : Int) ≤ zbb) := fun q => c55 ((ti_le (ti_k (by decide)) hbb).mpr q)
      refine lv_iload_n hx hb d_PF_modules_58 rfl (lv_at hl 2 rfl) ?_
      refine lv_iload hx hb d_PF_modules_59 (lv_at hl 6 rfl) ?_
      refine lv_iadd hx hb d_PF_modules_61 ?_
      refine lv_topi (fun v61 e61 => ?_)
      obtain ⟨CO, h61⟩ : ∃ c : Int, v61.toInt = c := ⟨_, rfl⟩
      have w61 := ti_addw g2 hbb (by omega)
      rw [← e61, h61] at w61
      have q2 := ti_rng a2
      rw [g2] at q2
      refine lv_istore (lv' := [(8, .int v61), (0, .ref hf), (1, .int a1), (2, .int a2), (3, .int a3), (4, .ref q27), (5, .long bv), (7, .int bb)]) hx hb d_PF_modules_62 hl (by decide) rfl (fun ls hl => ?_)
      refine lv_aload hx hb d_PF_modules_64 (lv_at hl 5 rfl) ?_
      refine lv_iload hx hb d_PF_modules_66 (lv_at hl 0 rfl) ?_
      refine lv_iload_n hx hb d_PF_modules_68 rfl (lv_at hl 4 rfl) ?_
      have hPc := hP.sub (ws' := [(q27, .inr (1, [.int u40_l, .int u40_t, .int u40_m, .int u40_s, .int u40_q]))]) [6] rfl
      have hKc := hK.sub (tys' := []) [] rfl
      refine va_calli (va_runV (As := [.int v61, .int a3]) (rest := []) ⟨hx, hb, hml, hown, hts⟩ (c_hasModule l dC dI q27 u40_l u40_t u40_m u40_s u40_q X Y MM SS QQ f1 f2 f3 f4 f5 v61 a3 CO j h61 g3) (aw_V 2 hts wd_347 wd_348 wd_349 wd_13 wd_350 rfl rfl (by decide +kernel) ⟨Nat.le_of_ble_eq_true rfl, Nat.le_of_ble_eq_true rfl⟩) ⟨ro_blind, va_recv hKc hPc (ci := 1) (q0 := 0) rfl rfl, ro_pre hPc hKc⟩ rfl rfl hl.1 rfl (lv_room (Nat.le_of_ble_eq_true rfl)) d_PF_modules_69 ⟨Nat.le_of_ble_eq_true rfl, Nat.le_of_ble_eq_true rfl⟩) hS (fun q _ h => h.elim) (fun q h => h.elim) (fun v69 _ t9 H69 locs ht hvm h69 hB hz1 hk1 hS => ?_)
      have hP := ro_keep hP hk1
      clear hPc hKc ht hvm hB hz1 hk1
      refine lv_if_eq (tgt := 96) hx hb d_PF_modules_72 (by decide) (fun c72 => ?_) (fun c72 => ?_)
      · skip
        have c72 : ¬ (0 ≤ CO ∧ CO < SS ∧ 0 ≤ j ∧ j < SS) := bi_z h69 c72
        have n72 : mcF D X Y MM SS QQ j (i + zbb) 0 = false := mc_out (by omega)
        obtain ⟨v96, e96⟩ : ∃ y : Int32, y = bb + 1 := ⟨_, rfl⟩
        have h96 : v96.toInt = zbb + 1 := by rw [e96]; exact ti_add hbb (ti_k (by decide)) (by omega) (by omega)
        refine lv_iinc (v := v96) (lv' := [(7, .int v96), (8, .int v61), (0, .ref hf), (1, .int a1), (2, .int a2), (3, .int a3), (4, .ref q27), (5, .long bv)]) hx hb d_PF_modules_96 hl (k := 7) rfl (by rw [e96]; rfl) (by decide) rfl (fun ls hl => ?_)
        refine lv_goto (tgt := 51) hx hb d_PF_modules_99 (by decide) ?_
        exact ih51 _ (by omega) _ _ _ ⟨bv, v96, (zbb + 1), ls, rfl, lv_sub hl [2, 3, 4, 5, 6, 7, 0] rfl, rfl, h96, by omega, by first | exact dot_more i2 t84 (fun t ht => by rw [e93, lb_or, e92, lb_one hbb (by omega) (by omega) ht]) | exact dot_same i2 n84 | exact dot_same i2 n72, hP, hD, hS⟩
      · skip
        have c72 : 0 ≤ CO ∧ CO < SS ∧ 0 ≤ j ∧ j < SS := bi_nz h69 c72
        have ec : CO = i + zbb := by omega
        refine lv_aload_n hx hb d_PF_modules_75 rfl (lv_at hl 1 rfl) ?_
        refine lv_aload hx hb d_PF_modules_76 (lv_at hl 5 rfl) ?_
        refine lv_iload hx hb d_PF_modules_78 (lv_at hl 0 rfl) ?_
        refine lv_iload_n hx hb d_PF_modules_80 rfl (lv_at hl 4 rfl) ?_
        have hPc := hP.sub (ws' := [(hf, .inr (4, [.ref hq, .ref hp, .ref hst, .ref hld])), (q27, .inr (1, [.int u40_l, .int u40_t, .int u40_m, .int u40_s, .int u40_q])), (hp, .inr (0, [.int pw, .int ph, .ref hw, .ref hs, .int psr])), (hw, .inl (kW, 4096, .inr (.inl fw))), (hs, .inl (kS, 263169, .inl fs))]) [0, 6, 1, 2, 3] rfl
        have hKc := hK.sub (tys' := [(kW, .long), (kS, .int)]) [0, 1] rfl
        refine va_calli (va_runV (As := [.ref q27, .int v61, .int a3]) (rest := []) ⟨hx, hb, hml, hown, hts⟩ (c_isMostlyDark l dC dI hf hq hst hld q27 u40_l u40_t u40_m u40_s u40_q X Y MM SS QQ f1 f2 f3 f4 f5 (by omega) (by omega) (by omega) (by omega) (by omega) (by omega) (by omega) (by omega) hp hw hs kW kS pw ph psr fw fs Wd Ht D hpw hph hW1 hW2 hH1 hH2 hbits hsup (by rw [kSS]; exact on1) (by rw [kSS]; exact on2) v61 a3 CO j h61 g3 (by omega) (by omega) (by omega) (by omega)) (aw_V 3 hts wd_549 wd_551 ws_28 wd_1 wd_552 rfl rfl (by decide +kernel) ⟨Nat.le_of_ble_eq_true rfl, Nat.le_of_ble_eq_true rfl⟩) ⟨ro_blind, va_recv hKc hPc (ci := 4) (q0 := 0) rfl rfl, ro_pre hPc hKc⟩ rfl rfl hl.1 rfl (lv_room (Nat.le_of_ble_eq_true rfl)) d_PF_modules_81 ⟨Nat.le_of_ble_eq_true rfl, Nat.le_of_ble_eq_true rfl⟩) hS (fun q _ h => h.elim) (fun q h => h.elim) (fun v81 _ t9 H81 locs ht hvm h81 hB hz1 hk1 hS => ?_)
        have hP := ro_keep hP hk1
        clear hPc hKc ht hvm hB hz1 hk1
        refine lv_if_eq (tgt := 96) hx hb d_PF_modules_84 (by decide) (fun c84 => ?_) (fun c84 => ?_)
        · skip
          have c84 : ¬ (MM * MM < 2 * cI D (X + MM * bA SS QQ CO j) (Y + MM * bB SS QQ CO j) MM MM) := bi_z h81 c84
          have n84 : mcF D X Y MM SS QQ j (i + zbb) 0 = false := by rw [mc_in (by omega), ← ec]; exact decide_eq_false c84
          obtain ⟨v96, e96⟩ : ∃ y : Int32, y = bb + 1 := ⟨_, rfl⟩
          have h96 : v96.toInt = zbb + 1 := by rw [e96]; exact ti_add hbb (ti_k (by decide)) (by omega) (by omega)
          refine lv_iinc (v := v96) (lv' := [(7, .int v96), (8, .int v61), (0, .ref hf), (1, .int a1), (2, .int a2), (3, .int a3), (4, .ref q27), (5, .long bv)]) hx hb d_PF_modules_96 hl (k := 7) rfl (by rw [e96]; rfl) (by decide) rfl (fun ls hl => ?_)
          refine lv_goto (tgt := 51) hx hb d_PF_modules_99 (by decide) ?_
          exact ih51 _ (by omega) _ _ _ ⟨bv, v96, (zbb + 1), ls, rfl, lv_sub hl [2, 3, 4, 5, 6, 7, 0] rfl, rfl, h96, by omega, by first | exact dot_more i2 t84 (fun t ht => by rw [e93, lb_or, e92, lb_one hbb (by omega) (by omega) ht]) | exact dot_same i2 n84 | exact dot_same i2 n72, hP, hD, hS⟩
        · skip
          have c84 : MM * MM < 2 * cI D (X + MM * bA SS QQ CO j) (Y + MM * bB SS QQ CO j) MM MM := bi_nz h81 c84
          have t84 : mcF D X Y MM SS QQ j (i + zbb) 0 = true := by rw [mc_in (by omega), ← ec]; exact decide_eq_true c84
          refine lv_lload hx hb d_PF_modules_87 (lv_at hl 6 rfl) ?_
          refine lv_lconst (v := 1) hx hb d_PF_modules_89 (by decide) ?_
          refine lv_iload hx hb d_PF_modules_90 (lv_at hl 7 rfl) ?_
          refine lv_lshl hx hb d_PF_modules_92 rfl ?_
          refine lv_topl (fun v92 e92 => ?_)
          refine lv_lor hx hb d_PF_modules_93 ?_
          refine lv_topl (fun v93 e93 => ?_)
          refine lv_lstore (lv' := [(5, .long v93), (8, .int v61), (0, .ref hf), (1, .int a1), (2, .int a2), (3, .int a3), (4, .ref q27), (7, .int bb)]) hx hb d_PF_modules_94 hl (by decide) rfl (fun ls hl => ?_)
          obtain ⟨v96, e96⟩ : ∃ y : Int32, y = bb + 1 := ⟨_, rfl⟩
          have h96 : v96.toInt = zbb + 1 := by rw [e96]; exact ti_add hbb (ti_k (by decide)) (by omega) (by omega)
          refine lv_iinc (v := v96) (lv' := [(7, .int v96), (5, .long v93), (8, .int v61), (0, .ref hf), (1, .int a1), (2, .int a2), (3, .int a3), (4, .ref q27)]) hx hb d_PF_modules_96 hl (k := 7) rfl (by rw [e96]; rfl) (by decide) rfl (fun ls hl => ?_)
          refine lv_goto (tgt := 51) hx hb d_PF_modules_99 (by decide) ?_
          exact ih51 _ (by omega) _ _ _ ⟨v93, v96, (zbb + 1), ls, rfl, lv_sub hl [3, 4, 5, 6, 7, 1, 0] rfl, rfl, h96, by omega, by first | exact dot_more i2 t84 (fun t ht => by rw [e93, lb_or, e92, lb_one hbb (by omega) (by omega) ht]) | exact dot_same i2 n84 | exact dot_same i2 n72, hP, hD, hS⟩
  · skip
    have c14 : ¬ ((0 : Int) ≤ k ∧ k ≤ (n2 - 1)) := bi_z h11 c14
    have hpx : ¬ (0 ≤ k ∧ k < n2) := by omega
    obtain ⟨sa, hstr⟩ := hTr (139, "there is no such place") (List.mem_of_getElem? (i := 0) rfl)
    exact vx_throwS (own := R_PF) (cls := R_IOB) (names := supsX) (A := A) hx hb hl9 hown (by decide) (by decide) (hts _ wd_533) (hts _ wd_15) hstr (hat_iob hts hTx) hg_iob hTz.1 hTz.2 hS (by rw [hml]; exact hl.1) d_PF_modules_17 d_PF_modules_20 d_PF_modules_21 d_PF_modules_23 d_PF_modules_26 (fun x hx9 => (hex x hx9).elim) (Nat.le_of_ble_eq_true rfl) (Nat.le_of_ble_eq_true rfl) (Nat.le_of_ble_eq_true rfl) (Nat.le_of_ble_eq_true rfl) hlocks (xE_of hP hK hD hS hpx) hS.2.2 (Nat.le_of_ble_eq_true rfl) (Nat.le_of_ble_eq_true rfl)
