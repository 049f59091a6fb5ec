set_option maxHeartbeats 4000000 in
set_option maxRecDepth 100000 in
theorem c_countNow (l : Launch) (dC : Nat → ClassId) (dI : Nat → Nat → Nat) (hp hw hs : Nat) (kW kS : ClassId) (pw ph psr : Int32) (fw : Nat → Int64) (fs : Nat → Int32) (Wd Ht : Int) (D : Int → Int → Bool) (hpw : pw.toInt = Wd) (hph : ph.toInt = Ht) (hW1 : 1 ≤ Wd) (hW2 : Wd ≤ 512) (hH1 : 1 ≤ Ht) (hH2 : Ht ≤ 512) (hbits : bOK fw D) (hsup : ∀ x y, D x y = true → 0 ≤ x ∧ x < Wd ∧ 0 ≤ y ∧ y < Ht) (a1 a2 a3 a4 : Int32) (x y w h : Int) (g1 : a1.toInt = x) (g2 : a2.toInt = y) (g3 : a3.toInt = w) (g4 : a4.toInt = h) (w1 : 1 ≤ w) (w2 : w ≤ 64) (h1 : 1 ≤ h) (h2 : h ≤ 64) (y0 : -1000000 ≤ y) (y1 : y ≤ 1000000) : Met l y_Paper_countNow (.code y_Paper_countNow b_Paper_countNow 7 (some .int) :: allw) ({ frames := 1, cells := 0, slots := 0, locals := 27 }) (va_Pc [.ref hp, .int a1, .int a2, .int a3, .int a4] (ro_B (dC, dI) vwCl [(hp, .inr (0, [.int pw, .int ph, .ref hw, .ref hs, .int psr])), (hw, .inl (kW, 4096, .inr (.inl fw))), (hs, .inl (kS, 263169, .inl fs))] [(kW, .long), (kS, .int)])) (va_Qi (fun (r : Int32) (_ : Unit) => r.toInt = cI D x y w h) (fun _ _ => True) (fun _ => False)) 0 0 (fun _ => False) := by
  refine Met.ofW (cc := b_Paper_countNow) (maxL := 7) (ret := (some .int)) (by decide) rfl ?_
  intro p e s m args below meth c s₁ B hml hv
  obtain ⟨rfl, hP, hK⟩ := hv
  have hx := B.exec
  have hb := B.bytes
  have hr := B.returns
  have hts : ∀ w ∈ allw, w.before _ s = true := fun w h => atoms_spec (ws := .code y_Paper_countNow b_Paper_countNow 7 (some .int) :: allw) B.pre w (List.mem_cons_of_mem _ h)
  have hown : s.vm.findClass R_Paper = some m.cls := findClass_of_methodNamed B.named
  have hlocks := B.notSynchronized
  have hS : va_S (fun _ => False) s.heap s.heap [] := va_S.rf
  have hP : va_P (dC, dI) vwCl [(hp, .inr (0, [.int pw, .int ph, .ref hw, .ref hs, .int psr])), (hw, .inl (kW, 4096, .inr (.inl fw))), (hs, .inl (kS, 263169, .inl fs))] s.heap := hP
  have hl := lv_entry ([.ref hp, .int a1, .int a2, .int a3, .int a4]) (n := 7) (Nat.le_of_ble_eq_true rfl)
  rw [lg_entry_eq]
  generalize (lg_sl ([.ref hp, .int a1, .int a2, .int a3, .int a4]) ++ List.replicate (7 - (lg_sl ([.ref hp, .int a1, .int a2, .int a3, .int a4])).length) Slot.unset).toArray = ls at hl ⊢
  have hl : lv_has ls 7 [(0, .ref hp), (1, .int a1), (2, .int a2), (3, .int a3), (4, .int a4)] := hl
  refine lv_iconst (v := 0) hx hb d_Paper_countNow_0 (by decide) ?_
  refine lv_istore (lv' := [(5, .int 0), (0, .ref hp), (1, .int a1), (2, .int a2), (3, .int a3), (4, .int a4)]) hx hb d_Paper_countNow_1 hl (by decide) rfl (fun ls hl => ?_)
  refine lv_iconst (v := 0) hx hb d_Paper_countNow_3 (by decide) ?_
  refine lv_istore (lv' := [(6, .int 0), (5, .int 0), (0, .ref hp), (1, .int a1), (2, .int a2), (3, .int a3), (4, .int a4)]) hx hb d_Paper_countNow_4 hl (by decide) rfl (fun ls hl => ?_)
  refine w_loop (I := fun n H' locs' g' => ∃ (nn : Int32) (znn : Int) (rr : Int32) (zrr : Int) (ls : Array Slot), g' = F0 m 6 ls [] ∧ lv_has ls 7 [(0, .ref hp), (1, .int a1), (2, .int a2), (3, .int a3), (4, .int a4), (5, .int nn), (6, .int rr)] ∧ n = (h - zrr).toNat ∧ nn.toInt = znn ∧ rr.toInt = zrr ∧ (0 ≤ zrr ∧ zrr ≤ h) ∧ (znn = cI D x y w zrr) ∧ va_P (dC, dI) vwCl [(hp, .inr (0, [.int pw, .int ph, .ref hw, .ref hs, .int psr])), (hw, .inl (kW, 4096, .inr (.inl fw))), (hs, .inl (kS, 263169, .inl fs))] H' ∧ va_S (fun _ => False) s.heap H' locs') ?_ ⟨0, 0, 0, 0, ls, rfl, lv_sub hl [2, 3, 4, 5, 6, 1, 0] rfl, rfl, (ti_k (by decide)), (ti_k (by decide)), by omega, (cI_0h D x y w (by omega)).symm, hP, hS⟩
  intro n6 H6 locs g' hI ih6
  obtain ⟨nn, znn, rr, zrr, ls, rfl, hl, hn, hnn, hrr, i1, i2, hP, hS⟩ := hI
  have bn := cI_nn D x y w zrr
  have bm := cI_le D x y (w := w) (h := zrr) (by omega) (by omega)
  have bq := mul_b2 (a := w) (b := zrr) (p := 64) (q := 64) (by omega) (by omega) (by omega) (by omega)
  refine lv_iload hx hb d_Paper_countNow_6 (lv_at hl 6 rfl) ?_
  refine lv_iload hx hb d_Paper_countNow_8 (lv_at hl 4 rfl) ?_
  refine lv_icmp_ge (tgt := 41) hx hb d_Paper_countNow_10 (by decide) (fun c10 => ?_) (fun c10 => ?_)
  · skip
    have c10 : h ≤ zrr := (ti_le g4 hrr).mp c10
    refine lv_iload hx hb d_Paper_countNow_41 (lv_at hl 5 rfl) ?_
    have hpost : nn.toInt = cI D x y w h := by
      have e : zrr = h := by omega
      rw [hnn, i2, e]
    exact W.iret (v := nn) hx hb hr (fun t ht hW => ⟨⟨nn, (), rfl, hpost, trivial⟩, hS.F ht⟩) hS.2.2 d_Paper_countNow_43
  · skip
    have c10 : ¬ (h ≤ zrr) := fun q => c10 ((ti_le g4 hrr).mpr q)
    refine lv_iload hx hb d_Paper_countNow_13 (lv_at hl 5 rfl) ?_
    refine lv_aload_n hx hb d_Paper_countNow_15 rfl (lv_at hl 0 rfl) ?_
    refine lv_iload_n hx hb d_Paper_countNow_16 rfl (lv_at hl 1 rfl) ?_
    refine lv_iload_n hx hb d_Paper_countNow_17 rfl (lv_at hl 2 rfl) ?_
    refine lv_iload hx hb d_Paper_countNow_18 (lv_at hl 6 rfl) ?_
    refine lv_iadd hx hb d_Paper_countNow_20 ?_
    refine lv_topi (fun v20 e20 => ?_)
    have h20 : v20.toInt = y + zrr := by rw [e20]; exact ti_add g2 hrr (by omega) (by omega)
    have hPc := hP.sub (ws' := [(hp, .inr (0, [.int pw, .int ph, .ref hw, .ref hs, .int psr])), (hw, .inl (kW, 4096, .inr (.inl fw))), (hs, .inl (kS, 263169, .inl fs))]) [0, 1, 2] rfl
    have hKc := hK.sub (tys' := [(kW, .long), (kS, .int)]) [0, 1] rfl
    refine va_calll (va_runV (As := [.int a1, .int v20]) (rest := [.int nn]) ⟨hx, hb, hml, hown, hts⟩ (c_bits l dC dI hp hw hs kW kS pw ph psr fw fs Wd Ht (D) hpw hph hW1 hW2 hH1 hH2 hbits hsup a1 v20 x (y + zrr) g1 h20) (aw_V 2 hts wd_275 wd_164 wd_165 wd_3 wd_166 rfl rfl (by decide +kernel) ⟨Nat.le_of_ble_eq_true rfl, Nat.le_of_ble_eq_true rfl⟩) ⟨ro_blind, va_recv hKc hPc (ci := 0) (q0 := 0) rfl rfl, ro_pre hPc hKc⟩ rfl rfl hl.1 rfl (lv_room (Nat.le_of_ble_eq_true rfl)) d_Paper_countNow_21 ⟨Nat.le_of_ble_eq_true rfl, Nat.le_of_ble_eq_true rfl⟩) hS (fun q _ h => h.elim) (fun q h => h.elim) (fun v21 _ t9 H21 locs ht hvm h21 hB hz1 hk1 hS => ?_)
    have hP := ro_keep hP hk1
    clear hPc hKc ht hvm hB hz1 hk1
    refine lv_iload_n hx hb d_Paper_countNow_24 rfl (lv_at hl 3 rfl) ?_
    have hPc := hP.sub (ws' := []) [] rfl
    have hKc := hK.sub (tys' := []) [] rfl
    refine va_calll (va_runS (As := [.int a3]) (rest := [.long v21, .int nn]) ⟨hx, hb, hml, hown, hts⟩ (c_lowest l dC dI a3 w g3 (by omega)) (aw_S 1 hts wd_277 wd_278 wd_3 wd_279 rfl rfl (by decide +kernel) ⟨Nat.le_of_ble_eq_true rfl, Nat.le_of_ble_eq_true rfl⟩) ⟨ro_blind, ro_pre hPc hKc⟩ rfl rfl hl.1 rfl (lv_room (Nat.le_of_ble_eq_true rfl)) d_Paper_countNow_25 ⟨Nat.le_of_ble_eq_true rfl, Nat.le_of_ble_eq_true rfl⟩) hS (fun q _ h => h.elim) (fun q h => h.elim) (fun v25 _ t9 H25 locs ht hvm h25 hB hz1 hk1 hS => ?_)
    have hP := ro_keep hP hk1
    clear hPc hKc ht hvm hB hz1 hk1
    refine lv_land hx hb d_Paper_countNow_28 ?_
    refine lv_topl (fun v28 e28 => ?_)
    have hPc := hP.sub (ws' := []) [] rfl
    have hKc := hK.sub (tys' := []) [] rfl
    refine va_calli (va_runS (As := [.long v28]) (rest := [.int nn]) ⟨hx, hb, hml, hown, hts⟩ (c_bitCount l dC dI v28) (aw_S 1 hts wd_153 wd_154 wd_12 wd_155 rfl rfl (by decide +kernel) ⟨Nat.le_of_ble_eq_true rfl, Nat.le_of_ble_eq_true rfl⟩) ⟨ro_blind, ro_pre hPc hKc⟩ rfl rfl hl.1 rfl (lv_room (Nat.le_of_ble_eq_true rfl)) d_Paper_countNow_29 ⟨Nat.le_of_ble_eq_true rfl, Nat.le_of_ble_eq_true rfl⟩) hS (fun q _ h => h.elim) (fun q h => h.elim) (fun v29 _ t9 H29 locs ht hvm h29 hB hz1 hk1 hS => ?_)
    have hP := ro_keep hP hk1
    clear hPc hKc ht hvm hB hz1 hk1
    have b29 := nb_b (fun i => lb v28 i) 64
    have t29 := cn_row (D := D) (x := x) (y := y) (w := w) (z := zrr) h21 h25 (by omega) (by omega) (by omega)
    rw [← e28] at t29
    refine lv_iadd hx hb d_Paper_countNow_32 ?_
    refine lv_topi (fun v32 e32 => ?_)
    have h32 : v32.toInt = znn + (nb (fun i => lb v28 i) 64) := by rw [e32]; exact ti_add hnn h29 (by omega) (by omega)
    refine lv_istore (lv' := [(5, .int v32), (0, .ref hp), (1, .int a1), (2, .int a2), (3, .int a3), (4, .int a4), (6, .int rr)]) hx hb d_Paper_countNow_33 hl (by decide) rfl (fun ls hl => ?_)
    obtain ⟨v35, e35⟩ : ∃ y : Int32, y = rr + 1 := ⟨_, rfl⟩
    have h35 : v35.toInt = zrr + 1 := by rw [e35]; exact ti_add hrr (ti_k (by decide)) (by omega) (by omega)
    refine lv_iinc (v := v35) (lv' := [(6, .int v35), (5, .int v32), (0, .ref hp), (1, .int a1), (2, .int a2), (3, .int a3), (4, .int a4)]) hx hb d_Paper_countNow_35 hl (k := 6) rfl (by rw [e35]; rfl) (by decide) rfl (fun ls hl => ?_)
    refine lv_goto (tgt := 6) hx hb d_Paper_countNow_38 (by decide) ?_
    exact ih6 _ (by omega) _ _ _ ⟨v32, (znn + (nb (fun i => lb v28 i) 64)), v35, (zrr + 1), ls, rfl, lv_sub hl [2, 3, 4, 5, 6, 1, 0] rfl, rfl, h32, h35, by omega, by rw [← t29]; omega, hP, hS⟩
