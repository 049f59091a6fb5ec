set_option maxHeartbeats 4000000 in
set_option maxRecDepth 100000 in
theorem c_drawModule (l : Launch) (dC : Nat → ClassId) (dI : Nat → Nat → Nat) (sz : Nat) (hf hq hst hld : Nat) (ho : Nat) (ol ot om os oq : Int32) (L T M S Q : Int) (hol : ol.toInt = L) (hot : ot.toInt = T) (hom : om.toInt = M) (hos : os.toInt = S) (hoq : oq.toInt = Q) (hS0 : 21 ≤ S) (hS7 : S ≤ 177) (hM0 : 1 ≤ M) (hM1 : M ≤ 16) (hL0 : 0 ≤ L) (hT0 : 0 ≤ T) (hQ0 : 0 ≤ Q) (hQ3 : Q ≤ 3) (hp hw hs : Nat) (kW kS : ClassId) (pw ph psr : Int32) (fw : Nat → Int64) (fs : Nat → Int32) (Wd Ht : Int) (D : Int → Int → Bool) (hpw : pw.toInt = Wd) (hph : ph.toInt = Ht) (hW1 : 1 ≤ Wd) (hW2 : Wd ≤ 512) (hH1 : 1 ≤ Ht) (hH2 : Ht ≤ 512) (hbits : bOK fw D) (hsup : ∀ x y, D x y = true → 0 ≤ x ∧ x < Wd ∧ 0 ≤ y ∧ y < Ht) (SR : Int) (hsr : psr.toInt = SR) (hsr0 : 0 ≤ SR) (hsr1 : SR ≤ Ht) (hsk : sK fs D Wd SR) (on1 : L + M * S ≤ Wd) (on2 : T + M * S ≤ Ht) (a2 a3 a4 : Int32) (i j : Int) (ib : Bool) (g2 : a2.toInt = i) (g3 : a3.toInt = j) (g4 : a4 = zb ib) (i0 : 0 ≤ i) (i1 : i < S) (j0 : 0 ≤ j) (j1 : j < S) : Met l y_PF_drawModule (.code y_PF_drawModule b_PF_drawModule 6 (some .int) :: allw) ({ frames := 3, cells := 0, slots := 0, locals := 84 }) (va_Pc [.ref hf, .ref ho, .int a2, .int a3, .int a4] (rw_B (dC, dI) vwCl [(hf, .inr (4, [.ref hq, .ref hp, .ref hst, .ref hld])), (ho, .inr (1, [.int ol, .int ot, .int om, .int os, .int oq])), (hp, .inr (0, [.int pw, .int ph, .ref hw, .ref hs, .int psr])), (hw, .inl (kW, 4096, .inr (.inl fw))), (hs, .inl (kS, 263169, .inl fs))] [(kW, .long), (kS, .int)] sz)) (va_Qi (fun (r : Int32) (u : (Nat → Int64) × Int32) => r.toInt = cI (neB D ib) (L + M * bA S Q i j) (T + M * bB S Q i j) M M ∧ bOK u.1 (pF D (fiE D (L + M * bA S Q i j) (T + M * bB S Q i j) M M ib) 0 0 Wd Ht 0) ∧ 0 ≤ (u.2 : Int32).toInt ∧ (u.2 : Int32).toInt ≤ SR ∧ sK fs (pF D (fiE D (L + M * bA S Q i j) (T + M * bB S Q i j) M M ib) 0 0 Wd Ht 0) Wd (u.2 : Int32).toInt) (fun u t => rw_E (dC, dI) vwCl [(hf, .inr (4, [.ref hq, .ref hp, .ref hst, .ref hld])), (ho, .inr (1, [.int ol, .int ot, .int om, .int os, .int oq])), (hp, .inr (0, [.int pw, .int ph, .ref hw, .ref hs, .int u.2])), (hw, .inl (kW, 4096, .inr (.inl u.1))), (hs, .inl (kS, 263169, .inl fs))] [(kW, .long), (kS, .int)] (va_A [(hf, .inr (4, [.ref hq, .ref hp, .ref hst, .ref hld])), (ho, .inr (1, [.int ol, .int ot, .int om, .int os, .int oq])), (hp, .inr (0, [.int pw, .int ph, .ref hw, .ref hs, .int psr])), (hw, .inl (kW, 4096, .inr (.inl fw))), (hs, .inl (kS, 263169, .inl fs))] sz) t) (va_A [(hf, .inr (4, [.ref hq, .ref hp, .ref hst, .ref hld])), (ho, .inr (1, [.int ol, .int ot, .int om, .int os, .int oq])), (hp, .inr (0, [.int pw, .int ph, .ref hw, .ref hs, .int psr])), (hw, .inl (kW, 4096, .inr (.inl fw))), (hs, .inl (kS, 263169, .inl fs))] sz)) 0 0 (va_A [(hf, .inr (4, [.ref hq, .ref hp, .ref hst, .ref hld])), (ho, .inr (1, [.int ol, .int ot, .int om, .int os, .int oq])), (hp, .inr (0, [.int pw, .int ph, .ref hw, .ref hs, .int psr])), (hw, .inl (kW, 4096, .inr (.inl fw))), (hs, .inl (kS, 263169, .inl fs))] sz) := by
  refine Met.ofW (cc := b_PF_drawModule) (maxL := 6) (ret := (some .int)) (by decide) rfl ?_
  intro p e s m args below meth c s₁ B hml hv
  obtain ⟨rfl, hsz, hP, hK, hD0⟩ := hv
  have hx := B.exec
  have hb := B.bytes
  have hr := B.returns
  have hts : ∀ w ∈ allw, w.before _ s = true := fun w h => atoms_spec (ws := .code y_PF_drawModule b_PF_drawModule 6 (some .int) :: allw) B.pre w (List.mem_cons_of_mem _ h)
  have hown : s.vm.findClass R_PF = some m.cls := findClass_of_methodNamed B.named
  have hlocks := B.notSynchronized
  subst hsz
  have hD := hD0.self (sz := s.heap.size)
  generalize hAe : va_A [(hf, .inr (4, [.ref hq, .ref hp, .ref hst, .ref hld])), (ho, .inr (1, [.int ol, .int ot, .int om, .int os, .int oq])), (hp, .inr (0, [.int pw, .int ph, .ref hw, .ref hs, .int psr])), (hw, .inl (kW, 4096, .inr (.inl fw))), (hs, .inl (kS, 263169, .inl fs))] s.heap.size = A at hD ⊢
  have hA : ∀ q : Nat, s.heap.size ≤ q → A q := fun q h => by rw [← hAe]; exact Or.inr h
  have hS : va_S A s.heap s.heap [] := va_S.rf
  have hP : va_P (dC, dI) vwCl [(hf, .inr (4, [.ref hq, .ref hp, .ref hst, .ref hld])), (ho, .inr (1, [.int ol, .int ot, .int om, .int os, .int oq])), (hp, .inr (0, [.int pw, .int ph, .ref hw, .ref hs, .int psr])), (hw, .inl (kW, 4096, .inr (.inl fw))), (hs, .inl (kS, 263169, .inl fs))] s.heap := hP
  have hl := lv_entry ([.ref hf, .ref ho, .int a2, .int a3, .int a4]) (n := 6) (Nat.le_of_ble_eq_true rfl)
  rw [lg_entry_eq]
  generalize (lg_sl ([.ref hf, .ref ho, .int a2, .int a3, .int a4]) ++ List.replicate (6 - (lg_sl ([.ref hf, .ref ho, .int a2, .int a3, .int a4])).length) Slot.unset).toArray = ls at hl ⊢
  have hl : lv_has ls 6 [(0, .ref hf), (1, .ref ho), (2, .int a2), (3, .int a3), (4, .int a4)] := hl
  have pa := bA_b (S := S) (Q := Q) (i := i) (j := j) (by omega) (by omega) (by omega) (by omega)
  have pb := bB_b (S := S) (Q := Q) (i := i) (j := j) (by omega) (by omega) (by omega) (by omega)
  have pA := blk_b (m := M) (S := S) (by omega) pa.1 pa.2
  have pB := blk_b (m := M) (S := S) (by omega) pb.1 pb.2
  refine lv_aload_n hx hb d_PF_drawModule_0 rfl (lv_at hl 1 rfl) ?_
  refine va_get (D := (dC, dI)) (ci := 1) (v := .int om) (C := R_Place) (T := T_Place) (N := 5) hx hb hts i_Place hown hK hP 1 rfl rfl 2 (by decide) (hts _ wd_324) (fun _ h9 => h9) rfl d_PF_drawModule_1 ?_
  refine lv_istore (lv' := [(5, .int om), (0, .ref hf), (1, .ref ho), (2, .int a2), (3, .int a3), (4, .int a4)]) hx hb d_PF_drawModule_4 hl (by decide) rfl (fun ls hl => ?_)
  refine lv_aload_n hx hb d_PF_drawModule_6 rfl (lv_at hl 1 rfl) ?_
  refine va_get (D := (dC, dI)) (ci := 4) (v := .ref hp) (C := R_PF) (T := T_PF) (N := 4) hx hb hts i_PF hown hK hP 0 rfl rfl 1 (by decide) (hts _ wd_127) (fun _ h9 => h9) rfl d_PF_drawModule_7 ?_
  refine lv_aload_n hx hb d_PF_drawModule_10 rfl (lv_at hl 2 rfl) ?_
  refine lv_iload_n hx hb d_PF_drawModule_11 rfl (lv_at hl 3 rfl) ?_
  refine lv_iload_n hx hb d_PF_drawModule_12 rfl (lv_at hl 4 rfl) ?_
  have hPc := hP.sub (ws' := [(ho, .inr (1, [.int ol, .int ot, .int om, .int os, .int oq]))]) [1] rfl
  have hKc := hK.sub (tys' := []) [] rfl
  refine va_calli (va_runV (As := [.int a2, .int a3]) (rest := [.ref hp]) ⟨hx, hb, hml, hown, hts⟩ (c_blockLeft l dC dI ho ol ot om os oq L T M S Q hol hot hom hos hoq a2 a3 i j g2 g3 (by omega) (by omega) (by omega) (by omega) (by omega) (by omega) (by omega) (by omega) (by omega) (by omega) (by omega)) (aw_V 2 hts wd_359 wd_360 wd_361 wd_13 wd_362 rfl rfl (by decide +kernel) ⟨Nat.le_of_ble_eq_true rfl, Nat.le_of_ble_eq_true rfl⟩) ⟨ro_blind, va_recv hKc hPc (ci := 1) (q0 := 0) rfl rfl, ro_pre hPc hKc⟩ rfl rfl hl.1 rfl (lv_room (Nat.le_of_ble_eq_true rfl)) d_PF_drawModule_13 ⟨Nat.le_of_ble_eq_true rfl, Nat.le_of_ble_eq_true rfl⟩) hS (fun q _ h => h.elim) (fun q h => h.elim) (fun v13 _ t9 H13 locs ht hvm h13 hB hz1 hk1 hS => ?_)
  have hP := ro_keep hP hk1
  clear hPc hKc ht hvm hB hz1 hk1
  refine lv_aload_n hx hb d_PF_drawModule_16 rfl (lv_at hl 2 rfl) ?_
  refine lv_iload_n hx hb d_PF_drawModule_17 rfl (lv_at hl 3 rfl) ?_
  refine lv_iload_n hx hb d_PF_drawModule_18 rfl (lv_at hl 4 rfl) ?_
  have hPc := hP.sub (ws' := [(ho, .inr (1, [.int ol, .int ot, .int om, .int os, .int oq]))]) [1] rfl
  have hKc := hK.sub (tys' := []) [] rfl
  refine va_calli (va_runV (As := [.int a2, .int a3]) (rest := [.int v13, .ref hp]) ⟨hx, hb, hml, hown, hts⟩ (c_blockTop l dC dI ho ol ot om os oq L T M S Q hol hot hom hos hoq a2 a3 i j g2 g3 (by omega) (by omega) (by omega) (by omega) (by omega) (by omega) (by omega) (by omega) (by omega) (by omega) (by omega)) (aw_V 2 hts wd_363 wd_364 wd_365 wd_13 wd_366 rfl rfl (by decide +kernel) ⟨Nat.le_of_ble_eq_true rfl, Nat.le_of_ble_eq_true rfl⟩) ⟨ro_blind, va_recv hKc hPc (ci := 1) (q0 := 0) rfl rfl, ro_pre hPc hKc⟩ rfl rfl hl.1 rfl (lv_room (Nat.le_of_ble_eq_true rfl)) d_PF_drawModule_19 ⟨Nat.le_of_ble_eq_true rfl, Nat.le_of_ble_eq_true rfl⟩) hS (fun q _ h => h.elim) (fun q h => h.elim) (fun v19 _ t9 H19 locs ht hvm h19 hB hz1 hk1 hS => ?_)
  have hP := ro_keep hP hk1
  clear hPc hKc ht hvm hB hz1 hk1
  refine lv_iload hx hb d_PF_drawModule_22 (lv_at hl 0 rfl) ?_
  refine lv_iload hx hb d_PF_drawModule_24 (lv_at hl 0 rfl) ?_
  refine lv_iload hx hb d_PF_drawModule_26 (lv_at hl 5 rfl) ?_
  have hPc := hP.sub (ws' := [(hp, .inr (0, [.int pw, .int ph, .ref hw, .ref hs, .int psr])), (hw, .inl (kW, 4096, .inr (.inl fw))), (hs, .inl (kS, 263169, .inl fs))]) [2, 3, 4] rfl
  have hKc := hK.sub (tys' := [(kW, .long), (kS, .int)]) [0, 1] rfl
  have hDc := hD.sub (ws' := [(hp, .inr (0, [.int pw, .int ph, .ref hw, .ref hs, .int psr])), (hw, .inl (kW, 4096, .inr (.inl fw))), (hs, .inl (kS, 263169, .inl fs))]) [2, 3, 4] (by decide) rfl
  have hFc := va_free (wc := [(hp, .inr (0, [.int pw, .int ph, .ref hw, .ref hs, .int psr])), (hw, .inl (kW, 4096, .inr (.inl fw))), (hs, .inl (kS, 263169, .inl fs))]) hD hS hA [2, 3, 4] rfl
  refine va_calli (va_runV (As := [.int v13, .int v19, .int om, .int om, .int a4]) (rest := []) ⟨hx, hb, hml, hown, hts⟩ (c_paint l dC dI H19.size hp hw hs kW kS pw ph psr fw fs Wd Ht D hpw hph hW1 hW2 hH1 hH2 hbits hsup SR hsr hsr0 hsr1 hsk v13 v19 om om a4 (L + M * bA S Q i j) (T + M * bB S Q i j) M M ib h13 h19 hom hom g4 (by omega) (by omega) (by omega) (by omega)) (aw_V 5 hts wd_268 wd_269 wd_270 wd_3 wd_271 rfl rfl (by decide +kernel) ⟨Nat.le_of_ble_eq_true rfl, Nat.le_of_ble_eq_true rfl⟩) ⟨rw_blind, va_recv hKc hPc (ci := 0) (q0 := 0) rfl rfl, rw_pre hPc hKc hDc⟩ rfl rfl hl.1 rfl (lv_room (Nat.le_of_ble_eq_true rfl)) d_PF_drawModule_28 ⟨Nat.le_of_ble_eq_true rfl, Nat.le_of_ble_eq_true rfl⟩) hS (fun q _ h => hFc q h) hFc (fun v28 u t9 H28 locs ht hvm h28 hB hz1 hk1 hS => ?_)
  obtain ⟨u28_fw, u28_sr⟩ := u
  obtain ⟨hP1, _, hD1⟩ := hB
  rw [ht] at hP1
  try dsimp only at h28 hP1 hD1
  obtain ⟨hP, hD⟩ := va_join (wr := [(hf, .inr (4, [.ref hq, .ref hp, .ref hst, .ref hld])), (ho, .inr (1, [.int ol, .int ot, .int om, .int os, .int oq]))]) (w1 := [(hp, .inr (0, [.int pw, .int ph, .ref hw, .ref hs, .int u28_sr])), (hw, .inl (kW, 4096, .inr (.inl u28_fw))), (hs, .inl (kS, 263169, .inl fs))]) hP hD [2, 3, 4] [0, 1] rfl rfl (by decide) (by decide) hk1 hFc hP1 hD1
  have hP := hP.sub (ws' := [(hf, .inr (4, [.ref hq, .ref hp, .ref hst, .ref hld])), (ho, .inr (1, [.int ol, .int ot, .int om, .int os, .int oq])), (hp, .inr (0, [.int pw, .int ph, .ref hw, .ref hs, .int u28_sr])), (hw, .inl (kW, 4096, .inr (.inl u28_fw))), (hs, .inl (kS, 263169, .inl fs))]) [0, 1, 2, 3, 4] rfl
  have hD := hD.sub (ws' := [(hf, .inr (4, [.ref hq, .ref hp, .ref hst, .ref hld])), (ho, .inr (1, [.int ol, .int ot, .int om, .int os, .int oq])), (hp, .inr (0, [.int pw, .int ph, .ref hw, .ref hs, .int u28_sr])), (hw, .inl (kW, 4096, .inr (.inl u28_fw))), (hs, .inl (kS, 263169, .inl fs))]) [0, 1, 2, 3, 4] (by decide) rfl
  clear hPc hKc hDc hFc ht hvm hz1 hk1 hP1 hD1
  have hpost : (v28 : Int32).toInt = cI (neB D ib) (L + M * bA S Q i j) (T + M * bB S Q i j) M M ∧ bOK u28_fw (pF D (fiE D (L + M * bA S Q i j) (T + M * bB S Q i j) M M ib) 0 0 Wd Ht 0) ∧ 0 ≤ (u28_sr : Int32).toInt ∧ (u28_sr : Int32).toInt ≤ SR ∧ sK fs (pF D (fiE D (L + M * bA S Q i j) (T + M * bB S Q i j) M M ib) 0 0 Wd Ht 0) Wd (u28_sr : Int32).toInt := by
    have f := fi_on (D := D) (W := Wd) (H := Ht) (x := (L + M * bA S Q i j)) (y := (T + M * bB S Q i j)) (w := M) (h := M) (v := ib) (by omega) (by omega) (by omega) (by omega) (by omega) (by omega)
    rw [f.2] at h28
    exact h28
  have hP9 := hP.sub (ws' := [(hf, .inr (4, [.ref hq, .ref hp, .ref hst, .ref hld])), (ho, .inr (1, [.int ol, .int ot, .int om, .int os, .int oq])), (hp, .inr (0, [.int pw, .int ph, .ref hw, .ref hs, .int u28_sr])), (hw, .inl (kW, 4096, .inr (.inl u28_fw))), (hs, .inl (kS, 263169, .inl fs))]) [0, 1, 2, 3, 4] rfl
  have hD9 := hD.sub (ws' := [(hf, .inr (4, [.ref hq, .ref hp, .ref hst, .ref hld])), (ho, .inr (1, [.int ol, .int ot, .int om, .int os, .int oq])), (hp, .inr (0, [.int pw, .int ph, .ref hw, .ref hs, .int u28_sr])), (hw, .inl (kW, 4096, .inr (.inl u28_fw))), (hs, .inl (kS, 263169, .inl fs))]) [0, 1, 2, 3, 4] (by decide) rfl
  have hK9 := hK.sub (tys' := [(kW, .long), (kS, .int)]) [0, 1] rfl
  exact W.iret (v := v28) hx hb hr (fun t ht hW => ⟨⟨v28, (u28_fw, u28_sr), rfl, hpost, by rw [ht]; exact hP9, va_K.moved hW.alike hK9, hD9⟩, hS.F ht⟩) hS.2.2 d_PF_drawModule_31
