set_option maxHeartbeats 4000000 in
set_option maxRecDepth 100000 in
theorem c_drawFixed (l : Launch) (dC : Nat → ClassId) (dI : Nat → Nat → Nat) (sz : Nat) (hf hq hst hld : Nat) (ho : Nat) (ol ot om os oq : Int32) (L T M S Q : Int) (hol : ol.toInt = L) (hot : ot.toInt = T) (hom : om.toInt = M) (hos : os.toInt = S) (hoq : oq.toInt = Q) (hS0 : 21 ≤ S) (hS7 : S ≤ 177) (hM0 : 1 ≤ M) (hM1 : M ≤ 16) (hL0 : 0 ≤ L) (hT0 : 0 ≤ T) (hQ0 : 0 ≤ Q) (hQ3 : Q ≤ 3) (D0 : Int → Int → Bool) (hp hw hs : Nat) (kW kS : ClassId) (pw ph psr : Int32) (fw : Nat → Int64) (fs : Nat → Int32) (Wd Ht : Int) (hpw : pw.toInt = Wd) (hph : ph.toInt = Ht) (hW1 : 1 ≤ Wd) (hW2 : Wd ≤ 512) (hH1 : 1 ≤ Ht) (hH2 : Ht ≤ 512) (hbits : bOK fw (D0)) (hsup : ∀ x y, D0 x y = true → 0 ≤ x ∧ x < Wd ∧ 0 ≤ y ∧ y < Ht) (SR : Int) (hsr : psr.toInt = SR) (hsr0 : 0 ≤ SR) (hsr1 : SR ≤ Ht) (hsk : sK fs (D0) Wd SR) (on1 : L + M * S ≤ Wd) (on2 : T + M * S ≤ Ht) : Met l y_PF_drawFixed (.code y_PF_drawFixed b_PF_drawFixed 6 (some .int) :: allw) ({ frames := 5, cells := 0, slots := 0, locals := 136 }) (va_Pc [.ref hf, .ref ho] (rw_B (dC, dI) vwCl [(hf, .inr (4, [.ref hq, .ref hp, .ref hst, .ref hld])), (ho, .inr (1, [.int ol, .int ot, .int om, .int os, .int oq])), (hp, .inr (0, [.int pw, .int ph, .ref hw, .ref hs, .int psr])), (hw, .inl (kW, 4096, .inr (.inl fw))), (hs, .inl (kS, 263169, .inl fs))] [(kW, .long), (kS, .int)] sz)) (va_Qi (fun (r : Int32) (u : (Nat → Int64) × Int32) => r.toInt = DW D0 L T M S Q ∧ bOK u.1 (dP D0 L T M S Q (fxd S)) ∧ 0 ≤ (u.2 : Int32).toInt ∧ (u.2 : Int32).toInt ≤ SR ∧ sK fs (dP D0 L T M S Q (fxd S)) Wd (u.2 : Int32).toInt) (fun u t => rw_E (dC, dI) vwCl [(hf, .inr (4, [.ref hq, .ref hp, .ref hst, .ref hld])), (ho, .inr (1, [.int ol, .int ot, .int om, .int os, .int oq])), (hp, .inr (0, [.int pw, .int ph, .ref hw, .ref hs, .int u.2])), (hw, .inl (kW, 4096, .inr (.inl u.1))), (hs, .inl (kS, 263169, .inl fs))] [(kW, .long), (kS, .int)] (va_A [(hf, .inr (4, [.ref hq, .ref hp, .ref hst, .ref hld])), (ho, .inr (1, [.int ol, .int ot, .int om, .int os, .int oq])), (hp, .inr (0, [.int pw, .int ph, .ref hw, .ref hs, .int psr])), (hw, .inl (kW, 4096, .inr (.inl fw))), (hs, .inl (kS, 263169, .inl fs))] sz) t) (va_A [(hf, .inr (4, [.ref hq, .ref hp, .ref hst, .ref hld])), (ho, .inr (1, [.int ol, .int ot, .int om, .int os, .int oq])), (hp, .inr (0, [.int pw, .int ph, .ref hw, .ref hs, .int psr])), (hw, .inl (kW, 4096, .inr (.inl fw))), (hs, .inl (kS, 263169, .inl fs))] sz)) 0 0 (va_A [(hf, .inr (4, [.ref hq, .ref hp, .ref hst, .ref hld])), (ho, .inr (1, [.int ol, .int ot, .int om, .int os, .int oq])), (hp, .inr (0, [.int pw, .int ph, .ref hw, .ref hs, .int psr])), (hw, .inl (kW, 4096, .inr (.inl fw))), (hs, .inl (kS, 263169, .inl fs))] sz) := by
  refine Met.ofW (cc := b_PF_drawFixed) (maxL := 6) (ret := (some .int)) (by decide) rfl ?_
  intro p e s m args below meth c s₁ B hml hv
  obtain ⟨rfl, hsz, hP, hK, hD0⟩ := hv
  have hx := B.exec
  have hb := B.bytes
  have hr := B.returns
  have hts : ∀ w ∈ allw, w.before _ s = true := fun w h => atoms_spec (ws := .code y_PF_drawFixed b_PF_drawFixed 6 (some .int) :: allw) B.pre w (List.mem_cons_of_mem _ h)
  have hown : s.vm.findClass R_PF = some m.cls := findClass_of_methodNamed B.named
  have hlocks := B.notSynchronized
  subst hsz
  have hD := hD0.self (sz := s.heap.size)
  generalize hAe : va_A [(hf, .inr (4, [.ref hq, .ref hp, .ref hst, .ref hld])), (ho, .inr (1, [.int ol, .int ot, .int om, .int os, .int oq])), (hp, .inr (0, [.int pw, .int ph, .ref hw, .ref hs, .int psr])), (hw, .inl (kW, 4096, .inr (.inl fw))), (hs, .inl (kS, 263169, .inl fs))] s.heap.size = A at hD ⊢
  have hA : ∀ q : Nat, s.heap.size ≤ q → A q := fun q h => by rw [← hAe]; exact Or.inr h
  have hS : va_S A s.heap s.heap [] := va_S.rf
  have hP : va_P (dC, dI) vwCl [(hf, .inr (4, [.ref hq, .ref hp, .ref hst, .ref hld])), (ho, .inr (1, [.int ol, .int ot, .int om, .int os, .int oq])), (hp, .inr (0, [.int pw, .int ph, .ref hw, .ref hs, .int psr])), (hw, .inl (kW, 4096, .inr (.inl fw))), (hs, .inl (kS, 263169, .inl fs))] s.heap := hP
  have hl := lv_entry ([.ref hf, .ref ho]) (n := 6) (Nat.le_of_ble_eq_true rfl)
  rw [lg_entry_eq]
  generalize (lg_sl ([.ref hf, .ref ho]) ++ List.replicate (6 - (lg_sl ([.ref hf, .ref ho])).length) Slot.unset).toArray = ls at hl ⊢
  have hl : lv_has ls 6 [(0, .ref hf), (1, .ref ho)] := hl
  have m2 := mul_b (a := M) (b := M) (n := 16) (by omega) (by omega) (by omega) (by omega)
  have gb := gD_b (D := D0) (x := L) (y := T) (M := M) (S := S) (Q := Q) (by omega) (by omega)
  have b1 := sI_b gb (x := max (3 - 4) 0) (y := max (3 - 4) 0) 8 8 (by omega) (by omega)
  have b2 := sI_b gb (x := max (S - 4 - 4) 0) (y := max (3 - 4) 0) 8 8 (by omega) (by omega)
  have b3 := sI_b gb (x := max (3 - 4) 0) (y := max (S - 4 - 4) 0) 8 8 (by omega) (by omega)
  have z0 : bOK fw (dP D0 L T M S Q (fun _ _ => false)) := by rw [dp_0]; exact hbits
  have k0 : sK fs (dP D0 L T M S Q (fun _ _ => false)) Wd SR := by rw [dp_0]; exact hsk
  have eP : crP (crP (crP (fun _ _ => false) 3 3 (3 + 5) (3 - 4)) (S - 4) 3 (3 + 5) (S - 4 - 4)) 3 (S - 4) (S - 4 + 5) (3 - 4) = allP S := by
    have e1 : (3 : Int) + 5 = 8 := by omega
    have e2 : (3 : Int) - 4 = -1 := by omega
    have e3 : S - 4 - 4 = S - 8 := by omega
    have e4 : S - 4 + 5 = S + 1 := by omega
    unfold allP; rw [e1, e2, e3, e4]
  refine lv_aload_n hx hb d_PF_drawFixed_0 rfl (lv_at hl 1 rfl) ?_
  refine va_get (D := (dC, dI)) (ci := 1) (v := .int os) (C := R_Place) (T := T_Place) (N := 5) hx hb hts i_Place hown hK hP 1 rfl rfl 3 (by decide) (hts _ wd_326) (fun _ h9 => h9) rfl d_PF_drawFixed_1 ?_
  refine lv_iconst (v := 4) hx hb d_PF_drawFixed_4 (by decide) ?_
  refine lv_isub hx hb d_PF_drawFixed_5 ?_
  refine lv_topi (fun v5 e5 => ?_)
  have h5 : v5.toInt = S - 4 := by rw [e5]; exact ti_sub hos (ti_k (by decide)) (by omega) (by omega)
  refine lv_istore_n (lv' := [(2, .int v5), (0, .ref hf), (1, .ref ho)]) hx hb d_PF_drawFixed_6 rfl hl (by decide) rfl (fun ls hl => ?_)
  refine lv_aload_n hx hb d_PF_drawFixed_7 rfl (lv_at hl 1 rfl) ?_
  refine lv_aload_n hx hb d_PF_drawFixed_8 rfl (lv_at hl 2 rfl) ?_
  refine lv_iconst (v := 3) hx hb d_PF_drawFixed_9 (by decide) ?_
  refine lv_iconst (v := 3) hx hb d_PF_drawFixed_10 (by decide) ?_
  have hPc := hP.sub (ws' := [(hf, .inr (4, [.ref hq, .ref hp, .ref hst, .ref hld])), (ho, .inr (1, [.int ol, .int ot, .int om, .int os, .int oq])), (hp, .inr (0, [.int pw, .int ph, .ref hw, .ref hs, .int psr])), (hw, .inl (kW, 4096, .inr (.inl fw))), (hs, .inl (kS, 263169, .inl fs))]) [0, 1, 2, 3, 4] rfl
  have hKc := hK.sub (tys' := [(kW, .long), (kS, .int)]) [0, 1] rfl
  have hDc := hD.sub (ws' := [(hf, .inr (4, [.ref hq, .ref hp, .ref hst, .ref hld])), (ho, .inr (1, [.int ol, .int ot, .int om, .int os, .int oq])), (hp, .inr (0, [.int pw, .int ph, .ref hw, .ref hs, .int psr])), (hw, .inl (kW, 4096, .inr (.inl fw))), (hs, .inl (kS, 263169, .inl fs))]) [0, 1, 2, 3, 4] (by decide) rfl
  have hFc := va_free (wc := [(hf, .inr (4, [.ref hq, .ref hp, .ref hst, .ref hld])), (ho, .inr (1, [.int ol, .int ot, .int om, .int os, .int oq])), (hp, .inr (0, [.int pw, .int ph, .ref hw, .ref hs, .int psr])), (hw, .inl (kW, 4096, .inr (.inl fw))), (hs, .inl (kS, 263169, .inl fs))]) hD hS hA [0, 1, 2, 3, 4] rfl
  refine va_calli (va_runV (As := [.ref ho, .int 3, .int 3]) (rest := []) ⟨hx, hb, hml, hown, hts⟩ (c_drawCorner l dC dI s.heap.size hf hq hst hld ho ol ot om os oq L T M S Q hol hot hom hos hoq hS0 hS7 hM0 hM1 hL0 hT0 hQ0 hQ3 D0 (fun _ _ => false) hp hw hs kW kS pw ph psr fw fs Wd Ht hpw hph hW1 hW2 hH1 hH2 z0 hsup SR hsr (by omega) (by omega) k0 on1 on2 3 3 3 3 (ti_k (by decide)) (ti_k (by decide)) (Or.inl ⟨rfl, rfl⟩) (fun _ _ _ _ _ _ _ _ _ _ => rfl)) (aw_V 3 hts wd_343 wd_345 ws_2 wd_1 wd_346 rfl rfl (by decide +kernel) ⟨Nat.le_of_ble_eq_true rfl, Nat.le_of_ble_eq_true rfl⟩) ⟨rw_blind, va_recv hKc hPc (ci := 4) (q0 := 0) rfl rfl, rw_pre hPc hKc hDc⟩ rfl rfl hl.1 rfl (lv_room (Nat.le_of_ble_eq_true rfl)) d_PF_drawFixed_11 ⟨Nat.le_of_ble_eq_true rfl, Nat.le_of_ble_eq_true rfl⟩) hS (fun q _ h => hFc q h) hFc (fun v11 u t9 H11 locs ht hvm h11 hB hz1 hk1 hS => ?_)
  obtain ⟨u11_fw, u11_sr⟩ := u
  obtain ⟨hP1, _, hD1⟩ := hB
  rw [ht] at hP1
  try dsimp only at h11 hP1 hD1
  obtain ⟨hP, hD⟩ := va_join (wr := []) (w1 := [(hf, .inr (4, [.ref hq, .ref hp, .ref hst, .ref hld])), (ho, .inr (1, [.int ol, .int ot, .int om, .int os, .int oq])), (hp, .inr (0, [.int pw, .int ph, .ref hw, .ref hs, .int u11_sr])), (hw, .inl (kW, 4096, .inr (.inl u11_fw))), (hs, .inl (kS, 263169, .inl fs))]) hP hD [0, 1, 2, 3, 4] [] rfl rfl (by decide) (by decide) hk1 hFc hP1 hD1
  have hP := hP.sub (ws' := [(hf, .inr (4, [.ref hq, .ref hp, .ref hst, .ref hld])), (ho, .inr (1, [.int ol, .int ot, .int om, .int os, .int oq])), (hp, .inr (0, [.int pw, .int ph, .ref hw, .ref hs, .int u11_sr])), (hw, .inl (kW, 4096, .inr (.inl u11_fw))), (hs, .inl (kS, 263169, .inl fs))]) [0, 1, 2, 3, 4] rfl
  have hD := hD.sub (ws' := [(hf, .inr (4, [.ref hq, .ref hp, .ref hst, .ref hld])), (ho, .inr (1, [.int ol, .int ot, .int om, .int os, .int oq])), (hp, .inr (0, [.int pw, .int ph, .ref hw, .ref hs, .int u11_sr])), (hw, .inl (kW, 4096, .inr (.inl u11_fw))), (hs, .inl (kS, 263169, .inl fs))]) [0, 1, 2, 3, 4] (by decide) rfl
  clear hPc hKc hDc hFc ht hvm hz1 hk1 hP1 hD1
  have x11 := h11.2.2
  refine lv_aload_n hx hb d_PF_drawFixed_14 rfl (lv_at hl 1 rfl) ?_
  refine lv_aload_n hx hb d_PF_drawFixed_15 rfl (lv_at hl 2 rfl) ?_
  refine lv_iload_n hx hb d_PF_drawFixed_16 rfl (lv_at hl 0 rfl) ?_
  refine lv_iconst (v := 3) hx hb d_PF_drawFixed_17 (by decide) ?_
  have hPc := hP.sub (ws' := [(hf, .inr (4, [.ref hq, .ref hp, .ref hst, .ref hld])), (ho, .inr (1, [.int ol, .int ot, .int om, .int os, .int oq])), (hp, .inr (0, [.int pw, .int ph, .ref hw, .ref hs, .int u11_sr])), (hw, .inl (kW, 4096, .inr (.inl u11_fw))), (hs, .inl (kS, 263169, .inl fs))]) [0, 1, 2, 3, 4] rfl
  have hKc := hK.sub (tys' := [(kW, .long), (kS, .int)]) [0, 1] rfl
  have hDc := hD.sub (ws' := [(hf, .inr (4, [.ref hq, .ref hp, .ref hst, .ref hld])), (ho, .inr (1, [.int ol, .int ot, .int om, .int os, .int oq])), (hp, .inr (0, [.int pw, .int ph, .ref hw, .ref hs, .int u11_sr])), (hw, .inl (kW, 4096, .inr (.inl u11_fw))), (hs, .inl (kS, 263169, .inl fs))]) [0, 1, 2, 3, 4] (by decide) rfl
  have hFc := va_free (wc := [(hf, .inr (4, [.ref hq, .ref hp, .ref hst, .ref hld])), (ho, .inr (1, [.int ol, .int ot, .int om, .int os, .int oq])), (hp, .inr (0, [.int pw, .int ph, .ref hw, .ref hs, .int u11_sr])), (hw, .inl (kW, 4096, .inr (.inl u11_fw))), (hs, .inl (kS, 263169, .inl fs))]) hD hS hA [0, 1, 2, 3, 4] rfl
  refine va_calli (va_runV (As := [.ref ho, .int v5, .int 3]) (rest := [.int v11]) ⟨hx, hb, hml, hown, hts⟩ (c_drawCorner l dC dI H11.size hf hq hst hld ho ol ot om os oq L T M S Q hol hot hom hos hoq hS0 hS7 hM0 hM1 hL0 hT0 hQ0 hQ3 D0 (crP (fun _ _ => false) 3 3 (3 + 5) (3 - 4)) hp hw hs kW kS pw ph u11_sr u11_fw fs Wd Ht hpw hph hW1 hW2 hH1 hH2 h11.2.1 hsup (u11_sr.toInt) rfl (by omega) (by omega) h11.2.2.2.2 on1 on2 v5 3 (S - 4) 3 h5 (ti_k (by decide)) (Or.inr (Or.inl ⟨rfl, rfl⟩)) (fun i j i0 i1 j0 j1 r1 r2 r3 r4 => by unfold crP; rw [decide_eq_false (by omega)]; rfl)) (aw_V 3 hts wd_343 wd_345 ws_2 wd_1 wd_346 rfl rfl (by decide +kernel) ⟨Nat.le_of_ble_eq_true rfl, Nat.le_of_ble_eq_true rfl⟩) ⟨rw_blind, va_recv hKc hPc (ci := 4) (q0 := 0) rfl rfl, rw_pre hPc hKc hDc⟩ rfl rfl hl.1 rfl (lv_room (Nat.le_of_ble_eq_true rfl)) d_PF_drawFixed_18 ⟨Nat.le_of_ble_eq_true rfl, Nat.le_of_ble_eq_true rfl⟩) hS (fun q _ h => hFc q h) hFc (fun v18 u t9 H18 locs ht hvm h18 hB hz1 hk1 hS => ?_)
  obtain ⟨u18_fw, u18_sr⟩ := u
  obtain ⟨hP1, _, hD1⟩ := hB
  rw [ht] at hP1
  try dsimp only at h18 hP1 hD1
  obtain ⟨hP, hD⟩ := va_join (wr := []) (w1 := [(hf, .inr (4, [.ref hq, .ref hp, .ref hst, .ref hld])), (ho, .inr (1, [.int ol, .int ot, .int om, .int os, .int oq])), (hp, .inr (0, [.int pw, .int ph, .ref hw, .ref hs, .int u18_sr])), (hw, .inl (kW, 4096, .inr (.inl u18_fw))), (hs, .inl (kS, 263169, .inl fs))]) hP hD [0, 1, 2, 3, 4] [] rfl rfl (by decide) (by decide) hk1 hFc hP1 hD1
  have hP := hP.sub (ws' := [(hf, .inr (4, [.ref hq, .ref hp, .ref hst, .ref hld])), (ho, .inr (1, [.int ol, .int ot, .int om, .int os, .int oq])), (hp, .inr (0, [.int pw, .int ph, .ref hw, .ref hs, .int u18_sr])), (hw, .inl (kW, 4096, .inr (.inl u18_fw))), (hs, .inl (kS, 263169, .inl fs))]) [0, 1, 2, 3, 4] rfl
  have hD := hD.sub (ws' := [(hf, .inr (4, [.ref hq, .ref hp, .ref hst, .ref hld])), (ho, .inr (1, [.int ol, .int ot, .int om, .int os, .int oq])), (hp, .inr (0, [.int pw, .int ph, .ref hw, .ref hs, .int u18_sr])), (hw, .inl (kW, 4096, .inr (.inl u18_fw))), (hs, .inl (kS, 263169, .inl fs))]) [0, 1, 2, 3, 4] (by decide) rfl
  clear hPc hKc hDc hFc ht hvm hz1 hk1 hP1 hD1
  have x18 := h18.2.2
  refine lv_iadd hx hb d_PF_drawFixed_21 ?_
  refine lv_topi (fun v21 e21 => ?_)
  have h21 : v21.toInt = (sI (gG (gN D0 L T M S Q) S) (max (3 - 4) 0) (max (3 - 4) 0) 8 8) + (sI (gG (gN D0 L T M S Q) S) (max (S - 4 - 4) 0) (max (3 - 4) 0) 8 8) := by rw [e21]; exact ti_add h11.1 h18.1 (by omega) (by omega)
  refine lv_aload_n hx hb d_PF_drawFixed_22 rfl (lv_at hl 1 rfl) ?_
  refine lv_aload_n hx hb d_PF_drawFixed_23 rfl (lv_at hl 2 rfl) ?_
  refine lv_iconst (v := 3) hx hb d_PF_drawFixed_24 (by decide) ?_
  refine lv_iload_n hx hb d_PF_drawFixed_25 rfl (lv_at hl 0 rfl) ?_
  have hPc := hP.sub (ws' := [(hf, .inr (4, [.ref hq, .ref hp, .ref hst, .ref hld])), (ho, .inr (1, [.int ol, .int ot, .int om, .int os, .int oq])), (hp, .inr (0, [.int pw, .int ph, .ref hw, .ref hs, .int u18_sr])), (hw, .inl (kW, 4096, .inr (.inl u18_fw))), (hs, .inl (kS, 263169, .inl fs))]) [0, 1, 2, 3, 4] rfl
  have hKc := hK.sub (tys' := [(kW, .long), (kS, .int)]) [0, 1] rfl
  have hDc := hD.sub (ws' := [(hf, .inr (4, [.ref hq, .ref hp, .ref hst, .ref hld])), (ho, .inr (1, [.int ol, .int ot, .int om, .int os, .int oq])), (hp, .inr (0, [.int pw, .int ph, .ref hw, .ref hs, .int u18_sr])), (hw, .inl (kW, 4096, .inr (.inl u18_fw))), (hs, .inl (kS, 263169, .inl fs))]) [0, 1, 2, 3, 4] (by decide) rfl
  have hFc := va_free (wc := [(hf, .inr (4, [.ref hq, .ref hp, .ref hst, .ref hld])), (ho, .inr (1, [.int ol, .int ot, .int om, .int os, .int oq])), (hp, .inr (0, [.int pw, .int ph, .ref hw, .ref hs, .int u18_sr])), (hw, .inl (kW, 4096, .inr (.inl u18_fw))), (hs, .inl (kS, 263169, .inl fs))]) hD hS hA [0, 1, 2, 3, 4] rfl
  refine va_calli (va_runV (As := [.ref ho, .int 3, .int v5]) (rest := [.int v21]) ⟨hx, hb, hml, hown, hts⟩ (c_drawCorner l dC dI H18.size hf hq hst hld ho ol ot om os oq L T M S Q hol hot hom hos hoq hS0 hS7 hM0 hM1 hL0 hT0 hQ0 hQ3 D0 (crP (crP (fun _ _ => false) 3 3 (3 + 5) (3 - 4)) (S - 4) 3 (3 + 5) (S - 4 - 4)) hp hw hs kW kS pw ph u18_sr u18_fw fs Wd Ht hpw hph hW1 hW2 hH1 hH2 h18.2.1 hsup (u18_sr.toInt) rfl (by omega) (by omega) h18.2.2.2.2 on1 on2 3 v5 3 (S - 4) (ti_k (by decide)) h5 (Or.inr (Or.inr ⟨rfl, rfl⟩)) (fun i j i0 i1 j0 j1 r1 r2 r3 r4 => by unfold crP; rw [decide_eq_false (by omega), decide_eq_false (by omega)]; rfl)) (aw_V 3 hts wd_343 wd_345 ws_2 wd_1 wd_346 rfl rfl (by decide +kernel) ⟨Nat.le_of_ble_eq_true rfl, Nat.le_of_ble_eq_true rfl⟩) ⟨rw_blind, va_recv hKc hPc (ci := 4) (q0 := 0) rfl rfl, rw_pre hPc hKc hDc⟩ rfl rfl hl.1 rfl (lv_room (Nat.le_of_ble_eq_true rfl)) d_PF_drawFixed_26 ⟨Nat.le_of_ble_eq_true rfl, Nat.le_of_ble_eq_true rfl⟩) hS (fun q _ h => hFc q h) hFc (fun v26 u t9 H26 locs ht hvm h26 hB hz1 hk1 hS => ?_)
  obtain ⟨u26_fw, u26_sr⟩ := u
  obtain ⟨hP1, _, hD1⟩ := hB
  rw [ht] at hP1
  try dsimp only at h26 hP1 hD1
  obtain ⟨hP, hD⟩ := va_join (wr := []) (w1 := [(hf, .inr (4, [.ref hq, .ref hp, .ref hst, .ref hld])), (ho, .inr (1, [.int ol, .int ot, .int om, .int os, .int oq])), (hp, .inr (0, [.int pw, .int ph, .ref hw, .ref hs, .int u26_sr])), (hw, .inl (kW, 4096, .inr (.inl u26_fw))), (hs, .inl (kS, 263169, .inl fs))]) hP hD [0, 1, 2, 3, 4] [] rfl rfl (by decide) (by decide) hk1 hFc hP1 hD1
  have hP := hP.sub (ws' := [(hf, .inr (4, [.ref hq, .ref hp, .ref hst, .ref hld])), (ho, .inr (1, [.int ol, .int ot, .int om, .int os, .int oq])), (hp, .inr (0, [.int pw, .int ph, .ref hw, .ref hs, .int u26_sr])), (hw, .inl (kW, 4096, .inr (.inl u26_fw))), (hs, .inl (kS, 263169, .inl fs))]) [0, 1, 2, 3, 4] rfl
  have hD := hD.sub (ws' := [(hf, .inr (4, [.ref hq, .ref hp, .ref hst, .ref hld])), (ho, .inr (1, [.int ol, .int ot, .int om, .int os, .int oq])), (hp, .inr (0, [.int pw, .int ph, .ref hw, .ref hs, .int u26_sr])), (hw, .inl (kW, 4096, .inr (.inl u26_fw))), (hs, .inl (kS, 263169, .inl fs))]) [0, 1, 2, 3, 4] (by decide) rfl
  clear hPc hKc hDc hFc ht hvm hz1 hk1 hP1 hD1
  have x26 := h26.2
  rw [eP] at x26
  refine lv_iadd hx hb d_PF_drawFixed_29 ?_
  refine lv_topi (fun v29 e29 => ?_)
  have h29 : v29.toInt = ((sI (gG (gN D0 L T M S Q) S) (max (3 - 4) 0) (max (3 - 4) 0) 8 8) + (sI (gG (gN D0 L T M S Q) S) (max (S - 4 - 4) 0) (max (3 - 4) 0) 8 8)) + (sI (gG (gN D0 L T M S Q) S) (max (3 - 4) 0) (max (S - 4 - 4) 0) 8 8) := by rw [e29]; exact ti_add h21 h26.1 (by omega) (by omega)
  refine lv_istore_n (lv' := [(3, .int v29), (2, .int v5), (0, .ref hf), (1, .ref ho)]) hx hb d_PF_drawFixed_30 rfl hl (by decide) rfl (fun ls hl => ?_)
  refine lv_bipush (v := 8) hx hb d_PF_drawFixed_31 (by decide) ?_
  refine lv_istore (lv' := [(4, .int 8), (3, .int v29), (2, .int v5), (0, .ref hf), (1, .ref ho)]) hx hb d_PF_drawFixed_33 hl (by decide) rfl (fun ls hl => ?_)
  refine w_loop (I := fun n H' locs' g' => ∃ (nn : Int32) (znn : Int) (ii : Int32) (zii : Int) (fc : Nat → Int64) (sc : Int32) (zsc : Int) (ls : Array Slot), g' = F0 m 35 ls [] ∧ lv_has ls 6 [(0, .ref hf), (1, .ref ho), (2, .int v5), (3, .int nn), (4, .int ii)] ∧ n = (S - 8 - zii).toNat ∧ nn.toInt = znn ∧ ii.toInt = zii ∧ (8 ≤ zii ∧ zii ≤ S - 8) ∧ (sc.toInt = zsc) ∧ (0 ≤ zsc ∧ zsc ≤ SR) ∧ (bOK fc (dP D0 L T M S Q (lnP (allP S) zii zii))) ∧ (sK fs (dP D0 L T M S Q (lnP (allP S) zii zii)) Wd zsc) ∧ (znn = sI (gG (gN D0 L T M S Q) S) (max (3 - 4) 0) (max (3 - 4) 0) 8 8 + sI (gG (gN D0 L T M S Q) S) (max (S - 4 - 4) 0) (max (3 - 4) 0) 8 8 + sI (gG (gN D0 L T M S Q) S) (max (3 - 4) 0) (max (S - 4 - 4) 0) 8 8 + s1 (fun i => (gG (gN D0 L T M S Q) S) i 6) 8 (zii - 8).toNat + s1 (fun j => (gG (gN D0 L T M S Q) S) 6 j) 8 (zii - 8).toNat) ∧ va_P (dC, dI) vwCl [(hf, .inr (4, [.ref hq, .ref hp, .ref hst, .ref hld])), (ho, .inr (1, [.int ol, .int ot, .int om, .int os, .int oq])), (hp, .inr (0, [.int pw, .int ph, .ref hw, .ref hs, .int sc])), (hw, .inl (kW, 4096, .inr (.inl fc))), (hs, .inl (kS, 263169, .inl fs))] H' ∧ va_D A [(hf, .inr (4, [.ref hq, .ref hp, .ref hst, .ref hld])), (ho, .inr (1, [.int ol, .int ot, .int om, .int os, .int oq])), (hp, .inr (0, [.int pw, .int ph, .ref hw, .ref hs, .int sc])), (hw, .inl (kW, 4096, .inr (.inl fc))), (hs, .inl (kS, 263169, .inl fs))] ∧ va_S A s.heap H' locs') ?_ ⟨v29, (((sI (gG (gN D0 L T M S Q) S) (max (3 - 4) 0) (max (3 - 4) 0) 8 8) + (sI (gG (gN D0 L T M S Q) S) (max (S - 4 - 4) 0) (max (3 - 4) 0) 8 8)) + (sI (gG (gN D0 L T M S Q) S) (max (3 - 4) 0) (max (S - 4 - 4) 0) 8 8)), 8, 8, u26_fw, u26_sr, (u26_sr.toInt), ls, rfl, lv_sub hl [3, 4, 2, 1, 0] rfl, rfl, h29, (ti_k (by decide)), by omega, rfl, by omega, by rw [ln_0]; exact x26.1, by rw [ln_0]; exact x26.2.2.2, by show _ = _ + 0 + 0; omega, hP, hD, hS⟩
  intro n35 H35 locs g' hI ih35
  obtain ⟨nn, znn, ii, zii, fc, sc, zsc, ls, rfl, hl, hn, hnn, hii, i1, hsc, iea, ieb, iec, i3, hP, hD, hS⟩ := hI
  have bs := s1_b (g := fun i => (gG (gN D0 L T M S Q) S) i 6) (fun i => gb i 6) (x := 8) (zii - 8) (by omega)
  have bt := s1_b (g := fun j => (gG (gN D0 L T M S Q) S) 6 j) (fun j => gb 6 j) (x := 8) (zii - 8) (by omega)
  refine lv_iload hx hb d_PF_drawFixed_35 (lv_at hl 4 rfl) ?_
  refine lv_aload_n hx hb d_PF_drawFixed_37 rfl (lv_at hl 1 rfl) ?_
  refine va_get (D := (dC, dI)) (ci := 1) (v := .int os) (C := R_Place) (T := T_Place) (N := 5) hx hb hts i_Place hown hK hP 1 rfl rfl 3 (by decide) (hts _ wd_326) (fun _ h9 => h9) rfl d_PF_drawFixed_38 ?_
  refine lv_bipush (v := 9) hx hb d_PF_drawFixed_41 (by decide) ?_
  refine lv_isub hx hb d_PF_drawFixed_43 ?_
  refine lv_topi (fun v43 e43 => ?_)
  have h43 : v43.toInt = S - 9 := by rw [e43]; exact ti_sub hos (ti_k (by decide)) (by omega) (by omega)
  refine lv_icmp_gt (tgt := 93) hx hb d_PF_drawFixed_44 (by decide) (fun c44 => ?_) (fun c44 => ?_)
  · skip
    have c44 : (S - 9) < zii := (ti_lt h43 hii).mp c44
    refine lv_iload_n hx hb d_PF_drawFixed_93 rfl (lv_at hl 3 rfl) ?_
    have ez : zii = S - 8 := by omega
    have j9 := dp_sup (M := M) (S := S) (Q := Q) (P := lnP (allP S) zii zii) hsup hL0 hT0 on1 on2
    have pa3 := bA_b (S := S) (Q := Q) (i := 8) (j := (S - 8)) (by omega) (by omega) (by omega) (by omega)
    have pb3 := bB_b (S := S) (Q := Q) (i := 8) (j := (S - 8)) (by omega) (by omega) (by omega) (by omega)
    have pA3 := blk_b (m := M) (S := S) (by omega) pa3.1 pa3.2
    have pB3 := blk_b (m := M) (S := S) (by omega) pb3.1 pb3.2
    refine lv_aload_n hx hb d_PF_drawFixed_94 rfl (lv_at hl 0 rfl) ?_
    refine lv_aload_n hx hb d_PF_drawFixed_95 rfl (lv_at hl 1 rfl) ?_
    refine lv_bipush (v := 8) hx hb d_PF_drawFixed_96 (by decide) ?_
    refine lv_aload_n hx hb d_PF_drawFixed_98 rfl (lv_at hl 1 rfl) ?_
    refine va_get (D := (dC, dI)) (ci := 1) (v := .int os) (C := R_Place) (T := T_Place) (N := 5) hx hb hts i_Place hown hK hP 1 rfl rfl 3 (by decide) (hts _ wd_326) (fun _ h9 => h9) rfl d_PF_drawFixed_99 ?_
    refine lv_bipush (v := 8) hx hb d_PF_drawFixed_102 (by decide) ?_
    refine lv_isub hx hb d_PF_drawFixed_104 ?_
    refine lv_topi (fun v104 e104 => ?_)
    have h104 : v104.toInt = S - 8 := by rw [e104]; exact ti_sub hos (ti_k (by decide)) (by omega) (by omega)
    refine lv_iconst (v := 1) hx hb d_PF_drawFixed_105 (by decide) ?_
    have hPc := hP.sub (ws' := [(hf, .inr (4, [.ref hq, .ref hp, .ref hst, .ref hld])), (ho, .inr (1, [.int ol, .int ot, .int om, .int os, .int oq])), (hp, .inr (0, [.int pw, .int ph, .ref hw, .ref hs, .int sc])), (hw, .inl (kW, 4096, .inr (.inl fc))), (hs, .inl (kS, 263169, .inl fs))]) [0, 1, 2, 3, 4] rfl
    have hKc := hK.sub (tys' := [(kW, .long), (kS, .int)]) [0, 1] rfl
    have hDc := hD.sub (ws' := [(hf, .inr (4, [.ref hq, .ref hp, .ref hst, .ref hld])), (ho, .inr (1, [.int ol, .int ot, .int om, .int os, .int oq])), (hp, .inr (0, [.int pw, .int ph, .ref hw, .ref hs, .int sc])), (hw, .inl (kW, 4096, .inr (.inl fc))), (hs, .inl (kS, 263169, .inl fs))]) [0, 1, 2, 3, 4] (by decide) rfl
    have hFc := va_free (wc := [(hf, .inr (4, [.ref hq, .ref hp, .ref hst, .ref hld])), (ho, .inr (1, [.int ol, .int ot, .int om, .int os, .int oq])), (hp, .inr (0, [.int pw, .int ph, .ref hw, .ref hs, .int sc])), (hw, .inl (kW, 4096, .inr (.inl fc))), (hs, .inl (kS, 263169, .inl fs))]) hD hS hA [0, 1, 2, 3, 4] rfl
    refine va_calli (va_runV (As := [.ref ho, .int 8, .int v104, .int 1]) (rest := [.int nn]) ⟨hx, hb, hml, hown, hts⟩ (c_drawModule l dC dI H35.size hf hq hst hld ho ol ot om os oq L T M S Q hol hot hom hos hoq hS0 hS7 hM0 hM1 hL0 hT0 hQ0 hQ3 hp hw hs kW kS pw ph sc fc fs Wd Ht (dP D0 L T M S Q (lnP (allP S) zii zii)) hpw hph hW1 hW2 hH1 hH2 ieb j9 zsc hsc (by omega) (by omega) iec on1 on2 8 v104 1 8 (S - 8) (decide (mdl S 8 (S - 8) = 1)) (ti_k (by decide)) h104 (by rw [mdl_s hS0]; rfl) (by omega) (by omega) (by omega) (by omega)) (aw_V 4 hts wd_355 wd_357 ws_3 wd_1 wd_358 rfl rfl (by decide +kernel) ⟨Nat.le_of_ble_eq_true rfl, Nat.le_of_ble_eq_true rfl⟩) ⟨rw_blind, va_recv hKc hPc (ci := 4) (q0 := 0) rfl rfl, rw_pre hPc hKc hDc⟩ rfl rfl hl.1 rfl (lv_room (Nat.le_of_ble_eq_true rfl)) d_PF_drawFixed_106 ⟨Nat.le_of_ble_eq_true rfl, Nat.le_of_ble_eq_true rfl⟩) hS (fun q _ h => hFc q h) hFc (fun v106 u t9 H106 locs ht hvm h106 hB hz1 hk1 hS => ?_)
    obtain ⟨u106_fw, u106_sr⟩ := u
    obtain ⟨hP1, _, hD1⟩ := hB
    rw [ht] at hP1
    try dsimp only at h106 hP1 hD1
    obtain ⟨hP, hD⟩ := va_join (wr := []) (w1 := [(hf, .inr (4, [.ref hq, .ref hp, .ref hst, .ref hld])), (ho, .inr (1, [.int ol, .int ot, .int om, .int os, .int oq])), (hp, .inr (0, [.int pw, .int ph, .ref hw, .ref hs, .int u106_sr])), (hw, .inl (kW, 4096, .inr (.inl u106_fw))), (hs, .inl (kS, 263169, .inl fs))]) hP hD [0, 1, 2, 3, 4] [] rfl rfl (by decide) (by decide) hk1 hFc hP1 hD1
    have hP := hP.sub (ws' := [(hf, .inr (4, [.ref hq, .ref hp, .ref hst, .ref hld])), (ho, .inr (1, [.int ol, .int ot, .int om, .int os, .int oq])), (hp, .inr (0, [.int pw, .int ph, .ref hw, .ref hs, .int u106_sr])), (hw, .inl (kW, 4096, .inr (.inl u106_fw))), (hs, .inl (kS, 263169, .inl fs))]) [0, 1, 2, 3, 4] rfl
    have hD := hD.sub (ws' := [(hf, .inr (4, [.ref hq, .ref hp, .ref hst, .ref hld])), (ho, .inr (1, [.int ol, .int ot, .int om, .int os, .int oq])), (hp, .inr (0, [.int pw, .int ph, .ref hw, .ref hs, .int u106_sr])), (hw, .inl (kW, 4096, .inr (.inl u106_fw))), (hs, .inl (kS, 263169, .inl fs))]) [0, 1, 2, 3, 4] (by decide) rfl
    clear hPc hKc hDc hFc ht hvm hz1 hk1 hP1 hD1
    have f106 := fi_on (D := dP D0 L T M S Q (lnP (allP S) zii zii)) (W := Wd) (H := Ht) (x := L + M * bA S Q 8 (S - 8)) (y := T + M * bB S Q 8 (S - 8)) (w := M) (h := M) (v := decide (mdl S 8 (S - 8) = 1)) (by omega) (by omega) (by omega) (by omega) (by omega) (by omega)
    have s106 : pF (dP D0 L T M S Q (lnP (allP S) zii zii)) (fiE (dP D0 L T M S Q (lnP (allP S) zii zii)) (L + M * bA S Q 8 (S - 8)) (T + M * bB S Q 8 (S - 8)) M M (decide (mdl S 8 (S - 8) = 1))) 0 0 Wd Ht 0 = dP D0 L T M S Q (fxd S) := by
      rw [dp_step (P' := fun i j => (lnP (allP S) zii zii i j || (decide (i = 8) && decide (j = S - 8)))) (by omega) (by omega) (by omega) (by omega) (by omega) (by omega) (by omega) rfl (fun _ _ => rfl) f106.1, ez]
      exact all_fxd (by omega) hS0 (fun _ _ => rfl)
    have y106 := h106.2
    rw [s106] at y106
    have n106 := h106.1
    rw [dp_count (by omega) (by omega) (by omega) (by omega) (by omega) (by omega) (by omega) (by rw [al_ln hS0 (by omega) (by omega)]; exact decide_eq_false (by omega))] at n106
    have b106 := cI_nn (neB D0 (decide (mdl S 8 (S - 8) = 1))) (L + M * bA S Q 8 (S - 8)) (T + M * bB S Q 8 (S - 8)) M M
    have l106 := cI_le (neB D0 (decide (mdl S 8 (S - 8) = 1))) (L + M * bA S Q 8 (S - 8)) (T + M * bB S Q 8 (S - 8)) (w := M) (h := M) (by omega) (by omega)
    have g8 : (gG (gN D0 L T M S Q) S) 8 (S - 8) = cI (neB D0 (decide (mdl S 8 (S - 8) = 1))) (L + M * bA S Q 8 (S - 8)) (T + M * bB S Q 8 (S - 8)) M M := by rw [gG_y (by rw [mdl_s hS0]; decide)]; rfl
    refine lv_iadd hx hb d_PF_drawFixed_109 ?_
    refine lv_topi (fun v109 e109 => ?_)
    have h109 : v109.toInt = znn + (cI (neB D0 (decide (mdl S 8 (S - 8) = 1))) (L + M * bA S Q 8 (S - 8)) (T + M * bB S Q 8 (S - 8)) M M) := by rw [e109]; exact ti_add hnn n106 (by omega) (by omega)
    have hpost : (v109 : Int32).toInt = DW D0 L T M S Q ∧ bOK u106_fw (dP D0 L T M S Q (fxd S)) ∧ 0 ≤ (u106_sr : Int32).toInt ∧ (u106_sr : Int32).toInt ≤ SR ∧ sK fs (dP D0 L T M S Q (fxd S)) Wd (u106_sr : Int32).toInt := by
      refine ⟨?_, y106.1, y106.2.1, by have := y106.2.2.1; omega, y106.2.2.2⟩
      have e1 : max ((3 : Int) - 4) 0 = 0 := by omega
      have e2 : max (S - 4 - 4) 0 = S - 8 := by omega
      rw [e1, e2] at i3
      have e3 : (zii - 8).toNat = (S - 16).toNat := by omega
      rw [e3] at i3
      rw [h109, DW_parts hS0, g8, i3]
    have hP9 := hP.sub (ws' := [(hf, .inr (4, [.ref hq, .ref hp, .ref hst, .ref hld])), (ho, .inr (1, [.int ol, .int ot, .int om, .int os, .int oq])), (hp, .inr (0, [.int pw, .int ph, .ref hw, .ref hs, .int u106_sr])), (hw, .inl (kW, 4096, .inr (.inl u106_fw))), (hs, .inl (kS, 263169, .inl fs))]) [0, 1, 2, 3, 4] rfl
    have hD9 := hD.sub (ws' := [(hf, .inr (4, [.ref hq, .ref hp, .ref hst, .ref hld])), (ho, .inr (1, [.int ol, .int ot, .int om, .int os, .int oq])), (hp, .inr (0, [.int pw, .int ph, .ref hw, .ref hs, .int u106_sr])), (hw, .inl (kW, 4096, .inr (.inl u106_fw))), (hs, .inl (kS, 263169, .inl fs))]) [0, 1, 2, 3, 4] (by decide) rfl
    have hK9 := hK.sub (tys' := [(kW, .long), (kS, .int)]) [0, 1] rfl
    exact W.iret (v := v109) hx hb hr (fun t ht hW => ⟨⟨v109, (u106_fw, u106_sr), rfl, hpost, by rw [ht]; exact hP9, va_K.moved hW.alike hK9, hD9⟩, hS.F ht⟩) hS.2.2 d_PF_drawFixed_110
  · skip
    have c44 : ¬ ((S - 9) < zii) := fun q => c44 ((ti_lt h43 hii).mpr q)
    refine w_cut (I := fun H' locs' g' => ∃ (bv : Int32) (ls : Array Slot), g' = F0 m 59 ls [.int bv] ∧ lv_has ls 6 [(0, .ref hf), (1, .ref ho), (2, .int v5), (3, .int nn), (4, .int ii)] ∧ (bv = zb (decide ((if zii % 2 = 0 then 1 else 0 : Int) = 1))) ∧ va_P (dC, dI) vwCl [(hf, .inr (4, [.ref hq, .ref hp, .ref hst, .ref hld])), (ho, .inr (1, [.int ol, .int ot, .int om, .int os, .int oq])), (hp, .inr (0, [.int pw, .int ph, .ref hw, .ref hs, .int sc])), (hw, .inl (kW, 4096, .inr (.inl fc))), (hs, .inl (kS, 263169, .inl fs))] H' ∧ va_D A [(hf, .inr (4, [.ref hq, .ref hp, .ref hst, .ref hld])), (ho, .inr (1, [.int ol, .int ot, .int om, .int os, .int oq])), (hp, .inr (0, [.int pw, .int ph, .ref hw, .ref hs, .int sc])), (hw, .inl (kW, 4096, .inr (.inl fc))), (hs, .inl (kS, 263169, .inl fs))] ∧ va_S A s.heap H' locs') ?_ ?_
    · skip
      intro H59 locs g' hI
      obtain ⟨bv, ls, rfl, hl, ibv, hP, hD, hS⟩ := hI
      refine lv_istore (lv' := [(5, .int bv), (0, .ref hf), (1, .ref ho), (2, .int v5), (3, .int nn), (4, .int ii)]) hx hb d_PF_drawFixed_59 hl (by decide) rfl (fun ls hl => ?_)
      have m6 := mdl_r (S := S) (i := zii) hS0 (by omega) (by omega)
      have m7 := mdl_d (S := S) (j := zii) hS0 (by omega) (by omega)
      have j7 := dp_sup (M := M) (S := S) (Q := Q) (P := lnP (allP S) zii zii) hsup hL0 hT0 on1 on2
      have pa1 := bA_b (S := S) (Q := Q) (i := zii) (j := 6) (by omega) (by omega) (by omega) (by omega)
      have pb1 := bB_b (S := S) (Q := Q) (i := zii) (j := 6) (by omega) (by omega) (by omega) (by omega)
      have pA1 := blk_b (m := M) (S := S) (by omega) pa1.1 pa1.2
      have pB1 := blk_b (m := M) (S := S) (by omega) pb1.1 pb1.2
      have pa2 := bA_b (S := S) (Q := Q) (i := 6) (j := zii) (by omega) (by omega) (by omega) (by omega)
      have pb2 := bB_b (S := S) (Q := Q) (i := 6) (j := zii) (by omega) (by omega) (by omega) (by omega)
      have pA2 := blk_b (m := M) (S := S) (by omega) pa2.1 pa2.2
      have pB2 := blk_b (m := M) (S := S) (by omega) pb2.1 pb2.2
      refine lv_iload_n hx hb d_PF_drawFixed_61 rfl (lv_at hl 4 rfl) ?_
      refine lv_aload_n hx hb d_PF_drawFixed_62 rfl (lv_at hl 1 rfl) ?_
      refine lv_aload_n hx hb d_PF_drawFixed_63 rfl (lv_at hl 2 rfl) ?_
      refine lv_iload hx hb d_PF_drawFixed_64 (lv_at hl 5 rfl) ?_
      refine lv_bipush (v := 6) hx hb d_PF_drawFixed_66 (by decide) ?_
      refine lv_iload hx hb d_PF_drawFixed_68 (lv_at hl 0 rfl) ?_
      have hPc := hP.sub (ws' := [(hf, .inr (4, [.ref hq, .ref hp, .ref hst, .ref hld])), (ho, .inr (1, [.int ol, .int ot, .int om, .int os, .int oq])), (hp, .inr (0, [.int pw, .int ph, .ref hw, .ref hs, .int sc])), (hw, .inl (kW, 4096, .inr (.inl fc))), (hs, .inl (kS, 263169, .inl fs))]) [0, 1, 2, 3, 4] rfl
      have hKc := hK.sub (tys' := [(kW, .long), (kS, .int)]) [0, 1] rfl
      have hDc := hD.sub (ws' := [(hf, .inr (4, [.ref hq, .ref hp, .ref hst, .ref hld])), (ho, .inr (1, [.int ol, .int ot, .int om, .int os, .int oq])), (hp, .inr (0, [.int pw, .int ph, .ref hw, .ref hs, .int sc])), (hw, .inl (kW, 4096, .inr (.inl fc))), (hs, .inl (kS, 263169, .inl fs))]) [0, 1, 2, 3, 4] (by decide) rfl
      have hFc := va_free (wc := [(hf, .inr (4, [.ref hq, .ref hp, .ref hst, .ref hld])), (ho, .inr (1, [.int ol, .int ot, .int om, .int os, .int oq])), (hp, .inr (0, [.int pw, .int ph, .ref hw, .ref hs, .int sc])), (hw, .inl (kW, 4096, .inr (.inl fc))), (hs, .inl (kS, 263169, .inl fs))]) hD hS hA [0, 1, 2, 3, 4] rfl
      refine va_calli (va_runV (As := [.ref ho, .int ii, .int 6, .int bv]) (rest := [.int nn]) ⟨hx, hb, hml, hown, hts⟩ (c_drawModule l dC dI H59.size hf hq hst hld ho ol ot om os oq L T M S Q hol hot hom hos hoq hS0 hS7 hM0 hM1 hL0 hT0 hQ0 hQ3 hp hw hs kW kS pw ph sc fc fs Wd Ht (dP D0 L T M S Q (lnP (allP S) zii zii)) hpw hph hW1 hW2 hH1 hH2 ieb j7 zsc hsc (by omega) (by omega) iec on1 on2 ii 6 bv zii 6 (decide (mdl S zii 6 = 1)) hii (ti_k (by decide)) (by rw [m6]; exact ibv) (by omega) (by omega) (by omega) (by omega)) (aw_V 4 hts wd_355 wd_357 ws_3 wd_1 wd_358 rfl rfl (by decide +kernel) ⟨Nat.le_of_ble_eq_true rfl, Nat.le_of_ble_eq_true rfl⟩) ⟨rw_blind, va_recv hKc hPc (ci := 4) (q0 := 0) rfl rfl, rw_pre hPc hKc hDc⟩ rfl rfl hl.1 rfl (lv_room (Nat.le_of_ble_eq_true rfl)) d_PF_drawFixed_70 ⟨Nat.le_of_ble_eq_true rfl, Nat.le_of_ble_eq_true rfl⟩) hS (fun q _ h => hFc q h) hFc (fun v70 u t9 H70 locs ht hvm h70 hB hz1 hk1 hS => ?_)
      obtain ⟨u70_fw, u70_sr⟩ := u
      obtain ⟨hP1, _, hD1⟩ := hB
      rw [ht] at hP1
      try dsimp only at h70 hP1 hD1
      obtain ⟨hP, hD⟩ := va_join (wr := []) (w1 := [(hf, .inr (4, [.ref hq, .ref hp, .ref hst, .ref hld])), (ho, .inr (1, [.int ol, .int ot, .int om, .int os, .int oq])), (hp, .inr (0, [.int pw, .int ph, .ref hw, .ref hs, .int u70_sr])), (hw, .inl (kW, 4096, .inr (.inl u70_fw))), (hs, .inl (kS, 263169, .inl fs))]) hP hD [0, 1, 2, 3, 4] [] rfl rfl (by decide) (by decide) hk1 hFc hP1 hD1
      have hP := hP.sub (ws' := [(hf, .inr (4, [.ref hq, .ref hp, .ref hst, .ref hld])), (ho, .inr (1, [.int ol, .int ot, .int om, .int os, .int oq])), (hp, .inr (0, [.int pw, .int ph, .ref hw, .ref hs, .int u70_sr])), (hw, .inl (kW, 4096, .inr (.inl u70_fw))), (hs, .inl (kS, 263169, .inl fs))]) [0, 1, 2, 3, 4] rfl
      have hD := hD.sub (ws' := [(hf, .inr (4, [.ref hq, .ref hp, .ref hst, .ref hld])), (ho, .inr (1, [.int ol, .int ot, .int om, .int os, .int oq])), (hp, .inr (0, [.int pw, .int ph, .ref hw, .ref hs, .int u70_sr])), (hw, .inl (kW, 4096, .inr (.inl u70_fw))), (hs, .inl (kS, 263169, .inl fs))]) [0, 1, 2, 3, 4] (by decide) rfl
      clear hPc hKc hDc hFc ht hvm hz1 hk1 hP1 hD1
      have f70 := fi_on (D := dP D0 L T M S Q (lnP (allP S) zii zii)) (W := Wd) (H := Ht) (x := L + M * bA S Q zii 6) (y := T + M * bB S Q zii 6) (w := M) (h := M) (v := decide (mdl S zii 6 = 1)) (by omega) (by omega) (by omega) (by omega) (by omega) (by omega)
      have s70 : pF (dP D0 L T M S Q (lnP (allP S) zii zii)) (fiE (dP D0 L T M S Q (lnP (allP S) zii zii)) (L + M * bA S Q zii 6) (T + M * bB S Q zii 6) M M (decide (mdl S zii 6 = 1))) 0 0 Wd Ht 0 = dP D0 L T M S Q (lnP (allP S) (zii + 1) zii) := dp_step (by omega) (by omega) (by omega) (by omega) (by omega) (by omega) (by omega) rfl (ln_r (by omega)) f70.1
      have y70 := h70.2
      rw [s70] at y70
      have n70 := h70.1
      rw [dp_count (by omega) (by omega) (by omega) (by omega) (by omega) (by omega) (by omega) (by rw [al_ln hS0 (by omega) (by omega)]; exact decide_eq_false (by omega))] at n70
      have b70 := cI_nn (neB D0 (decide (mdl S zii 6 = 1))) (L + M * bA S Q zii 6) (T + M * bB S Q zii 6) M M
      have l70 := cI_le (neB D0 (decide (mdl S zii 6 = 1))) (L + M * bA S Q zii 6) (T + M * bB S Q zii 6) (w := M) (h := M) (by omega) (by omega)
      have j8 := dp_sup (M := M) (S := S) (Q := Q) (P := lnP (allP S) (zii + 1) zii) hsup hL0 hT0 on1 on2
      have y70b := y70.2
      refine lv_aload_n hx hb d_PF_drawFixed_73 rfl (lv_at hl 1 rfl) ?_
      refine lv_aload_n hx hb d_PF_drawFixed_74 rfl (lv_at hl 2 rfl) ?_
      refine lv_bipush (v := 6) hx hb d_PF_drawFixed_75 (by decide) ?_
      refine lv_iload hx hb d_PF_drawFixed_77 (lv_at hl 5 rfl) ?_
      refine lv_iload hx hb d_PF_drawFixed_79 (lv_at hl 0 rfl) ?_
      have hPc := hP.sub (ws' := [(hf, .inr (4, [.ref hq, .ref hp, .ref hst, .ref hld])), (ho, .inr (1, [.int ol, .int ot, .int om, .int os, .int oq])), (hp, .inr (0, [.int pw, .int ph, .ref hw, .ref hs, .int u70_sr])), (hw, .inl (kW, 4096, .inr (.inl u70_fw))), (hs, .inl (kS, 263169, .inl fs))]) [0, 1, 2, 3, 4] rfl
      have hKc := hK.sub (tys' := [(kW, .long), (kS, .int)]) [0, 1] rfl
      have hDc := hD.sub (ws' := [(hf, .inr (4, [.ref hq, .ref hp, .ref hst, .ref hld])), (ho, .inr (1, [.int ol, .int ot, .int om, .int os, .int oq])), (hp, .inr (0, [.int pw, .int ph, .ref hw, .ref hs, .int u70_sr])), (hw, .inl (kW, 4096, .inr (.inl u70_fw))), (hs, .inl (kS, 263169, .inl fs))]) [0, 1, 2, 3, 4] (by decide) rfl
      have hFc := va_free (wc := [(hf, .inr (4, [.ref hq, .ref hp, .ref hst, .ref hld])), (ho, .inr (1, [.int ol, .int ot, .int om, .int os, .int oq])), (hp, .inr (0, [.int pw, .int ph, .ref hw, .ref hs, .int u70_sr])), (hw, .inl (kW, 4096, .inr (.inl u70_fw))), (hs, .inl (kS, 263169, .inl fs))]) hD hS hA [0, 1, 2, 3, 4] rfl
      refine va_calli (va_runV (As := [.ref ho, .int 6, .int ii, .int bv]) (rest := [.int v70, .int nn]) ⟨hx, hb, hml, hown, hts⟩ (c_drawModule l dC dI H70.size hf hq hst hld ho ol ot om os oq L T M S Q hol hot hom hos hoq hS0 hS7 hM0 hM1 hL0 hT0 hQ0 hQ3 hp hw hs kW kS pw ph u70_sr u70_fw fs Wd Ht (dP D0 L T M S Q (lnP (allP S) (zii + 1) zii)) hpw hph hW1 hW2 hH1 hH2 y70.1 j8 (u70_sr.toInt) rfl (by omega) (by omega) y70.2.2.2 on1 on2 6 ii bv 6 zii (decide (mdl S 6 zii = 1)) (ti_k (by decide)) hii (by rw [m7]; exact ibv) (by omega) (by omega) (by omega) (by omega)) (aw_V 4 hts wd_355 wd_357 ws_3 wd_1 wd_358 rfl rfl (by decide +kernel) ⟨Nat.le_of_ble_eq_true rfl, Nat.le_of_ble_eq_true rfl⟩) ⟨rw_blind, va_recv hKc hPc (ci := 4) (q0 := 0) rfl rfl, rw_pre hPc hKc hDc⟩ rfl rfl hl.1 rfl (lv_room (Nat.le_of_ble_eq_true rfl)) d_PF_drawFixed_81 ⟨Nat.le_of_ble_eq_true rfl, Nat.le_of_ble_eq_true rfl⟩) hS (fun q _ h => hFc q h) hFc (fun v81 u t9 H81 locs ht hvm h81 hB hz1 hk1 hS => ?_)
      obtain ⟨u81_fw, u81_sr⟩ := u
      obtain ⟨hP1, _, hD1⟩ := hB
      rw [ht] at hP1
      try dsimp only at h81 hP1 hD1
      obtain ⟨hP, hD⟩ := va_join (wr := []) (w1 := [(hf, .inr (4, [.ref hq, .ref hp, .ref hst, .ref hld])), (ho, .inr (1, [.int ol, .int ot, .int om, .int os, .int oq])), (hp, .inr (0, [.int pw, .int ph, .ref hw, .ref hs, .int u81_sr])), (hw, .inl (kW, 4096, .inr (.inl u81_fw))), (hs, .inl (kS, 263169, .inl fs))]) hP hD [0, 1, 2, 3, 4] [] rfl rfl (by decide) (by decide) hk1 hFc hP1 hD1
      have hP := hP.sub (ws' := [(hf, .inr (4, [.ref hq, .ref hp, .ref hst, .ref hld])), (ho, .inr (1, [.int ol, .int ot, .int om, .int os, .int oq])), (hp, .inr (0, [.int pw, .int ph, .ref hw, .ref hs, .int u81_sr])), (hw, .inl (kW, 4096, .inr (.inl u81_fw))), (hs, .inl (kS, 263169, .inl fs))]) [0, 1, 2, 3, 4] rfl
      have hD := hD.sub (ws' := [(hf, .inr (4, [.ref hq, .ref hp, .ref hst, .ref hld])), (ho, .inr (1, [.int ol, .int ot, .int om, .int os, .int oq])), (hp, .inr (0, [.int pw, .int ph, .ref hw, .ref hs, .int u81_sr])), (hw, .inl (kW, 4096, .inr (.inl u81_fw))), (hs, .inl (kS, 263169, .inl fs))]) [0, 1, 2, 3, 4] (by decide) rfl
      clear hPc hKc hDc hFc ht hvm hz1 hk1 hP1 hD1
      have f81 := fi_on (D := dP D0 L T M S Q (lnP (allP S) (zii + 1) zii)) (W := Wd) (H := Ht) (x := L + M * bA S Q 6 zii) (y := T + M * bB S Q 6 zii) (w := M) (h := M) (v := decide (mdl S 6 zii = 1)) (by omega) (by omega) (by omega) (by omega) (by omega) (by omega)
      have s81 : pF (dP D0 L T M S Q (lnP (allP S) (zii + 1) zii)) (fiE (dP D0 L T M S Q (lnP (allP S) (zii + 1) zii)) (L + M * bA S Q 6 zii) (T + M * bB S Q 6 zii) M M (decide (mdl S 6 zii = 1))) 0 0 Wd Ht 0 = dP D0 L T M S Q (lnP (allP S) (zii + 1) (zii + 1)) := dp_step (by omega) (by omega) (by omega) (by omega) (by omega) (by omega) (by omega) rfl (ln_d (by omega)) f81.1
      have y81 := h81.2
      rw [s81] at y81
      have n81 := h81.1
      rw [dp_count (by omega) (by omega) (by omega) (by omega) (by omega) (by omega) (by omega) (by rw [al_ln hS0 (by omega) (by omega)]; exact decide_eq_false (by omega))] at n81
      have b81 := cI_nn (neB D0 (decide (mdl S 6 zii = 1))) (L + M * bA S Q 6 zii) (T + M * bB S Q 6 zii) M M
      have l81 := cI_le (neB D0 (decide (mdl S 6 zii = 1))) (L + M * bA S Q 6 zii) (T + M * bB S Q 6 zii) (w := M) (h := M) (by omega) (by omega)
      have g6 : (gG (gN D0 L T M S Q) S) zii 6 = cI (neB D0 (decide (mdl S zii 6 = 1))) (L + M * bA S Q zii 6) (T + M * bB S Q zii 6) M M := by rw [gG_y (by rw [m6]; split <;> decide)]; rfl
      have g7 : (gG (gN D0 L T M S Q) S) 6 zii = cI (neB D0 (decide (mdl S 6 zii = 1))) (L + M * bA S Q 6 zii) (T + M * bB S Q 6 zii) M M := by rw [gG_y (by rw [m7]; split <;> decide)]; rfl
      refine lv_iadd hx hb d_PF_drawFixed_84 ?_
      refine lv_topi (fun v84 e84 => ?_)
      have h84 : v84.toInt = (cI (neB D0 (decide (mdl S zii 6 = 1))) (L + M * bA S Q zii 6) (T + M * bB S Q zii 6) M M) + (cI (neB D0 (decide (mdl S 6 zii = 1))) (L + M * bA S Q 6 zii) (T + M * bB S Q 6 zii) M M) := by rw [e84]; exact ti_add n70 n81 (by omega) (by omega)
      refine lv_iadd hx hb d_PF_drawFixed_85 ?_
      refine lv_topi (fun v85 e85 => ?_)
      have h85 : v85.toInt = znn + ((cI (neB D0 (decide (mdl S zii 6 = 1))) (L + M * bA S Q zii 6) (T + M * bB S Q zii 6) M M) + (cI (neB D0 (decide (mdl S 6 zii = 1))) (L + M * bA S Q 6 zii) (T + M * bB S Q 6 zii) M M)) := by rw [e85]; exact ti_add hnn h84 (by omega) (by omega)
      refine lv_istore_n (lv' := [(3, .int v85), (5, .int bv), (0, .ref hf), (1, .ref ho), (2, .int v5), (4, .int ii)]) hx hb d_PF_drawFixed_86 rfl hl (by decide) rfl (fun ls hl => ?_)
      obtain ⟨v87, e87⟩ : ∃ y : Int32, y = ii + 1 := ⟨_, rfl⟩
      have h87 : v87.toInt = zii + 1 := by rw [e87]; exact ti_add hii (ti_k (by decide)) (by omega) (by omega)
      refine lv_iinc (v := v87) (lv' := [(4, .int v87), (3, .int v85), (5, .int bv), (0, .ref hf), (1, .ref ho), (2, .int v5)]) hx hb d_PF_drawFixed_87 hl (k := 5) rfl (by rw [e87]; rfl) (by decide) rfl (fun ls hl => ?_)
      refine lv_goto (tgt := 35) hx hb d_PF_drawFixed_90 (by decide) ?_
      exact ih35 _ (by omega) _ _ _ ⟨v85, (znn + ((cI (neB D0 (decide (mdl S zii 6 = 1))) (L + M * bA S Q zii 6) (T + M * bB S Q zii 6) M M) + (cI (neB D0 (decide (mdl S 6 zii = 1))) (L + M * bA S Q 6 zii) (T + M * bB S Q 6 zii) M M))), v87, (zii + 1), u81_fw, u81_sr, (u81_sr.toInt), ls, rfl, lv_sub hl [3, 4, 5, 1, 0] rfl, rfl, h85, h87, by omega, rfl, ⟨y81.2.1, by have := y81.2.2.1; omega⟩, y81.1, y81.2.2.2, by rw [s1_st (by omega), s1_st (by omega), g6, g7]; omega, hP, hD, hS⟩
    · skip
      intro hj59
      refine lv_iload hx hb d_PF_drawFixed_47 (lv_at hl 4 rfl) ?_
      refine lv_iconst (v := 2) hx hb d_PF_drawFixed_49 (by decide) ?_
      refine lv_irem hx hb d_PF_drawFixed_50 (by decide) ?_
      refine lv_topi (fun v50 e50 => ?_)
      have h50 : v50.toInt = zii % 2 := by rw [e50]; exact ti_rem hii (ti_k (by decide)) (by omega) (by omega)
      refine lv_if_ne (tgt := 58) hx hb d_PF_drawFixed_51 (by decide) (fun c51 => ?_) (fun c51 => ?_)
      · skip
        have c51 : ¬ ((zii % 2) = 0) := fun q => c51 ((ti_eq h50 (ti_k (by decide))).mpr q)
        refine lv_iconst (v := 0) hx hb d_PF_drawFixed_58 (by decide) ?_
        exact hj59 _ _ _ ⟨0, ls, rfl, lv_sub hl [0, 1, 2, 3, 4] rfl, by first | (rw [if_pos c51]; rfl) | (rw [if_neg c51]; rfl), hP, hD, hS⟩
      · skip
        have c51 : (zii % 2) = 0 := (ti_eq h50 (ti_k (by decide))).mp c51
        refine lv_iconst (v := 1) hx hb d_PF_drawFixed_54 (by decide) ?_
        refine lv_goto (tgt := 59) hx hb d_PF_drawFixed_55 (by decide) ?_
        exact hj59 _ _ _ ⟨1, ls, rfl, lv_sub hl [0, 1, 2, 3, 4] rfl, by first | (rw [if_pos c51]; rfl) | (rw [if_neg c51]; rfl), hP, hD, hS⟩
