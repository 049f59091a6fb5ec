set_option maxHeartbeats 4000000 in
set_option maxRecDepth 100000 in
theorem c_sheet (l : Launch) (dC : Nat → ClassId) (dI : Nat → Nat → Nat) (sz : Nat) (hl9 : l.stackTraces = false) (hf hq hst hld : Nat) (hp hw hs ak ar bk br : Nat) (kW : ClassId) (pw ph psr : Int32) (fw : Nat → Int64) (cnt cnt2 : Int32) (a1 a2 : Int32) (w h : Int) (g1 : a1.toInt = w) (g2 : a2.toInt = h) : vx_Met l y_PF_sheet (.code y_PF_sheet b_PF_sheet 3 none :: allw) ({ frames := 6, cells := 1, slots := 6, locals := 100 }) (va_Pc [.ref hf, .int a1, .int a2] (tB (dC, dI) vwCl [(hf, .inr (4, [.ref hq, .ref hp, .ref hst, .ref hld])), (hp, .inr (0, [.int pw, .int ph, .ref hw, .ref hs, .int psr])), (hw, .inl (kW, 4096, .inr (.inl fw))), (hst, .inr (2, [.ref ak, .ref ar, .int cnt])), (hld, .inr (2, [.ref bk, .ref br, .int cnt2]))] [(kW, .long)] sz R_IAE [(38, "width and height are 1 .. 512")])) (va_Qv (fun (u : Nat → Int64) => (1 ≤ w ∧ w ≤ 512 ∧ 1 ≤ h ∧ h ≤ 512) ∧ ∀ i : Nat, i < 4096 → u i = 0) (fun u t => rw_E (dC, dI) vwCl [(hf, .inr (4, [.ref hq, .ref hp, .ref hst, .ref hld])), (hp, .inr (0, [.int a1, .int a2, .ref hw, .ref hs, .int 0])), (hw, .inl (kW, 4096, .inr (.inl u))), (hst, .inr (2, [.ref ak, .ref ar, .int 0])), (hld, .inr (2, [.ref bk, .ref br, .int 0]))] [(kW, .long)] (va_A [(hf, .inr (4, [.ref hq, .ref hp, .ref hst, .ref hld])), (hp, .inr (0, [.int pw, .int ph, .ref hw, .ref hs, .int psr])), (hw, .inl (kW, 4096, .inr (.inl fw))), (hst, .inr (2, [.ref ak, .ref ar, .int cnt])), (hld, .inr (2, [.ref bk, .ref br, .int cnt2]))] sz) t) (va_A [(hf, .inr (4, [.ref hq, .ref hp, .ref hst, .ref hld])), (hp, .inr (0, [.int pw, .int ph, .ref hw, .ref hs, .int psr])), (hw, .inl (kW, 4096, .inr (.inl fw))), (hst, .inr (2, [.ref ak, .ref ar, .int cnt])), (hld, .inr (2, [.ref bk, .ref br, .int cnt2]))] sz)) (xE (dC, dI) vwCl [(hf, .inr (4, [.ref hq, .ref hp, .ref hst, .ref hld])), (hp, .inr (0, [.int pw, .int ph, .ref hw, .ref hs, .int psr])), (hw, .inl (kW, 4096, .inr (.inl fw))), (hst, .inr (2, [.ref ak, .ref ar, .int cnt])), (hld, .inr (2, [.ref bk, .ref br, .int cnt2]))] [(kW, .long)] (va_A [(hf, .inr (4, [.ref hq, .ref hp, .ref hst, .ref hld])), (hp, .inr (0, [.int pw, .int ph, .ref hw, .ref hs, .int psr])), (hw, .inl (kW, 4096, .inr (.inl fw))), (hst, .inr (2, [.ref ak, .ref ar, .int cnt])), (hld, .inr (2, [.ref bk, .ref br, .int cnt2]))] sz) R_IAE (¬ (1 ≤ w ∧ w ≤ 512 ∧ 1 ≤ h ∧ h ≤ 512))) 1 6 (va_A [(hf, .inr (4, [.ref hq, .ref hp, .ref hst, .ref hld])), (hp, .inr (0, [.int pw, .int ph, .ref hw, .ref hs, .int psr])), (hw, .inl (kW, 4096, .inr (.inl fw))), (hst, .inr (2, [.ref ak, .ref ar, .int cnt])), (hld, .inr (2, [.ref bk, .ref br, .int cnt2]))] sz) := by
  refine vx_ofW (cc := b_PF_sheet) (maxL := 3) (ret := none) (by decide) rfl ?_
  intro p e s m args below meth c s₁ B hml hex hv
  obtain ⟨rfl, ⟨hsz, hP, hK, hD0⟩, hTx, hTr, hTz⟩ := hv
  have hx := B.exec
  have hb := B.bytes
  have hr := B.returns
  have hts : ∀ w ∈ allw, w.before _ s = true := fun w h => atoms_spec (ws := .code y_PF_sheet b_PF_sheet 3 none :: allw) B.pre w (List.mem_cons_of_mem _ h)
  have hown : s.vm.findClass R_PF = some m.cls := findClass_of_methodNamed B.named
  have hlocks := B.notSynchronized
  subst hsz
  have hD := hD0.self (sz := s.heap.size)
  generalize hAe : va_A [(hf, .inr (4, [.ref hq, .ref hp, .ref hst, .ref hld])), (hp, .inr (0, [.int pw, .int ph, .ref hw, .ref hs, .int psr])), (hw, .inl (kW, 4096, .inr (.inl fw))), (hst, .inr (2, [.ref ak, .ref ar, .int cnt])), (hld, .inr (2, [.ref bk, .ref br, .int cnt2]))] s.heap.size = A at hD hTz ⊢
  have hA : ∀ q : Nat, s.heap.size ≤ q → A q := fun q h => by rw [← hAe]; exact Or.inr h
  have hS : va_S A s.heap s.heap [] := va_S.rf
  have hP : va_P (dC, dI) vwCl [(hf, .inr (4, [.ref hq, .ref hp, .ref hst, .ref hld])), (hp, .inr (0, [.int pw, .int ph, .ref hw, .ref hs, .int psr])), (hw, .inl (kW, 4096, .inr (.inl fw))), (hst, .inr (2, [.ref ak, .ref ar, .int cnt])), (hld, .inr (2, [.ref bk, .ref br, .int cnt2]))] s.heap := hP
  have hl := lv_entry ([.ref hf, .int a1, .int a2]) (n := 3) (Nat.le_of_ble_eq_true rfl)
  rw [lg_entry_eq]
  generalize (lg_sl ([.ref hf, .int a1, .int a2]) ++ List.replicate (3 - (lg_sl ([.ref hf, .int a1, .int a2])).length) Slot.unset).toArray = ls at hl ⊢
  have hl : lv_has ls 3 [(0, .ref hf), (1, .int a1), (2, .int a2)] := hl
  refine lv_iload_n hx hb d_PF_sheet_0 rfl (lv_at hl 1 rfl) ?_
  refine lv_iconst (v := 1) hx hb d_PF_sheet_1 (by decide) ?_
  refine lv_sipush (v := 512) hx hb d_PF_sheet_2 (by decide) ?_
  have hPc := hP.sub (ws' := []) [] rfl
  have hKc := hK.sub (tys' := []) [] rfl
  refine va_calli (va_runS (As := [.int a1, .int 1, .int 512]) (rest := []) ⟨hx, hb, hml, hown, hts⟩ (c_isWithin l dC dI a1 1 512 w 1 512 g1 (ti_k (by decide)) (ti_k (by decide))) (aw_S 3 hts wd_179 wd_180 wd_1 wd_181 rfl rfl (by decide +kernel) ⟨Nat.le_of_ble_eq_true rfl, Nat.le_of_ble_eq_true rfl⟩) ⟨ro_blind, ro_pre hPc hKc⟩ rfl rfl hl.1 rfl (lv_room (Nat.le_of_ble_eq_true rfl)) d_PF_sheet_5 ⟨Nat.le_of_ble_eq_true rfl, Nat.le_of_ble_eq_true rfl⟩) hS (fun q _ h => h.elim) (fun q h => h.elim) (fun v5 _ t9 H5 locs ht hvm h5 hB hz1 hk1 hS => ?_)
  have hP := ro_keep hP hk1
  clear hPc hKc ht hvm hB hz1 hk1
  refine lv_if_eq (tgt := 22) hx hb d_PF_sheet_8 (by decide) (fun c8 => ?_) (fun c8 => ?_)
  · skip
    have c8 : ¬ ((1 : Int) ≤ w ∧ w ≤ 512) := bi_z h5 c8
    have hpx : ¬ (1 ≤ w ∧ w ≤ 512 ∧ 1 ≤ h ∧ h ≤ 512) := by omega
    obtain ⟨sa, hstr⟩ := hTr (38, "width and height are 1 .. 512") (List.mem_of_getElem? (i := 0) rfl)
    exact vx_throwS (own := R_PF) (cls := R_IAE) (names := supsX) (A := A) hx hb hl9 hown (by decide) (by decide) (hts _ wd_182) (hts _ wd_9) hstr (hat_iae hts hTx) hg_iae hTz.1 hTz.2 hS (by rw [hml]; exact hl.1) d_PF_sheet_22 d_PF_sheet_25 d_PF_sheet_26 d_PF_sheet_28 d_PF_sheet_31 (fun x hx9 => (hex x hx9).elim) (Nat.le_of_ble_eq_true rfl) (Nat.le_of_ble_eq_true rfl) (Nat.le_of_ble_eq_true rfl) (Nat.le_of_ble_eq_true rfl) hlocks (xE_of hP hK hD hS hpx) hS.2.2 (Nat.le_of_ble_eq_true rfl) (Nat.le_of_ble_eq_true rfl)
  · skip
    have c8 : (1 : Int) ≤ w ∧ w ≤ 512 := bi_nz h5 c8
    refine lv_iload_n hx hb d_PF_sheet_11 rfl (lv_at hl 2 rfl) ?_
    refine lv_iconst (v := 1) hx hb d_PF_sheet_12 (by decide) ?_
    refine lv_sipush (v := 512) hx hb d_PF_sheet_13 (by decide) ?_
    have hPc := hP.sub (ws' := []) [] rfl
    have hKc := hK.sub (tys' := []) [] rfl
    refine va_calli (va_runS (As := [.int a2, .int 1, .int 512]) (rest := []) ⟨hx, hb, hml, hown, hts⟩ (c_isWithin l dC dI a2 1 512 h 1 512 g2 (ti_k (by decide)) (ti_k (by decide))) (aw_S 3 hts wd_179 wd_180 wd_1 wd_181 rfl rfl (by decide +kernel) ⟨Nat.le_of_ble_eq_true rfl, Nat.le_of_ble_eq_true rfl⟩) ⟨ro_blind, ro_pre hPc hKc⟩ rfl rfl hl.1 rfl (lv_room (Nat.le_of_ble_eq_true rfl)) d_PF_sheet_16 ⟨Nat.le_of_ble_eq_true rfl, Nat.le_of_ble_eq_true rfl⟩) hS (fun q _ h => h.elim) (fun q h => h.elim) (fun v16 _ t9 H16 locs ht hvm h16 hB hz1 hk1 hS => ?_)
    have hP := ro_keep hP hk1
    clear hPc hKc ht hvm hB hz1 hk1
    refine lv_if_ne (tgt := 32) hx hb d_PF_sheet_19 (by decide) (fun c19 => ?_) (fun c19 => ?_)
    · skip
      have c19 : (1 : Int) ≤ h ∧ h ≤ 512 := bi_nz h16 c19
      refine lv_aload_n hx hb d_PF_sheet_32 rfl (lv_at hl 0 rfl) ?_
      refine va_get (D := (dC, dI)) (ci := 4) (v := .ref hp) (C := R_PF) (T := T_PF) (N := 4) hx hb hts i_PF hown hK hP 0 rfl rfl 1 (by decide) (hts _ wd_127) (fun _ h9 => h9) rfl d_PF_sheet_33 ?_
      refine lv_iload_n hx hb d_PF_sheet_36 rfl (lv_at hl 1 rfl) ?_
      refine lv_iload_n hx hb d_PF_sheet_37 rfl (lv_at hl 2 rfl) ?_
      have hPc := hP.sub (ws' := [(hp, .inr (0, [.int pw, .int ph, .ref hw, .ref hs, .int psr])), (hw, .inl (kW, 4096, .inr (.inl fw)))]) [1, 2] rfl
      have hKc := hK.sub (tys' := [(kW, .long)]) [0] rfl
      have hDc := hD.sub (ws' := [(hp, .inr (0, [.int pw, .int ph, .ref hw, .ref hs, .int psr])), (hw, .inl (kW, 4096, .inr (.inl fw)))]) [1, 2] (by decide) rfl
      have hFc := va_free (wc := [(hp, .inr (0, [.int pw, .int ph, .ref hw, .ref hs, .int psr])), (hw, .inl (kW, 4096, .inr (.inl fw)))]) hD hS hA [1, 2] rfl
      refine va_callv (va_runV (As := [.int a1, .int a2]) (rest := []) ⟨hx, hb, hml, hown, hts⟩ (c_renew l dC dI H16.size hp hw hs kW pw ph psr fw a1 a2) (aw_V 2 hts wd_249 wd_250 wd_251 wd_3 wd_252 rfl rfl (by decide +kernel) ⟨Nat.le_of_ble_eq_true rfl, Nat.le_of_ble_eq_true rfl⟩) ⟨rw_blind, va_recv hKc hPc (ci := 0) (q0 := 0) rfl rfl, rw_pre hPc hKc hDc⟩ rfl rfl hl.1 rfl (lv_room (Nat.le_of_ble_eq_true rfl)) d_PF_sheet_38 ⟨Nat.le_of_ble_eq_true rfl, Nat.le_of_ble_eq_true rfl⟩) hS (fun q _ h => hFc q h) hFc (fun u38_fw t9 H38 locs ht hvm h38 hB hz1 hk1 hS => ?_)
      obtain ⟨hP1, hK1, hD1⟩ := hB
      rw [ht] at hP1
      try dsimp only at h38 hP1 hD1
      obtain ⟨hP, hD⟩ := va_join (wr := [(hf, .inr (4, [.ref hq, .ref hp, .ref hst, .ref hld])), (hst, .inr (2, [.ref ak, .ref ar, .int cnt])), (hld, .inr (2, [.ref bk, .ref br, .int cnt2]))]) (w1 := [(hp, .inr (0, [.int a1, .int a2, .ref hw, .ref hs, .int 0])), (hw, .inl (kW, 4096, .inr (.inl u38_fw)))]) hP hD [1, 2] [0, 3, 4] rfl rfl (by decide) (by decide) hk1 hFc hP1 hD1
      have hP := hP.sub (ws' := [(hf, .inr (4, [.ref hq, .ref hp, .ref hst, .ref hld])), (hp, .inr (0, [.int a1, .int a2, .ref hw, .ref hs, .int 0])), (hw, .inl (kW, 4096, .inr (.inl u38_fw))), (hst, .inr (2, [.ref ak, .ref ar, .int cnt])), (hld, .inr (2, [.ref bk, .ref br, .int cnt2]))]) [0, 3, 4, 1, 2] rfl
      have hD := hD.sub (ws' := [(hf, .inr (4, [.ref hq, .ref hp, .ref hst, .ref hld])), (hp, .inr (0, [.int a1, .int a2, .ref hw, .ref hs, .int 0])), (hw, .inl (kW, 4096, .inr (.inl u38_fw))), (hst, .inr (2, [.ref ak, .ref ar, .int cnt])), (hld, .inr (2, [.ref bk, .ref br, .int cnt2]))]) [0, 3, 4, 1, 2] (by decide) rfl
      clear hPc hKc hDc hFc ht hvm hz1 hk1 hP1 hD1 hK1
      refine lv_aload_n hx hb d_PF_sheet_41 rfl (lv_at hl 0 rfl) ?_
      refine va_get (D := (dC, dI)) (ci := 4) (v := .ref hst) (C := R_PF) (T := T_PF) (N := 4) hx hb hts i_PF hown hK hP 0 rfl rfl 2 (by decide) (hts _ wd_128) (fun _ h9 => h9) rfl d_PF_sheet_42 ?_
      have hPc := hP.sub (ws' := [(hst, .inr (2, [.ref ak, .ref ar, .int cnt]))]) [3] rfl
      have hKc := hK.sub (tys' := []) [] rfl
      have hDc := hD.sub (ws' := [(hst, .inr (2, [.ref ak, .ref ar, .int cnt]))]) [3] (by decide) rfl
      have hFc := va_free (wc := [(hst, .inr (2, [.ref ak, .ref ar, .int cnt]))]) hD hS hA [3] rfl
      refine va_callv (va_runV (As := []) (rest := []) ⟨hx, hb, hml, hown, hts⟩ (c_clear l dC dI H38.size hst ak ar cnt) (aw_V 0 hts wd_256 wd_257 wd_258 wd_4 wd_259 rfl rfl (by decide +kernel) ⟨Nat.le_of_ble_eq_true rfl, Nat.le_of_ble_eq_true rfl⟩) ⟨rw_blind, va_recv hKc hPc (ci := 2) (q0 := 0) rfl rfl, rw_pre hPc hKc hDc⟩ rfl rfl hl.1 rfl (lv_room (Nat.le_of_ble_eq_true rfl)) d_PF_sheet_45 ⟨Nat.le_of_ble_eq_true rfl, Nat.le_of_ble_eq_true rfl⟩) hS (fun q _ h => hFc q h) hFc (fun u45_w t9 H45 locs ht hvm h45 hB hz1 hk1 hS => ?_)
      obtain ⟨hP1, hK1, hD1⟩ := hB
      rw [ht] at hP1
      try dsimp only at h45 hP1 hD1
      obtain ⟨hP, hD⟩ := va_join (wr := [(hf, .inr (4, [.ref hq, .ref hp, .ref hst, .ref hld])), (hp, .inr (0, [.int a1, .int a2, .ref hw, .ref hs, .int 0])), (hw, .inl (kW, 4096, .inr (.inl u38_fw))), (hld, .inr (2, [.ref bk, .ref br, .int cnt2]))]) (w1 := [(hst, .inr (2, [.ref ak, .ref ar, .int 0]))]) hP hD [3] [0, 1, 2, 4] rfl rfl (by decide) (by decide) hk1 hFc hP1 hD1
      have hP := hP.sub (ws' := [(hf, .inr (4, [.ref hq, .ref hp, .ref hst, .ref hld])), (hp, .inr (0, [.int a1, .int a2, .ref hw, .ref hs, .int 0])), (hw, .inl (kW, 4096, .inr (.inl u38_fw))), (hst, .inr (2, [.ref ak, .ref ar, .int 0])), (hld, .inr (2, [.ref bk, .ref br, .int cnt2]))]) [0, 1, 2, 4, 3] rfl
      have hD := hD.sub (ws' := [(hf, .inr (4, [.ref hq, .ref hp, .ref hst, .ref hld])), (hp, .inr (0, [.int a1, .int a2, .ref hw, .ref hs, .int 0])), (hw, .inl (kW, 4096, .inr (.inl u38_fw))), (hst, .inr (2, [.ref ak, .ref ar, .int 0])), (hld, .inr (2, [.ref bk, .ref br, .int cnt2]))]) [0, 1, 2, 4, 3] (by decide) rfl
      clear hPc hKc hDc hFc ht hvm hz1 hk1 hP1 hD1 hK1
      refine lv_aload_n hx hb d_PF_sheet_48 rfl (lv_at hl 0 rfl) ?_
      refine va_get (D := (dC, dI)) (ci := 4) (v := .ref hld) (C := R_PF) (T := T_PF) (N := 4) hx hb hts i_PF hown hK hP 0 rfl rfl 3 (by decide) (hts _ wd_129) (fun _ h9 => h9) rfl d_PF_sheet_49 ?_
      have hPc := hP.sub (ws' := [(hld, .inr (2, [.ref bk, .ref br, .int cnt2]))]) [4] rfl
      have hKc := hK.sub (tys' := []) [] rfl
      have hDc := hD.sub (ws' := [(hld, .inr (2, [.ref bk, .ref br, .int cnt2]))]) [4] (by decide) rfl
      have hFc := va_free (wc := [(hld, .inr (2, [.ref bk, .ref br, .int cnt2]))]) hD hS hA [4] rfl
      refine va_callv (va_runV (As := []) (rest := []) ⟨hx, hb, hml, hown, hts⟩ (c_clear l dC dI H45.size hld bk br cnt2) (aw_V 0 hts wd_256 wd_257 wd_258 wd_4 wd_259 rfl rfl (by decide +kernel) ⟨Nat.le_of_ble_eq_true rfl, Nat.le_of_ble_eq_true rfl⟩) ⟨rw_blind, va_recv hKc hPc (ci := 2) (q0 := 0) rfl rfl, rw_pre hPc hKc hDc⟩ rfl rfl hl.1 rfl (lv_room (Nat.le_of_ble_eq_true rfl)) d_PF_sheet_52 ⟨Nat.le_of_ble_eq_true rfl, Nat.le_of_ble_eq_true rfl⟩) hS (fun q _ h => hFc q h) hFc (fun u52_w t9 H52 locs ht hvm h52 hB hz1 hk1 hS => ?_)
      obtain ⟨hP1, hK1, hD1⟩ := hB
      rw [ht] at hP1
      try dsimp only at h52 hP1 hD1
      obtain ⟨hP, hD⟩ := va_join (wr := [(hf, .inr (4, [.ref hq, .ref hp, .ref hst, .ref hld])), (hp, .inr (0, [.int a1, .int a2, .ref hw, .ref hs, .int 0])), (hw, .inl (kW, 4096, .inr (.inl u38_fw))), (hst, .inr (2, [.ref ak, .ref ar, .int 0]))]) (w1 := [(hld, .inr (2, [.ref bk, .ref br, .int 0]))]) hP hD [4] [0, 1, 2, 3] rfl rfl (by decide) (by decide) hk1 hFc hP1 hD1
      have hP := hP.sub (ws' := [(hf, .inr (4, [.ref hq, .ref hp, .ref hst, .ref hld])), (hp, .inr (0, [.int a1, .int a2, .ref hw, .ref hs, .int 0])), (hw, .inl (kW, 4096, .inr (.inl u38_fw))), (hst, .inr (2, [.ref ak, .ref ar, .int 0])), (hld, .inr (2, [.ref bk, .ref br, .int 0]))]) [0, 1, 2, 3, 4] rfl
      have hD := hD.sub (ws' := [(hf, .inr (4, [.ref hq, .ref hp, .ref hst, .ref hld])), (hp, .inr (0, [.int a1, .int a2, .ref hw, .ref hs, .int 0])), (hw, .inl (kW, 4096, .inr (.inl u38_fw))), (hst, .inr (2, [.ref ak, .ref ar, .int 0])), (hld, .inr (2, [.ref bk, .ref br, .int 0]))]) [0, 1, 2, 3, 4] (by decide) rfl
      clear hPc hKc hDc hFc ht hvm hz1 hk1 hP1 hD1 hK1
      have hpost : (1 ≤ w ∧ w ≤ 512 ∧ 1 ≤ h ∧ h ≤ 512) ∧ ∀ i : Nat, i < 4096 → u38_fw i = 0 := by
        exact ⟨by omega, h38⟩
      have hP9 := hP.sub (ws' := [(hf, .inr (4, [.ref hq, .ref hp, .ref hst, .ref hld])), (hp, .inr (0, [.int a1, .int a2, .ref hw, .ref hs, .int 0])), (hw, .inl (kW, 4096, .inr (.inl u38_fw))), (hst, .inr (2, [.ref ak, .ref ar, .int 0])), (hld, .inr (2, [.ref bk, .ref br, .int 0]))]) [0, 1, 2, 3, 4] rfl
      have hD9 := hD.sub (ws' := [(hf, .inr (4, [.ref hq, .ref hp, .ref hst, .ref hld])), (hp, .inr (0, [.int a1, .int a2, .ref hw, .ref hs, .int 0])), (hw, .inl (kW, 4096, .inr (.inl u38_fw))), (hst, .inr (2, [.ref ak, .ref ar, .int 0])), (hld, .inr (2, [.ref bk, .ref br, .int 0]))]) [0, 1, 2, 3, 4] (by decide) rfl
      have hK9 := hK.sub (tys' := [(kW, .long)]) [0] rfl
      refine W.widen (k := 1) (n := 6) (by decide) (by decide) ?_
      refine vx_ret ?_
      exact W.vret hx hb hr (fun t ht hW => ⟨⟨u38_fw, rfl, hpost, by rw [ht]; exact hP9, va_K.moved hW.alike hK9, hD9⟩, hS.F ht⟩) hS.2.2 d_PF_sheet_55
    · skip
      have c19 : ¬ ((1 : Int) ≤ h ∧ h ≤ 512) := bi_z h16 c19
      have hpx : ¬ (1 ≤ w ∧ w ≤ 512 ∧ 1 ≤ h ∧ h ≤ 512) := by omega
      obtain ⟨sa, hstr⟩ := hTr (38, "width and height are 1 .. 512") (List.mem_of_getElem? (i := 0) rfl)
      exact vx_throwS (own := R_PF) (cls := R_IAE) (names := supsX) (A := A) hx hb hl9 hown (by decide) (by decide) (hts _ wd_182) (hts _ wd_9) hstr (hat_iae hts hTx) hg_iae hTz.1 hTz.2 hS (by rw [hml]; exact hl.1) d_PF_sheet_22 d_PF_sheet_25 d_PF_sheet_26 d_PF_sheet_28 d_PF_sheet_31 (fun x hx9 => (hex x hx9).elim) (Nat.le_of_ble_eq_true rfl) (Nat.le_of_ble_eq_true rfl) (Nat.le_of_ble_eq_true rfl) (Nat.le_of_ble_eq_true rfl) hlocks (xE_of hP hK hD hS hpx) hS.2.2 (Nat.le_of_ble_eq_true rfl) (Nat.le_of_ble_eq_true rfl)

set_option maxHeartbeats 4000000 in
set_option maxRecDepth 100000 in
theorem c_fill (l : Launch) (dC : Nat → ClassId) (dI : Nat → Nat → Nat) (sz : Nat) (hl9 : l.stackTraces = false) (hf hq hst hld : Nat) (hp hw hs : Nat) (kW kS : ClassId) (pw ph psr : Int32) (fw : Nat → Int64) (fs : Nat → Int32) (Wd Ht : Int) (D : Int → Int → Bool) (hpw : pw.toInt = Wd) (hph : ph.toInt = Ht) (hW1 : 1 ≤ Wd) (hW2 : Wd ≤ 512) (hH1 : 1 ≤ Ht) (hH2 : Ht ≤ 512) (hbits : bOK fw D) (hsup : ∀ x y, D x y = true → 0 ≤ x ∧ x < Wd ∧ 0 ≤ y ∧ y < Ht) (SR : Int) (hsr : psr.toInt = SR) (hsr0 : 0 ≤ SR) (hsr1 : SR ≤ Ht) (hsk : sK fs D Wd SR) (a1 a2 a3 a4 a5 : Int32) (x y w h : Int) (ib : Bool) (g1 : a1.toInt = x) (g2 : a2.toInt = y) (g3 : a3.toInt = w) (g4 : a4.toInt = h) (g5 : a5 = zb ib) : vx_Met l y_PF_fill (.code y_PF_fill b_PF_fill 6 (some .int) :: allw) ({ frames := 6, cells := 1, slots := 6, locals := 100 }) (va_Pc [.ref hf, .int a1, .int a2, .int a3, .int a4, .int a5] (tB (dC, dI) vwCl [(hf, .inr (4, [.ref hq, .ref hp, .ref hst, .ref hld])), (hp, .inr (0, [.int pw, .int ph, .ref hw, .ref hs, .int psr])), (hw, .inl (kW, 4096, .inr (.inl fw))), (hs, .inl (kS, 263169, .inl fs))] [(kW, .long), (kS, .int)] sz R_IAE [(56, "w and h are 1 .. 512")])) (va_Qi (fun (r : Int32) (u : (Nat → Int64) × Int32) => (1 ≤ w ∧ w ≤ 512 ∧ 1 ≤ h ∧ h ≤ 512) ∧ r.toInt = cI (fiN D x y w h ib) 0 0 Wd Ht ∧ bOK u.1 (pF D (fiE D x y w h ib) 0 0 Wd Ht 0) ∧ 0 ≤ (u.2 : Int32).toInt ∧ (u.2 : Int32).toInt ≤ SR ∧ sK fs (pF D (fiE D x y w h ib) 0 0 Wd Ht 0) Wd (u.2 : Int32).toInt) (fun u t => rw_E (dC, dI) vwCl [(hf, .inr (4, [.ref hq, .ref hp, .ref hst, .ref hld])), (hp, .inr (0, [.int pw, .int ph, .ref hw, .ref hs, .int u.2])), (hw, .inl (kW, 4096, .inr (.inl u.1))), (hs, .inl (kS, 263169, .inl fs))] [(kW, .long), (kS, .int)] (va_A [(hf, .inr (4, [.ref hq, .ref hp, .ref hst, .ref hld])), (hp, .inr (0, [.int pw, .int ph, .ref hw, .ref hs, .int psr])), (hw, .inl (kW, 4096, .inr (.inl fw))), (hs, .inl (kS, 263169, .inl fs))] sz) t) (va_A [(hf, .inr (4, [.ref hq, .ref hp, .ref hst, .ref hld])), (hp, .inr (0, [.int pw, .int ph, .ref hw, .ref hs, .int psr])), (hw, .inl (kW, 4096, .inr (.inl fw))), (hs, .inl (kS, 263169, .inl fs))] sz)) (xE (dC, dI) vwCl [(hf, .inr (4, [.ref hq, .ref hp, .ref hst, .ref hld])), (hp, .inr (0, [.int pw, .int ph, .ref hw, .ref hs, .int psr])), (hw, .inl (kW, 4096, .inr (.inl fw))), (hs, .inl (kS, 263169, .inl fs))] [(kW, .long), (kS, .int)] (va_A [(hf, .inr (4, [.ref hq, .ref hp, .ref hst, .ref hld])), (hp, .inr (0, [.int pw, .int ph, .ref hw, .ref hs, .int psr])), (hw, .inl (kW, 4096, .inr (.inl fw))), (hs, .inl (kS, 263169, .inl fs))] sz) R_IAE (¬ (1 ≤ w ∧ w ≤ 512 ∧ 1 ≤ h ∧ h ≤ 512))) 1 6 (va_A [(hf, .inr (4, [.ref hq, .ref hp, .ref hst, .ref hld])), (hp, .inr (0, [.int pw, .int ph, .ref hw, .ref hs, .int psr])), (hw, .inl (kW, 4096, .inr (.inl fw))), (hs, .inl (kS, 263169, .inl fs))] sz) := by
  refine vx_ofW (cc := b_PF_fill) (maxL := 6) (ret := (some .int)) (by decide) rfl ?_
  intro p e s m args below meth c s₁ B hml hex hv
  obtain ⟨rfl, ⟨hsz, hP, hK, hD0⟩, hTx, hTr, hTz⟩ := hv
  have hx := B.exec
  have hb := B.bytes
  have hr := B.returns
  have hts : ∀ w ∈ allw, w.before _ s = true := fun w h => atoms_spec (ws := .code y_PF_fill b_PF_fill 6 (some .int) :: allw) B.pre w (List.mem_cons_of_mem _ h)
  have hown : s.vm.findClass R_PF = some m.cls := findClass_of_methodNamed B.named
  have hlocks := B.notSynchronized
  subst hsz
  have hD := hD0.self (sz := s.heap.size)
  generalize hAe : va_A [(hf, .inr (4, [.ref hq, .ref hp, .ref hst, .ref hld])), (hp, .inr (0, [.int pw, .int ph, .ref hw, .ref hs, .int psr])), (hw, .inl (kW, 4096, .inr (.inl fw))), (hs, .inl (kS, 263169, .inl fs))] s.heap.size = A at hD hTz ⊢
  have hA : ∀ q : Nat, s.heap.size ≤ q → A q := fun q h => by rw [← hAe]; exact Or.inr h
  have hS : va_S A s.heap s.heap [] := va_S.rf
  have hP : va_P (dC, dI) vwCl [(hf, .inr (4, [.ref hq, .ref hp, .ref hst, .ref hld])), (hp, .inr (0, [.int pw, .int ph, .ref hw, .ref hs, .int psr])), (hw, .inl (kW, 4096, .inr (.inl fw))), (hs, .inl (kS, 263169, .inl fs))] s.heap := hP
  have hl := lv_entry ([.ref hf, .int a1, .int a2, .int a3, .int a4, .int a5]) (n := 6) (Nat.le_of_ble_eq_true rfl)
  rw [lg_entry_eq]
  generalize (lg_sl ([.ref hf, .int a1, .int a2, .int a3, .int a4, .int a5]) ++ List.replicate (6 - (lg_sl ([.ref hf, .int a1, .int a2, .int a3, .int a4, .int a5])).length) Slot.unset).toArray = ls at hl ⊢
  have hl : lv_has ls 6 [(0, .ref hf), (1, .int a1), (2, .int a2), (3, .int a3), (4, .int a4), (5, .int a5)] := hl
  refine lv_iload_n hx hb d_PF_fill_0 rfl (lv_at hl 3 rfl) ?_
  refine lv_iconst (v := 1) hx hb d_PF_fill_1 (by decide) ?_
  refine lv_sipush (v := 512) hx hb d_PF_fill_2 (by decide) ?_
  have hPc := hP.sub (ws' := []) [] rfl
  have hKc := hK.sub (tys' := []) [] rfl
  refine va_calli (va_runS (As := [.int a3, .int 1, .int 512]) (rest := []) ⟨hx, hb, hml, hown, hts⟩ (c_isWithin l dC dI a3 1 512 w 1 512 g3 (ti_k (by decide)) (ti_k (by decide))) (aw_S 3 hts wd_179 wd_180 wd_1 wd_181 rfl rfl (by decide +kernel) ⟨Nat.le_of_ble_eq_true rfl, Nat.le_of_ble_eq_true rfl⟩) ⟨ro_blind, ro_pre hPc hKc⟩ rfl rfl hl.1 rfl (lv_room (Nat.le_of_ble_eq_true rfl)) d_PF_fill_5 ⟨Nat.le_of_ble_eq_true rfl, Nat.le_of_ble_eq_true rfl⟩) hS (fun q _ h => h.elim) (fun q h => h.elim) (fun v5 _ t9 H5 locs ht hvm h5 hB hz1 hk1 hS => ?_)
  have hP := ro_keep hP hk1
  clear hPc hKc ht hvm hB hz1 hk1
  refine lv_if_eq (tgt := 23) hx hb d_PF_fill_8 (by decide) (fun c8 => ?_) (fun c8 => ?_)
  · skip
    have c8 : ¬ ((1 : Int) ≤ w ∧ w ≤ 512) := bi_z h5 c8
    have hpx : ¬ (1 ≤ w ∧ w ≤ 512 ∧ 1 ≤ h ∧ h ≤ 512) := by omega
    obtain ⟨sa, hstr⟩ := hTr (56, "w and h are 1 .. 512") (List.mem_of_getElem? (i := 0) rfl)
    exact vx_throwS (own := R_PF) (cls := R_IAE) (names := supsX) (A := A) hx hb hl9 hown (by decide) (by decide) (hts _ wd_182) (hts _ wd_9) hstr (hat_iae hts hTx) hg_iae hTz.1 hTz.2 hS (by rw [hml]; exact hl.1) d_PF_fill_23 d_PF_fill_26 d_PF_fill_27 d_PF_fill_29 d_PF_fill_32 (fun x hx9 => (hex x hx9).elim) (Nat.le_of_ble_eq_true rfl) (Nat.le_of_ble_eq_true rfl) (Nat.le_of_ble_eq_true rfl) (Nat.le_of_ble_eq_true rfl) hlocks (xE_of hP hK hD hS hpx) hS.2.2 (Nat.le_of_ble_eq_true rfl) (Nat.le_of_ble_eq_true rfl)
  · skip
    have c8 : (1 : Int) ≤ w ∧ w ≤ 512 := bi_nz h5 c8
    refine lv_iload hx hb d_PF_fill_11 (lv_at hl 4 rfl) ?_
    refine lv_iconst (v := 1) hx hb d_PF_fill_13 (by decide) ?_
    refine lv_sipush (v := 512) hx hb d_PF_fill_14 (by decide) ?_
    have hPc := hP.sub (ws' := []) [] rfl
    have hKc := hK.sub (tys' := []) [] rfl
    refine va_calli (va_runS (As := [.int a4, .int 1, .int 512]) (rest := []) ⟨hx, hb, hml, hown, hts⟩ (c_isWithin l dC dI a4 1 512 h 1 512 g4 (ti_k (by decide)) (ti_k (by decide))) (aw_S 3 hts wd_179 wd_180 wd_1 wd_181 rfl rfl (by decide +kernel) ⟨Nat.le_of_ble_eq_true rfl, Nat.le_of_ble_eq_true rfl⟩) ⟨ro_blind, ro_pre hPc hKc⟩ rfl rfl hl.1 rfl (lv_room (Nat.le_of_ble_eq_true rfl)) d_PF_fill_17 ⟨Nat.le_of_ble_eq_true rfl, Nat.le_of_ble_eq_true rfl⟩) hS (fun q _ h => h.elim) (fun q h => h.elim) (fun v17 _ t9 H17 locs ht hvm h17 hB hz1 hk1 hS => ?_)
    have hP := ro_keep hP hk1
    clear hPc hKc ht hvm hB hz1 hk1
    refine lv_if_ne (tgt := 33) hx hb d_PF_fill_20 (by decide) (fun c20 => ?_) (fun c20 => ?_)
    · skip
      have c20 : (1 : Int) ≤ h ∧ h ≤ 512 := bi_nz h17 c20
      refine lv_aload_n hx hb d_PF_fill_33 rfl (lv_at hl 0 rfl) ?_
      refine va_get (D := (dC, dI)) (ci := 4) (v := .ref hp) (C := R_PF) (T := T_PF) (N := 4) hx hb hts i_PF hown hK hP 0 rfl rfl 1 (by decide) (hts _ wd_127) (fun _ h9 => h9) rfl d_PF_fill_34 ?_
      refine lv_iload_n hx hb d_PF_fill_37 rfl (lv_at hl 1 rfl) ?_
      refine lv_iload_n hx hb d_PF_fill_38 rfl (lv_at hl 2 rfl) ?_
      refine lv_iload_n hx hb d_PF_fill_39 rfl (lv_at hl 3 rfl) ?_
      refine lv_iload hx hb d_PF_fill_40 (lv_at hl 4 rfl) ?_
      refine lv_iload hx hb d_PF_fill_42 (lv_at hl 5 rfl) ?_
      have hPc := hP.sub (ws' := [(hp, .inr (0, [.int pw, .int ph, .ref hw, .ref hs, .int psr])), (hw, .inl (kW, 4096, .inr (.inl fw))), (hs, .inl (kS, 263169, .inl fs))]) [1, 2, 3] rfl
      have hKc := hK.sub (tys' := [(kW, .long), (kS, .int)]) [0, 1] rfl
      have hDc := hD.sub (ws' := [(hp, .inr (0, [.int pw, .int ph, .ref hw, .ref hs, .int psr])), (hw, .inl (kW, 4096, .inr (.inl fw))), (hs, .inl (kS, 263169, .inl fs))]) [1, 2, 3] (by decide) rfl
      have hFc := va_free (wc := [(hp, .inr (0, [.int pw, .int ph, .ref hw, .ref hs, .int psr])), (hw, .inl (kW, 4096, .inr (.inl fw))), (hs, .inl (kS, 263169, .inl fs))]) hD hS hA [1, 2, 3] rfl
      refine va_calli (va_runV (As := [.int a1, .int a2, .int a3, .int a4, .int a5]) (rest := []) ⟨hx, hb, hml, hown, hts⟩ (c_paint l dC dI H17.size hp hw hs kW kS pw ph psr fw fs Wd Ht D hpw hph hW1 hW2 hH1 hH2 hbits hsup SR hsr hsr0 hsr1 hsk a1 a2 a3 a4 a5 x y w h ib g1 g2 g3 g4 g5 (by omega) (by omega) (by omega) (by omega)) (aw_V 5 hts wd_268 wd_269 wd_270 wd_3 wd_271 rfl rfl (by decide +kernel) ⟨Nat.le_of_ble_eq_true rfl, Nat.le_of_ble_eq_true rfl⟩) ⟨rw_blind, va_recv hKc hPc (ci := 0) (q0 := 0) rfl rfl, rw_pre hPc hKc hDc⟩ rfl rfl hl.1 rfl (lv_room (Nat.le_of_ble_eq_true rfl)) d_PF_fill_44 ⟨Nat.le_of_ble_eq_true rfl, Nat.le_of_ble_eq_true rfl⟩) hS (fun q _ h => hFc q h) hFc (fun v44 u t9 H44 locs ht hvm h44 hB hz1 hk1 hS => ?_)
      obtain ⟨u44_fw, u44_sr⟩ := u
      obtain ⟨hP1, hK1, hD1⟩ := hB
      rw [ht] at hP1
      try dsimp only at h44 hP1 hD1
      obtain ⟨hP, hD⟩ := va_join (wr := [(hf, .inr (4, [.ref hq, .ref hp, .ref hst, .ref hld]))]) (w1 := [(hp, .inr (0, [.int pw, .int ph, .ref hw, .ref hs, .int u44_sr])), (hw, .inl (kW, 4096, .inr (.inl u44_fw))), (hs, .inl (kS, 263169, .inl fs))]) hP hD [1, 2, 3] [0] rfl rfl (by decide) (by decide) hk1 hFc hP1 hD1
      have hP := hP.sub (ws' := [(hf, .inr (4, [.ref hq, .ref hp, .ref hst, .ref hld])), (hp, .inr (0, [.int pw, .int ph, .ref hw, .ref hs, .int u44_sr])), (hw, .inl (kW, 4096, .inr (.inl u44_fw))), (hs, .inl (kS, 263169, .inl fs))]) [0, 1, 2, 3] rfl
      have hD := hD.sub (ws' := [(hf, .inr (4, [.ref hq, .ref hp, .ref hst, .ref hld])), (hp, .inr (0, [.int pw, .int ph, .ref hw, .ref hs, .int u44_sr])), (hw, .inl (kW, 4096, .inr (.inl u44_fw))), (hs, .inl (kS, 263169, .inl fs))]) [0, 1, 2, 3] (by decide) rfl
      clear hPc hKc hDc hFc ht hvm hz1 hk1 hP1 hD1 hK1
      have hpost : (1 ≤ w ∧ w ≤ 512 ∧ 1 ≤ h ∧ h ≤ 512) ∧ (v44 : Int32).toInt = cI (fiN D x y w h ib) 0 0 Wd Ht ∧ bOK u44_fw (pF D (fiE D x y w h ib) 0 0 Wd Ht 0) ∧ 0 ≤ (u44_sr : Int32).toInt ∧ (u44_sr : Int32).toInt ≤ SR ∧ sK fs (pF D (fiE D x y w h ib) 0 0 Wd Ht 0) Wd (u44_sr : Int32).toInt := by
        exact ⟨by omega, h44⟩
      have hP9 := hP.sub (ws' := [(hf, .inr (4, [.ref hq, .ref hp, .ref hst, .ref hld])), (hp, .inr (0, [.int pw, .int ph, .ref hw, .ref hs, .int u44_sr])), (hw, .inl (kW, 4096, .inr (.inl u44_fw))), (hs, .inl (kS, 263169, .inl fs))]) [0, 1, 2, 3] rfl
      have hD9 := hD.sub (ws' := [(hf, .inr (4, [.ref hq, .ref hp, .ref hst, .ref hld])), (hp, .inr (0, [.int pw, .int ph, .ref hw, .ref hs, .int u44_sr])), (hw, .inl (kW, 4096, .inr (.inl u44_fw))), (hs, .inl (kS, 263169, .inl fs))]) [0, 1, 2, 3] (by decide) rfl
      have hK9 := hK.sub (tys' := [(kW, .long), (kS, .int)]) [0, 1] rfl
      refine W.widen (k := 1) (n := 6) (by decide) (by decide) ?_
      refine vx_ret ?_
      exact W.iret (v := v44) hx hb hr (fun t ht hW => ⟨⟨v44, (u44_fw, u44_sr), rfl, hpost, by rw [ht]; exact hP9, va_K.moved hW.alike hK9, hD9⟩, hS.F ht⟩) hS.2.2 d_PF_fill_47
    · skip
      have c20 : ¬ ((1 : Int) ≤ h ∧ h ≤ 512) := bi_z h17 c20
      have hpx : ¬ (1 ≤ w ∧ w ≤ 512 ∧ 1 ≤ h ∧ h ≤ 512) := by omega
      obtain ⟨sa, hstr⟩ := hTr (56, "w and h are 1 .. 512") (List.mem_of_getElem? (i := 0) rfl)
      exact vx_throwS (own := R_PF) (cls := R_IAE) (names := supsX) (A := A) hx hb hl9 hown (by decide) (by decide) (hts _ wd_182) (hts _ wd_9) hstr (hat_iae hts hTx) hg_iae hTz.1 hTz.2 hS (by rw [hml]; exact hl.1) d_PF_fill_23 d_PF_fill_26 d_PF_fill_27 d_PF_fill_29 d_PF_fill_32 (fun x hx9 => (hex x hx9).elim) (Nat.le_of_ble_eq_true rfl) (Nat.le_of_ble_eq_true rfl) (Nat.le_of_ble_eq_true rfl) (Nat.le_of_ble_eq_true rfl) hlocks (xE_of hP hK hD hS hpx) hS.2.2 (Nat.le_of_ble_eq_true rfl) (Nat.le_of_ble_eq_true rfl)
