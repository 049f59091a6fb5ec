set_option maxHeartbeats 4000000 in
set_option maxRecDepth 100000 in
theorem c_draw (l : Launch) (dC : Nat → ClassId) (dI : Nat → Nat → Nat) (sz : Nat) (hl9 : l.stackTraces = false) (hf hq hst hld : Nat) (hp hw hs : Nat) (kW kS : ClassId) (pw ph psr : Int32) (fw : Nat → Int64) (fs : Nat → Int32) (Wd Ht : Int) (D : Int → Int → Bool) (hpw : pw.toInt = Wd) (hph : ph.toInt = Ht) (hW1 : 1 ≤ Wd) (hW2 : Wd ≤ 512) (hH1 : 1 ≤ Ht) (hH2 : Ht ≤ 512) (hbits : bOK fw D) (hsup : ∀ x y, D x y = true → 0 ≤ x ∧ x < Wd ∧ 0 ≤ y ∧ y < Ht) (SR : Int) (hsr : psr.toInt = SR) (hsr0 : 0 ≤ SR) (hsr1 : SR ≤ Ht) (hsk : sK fs D Wd SR) (a1 a2 a3 : Int32) (x y PL : Int) (g1 : a1.toInt = x) (g2 : a2.toInt = y) (g3 : a3.toInt = PL) : vx_Met l y_PF_draw (.code y_PF_draw b_PF_draw 7 (some .int) :: allw) ({ frames := 6, cells := 1, slots := 6, locals := 161 }) (va_Pc [.ref hf, .int a1, .int a2, .int a3] (tB (dC, dI) vwCl [(hf, .inr (4, [.ref hq, .ref hp, .ref hst, .ref hld])), (hp, .inr (0, [.int pw, .int ph, .ref hw, .ref hs, .int psr])), (hw, .inl (kW, 4096, .inr (.inl fw))), (hs, .inl (kS, 263169, .inl fs))] [(kW, .long), (kS, .int)] sz R_IAE [(62, "place has bits above those of m"), (73, "m is 1 .. 16 and v 1 .. 40"), (85, "the place lies not on the sheet")])) (va_Qi (fun (r : Int32) (u : (Nat → Int64) × Int32) => (drOK Wd Ht x y PL) ∧ r.toInt = DW D x y (PL / 256 % 32) (17 + 4 * (PL / 4 % 64)) (PL % 4) ∧ bOK u.1 (dP D x y (PL / 256 % 32) (17 + 4 * (PL / 4 % 64)) (PL % 4) (fxd (17 + 4 * (PL / 4 % 64)))) ∧ 0 ≤ (u.2 : Int32).toInt ∧ (u.2 : Int32).toInt ≤ SR ∧ sK fs (dP D x y (PL / 256 % 32) (17 + 4 * (PL / 4 % 64)) (PL % 4) (fxd (17 + 4 * (PL / 4 % 64)))) Wd (u.2 : Int32).toInt) (fun u t => rw_E (dC, dI) vwCl [(hf, .inr (4, [.ref hq, .ref hp, .ref hst, .ref hld])), (hp, .inr (0, [.int pw, .int ph, .ref hw, .ref hs, .int u.2])), (hw, .inl (kW, 4096, .inr (.inl u.1))), (hs, .inl (kS, 263169, .inl fs))] [(kW, .long), (kS, .int)] (va_A [(hf, .inr (4, [.ref hq, .ref hp, .ref hst, .ref hld])), (hp, .inr (0, [.int pw, .int ph, .ref hw, .ref hs, .int psr])), (hw, .inl (kW, 4096, .inr (.inl fw))), (hs, .inl (kS, 263169, .inl fs))] sz) t) (va_A [(hf, .inr (4, [.ref hq, .ref hp, .ref hst, .ref hld])), (hp, .inr (0, [.int pw, .int ph, .ref hw, .ref hs, .int psr])), (hw, .inl (kW, 4096, .inr (.inl fw))), (hs, .inl (kS, 263169, .inl fs))] sz)) (xE (dC, dI) vwCl [(hf, .inr (4, [.ref hq, .ref hp, .ref hst, .ref hld])), (hp, .inr (0, [.int pw, .int ph, .ref hw, .ref hs, .int psr])), (hw, .inl (kW, 4096, .inr (.inl fw))), (hs, .inl (kS, 263169, .inl fs))] [(kW, .long), (kS, .int)] (va_A [(hf, .inr (4, [.ref hq, .ref hp, .ref hst, .ref hld])), (hp, .inr (0, [.int pw, .int ph, .ref hw, .ref hs, .int psr])), (hw, .inl (kW, 4096, .inr (.inl fw))), (hs, .inl (kS, 263169, .inl fs))] sz) R_IAE (¬ drOK Wd Ht x y PL)) 1 6 (va_A [(hf, .inr (4, [.ref hq, .ref hp, .ref hst, .ref hld])), (hp, .inr (0, [.int pw, .int ph, .ref hw, .ref hs, .int psr])), (hw, .inl (kW, 4096, .inr (.inl fw))), (hs, .inl (kS, 263169, .inl fs))] sz) := by
  refine vx_ofW (cc := b_PF_draw) (maxL := 7) (ret := (some .int)) (by decide) rfl ?_
  intro p e s m args below meth c s₁ B hml hex hv
  obtain ⟨rfl, ⟨hsz, hP, hK, hD0⟩, hTx, hTr, hTz⟩ := hv
  have hx := B.exec
  have hb := B.bytes
  have hr := B.returns
  have hts : ∀ w ∈ allw, w.before _ s = true := fun w h => atoms_spec (ws := .code y_PF_draw b_PF_draw 7 (some .int) :: allw) B.pre w (List.mem_cons_of_mem _ h)
  have hown : s.vm.findClass R_PF = some m.cls := findClass_of_methodNamed B.named
  have hlocks := B.notSynchronized
  subst hsz
  have hD := hD0.self (sz := s.heap.size)
  generalize hAe : va_A [(hf, .inr (4, [.ref hq, .ref hp, .ref hst, .ref hld])), (hp, .inr (0, [.int pw, .int ph, .ref hw, .ref hs, .int psr])), (hw, .inl (kW, 4096, .inr (.inl fw))), (hs, .inl (kS, 263169, .inl fs))] s.heap.size = A at hD hTz ⊢
  have hA : ∀ q : Nat, s.heap.size ≤ q → A q := fun q h => by rw [← hAe]; exact Or.inr h
  have hS : va_S A s.heap s.heap [] := va_S.rf
  have hP : va_P (dC, dI) vwCl [(hf, .inr (4, [.ref hq, .ref hp, .ref hst, .ref hld])), (hp, .inr (0, [.int pw, .int ph, .ref hw, .ref hs, .int psr])), (hw, .inl (kW, 4096, .inr (.inl fw))), (hs, .inl (kS, 263169, .inl fs))] s.heap := hP
  have hl := lv_entry ([.ref hf, .int a1, .int a2, .int a3]) (n := 7) (Nat.le_of_ble_eq_true rfl)
  rw [lg_entry_eq]
  generalize (lg_sl ([.ref hf, .int a1, .int a2, .int a3]) ++ List.replicate (7 - (lg_sl ([.ref hf, .int a1, .int a2, .int a3])).length) Slot.unset).toArray = ls at hl ⊢
  have hl : lv_has ls 7 [(0, .ref hf), (1, .int a1), (2, .int a2), (3, .int a3)] := hl
  refine lv_iload_n hx hb d_PF_draw_0 rfl (lv_at hl 3 rfl) ?_
  refine lv_bipush (v := 13) hx hb d_PF_draw_1 (by decide) ?_
  refine lv_iushr hx hb d_PF_draw_3 rfl ?_
  refine lv_topi (fun v3 e3 => ?_)
  refine lv_if_eq (tgt := 17) hx hb d_PF_draw_4 (by decide) (fun c4 => ?_) (fun c4 => ?_)
  · skip
    have b4 := (us13 g3 e3).mp c4
    refine lv_iload_n hx hb d_PF_draw_17 rfl (lv_at hl 3 rfl) ?_
    have hPc := hP.sub (ws' := []) [] rfl
    have hKc := hK.sub (tys' := []) [] rfl
    refine va_calli (va_runS (As := [.int a3]) (rest := []) ⟨hx, hb, hml, hown, hts⟩ (c_moduleOf l dC dI a3 PL g3 (by omega)) (aw_S 1 hts wd_289 wd_290 wd_13 wd_291 rfl rfl (by decide +kernel) ⟨Nat.le_of_ble_eq_true rfl, Nat.le_of_ble_eq_true rfl⟩) ⟨ro_blind, ro_pre hPc hKc⟩ rfl rfl hl.1 rfl (lv_room (Nat.le_of_ble_eq_true rfl)) d_PF_draw_18 ⟨Nat.le_of_ble_eq_true rfl, Nat.le_of_ble_eq_true rfl⟩) hS (fun q _ h => h.elim) (fun q h => h.elim) (fun v18 _ t9 H18 locs ht hvm h18 hB hz1 hk1 hS => ?_)
    have hP := ro_keep hP hk1
    clear hPc hKc ht hvm hB hz1 hk1
    refine lv_istore (lv' := [(4, .int v18), (0, .ref hf), (1, .int a1), (2, .int a2), (3, .int a3)]) hx hb d_PF_draw_21 hl (by decide) rfl (fun ls hl => ?_)
    refine lv_iload_n hx hb d_PF_draw_23 rfl (lv_at hl 4 rfl) ?_
    have hPc := hP.sub (ws' := []) [] rfl
    have hKc := hK.sub (tys' := []) [] rfl
    refine va_calli (va_runS (As := [.int a3]) (rest := []) ⟨hx, hb, hml, hown, hts⟩ (c_versionOf l dC dI a3 PL g3 (by omega)) (aw_S 1 hts wd_292 wd_293 wd_13 wd_294 rfl rfl (by decide +kernel) ⟨Nat.le_of_ble_eq_true rfl, Nat.le_of_ble_eq_true rfl⟩) ⟨ro_blind, ro_pre hPc hKc⟩ rfl rfl hl.1 rfl (lv_room (Nat.le_of_ble_eq_true rfl)) d_PF_draw_24 ⟨Nat.le_of_ble_eq_true rfl, Nat.le_of_ble_eq_true rfl⟩) hS (fun q _ h => h.elim) (fun q h => h.elim) (fun v24 _ t9 H24 locs ht hvm h24 hB hz1 hk1 hS => ?_)
    have hP := ro_keep hP hk1
    clear hPc hKc ht hvm hB hz1 hk1
    refine lv_istore (lv' := [(5, .int v24), (4, .int v18), (0, .ref hf), (1, .int a1), (2, .int a2), (3, .int a3)]) hx hb d_PF_draw_27 hl (by decide) rfl (fun ls hl => ?_)
    refine lv_iload hx hb d_PF_draw_29 (lv_at hl 1 rfl) ?_
    refine lv_iconst (v := 1) hx hb d_PF_draw_31 (by decide) ?_
    refine lv_bipush (v := 16) hx hb d_PF_draw_32 (by decide) ?_
    have hPc := hP.sub (ws' := []) [] rfl
    have hKc := hK.sub (tys' := []) [] rfl
    refine va_calli (va_runS (As := [.int v18, .int 1, .int 16]) (rest := []) ⟨hx, hb, hml, hown, hts⟩ (c_isWithin l dC dI v18 1 16 (PL / 256 % 32) 1 16 h18 (ti_k (by decide)) (ti_k (by decide))) (aw_S 3 hts wd_179 wd_180 wd_1 wd_181 rfl rfl (by decide +kernel) ⟨Nat.le_of_ble_eq_true rfl, Nat.le_of_ble_eq_true rfl⟩) ⟨ro_blind, ro_pre hPc hKc⟩ rfl rfl hl.1 rfl (lv_room (Nat.le_of_ble_eq_true rfl)) d_PF_draw_34 ⟨Nat.le_of_ble_eq_true rfl, Nat.le_of_ble_eq_true rfl⟩) hS (fun q _ h => h.elim) (fun q h => h.elim) (fun v34 _ t9 H34 locs ht hvm h34 hB hz1 hk1 hS => ?_)
    have hP := ro_keep hP hk1
    clear hPc hKc ht hvm hB hz1 hk1
    refine lv_if_eq (tgt := 51) hx hb d_PF_draw_37 (by decide) (fun c37 => ?_) (fun c37 => ?_)
    · skip
      have c37 : ¬ ((1 : Int) ≤ (PL / 256 % 32) ∧ (PL / 256 % 32) ≤ 16) := bi_z h34 c37
      have hpx : ¬ drOK Wd Ht x y PL := by unfold drOK; omega
      obtain ⟨sa, hstr⟩ := hTr (73, "m is 1 .. 16 and v 1 .. 40") (List.mem_of_getElem? (i := 1) rfl)
      exact vx_throwS (own := R_PF) (cls := R_IAE) (names := supsX) (A := A) hx hb hl9 hown (by decide) (by decide) (hts _ wd_182) (hts _ wd_9) hstr (hat_iae hts hTx) hg_iae hTz.1 hTz.2 hS (by rw [hml]; exact hl.1) d_PF_draw_51 d_PF_draw_54 d_PF_draw_55 d_PF_draw_57 d_PF_draw_60 (fun x hx9 => (hex x hx9).elim) (Nat.le_of_ble_eq_true rfl) (Nat.le_of_ble_eq_true rfl) (Nat.le_of_ble_eq_true rfl) (Nat.le_of_ble_eq_true rfl) hlocks (xE_of hP hK hD hS hpx) hS.2.2 (Nat.le_of_ble_eq_true rfl) (Nat.le_of_ble_eq_true rfl)
    · skip
      have c37 : (1 : Int) ≤ (PL / 256 % 32) ∧ (PL / 256 % 32) ≤ 16 := bi_nz h34 c37
      refine lv_iload hx hb d_PF_draw_40 (lv_at hl 0 rfl) ?_
      refine lv_iconst (v := 1) hx hb d_PF_draw_42 (by decide) ?_
      refine lv_bipush (v := 40) hx hb d_PF_draw_43 (by decide) ?_
      have hPc := hP.sub (ws' := []) [] rfl
      have hKc := hK.sub (tys' := []) [] rfl
      refine va_calli (va_runS (As := [.int v24, .int 1, .int 40]) (rest := []) ⟨hx, hb, hml, hown, hts⟩ (c_isWithin l dC dI v24 1 40 (PL / 4 % 64) 1 40 h24 (ti_k (by decide)) (ti_k (by decide))) (aw_S 3 hts wd_179 wd_180 wd_1 wd_181 rfl rfl (by decide +kernel) ⟨Nat.le_of_ble_eq_true rfl, Nat.le_of_ble_eq_true rfl⟩) ⟨ro_blind, ro_pre hPc hKc⟩ rfl rfl hl.1 rfl (lv_room (Nat.le_of_ble_eq_true rfl)) d_PF_draw_45 ⟨Nat.le_of_ble_eq_true rfl, Nat.le_of_ble_eq_true rfl⟩) hS (fun q _ h => h.elim) (fun q h => h.elim) (fun v45 _ t9 H45 locs ht hvm h45 hB hz1 hk1 hS => ?_)
      have hP := ro_keep hP hk1
      clear hPc hKc ht hvm hB hz1 hk1
      refine lv_if_ne (tgt := 61) hx hb d_PF_draw_48 (by decide) (fun c48 => ?_) (fun c48 => ?_)
      · skip
        have c48 : (1 : Int) ≤ (PL / 4 % 64) ∧ (PL / 4 % 64) ≤ 40 := bi_nz h45 c48
        have mL := mul_b2 (a := PL / 256 % 32) (b := 17 + 4 * (PL / 4 % 64)) (p := 16) (q := 177) (by omega) (by omega) (by omega) (by omega)
        have mL0 := Int.mul_nonneg (show 0 ≤ PL / 256 % 32 by omega) (show 0 ≤ 17 + 4 * (PL / 4 % 64) by omega)
        refine lv_iload hx hb d_PF_draw_61 (lv_at hl 1 rfl) ?_
        refine lv_iload hx hb d_PF_draw_63 (lv_at hl 0 rfl) ?_
        have hPc := hP.sub (ws' := []) [] rfl
        have hKc := hK.sub (tys' := []) [] rfl
        refine va_calli (va_runS (As := [.int v24]) (rest := [.int v18]) ⟨hx, hb, hml, hown, hts⟩ (c_sizeOf l dC dI v24 (PL / 4 % 64) h24 (by omega) (by omega)) (aw_S 1 hts wd_296 wd_297 wd_13 wd_298 rfl rfl (by decide +kernel) ⟨Nat.le_of_ble_eq_true rfl, Nat.le_of_ble_eq_true rfl⟩) ⟨ro_blind, ro_pre hPc hKc⟩ rfl rfl hl.1 rfl (lv_room (Nat.le_of_ble_eq_true rfl)) d_PF_draw_65 ⟨Nat.le_of_ble_eq_true rfl, Nat.le_of_ble_eq_true rfl⟩) hS (fun q _ h => h.elim) (fun q h => h.elim) (fun v65 _ t9 H65 locs ht hvm h65 hB hz1 hk1 hS => ?_)
        have hP := ro_keep hP hk1
        clear hPc hKc ht hvm hB hz1 hk1
        refine lv_imul hx hb d_PF_draw_68 ?_
        refine lv_topi (fun v68 e68 => ?_)
        have h68 : v68.toInt = (PL / 256 % 32) * (17 + 4 * (PL / 4 % 64)) := by rw [e68]; exact ti_mul h18 h65 (by omega) (by omega)
        obtain ⟨LN, kLN⟩ : ∃ c : Int, c = ((PL / 256 % 32) * (17 + 4 * (PL / 4 % 64))) := ⟨_, rfl⟩
        have h68 : v68.toInt = LN := by rw [h68, kLN]
        refine lv_istore (lv' := [(6, .int v68), (5, .int v24), (4, .int v18), (0, .ref hf), (1, .int a1), (2, .int a2), (3, .int a3)]) hx hb d_PF_draw_69 hl (by decide) rfl (fun ls hl => ?_)
        refine lv_iload_n hx hb d_PF_draw_71 rfl (lv_at hl 4 rfl) ?_
        refine lv_iconst (v := 0) hx hb d_PF_draw_72 (by decide) ?_
        refine lv_aload_n hx hb d_PF_draw_73 rfl (lv_at hl 3 rfl) ?_
        refine va_get (D := (dC, dI)) (ci := 4) (v := .ref hp) (C := R_PF) (T := T_PF) (N := 4) hx hb hts i_PF hown hK hP 0 rfl rfl 1 (by decide) (hts _ wd_127) (fun _ h9 => h9) rfl d_PF_draw_74 ?_
        refine va_get (D := (dC, dI)) (ci := 0) (v := .int pw) (C := R_Paper) (T := T_Paper) (N := 5) hx hb hts i_Paper hown hK hP 1 rfl rfl 0 (by decide) (hts _ wd_39) (fun _ h9 => h9) rfl d_PF_draw_77 ?_
        refine lv_iload hx hb d_PF_draw_80 (lv_at hl 0 rfl) ?_
        refine lv_isub hx hb d_PF_draw_82 ?_
        refine lv_topi (fun v82 e82 => ?_)
        have h82 : v82.toInt = Wd - LN := by rw [e82]; exact ti_sub hpw h68 (by omega) (by omega)
        have hPc := hP.sub (ws' := []) [] rfl
        have hKc := hK.sub (tys' := []) [] rfl
        refine va_calli (va_runS (As := [.int a1, .int 0, .int v82]) (rest := []) ⟨hx, hb, hml, hown, hts⟩ (c_isWithin l dC dI a1 0 v82 x 0 (Wd - LN) g1 (ti_k (by decide)) h82) (aw_S 3 hts wd_179 wd_180 wd_1 wd_181 rfl rfl (by decide +kernel) ⟨Nat.le_of_ble_eq_true rfl, Nat.le_of_ble_eq_true rfl⟩) ⟨ro_blind, ro_pre hPc hKc⟩ rfl rfl hl.1 rfl (lv_room (Nat.le_of_ble_eq_true rfl)) d_PF_draw_83 ⟨Nat.le_of_ble_eq_true rfl, Nat.le_of_ble_eq_true rfl⟩) hS (fun q _ h => h.elim) (fun q h => h.elim) (fun v83 _ t9 H83 locs ht hvm h83 hB hz1 hk1 hS => ?_)
        have hP := ro_keep hP hk1
        clear hPc hKc ht hvm hB hz1 hk1
        refine lv_if_eq (tgt := 107) hx hb d_PF_draw_86 (by decide) (fun c86 => ?_) (fun c86 => ?_)
        · skip
          have c86 : ¬ ((0 : Int) ≤ x ∧ x ≤ (Wd - LN)) := bi_z h83 c86
          have hpx : ¬ drOK Wd Ht x y PL := by unfold drOK; rw [← kLN]; omega
          obtain ⟨sa, hstr⟩ := hTr (85, "the place lies not on the sheet") (List.mem_of_getElem? (i := 2) rfl)
          exact vx_throwS (own := R_PF) (cls := R_IAE) (names := supsX) (A := A) hx hb hl9 hown (by decide) (by decide) (hts _ wd_182) (hts _ wd_9) hstr (hat_iae hts hTx) hg_iae hTz.1 hTz.2 hS (by rw [hml]; exact hl.1) d_PF_draw_107 d_PF_draw_110 d_PF_draw_111 d_PF_draw_113 d_PF_draw_116 (fun x hx9 => (hex x hx9).elim) (Nat.le_of_ble_eq_true rfl) (Nat.le_of_ble_eq_true rfl) (Nat.le_of_ble_eq_true rfl) (Nat.le_of_ble_eq_true rfl) hlocks (xE_of hP hK hD hS hpx) hS.2.2 (Nat.le_of_ble_eq_true rfl) (Nat.le_of_ble_eq_true rfl)
        · skip
          have c86 : (0 : Int) ≤ x ∧ x ≤ (Wd - LN) := bi_nz h83 c86
          refine lv_iload_n hx hb d_PF_draw_89 rfl (lv_at hl 5 rfl) ?_
          refine lv_iconst (v := 0) hx hb d_PF_draw_90 (by decide) ?_
          refine lv_aload_n hx hb d_PF_draw_91 rfl (lv_at hl 3 rfl) ?_
          refine va_get (D := (dC, dI)) (ci := 4) (v := .ref hp) (C := R_PF) (T := T_PF) (N := 4) hx hb hts i_PF hown hK hP 0 rfl rfl 1 (by decide) (hts _ wd_127) (fun _ h9 => h9) rfl d_PF_draw_92 ?_
          refine va_get (D := (dC, dI)) (ci := 0) (v := .int ph) (C := R_Paper) (T := T_Paper) (N := 5) hx hb hts i_Paper hown hK hP 1 rfl rfl 1 (by decide) (hts _ wd_42) (fun _ h9 => h9) rfl d_PF_draw_95 ?_
          refine lv_iload hx hb d_PF_draw_98 (lv_at hl 0 rfl) ?_
          refine lv_isub hx hb d_PF_draw_100 ?_
          refine lv_topi (fun v100 e100 => ?_)
          have h100 : v100.toInt = Ht - LN := by rw [e100]; exact ti_sub hph h68 (by omega) (by omega)
          have hPc := hP.sub (ws' := []) [] rfl
          have hKc := hK.sub (tys' := []) [] rfl
          refine va_calli (va_runS (As := [.int a2, .int 0, .int v100]) (rest := []) ⟨hx, hb, hml, hown, hts⟩ (c_isWithin l dC dI a2 0 v100 y 0 (Ht - LN) g2 (ti_k (by decide)) h100) (aw_S 3 hts wd_179 wd_180 wd_1 wd_181 rfl rfl (by decide +kernel) ⟨Nat.le_of_ble_eq_true rfl, Nat.le_of_ble_eq_true rfl⟩) ⟨ro_blind, ro_pre hPc hKc⟩ rfl rfl hl.1 rfl (lv_room (Nat.le_of_ble_eq_true rfl)) d_PF_draw_101 ⟨Nat.le_of_ble_eq_true rfl, Nat.le_of_ble_eq_true rfl⟩) hS (fun q _ h => h.elim) (fun q h => h.elim) (fun v101 _ t9 H101 locs ht hvm h101 hB hz1 hk1 hS => ?_)
          have hP := ro_keep hP hk1
          clear hPc hKc ht hvm hB hz1 hk1
          refine lv_if_ne (tgt := 117) hx hb d_PF_draw_104 (by decide) (fun c104 => ?_) (fun c104 => ?_)
          · skip
            have c104 : (0 : Int) ≤ y ∧ y ≤ (Ht - LN) := bi_nz h101 c104
            refine lv_aload_n hx hb d_PF_draw_117 rfl (lv_at hl 3 rfl) ?_
            have mL1 := Int.mul_le_mul (show (1 : Int) ≤ PL / 256 % 32 by omega) (show (21 : Int) ≤ 17 + 4 * (PL / 4 % 64) by omega) (by omega) (by omega)
            refine va_new (ci := 1) (fs := [.int 0, .int 0, .int 0, .int 0, .int 0]) (C := R_Place) (T := T_Place) (N := 5) hx hb hts i_Place t_Place t_Place_ok hown (hts _ wd_300) (hts _ wd_301) (hts _ wd_13) hK hP hD hS hA rfl (fun j hj => by rcases (show j = 0 ∨ j = 1 ∨ j = 2 ∨ j = 3 ∨ j = 4 by omega) with rfl | rfl | rfl | rfl | rfl <;> rfl) (Nat.le_of_ble_eq_true rfl) (Nat.le_of_ble_eq_true rfl) d_PF_draw_118 (fun q118 H118 hP hD hS => ?_)
            have hP : va_P (dC, dI) vwCl [(hf, .inr (4, [.ref hq, .ref hp, .ref hst, .ref hld])), (hp, .inr (0, [.int pw, .int ph, .ref hw, .ref hs, .int psr])), (hw, .inl (kW, 4096, .inr (.inl fw))), (hs, .inl (kS, 263169, .inl fs)), (q118, .inr (1, [.int 0, .int 0, .int 0, .int 0, .int 0]))] H118 := hP
            have hD : va_D A [(hf, .inr (4, [.ref hq, .ref hp, .ref hst, .ref hld])), (hp, .inr (0, [.int pw, .int ph, .ref hw, .ref hs, .int psr])), (hw, .inl (kW, 4096, .inr (.inl fw))), (hs, .inl (kS, 263169, .inl fs)), (q118, .inr (1, [.int 0, .int 0, .int 0, .int 0, .int 0]))] := hD
            refine W.widen (k := 1) (n := 5) (by decide) (by decide) ?_
            refine lv_dup hx hb d_PF_draw_121 rfl ?_
            refine lv_iload_n hx hb d_PF_draw_122 rfl (lv_at hl 4 rfl) ?_
            refine lv_iload_n hx hb d_PF_draw_123 rfl (lv_at hl 5 rfl) ?_
            refine lv_iload_n hx hb d_PF_draw_124 rfl (lv_at hl 6 rfl) ?_
            have hPc := hP.sub (ws' := []) [] rfl
            have hKc := hK.sub (tys' := []) [] rfl
            refine va_calli (va_runS (As := [.int a1, .int a2, .int a3]) (rest := [.ref q118, .ref q118, .ref hf]) ⟨hx, hb, hml, hown, hts⟩ (c_keyOf l dC dI a1 a2 a3 x y PL g1 g2 g3 (by omega) (by omega) (by omega) (by omega) (by omega) (by omega)) (aw_S 3 hts wd_302 wd_303 wd_13 wd_304 rfl rfl (by decide +kernel) ⟨Nat.le_of_ble_eq_true rfl, Nat.le_of_ble_eq_true rfl⟩) ⟨ro_blind, ro_pre hPc hKc⟩ rfl rfl hl.1 rfl (lv_room (Nat.le_of_ble_eq_true rfl)) d_PF_draw_125 ⟨Nat.le_of_ble_eq_true rfl, Nat.le_of_ble_eq_true rfl⟩) hS (fun q _ h => h.elim) (fun q h => h.elim) (fun v125 _ t9 H125 locs ht hvm h125 hB hz1 hk1 hS => ?_)
            have hP := ro_keep hP hk1
            clear hPc hKc ht hvm hB hz1 hk1
            have hPc := hP.sub (ws' := [(q118, .inr (1, [.int 0, .int 0, .int 0, .int 0, .int 0]))]) [4] rfl
            have hKc := hK.sub (tys' := []) [] rfl
            have hDc := hD.sub (ws' := [(q118, .inr (1, [.int 0, .int 0, .int 0, .int 0, .int 0]))]) [4] (by decide) rfl
            have hFc := va_free (wc := [(q118, .inr (1, [.int 0, .int 0, .int 0, .int 0, .int 0]))]) hD hS hA [4] rfl
            refine va_callv (va_runI (As := [.int v125]) (rest := [.ref q118, .ref hf]) ⟨hx, hb, hml, hown, hts⟩ (c_initPlace l dC dI H125.size q118 0 0 0 0 0 v125 (y * 4194304 + x * 8192 + PL) h125 (by omega)) (cwI 1 hts (aw_ws wd_307) rfl rfl rfl (hts _ wd_13) (hts _ wd_305) (hts _ wd_306) rfl (by decide +kernel) ⟨Nat.le_of_ble_eq_true rfl, Nat.le_of_ble_eq_true rfl⟩) ⟨rw_blind, rw_pre hPc hKc hDc⟩ rfl rfl hl.1 rfl (lv_room (Nat.le_of_ble_eq_true rfl)) d_PF_draw_128 ⟨Nat.le_of_ble_eq_true rfl, Nat.le_of_ble_eq_true rfl⟩) hS (fun q _ h => hFc q h) hFc (fun u t9 H128 locs ht hvm h128 hB hz1 hk1 hS => ?_)
            obtain ⟨u128_l, u128_t, u128_m, u128_s, u128_q⟩ := u
            obtain ⟨hP1, hK1, hD1⟩ := hB
            rw [ht] at hP1
            try dsimp only at h128 hP1 hD1
            obtain ⟨hP, hD⟩ := va_join (wr := [(hf, .inr (4, [.ref hq, .ref hp, .ref hst, .ref hld])), (hp, .inr (0, [.int pw, .int ph, .ref hw, .ref hs, .int psr])), (hw, .inl (kW, 4096, .inr (.inl fw))), (hs, .inl (kS, 263169, .inl fs))]) (w1 := [(q118, .inr (1, [.int u128_l, .int u128_t, .int u128_m, .int u128_s, .int u128_q]))]) hP hD [4] [0, 1, 2, 3] rfl rfl (by decide) (by decide) hk1 hFc hP1 hD1
            have hP := hP.sub (ws' := [(hf, .inr (4, [.ref hq, .ref hp, .ref hst, .ref hld])), (hp, .inr (0, [.int pw, .int ph, .ref hw, .ref hs, .int psr])), (hw, .inl (kW, 4096, .inr (.inl fw))), (hs, .inl (kS, 263169, .inl fs)), (q118, .inr (1, [.int u128_l, .int u128_t, .int u128_m, .int u128_s, .int u128_q]))]) [0, 1, 2, 3, 4] rfl
            have hD := hD.sub (ws' := [(hf, .inr (4, [.ref hq, .ref hp, .ref hst, .ref hld])), (hp, .inr (0, [.int pw, .int ph, .ref hw, .ref hs, .int psr])), (hw, .inl (kW, 4096, .inr (.inl fw))), (hs, .inl (kS, 263169, .inl fs)), (q118, .inr (1, [.int u128_l, .int u128_t, .int u128_m, .int u128_s, .int u128_q]))]) [0, 1, 2, 3, 4] (by decide) rfl
            clear hPc hKc hDc hFc ht hvm hz1 hk1 hP1 hD1 hK1
            obtain ⟨y1, y2, y3, y4, y5⟩ := h128
            have f1 : u128_l.toInt = x := by omega
            have f2 : u128_t.toInt = y := by omega
            have f3 : u128_m.toInt = PL / 256 % 32 := by omega
            have f4 : u128_s.toInt = 17 + 4 * (PL / 4 % 64) := by omega
            have f5 : u128_q.toInt = PL % 4 := by omega
            have hPc := hP.sub (ws' := [(hf, .inr (4, [.ref hq, .ref hp, .ref hst, .ref hld])), (q118, .inr (1, [.int u128_l, .int u128_t, .int u128_m, .int u128_s, .int u128_q])), (hp, .inr (0, [.int pw, .int ph, .ref hw, .ref hs, .int psr])), (hw, .inl (kW, 4096, .inr (.inl fw))), (hs, .inl (kS, 263169, .inl fs))]) [0, 4, 1, 2, 3] rfl
            have hKc := hK.sub (tys' := [(kW, .long), (kS, .int)]) [0, 1] rfl
            have hDc := hD.sub (ws' := [(hf, .inr (4, [.ref hq, .ref hp, .ref hst, .ref hld])), (q118, .inr (1, [.int u128_l, .int u128_t, .int u128_m, .int u128_s, .int u128_q])), (hp, .inr (0, [.int pw, .int ph, .ref hw, .ref hs, .int psr])), (hw, .inl (kW, 4096, .inr (.inl fw))), (hs, .inl (kS, 263169, .inl fs))]) [0, 4, 1, 2, 3] (by decide) rfl
            have hFc := va_free (wc := [(hf, .inr (4, [.ref hq, .ref hp, .ref hst, .ref hld])), (q118, .inr (1, [.int u128_l, .int u128_t, .int u128_m, .int u128_s, .int u128_q])), (hp, .inr (0, [.int pw, .int ph, .ref hw, .ref hs, .int psr])), (hw, .inl (kW, 4096, .inr (.inl fw))), (hs, .inl (kS, 263169, .inl fs))]) hD hS hA [0, 4, 1, 2, 3] rfl
            refine va_calli (va_runV (As := [.ref q118]) (rest := []) ⟨hx, hb, hml, hown, hts⟩ (c_drawFixed l dC dI H128.size hf hq hst hld q118 u128_l u128_t u128_m u128_s u128_q x y (PL / 256 % 32) (17 + 4 * (PL / 4 % 64)) (PL % 4) f1 f2 f3 f4 f5 (by omega) (by omega) (by omega) (by omega) (by omega) (by omega) (by omega) (by omega) D hp hw hs kW kS pw ph psr fw fs Wd Ht hpw hph hW1 hW2 hH1 hH2 hbits hsup SR hsr hsr0 hsr1 hsk (by rw [← kLN]; omega) (by rw [← kLN]; omega)) (aw_V 1 hts wd_339 wd_341 ws_1 wd_1 wd_342 rfl rfl (by decide +kernel) ⟨Nat.le_of_ble_eq_true rfl, Nat.le_of_ble_eq_true rfl⟩) ⟨rw_blind, va_recv hKc hPc (ci := 4) (q0 := 0) rfl rfl, rw_pre hPc hKc hDc⟩ rfl rfl hl.1 rfl (lv_room (Nat.le_of_ble_eq_true rfl)) d_PF_draw_131 ⟨Nat.le_of_ble_eq_true rfl, Nat.le_of_ble_eq_true rfl⟩) hS (fun q _ h => hFc q h) hFc (fun v131 u t9 H131 locs ht hvm h131 hB hz1 hk1 hS => ?_)
            obtain ⟨u131_fw, u131_sr⟩ := u
            obtain ⟨hP1, hK1, hD1⟩ := hB
            rw [ht] at hP1
            try dsimp only at h131 hP1 hD1
            obtain ⟨hP, hD⟩ := va_join (wr := []) (w1 := [(hf, .inr (4, [.ref hq, .ref hp, .ref hst, .ref hld])), (q118, .inr (1, [.int u128_l, .int u128_t, .int u128_m, .int u128_s, .int u128_q])), (hp, .inr (0, [.int pw, .int ph, .ref hw, .ref hs, .int u131_sr])), (hw, .inl (kW, 4096, .inr (.inl u131_fw))), (hs, .inl (kS, 263169, .inl fs))]) hP hD [0, 4, 1, 2, 3] [] rfl rfl (by decide) (by decide) hk1 hFc hP1 hD1
            have hP := hP.sub (ws' := [(hf, .inr (4, [.ref hq, .ref hp, .ref hst, .ref hld])), (hp, .inr (0, [.int pw, .int ph, .ref hw, .ref hs, .int u131_sr])), (hw, .inl (kW, 4096, .inr (.inl u131_fw))), (hs, .inl (kS, 263169, .inl fs)), (q118, .inr (1, [.int u128_l, .int u128_t, .int u128_m, .int u128_s, .int u128_q]))]) [0, 2, 3, 4, 1] rfl
            have hD := hD.sub (ws' := [(hf, .inr (4, [.ref hq, .ref hp, .ref hst, .ref hld])), (hp, .inr (0, [.int pw, .int ph, .ref hw, .ref hs, .int u131_sr])), (hw, .inl (kW, 4096, .inr (.inl u131_fw))), (hs, .inl (kS, 263169, .inl fs)), (q118, .inr (1, [.int u128_l, .int u128_t, .int u128_m, .int u128_s, .int u128_q]))]) [0, 2, 3, 4, 1] (by decide) rfl
            clear hPc hKc hDc hFc ht hvm hz1 hk1 hP1 hD1 hK1
            have hpost : (drOK Wd Ht x y PL) ∧ (v131 : Int32).toInt = DW D x y (PL / 256 % 32) (17 + 4 * (PL / 4 % 64)) (PL % 4) ∧ bOK u131_fw (dP D x y (PL / 256 % 32) (17 + 4 * (PL / 4 % 64)) (PL % 4) (fxd (17 + 4 * (PL / 4 % 64)))) ∧ 0 ≤ (u131_sr : Int32).toInt ∧ (u131_sr : Int32).toInt ≤ SR ∧ sK fs (dP D x y (PL / 256 % 32) (17 + 4 * (PL / 4 % 64)) (PL % 4) (fxd (17 + 4 * (PL / 4 % 64)))) Wd (u131_sr : Int32).toInt := by
              refine ⟨?_, h131⟩
              unfold drOK; rw [← kLN]; omega
            have hP9 := hP.sub (ws' := [(hf, .inr (4, [.ref hq, .ref hp, .ref hst, .ref hld])), (hp, .inr (0, [.int pw, .int ph, .ref hw, .ref hs, .int u131_sr])), (hw, .inl (kW, 4096, .inr (.inl u131_fw))), (hs, .inl (kS, 263169, .inl fs))]) [0, 1, 2, 3] rfl
            have hD9 := hD.sub (ws' := [(hf, .inr (4, [.ref hq, .ref hp, .ref hst, .ref hld])), (hp, .inr (0, [.int pw, .int ph, .ref hw, .ref hs, .int u131_sr])), (hw, .inl (kW, 4096, .inr (.inl u131_fw))), (hs, .inl (kS, 263169, .inl fs))]) [0, 1, 2, 3] (by decide) rfl
            have hK9 := hK.sub (tys' := [(kW, .long), (kS, .int)]) [0, 1] rfl
            refine W.widen (k := 1) (n := 6) (by decide) (by decide) ?_
            refine vx_ret ?_
            exact W.iret (v := v131) hx hb hr (fun t ht hW => ⟨⟨v131, (u131_fw, u131_sr), rfl, hpost, by rw [ht]; exact hP9, va_K.moved hW.alike hK9, hD9⟩, hS.F ht⟩) hS.2.2 d_PF_draw_134
          · skip
            have c104 : ¬ ((0 : Int) ≤ y ∧ y ≤ (Ht - LN)) := bi_z h101 c104
            have hpx : ¬ drOK Wd Ht x y PL := by unfold drOK; rw [← kLN]; omega
            obtain ⟨sa, hstr⟩ := hTr (85, "the place lies not on the sheet") (List.mem_of_getElem? (i := 2) rfl)
            exact vx_throwS (own := R_PF) (cls := R_IAE) (names := supsX) (A := A) hx hb hl9 hown (by decide) (by decide) (hts _ wd_182) (hts _ wd_9) hstr (hat_iae hts hTx) hg_iae hTz.1 hTz.2 hS (by rw [hml]; exact hl.1) d_PF_draw_107 d_PF_draw_110 d_PF_draw_111 d_PF_draw_113 d_PF_draw_116 (fun x hx9 => (hex x hx9).elim) (Nat.le_of_ble_eq_true rfl) (Nat.le_of_ble_eq_true rfl) (Nat.le_of_ble_eq_true rfl) (Nat.le_of_ble_eq_true rfl) hlocks (xE_of hP hK hD hS hpx) hS.2.2 (Nat.le_of_ble_eq_true rfl) (Nat.le_of_ble_eq_true rfl)
      · skip
        have c48 : ¬ ((1 : Int) ≤ (PL / 4 % 64) ∧ (PL / 4 % 64) ≤ 40) := bi_z h45 c48
        have hpx : ¬ drOK Wd Ht x y PL := by unfold drOK; omega
        obtain ⟨sa, hstr⟩ := hTr (73, "m is 1 .. 16 and v 1 .. 40") (List.mem_of_getElem? (i := 1) rfl)
        exact vx_throwS (own := R_PF) (cls := R_IAE) (names := supsX) (A := A) hx hb hl9 hown (by decide) (by decide) (hts _ wd_182) (hts _ wd_9) hstr (hat_iae hts hTx) hg_iae hTz.1 hTz.2 hS (by rw [hml]; exact hl.1) d_PF_draw_51 d_PF_draw_54 d_PF_draw_55 d_PF_draw_57 d_PF_draw_60 (fun x hx9 => (hex x hx9).elim) (Nat.le_of_ble_eq_true rfl) (Nat.le_of_ble_eq_true rfl) (Nat.le_of_ble_eq_true rfl) (Nat.le_of_ble_eq_true rfl) hlocks (xE_of hP hK hD hS hpx) hS.2.2 (Nat.le_of_ble_eq_true rfl) (Nat.le_of_ble_eq_true rfl)
  · skip
    have hpx : ¬ drOK Wd Ht x y PL := by unfold drOK; intro q; exact c4 ((us13 g3 e3).mpr (by omega))
    obtain ⟨sa, hstr⟩ := hTr (62, "place has bits above those of m") (List.mem_of_getElem? (i := 0) rfl)
    exact vx_throwS (own := R_PF) (cls := R_IAE) (names := supsX) (A := A) hx hb hl9 hown (by decide) (by decide) (hts _ wd_182) (hts _ wd_9) hstr (hat_iae hts hTx) hg_iae hTz.1 hTz.2 hS (by rw [hml]; exact hl.1) d_PF_draw_7 d_PF_draw_10 d_PF_draw_11 d_PF_draw_13 d_PF_draw_16 (fun x hx9 => (hex x hx9).elim) (Nat.le_of_ble_eq_true rfl) (Nat.le_of_ble_eq_true rfl) (Nat.le_of_ble_eq_true rfl) (Nat.le_of_ble_eq_true rfl) hlocks (xE_of hP hK hD hS hpx) hS.2.2 (Nat.le_of_ble_eq_true rfl) (Nat.le_of_ble_eq_true rfl)
