set_option maxHeartbeats 4000000 in
set_option maxRecDepth 100000 in
theorem c_place (l : Launch) (dC : Nat → ClassId) (dI : Nat → Nat → Nat) (sz : Nat) (hl9 : l.stackTraces = false) (hf hq hp hst hld bk br : Nat) (dK dR : ClassId) (cnt2 : Int32) (kg wg : Nat → Int32) (n2 : Int) (hn2 : cnt2.toInt = n2) (n20 : 0 ≤ n2) (n21 : n2 ≤ 300) (hkp : ∀ i : Nat, (i : Int) < n2 → 0 ≤ (kg i).toInt) (a1 a2 : Int32) (k wt : Int) (g1 : a1.toInt = k) (g2 : a2.toInt = wt) : vx_Met l y_PF_place (.code y_PF_place b_PF_place 4 (some .int) :: allw) ({ frames := 6, cells := 1, slots := 6, locals := 100 }) (va_Pc [.ref hf, .int a1, .int a2] (tB (dC, dI) vwCl [(hf, .inr (4, [.ref hq, .ref hp, .ref hst, .ref hld])), (hld, .inr (2, [.ref bk, .ref br, .int cnt2])), (bk, .inl (dK, 300, .inl kg)), (br, .inl (dR, 300, .inl wg))] [(dK, .int), (dR, .int)] sz R_IAE [(119, "what is 0 .. 5")])) (va_Qi (fun (r : Int32) (u : Unit) => (0 ≤ wt ∧ wt ≤ 5) ∧ ((¬ (0 ≤ k ∧ k < n2) ∧ r.toInt = -1) ∨ ((0 ≤ k ∧ k < n2) ∧ r.toInt = plV (kg k.toNat).toInt (wg k.toNat).toInt wt))) (fun u t => rw_E (dC, dI) vwCl [(hf, .inr (4, [.ref hq, .ref hp, .ref hst, .ref hld])), (hld, .inr (2, [.ref bk, .ref br, .int cnt2])), (bk, .inl (dK, 300, .inl kg)), (br, .inl (dR, 300, .inl wg))] [(dK, .int), (dR, .int)] (va_A [(hf, .inr (4, [.ref hq, .ref hp, .ref hst, .ref hld])), (hld, .inr (2, [.ref bk, .ref br, .int cnt2])), (bk, .inl (dK, 300, .inl kg)), (br, .inl (dR, 300, .inl wg))] sz) t) (va_A [(hf, .inr (4, [.ref hq, .ref hp, .ref hst, .ref hld])), (hld, .inr (2, [.ref bk, .ref br, .int cnt2])), (bk, .inl (dK, 300, .inl kg)), (br, .inl (dR, 300, .inl wg))] sz)) (xE (dC, dI) vwCl [(hf, .inr (4, [.ref hq, .ref hp, .ref hst, .ref hld])), (hld, .inr (2, [.ref bk, .ref br, .int cnt2])), (bk, .inl (dK, 300, .inl kg)), (br, .inl (dR, 300, .inl wg))] [(dK, .int), (dR, .int)] (va_A [(hf, .inr (4, [.ref hq, .ref hp, .ref hst, .ref hld])), (hld, .inr (2, [.ref bk, .ref br, .int cnt2])), (bk, .inl (dK, 300, .inl kg)), (br, .inl (dR, 300, .inl wg))] sz) R_IAE (¬ (0 ≤ wt ∧ wt ≤ 5))) 1 6 (va_A [(hf, .inr (4, [.ref hq, .ref hp, .ref hst, .ref hld])), (hld, .inr (2, [.ref bk, .ref br, .int cnt2])), (bk, .inl (dK, 300, .inl kg)), (br, .inl (dR, 300, .inl wg))] sz) := by
  refine vx_ofW (cc := b_PF_place) (maxL := 4) (ret := (some .int)) (by decide) rfl ?_
  intro p e s m args below meth c s₁ B hml hex hv
  obtain ⟨rfl, ⟨hsz, hP, hK, hD0⟩, hTx, hTr, hTz⟩ := hv
  have hx := B.exec
  have hb := B.bytes
  have hr := B.returns
  have hts : ∀ w ∈ allw, w.before _ s = true := fun w h => atoms_spec (ws := .code y_PF_place b_PF_place 4 (some .int) :: allw) B.pre w (List.mem_cons_of_mem _ h)
  have hown : s.vm.findClass R_PF = some m.cls := findClass_of_methodNamed B.named
  have hlocks := B.notSynchronized
  subst hsz
  have hD := hD0.self (sz := s.heap.size)
  generalize hAe : va_A [(hf, .inr (4, [.ref hq, .ref hp, .ref hst, .ref hld])), (hld, .inr (2, [.ref bk, .ref br, .int cnt2])), (bk, .inl (dK, 300, .inl kg)), (br, .inl (dR, 300, .inl wg))] s.heap.size = A at hD hTz ⊢
  have hA : ∀ q : Nat, s.heap.size ≤ q → A q := fun q h => by rw [← hAe]; exact Or.inr h
  have hS : va_S A s.heap s.heap [] := va_S.rf
  have hP : va_P (dC, dI) vwCl [(hf, .inr (4, [.ref hq, .ref hp, .ref hst, .ref hld])), (hld, .inr (2, [.ref bk, .ref br, .int cnt2])), (bk, .inl (dK, 300, .inl kg)), (br, .inl (dR, 300, .inl wg))] s.heap := hP
  have hl := lv_entry ([.ref hf, .int a1, .int a2]) (n := 4) (Nat.le_of_ble_eq_true rfl)
  rw [lg_entry_eq]
  generalize (lg_sl ([.ref hf, .int a1, .int a2]) ++ List.replicate (4 - (lg_sl ([.ref hf, .int a1, .int a2])).length) Slot.unset).toArray = ls at hl ⊢
  have hl : lv_has ls 4 [(0, .ref hf), (1, .int a1), (2, .int a2)] := hl
  refine lv_iload_n hx hb d_PF_place_0 rfl (lv_at hl 2 rfl) ?_
  refine lv_iconst (v := 0) hx hb d_PF_place_1 (by decide) ?_
  refine lv_iconst (v := 5) hx hb d_PF_place_2 (by decide) ?_
  have hPc := hP.sub (ws' := []) [] rfl
  have hKc := hK.sub (tys' := []) [] rfl
  refine va_calli (va_runS (As := [.int a2, .int 0, .int 5]) (rest := []) ⟨hx, hb, hml, hown, hts⟩ (c_isWithin l dC dI a2 0 5 wt 0 5 g2 (ti_k (by decide)) (ti_k (by decide))) (aw_S 3 hts wd_179 wd_180 wd_1 wd_181 rfl rfl (by decide +kernel) ⟨Nat.le_of_ble_eq_true rfl, Nat.le_of_ble_eq_true rfl⟩) ⟨ro_blind, ro_pre hPc hKc⟩ rfl rfl hl.1 rfl (lv_room (Nat.le_of_ble_eq_true rfl)) d_PF_place_3 ⟨Nat.le_of_ble_eq_true rfl, Nat.le_of_ble_eq_true rfl⟩) hS (fun q _ h => h.elim) (fun q h => h.elim) (fun v3 _ t9 H3 locs ht hvm h3 hB hz1 hk1 hS => ?_)
  have hP := ro_keep hP hk1
  clear hPc hKc ht hvm hB hz1 hk1
  refine lv_if_ne (tgt := 19) hx hb d_PF_place_6 (by decide) (fun c6 => ?_) (fun c6 => ?_)
  · skip
    have c6 : (0 : Int) ≤ wt ∧ wt ≤ 5 := bi_nz h3 c6
    refine lv_iload_n hx hb d_PF_place_19 rfl (lv_at hl 1 rfl) ?_
    refine lv_iconst (v := 0) hx hb d_PF_place_20 (by decide) ?_
    refine lv_aload_n hx hb d_PF_place_21 rfl (lv_at hl 0 rfl) ?_
    refine va_get (D := (dC, dI)) (ci := 4) (v := .ref hld) (C := R_PF) (T := T_PF) (N := 4) hx hb hts i_PF hown hK hP 0 rfl rfl 3 (by decide) (hts _ wd_129) (fun _ h9 => h9) rfl d_PF_place_22 ?_
    refine va_get (D := (dC, dI)) (ci := 2) (v := .int cnt2) (C := R_List) (T := T_List) (N := 3) hx hb hts i_List hown hK hP 1 rfl rfl 2 (by decide) (hts _ wd_70) (fun _ h9 => h9) rfl d_PF_place_25 ?_
    refine lv_iconst (v := 1) hx hb d_PF_place_28 (by decide) ?_
    refine lv_isub hx hb d_PF_place_29 ?_
    refine lv_topi (fun v29 e29 => ?_)
    have h29 : v29.toInt = n2 - 1 := by rw [e29]; exact ti_sub hn2 (ti_k (by decide)) (by omega) (by omega)
    have hPc := hP.sub (ws' := []) [] rfl
    have hKc := hK.sub (tys' := []) [] rfl
    refine va_calli (va_runS (As := [.int a1, .int 0, .int v29]) (rest := []) ⟨hx, hb, hml, hown, hts⟩ (c_isWithin l dC dI a1 0 v29 k 0 (n2 - 1) g1 (ti_k (by decide)) h29) (aw_S 3 hts wd_179 wd_180 wd_1 wd_181 rfl rfl (by decide +kernel) ⟨Nat.le_of_ble_eq_true rfl, Nat.le_of_ble_eq_true rfl⟩) ⟨ro_blind, ro_pre hPc hKc⟩ rfl rfl hl.1 rfl (lv_room (Nat.le_of_ble_eq_true rfl)) d_PF_place_30 ⟨Nat.le_of_ble_eq_true rfl, Nat.le_of_ble_eq_true rfl⟩) hS (fun q _ h => h.elim) (fun q h => h.elim) (fun v30 _ t9 H30 locs ht hvm h30 hB hz1 hk1 hS => ?_)
    have hP := ro_keep hP hk1
    clear hPc hKc ht hvm hB hz1 hk1
    refine lv_if_ne (tgt := 38) hx hb d_PF_place_33 (by decide) (fun c33 => ?_) (fun c33 => ?_)
    · skip
      have c33 : (0 : Int) ≤ k ∧ k ≤ (n2 - 1) := bi_nz h30 c33
      refine lv_aload_n hx hb d_PF_place_38 rfl (lv_at hl 0 rfl) ?_
      refine va_get (D := (dC, dI)) (ci := 4) (v := .ref hld) (C := R_PF) (T := T_PF) (N := 4) hx hb hts i_PF hown hK hP 0 rfl rfl 3 (by decide) (hts _ wd_129) (fun _ h9 => h9) rfl d_PF_place_39 ?_
      refine va_get (D := (dC, dI)) (ci := 2) (v := .ref bk) (C := R_List) (T := T_List) (N := 3) hx hb hts i_List hown hK hP 1 rfl rfl 0 (by decide) (hts _ wd_66) (fun _ h9 => h9) rfl d_PF_place_42 ?_
      refine lv_iload_n hx hb d_PF_place_45 rfl (lv_at hl 1 rfl) ?_
      have in46 : vp_in a1 300 := vi_in g1 (by omega) (by omega)
      refine va_iald hx hb hK hP 2 0 rfl rfl in46 d_PF_place_46 ?_
      refine lv_topi (fun v46 e46 => ?_)
      have e46 : v46 = kg (k).toNat := by rw [e46, vi_cl g1]
      refine lv_istore_n (lv' := [(3, .int v46), (0, .ref hf), (1, .int a1), (2, .int a2)]) hx hb d_PF_place_47 rfl hl (by decide) rfl (fun ls hl => ?_)
      refine lv_iload_n hx hb d_PF_place_48 rfl (lv_at hl 3 rfl) ?_
      rcases (show (wt < 0 ∨ 4 < wt) ∨ wt = 0 ∨ wt = 1 ∨ wt = 2 ∨ wt = 3 ∨ wt = 4 by omega) with t49 | t49 | t49 | t49 | t49 | t49
      · skip
        refine lv_tableOut (tgt := 109) hx hb d_PF_place_49 (by rw [g2]; omega) (by decide) ?_
        refine lv_aload_n hx hb d_PF_place_109 rfl (lv_at hl 1 rfl) ?_
        refine va_get (D := (dC, dI)) (ci := 4) (v := .ref hld) (C := R_PF) (T := T_PF) (N := 4) hx hb hts i_PF hown hK hP 0 rfl rfl 3 (by decide) (hts _ wd_129) (fun _ h9 => h9) rfl d_PF_place_110 ?_
        refine va_get (D := (dC, dI)) (ci := 2) (v := .ref br) (C := R_List) (T := T_List) (N := 3) hx hb hts i_List hown hK hP 1 rfl rfl 1 (by decide) (hts _ wd_68) (fun _ h9 => h9) rfl d_PF_place_113 ?_
        refine lv_iload_n hx hb d_PF_place_116 rfl (lv_at hl 2 rfl) ?_
        have in117 : vp_in a1 300 := vi_in g1 (by omega) (by omega)
        refine va_iald hx hb hK hP 3 1 rfl rfl in117 d_PF_place_117 ?_
        refine lv_topi (fun v117 e117 => ?_)
        have e117 : v117 = wg (k).toNat := by rw [e117, vi_cl g1]
        have hpost : (0 ≤ wt ∧ wt ≤ 5) ∧ ((¬ (0 ≤ k ∧ k < n2) ∧ (v117 : Int32).toInt = -1) ∨ ((0 ≤ k ∧ k < n2) ∧ (v117 : Int32).toInt = plV (kg k.toNat).toInt (wg k.toNat).toInt wt)) := by
          refine ⟨by omega, Or.inr ⟨by omega, ?_⟩⟩
          rw [e117]; unfold plV; rw [if_neg (by omega), if_neg (by omega), if_neg (by omega), if_neg (by omega), if_neg (by omega)]
        have hP9 := hP.sub (ws' := [(hf, .inr (4, [.ref hq, .ref hp, .ref hst, .ref hld])), (hld, .inr (2, [.ref bk, .ref br, .int cnt2])), (bk, .inl (dK, 300, .inl kg)), (br, .inl (dR, 300, .inl wg))]) [0, 1, 2, 3] rfl
        have hD9 := hD.sub (ws' := [(hf, .inr (4, [.ref hq, .ref hp, .ref hst, .ref hld])), (hld, .inr (2, [.ref bk, .ref br, .int cnt2])), (bk, .inl (dK, 300, .inl kg)), (br, .inl (dR, 300, .inl wg))]) [0, 1, 2, 3] (by decide) rfl
        have hK9 := hK.sub (tys' := [(dK, .int), (dR, .int)]) [0, 1] rfl
        refine W.widen (k := 1) (n := 6) (by decide) (by decide) ?_
        refine vx_ret ?_
        exact W.iret (v := v117) hx hb hr (fun t ht hW => ⟨⟨v117, (), rfl, hpost, by rw [ht]; exact hP9, va_K.moved hW.alike hK9, hD9⟩, hS.F ht⟩) hS.2.2 d_PF_place_118
      · skip
        refine lv_tableIn (off := 35) (tgt := 84) hx hb d_PF_place_49 (by rw [g2]; omega) (by rw [g2]; omega) (by rw [g2, t49]; rfl) (by decide) ?_
        refine lv_iload_n hx hb d_PF_place_84 rfl (lv_at hl 0 rfl) ?_
        have hPc := hP.sub (ws' := []) [] rfl
        have hKc := hK.sub (tys' := []) [] rfl
        refine va_calli (va_runS (As := [.int v46]) (rest := []) ⟨hx, hb, hml, hown, hts⟩ (c_leftOf l dC dI v46 v46.toInt rfl (by rw [e46]; exact hkp _ (by omega))) (aw_S 1 hts wd_522 wd_310 wd_13 wd_311 rfl rfl (by decide +kernel) ⟨Nat.le_of_ble_eq_true rfl, Nat.le_of_ble_eq_true rfl⟩) ⟨ro_blind, ro_pre hPc hKc⟩ rfl rfl hl.1 rfl (lv_room (Nat.le_of_ble_eq_true rfl)) d_PF_place_85 ⟨Nat.le_of_ble_eq_true rfl, Nat.le_of_ble_eq_true rfl⟩) hS (fun q _ h => h.elim) (fun q h => h.elim) (fun v85 _ t9 H85 locs ht hvm h85 hB hz1 hk1 hS => ?_)
        have hP := ro_keep hP hk1
        clear hPc hKc ht hvm hB hz1 hk1
        have hpost : (0 ≤ wt ∧ wt ≤ 5) ∧ ((¬ (0 ≤ k ∧ k < n2) ∧ (v85 : Int32).toInt = -1) ∨ ((0 ≤ k ∧ k < n2) ∧ (v85 : Int32).toInt = plV (kg k.toNat).toInt (wg k.toNat).toInt wt)) := by
          refine ⟨by omega, Or.inr ⟨by omega, ?_⟩⟩
          rw [h85, e46]; unfold plV; rw [if_pos (by omega)]
        have hP9 := hP.sub (ws' := [(hf, .inr (4, [.ref hq, .ref hp, .ref hst, .ref hld])), (hld, .inr (2, [.ref bk, .ref br, .int cnt2])), (bk, .inl (dK, 300, .inl kg)), (br, .inl (dR, 300, .inl wg))]) [0, 1, 2, 3] rfl
        have hD9 := hD.sub (ws' := [(hf, .inr (4, [.ref hq, .ref hp, .ref hst, .ref hld])), (hld, .inr (2, [.ref bk, .ref br, .int cnt2])), (bk, .inl (dK, 300, .inl kg)), (br, .inl (dR, 300, .inl wg))]) [0, 1, 2, 3] (by decide) rfl
        have hK9 := hK.sub (tys' := [(dK, .int), (dR, .int)]) [0, 1] rfl
        refine W.widen (k := 1) (n := 6) (by decide) (by decide) ?_
        refine vx_ret ?_
        exact W.iret (v := v85) hx hb hr (fun t ht hW => ⟨⟨v85, (), rfl, hpost, by rw [ht]; exact hP9, va_K.moved hW.alike hK9, hD9⟩, hS.F ht⟩) hS.2.2 d_PF_place_88
      · skip
        refine lv_tableIn (off := 40) (tgt := 89) hx hb d_PF_place_49 (by rw [g2]; omega) (by rw [g2]; omega) (by rw [g2, t49]; rfl) (by decide) ?_
        refine lv_iload_n hx hb d_PF_place_89 rfl (lv_at hl 0 rfl) ?_
        have hPc := hP.sub (ws' := []) [] rfl
        have hKc := hK.sub (tys' := []) [] rfl
        refine va_calli (va_runS (As := [.int v46]) (rest := []) ⟨hx, hb, hml, hown, hts⟩ (c_topOf l dC dI v46 v46.toInt rfl (by rw [e46]; exact hkp _ (by omega))) (aw_S 1 hts wd_523 wd_313 wd_13 wd_314 rfl rfl (by decide +kernel) ⟨Nat.le_of_ble_eq_true rfl, Nat.le_of_ble_eq_true rfl⟩) ⟨ro_blind, ro_pre hPc hKc⟩ rfl rfl hl.1 rfl (lv_room (Nat.le_of_ble_eq_true rfl)) d_PF_place_90 ⟨Nat.le_of_ble_eq_true rfl, Nat.le_of_ble_eq_true rfl⟩) hS (fun q _ h => h.elim) (fun q h => h.elim) (fun v90 _ t9 H90 locs ht hvm h90 hB hz1 hk1 hS => ?_)
        have hP := ro_keep hP hk1
        clear hPc hKc ht hvm hB hz1 hk1
        have hpost : (0 ≤ wt ∧ wt ≤ 5) ∧ ((¬ (0 ≤ k ∧ k < n2) ∧ (v90 : Int32).toInt = -1) ∨ ((0 ≤ k ∧ k < n2) ∧ (v90 : Int32).toInt = plV (kg k.toNat).toInt (wg k.toNat).toInt wt)) := by
          refine ⟨by omega, Or.inr ⟨by omega, ?_⟩⟩
          rw [h90, e46]; unfold plV; rw [if_neg (by omega), if_pos (by omega)]
        have hP9 := hP.sub (ws' := [(hf, .inr (4, [.ref hq, .ref hp, .ref hst, .ref hld])), (hld, .inr (2, [.ref bk, .ref br, .int cnt2])), (bk, .inl (dK, 300, .inl kg)), (br, .inl (dR, 300, .inl wg))]) [0, 1, 2, 3] rfl
        have hD9 := hD.sub (ws' := [(hf, .inr (4, [.ref hq, .ref hp, .ref hst, .ref hld])), (hld, .inr (2, [.ref bk, .ref br, .int cnt2])), (bk, .inl (dK, 300, .inl kg)), (br, .inl (dR, 300, .inl wg))]) [0, 1, 2, 3] (by decide) rfl
        have hK9 := hK.sub (tys' := [(dK, .int), (dR, .int)]) [0, 1] rfl
        refine W.widen (k := 1) (n := 6) (by decide) (by decide) ?_
        refine vx_ret ?_
        exact W.iret (v := v90) hx hb hr (fun t ht hW => ⟨⟨v90, (), rfl, hpost, by rw [ht]; exact hP9, va_K.moved hW.alike hK9, hD9⟩, hS.F ht⟩) hS.2.2 d_PF_place_93
      · skip
        refine lv_tableIn (off := 45) (tgt := 94) hx hb d_PF_place_49 (by rw [g2]; omega) (by rw [g2]; omega) (by rw [g2, t49]; rfl) (by decide) ?_
        refine lv_iload_n hx hb d_PF_place_94 rfl (lv_at hl 0 rfl) ?_
        have hPc := hP.sub (ws' := []) [] rfl
        have hKc := hK.sub (tys' := []) [] rfl
        refine va_calli (va_runS (As := [.int v46]) (rest := []) ⟨hx, hb, hml, hown, hts⟩ (c_moduleOf l dC dI v46 v46.toInt rfl (by rw [e46]; exact hkp _ (by omega))) (aw_S 1 hts wd_289 wd_290 wd_13 wd_291 rfl rfl (by decide +kernel) ⟨Nat.le_of_ble_eq_true rfl, Nat.le_of_ble_eq_true rfl⟩) ⟨ro_blind, ro_pre hPc hKc⟩ rfl rfl hl.1 rfl (lv_room (Nat.le_of_ble_eq_true rfl)) d_PF_place_95 ⟨Nat.le_of_ble_eq_true rfl, Nat.le_of_ble_eq_true rfl⟩) hS (fun q _ h => h.elim) (fun q h => h.elim) (fun v95 _ t9 H95 locs ht hvm h95 hB hz1 hk1 hS => ?_)
        have hP := ro_keep hP hk1
        clear hPc hKc ht hvm hB hz1 hk1
        have hpost : (0 ≤ wt ∧ wt ≤ 5) ∧ ((¬ (0 ≤ k ∧ k < n2) ∧ (v95 : Int32).toInt = -1) ∨ ((0 ≤ k ∧ k < n2) ∧ (v95 : Int32).toInt = plV (kg k.toNat).toInt (wg k.toNat).toInt wt)) := by
          refine ⟨by omega, Or.inr ⟨by omega, ?_⟩⟩
          rw [h95, e46]; unfold plV; rw [if_neg (by omega), if_neg (by omega), if_pos (by omega)]
        have hP9 := hP.sub (ws' := [(hf, .inr (4, [.ref hq, .ref hp, .ref hst, .ref hld])), (hld, .inr (2, [.ref bk, .ref br, .int cnt2])), (bk, .inl (dK, 300, .inl kg)), (br, .inl (dR, 300, .inl wg))]) [0, 1, 2, 3] rfl
        have hD9 := hD.sub (ws' := [(hf, .inr (4, [.ref hq, .ref hp, .ref hst, .ref hld])), (hld, .inr (2, [.ref bk, .ref br, .int cnt2])), (bk, .inl (dK, 300, .inl kg)), (br, .inl (dR, 300, .inl wg))]) [0, 1, 2, 3] (by decide) rfl
        have hK9 := hK.sub (tys' := [(dK, .int), (dR, .int)]) [0, 1] rfl
        refine W.widen (k := 1) (n := 6) (by decide) (by decide) ?_
        refine vx_ret ?_
        exact W.iret (v := v95) hx hb hr (fun t ht hW => ⟨⟨v95, (), rfl, hpost, by rw [ht]; exact hP9, va_K.moved hW.alike hK9, hD9⟩, hS.F ht⟩) hS.2.2 d_PF_place_98
      · skip
        refine lv_tableIn (off := 50) (tgt := 99) hx hb d_PF_place_49 (by rw [g2]; omega) (by rw [g2]; omega) (by rw [g2, t49]; rfl) (by decide) ?_
        refine lv_iload_n hx hb d_PF_place_99 rfl (lv_at hl 0 rfl) ?_
        have hPc := hP.sub (ws' := []) [] rfl
        have hKc := hK.sub (tys' := []) [] rfl
        refine va_calli (va_runS (As := [.int v46]) (rest := []) ⟨hx, hb, hml, hown, hts⟩ (c_versionOf l dC dI v46 v46.toInt rfl (by rw [e46]; exact hkp _ (by omega))) (aw_S 1 hts wd_292 wd_293 wd_13 wd_294 rfl rfl (by decide +kernel) ⟨Nat.le_of_ble_eq_true rfl, Nat.le_of_ble_eq_true rfl⟩) ⟨ro_blind, ro_pre hPc hKc⟩ rfl rfl hl.1 rfl (lv_room (Nat.le_of_ble_eq_true rfl)) d_PF_place_100 ⟨Nat.le_of_ble_eq_true rfl, Nat.le_of_ble_eq_true rfl⟩) hS (fun q _ h => h.elim) (fun q h => h.elim) (fun v100 _ t9 H100 locs ht hvm h100 hB hz1 hk1 hS => ?_)
        have hP := ro_keep hP hk1
        clear hPc hKc ht hvm hB hz1 hk1
        have hpost : (0 ≤ wt ∧ wt ≤ 5) ∧ ((¬ (0 ≤ k ∧ k < n2) ∧ (v100 : Int32).toInt = -1) ∨ ((0 ≤ k ∧ k < n2) ∧ (v100 : Int32).toInt = plV (kg k.toNat).toInt (wg k.toNat).toInt wt)) := by
          refine ⟨by omega, Or.inr ⟨by omega, ?_⟩⟩
          rw [h100, e46]; unfold plV; rw [if_neg (by omega), if_neg (by omega), if_neg (by omega), if_pos (by omega)]
        have hP9 := hP.sub (ws' := [(hf, .inr (4, [.ref hq, .ref hp, .ref hst, .ref hld])), (hld, .inr (2, [.ref bk, .ref br, .int cnt2])), (bk, .inl (dK, 300, .inl kg)), (br, .inl (dR, 300, .inl wg))]) [0, 1, 2, 3] rfl
        have hD9 := hD.sub (ws' := [(hf, .inr (4, [.ref hq, .ref hp, .ref hst, .ref hld])), (hld, .inr (2, [.ref bk, .ref br, .int cnt2])), (bk, .inl (dK, 300, .inl kg)), (br, .inl (dR, 300, .inl wg))]) [0, 1, 2, 3] (by decide) rfl
        have hK9 := hK.sub (tys' := [(dK, .int), (dR, .int)]) [0, 1] rfl
        refine W.widen (k := 1) (n := 6) (by decide) (by decide) ?_
        refine vx_ret ?_
        exact W.iret (v := v100) hx hb hr (fun t ht hW => ⟨⟨v100, (), rfl, hpost, by rw [ht]; exact hP9, va_K.moved hW.alike hK9, hD9⟩, hS.F ht⟩) hS.2.2 d_PF_place_103
      · skip
        refine lv_tableIn (off := 55) (tgt := 104) hx hb d_PF_place_49 (by rw [g2]; omega) (by rw [g2]; omega) (by rw [g2, t49]; rfl) (by decide) ?_
        refine lv_iload_n hx hb d_PF_place_104 rfl (lv_at hl 0 rfl) ?_
        have hPc := hP.sub (ws' := []) [] rfl
        have hKc := hK.sub (tys' := []) [] rfl
        refine va_calli (va_runS (As := [.int v46]) (rest := []) ⟨hx, hb, hml, hown, hts⟩ (c_quarterOf l dC dI v46 v46.toInt rfl (by rw [e46]; exact hkp _ (by omega))) (aw_S 1 hts wd_524 wd_319 wd_13 wd_320 rfl rfl (by decide +kernel) ⟨Nat.le_of_ble_eq_true rfl, Nat.le_of_ble_eq_true rfl⟩) ⟨ro_blind, ro_pre hPc hKc⟩ rfl rfl hl.1 rfl (lv_room (Nat.le_of_ble_eq_true rfl)) d_PF_place_105 ⟨Nat.le_of_ble_eq_true rfl, Nat.le_of_ble_eq_true rfl⟩) hS (fun q _ h => h.elim) (fun q h => h.elim) (fun v105 _ t9 H105 locs ht hvm h105 hB hz1 hk1 hS => ?_)
        have hP := ro_keep hP hk1
        clear hPc hKc ht hvm hB hz1 hk1
        have hpost : (0 ≤ wt ∧ wt ≤ 5) ∧ ((¬ (0 ≤ k ∧ k < n2) ∧ (v105 : Int32).toInt = -1) ∨ ((0 ≤ k ∧ k < n2) ∧ (v105 : Int32).toInt = plV (kg k.toNat).toInt (wg k.toNat).toInt wt)) := by
          refine ⟨by omega, Or.inr ⟨by omega, ?_⟩⟩
          rw [h105, e46]; unfold plV; rw [if_neg (by omega), if_neg (by omega), if_neg (by omega), if_neg (by omega), if_pos (by omega)]
        have hP9 := hP.sub (ws' := [(hf, .inr (4, [.ref hq, .ref hp, .ref hst, .ref hld])), (hld, .inr (2, [.ref bk, .ref br, .int cnt2])), (bk, .inl (dK, 300, .inl kg)), (br, .inl (dR, 300, .inl wg))]) [0, 1, 2, 3] rfl
        have hD9 := hD.sub (ws' := [(hf, .inr (4, [.ref hq, .ref hp, .ref hst, .ref hld])), (hld, .inr (2, [.ref bk, .ref br, .int cnt2])), (bk, .inl (dK, 300, .inl kg)), (br, .inl (dR, 300, .inl wg))]) [0, 1, 2, 3] (by decide) rfl
        have hK9 := hK.sub (tys' := [(dK, .int), (dR, .int)]) [0, 1] rfl
        refine W.widen (k := 1) (n := 6) (by decide) (by decide) ?_
        refine vx_ret ?_
        exact W.iret (v := v105) hx hb hr (fun t ht hW => ⟨⟨v105, (), rfl, hpost, by rw [ht]; exact hP9, va_K.moved hW.alike hK9, hD9⟩, hS.F ht⟩) hS.2.2 d_PF_place_108
    · skip
      have c33 : ¬ ((0 : Int) ≤ k ∧ k ≤ (n2 - 1)) := bi_z h30 c33
      refine lv_iconst (v := (-1)) hx hb d_PF_place_36 (by decide) ?_
      have hpost : (0 ≤ wt ∧ wt ≤ 5) ∧ ((¬ (0 ≤ k ∧ k < n2) ∧ ((-1) : Int32).toInt = -1) ∨ ((0 ≤ k ∧ k < n2) ∧ ((-1) : Int32).toInt = plV (kg k.toNat).toInt (wg k.toNat).toInt wt)) := by
        refine ⟨by omega, Or.inl ⟨by omega, ?_⟩⟩
        decide
      have hP9 := hP.sub (ws' := [(hf, .inr (4, [.ref hq, .ref hp, .ref hst, .ref hld])), (hld, .inr (2, [.ref bk, .ref br, .int cnt2])), (bk, .inl (dK, 300, .inl kg)), (br, .inl (dR, 300, .inl wg))]) [0, 1, 2, 3] rfl
      have hD9 := hD.sub (ws' := [(hf, .inr (4, [.ref hq, .ref hp, .ref hst, .ref hld])), (hld, .inr (2, [.ref bk, .ref br, .int cnt2])), (bk, .inl (dK, 300, .inl kg)), (br, .inl (dR, 300, .inl wg))]) [0, 1, 2, 3] (by decide) rfl
      have hK9 := hK.sub (tys' := [(dK, .int), (dR, .int)]) [0, 1] rfl
      refine W.widen (k := 1) (n := 6) (by decide) (by decide) ?_
      refine vx_ret ?_
      exact W.iret (v := (-1)) hx hb hr (fun t ht hW => ⟨⟨(-1), (), rfl, hpost, by rw [ht]; exact hP9, va_K.moved hW.alike hK9, hD9⟩, hS.F ht⟩) hS.2.2 d_PF_place_37
  · skip
    have c6 : ¬ ((0 : Int) ≤ wt ∧ wt ≤ 5) := bi_z h3 c6
    have hpx : ¬ (0 ≤ wt ∧ wt ≤ 5) := by omega
    obtain ⟨sa, hstr⟩ := hTr (119, "what is 0 .. 5") (List.mem_of_getElem? (i := 0) rfl)
    exact vx_throwS (own := R_PF) (cls := R_IAE) (names := supsX) (A := A) hx hb hl9 hown (by decide) (by decide) (hts _ wd_182) (hts _ wd_9) hstr (hat_iae hts hTx) hg_iae hTz.1 hTz.2 hS (by rw [hml]; exact hl.1) d_PF_place_9 d_PF_place_12 d_PF_place_13 d_PF_place_15 d_PF_place_18 (fun x hx9 => (hex x hx9).elim) (Nat.le_of_ble_eq_true rfl) (Nat.le_of_ble_eq_true rfl) (Nat.le_of_ble_eq_true rfl) (Nat.le_of_ble_eq_true rfl) hlocks (xE_of hP hK hD hS hpx) hS.2.2 (Nat.le_of_ble_eq_true rfl) (Nat.le_of_ble_eq_true rfl)
