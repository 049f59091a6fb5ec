set_option maxHeartbeats 4000000 in
set_option maxRecDepth 100000 in
theorem c_takeLeaders (l : Launch) (dC : Nat → ClassId) (dI : Nat → Nat → Nat) (sz : Nat) (al ak ar : Nat) (cK cR : ClassId) (cnt : Int32) (kg wg : Nat → Int32) (al2 ak2 ar2 : Nat) (cK2 cR2 : ClassId) (cnt2 : Int32) (kf wf : Nat → Int32) (nc2 : Int) (hcnt2 : cnt2.toInt = nc2) (hn02 : 0 ≤ nc2) (hn12 : nc2 ≤ 300) (hkp : ∀ i : Nat, (i : Int) < nc2 → 0 ≤ (kf i).toInt) (hinc : ∀ a b : Nat, a < b → (b : Int) < nc2 → (kf a).toInt < (kf b).toInt) : Met l y_List_takeLeaders (.code y_List_takeLeaders b_List_takeLeaders 3 none :: allw) ({ frames := 3, cells := 0, slots := 0, locals := 65 }) (va_Pc [.ref al, .ref al2] (rw_B (dC, dI) vwCl [(al, .inr (2, [.ref ak, .ref ar, .int cnt])), (ak, .inl (cK, 300, .inl kg)), (ar, .inl (cR, 300, .inl wg)), (al2, .inr (2, [.ref ak2, .ref ar2, .int cnt2])), (ak2, .inl (cK2, 300, .inl kf)), (ar2, .inl (cR2, 300, .inl wf))] [(cK, .int), (cR, .int), (cK2, .int), (cR2, .int)] sz)) (va_Qv (fun (u : Int32 × (Nat → Int32) × (Nat → Int32)) => ldI kf wf nc2 u.2.1 u.2.2 u.1.toInt nc2) (fun u t => rw_E (dC, dI) vwCl [(al, .inr (2, [.ref ak, .ref ar, .int u.1])), (ak, .inl (cK, 300, .inl u.2.1)), (ar, .inl (cR, 300, .inl u.2.2)), (al2, .inr (2, [.ref ak2, .ref ar2, .int cnt2])), (ak2, .inl (cK2, 300, .inl kf)), (ar2, .inl (cR2, 300, .inl wf))] [(cK, .int), (cR, .int), (cK2, .int), (cR2, .int)] (va_A [(al, .inr (2, [.ref ak, .ref ar, .int cnt])), (ak, .inl (cK, 300, .inl kg)), (ar, .inl (cR, 300, .inl wg)), (al2, .inr (2, [.ref ak2, .ref ar2, .int cnt2])), (ak2, .inl (cK2, 300, .inl kf)), (ar2, .inl (cR2, 300, .inl wf))] sz) t) (va_A [(al, .inr (2, [.ref ak, .ref ar, .int cnt])), (ak, .inl (cK, 300, .inl kg)), (ar, .inl (cR, 300, .inl wg)), (al2, .inr (2, [.ref ak2, .ref ar2, .int cnt2])), (ak2, .inl (cK2, 300, .inl kf)), (ar2, .inl (cR2, 300, .inl wf))] sz)) 0 0 (va_A [(al, .inr (2, [.ref ak, .ref ar, .int cnt])), (ak, .inl (cK, 300, .inl kg)), (ar, .inl (cR, 300, .inl wg)), (al2, .inr (2, [.ref ak2, .ref ar2, .int cnt2])), (ak2, .inl (cK2, 300, .inl kf)), (ar2, .inl (cR2, 300, .inl wf))] sz) := by
  refine Met.ofW (cc := b_List_takeLeaders) (maxL := 3) (ret := none) (by decide) rfl ?_
  intro p e s m args below meth c s₁ B hml hv
  obtain ⟨rfl, hsz, hP, hK, hD0⟩ := hv
  have hx := B.exec
  have hb := B.bytes
  have hr := B.returns
  have hts : ∀ w ∈ allw, w.before _ s = true := fun w h => atoms_spec (ws := .code y_List_takeLeaders b_List_takeLeaders 3 none :: allw) B.pre w (List.mem_cons_of_mem _ h)
  have hown : s.vm.findClass R_List = some m.cls := findClass_of_methodNamed B.named
  have hlocks := B.notSynchronized
  subst hsz
  have hD := hD0.self (sz := s.heap.size)
  generalize hAe : va_A [(al, .inr (2, [.ref ak, .ref ar, .int cnt])), (ak, .inl (cK, 300, .inl kg)), (ar, .inl (cR, 300, .inl wg)), (al2, .inr (2, [.ref ak2, .ref ar2, .int cnt2])), (ak2, .inl (cK2, 300, .inl kf)), (ar2, .inl (cR2, 300, .inl wf))] s.heap.size = A at hD ⊢
  have hA : ∀ q : Nat, s.heap.size ≤ q → A q := fun q h => by rw [← hAe]; exact Or.inr h
  have hS : va_S A s.heap s.heap [] := va_S.rf
  have hP : va_P (dC, dI) vwCl [(al, .inr (2, [.ref ak, .ref ar, .int cnt])), (ak, .inl (cK, 300, .inl kg)), (ar, .inl (cR, 300, .inl wg)), (al2, .inr (2, [.ref ak2, .ref ar2, .int cnt2])), (ak2, .inl (cK2, 300, .inl kf)), (ar2, .inl (cR2, 300, .inl wf))] s.heap := hP
  have hl := lv_entry ([.ref al, .ref al2]) (n := 3) (Nat.le_of_ble_eq_true rfl)
  rw [lg_entry_eq]
  generalize (lg_sl ([.ref al, .ref al2]) ++ List.replicate (3 - (lg_sl ([.ref al, .ref al2])).length) Slot.unset).toArray = ls at hl ⊢
  have hl : lv_has ls 3 [(0, .ref al), (1, .ref al2)] := hl
  refine lv_aload_n hx hb d_List_takeLeaders_0 rfl (lv_at hl 0 rfl) ?_
  have hPc := hP.sub (ws' := [(al, .inr (2, [.ref ak, .ref ar, .int cnt]))]) [0] rfl
  have hKc := hK.sub (tys' := []) [] rfl
  have hDc := hD.sub (ws' := [(al, .inr (2, [.ref ak, .ref ar, .int cnt]))]) [0] (by decide) rfl
  have hFc := va_free (wc := [(al, .inr (2, [.ref ak, .ref ar, .int cnt]))]) hD hS hA [0] rfl
  refine va_callv (va_runV (As := []) (rest := []) ⟨hx, hb, hml, hown, hts⟩ (c_clear l dC dI s.heap.size al ak ar cnt) (aw_V 0 hts wd_501 wd_257 wd_258 wd_4 wd_259 rfl rfl (by decide +kernel) ⟨Nat.le_of_ble_eq_true rfl, Nat.le_of_ble_eq_true rfl⟩) ⟨rw_blind, va_recv hKc hPc (ci := 2) (q0 := 0) rfl rfl, rw_pre hPc hKc hDc⟩ rfl rfl hl.1 rfl (lv_room (Nat.le_of_ble_eq_true rfl)) d_List_takeLeaders_1 ⟨Nat.le_of_ble_eq_true rfl, Nat.le_of_ble_eq_true rfl⟩) hS (fun q _ h => hFc q h) hFc (fun u1_w t9 H1 locs ht hvm h1 hB hz1 hk1 hS => ?_)
  obtain ⟨hP1, _, hD1⟩ := hB
  rw [ht] at hP1
  try dsimp only at h1 hP1 hD1
  obtain ⟨hP, hD⟩ := va_join (wr := [(ak, .inl (cK, 300, .inl kg)), (ar, .inl (cR, 300, .inl wg)), (al2, .inr (2, [.ref ak2, .ref ar2, .int cnt2])), (ak2, .inl (cK2, 300, .inl kf)), (ar2, .inl (cR2, 300, .inl wf))]) (w1 := [(al, .inr (2, [.ref ak, .ref ar, .int 0]))]) hP hD [0] [1, 2, 3, 4, 5] rfl rfl (by decide) (by decide) hk1 hFc hP1 hD1
  have hP := hP.sub (ws' := [(al, .inr (2, [.ref ak, .ref ar, .int 0])), (ak, .inl (cK, 300, .inl kg)), (ar, .inl (cR, 300, .inl wg)), (al2, .inr (2, [.ref ak2, .ref ar2, .int cnt2])), (ak2, .inl (cK2, 300, .inl kf)), (ar2, .inl (cR2, 300, .inl wf))]) [5, 0, 1, 2, 3, 4] rfl
  have hD := hD.sub (ws' := [(al, .inr (2, [.ref ak, .ref ar, .int 0])), (ak, .inl (cK, 300, .inl kg)), (ar, .inl (cR, 300, .inl wg)), (al2, .inr (2, [.ref ak2, .ref ar2, .int cnt2])), (ak2, .inl (cK2, 300, .inl kf)), (ar2, .inl (cR2, 300, .inl wf))]) [5, 0, 1, 2, 3, 4] (by decide) rfl
  clear hPc hKc hDc hFc ht hvm hz1 hk1 hP1 hD1
  refine lv_iconst (v := 0) hx hb d_List_takeLeaders_4 (by decide) ?_
  refine lv_istore_n (lv' := [(2, .int 0), (0, .ref al), (1, .ref al2)]) hx hb d_List_takeLeaders_5 rfl hl (by decide) rfl (fun ls hl => ?_)
  refine w_loop (I := fun n H' locs' g' => ∃ (ii : Int32) (zii : Int) (nn : Int32) (zn : Int) (kc : Nat → Int32) (wc : Nat → Int32) (ls : Array Slot), g' = F0 m 6 ls [] ∧ lv_has ls 3 [(0, .ref al), (1, .ref al2), (2, .int ii)] ∧ n = (nc2 - zii).toNat ∧ ii.toInt = zii ∧ (0 ≤ zii ∧ zii ≤ nc2) ∧ (nn.toInt = zn) ∧ (ldI kf wf nc2 kc wc zn zii) ∧ va_P (dC, dI) vwCl [(al, .inr (2, [.ref ak, .ref ar, .int nn])), (ak, .inl (cK, 300, .inl kc)), (ar, .inl (cR, 300, .inl wc)), (al2, .inr (2, [.ref ak2, .ref ar2, .int cnt2])), (ak2, .inl (cK2, 300, .inl kf)), (ar2, .inl (cR2, 300, .inl wf))] H' ∧ va_D A [(al, .inr (2, [.ref ak, .ref ar, .int nn])), (ak, .inl (cK, 300, .inl kc)), (ar, .inl (cR, 300, .inl wc)), (al2, .inr (2, [.ref ak2, .ref ar2, .int cnt2])), (ak2, .inl (cK2, 300, .inl kf)), (ar2, .inl (cR2, 300, .inl wf))] ∧ va_S A s.heap H' locs') ?_ ⟨0, 0, 0, 0, kg, wg, ls, rfl, lv_sub hl [1, 2, 0] rfl, rfl, (ti_k (by decide)), by omega, rfl, ld_0, hP, hD, hS⟩
  intro n6 H6 locs g' hI ih6
  obtain ⟨ii, zii, nn, zn, kc, wc, ls, rfl, hl, hn, hii, i1, hn, i2, hP, hD, hS⟩ := hI
  have b2 := i2.1
  refine lv_iload_n hx hb d_List_takeLeaders_6 rfl (lv_at hl 2 rfl) ?_
  refine lv_aload_n hx hb d_List_takeLeaders_7 rfl (lv_at hl 1 rfl) ?_
  refine va_get (D := (dC, dI)) (ci := 2) (v := .int cnt2) (C := R_List) (T := T_List) (N := 3) hx hb hts i_List hown hK hP 3 rfl rfl 2 (by decide) (hts _ wd_69) (fun _ h9 => h9) rfl d_List_takeLeaders_8 ?_
  refine lv_icmp_ge (tgt := 45) hx hb d_List_takeLeaders_11 (by decide) (fun c11 => ?_) (fun c11 => ?_)
  · skip
    have c11 : nc2 ≤ zii := (ti_le hcnt2 hii).mp c11
    have hpost : ldI kf wf nc2 kc wc (nn : Int32).toInt nc2 := by
      have e : zii = nc2 := by omega
      rw [e] at i2
      first | (rw [hn]; exact i2) | exact i2
    have hP9 := hP.sub (ws' := [(al, .inr (2, [.ref ak, .ref ar, .int nn])), (ak, .inl (cK, 300, .inl kc)), (ar, .inl (cR, 300, .inl wc)), (al2, .inr (2, [.ref ak2, .ref ar2, .int cnt2])), (ak2, .inl (cK2, 300, .inl kf)), (ar2, .inl (cR2, 300, .inl wf))]) [0, 1, 2, 3, 4, 5] rfl
    have hD9 := hD.sub (ws' := [(al, .inr (2, [.ref ak, .ref ar, .int nn])), (ak, .inl (cK, 300, .inl kc)), (ar, .inl (cR, 300, .inl wc)), (al2, .inr (2, [.ref ak2, .ref ar2, .int cnt2])), (ak2, .inl (cK2, 300, .inl kf)), (ar2, .inl (cR2, 300, .inl wf))]) [0, 1, 2, 3, 4, 5] (by decide) rfl
    have hK9 := hK.sub (tys' := [(cK, .int), (cR, .int), (cK2, .int), (cR2, .int)]) [0, 1, 2, 3] rfl
    exact W.vret hx hb hr (fun t ht hW => ⟨⟨(nn, kc, wc), rfl, hpost, by rw [ht]; exact hP9, va_K.moved hW.alike hK9, hD9⟩, hS.F ht⟩) hS.2.2 d_List_takeLeaders_45
  · skip
    have c11 : ¬ (nc2 ≤ zii) := fun q => c11 ((ti_le hcnt2 hii).mpr q)
    refine lv_aload_n hx hb d_List_takeLeaders_14 rfl (lv_at hl 1 rfl) ?_
    refine lv_iload_n hx hb d_List_takeLeaders_15 rfl (lv_at hl 2 rfl) ?_
    have hPc := hP.sub (ws' := [(al2, .inr (2, [.ref ak2, .ref ar2, .int cnt2])), (ak2, .inl (cK2, 300, .inl kf)), (ar2, .inl (cR2, 300, .inl wf))]) [3, 4, 5] rfl
    have hKc := hK.sub (tys' := [(cK2, .int), (cR2, .int)]) [2, 3] rfl
    refine va_calli (va_runV (As := [.int ii]) (rest := []) ⟨hx, hb, hml, hown, hts⟩ (c_leads l dC dI al2 ak2 ar2 cK2 cR2 cnt2 kf wf nc2 hcnt2 hn02 hn12 ii zii hii (by omega) (by omega) hkp) (aw_V 1 hts wd_502 wd_504 ws_26 wd_4 wd_505 rfl rfl (by decide +kernel) ⟨Nat.le_of_ble_eq_true rfl, Nat.le_of_ble_eq_true rfl⟩) ⟨ro_blind, va_recv hKc hPc (ci := 2) (q0 := 0) rfl rfl, ro_pre hPc hKc⟩ rfl rfl hl.1 rfl (lv_room (Nat.le_of_ble_eq_true rfl)) d_List_takeLeaders_16 ⟨Nat.le_of_ble_eq_true rfl, Nat.le_of_ble_eq_true rfl⟩) hS (fun q _ h => h.elim) (fun q h => h.elim) (fun v16 _ t9 H16 locs ht hvm h16 hB hz1 hk1 hS => ?_)
    have hP := ro_keep hP hk1
    clear hPc hKc ht hvm hB hz1 hk1
    refine lv_if_eq (tgt := 39) hx hb d_List_takeLeaders_19 (by decide) (fun c19 => ?_) (fun c19 => ?_)
    · skip
      have c19 : ¬ (lead nc2 kf wf zii) := bi_z h16 c19
      obtain ⟨v39, e39⟩ : ∃ y : Int32, y = ii + 1 := ⟨_, rfl⟩
      have h39 : v39.toInt = zii + 1 := by rw [e39]; exact ti_add hii (ti_k (by decide)) (by omega) (by omega)
      refine lv_iinc (v := v39) (lv' := [(2, .int v39), (0, .ref al), (1, .ref al2)]) hx hb d_List_takeLeaders_39 hl (k := 2) rfl (by rw [e39]; rfl) (by decide) rfl (fun ls hl => ?_)
      refine lv_goto (tgt := 6) hx hb d_List_takeLeaders_42 (by decide) ?_
      exact ih6 _ (by omega) _ _ _ ⟨v39, (zii + 1), nn, zn, kc, wc, ls, rfl, lv_sub hl [1, 2, 0] rfl, rfl, h39, by omega, by first | exact hn | rfl, by first | exact ld_no i2 c19 | exact ld35, hP, hD, hS⟩
    · skip
      have c19 : lead nc2 kf wf zii := bi_nz h16 c19
      refine lv_aload_n hx hb d_List_takeLeaders_22 rfl (lv_at hl 0 rfl) ?_
      refine lv_aload_n hx hb d_List_takeLeaders_23 rfl (lv_at hl 1 rfl) ?_
      refine va_get (D := (dC, dI)) (ci := 2) (v := .ref ak2) (C := R_List) (T := T_List) (N := 3) hx hb hts i_List hown hK hP 3 rfl rfl 0 (by decide) (hts _ wd_65) (fun _ h9 => h9) rfl d_List_takeLeaders_24 ?_
      refine lv_iload_n hx hb d_List_takeLeaders_27 rfl (lv_at hl 2 rfl) ?_
      have in28 : vp_in ii 300 := vi_in hii (by omega) (by omega)
      refine va_iald hx hb hK hP 4 2 rfl rfl in28 d_List_takeLeaders_28 ?_
      refine lv_topi (fun v28 e28 => ?_)
      have e28 : v28 = kf (zii).toNat := by rw [e28, vi_cl hii]
      refine lv_aload_n hx hb d_List_takeLeaders_29 rfl (lv_at hl 1 rfl) ?_
      refine va_get (D := (dC, dI)) (ci := 2) (v := .ref ar2) (C := R_List) (T := T_List) (N := 3) hx hb hts i_List hown hK hP 3 rfl rfl 1 (by decide) (hts _ wd_67) (fun _ h9 => h9) rfl d_List_takeLeaders_30 ?_
      refine lv_iload_n hx hb d_List_takeLeaders_33 rfl (lv_at hl 2 rfl) ?_
      have in34 : vp_in ii 300 := vi_in hii (by omega) (by omega)
      refine va_iald hx hb hK hP 5 3 rfl rfl in34 d_List_takeLeaders_34 ?_
      refine lv_topi (fun v34 e34 => ?_)
      have e34 : v34 = wf (zii).toNat := by rw [e34, vi_cl hii]
      have hPc := hP.sub (ws' := [(al, .inr (2, [.ref ak, .ref ar, .int nn])), (ak, .inl (cK, 300, .inl kc)), (ar, .inl (cR, 300, .inl wc))]) [0, 1, 2] rfl
      have hKc := hK.sub (tys' := [(cK, .int), (cR, .int)]) [0, 1] rfl
      have hDc := hD.sub (ws' := [(al, .inr (2, [.ref ak, .ref ar, .int nn])), (ak, .inl (cK, 300, .inl kc)), (ar, .inl (cR, 300, .inl wc))]) [0, 1, 2] (by decide) rfl
      have hFc := va_free (wc := [(al, .inr (2, [.ref ak, .ref ar, .int nn])), (ak, .inl (cK, 300, .inl kc)), (ar, .inl (cR, 300, .inl wc))]) hD hS hA [0, 1, 2] rfl
      refine va_calli (va_runV (As := [.int v28, .int v34]) (rest := []) ⟨hx, hb, hml, hown, hts⟩ (c_add l dC dI H16.size al ak ar cK cR nn kc wc zn hn (by omega) (by omega) v28 v34 ((kf zii.toNat).toInt) ((wf zii.toNat).toInt) (congrArg Int32.toInt e28) (congrArg Int32.toInt e34)) (aw_V 2 hts wd_513 wd_494 wd_495 wd_4 wd_496 rfl rfl (by decide +kernel) ⟨Nat.le_of_ble_eq_true rfl, Nat.le_of_ble_eq_true rfl⟩) ⟨rw_blind, va_recv hKc hPc (ci := 2) (q0 := 0) rfl rfl, rw_pre hPc hKc hDc⟩ rfl rfl hl.1 rfl (lv_room (Nat.le_of_ble_eq_true rfl)) d_List_takeLeaders_35 ⟨Nat.le_of_ble_eq_true rfl, Nat.le_of_ble_eq_true rfl⟩) hS (fun q _ h => hFc q h) hFc (fun v35 u t9 H35 locs ht hvm h35 hB hz1 hk1 hS => ?_)
      obtain ⟨u35_cnt, u35_kf, u35_wf⟩ := u
      obtain ⟨hP1, _, hD1⟩ := hB
      rw [ht] at hP1
      try dsimp only at h35 hP1 hD1
      obtain ⟨hP, hD⟩ := va_join (wr := [(al2, .inr (2, [.ref ak2, .ref ar2, .int cnt2])), (ak2, .inl (cK2, 300, .inl kf)), (ar2, .inl (cR2, 300, .inl wf))]) (w1 := [(al, .inr (2, [.ref ak, .ref ar, .int u35_cnt])), (ak, .inl (cK, 300, .inl u35_kf)), (ar, .inl (cR, 300, .inl u35_wf))]) hP hD [0, 1, 2] [3, 4, 5] rfl rfl (by decide) (by decide) hk1 hFc hP1 hD1
      have hP := hP.sub (ws' := [(al, .inr (2, [.ref ak, .ref ar, .int u35_cnt])), (ak, .inl (cK, 300, .inl u35_kf)), (ar, .inl (cR, 300, .inl u35_wf)), (al2, .inr (2, [.ref ak2, .ref ar2, .int cnt2])), (ak2, .inl (cK2, 300, .inl kf)), (ar2, .inl (cR2, 300, .inl wf))]) [3, 4, 5, 0, 1, 2] rfl
      have hD := hD.sub (ws' := [(al, .inr (2, [.ref ak, .ref ar, .int u35_cnt])), (ak, .inl (cK, 300, .inl u35_kf)), (ar, .inl (cR, 300, .inl u35_wf)), (al2, .inr (2, [.ref ak2, .ref ar2, .int cnt2])), (ak2, .inl (cK2, 300, .inl kf)), (ar2, .inl (cR2, 300, .inl wf))]) [3, 4, 5, 0, 1, 2] (by decide) rfl
      clear hPc hKc hDc hFc ht hvm hz1 hk1 hP1 hD1
      have ld35 : ldI kf wf nc2 u35_kf u35_wf u35_cnt.toInt (zii + 1) := by
        rcases h35 with ⟨r1, _⟩ | ⟨r1, _, r2, r3⟩
        · omega
        · rw [r2]; exact ld_yes i2 (by omega) (by omega) hinc c19 (by rw [e28, e34] at r3; exact r3)
      refine lv_pop hx hb d_List_takeLeaders_38 rfl ?_
      obtain ⟨v39, e39⟩ : ∃ y : Int32, y = ii + 1 := ⟨_, rfl⟩
      have h39 : v39.toInt = zii + 1 := by rw [e39]; exact ti_add hii (ti_k (by decide)) (by omega) (by omega)
      refine lv_iinc (v := v39) (lv' := [(2, .int v39), (0, .ref al), (1, .ref al2)]) hx hb d_List_takeLeaders_39 hl (k := 2) rfl (by rw [e39]; rfl) (by decide) rfl (fun ls hl => ?_)
      refine lv_goto (tgt := 6) hx hb d_List_takeLeaders_42 (by decide) ?_
      exact ih6 _ (by omega) _ _ _ ⟨v39, (zii + 1), u35_cnt, (u35_cnt.toInt), u35_kf, u35_wf, ls, rfl, lv_sub hl [1, 2, 0] rfl, rfl, h39, by omega, by first | exact hn | rfl, by first | exact ld_no i2 c19 | exact ld35, hP, hD, hS⟩
