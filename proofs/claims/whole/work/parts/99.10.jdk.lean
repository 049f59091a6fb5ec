set_option maxHeartbeats 4000000 in
set_option maxRecDepth 100000 in
theorem c_bitCount (l : Launch) (dC : Nat → ClassId) (dI : Nat → Nat → Nat) (a0 : Int64) : Met l y_Long_bitCount (.code y_Long_bitCount b_Long_bitCount 2 (some .int) :: allw) ({ frames := 0, cells := 0, slots := 0, locals := 0 }) (va_Pc [.long a0] (ro_B (dC, dI) vwCl [] [])) (va_Qi (fun (r : Int32) (_ : Unit) => r.toInt = nb (fun i => lb a0 i) 64) (fun _ _ => True) (fun _ => False)) 0 0 (fun _ => False) := by
  refine Met.ofW (cc := b_Long_bitCount) (maxL := 2) (ret := (some .int)) (by decide) rfl ?_
  intro p e s m args below meth c s₁ B hml hv
  obtain ⟨rfl, hP, hK⟩ := hv
  have hx := B.exec
  have hb := B.bytes
  have hr := B.returns
  have hts : ∀ w ∈ allw, w.before _ s = true := fun w h => atoms_spec (ws := .code y_Long_bitCount b_Long_bitCount 2 (some .int) :: allw) B.pre w (List.mem_cons_of_mem _ h)
  have hown : s.vm.findClass R_Long = some m.cls := findClass_of_methodNamed B.named
  have hlocks := B.notSynchronized
  have hS : va_S (fun _ => False) s.heap s.heap [] := va_S.rf
  have hP : va_P (dC, dI) vwCl [] s.heap := hP
  have hl := lv_entry ([.long a0]) (n := 2) (Nat.le_of_ble_eq_true rfl)
  rw [lg_entry_eq]
  generalize (lg_sl ([.long a0]) ++ List.replicate (2 - (lg_sl ([.long a0])).length) Slot.unset).toArray = ls at hl ⊢
  have hl : lv_has ls 2 [(0, .long a0)] := hl
  refine lv_lload_n hx hb d_Long_bitCount_0 rfl (lv_at hl 0 rfl) ?_
  refine lv_lload_n hx hb d_Long_bitCount_1 rfl (lv_at hl 0 rfl) ?_
  refine lv_iconst (v := 1) hx hb d_Long_bitCount_2 (by decide) ?_
  refine lv_lushr hx hb d_Long_bitCount_3 rfl ?_
  refine lv_topl (fun v3 e3 => ?_)
  refine lv_ldc2 (v := 6148914691236517205) hx hb hown (hts _ wd_156) d_Long_bitCount_4 ?_
  refine lv_land hx hb d_Long_bitCount_7 ?_
  refine lv_topl (fun v7 e7 => ?_)
  refine lv_lsub hx hb d_Long_bitCount_8 ?_
  refine lv_topl (fun v8 e8 => ?_)
  refine lv_lstore_n (lv' := [(0, .long v8)]) hx hb d_Long_bitCount_9 rfl hl (by decide) rfl (fun ls hl => ?_)
  refine lv_lload_n hx hb d_Long_bitCount_10 rfl (lv_at hl 0 rfl) ?_
  refine lv_ldc2 (v := 3689348814741910323) hx hb hown (hts _ wd_157) d_Long_bitCount_11 ?_
  refine lv_land hx hb d_Long_bitCount_14 ?_
  refine lv_topl (fun v14 e14 => ?_)
  refine lv_lload_n hx hb d_Long_bitCount_15 rfl (lv_at hl 0 rfl) ?_
  refine lv_iconst (v := 2) hx hb d_Long_bitCount_16 (by decide) ?_
  refine lv_lushr hx hb d_Long_bitCount_17 rfl ?_
  refine lv_topl (fun v17 e17 => ?_)
  refine lv_ldc2 (v := 3689348814741910323) hx hb hown (hts _ wd_157) d_Long_bitCount_18 ?_
  refine lv_land hx hb d_Long_bitCount_21 ?_
  refine lv_topl (fun v21 e21 => ?_)
  refine lv_ladd hx hb d_Long_bitCount_22 ?_
  refine lv_topl (fun v22 e22 => ?_)
  refine lv_lstore_n (lv' := [(0, .long v22)]) hx hb d_Long_bitCount_23 rfl hl (by decide) rfl (fun ls hl => ?_)
  refine lv_lload_n hx hb d_Long_bitCount_24 rfl (lv_at hl 0 rfl) ?_
  refine lv_lload_n hx hb d_Long_bitCount_25 rfl (lv_at hl 0 rfl) ?_
  refine lv_iconst (v := 4) hx hb d_Long_bitCount_26 (by decide) ?_
  refine lv_lushr hx hb d_Long_bitCount_27 rfl ?_
  refine lv_topl (fun v27 e27 => ?_)
  refine lv_ladd hx hb d_Long_bitCount_28 ?_
  refine lv_topl (fun v28 e28 => ?_)
  refine lv_ldc2 (v := 1085102592571150095) hx hb hown (hts _ wd_158) d_Long_bitCount_29 ?_
  refine lv_land hx hb d_Long_bitCount_32 ?_
  refine lv_topl (fun v32 e32 => ?_)
  refine lv_lstore_n (lv' := [(0, .long v32)]) hx hb d_Long_bitCount_33 rfl hl (by decide) rfl (fun ls hl => ?_)
  refine lv_lload_n hx hb d_Long_bitCount_34 rfl (lv_at hl 0 rfl) ?_
  refine lv_lload_n hx hb d_Long_bitCount_35 rfl (lv_at hl 0 rfl) ?_
  refine lv_bipush (v := 8) hx hb d_Long_bitCount_36 (by decide) ?_
  refine lv_lushr hx hb d_Long_bitCount_38 rfl ?_
  refine lv_topl (fun v38 e38 => ?_)
  refine lv_ladd hx hb d_Long_bitCount_39 ?_
  refine lv_topl (fun v39 e39 => ?_)
  refine lv_lstore_n (lv' := [(0, .long v39)]) hx hb d_Long_bitCount_40 rfl hl (by decide) rfl (fun ls hl => ?_)
  refine lv_lload_n hx hb d_Long_bitCount_41 rfl (lv_at hl 0 rfl) ?_
  refine lv_lload_n hx hb d_Long_bitCount_42 rfl (lv_at hl 0 rfl) ?_
  refine lv_bipush (v := 16) hx hb d_Long_bitCount_43 (by decide) ?_
  refine lv_lushr hx hb d_Long_bitCount_45 rfl ?_
  refine lv_topl (fun v45 e45 => ?_)
  refine lv_ladd hx hb d_Long_bitCount_46 ?_
  refine lv_topl (fun v46 e46 => ?_)
  refine lv_lstore_n (lv' := [(0, .long v46)]) hx hb d_Long_bitCount_47 rfl hl (by decide) rfl (fun ls hl => ?_)
  refine lv_lload_n hx hb d_Long_bitCount_48 rfl (lv_at hl 0 rfl) ?_
  refine lv_lload_n hx hb d_Long_bitCount_49 rfl (lv_at hl 0 rfl) ?_
  refine lv_bipush (v := 32) hx hb d_Long_bitCount_50 (by decide) ?_
  refine lv_lushr hx hb d_Long_bitCount_52 rfl ?_
  refine lv_topl (fun v52 e52 => ?_)
  refine lv_ladd hx hb d_Long_bitCount_53 ?_
  refine lv_topl (fun v53 e53 => ?_)
  refine lv_lstore_n (lv' := [(0, .long v53)]) hx hb d_Long_bitCount_54 rfl hl (by decide) rfl (fun ls hl => ?_)
  refine lv_lload_n hx hb d_Long_bitCount_55 rfl (lv_at hl 0 rfl) ?_
  refine lv_l2i hx hb d_Long_bitCount_56 rfl ?_
  refine lv_topi (fun v56 e56 => ?_)
  refine lv_bipush (v := 127) hx hb d_Long_bitCount_57 (by decide) ?_
  refine lv_iand hx hb d_Long_bitCount_59 ?_
  refine lv_topi (fun v59 e59 => ?_)
  have hpost : v59.toInt = nb (fun i => lb a0 i) 64 := by
    refine bc_end (a := a0) (v5 := v8) (v9 := v22) (v14 := v32) (v20 := v39) (v27 := v46) (v34 := v53) (s1 := v3) (s2 := v17) (s4 := v27) (s8 := v38) (s16 := v45) (s32 := v52) ?_ (by rw [e8, e7]) ?_ (by rw [e22, e14, e21]) ?_ (by rw [e32, e28]) ?_ e39 ?_ e46 ?_ e53 (by rw [e59, e56])
    · rw [e3]; exact ln_ushr (k := 1) (by decide) (by decide) (by decide)
    · rw [e17]; exact ln_ushr (k := 2) (by decide) (by decide) (by decide)
    · rw [e27]; exact ln_ushr (k := 4) (by decide) (by decide) (by decide)
    · rw [e38]; exact ln_ushr (k := 8) (by decide) (by decide) (by decide)
    · rw [e45]; exact ln_ushr (k := 16) (by decide) (by decide) (by decide)
    · rw [e52]; exact ln_ushr (k := 32) (by decide) (by decide) (by decide)
  exact W.iret (v := v59) hx hb hr (fun t ht hW => ⟨⟨v59, (), rfl, hpost, trivial⟩, hS.F ht⟩) hS.2.2 d_Long_bitCount_60

set_option maxHeartbeats 4000000 in
set_option maxRecDepth 100000 in
theorem c_fillI (l : Launch) (dC : Nat → ClassId) (dI : Nat → Nat → Nat) (sz : Nat) (ha : Nat) (cA : ClassId) (N : Nat) (hN : N ≤ 1000000) (f : Nat → Int32) (a1 : Int32) : Met l y_Arrays_fillI (.code y_Arrays_fillI b_Arrays_fillI 4 none :: allw) ({ frames := 0, cells := 0, slots := 0, locals := 0 }) (va_Pc [.ref ha, .int a1] (rw_B (dC, dI) vwCl [(ha, .inl (cA, N, .inl f))] [(cA, .int)] sz)) (va_Qv (fun (u : Nat → Int32) => ∀ i : Nat, i < N → u i = a1) (fun u t => rw_E (dC, dI) vwCl [(ha, .inl (cA, N, .inl u))] [(cA, .int)] (va_A [(ha, .inl (cA, N, .inl f))] sz) t) (va_A [(ha, .inl (cA, N, .inl f))] sz)) 0 0 (va_A [(ha, .inl (cA, N, .inl f))] sz) := by
  refine Met.ofW (cc := b_Arrays_fillI) (maxL := 4) (ret := none) (by decide) rfl ?_
  intro p e s m args below meth c s₁ B hml hv
  obtain ⟨rfl, hsz, hP, hK, hD0⟩ := hv
  have hx := B.exec
  have hb := B.bytes
  have hr := B.returns
  have hts : ∀ w ∈ allw, w.before _ s = true := fun w h => atoms_spec (ws := .code y_Arrays_fillI b_Arrays_fillI 4 none :: allw) B.pre w (List.mem_cons_of_mem _ h)
  have hown : s.vm.findClass R_Arrays = some m.cls := findClass_of_methodNamed B.named
  have hlocks := B.notSynchronized
  subst hsz
  have hD := hD0.self (sz := s.heap.size)
  generalize hAe : va_A [(ha, .inl (cA, N, .inl f))] s.heap.size = A at hD ⊢
  have hA : ∀ q : Nat, s.heap.size ≤ q → A q := fun q h => by rw [← hAe]; exact Or.inr h
  have hS : va_S A s.heap s.heap [] := va_S.rf
  have hP : va_P (dC, dI) vwCl [(ha, .inl (cA, N, .inl f))] s.heap := hP
  have hl := lv_entry ([.ref ha, .int a1]) (n := 4) (Nat.le_of_ble_eq_true rfl)
  rw [lg_entry_eq]
  generalize (lg_sl ([.ref ha, .int a1]) ++ List.replicate (4 - (lg_sl ([.ref ha, .int a1])).length) Slot.unset).toArray = ls at hl ⊢
  have hl : lv_has ls 4 [(0, .ref ha), (1, .int a1)] := hl
  refine lv_iconst (v := 0) hx hb d_Arrays_fillI_0 (by decide) ?_
  refine lv_istore_n (lv' := [(2, .int 0), (0, .ref ha), (1, .int a1)]) hx hb d_Arrays_fillI_1 rfl hl (by decide) rfl (fun ls hl => ?_)
  refine lv_aload_n hx hb d_Arrays_fillI_2 rfl (lv_at hl 1 rfl) ?_
  refine va_alen (v := Int32.ofNat N) hx hb hK hP 0 0 rfl rfl rfl d_Arrays_fillI_3 ?_
  refine lv_topi (fun v3 e3 => ?_)
  have h3 : v3.toInt = ((N : Nat) : Int) := by rw [e3]; exact nI_toInt (by omega)
  refine lv_istore_n (lv' := [(3, .int v3), (2, .int 0), (0, .ref ha), (1, .int a1)]) hx hb d_Arrays_fillI_4 rfl hl (by decide) rfl (fun ls hl => ?_)
  refine w_loop (I := fun n H' locs' g' => ∃ (ii : Int32) (zii : Int) (fc : Nat → Int32) (ls : Array Slot), g' = F0 m 5 ls [] ∧ lv_has ls 4 [(0, .ref ha), (1, .int a1), (2, .int ii), (3, .int v3)] ∧ n = ((N : Int) - zii).toNat ∧ ii.toInt = zii ∧ (0 ≤ zii ∧ zii ≤ N) ∧ (∀ i : Nat, (i : Int) < zii → fc i = a1) ∧ va_P (dC, dI) vwCl [(ha, .inl (cA, N, .inl fc))] H' ∧ va_D A [(ha, .inl (cA, N, .inl fc))] ∧ va_S A s.heap H' locs') ?_ ⟨0, 0, f, ls, rfl, lv_sub hl [2, 3, 1, 0] rfl, rfl, (ti_k (by decide)), by omega, fun i q => by omega, hP, hD, hS⟩
  intro n5 H5 locs g' hI ih5
  obtain ⟨ii, zii, fc, ls, rfl, hl, hn, hii, i1, i2, hP, hD, hS⟩ := hI
  refine lv_iload_n hx hb d_Arrays_fillI_5 rfl (lv_at hl 2 rfl) ?_
  refine lv_iload_n hx hb d_Arrays_fillI_6 rfl (lv_at hl 3 rfl) ?_
  refine lv_icmp_ge (tgt := 20) hx hb d_Arrays_fillI_7 (by decide) (fun c7 => ?_) (fun c7 => ?_)
  · skip
    have c7 : ((N : Nat) : Int) ≤ zii := (ti_le h3 hii).mp c7
    have hpost : ∀ i : Nat, i < N → fc i = a1 := by
      exact fun i hi => i2 i (by omega)
    have hP9 := hP.sub (ws' := [(ha, .inl (cA, N, .inl fc))]) [0] rfl
    have hD9 := hD.sub (ws' := [(ha, .inl (cA, N, .inl fc))]) [0] (by decide) rfl
    have hK9 := hK.sub (tys' := [(cA, .int)]) [0] rfl
    exact W.vret hx hb hr (fun t ht hW => ⟨⟨fc, rfl, hpost, by rw [ht]; exact hP9, va_K.moved hW.alike hK9, hD9⟩, hS.F ht⟩) hS.2.2 d_Arrays_fillI_20
  · skip
    have c7 : ¬ (((N : Nat) : Int) ≤ zii) := fun q => c7 ((ti_le h3 hii).mpr q)
    refine lv_aload_n hx hb d_Arrays_fillI_10 rfl (lv_at hl 0 rfl) ?_
    refine lv_iload_n hx hb d_Arrays_fillI_11 rfl (lv_at hl 2 rfl) ?_
    refine lv_iload_n hx hb d_Arrays_fillI_12 rfl (lv_at hl 1 rfl) ?_
    have in13 : vp_in ii N := vi_in hii (by omega) (by omega)
    refine va_iast hx hb hK hP hD hS 0 0 rfl rfl in13 d_Arrays_fillI_13 (fun H13 locs hP hD hS => ?_)
    obtain ⟨f13, ef13⟩ : ∃ g, g = upd fc (ii).toNatClampNeg a1 := ⟨_, rfl⟩
    have hP : va_P (dC, dI) vwCl [(ha, .inl (cA, N, .inl f13))] H13 := by rw [ef13]; exact hP
    have hD : va_D A [(ha, .inl (cA, N, .inl f13))] := by rw [ef13]; exact hD
    have ef13 : f13 = upd fc (zii).toNat a1 := by rw [ef13, vi_cl hii]
    obtain ⟨v14, e14⟩ : ∃ y : Int32, y = ii + 1 := ⟨_, rfl⟩
    have h14 : v14.toInt = zii + 1 := by rw [e14]; exact ti_add hii (ti_k (by decide)) (by omega) (by omega)
    refine lv_iinc (v := v14) (lv' := [(2, .int v14), (0, .ref ha), (1, .int a1), (3, .int v3)]) hx hb d_Arrays_fillI_14 hl (k := 2) rfl (by rw [e14]; rfl) (by decide) rfl (fun ls hl => ?_)
    refine lv_goto (tgt := 5) hx hb d_Arrays_fillI_17 (by decide) ?_
    exact ih5 _ (by omega) _ _ _ ⟨v14, (zii + 1), f13, ls, rfl, lv_sub hl [1, 2, 0, 3] rfl, rfl, h14, by omega, fun i q => by rw [ef13]; by_cases z : i = zii.toNat <;> first | (rw [z, pk_us]) | (rw [pk_un z]; exact i2 i (by omega)), hP, hD, hS⟩

set_option maxHeartbeats 4000000 in
set_option maxRecDepth 100000 in
theorem c_fillJ (l : Launch) (dC : Nat → ClassId) (dI : Nat → Nat → Nat) (sz : Nat) (ha : Nat) (cA : ClassId) (N : Nat) (hN : N ≤ 1000000) (f : Nat → Int64) (a1 : Int64) : Met l y_Arrays_fillJ (.code y_Arrays_fillJ b_Arrays_fillJ 5 none :: allw) ({ frames := 0, cells := 0, slots := 0, locals := 0 }) (va_Pc [.ref ha, .long a1] (rw_B (dC, dI) vwCl [(ha, .inl (cA, N, .inr (.inl f)))] [(cA, .long)] sz)) (va_Qv (fun (u : Nat → Int64) => ∀ i : Nat, i < N → u i = a1) (fun u t => rw_E (dC, dI) vwCl [(ha, .inl (cA, N, .inr (.inl u)))] [(cA, .long)] (va_A [(ha, .inl (cA, N, .inr (.inl f)))] sz) t) (va_A [(ha, .inl (cA, N, .inr (.inl f)))] sz)) 0 0 (va_A [(ha, .inl (cA, N, .inr (.inl f)))] sz) := by
  refine Met.ofW (cc := b_Arrays_fillJ) (maxL := 5) (ret := none) (by decide) rfl ?_
  intro p e s m args below meth c s₁ B hml hv
  obtain ⟨rfl, hsz, hP, hK, hD0⟩ := hv
  have hx := B.exec
  have hb := B.bytes
  have hr := B.returns
  have hts : ∀ w ∈ allw, w.before _ s = true := fun w h => atoms_spec (ws := .code y_Arrays_fillJ b_Arrays_fillJ 5 none :: allw) B.pre w (List.mem_cons_of_mem _ h)
  have hown : s.vm.findClass R_Arrays = some m.cls := findClass_of_methodNamed B.named
  have hlocks := B.notSynchronized
  subst hsz
  have hD := hD0.self (sz := s.heap.size)
  generalize hAe : va_A [(ha, .inl (cA, N, .inr (.inl f)))] s.heap.size = A at hD ⊢
  have hA : ∀ q : Nat, s.heap.size ≤ q → A q := fun q h => by rw [← hAe]; exact Or.inr h
  have hS : va_S A s.heap s.heap [] := va_S.rf
  have hP : va_P (dC, dI) vwCl [(ha, .inl (cA, N, .inr (.inl f)))] s.heap := hP
  have hl := lv_entry ([.ref ha, .long a1]) (n := 5) (Nat.le_of_ble_eq_true rfl)
  rw [lg_entry_eq]
  generalize (lg_sl ([.ref ha, .long a1]) ++ List.replicate (5 - (lg_sl ([.ref ha, .long a1])).length) Slot.unset).toArray = ls at hl ⊢
  have hl : lv_has ls 5 [(0, .ref ha), (1, .long a1)] := hl
  refine lv_iconst (v := 0) hx hb d_Arrays_fillJ_0 (by decide) ?_
  refine lv_istore_n (lv' := [(3, .int 0), (0, .ref ha), (1, .long a1)]) hx hb d_Arrays_fillJ_1 rfl hl (by decide) rfl (fun ls hl => ?_)
  refine lv_aload_n hx hb d_Arrays_fillJ_2 rfl (lv_at hl 1 rfl) ?_
  refine va_alen (v := Int32.ofNat N) hx hb hK hP 0 0 rfl rfl rfl d_Arrays_fillJ_3 ?_
  refine lv_topi (fun v3 e3 => ?_)
  have h3 : v3.toInt = ((N : Nat) : Int) := by rw [e3]; exact nI_toInt (by omega)
  refine lv_istore (lv' := [(4, .int v3), (3, .int 0), (0, .ref ha), (1, .long a1)]) hx hb d_Arrays_fillJ_4 hl (by decide) rfl (fun ls hl => ?_)
  refine w_loop (I := fun n H' locs' g' => ∃ (ii : Int32) (zii : Int) (fc : Nat → Int64) (ls : Array Slot), g' = F0 m 6 ls [] ∧ lv_has ls 5 [(0, .ref ha), (1, .long a1), (3, .int ii), (4, .int v3)] ∧ n = ((N : Int) - zii).toNat ∧ ii.toInt = zii ∧ (0 ≤ zii ∧ zii ≤ N) ∧ (∀ i : Nat, (i : Int) < zii → fc i = a1) ∧ va_P (dC, dI) vwCl [(ha, .inl (cA, N, .inr (.inl fc)))] H' ∧ va_D A [(ha, .inl (cA, N, .inr (.inl fc)))] ∧ va_S A s.heap H' locs') ?_ ⟨0, 0, f, ls, rfl, lv_sub hl [2, 3, 1, 0] rfl, rfl, (ti_k (by decide)), by omega, fun i q => by omega, hP, hD, hS⟩
  intro n6 H6 locs g' hI ih6
  obtain ⟨ii, zii, fc, ls, rfl, hl, hn, hii, i1, i2, hP, hD, hS⟩ := hI
  refine lv_iload_n hx hb d_Arrays_fillJ_6 rfl (lv_at hl 2 rfl) ?_
  refine lv_iload hx hb d_Arrays_fillJ_7 (lv_at hl 3 rfl) ?_
  refine lv_icmp_ge (tgt := 22) hx hb d_Arrays_fillJ_9 (by decide) (fun c9 => ?_) (fun c9 => ?_)
  · skip
    have c9 : ((N : Nat) : Int) ≤ zii := (ti_le h3 hii).mp c9
    have hpost : ∀ i : Nat, i < N → fc i = a1 := by
      exact fun i hi => i2 i (by omega)
    have hP9 := hP.sub (ws' := [(ha, .inl (cA, N, .inr (.inl fc)))]) [0] rfl
    have hD9 := hD.sub (ws' := [(ha, .inl (cA, N, .inr (.inl fc)))]) [0] (by decide) rfl
    have hK9 := hK.sub (tys' := [(cA, .long)]) [0] rfl
    exact W.vret hx hb hr (fun t ht hW => ⟨⟨fc, rfl, hpost, by rw [ht]; exact hP9, va_K.moved hW.alike hK9, hD9⟩, hS.F ht⟩) hS.2.2 d_Arrays_fillJ_22
  · skip
    have c9 : ¬ (((N : Nat) : Int) ≤ zii) := fun q => c9 ((ti_le h3 hii).mpr q)
    refine lv_aload_n hx hb d_Arrays_fillJ_12 rfl (lv_at hl 0 rfl) ?_
    refine lv_iload_n hx hb d_Arrays_fillJ_13 rfl (lv_at hl 2 rfl) ?_
    refine lv_lload_n hx hb d_Arrays_fillJ_14 rfl (lv_at hl 1 rfl) ?_
    have in15 : vp_in ii N := vi_in hii (by omega) (by omega)
    refine va_last hx hb hK hP hD hS 0 0 rfl rfl in15 d_Arrays_fillJ_15 (fun H15 locs hP hD hS => ?_)
    obtain ⟨f15, ef15⟩ : ∃ g, g = vp_updL fc (ii).toNatClampNeg a1 := ⟨_, rfl⟩
    have hP : va_P (dC, dI) vwCl [(ha, .inl (cA, N, .inr (.inl f15)))] H15 := by rw [ef15]; exact hP
    have hD : va_D A [(ha, .inl (cA, N, .inr (.inl f15)))] := by rw [ef15]; exact hD
    have ef15 : f15 = vp_updL fc (zii).toNat a1 := by rw [ef15, vi_cl hii]
    obtain ⟨v16, e16⟩ : ∃ y : Int32, y = ii + 1 := ⟨_, rfl⟩
    have h16 : v16.toInt = zii + 1 := by rw [e16]; exact ti_add hii (ti_k (by decide)) (by omega) (by omega)
    refine lv_iinc (v := v16) (lv' := [(3, .int v16), (0, .ref ha), (1, .long a1), (4, .int v3)]) hx hb d_Arrays_fillJ_16 hl (k := 2) rfl (by rw [e16]; rfl) (by decide) rfl (fun ls hl => ?_)
    refine lv_goto (tgt := 6) hx hb d_Arrays_fillJ_19 (by decide) ?_
    exact ih6 _ (by omega) _ _ _ ⟨v16, (zii + 1), f15, ls, rfl, lv_sub hl [1, 2, 0, 3] rfl, rfl, h16, by omega, fun i q => by rw [ef15]; by_cases z : i = zii.toNat <;> first | (rw [z, pk_uLs]) | (rw [pk_uLn z]; exact i2 i (by omega)), hP, hD, hS⟩
