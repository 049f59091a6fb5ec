set_option maxHeartbeats 4000000 in
set_option maxRecDepth 100000 in
theorem c_isBetter (l : Launch) (dC : Nat → ClassId) (dI : Nat → Nat → Nat) (al ak ar : Nat) (cK cR : ClassId) (cnt : Int32) (kf wf : Nat → Int32) (nc : Int) (hcnt : cnt.toInt = nc) (hn0 : 0 ≤ nc) (hn1 : nc ≤ 300) (a1 a2 : Int32) (o t : Int) (g1 : a1.toInt = o) (g2 : a2.toInt = t) (o0 : 0 ≤ o) (o1 : o < nc) (t0 : 0 ≤ t) (t1 : t < nc) : Met l y_List_isBetter (.code y_List_isBetter b_List_isBetter 3 (some .boolean) :: allw) ({ frames := 0, cells := 0, slots := 0, locals := 0 }) (va_Pc [.ref al, .int a1, .int a2] (ro_B (dC, dI) vwCl [(al, .inr (2, [.ref ak, .ref ar, .int cnt])), (ak, .inl (cK, 300, .inl kf)), (ar, .inl (cR, 300, .inl wf))] [(cK, .int), (cR, .int)])) (va_Qi (fun (r : Int32) (_ : Unit) => isB r (better wf o t)) (fun _ _ => True) (fun _ => False)) 0 0 (fun _ => False) := by
  refine Met.ofW (cc := b_List_isBetter) (maxL := 3) (ret := (some .boolean)) (by decide) rfl ?_
  intro p e s m args below meth c s₁ B hml hv
  obtain ⟨rfl, hP, hK⟩ := hv
  have hx := B.exec
  have hb := B.bytes
  have hr := B.returns
  have hts : ∀ w ∈ allw, w.before _ s = true := fun w h => atoms_spec (ws := .code y_List_isBetter b_List_isBetter 3 (some .boolean) :: allw) B.pre w (List.mem_cons_of_mem _ h)
  have hown : s.vm.findClass R_List = some m.cls := findClass_of_methodNamed B.named
  have hlocks := B.notSynchronized
  have hS : va_S (fun _ => False) s.heap s.heap [] := va_S.rf
  have hP : va_P (dC, dI) vwCl [(al, .inr (2, [.ref ak, .ref ar, .int cnt])), (ak, .inl (cK, 300, .inl kf)), (ar, .inl (cR, 300, .inl wf))] s.heap := hP
  have hl := lv_entry ([.ref al, .int a1, .int a2]) (n := 3) (Nat.le_of_ble_eq_true rfl)
  rw [lg_entry_eq]
  generalize (lg_sl ([.ref al, .int a1, .int a2]) ++ List.replicate (3 - (lg_sl ([.ref al, .int a1, .int a2])).length) Slot.unset).toArray = ls at hl ⊢
  have hl : lv_has ls 3 [(0, .ref al), (1, .int a1), (2, .int a2)] := hl
  refine lv_aload_n hx hb d_List_isBetter_0 rfl (lv_at hl 0 rfl) ?_
  refine va_get (D := (dC, dI)) (ci := 2) (v := .ref ar) (C := R_List) (T := T_List) (N := 3) hx hb hts i_List hown hK hP 0 rfl rfl 1 (by decide) (hts _ wd_67) (fun _ h9 => h9) rfl d_List_isBetter_1 ?_
  refine lv_iload_n hx hb d_List_isBetter_4 rfl (lv_at hl 1 rfl) ?_
  have in5 : vp_in a1 300 := vi_in g1 (by omega) (by omega)
  refine va_iald hx hb hK hP 2 1 rfl rfl in5 d_List_isBetter_5 ?_
  refine lv_topi (fun v5 e5 => ?_)
  have e5 : v5 = wf (o).toNat := by rw [e5, vi_cl g1]
  refine lv_aload_n hx hb d_List_isBetter_6 rfl (lv_at hl 0 rfl) ?_
  refine va_get (D := (dC, dI)) (ci := 2) (v := .ref ar) (C := R_List) (T := T_List) (N := 3) hx hb hts i_List hown hK hP 0 rfl rfl 1 (by decide) (hts _ wd_67) (fun _ h9 => h9) rfl d_List_isBetter_7 ?_
  refine lv_iload_n hx hb d_List_isBetter_10 rfl (lv_at hl 2 rfl) ?_
  have in11 : vp_in a2 300 := vi_in g2 (by omega) (by omega)
  refine va_iald hx hb hK hP 2 1 rfl rfl in11 d_List_isBetter_11 ?_
  refine lv_topi (fun v11 e11 => ?_)
  have e11 : v11 = wf (t).toNat := by rw [e11, vi_cl g2]
  refine lv_icmp_lt (tgt := 35) hx hb d_List_isBetter_12 (by decide) (fun c12 => ?_) (fun c12 => ?_)
  · skip
    have c12 : (wf o.toNat).toInt < (wf t.toNat).toInt := (ti_lt (congrArg Int32.toInt e5) (congrArg Int32.toInt e11)).mp c12
    refine lv_iconst (v := 1) hx hb d_List_isBetter_35 (by decide) ?_
    refine lv_goto (tgt := 40) hx hb d_List_isBetter_36 (by decide) ?_
    have hpost : isB 1 (better wf o t) := by
      refine Or.inl ⟨rfl, ?_⟩
      unfold better
      omega
    exact W.zret (v := 1) hx hb hr (by decide) (fun t ht hW => ⟨⟨1, (), rfl, hpost, trivial⟩, hS.F ht⟩) hS.2.2 d_List_isBetter_40
  · skip
    have c12 : ¬ ((wf o.toNat).toInt < (wf t.toNat).toInt) := fun q => c12 ((ti_lt (congrArg Int32.toInt e5) (congrArg Int32.toInt e11)).mpr q)
    refine lv_aload_n hx hb d_List_isBetter_15 rfl (lv_at hl 0 rfl) ?_
    refine va_get (D := (dC, dI)) (ci := 2) (v := .ref ar) (C := R_List) (T := T_List) (N := 3) hx hb hts i_List hown hK hP 0 rfl rfl 1 (by decide) (hts _ wd_67) (fun _ h9 => h9) rfl d_List_isBetter_16 ?_
    refine lv_iload_n hx hb d_List_isBetter_19 rfl (lv_at hl 1 rfl) ?_
    have in20 : vp_in a1 300 := vi_in g1 (by omega) (by omega)
    refine va_iald hx hb hK hP 2 1 rfl rfl in20 d_List_isBetter_20 ?_
    refine lv_topi (fun v20 e20 => ?_)
    have e20 : v20 = wf (o).toNat := by rw [e20, vi_cl g1]
    refine lv_aload_n hx hb d_List_isBetter_21 rfl (lv_at hl 0 rfl) ?_
    refine va_get (D := (dC, dI)) (ci := 2) (v := .ref ar) (C := R_List) (T := T_List) (N := 3) hx hb hts i_List hown hK hP 0 rfl rfl 1 (by decide) (hts _ wd_67) (fun _ h9 => h9) rfl d_List_isBetter_22 ?_
    refine lv_iload_n hx hb d_List_isBetter_25 rfl (lv_at hl 2 rfl) ?_
    have in26 : vp_in a2 300 := vi_in g2 (by omega) (by omega)
    refine va_iald hx hb hK hP 2 1 rfl rfl in26 d_List_isBetter_26 ?_
    refine lv_topi (fun v26 e26 => ?_)
    have e26 : v26 = wf (t).toNat := by rw [e26, vi_cl g2]
    refine lv_icmp_ne (tgt := 39) hx hb d_List_isBetter_27 (by decide) (fun c27 => ?_) (fun c27 => ?_)
    · skip
      have c27 : ¬ ((wf o.toNat).toInt = (wf t.toNat).toInt) := fun q => c27 ((ti_eq (congrArg Int32.toInt e20) (congrArg Int32.toInt e26)).mpr q)
      refine lv_iconst (v := 0) hx hb d_List_isBetter_39 (by decide) ?_
      have hpost : isB 0 (better wf o t) := by
        refine Or.inr ⟨rfl, ?_⟩
        unfold better
        omega
      exact W.zret (v := 0) hx hb hr (by decide) (fun t ht hW => ⟨⟨0, (), rfl, hpost, trivial⟩, hS.F ht⟩) hS.2.2 d_List_isBetter_40
    · skip
      have c27 : (wf o.toNat).toInt = (wf t.toNat).toInt := (ti_eq (congrArg Int32.toInt e20) (congrArg Int32.toInt e26)).mp c27
      refine lv_iload_n hx hb d_List_isBetter_30 rfl (lv_at hl 1 rfl) ?_
      refine lv_iload_n hx hb d_List_isBetter_31 rfl (lv_at hl 2 rfl) ?_
      refine lv_icmp_ge (tgt := 39) hx hb d_List_isBetter_32 (by decide) (fun c32 => ?_) (fun c32 => ?_)
      · skip
        have c32 : t ≤ o := (ti_le g2 g1).mp c32
        refine lv_iconst (v := 0) hx hb d_List_isBetter_39 (by decide) ?_
        have hpost : isB 0 (better wf o t) := by
          refine Or.inr ⟨rfl, ?_⟩
          unfold better
          omega
        exact W.zret (v := 0) hx hb hr (by decide) (fun t ht hW => ⟨⟨0, (), rfl, hpost, trivial⟩, hS.F ht⟩) hS.2.2 d_List_isBetter_40
      · skip
        have c32 : ¬ (t ≤ o) := fun q => c32 ((ti_le g2 g1).mpr q)
        refine lv_iconst (v := 1) hx hb d_List_isBetter_35 (by decide) ?_
        refine lv_goto (tgt := 40) hx hb d_List_isBetter_36 (by decide) ?_
        have hpost : isB 1 (better wf o t) := by
          refine Or.inl ⟨rfl, ?_⟩
          unfold better
          omega
        exact W.zret (v := 1) hx hb hr (by decide) (fun t ht hW => ⟨⟨1, (), rfl, hpost, trivial⟩, hS.F ht⟩) hS.2.2 d_List_isBetter_40

set_option maxHeartbeats 4000000 in
set_option maxRecDepth 100000 in
theorem c_add (l : Launch) (dC : Nat → ClassId) (dI : Nat → Nat → Nat) (sz : Nat) (al ak ar : Nat) (cK cR : ClassId) (cnt : Int32) (kf wf : Nat → Int32) (nc : Int) (hcnt : cnt.toInt = nc) (hn0 : 0 ≤ nc) (hn1 : nc ≤ 300) (a1 a2 : Int32) (K X : Int) (g1 : a1.toInt = K) (g2 : a2.toInt = X) : Met l y_List_add (.code y_List_add b_List_add 4 (some .boolean) :: allw) ({ frames := 0, cells := 0, slots := 0, locals := 0 }) (va_Pc [.ref al, .int a1, .int a2] (rw_B (dC, dI) vwCl [(al, .inr (2, [.ref ak, .ref ar, .int cnt])), (ak, .inl (cK, 300, .inl kf)), (ar, .inl (cR, 300, .inl wf))] [(cK, .int), (cR, .int)] sz)) (va_Qi (fun (r : Int32) (u : Int32 × (Nat → Int32) × (Nat → Int32)) => (nc = 300 ∧ r = 0 ∧ u.1 = cnt ∧ u.2.1 = kf ∧ u.2.2 = wf) ∨ (nc < 300 ∧ r = 1 ∧ u.1.toInt = nc + 1 ∧ isIns nc a1 a2 kf wf u.2.1 u.2.2)) (fun u t => rw_E (dC, dI) vwCl [(al, .inr (2, [.ref ak, .ref ar, .int u.1])), (ak, .inl (cK, 300, .inl u.2.1)), (ar, .inl (cR, 300, .inl u.2.2))] [(cK, .int), (cR, .int)] (va_A [(al, .inr (2, [.ref ak, .ref ar, .int cnt])), (ak, .inl (cK, 300, .inl kf)), (ar, .inl (cR, 300, .inl wf))] sz) t) (va_A [(al, .inr (2, [.ref ak, .ref ar, .int cnt])), (ak, .inl (cK, 300, .inl kf)), (ar, .inl (cR, 300, .inl wf))] sz)) 0 0 (va_A [(al, .inr (2, [.ref ak, .ref ar, .int cnt])), (ak, .inl (cK, 300, .inl kf)), (ar, .inl (cR, 300, .inl wf))] sz) := by
  refine Met.ofW (cc := b_List_add) (maxL := 4) (ret := (some .boolean)) (by decide) rfl ?_
  intro p e s m args below meth c s₁ B hml hv
  obtain ⟨rfl, hsz, hP, hK, hD0⟩ := hv
  have hx := B.exec
  have hb := B.bytes
  have hr := B.returns
  have hts : ∀ w ∈ allw, w.before _ s = true := fun w h => atoms_spec (ws := .code y_List_add b_List_add 4 (some .boolean) :: allw) B.pre w (List.mem_cons_of_mem _ h)
  have hown : s.vm.findClass R_List = some m.cls := findClass_of_methodNamed B.named
  have hlocks := B.notSynchronized
  subst hsz
  have hD := hD0.self (sz := s.heap.size)
  generalize hAe : va_A [(al, .inr (2, [.ref ak, .ref ar, .int cnt])), (ak, .inl (cK, 300, .inl kf)), (ar, .inl (cR, 300, .inl wf))] s.heap.size = A at hD ⊢
  have hA : ∀ q : Nat, s.heap.size ≤ q → A q := fun q h => by rw [← hAe]; exact Or.inr h
  have hS : va_S A s.heap s.heap [] := va_S.rf
  have hP : va_P (dC, dI) vwCl [(al, .inr (2, [.ref ak, .ref ar, .int cnt])), (ak, .inl (cK, 300, .inl kf)), (ar, .inl (cR, 300, .inl wf))] s.heap := hP
  have hl := lv_entry ([.ref al, .int a1, .int a2]) (n := 4) (Nat.le_of_ble_eq_true rfl)
  rw [lg_entry_eq]
  generalize (lg_sl ([.ref al, .int a1, .int a2]) ++ List.replicate (4 - (lg_sl ([.ref al, .int a1, .int a2])).length) Slot.unset).toArray = ls at hl ⊢
  have hl : lv_has ls 4 [(0, .ref al), (1, .int a1), (2, .int a2)] := hl
  refine lv_aload_n hx hb d_List_add_0 rfl (lv_at hl 0 rfl) ?_
  refine va_get (D := (dC, dI)) (ci := 2) (v := .int cnt) (C := R_List) (T := T_List) (N := 3) hx hb hts i_List hown hK hP 0 rfl rfl 2 (by decide) (hts _ wd_69) (fun _ h9 => h9) rfl d_List_add_1 ?_
  refine lv_if_lt (tgt := 17) hx hb d_List_add_4 (by decide) (fun c4 => ?_) (fun c4 => ?_)
  · skip
    have c4 : nc < 0 := (ti_lt hcnt (ti_k (by decide))).mp c4
    refine lv_iconst (v := 0) hx hb d_List_add_17 (by decide) ?_
    have hpost : (nc = 300 ∧ (0 : Int32) = 0 ∧ cnt = cnt ∧ kf = kf ∧ wf = wf) ∨ (nc < 300 ∧ (0 : Int32) = 1 ∧ cnt.toInt = nc + 1 ∧ isIns nc a1 a2 kf wf kf wf) := by
      exact Or.inl ⟨by omega, rfl, rfl, rfl, rfl⟩
    have hP9 := hP.sub (ws' := [(al, .inr (2, [.ref ak, .ref ar, .int cnt])), (ak, .inl (cK, 300, .inl kf)), (ar, .inl (cR, 300, .inl wf))]) [0, 1, 2] rfl
    have hD9 := hD.sub (ws' := [(al, .inr (2, [.ref ak, .ref ar, .int cnt])), (ak, .inl (cK, 300, .inl kf)), (ar, .inl (cR, 300, .inl wf))]) [0, 1, 2] (by decide) rfl
    have hK9 := hK.sub (tys' := [(cK, .int), (cR, .int)]) [0, 1] rfl
    exact W.zret (v := 0) hx hb hr (by decide) (fun t ht hW => ⟨⟨0, (cnt, kf, wf), rfl, hpost, by rw [ht]; exact hP9, va_K.moved hW.alike hK9, hD9⟩, hS.F ht⟩) hS.2.2 d_List_add_18
  · skip
    have c4 : ¬ (nc < 0) := fun q => c4 ((ti_lt hcnt (ti_k (by decide))).mpr q)
    refine lv_aload_n hx hb d_List_add_7 rfl (lv_at hl 0 rfl) ?_
    refine va_get (D := (dC, dI)) (ci := 2) (v := .int cnt) (C := R_List) (T := T_List) (N := 3) hx hb hts i_List hown hK hP 0 rfl rfl 2 (by decide) (hts _ wd_69) (fun _ h9 => h9) rfl d_List_add_8 ?_
    refine lv_sipush (v := 300) hx hb d_List_add_11 (by decide) ?_
    refine lv_icmp_lt (tgt := 19) hx hb d_List_add_14 (by decide) (fun c14 => ?_) (fun c14 => ?_)
    · skip
      have c14 : nc < 300 := (ti_lt hcnt (ti_k (by decide))).mp c14
      refine lv_aload_n hx hb d_List_add_19 rfl (lv_at hl 0 rfl) ?_
      refine va_get (D := (dC, dI)) (ci := 2) (v := .int cnt) (C := R_List) (T := T_List) (N := 3) hx hb hts i_List hown hK hP 0 rfl rfl 2 (by decide) (hts _ wd_69) (fun _ h9 => h9) rfl d_List_add_20 ?_
      refine lv_istore_n (lv' := [(3, .int cnt), (0, .ref al), (1, .int a1), (2, .int a2)]) hx hb d_List_add_23 rfl hl (by decide) rfl (fun ls hl => ?_)
      refine w_loop (I := fun n H' locs' g' => ∃ (ix : Int32) (zix : Int) (kc : Nat → Int32) (wc : Nat → Int32) (ls : Array Slot), g' = F0 m 24 ls [] ∧ lv_has ls 4 [(0, .ref al), (1, .int a1), (2, .int a2), (3, .int ix)] ∧ n = zix.toNat ∧ ix.toInt = zix ∧ (0 ≤ zix ∧ zix ≤ nc) ∧ (∀ i : Nat, (i : Int) < zix → kc i = kf i ∧ wc i = wf i) ∧ (∀ i : Nat, zix ≤ (i : Int) → (i : Int) < nc → kc (i + 1) = kf i ∧ wc (i + 1) = wf i ∧ a1 < kf i) ∧ va_P (dC, dI) vwCl [(al, .inr (2, [.ref ak, .ref ar, .int cnt])), (ak, .inl (cK, 300, .inl kc)), (ar, .inl (cR, 300, .inl wc))] H' ∧ va_D A [(al, .inr (2, [.ref ak, .ref ar, .int cnt])), (ak, .inl (cK, 300, .inl kc)), (ar, .inl (cR, 300, .inl wc))] ∧ va_S A s.heap H' locs') ?_ ⟨cnt, nc, kf, wf, ls, rfl, lv_sub hl [1, 2, 3, 0] rfl, rfl, hcnt, by omega, fun i _ => ⟨rfl, rfl⟩, fun i q1 q2 => by omega, hP, hD, hS⟩
      intro n24 H24 locs g' hI ih24
      obtain ⟨ix, zix, kc, wc, ls, rfl, hl, hn, hix, i1, i2, i3, hP, hD, hS⟩ := hI
      refine lv_iload_n hx hb d_List_add_24 rfl (lv_at hl 3 rfl) ?_
      refine lv_if_le (tgt := 74) hx hb d_List_add_25 (by decide) (fun c25 => ?_) (fun c25 => ?_)
      · skip
        have c25 : zix ≤ 0 := (ti_le hix (ti_k (by decide))).mp c25
        refine lv_aload_n hx hb d_List_add_74 rfl (lv_at hl 0 rfl) ?_
        refine va_get (D := (dC, dI)) (ci := 2) (v := .ref ak) (C := R_List) (T := T_List) (N := 3) hx hb hts i_List hown hK hP 0 rfl rfl 0 (by decide) (hts _ wd_65) (fun _ h9 => h9) rfl d_List_add_75 ?_
        refine lv_iload_n hx hb d_List_add_78 rfl (lv_at hl 3 rfl) ?_
        refine lv_iload_n hx hb d_List_add_79 rfl (lv_at hl 1 rfl) ?_
        have in80 : vp_in ix 300 := vi_in hix (by omega) (by omega)
        refine va_iast hx hb hK hP hD hS 1 0 rfl rfl in80 d_List_add_80 (fun H80 locs hP hD hS => ?_)
        obtain ⟨f80, ef80⟩ : ∃ g, g = upd kc (ix).toNatClampNeg a1 := ⟨_, rfl⟩
        have hP : va_P (dC, dI) vwCl [(al, .inr (2, [.ref ak, .ref ar, .int cnt])), (ak, .inl (cK, 300, .inl f80)), (ar, .inl (cR, 300, .inl wc))] H80 := by rw [ef80]; exact hP
        have hD : va_D A [(al, .inr (2, [.ref ak, .ref ar, .int cnt])), (ak, .inl (cK, 300, .inl f80)), (ar, .inl (cR, 300, .inl wc))] := by rw [ef80]; exact hD
        have ef80 : f80 = upd kc (zix).toNat a1 := by rw [ef80, vi_cl hix]
        refine lv_aload_n hx hb d_List_add_81 rfl (lv_at hl 0 rfl) ?_
        refine va_get (D := (dC, dI)) (ci := 2) (v := .ref ar) (C := R_List) (T := T_List) (N := 3) hx hb hts i_List hown hK hP 0 rfl rfl 1 (by decide) (hts _ wd_67) (fun _ h9 => h9) rfl d_List_add_82 ?_
        refine lv_iload_n hx hb d_List_add_85 rfl (lv_at hl 3 rfl) ?_
        refine lv_iload_n hx hb d_List_add_86 rfl (lv_at hl 2 rfl) ?_
        have in87 : vp_in ix 300 := vi_in hix (by omega) (by omega)
        refine va_iast hx hb hK hP hD hS 2 1 rfl rfl in87 d_List_add_87 (fun H87 locs hP hD hS => ?_)
        obtain ⟨f87, ef87⟩ : ∃ g, g = upd wc (ix).toNatClampNeg a2 := ⟨_, rfl⟩
        have hP : va_P (dC, dI) vwCl [(al, .inr (2, [.ref ak, .ref ar, .int cnt])), (ak, .inl (cK, 300, .inl f80)), (ar, .inl (cR, 300, .inl f87))] H87 := by rw [ef87]; exact hP
        have hD : va_D A [(al, .inr (2, [.ref ak, .ref ar, .int cnt])), (ak, .inl (cK, 300, .inl f80)), (ar, .inl (cR, 300, .inl f87))] := by rw [ef87]; exact hD
        have ef87 : f87 = upd wc (zix).toNat a2 := by rw [ef87, vi_cl hix]
        refine lv_aload_n hx hb d_List_add_88 rfl (lv_at hl 0 rfl) ?_
        refine lv_dup hx hb d_List_add_89 rfl ?_
        refine va_get (D := (dC, dI)) (ci := 2) (v := .int cnt) (C := R_List) (T := T_List) (N := 3) hx hb hts i_List hown hK hP 0 rfl rfl 2 (by decide) (hts _ wd_69) (fun _ h9 => h9) rfl d_List_add_90 ?_
        refine lv_iconst (v := 1) hx hb d_List_add_93 (by decide) ?_
        refine lv_iadd hx hb d_List_add_94 ?_
        refine lv_topi (fun v94 e94 => ?_)
        have h94 : v94.toInt = nc + 1 := by rw [e94]; exact ti_add hcnt (ti_k (by decide)) (by omega) (by omega)
        refine va_put (D := (dC, dI)) (ci := 2) (v := .int v94) (ty := .int) (C := R_List) (T := T_List) (N := 3) hx hb hts i_List t_List t_List_ok n_List hown hK hP hD hS 0 rfl rfl 2 (by decide) (hts _ wd_69) (fun _ h9 => h9) rfl (by decide +kernel) rfl rfl (Nat.le_of_ble_eq_true rfl) d_List_add_95 (fun H95 locs hP hD hS => ?_)
        have hP : va_P (dC, dI) vwCl [(al, .inr (2, [.ref ak, .ref ar, .int v94])), (ak, .inl (cK, 300, .inl f80)), (ar, .inl (cR, 300, .inl f87))] H95 := hP
        have hD : va_D A [(al, .inr (2, [.ref ak, .ref ar, .int v94])), (ak, .inl (cK, 300, .inl f80)), (ar, .inl (cR, 300, .inl f87))] := hD
        refine lv_iconst (v := 1) hx hb d_List_add_98 (by decide) ?_
        have hpost : (nc = 300 ∧ (1 : Int32) = 0 ∧ v94 = cnt ∧ f80 = kf ∧ f87 = wf) ∨ (nc < 300 ∧ (1 : Int32) = 1 ∧ v94.toInt = nc + 1 ∧ isIns nc a1 a2 kf wf f80 f87) := by
          refine Or.inr ⟨by omega, rfl, h94, ?_⟩
          first | exact ins_end i1 i2 i3 ef80 ef87 (Or.inl (by omega)) | exact ins_end i1 i2 i3 ef80 ef87 (Or.inr (by rw [← e35]; intro q; have := Int32.lt_iff_toInt_lt.mp q; omega))
        have hP9 := hP.sub (ws' := [(al, .inr (2, [.ref ak, .ref ar, .int v94])), (ak, .inl (cK, 300, .inl f80)), (ar, .inl (cR, 300, .inl f87))]) [0, 1, 2] rfl
        have hD9 := hD.sub (ws' := [(al, .inr (2, [.ref ak, .ref ar, .int v94])), (ak, .inl (cK, 300, .inl f80)), (ar, .inl (cR, 300, .inl f87))]) [0, 1, 2] (by decide) rfl
        have hK9 := hK.sub (tys' := [(cK, .int), (cR, .int)]) [0, 1] rfl
        exact W.zret (v := 1) hx hb hr (by decide) (fun t ht hW => ⟨⟨1, (v94, f80, f87), rfl, hpost, by rw [ht]; exact hP9, va_K.moved hW.alike hK9, hD9⟩, hS.F ht⟩) hS.2.2 d_List_add_99
      · skip
        have c25 : ¬ (zix ≤ 0) := fun q => c25 ((ti_le hix (ti_k (by decide))).mpr q)
        refine lv_aload_n hx hb d_List_add_28 rfl (lv_at hl 0 rfl) ?_
        refine va_get (D := (dC, dI)) (ci := 2) (v := .ref ak) (C := R_List) (T := T_List) (N := 3) hx hb hts i_List hown hK hP 0 rfl rfl 0 (by decide) (hts _ wd_65) (fun _ h9 => h9) rfl d_List_add_29 ?_
        refine lv_iload_n hx hb d_List_add_32 rfl (lv_at hl 3 rfl) ?_
        refine lv_iconst (v := 1) hx hb d_List_add_33 (by decide) ?_
        refine lv_isub hx hb d_List_add_34 ?_
        refine lv_topi (fun v34 e34 => ?_)
        have h34 : v34.toInt = zix - 1 := by rw [e34]; exact ti_sub hix (ti_k (by decide)) (by omega) (by omega)
        have in35 : vp_in v34 300 := vi_in h34 (by omega) (by omega)
        refine va_iald hx hb hK hP 1 0 rfl rfl in35 d_List_add_35 ?_
        refine lv_topi (fun v35 e35 => ?_)
        have e35 : v35 = kc ((zix - 1)).toNat := by rw [e35, vi_cl h34]
        refine lv_iload_n hx hb d_List_add_36 rfl (lv_at hl 1 rfl) ?_
        refine lv_icmp_le (tgt := 74) hx hb d_List_add_37 (by decide) (fun c37 => ?_) (fun c37 => ?_)
        · skip
          have c37 : v35.toInt ≤ K := (ti_le rfl g1).mp c37
          refine lv_aload_n hx hb d_List_add_74 rfl (lv_at hl 0 rfl) ?_
          refine va_get (D := (dC, dI)) (ci := 2) (v := .ref ak) (C := R_List) (T := T_List) (N := 3) hx hb hts i_List hown hK hP 0 rfl rfl 0 (by decide) (hts _ wd_65) (fun _ h9 => h9) rfl d_List_add_75 ?_
          refine lv_iload_n hx hb d_List_add_78 rfl (lv_at hl 3 rfl) ?_
          refine lv_iload_n hx hb d_List_add_79 rfl (lv_at hl 1 rfl) ?_
          have in80 : vp_in ix 300 := vi_in hix (by omega) (by omega)
          refine va_iast hx hb hK hP hD hS 1 0 rfl rfl in80 d_List_add_80 (fun H80 locs hP hD hS => ?_)
          obtain ⟨f80, ef80⟩ : ∃ g, g = upd kc (ix).toNatClampNeg a1 := ⟨_, rfl⟩
          have hP : va_P (dC, dI) vwCl [(al, .inr (2, [.ref ak, .ref ar, .int cnt])), (ak, .inl (cK, 300, .inl f80)), (ar, .inl (cR, 300, .inl wc))] H80 := by rw [ef80]; exact hP
          have hD : va_D A [(al, .inr (2, [.ref ak, .ref ar, .int cnt])), (ak, .inl (cK, 300, .inl f80)), (ar, .inl (cR, 300, .inl wc))] := by rw [ef80]; exact hD
          have ef80 : f80 = upd kc (zix).toNat a1 := by rw [ef80, vi_cl hix]
          refine lv_aload_n hx hb d_List_add_81 rfl (lv_at hl 0 rfl) ?_
          refine va_get (D := (dC, dI)) (ci := 2) (v := .ref ar) (C := R_List) (T := T_List) (N := 3) hx hb hts i_List hown hK hP 0 rfl rfl 1 (by decide) (hts _ wd_67) (fun _ h9 => h9) rfl d_List_add_82 ?_
          refine lv_iload_n hx hb d_List_add_85 rfl (lv_at hl 3 rfl) ?_
          refine lv_iload_n hx hb d_List_add_86 rfl (lv_at hl 2 rfl) ?_
          have in87 : vp_in ix 300 := vi_in hix (by omega) (by omega)
          refine va_iast hx hb hK hP hD hS 2 1 rfl rfl in87 d_List_add_87 (fun H87 locs hP hD hS => ?_)
          obtain ⟨f87, ef87⟩ : ∃ g, g = upd wc (ix).toNatClampNeg a2 := ⟨_, rfl⟩
          have hP : va_P (dC, dI) vwCl [(al, .inr (2, [.ref ak, .ref ar, .int cnt])), (ak, .inl (cK, 300, .inl f80)), (ar, .inl (cR, 300, .inl f87))] H87 := by rw [ef87]; exact hP
          have hD : va_D A [(al, .inr (2, [.ref ak, .ref ar, .int cnt])), (ak, .inl (cK, 300, .inl f80)), (ar, .inl (cR, 300, .inl f87))] := by rw [ef87]; exact hD
          have ef87 : f87 = upd wc (zix).toNat a2 := by rw [ef87, vi_cl hix]
          refine lv_aload_n hx hb d_List_add_88 rfl (lv_at hl 0 rfl) ?_
          refine lv_dup hx hb d_List_add_89 rfl ?_
          refine va_get (D := (dC, dI)) (ci := 2) (v := .int cnt) (C := R_List) (T := T_List) (N := 3) hx hb hts i_List hown hK hP 0 rfl rfl 2 (by decide) (hts _ wd_69) (fun _ h9 => h9) rfl d_List_add_90 ?_
          refine lv_iconst (v := 1) hx hb d_List_add_93 (by decide) ?_
          refine lv_iadd hx hb d_List_add_94 ?_
          refine lv_topi (fun v94 e94 => ?_)
          have h94 : v94.toInt = nc + 1 := by rw [e94]; exact ti_add hcnt (ti_k (by decide)) (by omega) (by omega)
          refine va_put (D := (dC, dI)) (ci := 2) (v := .int v94) (ty := .int) (C := R_List) (T := T_List) (N := 3) hx hb hts i_List t_List t_List_ok n_List hown hK hP hD hS 0 rfl rfl 2 (by decide) (hts _ wd_69) (fun _ h9 => h9) rfl (by decide +kernel) rfl rfl (Nat.le_of_ble_eq_true rfl) d_List_add_95 (fun H95 locs hP hD hS => ?_)
          have hP : va_P (dC, dI) vwCl [(al, .inr (2, [.ref ak, .ref ar, .int v94])), (ak, .inl (cK, 300, .inl f80)), (ar, .inl (cR, 300, .inl f87))] H95 := hP
          have hD : va_D A [(al, .inr (2, [.ref ak, .ref ar, .int v94])), (ak, .inl (cK, 300, .inl f80)), (ar, .inl (cR, 300, .inl f87))] := hD
          refine lv_iconst (v := 1) hx hb d_List_add_98 (by decide) ?_
          have hpost : (nc = 300 ∧ (1 : Int32) = 0 ∧ v94 = cnt ∧ f80 = kf ∧ f87 = wf) ∨ (nc < 300 ∧ (1 : Int32) = 1 ∧ v94.toInt = nc + 1 ∧ isIns nc a1 a2 kf wf f80 f87) := by
            refine Or.inr ⟨by omega, rfl, h94, ?_⟩
            first | exact ins_end i1 i2 i3 ef80 ef87 (Or.inl (by omega)) | exact ins_end i1 i2 i3 ef80 ef87 (Or.inr (by rw [← e35]; intro q; have := Int32.lt_iff_toInt_lt.mp q; omega))
          have hP9 := hP.sub (ws' := [(al, .inr (2, [.ref ak, .ref ar, .int v94])), (ak, .inl (cK, 300, .inl f80)), (ar, .inl (cR, 300, .inl f87))]) [0, 1, 2] rfl
          have hD9 := hD.sub (ws' := [(al, .inr (2, [.ref ak, .ref ar, .int v94])), (ak, .inl (cK, 300, .inl f80)), (ar, .inl (cR, 300, .inl f87))]) [0, 1, 2] (by decide) rfl
          have hK9 := hK.sub (tys' := [(cK, .int), (cR, .int)]) [0, 1] rfl
          exact W.zret (v := 1) hx hb hr (by decide) (fun t ht hW => ⟨⟨1, (v94, f80, f87), rfl, hpost, by rw [ht]; exact hP9, va_K.moved hW.alike hK9, hD9⟩, hS.F ht⟩) hS.2.2 d_List_add_99
        · skip
          have c37 : ¬ (v35.toInt ≤ K) := fun q => c37 ((ti_le rfl g1).mpr q)
          have c37 : a1 < v35 := Int32.lt_iff_toInt_lt.mpr (by omega)
          refine lv_aload_n hx hb d_List_add_40 rfl (lv_at hl 0 rfl) ?_
          refine va_get (D := (dC, dI)) (ci := 2) (v := .ref ak) (C := R_List) (T := T_List) (N := 3) hx hb hts i_List hown hK hP 0 rfl rfl 0 (by decide) (hts _ wd_65) (fun _ h9 => h9) rfl d_List_add_41 ?_
          refine lv_iload_n hx hb d_List_add_44 rfl (lv_at hl 3 rfl) ?_
          refine lv_aload_n hx hb d_List_add_45 rfl (lv_at hl 0 rfl) ?_
          refine va_get (D := (dC, dI)) (ci := 2) (v := .ref ak) (C := R_List) (T := T_List) (N := 3) hx hb hts i_List hown hK hP 0 rfl rfl 0 (by decide) (hts _ wd_65) (fun _ h9 => h9) rfl d_List_add_46 ?_
          refine lv_iload_n hx hb d_List_add_49 rfl (lv_at hl 3 rfl) ?_
          refine lv_iconst (v := 1) hx hb d_List_add_50 (by decide) ?_
          refine lv_isub hx hb d_List_add_51 ?_
          refine lv_topi (fun v51 e51 => ?_)
          have h51 : v51.toInt = zix - 1 := by rw [e51]; exact ti_sub hix (ti_k (by decide)) (by omega) (by omega)
          have in52 : vp_in v51 300 := vi_in h51 (by omega) (by omega)
          refine va_iald hx hb hK hP 1 0 rfl rfl in52 d_List_add_52 ?_
          refine lv_topi (fun v52 e52 => ?_)
          have e52 : v52 = kc ((zix - 1)).toNat := by rw [e52, vi_cl h51]
          have in53 : vp_in ix 300 := vi_in hix (by omega) (by omega)
          refine va_iast hx hb hK hP hD hS 1 0 rfl rfl in53 d_List_add_53 (fun H53 locs hP hD hS => ?_)
          obtain ⟨f53, ef53⟩ : ∃ g, g = upd kc (ix).toNatClampNeg v52 := ⟨_, rfl⟩
          have hP : va_P (dC, dI) vwCl [(al, .inr (2, [.ref ak, .ref ar, .int cnt])), (ak, .inl (cK, 300, .inl f53)), (ar, .inl (cR, 300, .inl wc))] H53 := by rw [ef53]; exact hP
          have hD : va_D A [(al, .inr (2, [.ref ak, .ref ar, .int cnt])), (ak, .inl (cK, 300, .inl f53)), (ar, .inl (cR, 300, .inl wc))] := by rw [ef53]; exact hD
          have ef53 : f53 = upd kc (zix).toNat v52 := by rw [ef53, vi_cl hix]
          refine lv_aload_n hx hb d_List_add_54 rfl (lv_at hl 0 rfl) ?_
          refine va_get (D := (dC, dI)) (ci := 2) (v := .ref ar) (C := R_List) (T := T_List) (N := 3) hx hb hts i_List hown hK hP 0 rfl rfl 1 (by decide) (hts _ wd_67) (fun _ h9 => h9) rfl d_List_add_55 ?_
          refine lv_iload_n hx hb d_List_add_58 rfl (lv_at hl 3 rfl) ?_
          refine lv_aload_n hx hb d_List_add_59 rfl (lv_at hl 0 rfl) ?_
          refine va_get (D := (dC, dI)) (ci := 2) (v := .ref ar) (C := R_List) (T := T_List) (N := 3) hx hb hts i_List hown hK hP 0 rfl rfl 1 (by decide) (hts _ wd_67) (fun _ h9 => h9) rfl d_List_add_60 ?_
          refine lv_iload_n hx hb d_List_add_63 rfl (lv_at hl 3 rfl) ?_
          refine lv_iconst (v := 1) hx hb d_List_add_64 (by decide) ?_
          refine lv_isub hx hb d_List_add_65 ?_
          refine lv_topi (fun v65 e65 => ?_)
          have h65 : v65.toInt = zix - 1 := by rw [e65]; exact ti_sub hix (ti_k (by decide)) (by omega) (by omega)
          have in66 : vp_in v65 300 := vi_in h65 (by omega) (by omega)
          refine va_iald hx hb hK hP 2 1 rfl rfl in66 d_List_add_66 ?_
          refine lv_topi (fun v66 e66 => ?_)
          have e66 : v66 = wc ((zix - 1)).toNat := by rw [e66, vi_cl h65]
          have in67 : vp_in ix 300 := vi_in hix (by omega) (by omega)
          refine va_iast hx hb hK hP hD hS 2 1 rfl rfl in67 d_List_add_67 (fun H67 locs hP hD hS => ?_)
          obtain ⟨f67, ef67⟩ : ∃ g, g = upd wc (ix).toNatClampNeg v66 := ⟨_, rfl⟩
          have hP : va_P (dC, dI) vwCl [(al, .inr (2, [.ref ak, .ref ar, .int cnt])), (ak, .inl (cK, 300, .inl f53)), (ar, .inl (cR, 300, .inl f67))] H67 := by rw [ef67]; exact hP
          have hD : va_D A [(al, .inr (2, [.ref ak, .ref ar, .int cnt])), (ak, .inl (cK, 300, .inl f53)), (ar, .inl (cR, 300, .inl f67))] := by rw [ef67]; exact hD
          have ef67 : f67 = upd wc (zix).toNat v66 := by rw [ef67, vi_cl hix]
          obtain ⟨v68, e68⟩ : ∃ y : Int32, y = ix + (-1) := ⟨_, rfl⟩
          have h68 : v68.toInt = zix + (-1) := by rw [e68]; exact ti_add hix (ti_k (by decide)) (by omega) (by omega)
          refine lv_iinc (v := v68) (lv' := [(3, .int v68), (0, .ref al), (1, .int a1), (2, .int a2)]) hx hb d_List_add_68 hl (k := 3) rfl (by rw [e68]; rfl) (by decide) rfl (fun ls hl => ?_)
          refine lv_goto (tgt := 24) hx hb d_List_add_71 (by decide) ?_
          exact ih24 _ (by omega) _ _ _ ⟨v68, (zix + (-1)), f53, f67, ls, rfl, lv_sub hl [1, 2, 3, 0] rfl, rfl, h68, by omega, fun i q => by rw [ef53, ef67, pk_un (by omega), pk_un (by omega)]; exact i2 i (by omega), ins_step i1 i2 i3 ef53 ef67 e35 e52 e66 c37 (by omega), hP, hD, hS⟩
    · skip
      have c14 : ¬ (nc < 300) := fun q => c14 ((ti_lt hcnt (ti_k (by decide))).mpr q)
      refine lv_iconst (v := 0) hx hb d_List_add_17 (by decide) ?_
      have hpost : (nc = 300 ∧ (0 : Int32) = 0 ∧ cnt = cnt ∧ kf = kf ∧ wf = wf) ∨ (nc < 300 ∧ (0 : Int32) = 1 ∧ cnt.toInt = nc + 1 ∧ isIns nc a1 a2 kf wf kf wf) := by
        exact Or.inl ⟨by omega, rfl, rfl, rfl, rfl⟩
      have hP9 := hP.sub (ws' := [(al, .inr (2, [.ref ak, .ref ar, .int cnt])), (ak, .inl (cK, 300, .inl kf)), (ar, .inl (cR, 300, .inl wf))]) [0, 1, 2] rfl
      have hD9 := hD.sub (ws' := [(al, .inr (2, [.ref ak, .ref ar, .int cnt])), (ak, .inl (cK, 300, .inl kf)), (ar, .inl (cR, 300, .inl wf))]) [0, 1, 2] (by decide) rfl
      have hK9 := hK.sub (tys' := [(cK, .int), (cR, .int)]) [0, 1] rfl
      exact W.zret (v := 0) hx hb hr (by decide) (fun t ht hW => ⟨⟨0, (cnt, kf, wf), rfl, hpost, by rw [ht]; exact hP9, va_K.moved hW.alike hK9, hD9⟩, hS.F ht⟩) hS.2.2 d_List_add_18

set_option maxHeartbeats 4000000 in
set_option maxRecDepth 100000 in
theorem c_leads (l : Launch) (dC : Nat → ClassId) (dI : Nat → Nat → Nat) (al ak ar : Nat) (cK cR : ClassId) (cnt : Int32) (kf wf : Nat → Int32) (nc : Int) (hcnt : cnt.toInt = nc) (hn0 : 0 ≤ nc) (hn1 : nc ≤ 300) (a1 : Int32) (t : Int) (g1 : a1.toInt = t) (t0 : 0 ≤ t) (t1 : t < nc) (hkp : ∀ i : Nat, (i : Int) < nc → 0 ≤ (kf i).toInt) : Met l y_List_leads (.code y_List_leads b_List_leads 3 (some .boolean) :: allw) ({ frames := 2, cells := 0, slots := 0, locals := 43 }) (va_Pc [.ref al, .int a1] (ro_B (dC, dI) vwCl [(al, .inr (2, [.ref ak, .ref ar, .int cnt])), (ak, .inl (cK, 300, .inl kf)), (ar, .inl (cR, 300, .inl wf))] [(cK, .int), (cR, .int)])) (va_Qi (fun (r : Int32) (_ : Unit) => isB r (lead nc kf wf t)) (fun _ _ => True) (fun _ => False)) 0 0 (fun _ => False) := by
  refine Met.ofW (cc := b_List_leads) (maxL := 3) (ret := (some .boolean)) (by decide) rfl ?_
  intro p e s m args below meth c s₁ B hml hv
  obtain ⟨rfl, hP, hK⟩ := hv
  have hx := B.exec
  have hb := B.bytes
  have hr := B.returns
  have hts : ∀ w ∈ allw, w.before _ s = true := fun w h => atoms_spec (ws := .code y_List_leads b_List_leads 3 (some .boolean) :: allw) B.pre w (List.mem_cons_of_mem _ h)
  have hown : s.vm.findClass R_List = some m.cls := findClass_of_methodNamed B.named
  have hlocks := B.notSynchronized
  have hS : va_S (fun _ => False) s.heap s.heap [] := va_S.rf
  have hP : va_P (dC, dI) vwCl [(al, .inr (2, [.ref ak, .ref ar, .int cnt])), (ak, .inl (cK, 300, .inl kf)), (ar, .inl (cR, 300, .inl wf))] s.heap := hP
  have hl := lv_entry ([.ref al, .int a1]) (n := 3) (Nat.le_of_ble_eq_true rfl)
  rw [lg_entry_eq]
  generalize (lg_sl ([.ref al, .int a1]) ++ List.replicate (3 - (lg_sl ([.ref al, .int a1])).length) Slot.unset).toArray = ls at hl ⊢
  have hl : lv_has ls 3 [(0, .ref al), (1, .int a1)] := hl
  refine lv_iconst (v := 0) hx hb d_List_leads_0 (by decide) ?_
  refine lv_istore_n (lv' := [(2, .int 0), (0, .ref al), (1, .int a1)]) hx hb d_List_leads_1 rfl hl (by decide) rfl (fun ls hl => ?_)
  refine w_loop (I := fun n H' locs' g' => ∃ (ox : Int32) (zox : Int) (ls : Array Slot), g' = F0 m 2 ls [] ∧ lv_has ls 3 [(0, .ref al), (1, .int a1), (2, .int ox)] ∧ n = (nc - zox).toNat ∧ ox.toInt = zox ∧ (0 ≤ zox ∧ zox ≤ nc) ∧ (∀ o : Int, 0 ≤ o → o < zox → ¬ (better wf o t ∧ comm (kf o.toNat).toInt (kf t.toNat).toInt)) ∧ va_P (dC, dI) vwCl [(al, .inr (2, [.ref ak, .ref ar, .int cnt])), (ak, .inl (cK, 300, .inl kf)), (ar, .inl (cR, 300, .inl wf))] H' ∧ va_S (fun _ => False) s.heap H' locs') ?_ ⟨0, 0, ls, rfl, lv_sub hl [1, 2, 0] rfl, rfl, (ti_k (by decide)), by omega, fun o q1 q2 => by omega, hP, hS⟩
  intro n2 H2 locs g' hI ih2
  obtain ⟨ox, zox, ls, rfl, hl, hn, hox, i1, i2, hP, hS⟩ := hI
  refine lv_iload_n hx hb d_List_leads_2 rfl (lv_at hl 2 rfl) ?_
  refine lv_aload_n hx hb d_List_leads_3 rfl (lv_at hl 0 rfl) ?_
  refine va_get (D := (dC, dI)) (ci := 2) (v := .int cnt) (C := R_List) (T := T_List) (N := 3) hx hb hts i_List hown hK hP 0 rfl rfl 2 (by decide) (hts _ wd_69) (fun _ h9 => h9) rfl d_List_leads_4 ?_
  refine lv_icmp_ge (tgt := 45) hx hb d_List_leads_7 (by decide) (fun c7 => ?_) (fun c7 => ?_)
  · skip
    have c7 : nc ≤ zox := (ti_le hcnt hox).mp c7
    refine lv_iconst (v := 1) hx hb d_List_leads_45 (by decide) ?_
    have hpost : isB 1 (lead nc kf wf t) := by
      refine Or.inl ⟨rfl, ?_⟩
      exact fun o q1 q2 => i2 o q1 (by omega)
    exact W.zret (v := 1) hx hb hr (by decide) (fun t ht hW => ⟨⟨1, (), rfl, hpost, trivial⟩, hS.F ht⟩) hS.2.2 d_List_leads_46
  · skip
    have c7 : ¬ (nc ≤ zox) := fun q => c7 ((ti_le hcnt hox).mpr q)
    refine lv_aload_n hx hb d_List_leads_10 rfl (lv_at hl 0 rfl) ?_
    refine lv_iload_n hx hb d_List_leads_11 rfl (lv_at hl 2 rfl) ?_
    refine lv_iload_n hx hb d_List_leads_12 rfl (lv_at hl 1 rfl) ?_
    have hPc := hP.sub (ws' := [(al, .inr (2, [.ref ak, .ref ar, .int cnt])), (ak, .inl (cK, 300, .inl kf)), (ar, .inl (cR, 300, .inl wf))]) [0, 1, 2] rfl
    have hKc := hK.sub (tys' := [(cK, .int), (cR, .int)]) [0, 1] rfl
    refine va_calli (va_runV (As := [.int ox, .int a1]) (rest := []) ⟨hx, hb, hml, hown, hts⟩ (c_isBetter l dC dI al ak ar cK cR cnt kf wf nc hcnt hn0 hn1 ox a1 zox t hox g1 (by omega) (by omega) (by omega) (by omega)) (aw_V 2 hts wd_506 wd_508 ws_27 wd_4 wd_509 rfl rfl (by decide +kernel) ⟨Nat.le_of_ble_eq_true rfl, Nat.le_of_ble_eq_true rfl⟩) ⟨ro_blind, va_recv hKc hPc (ci := 2) (q0 := 0) rfl rfl, ro_pre hPc hKc⟩ rfl rfl hl.1 rfl (lv_room (Nat.le_of_ble_eq_true rfl)) d_List_leads_13 ⟨Nat.le_of_ble_eq_true rfl, Nat.le_of_ble_eq_true rfl⟩) hS (fun q _ h => h.elim) (fun q h => h.elim) (fun v13 _ t9 H13 locs ht hvm h13 hB hz1 hk1 hS => ?_)
    have hP := ro_keep hP hk1
    clear hPc hKc ht hvm hB hz1 hk1
    refine lv_if_eq (tgt := 39) hx hb d_List_leads_16 (by decide) (fun c16 => ?_) (fun c16 => ?_)
    · skip
      have c16 : ¬ (better wf zox t) := bi_z h13 c16
      obtain ⟨v39, e39⟩ : ∃ y : Int32, y = ox + 1 := ⟨_, rfl⟩
      have h39 : v39.toInt = zox + 1 := by rw [e39]; exact ti_add hox (ti_k (by decide)) (by omega) (by omega)
      refine lv_iinc (v := v39) (lv' := [(2, .int v39), (0, .ref al), (1, .int a1)]) hx hb d_List_leads_39 hl (k := 2) rfl (by rw [e39]; rfl) (by decide) rfl (fun ls hl => ?_)
      refine lv_goto (tgt := 2) hx hb d_List_leads_42 (by decide) ?_
      exact ih2 _ (by omega) _ _ _ ⟨v39, (zox + 1), ls, rfl, lv_sub hl [1, 2, 0] rfl, rfl, h39, by omega, fun o q1 q2 => by rcases (show o < zox ∨ o = zox by omega) with z | z <;> first | exact i2 o q1 z | (rw [z]; exact fun w => c16 w.1) | (rw [z, ← e24, ← e30]; exact fun w => c34 w.2), hP, hS⟩
    · skip
      have c16 : better wf zox t := bi_nz h13 c16
      refine lv_aload_n hx hb d_List_leads_19 rfl (lv_at hl 0 rfl) ?_
      refine va_get (D := (dC, dI)) (ci := 2) (v := .ref ak) (C := R_List) (T := T_List) (N := 3) hx hb hts i_List hown hK hP 0 rfl rfl 0 (by decide) (hts _ wd_65) (fun _ h9 => h9) rfl d_List_leads_20 ?_
      refine lv_iload_n hx hb d_List_leads_23 rfl (lv_at hl 2 rfl) ?_
      have in24 : vp_in ox 300 := vi_in hox (by omega) (by omega)
      refine va_iald hx hb hK hP 1 0 rfl rfl in24 d_List_leads_24 ?_
      refine lv_topi (fun v24 e24 => ?_)
      have e24 : v24 = kf (zox).toNat := by rw [e24, vi_cl hox]
      refine lv_aload_n hx hb d_List_leads_25 rfl (lv_at hl 0 rfl) ?_
      refine va_get (D := (dC, dI)) (ci := 2) (v := .ref ak) (C := R_List) (T := T_List) (N := 3) hx hb hts i_List hown hK hP 0 rfl rfl 0 (by decide) (hts _ wd_65) (fun _ h9 => h9) rfl d_List_leads_26 ?_
      refine lv_iload_n hx hb d_List_leads_29 rfl (lv_at hl 1 rfl) ?_
      have in30 : vp_in a1 300 := vi_in g1 (by omega) (by omega)
      refine va_iald hx hb hK hP 1 0 rfl rfl in30 d_List_leads_30 ?_
      refine lv_topi (fun v30 e30 => ?_)
      have e30 : v30 = kf (t).toNat := by rw [e30, vi_cl g1]
      have hPc := hP.sub (ws' := []) [] rfl
      have hKc := hK.sub (tys' := []) [] rfl
      refine va_calli (va_runS (As := [.int v24, .int v30]) (rest := []) ⟨hx, hb, hml, hown, hts⟩ (c_haveCommonDot l dC dI v24 v30 v24.toInt v30.toInt rfl rfl (by rw [e24]; exact hkp _ (by omega)) (by rw [e30]; exact hkp _ (by omega))) (aw_S 2 hts wd_510 wd_511 wd_13 wd_512 rfl rfl (by decide +kernel) ⟨Nat.le_of_ble_eq_true rfl, Nat.le_of_ble_eq_true rfl⟩) ⟨ro_blind, ro_pre hPc hKc⟩ rfl rfl hl.1 rfl (lv_room (Nat.le_of_ble_eq_true rfl)) d_List_leads_31 ⟨Nat.le_of_ble_eq_true rfl, Nat.le_of_ble_eq_true rfl⟩) hS (fun q _ h => h.elim) (fun q h => h.elim) (fun v31 _ t9 H31 locs ht hvm h31 hB hz1 hk1 hS => ?_)
      have hP := ro_keep hP hk1
      clear hPc hKc ht hvm hB hz1 hk1
      refine lv_if_eq (tgt := 39) hx hb d_List_leads_34 (by decide) (fun c34 => ?_) (fun c34 => ?_)
      · skip
        have c34 : ¬ (comm v24.toInt v30.toInt) := bi_z h31 c34
        obtain ⟨v39, e39⟩ : ∃ y : Int32, y = ox + 1 := ⟨_, rfl⟩
        have h39 : v39.toInt = zox + 1 := by rw [e39]; exact ti_add hox (ti_k (by decide)) (by omega) (by omega)
        refine lv_iinc (v := v39) (lv' := [(2, .int v39), (0, .ref al), (1, .int a1)]) hx hb d_List_leads_39 hl (k := 2) rfl (by rw [e39]; rfl) (by decide) rfl (fun ls hl => ?_)
        refine lv_goto (tgt := 2) hx hb d_List_leads_42 (by decide) ?_
        exact ih2 _ (by omega) _ _ _ ⟨v39, (zox + 1), ls, rfl, lv_sub hl [1, 2, 0] rfl, rfl, h39, by omega, fun o q1 q2 => by rcases (show o < zox ∨ o = zox by omega) with z | z <;> first | exact i2 o q1 z | (rw [z]; exact fun w => c16 w.1) | (rw [z, ← e24, ← e30]; exact fun w => c34 w.2), hP, hS⟩
      · skip
        have c34 : comm v24.toInt v30.toInt := bi_nz h31 c34
        refine lv_iconst (v := 0) hx hb d_List_leads_37 (by decide) ?_
        have hpost : isB 0 (lead nc kf wf t) := by
          refine Or.inr ⟨rfl, ?_⟩
          intro q
          exact q zox (by omega) (by omega) ⟨c16, by rw [← e24, ← e30]; exact c34⟩
        exact W.zret (v := 0) hx hb hr (by decide) (fun t ht hW => ⟨⟨0, (), rfl, hpost, trivial⟩, hS.F ht⟩) hS.2.2 d_List_leads_38
