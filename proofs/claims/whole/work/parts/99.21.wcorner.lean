set_option maxHeartbeats 4000000 in
set_option maxRecDepth 100000 in
theorem c_withCorner (l : Launch) (dC : Nat → ClassId) (dI : Nat → Nat → Nat) (sz : Nat) (hq hp hst hqf hkn : Nat) (lim thd md sz0 tm tx ty sx sy stp : Int32) (LIM : Int) (hlim : lim.toInt = LIM) (cQ : ClassId) (qf : Nat → Int32) (a1 a2 a3 : Int32) (k FL L : Int) (g1 : a1.toInt = k) (g2 : a2.toInt = FL) (g3 : a3.toInt = L) (hk0 : 0 ≤ k) (hk3 : k ≤ 3) (hL0 : 0 ≤ L) (hL1 : L < 16) (hf0 : -100000000 ≤ FL) (hf1 : FL ≤ 100000000) (hqb : ∀ q : Int, 0 ≤ q → q < 4 → -1000000000 ≤ (qf q.toNat).toInt ∧ (qf q.toNat).toInt ≤ 1000000000) : Met l y_Search_withCorner (.code y_Search_withCorner b_Search_withCorner 7 (some .int) :: allw) ({ frames := 0, cells := 0, slots := 0, locals := 0 }) (va_Pc [.ref hq, .int a1, .int a2, .int a3] (rw_B (dC, dI) vwCl [(hq, .inr (3, [.ref hp, .ref hst, .int lim, .int thd, .int md, .int sz0, .int tm, .int tx, .int ty, .int sx, .int sy, .ref hqf, .ref hkn, .int stp])), (hqf, .inl (cQ, 4, .inl qf))] [(cQ, .int)] sz)) (va_Qi (fun (r : Int32) (u : Nat → Int32) => 0 ≤ r.toInt ∧ r.toInt < 16 ∧ (∀ q : Int, 0 ≤ q → q < 4 → (u q.toNat).toInt = if q = (k + 2) % 4 then (qf q.toNat).toInt else (qf q.toNat).toInt + FL) ∧ (∀ q : Int, 0 ≤ q → q < 4 → bt r.toInt q = (bt L q && (decide (q = (k + 2) % 4) || decide ((qf q.toNat).toInt + FL ≤ LIM))))) (fun u t => rw_E (dC, dI) vwCl [(hq, .inr (3, [.ref hp, .ref hst, .int lim, .int thd, .int md, .int sz0, .int tm, .int tx, .int ty, .int sx, .int sy, .ref hqf, .ref hkn, .int stp])), (hqf, .inl (cQ, 4, .inl u))] [(cQ, .int)] (va_A [(hq, .inr (3, [.ref hp, .ref hst, .int lim, .int thd, .int md, .int sz0, .int tm, .int tx, .int ty, .int sx, .int sy, .ref hqf, .ref hkn, .int stp])), (hqf, .inl (cQ, 4, .inl qf))] sz) t) (va_A [(hq, .inr (3, [.ref hp, .ref hst, .int lim, .int thd, .int md, .int sz0, .int tm, .int tx, .int ty, .int sx, .int sy, .ref hqf, .ref hkn, .int stp])), (hqf, .inl (cQ, 4, .inl qf))] sz)) 0 0 (va_A [(hq, .inr (3, [.ref hp, .ref hst, .int lim, .int thd, .int md, .int sz0, .int tm, .int tx, .int ty, .int sx, .int sy, .ref hqf, .ref hkn, .int stp])), (hqf, .inl (cQ, 4, .inl qf))] sz) := by
  refine Met.ofW (cc := b_Search_withCorner) (maxL := 7) (ret := (some .int)) (by decide) rfl ?_
  intro p e s m args below meth c s₁ B hml hv
  obtain ⟨rfl, hsz, hP, hK, hD0⟩ := hv
  have hx := B.exec
  have hb := B.bytes
  have hr := B.returns
  have hts : ∀ w ∈ allw, w.before _ s = true := fun w h => atoms_spec (ws := .code y_Search_withCorner b_Search_withCorner 7 (some .int) :: allw) B.pre w (List.mem_cons_of_mem _ h)
  have hown : s.vm.findClass R_Search = some m.cls := findClass_of_methodNamed B.named
  have hlocks := B.notSynchronized
  subst hsz
  have hD := hD0.self (sz := s.heap.size)
  generalize hAe : va_A [(hq, .inr (3, [.ref hp, .ref hst, .int lim, .int thd, .int md, .int sz0, .int tm, .int tx, .int ty, .int sx, .int sy, .ref hqf, .ref hkn, .int stp])), (hqf, .inl (cQ, 4, .inl qf))] s.heap.size = A at hD ⊢
  have hA : ∀ q : Nat, s.heap.size ≤ q → A q := fun q h => by rw [← hAe]; exact Or.inr h
  have hS : va_S A s.heap s.heap [] := va_S.rf
  have hP : va_P (dC, dI) vwCl [(hq, .inr (3, [.ref hp, .ref hst, .int lim, .int thd, .int md, .int sz0, .int tm, .int tx, .int ty, .int sx, .int sy, .ref hqf, .ref hkn, .int stp])), (hqf, .inl (cQ, 4, .inl qf))] s.heap := hP
  have hl := lv_entry ([.ref hq, .int a1, .int a2, .int a3]) (n := 7) (Nat.le_of_ble_eq_true rfl)
  rw [lg_entry_eq]
  generalize (lg_sl ([.ref hq, .int a1, .int a2, .int a3]) ++ List.replicate (7 - (lg_sl ([.ref hq, .int a1, .int a2, .int a3])).length) Slot.unset).toArray = ls at hl ⊢
  have hl : lv_has ls 7 [(0, .ref hq), (1, .int a1), (2, .int a2), (3, .int a3)] := hl
  refine lv_iload_n hx hb d_Search_withCorner_0 rfl (lv_at hl 3 rfl) ?_
  refine lv_istore (lv' := [(4, .int a3), (0, .ref hq), (1, .int a1), (2, .int a2), (3, .int a3)]) hx hb d_Search_withCorner_1 hl (by decide) rfl (fun ls hl => ?_)
  refine lv_iconst (v := 3) hx hb d_Search_withCorner_3 (by decide) ?_
  refine lv_istore (lv' := [(5, .int 3), (4, .int a3), (0, .ref hq), (1, .int a1), (2, .int a2), (3, .int a3)]) hx hb d_Search_withCorner_4 hl (by decide) rfl (fun ls hl => ?_)
  refine w_loop (I := fun n H' locs' g' => ∃ (lv : Int32) (zlv : Int) (ss : Int32) (zss : Int) (qc : Nat → Int32) (ls : Array Slot), g' = F0 m 6 ls [] ∧ lv_has ls 7 [(0, .ref hq), (1, .int a1), (2, .int a2), (3, .int a3), (4, .int lv), (5, .int ss)] ∧ n = (6 - zss).toNat ∧ lv.toInt = zlv ∧ ss.toInt = zss ∧ (3 ≤ zss ∧ zss ≤ 6) ∧ (wcQ qf qc k FL zss) ∧ (0 ≤ zlv ∧ zlv < 16) ∧ (wcL qf k FL LIM L zlv zss) ∧ va_P (dC, dI) vwCl [(hq, .inr (3, [.ref hp, .ref hst, .int lim, .int thd, .int md, .int sz0, .int tm, .int tx, .int ty, .int sx, .int sy, .ref hqf, .ref hkn, .int stp])), (hqf, .inl (cQ, 4, .inl qc))] H' ∧ va_D A [(hq, .inr (3, [.ref hp, .ref hst, .int lim, .int thd, .int md, .int sz0, .int tm, .int tx, .int ty, .int sx, .int sy, .ref hqf, .ref hkn, .int stp])), (hqf, .inl (cQ, 4, .inl qc))] ∧ va_S A s.heap H' locs') ?_ ⟨a3, L, 3, 3, qf, ls, rfl, lv_sub hl [2, 3, 4, 5, 1, 0] rfl, rfl, g3, (ti_k (by decide)), by omega, wq_0, by omega, wl_0, hP, hD, hS⟩
  intro n6 H6 locs g' hI ih6
  obtain ⟨lv, zlv, ss, zss, qc, ls, rfl, hl, hn, hlv, hss, i1, i2, i3, i4, hP, hD, hS⟩ := hI
  refine lv_iload hx hb d_Search_withCorner_6 (lv_at hl 5 rfl) ?_
  refine lv_iconst (v := 5) hx hb d_Search_withCorner_8 (by decide) ?_
  refine lv_icmp_gt (tgt := 62) hx hb d_Search_withCorner_9 (by decide) (fun c9 => ?_) (fun c9 => ?_)
  · skip
    have c9 : (5 : Int) < zss := (ti_lt (ti_k (by decide)) hss).mp c9
    refine lv_iload hx hb d_Search_withCorner_62 (lv_at hl 4 rfl) ?_
    have hpost : 0 ≤ (lv : Int32).toInt ∧ (lv : Int32).toInt < 16 ∧ (∀ q : Int, 0 ≤ q → q < 4 → (qc q.toNat).toInt = if q = (k + 2) % 4 then (qf q.toNat).toInt else (qf q.toNat).toInt + FL) ∧ (∀ q : Int, 0 ≤ q → q < 4 → bt (lv : Int32).toInt q = (bt L q && (decide (q = (k + 2) % 4) || decide ((qf q.toNat).toInt + FL ≤ LIM)))) := by
      have e6 : zss = 6 := by omega
      rw [e6] at i2 i4
      rw [hlv]
      exact ⟨by omega, by omega, wq_end i2, wl_end i4⟩
    have hP9 := hP.sub (ws' := [(hq, .inr (3, [.ref hp, .ref hst, .int lim, .int thd, .int md, .int sz0, .int tm, .int tx, .int ty, .int sx, .int sy, .ref hqf, .ref hkn, .int stp])), (hqf, .inl (cQ, 4, .inl qc))]) [0, 1] rfl
    have hD9 := hD.sub (ws' := [(hq, .inr (3, [.ref hp, .ref hst, .int lim, .int thd, .int md, .int sz0, .int tm, .int tx, .int ty, .int sx, .int sy, .ref hqf, .ref hkn, .int stp])), (hqf, .inl (cQ, 4, .inl qc))]) [0, 1] (by decide) rfl
    have hK9 := hK.sub (tys' := [(cQ, .int)]) [0] rfl
    exact W.iret (v := lv) hx hb hr (fun t ht hW => ⟨⟨lv, qc, rfl, hpost, by rw [ht]; exact hP9, va_K.moved hW.alike hK9, hD9⟩, hS.F ht⟩) hS.2.2 d_Search_withCorner_64
  · skip
    have c9 : ¬ ((5 : Int) < zss) := fun q => c9 ((ti_lt (ti_k (by decide)) hss).mpr q)
    refine lv_iload_n hx hb d_Search_withCorner_12 rfl (lv_at hl 1 rfl) ?_
    refine lv_iload hx hb d_Search_withCorner_13 (lv_at hl 5 rfl) ?_
    refine lv_iadd hx hb d_Search_withCorner_15 ?_
    refine lv_topi (fun v15 e15 => ?_)
    have h15 : v15.toInt = k + zss := by rw [e15]; exact ti_add g1 hss (by omega) (by omega)
    refine lv_iconst (v := 3) hx hb d_Search_withCorner_16 (by decide) ?_
    refine lv_iand hx hb d_Search_withCorner_17 ?_
    refine lv_topi (fun v17 e17 => ?_)
    have h17 : v17.toInt = (k + zss) % 4 := by rw [e17]; exact bt_and3 h15 (by omega) (by omega)
    refine lv_istore (lv' := [(6, .int v17), (0, .ref hq), (1, .int a1), (2, .int a2), (3, .int a3), (4, .int lv), (5, .int ss)]) hx hb d_Search_withCorner_18 hl (by decide) rfl (fun ls hl => ?_)
    refine lv_aload_n hx hb d_Search_withCorner_20 rfl (lv_at hl 1 rfl) ?_
    refine va_get (D := (dC, dI)) (ci := 3) (v := .ref hqf) (C := R_Search) (T := T_Search) (N := 14) hx hb hts i_Search hown hK hP 0 rfl rfl 11 (by decide) (hts _ wd_92) (fun _ h9 => h9) rfl d_Search_withCorner_21 ?_
    refine lv_iload hx hb d_Search_withCorner_24 (lv_at hl 0 rfl) ?_
    refine lv_dup2_11 hx hb d_Search_withCorner_26 rfl rfl ?_
    have bq := hqb ((k + zss) % 4) (by omega) (by omega)
    have aq := wq_at i2 (by omega) (by omega)
    have in27 : vp_in v17 4 := vi_in h17 (by omega) (by omega)
    refine va_iald hx hb hK hP 1 0 rfl rfl in27 d_Search_withCorner_27 ?_
    refine lv_topi (fun v27 e27 => ?_)
    have e27 : v27 = qc (((k + zss) % 4)).toNat := by rw [e27, vi_cl h17]
    have h27 : v27.toInt = (qf ((k + zss) % 4).toNat).toInt := by rw [e27]; exact aq
    refine lv_iload_n hx hb d_Search_withCorner_28 rfl (lv_at hl 3 rfl) ?_
    refine lv_iadd hx hb d_Search_withCorner_29 ?_
    refine lv_topi (fun v29 e29 => ?_)
    have h29 : v29.toInt = (qf ((k + zss) % 4).toNat).toInt + FL := by rw [e29]; exact ti_add h27 g2 (by omega) (by omega)
    have in30 : vp_in v17 4 := vi_in h17 (by omega) (by omega)
    refine va_iast hx hb hK hP hD hS 1 0 rfl rfl in30 d_Search_withCorner_30 (fun H30 locs hP hD hS => ?_)
    obtain ⟨f30, ef30⟩ : ∃ g, g = upd qc (v17).toNatClampNeg v29 := ⟨_, rfl⟩
    have hP : va_P (dC, dI) vwCl [(hq, .inr (3, [.ref hp, .ref hst, .int lim, .int thd, .int md, .int sz0, .int tm, .int tx, .int ty, .int sx, .int sy, .ref hqf, .ref hkn, .int stp])), (hqf, .inl (cQ, 4, .inl f30))] H30 := by rw [ef30]; exact hP
    have hD : va_D A [(hq, .inr (3, [.ref hp, .ref hst, .int lim, .int thd, .int md, .int sz0, .int tm, .int tx, .int ty, .int sx, .int sy, .ref hqf, .ref hkn, .int stp])), (hqf, .inl (cQ, 4, .inl f30))] := by rw [ef30]; exact hD
    have ef30 : f30 = upd qc (((k + zss) % 4)).toNat v29 := by rw [ef30, vi_cl h17]
    refine lv_aload_n hx hb d_Search_withCorner_31 rfl (lv_at hl 1 rfl) ?_
    refine va_get (D := (dC, dI)) (ci := 3) (v := .ref hqf) (C := R_Search) (T := T_Search) (N := 14) hx hb hts i_Search hown hK hP 0 rfl rfl 11 (by decide) (hts _ wd_92) (fun _ h9 => h9) rfl d_Search_withCorner_32 ?_
    refine lv_iload hx hb d_Search_withCorner_35 (lv_at hl 0 rfl) ?_
    have in37 : vp_in v17 4 := vi_in h17 (by omega) (by omega)
    refine va_iald hx hb hK hP 1 0 rfl rfl in37 d_Search_withCorner_37 ?_
    refine lv_topi (fun v37 e37 => ?_)
    have e37 : v37 = f30 (((k + zss) % 4)).toNat := by rw [e37, vi_cl h17]
    have h37 : v37.toInt = (qf ((k + zss) % 4).toNat).toInt + FL := by rw [e37, ef30, pk_us]; exact h29
    refine lv_aload_n hx hb d_Search_withCorner_38 rfl (lv_at hl 1 rfl) ?_
    refine va_get (D := (dC, dI)) (ci := 3) (v := .int lim) (C := R_Search) (T := T_Search) (N := 14) hx hb hts i_Search hown hK hP 0 rfl rfl 2 (by decide) (hts _ wd_83) (fun _ h9 => h9) rfl d_Search_withCorner_39 ?_
    refine lv_icmp_le (tgt := 56) hx hb d_Search_withCorner_42 (by decide) (fun c42 => ?_) (fun c42 => ?_)
    · skip
      have c42 : (qf ((k + zss) % 4).toNat).toInt + FL ≤ LIM := (ti_le h37 hlim).mp c42
      obtain ⟨v56, e56⟩ : ∃ y : Int32, y = ss + 1 := ⟨_, rfl⟩
      have h56 : v56.toInt = zss + 1 := by rw [e56]; exact ti_add hss (ti_k (by decide)) (by omega) (by omega)
      refine lv_iinc (v := v56) (lv' := [(5, .int v56), (6, .int v17), (0, .ref hq), (1, .int a1), (2, .int a2), (3, .int a3), (4, .int lv)]) hx hb d_Search_withCorner_56 hl (k := 6) rfl (by rw [e56]; rfl) (by decide) rfl (fun ls hl => ?_)
      refine lv_goto (tgt := 6) hx hb d_Search_withCorner_59 (by decide) ?_
      exact ih6 _ (by omega) _ _ _ ⟨lv, zlv, v56, (zss + 1), f30, ls, rfl, lv_sub hl [2, 3, 4, 5, 6, 0] rfl, rfl, hlv, h56, by omega, wq_step i2 (by omega) (by omega) ef30 h29, by omega, by first | exact wl_keep i4 (by omega) (by omega) (by omega) | exact wl_clr i4 (by omega) (by omega) (by omega) l53c, hP, hD, hS⟩
    · skip
      have c42 : ¬ ((qf ((k + zss) % 4).toNat).toInt + FL ≤ LIM) := fun q => c42 ((ti_le h37 hlim).mpr q)
      refine lv_iload hx hb d_Search_withCorner_45 (lv_at hl 5 rfl) ?_
      refine lv_iconst (v := 1) hx hb d_Search_withCorner_47 (by decide) ?_
      refine lv_iload hx hb d_Search_withCorner_48 (lv_at hl 0 rfl) ?_
      refine lv_ishl hx hb d_Search_withCorner_50 ?_
      refine lv_topi (fun v50 e50 => ?_)
      refine lv_iconst (v := (-1)) hx hb d_Search_withCorner_51 (by decide) ?_
      refine lv_ixor hx hb d_Search_withCorner_52 ?_
      refine lv_topi (fun v52 e52 => ?_)
      refine lv_iand hx hb d_Search_withCorner_53 ?_
      refine lv_topi (fun v53 e53 => ?_)
      obtain ⟨l53, h53, l53a, l53b, l53c⟩ := bt_clr hlv h17 (by omega) (by omega) (by omega) (by omega)
      rw [← e50, ← e52, ← e53] at h53
      refine lv_istore (lv' := [(4, .int v53), (6, .int v17), (0, .ref hq), (1, .int a1), (2, .int a2), (3, .int a3), (5, .int ss)]) hx hb d_Search_withCorner_54 hl (by decide) rfl (fun ls hl => ?_)
      obtain ⟨v56, e56⟩ : ∃ y : Int32, y = ss + 1 := ⟨_, rfl⟩
      have h56 : v56.toInt = zss + 1 := by rw [e56]; exact ti_add hss (ti_k (by decide)) (by omega) (by omega)
      refine lv_iinc (v := v56) (lv' := [(5, .int v56), (4, .int v53), (6, .int v17), (0, .ref hq), (1, .int a1), (2, .int a2), (3, .int a3)]) hx hb d_Search_withCorner_56 hl (k := 6) rfl (by rw [e56]; rfl) (by decide) rfl (fun ls hl => ?_)
      refine lv_goto (tgt := 6) hx hb d_Search_withCorner_59 (by decide) ?_
      exact ih6 _ (by omega) _ _ _ ⟨v53, l53, v56, (zss + 1), f30, ls, rfl, lv_sub hl [3, 4, 5, 6, 1, 0] rfl, rfl, h53, h56, by omega, wq_step i2 (by omega) (by omega) ef30 h29, by omega, by first | exact wl_keep i4 (by omega) (by omega) (by omega) | exact wl_clr i4 (by omega) (by omega) (by omega) l53c, hP, hD, hS⟩
