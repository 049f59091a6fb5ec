set_option maxHeartbeats 4000000 in
set_option maxRecDepth 100000 in
theorem c_takeTile (l : Launch) (dC : Nat → ClassId) (dI : Nat → Nat → Nat) (sz : Nat) (hq hp hst hqf hkn : Nat) (lim thd md sz0 tm tx ty sx sy stp : Int32) (a1 a2 a3 a4 : Int32) (x y x2 y2 : Int) (g1 : a1.toInt = x) (g2 : a2.toInt = y) (g3 : a3.toInt = x2) (g4 : a4.toInt = y2) (b1 : 0 ≤ x) (b2 : x ≤ x2) (b3 : 0 ≤ y) (b4 : y ≤ y2) : Met l y_Search_takeTile (.code y_Search_takeTile b_Search_takeTile 5 none :: allw) ({ frames := 0, cells := 0, slots := 0, locals := 0 }) (va_Pc [.ref hq, .int a1, .int a2, .int a3, .int a4] (rw_B (dC, dI) vwCl [(hq, .inr (3, [.ref hp, .ref hst, .int lim, .int thd, .int md, .int sz0, .int tm, .int tx, .int ty, .int sx, .int sy, .ref hqf, .ref hkn, .int stp]))] [] sz)) (va_Qv (fun (u : Int32 × Int32) => u.1.toInt = x2 - x ∧ u.2.toInt = y2 - y) (fun u t => rw_E (dC, dI) vwCl [(hq, .inr (3, [.ref hp, .ref hst, .int lim, .int thd, .int md, .int sz0, .int tm, .int a1, .int a2, .int u.1, .int u.2, .ref hqf, .ref hkn, .int stp]))] [] (va_A [(hq, .inr (3, [.ref hp, .ref hst, .int lim, .int thd, .int md, .int sz0, .int tm, .int tx, .int ty, .int sx, .int sy, .ref hqf, .ref hkn, .int stp]))] sz) t) (va_A [(hq, .inr (3, [.ref hp, .ref hst, .int lim, .int thd, .int md, .int sz0, .int tm, .int tx, .int ty, .int sx, .int sy, .ref hqf, .ref hkn, .int stp]))] sz)) 0 0 (va_A [(hq, .inr (3, [.ref hp, .ref hst, .int lim, .int thd, .int md, .int sz0, .int tm, .int tx, .int ty, .int sx, .int sy, .ref hqf, .ref hkn, .int stp]))] sz) := by
  refine Met.ofW (cc := b_Search_takeTile) (maxL := 5) (ret := none) (by decide) rfl ?_
  intro p e s m args below meth c s₁ B hml hv
  obtain ⟨rfl, hsz, hP, hK, hD0⟩ := hv
  have hx := B.exec
  have hb := B.bytes
  have hr := B.returns
  have hts : ∀ w ∈ allw, w.before _ s = true := fun w h => atoms_spec (ws := .code y_Search_takeTile b_Search_takeTile 5 none :: allw) B.pre w (List.mem_cons_of_mem _ h)
  have hown : s.vm.findClass R_Search = some m.cls := findClass_of_methodNamed B.named
  have hlocks := B.notSynchronized
  subst hsz
  have hD := hD0.self (sz := s.heap.size)
  generalize hAe : va_A [(hq, .inr (3, [.ref hp, .ref hst, .int lim, .int thd, .int md, .int sz0, .int tm, .int tx, .int ty, .int sx, .int sy, .ref hqf, .ref hkn, .int stp]))] s.heap.size = A at hD ⊢
  have hA : ∀ q : Nat, s.heap.size ≤ q → A q := fun q h => by rw [← hAe]; exact Or.inr h
  have hS : va_S A s.heap s.heap [] := va_S.rf
  have hP : va_P (dC, dI) vwCl [(hq, .inr (3, [.ref hp, .ref hst, .int lim, .int thd, .int md, .int sz0, .int tm, .int tx, .int ty, .int sx, .int sy, .ref hqf, .ref hkn, .int stp]))] s.heap := hP
  have hl := lv_entry ([.ref hq, .int a1, .int a2, .int a3, .int a4]) (n := 5) (Nat.le_of_ble_eq_true rfl)
  rw [lg_entry_eq]
  generalize (lg_sl ([.ref hq, .int a1, .int a2, .int a3, .int a4]) ++ List.replicate (5 - (lg_sl ([.ref hq, .int a1, .int a2, .int a3, .int a4])).length) Slot.unset).toArray = ls at hl ⊢
  have hl : lv_has ls 5 [(0, .ref hq), (1, .int a1), (2, .int a2), (3, .int a3), (4, .int a4)] := hl
  have q1 := ti_rng a3
  have q2 := ti_rng a4
  refine lv_aload_n hx hb d_Search_takeTile_0 rfl (lv_at hl 0 rfl) ?_
  refine lv_iload_n hx hb d_Search_takeTile_1 rfl (lv_at hl 1 rfl) ?_
  refine va_put (D := (dC, dI)) (ci := 3) (v := .int a1) (ty := .int) (C := R_Search) (T := T_Search) (N := 14) hx hb hts i_Search t_Search t_Search_ok n_Search hown hK hP hD hS 0 rfl rfl 7 (by decide) (hts _ wd_88) (fun _ h9 => h9) rfl (by decide +kernel) rfl rfl (Nat.le_of_ble_eq_true rfl) d_Search_takeTile_2 (fun H2 locs hP hD hS => ?_)
  have hP : va_P (dC, dI) vwCl [(hq, .inr (3, [.ref hp, .ref hst, .int lim, .int thd, .int md, .int sz0, .int tm, .int a1, .int ty, .int sx, .int sy, .ref hqf, .ref hkn, .int stp]))] H2 := hP
  have hD : va_D A [(hq, .inr (3, [.ref hp, .ref hst, .int lim, .int thd, .int md, .int sz0, .int tm, .int a1, .int ty, .int sx, .int sy, .ref hqf, .ref hkn, .int stp]))] := hD
  refine lv_aload_n hx hb d_Search_takeTile_5 rfl (lv_at hl 0 rfl) ?_
  refine lv_iload_n hx hb d_Search_takeTile_6 rfl (lv_at hl 2 rfl) ?_
  refine va_put (D := (dC, dI)) (ci := 3) (v := .int a2) (ty := .int) (C := R_Search) (T := T_Search) (N := 14) hx hb hts i_Search t_Search t_Search_ok n_Search hown hK hP hD hS 0 rfl rfl 8 (by decide) (hts _ wd_89) (fun _ h9 => h9) rfl (by decide +kernel) rfl rfl (Nat.le_of_ble_eq_true rfl) d_Search_takeTile_7 (fun H7 locs hP hD hS => ?_)
  have hP : va_P (dC, dI) vwCl [(hq, .inr (3, [.ref hp, .ref hst, .int lim, .int thd, .int md, .int sz0, .int tm, .int a1, .int a2, .int sx, .int sy, .ref hqf, .ref hkn, .int stp]))] H7 := hP
  have hD : va_D A [(hq, .inr (3, [.ref hp, .ref hst, .int lim, .int thd, .int md, .int sz0, .int tm, .int a1, .int a2, .int sx, .int sy, .ref hqf, .ref hkn, .int stp]))] := hD
  refine lv_aload_n hx hb d_Search_takeTile_10 rfl (lv_at hl 0 rfl) ?_
  refine lv_iload_n hx hb d_Search_takeTile_11 rfl (lv_at hl 3 rfl) ?_
  refine lv_iload_n hx hb d_Search_takeTile_12 rfl (lv_at hl 1 rfl) ?_
  refine lv_isub hx hb d_Search_takeTile_13 ?_
  refine lv_topi (fun v13 e13 => ?_)
  have h13 : v13.toInt = x2 - x := by rw [e13]; exact ti_sub g3 g1 (by omega) (by omega)
  refine va_put (D := (dC, dI)) (ci := 3) (v := .int v13) (ty := .int) (C := R_Search) (T := T_Search) (N := 14) hx hb hts i_Search t_Search t_Search_ok n_Search hown hK hP hD hS 0 rfl rfl 9 (by decide) (hts _ wd_90) (fun _ h9 => h9) rfl (by decide +kernel) rfl rfl (Nat.le_of_ble_eq_true rfl) d_Search_takeTile_14 (fun H14 locs hP hD hS => ?_)
  have hP : va_P (dC, dI) vwCl [(hq, .inr (3, [.ref hp, .ref hst, .int lim, .int thd, .int md, .int sz0, .int tm, .int a1, .int a2, .int v13, .int sy, .ref hqf, .ref hkn, .int stp]))] H14 := hP
  have hD : va_D A [(hq, .inr (3, [.ref hp, .ref hst, .int lim, .int thd, .int md, .int sz0, .int tm, .int a1, .int a2, .int v13, .int sy, .ref hqf, .ref hkn, .int stp]))] := hD
  refine lv_aload_n hx hb d_Search_takeTile_17 rfl (lv_at hl 0 rfl) ?_
  refine lv_iload hx hb d_Search_takeTile_18 (lv_at hl 4 rfl) ?_
  refine lv_iload_n hx hb d_Search_takeTile_20 rfl (lv_at hl 2 rfl) ?_
  refine lv_isub hx hb d_Search_takeTile_21 ?_
  refine lv_topi (fun v21 e21 => ?_)
  have h21 : v21.toInt = y2 - y := by rw [e21]; exact ti_sub g4 g2 (by omega) (by omega)
  refine va_put (D := (dC, dI)) (ci := 3) (v := .int v21) (ty := .int) (C := R_Search) (T := T_Search) (N := 14) hx hb hts i_Search t_Search t_Search_ok n_Search hown hK hP hD hS 0 rfl rfl 10 (by decide) (hts _ wd_91) (fun _ h9 => h9) rfl (by decide +kernel) rfl rfl (Nat.le_of_ble_eq_true rfl) d_Search_takeTile_22 (fun H22 locs hP hD hS => ?_)
  have hP : va_P (dC, dI) vwCl [(hq, .inr (3, [.ref hp, .ref hst, .int lim, .int thd, .int md, .int sz0, .int tm, .int a1, .int a2, .int v13, .int v21, .ref hqf, .ref hkn, .int stp]))] H22 := hP
  have hD : va_D A [(hq, .inr (3, [.ref hp, .ref hst, .int lim, .int thd, .int md, .int sz0, .int tm, .int a1, .int a2, .int v13, .int v21, .ref hqf, .ref hkn, .int stp]))] := hD
  have hpost : v13.toInt = x2 - x ∧ v21.toInt = y2 - y := by
    exact ⟨h13, h21⟩
  have hP9 := hP.sub (ws' := [(hq, .inr (3, [.ref hp, .ref hst, .int lim, .int thd, .int md, .int sz0, .int tm, .int a1, .int a2, .int v13, .int v21, .ref hqf, .ref hkn, .int stp]))]) [0] rfl
  have hD9 := hD.sub (ws' := [(hq, .inr (3, [.ref hp, .ref hst, .int lim, .int thd, .int md, .int sz0, .int tm, .int a1, .int a2, .int v13, .int v21, .ref hqf, .ref hkn, .int stp]))]) [0] (by decide) rfl
  have hK9 := hK.sub (tys' := []) [] rfl
  exact W.vret hx hb hr (fun t ht hW => ⟨⟨(v13, v21), rfl, hpost, by rw [ht]; exact hP9, va_K.moved hW.alike hK9, hD9⟩, hS.F ht⟩) hS.2.2 d_Search_takeTile_25

set_option maxHeartbeats 4000000 in
set_option maxRecDepth 100000 in
theorem c_clear (l : Launch) (dC : Nat → ClassId) (dI : Nat → Nat → Nat) (sz : Nat) (al ak ar : Nat) (cnt : Int32) : Met l y_List_clear (.code y_List_clear b_List_clear 1 none :: allw) ({ frames := 0, cells := 0, slots := 0, locals := 0 }) (va_Pc [.ref al] (rw_B (dC, dI) vwCl [(al, .inr (2, [.ref ak, .ref ar, .int cnt]))] [] sz)) (va_Qv (fun (u : Unit) => True) (fun u t => rw_E (dC, dI) vwCl [(al, .inr (2, [.ref ak, .ref ar, .int 0]))] [] (va_A [(al, .inr (2, [.ref ak, .ref ar, .int cnt]))] sz) t) (va_A [(al, .inr (2, [.ref ak, .ref ar, .int cnt]))] sz)) 0 0 (va_A [(al, .inr (2, [.ref ak, .ref ar, .int cnt]))] sz) := by
  refine Met.ofW (cc := b_List_clear) (maxL := 1) (ret := none) (by decide) rfl ?_
  intro p e s m args below meth c s₁ B hml hv
  obtain ⟨rfl, hsz, hP, hK, hD0⟩ := hv
  have hx := B.exec
  have hb := B.bytes
  have hr := B.returns
  have hts : ∀ w ∈ allw, w.before _ s = true := fun w h => atoms_spec (ws := .code y_List_clear b_List_clear 1 none :: allw) B.pre w (List.mem_cons_of_mem _ h)
  have hown : s.vm.findClass R_List = some m.cls := findClass_of_methodNamed B.named
  have hlocks := B.notSynchronized
  subst hsz
  have hD := hD0.self (sz := s.heap.size)
  generalize hAe : va_A [(al, .inr (2, [.ref ak, .ref ar, .int cnt]))] s.heap.size = A at hD ⊢
  have hA : ∀ q : Nat, s.heap.size ≤ q → A q := fun q h => by rw [← hAe]; exact Or.inr h
  have hS : va_S A s.heap s.heap [] := va_S.rf
  have hP : va_P (dC, dI) vwCl [(al, .inr (2, [.ref ak, .ref ar, .int cnt]))] s.heap := hP
  have hl := lv_entry ([.ref al]) (n := 1) (Nat.le_of_ble_eq_true rfl)
  rw [lg_entry_eq]
  generalize (lg_sl ([.ref al]) ++ List.replicate (1 - (lg_sl ([.ref al])).length) Slot.unset).toArray = ls at hl ⊢
  have hl : lv_has ls 1 [(0, .ref al)] := hl
  refine lv_aload_n hx hb d_List_clear_0 rfl (lv_at hl 0 rfl) ?_
  refine lv_iconst (v := 0) hx hb d_List_clear_1 (by decide) ?_
  refine va_put (D := (dC, dI)) (ci := 2) (v := .int 0) (ty := .int) (C := R_List) (T := T_List) (N := 3) hx hb hts i_List t_List t_List_ok n_List hown hK hP hD hS 0 rfl rfl 2 (by decide) (hts _ wd_69) (fun _ h9 => h9) rfl (by decide +kernel) rfl rfl (Nat.le_of_ble_eq_true rfl) d_List_clear_2 (fun H2 locs hP hD hS => ?_)
  have hP : va_P (dC, dI) vwCl [(al, .inr (2, [.ref ak, .ref ar, .int 0]))] H2 := hP
  have hD : va_D A [(al, .inr (2, [.ref ak, .ref ar, .int 0]))] := hD
  have hpost : True := by
    trivial
  have hP9 := hP.sub (ws' := [(al, .inr (2, [.ref ak, .ref ar, .int 0]))]) [0] rfl
  have hD9 := hD.sub (ws' := [(al, .inr (2, [.ref ak, .ref ar, .int 0]))]) [0] (by decide) rfl
  have hK9 := hK.sub (tys' := []) [] rfl
  exact W.vret hx hb hr (fun t ht hW => ⟨⟨(), rfl, hpost, by rw [ht]; exact hP9, va_K.moved hW.alike hK9, hD9⟩, hS.F ht⟩) hS.2.2 d_List_clear_5
