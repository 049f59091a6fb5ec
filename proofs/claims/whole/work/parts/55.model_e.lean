set_option maxHeartbeats 4000000 in
set_option maxRecDepth 100000 in
theorem m_fill (l : Launch) (dC : Nat → ClassId) (dI : Nat → Nat → Nat) (sz : Nat) (mo ad asu aru ast afo : Nat) (mth mw mh mro msd mmn : Int32) (Wd Ht : Int) (hmw : mw.toInt = Wd) (hmh : mh.toInt = Ht) (hW1 : 1 ≤ Wd) (hW2 : Wd ≤ 512) (hH1 : 1 ≤ Ht) (hH2 : Ht ≤ 512) (kD : ClassId) (fd : Nat → Int32) (D : Int → Int → Bool) (hfd : dOK fd D) (a1 a2 a3 a4 a5 : Int32) (x y w h : Int) (ib : Bool) (g1 : a1.toInt = x) (g2 : a2.toInt = y) (g3 : a3.toInt = w) (g4 : a4.toInt = h) (g5 : a5 = zb ib) : Met l y_Model_fill (.code y_Model_fill b_Model_fill 10 (some .int) :: allw) ({ frames := 1, cells := 0, slots := 0, locals := 22 }) (va_Pc [.ref mo, .int a1, .int a2, .int a3, .int a4, .int a5] (rw_B (dC, dI) vwCl [(mo, .inr (5, [.int mth, .int mw, .int mh, .ref ad, .ref asu, .ref aru, .int mro, .ref ast, .int msd, .ref afo, .int mmn])), (ad, .inl (kD, 262144, .inl fd))] [(kD, .boolean)] sz)) (va_Qi (fun (r : Int32) (u : Int32 × (Nat → Int32)) => (¬ (1 ≤ w ∧ w ≤ 512 ∧ 1 ≤ h ∧ h ≤ 512) ∧ r.toInt = 0 ∧ u.1 = 1 ∧ dOK u.2 D) ∨ ((1 ≤ w ∧ w ≤ 512 ∧ 1 ≤ h ∧ h ≤ 512) ∧ r.toInt = cI (fiN D x y w h ib) 0 0 Wd Ht ∧ u.1 = 0 ∧ dOK u.2 (pF D (fiE D x y w h ib) 0 0 Wd Ht 0))) (fun u t => rw_E (dC, dI) vwCl [(mo, .inr (5, [.int u.1, .int mw, .int mh, .ref ad, .ref asu, .ref aru, .int mro, .ref ast, .int msd, .ref afo, .int mmn])), (ad, .inl (kD, 262144, .inl u.2))] [(kD, .boolean)] (va_A [(mo, .inr (5, [.int mth, .int mw, .int mh, .ref ad, .ref asu, .ref aru, .int mro, .ref ast, .int msd, .ref afo, .int mmn])), (ad, .inl (kD, 262144, .inl fd))] sz) t) (va_A [(mo, .inr (5, [.int mth, .int mw, .int mh, .ref ad, .ref asu, .ref aru, .int mro, .ref ast, .int msd, .ref afo, .int mmn])), (ad, .inl (kD, 262144, .inl fd))] sz)) 0 0 (va_A [(mo, .inr (5, [.int mth, .int mw, .int mh, .ref ad, .ref asu, .ref aru, .int mro, .ref ast, .int msd, .ref afo, .int mmn])), (ad, .inl (kD, 262144, .inl fd))] sz) := by
  refine Met.ofW (cc := b_Model_fill) (maxL := 10) (ret := (some .int)) (by decide) rfl ?_
  intro p e s m args below meth c s₁ B hml hv
  obtain ⟨rfl, hsz, hP, hK, hD0⟩ := hv
  have hx := B.exec
  have hb := B.bytes
  have hr := B.returns
  have hts : ∀ w ∈ allw, w.before _ s = true := fun w h => atoms_spec (ws := .code y_Model_fill b_Model_fill 10 (some .int) :: allw) B.pre w (List.mem_cons_of_mem _ h)
  have hown : s.vm.findClass R_Model = some m.cls := findClass_of_methodNamed B.named
  have hlocks := B.notSynchronized
  subst hsz
  have hD := hD0.self (sz := s.heap.size)
  generalize hAe : va_A [(mo, .inr (5, [.int mth, .int mw, .int mh, .ref ad, .ref asu, .ref aru, .int mro, .ref ast, .int msd, .ref afo, .int mmn])), (ad, .inl (kD, 262144, .inl fd))] s.heap.size = A at hD ⊢
  have hA : ∀ q : Nat, s.heap.size ≤ q → A q := fun q h => by rw [← hAe]; exact Or.inr h
  have hS : va_S A s.heap s.heap [] := va_S.rf
  have hP : va_P (dC, dI) vwCl [(mo, .inr (5, [.int mth, .int mw, .int mh, .ref ad, .ref asu, .ref aru, .int mro, .ref ast, .int msd, .ref afo, .int mmn])), (ad, .inl (kD, 262144, .inl fd))] s.heap := hP
  have hl := lv_entry ([.ref mo, .int a1, .int a2, .int a3, .int a4, .int a5]) (n := 10) (Nat.le_of_ble_eq_true rfl)
  rw [lg_entry_eq]
  generalize (lg_sl ([.ref mo, .int a1, .int a2, .int a3, .int a4, .int a5]) ++ List.replicate (10 - (lg_sl ([.ref mo, .int a1, .int a2, .int a3, .int a4, .int a5])).length) Slot.unset).toArray = ls at hl ⊢
  have hl : lv_has ls 10 [(0, .ref mo), (1, .int a1), (2, .int a2), (3, .int a3), (4, .int a4), (5, .int a5)] := hl
  have q1 := ti_rng a1
  have q2 := ti_rng a2
  have q3 := ti_rng a3
  have q4 := ti_rng a4
  refine lv_aload_n hx hb d_Model_fill_0 rfl (lv_at hl 0 rfl) ?_
  refine w_cut (I := fun H' locs' g' => ∃ (tv : Int32) (ztv : Int) (ls : Array Slot), g' = F0 m 32 ls [.int tv, .ref mo] ∧ lv_has ls 10 [(0, .ref mo), (1, .int a1), (2, .int a2), (3, .int a3), (4, .int a4), (5, .int a5)] ∧ tv.toInt = ztv ∧ ((1 ≤ w ∧ w ≤ 512 ∧ 1 ≤ h ∧ h ≤ 512) ∧ ztv = 0 ∨ ¬ (1 ≤ w ∧ w ≤ 512 ∧ 1 ≤ h ∧ h ≤ 512) ∧ ztv = 1) ∧ va_P (dC, dI) vwCl [(mo, .inr (5, [.int mth, .int mw, .int mh, .ref ad, .ref asu, .ref aru, .int mro, .ref ast, .int msd, .ref afo, .int mmn])), (ad, .inl (kD, 262144, .inl fd))] H' ∧ va_D A [(mo, .inr (5, [.int mth, .int mw, .int mh, .ref ad, .ref asu, .ref aru, .int mro, .ref ast, .int msd, .ref afo, .int mmn])), (ad, .inl (kD, 262144, .inl fd))] ∧ va_S A s.heap H' locs') ?_ ?_
  · skip
    intro H32 locs g' hI
    obtain ⟨tv, ztv, ls, rfl, hl, htv, itv, hP, hD, hS⟩ := hI
    refine va_put (D := (dC, dI)) (ci := 5) (v := .int tv) (ty := .int) (C := R_Model) (T := T_Model) (N := 11) hx hb hts i_Model t_Model t_Model_ok n_Model hown hK hP hD hS 0 rfl rfl 0 (by decide) (hts _ wd_565) (fun _ h9 => h9) rfl (by decide +kernel) rfl rfl (Nat.le_of_ble_eq_true rfl) d_Model_fill_32 (fun H32 locs hP hD hS => ?_)
    have hP : va_P (dC, dI) vwCl [(mo, .inr (5, [.int tv, .int mw, .int mh, .ref ad, .ref asu, .ref aru, .int mro, .ref ast, .int msd, .ref afo, .int mmn])), (ad, .inl (kD, 262144, .inl fd))] H32 := hP
    have hD : va_D A [(mo, .inr (5, [.int tv, .int mw, .int mh, .ref ad, .ref asu, .ref aru, .int mro, .ref ast, .int msd, .ref afo, .int mmn])), (ad, .inl (kD, 262144, .inl fd))] := hD
    refine lv_iconst (v := 0) hx hb d_Model_fill_35 (by decide) ?_
    refine lv_istore (lv' := [(6, .int 0), (0, .ref mo), (1, .int a1), (2, .int a2), (3, .int a3), (4, .int a4), (5, .int a5)]) hx hb d_Model_fill_36 hl (by decide) rfl (fun ls hl => ?_)
    refine lv_iconst (v := 0) hx hb d_Model_fill_38 (by decide) ?_
    refine lv_istore (lv' := [(7, .int 0), (6, .int 0), (0, .ref mo), (1, .int a1), (2, .int a2), (3, .int a3), (4, .int a4), (5, .int a5)]) hx hb d_Model_fill_39 hl (by decide) rfl (fun ls hl => ?_)
    refine w_loop (I := fun n H' locs' g' => ∃ (nn : Int32) (znn : Int) (py : Int32) (zpy : Int) (fc : Nat → Int32) (ls : Array Slot), g' = F0 m 41 ls [] ∧ lv_has ls 10 [(0, .ref mo), (1, .int a1), (2, .int a2), (3, .int a3), (4, .int a4), (5, .int a5), (6, .int nn), (7, .int py)] ∧ n = (Ht - zpy).toNat ∧ nn.toInt = znn ∧ py.toInt = zpy ∧ (0 ≤ zpy ∧ zpy ≤ Ht) ∧ (dOK fc (pF D (fiE D x y w h ib) 0 0 Wd zpy 0)) ∧ (znn = cI (fiN D x y w h ib) 0 0 Wd (zpy - 0)) ∧ (ztv = 0 ∨ zpy = 0) ∧ va_P (dC, dI) vwCl [(mo, .inr (5, [.int tv, .int mw, .int mh, .ref ad, .ref asu, .ref aru, .int mro, .ref ast, .int msd, .ref afo, .int mmn])), (ad, .inl (kD, 262144, .inl fc))] H' ∧ va_D A [(mo, .inr (5, [.int tv, .int mw, .int mh, .ref ad, .ref asu, .ref aru, .int mro, .ref ast, .int msd, .ref afo, .int mmn])), (ad, .inl (kD, 262144, .inl fc))] ∧ va_S A s.heap H' locs') ?_ ⟨0, 0, 0, 0, fd, ls, rfl, lv_sub hl [2, 3, 4, 5, 6, 7, 1, 0] rfl, rfl, (ti_k (by decide)), (ti_k (by decide)), by omega, by rw [pf_0]; exact hfd, (cI_0h (fiN D x y w h ib) 0 0 Wd (by omega)).symm, by omega, hP, hD, hS⟩
    intro n41 H41 locs g' hI ih41
    obtain ⟨nn, znn, py, zpy, fc, ls, rfl, hl, hn, hnn, hpy, i1, i2, i3, i4, hP, hD, hS⟩ := hI
    have bn := cI_nn (fiN D x y w h ib) 0 0 Wd (zpy - 0)
    have bm := cI_le (fiN D x y w h ib) 0 0 (w := Wd) (h := zpy - 0) (by omega) (by omega)
    have bq := mul_b2 (a := Wd) (b := zpy - 0) (p := 512) (q := 512) (by omega) (by omega) (by omega) (by omega)
    refine lv_iload hx hb d_Model_fill_41 (lv_at hl 7 rfl) ?_
    refine lv_aload_n hx hb d_Model_fill_43 rfl (lv_at hl 0 rfl) ?_
    refine va_get (D := (dC, dI)) (ci := 5) (v := .int mh) (C := R_Model) (T := T_Model) (N := 11) hx hb hts i_Model hown hK hP 0 rfl rfl 2 (by decide) (hts _ wd_567) (fun _ h9 => h9) rfl d_Model_fill_44 ?_
    refine lv_icmp_ge (tgt := 162) hx hb d_Model_fill_47 (by decide) (fun c47 => ?_) (fun c47 => ?_)
    · skip
      have c47 : Ht ≤ zpy := (ti_le hmh hpy).mp c47
      refine lv_iload hx hb d_Model_fill_162 (lv_at hl 6 rfl) ?_
      have hpost : (¬ (1 ≤ w ∧ w ≤ 512 ∧ 1 ≤ h ∧ h ≤ 512) ∧ nn.toInt = 0 ∧ tv = 1 ∧ dOK fc D) ∨ ((1 ≤ w ∧ w ≤ 512 ∧ 1 ≤ h ∧ h ≤ 512) ∧ nn.toInt = cI (fiN D x y w h ib) 0 0 Wd Ht ∧ tv = 0 ∧ dOK fc (pF D (fiE D x y w h ib) 0 0 Wd Ht 0)) := by
        rcases itv with ⟨ok, z0⟩ | ⟨ok, z1⟩
        · have e : zpy = Ht := by omega
          rw [e] at i2 i3
          exact Or.inr ⟨ok, by rw [hnn, i3, Int.sub_zero], (ti_eq (y := 0) htv (by decide)).mpr z0, i2⟩
        · have e : zpy = 0 := by omega
          rw [e] at i2 i3
          rw [pf_0] at i2
          exact Or.inl ⟨ok, by rw [hnn, i3]; exact cI_0h _ _ _ _ (by omega), (ti_eq (y := 1) htv (by decide)).mpr z1, i2⟩
      have hP9 := hP.sub (ws' := [(mo, .inr (5, [.int tv, .int mw, .int mh, .ref ad, .ref asu, .ref aru, .int mro, .ref ast, .int msd, .ref afo, .int mmn])), (ad, .inl (kD, 262144, .inl fc))]) [0, 1] rfl
      have hD9 := hD.sub (ws' := [(mo, .inr (5, [.int tv, .int mw, .int mh, .ref ad, .ref asu, .ref aru, .int mro, .ref ast, .int msd, .ref afo, .int mmn])), (ad, .inl (kD, 262144, .inl fc))]) [0, 1] (by decide) rfl
      have hK9 := hK.sub (tys' := [(kD, .boolean)]) [0] rfl
      exact W.iret (v := nn) hx hb hr (fun t ht hW => ⟨⟨nn, (tv, fc), rfl, hpost, by rw [ht]; exact hP9, va_K.moved hW.alike hK9, hD9⟩, hS.F ht⟩) hS.2.2 d_Model_fill_164
    · skip
      have c47 : ¬ (Ht ≤ zpy) := fun q => c47 ((ti_le hmh hpy).mpr q)
      refine lv_aload_n hx hb d_Model_fill_50 rfl (lv_at hl 0 rfl) ?_
      refine va_get (D := (dC, dI)) (ci := 5) (v := .int tv) (C := R_Model) (T := T_Model) (N := 11) hx hb hts i_Model hown hK hP 0 rfl rfl 0 (by decide) (hts _ wd_565) (fun _ h9 => h9) rfl d_Model_fill_51 ?_
      refine lv_if_ne (tgt := 162) hx hb d_Model_fill_54 (by decide) (fun c54 => ?_) (fun c54 => ?_)
      · skip
        have c54 : ¬ (ztv = 0) := fun q => c54 ((ti_eq htv (ti_k (by decide))).mpr q)
        refine lv_iload hx hb d_Model_fill_162 (lv_at hl 6 rfl) ?_
        have hpost : (¬ (1 ≤ w ∧ w ≤ 512 ∧ 1 ≤ h ∧ h ≤ 512) ∧ nn.toInt = 0 ∧ tv = 1 ∧ dOK fc D) ∨ ((1 ≤ w ∧ w ≤ 512 ∧ 1 ≤ h ∧ h ≤ 512) ∧ nn.toInt = cI (fiN D x y w h ib) 0 0 Wd Ht ∧ tv = 0 ∧ dOK fc (pF D (fiE D x y w h ib) 0 0 Wd Ht 0)) := by
          rcases itv with ⟨ok, z0⟩ | ⟨ok, z1⟩
          · have e : zpy = Ht := by omega
            rw [e] at i2 i3
            exact Or.inr ⟨ok, by rw [hnn, i3, Int.sub_zero], (ti_eq (y := 0) htv (by decide)).mpr z0, i2⟩
          · have e : zpy = 0 := by omega
            rw [e] at i2 i3
            rw [pf_0] at i2
            exact Or.inl ⟨ok, by rw [hnn, i3]; exact cI_0h _ _ _ _ (by omega), (ti_eq (y := 1) htv (by decide)).mpr z1, i2⟩
        have hP9 := hP.sub (ws' := [(mo, .inr (5, [.int tv, .int mw, .int mh, .ref ad, .ref asu, .ref aru, .int mro, .ref ast, .int msd, .ref afo, .int mmn])), (ad, .inl (kD, 262144, .inl fc))]) [0, 1] rfl
        have hD9 := hD.sub (ws' := [(mo, .inr (5, [.int tv, .int mw, .int mh, .ref ad, .ref asu, .ref aru, .int mro, .ref ast, .int msd, .ref afo, .int mmn])), (ad, .inl (kD, 262144, .inl fc))]) [0, 1] (by decide) rfl
        have hK9 := hK.sub (tys' := [(kD, .boolean)]) [0] rfl
        exact W.iret (v := nn) hx hb hr (fun t ht hW => ⟨⟨nn, (tv, fc), rfl, hpost, by rw [ht]; exact hP9, va_K.moved hW.alike hK9, hD9⟩, hS.F ht⟩) hS.2.2 d_Model_fill_164
      · skip
        have c54 : ztv = 0 := (ti_eq htv (ti_k (by decide))).mp c54
        refine lv_iconst (v := 0) hx hb d_Model_fill_57 (by decide) ?_
        refine lv_istore (lv' := [(8, .int 0), (0, .ref mo), (1, .int a1), (2, .int a2), (3, .int a3), (4, .int a4), (5, .int a5), (6, .int nn), (7, .int py)]) hx hb d_Model_fill_58 hl (by decide) rfl (fun ls hl => ?_)
        refine w_loop (I := fun n H' locs' g' => ∃ (kn : Int32) (zkn : Int) (px : Int32) (zpx : Int) (fe : Nat → Int32) (ls : Array Slot), g' = F0 m 60 ls [] ∧ lv_has ls 10 [(0, .ref mo), (1, .int a1), (2, .int a2), (3, .int a3), (4, .int a4), (5, .int a5), (6, .int kn), (7, .int py), (8, .int px)] ∧ n = (Wd - zpx).toNat ∧ kn.toInt = zkn ∧ px.toInt = zpx ∧ (0 ≤ zpx ∧ zpx ≤ Wd) ∧ (dOK fe (pF D (fiE D x y w h ib) 0 0 Wd zpy zpx)) ∧ (zkn = cI (fiN D x y w h ib) 0 0 Wd (zpy - 0) + rc (fiN D x y w h ib) 0 zpy (zpx - 0).toNat) ∧ va_P (dC, dI) vwCl [(mo, .inr (5, [.int tv, .int mw, .int mh, .ref ad, .ref asu, .ref aru, .int mro, .ref ast, .int msd, .ref afo, .int mmn])), (ad, .inl (kD, 262144, .inl fe))] H' ∧ va_D A [(mo, .inr (5, [.int tv, .int mw, .int mh, .ref ad, .ref asu, .ref aru, .int mro, .ref ast, .int msd, .ref afo, .int mmn])), (ad, .inl (kD, 262144, .inl fe))] ∧ va_S A s.heap H' locs') ?_ ⟨nn, znn, 0, 0, fc, ls, rfl, lv_sub hl [1, 2, 3, 4, 5, 6, 7, 8, 0] rfl, rfl, hnn, (ti_k (by decide)), by omega, i2, by rw [rc_0, Int.add_zero]; exact i3, hP, hD, hS⟩
        intro n60 H60 locs g' hI ih60
        obtain ⟨kn, zkn, px, zpx, fe, ls, rfl, hl, hn, hkn, hpx, j1, j2, j3, hP, hD, hS⟩ := hI
        have rn := rc_nn (fiN D x y w h ib) 0 zpy (zpx - 0).toNat
        have rm := rc_le (fiN D x y w h ib) 0 zpy (zpx - 0).toNat
        refine lv_iload hx hb d_Model_fill_60 (lv_at hl 8 rfl) ?_
        refine lv_aload_n hx hb d_Model_fill_62 rfl (lv_at hl 0 rfl) ?_
        refine va_get (D := (dC, dI)) (ci := 5) (v := .int mw) (C := R_Model) (T := T_Model) (N := 11) hx hb hts i_Model hown hK hP 0 rfl rfl 1 (by decide) (hts _ wd_566) (fun _ h9 => h9) rfl d_Model_fill_63 ?_
        refine lv_icmp_ge (tgt := 156) hx hb d_Model_fill_66 (by decide) (fun c66 => ?_) (fun c66 => ?_)
        · skip
          have c66 : Wd ≤ zpx := (ti_le hmw hpx).mp c66
          obtain ⟨v156, e156⟩ : ∃ y : Int32, y = py + 1 := ⟨_, rfl⟩
          have h156 : v156.toInt = zpy + 1 := by rw [e156]; exact ti_add hpy (ti_k (by decide)) (by omega) (by omega)
          refine lv_iinc (v := v156) (lv' := [(7, .int v156), (0, .ref mo), (1, .int a1), (2, .int a2), (3, .int a3), (4, .int a4), (5, .int a5), (6, .int kn), (8, .int px)]) hx hb d_Model_fill_156 hl (k := 7) rfl (by rw [e156]; rfl) (by decide) rfl (fun ls hl => ?_)
          refine lv_goto (tgt := 41) hx hb d_Model_fill_159 (by decide) ?_
          have ex : zpx = 0 + Wd := by omega
          exact ih41 _ (by omega) _ _ _ ⟨kn, zkn, v156, (zpy + 1), fe, ls, rfl, lv_sub hl [1, 2, 3, 4, 5, 6, 7, 0] rfl, rfl, hkn, h156, by omega, by rw [← pf_row (by omega), ← ex]; exact j2, by rw [cIn_row (by omega) (by omega), ← ex]; exact j3, by omega, hP, hD, hS⟩
        · skip
          have c66 : ¬ (Wd ≤ zpx) := fun q => c66 ((ti_le hmw hpx).mpr q)
          refine w_cut (I := fun H' locs' g' => ∃ (iv : Int32) (ziv : Int) (ls : Array Slot), g' = F0 m 111 ls [.int iv] ∧ lv_has ls 10 [(0, .ref mo), (1, .int a1), (2, .int a2), (3, .int a3), (4, .int a4), (5, .int a5), (6, .int kn), (7, .int py), (8, .int px)] ∧ iv.toInt = ziv ∧ ((x ≤ zpx ∧ zpx < x + w ∧ y ≤ zpy ∧ zpy < y + h) ∧ ziv = 1 ∨ ¬ (x ≤ zpx ∧ zpx < x + w ∧ y ≤ zpy ∧ zpy < y + h) ∧ ziv = 0) ∧ va_P (dC, dI) vwCl [(mo, .inr (5, [.int tv, .int mw, .int mh, .ref ad, .ref asu, .ref aru, .int mro, .ref ast, .int msd, .ref afo, .int mmn])), (ad, .inl (kD, 262144, .inl fe))] H' ∧ va_D A [(mo, .inr (5, [.int tv, .int mw, .int mh, .ref ad, .ref asu, .ref aru, .int mro, .ref ast, .int msd, .ref afo, .int mmn])), (ad, .inl (kD, 262144, .inl fe))] ∧ va_S A s.heap H' locs') ?_ ?_
          · skip
            intro H111 locs g' hI
            obtain ⟨iv, ziv, ls, rfl, hl, hiv, iiv, hP, hD, hS⟩ := hI
            refine lv_istore (lv' := [(9, .int iv), (0, .ref mo), (1, .int a1), (2, .int a2), (3, .int a3), (4, .int a4), (5, .int a5), (6, .int kn), (7, .int py), (8, .int px)]) hx hb d_Model_fill_111 hl (by decide) rfl (fun ls hl => ?_)
            refine lv_iload hx hb d_Model_fill_113 (lv_at hl 0 rfl) ?_
            refine lv_if_eq (tgt := 150) hx hb d_Model_fill_115 (by decide) (fun c115 => ?_) (fun c115 => ?_)
            · skip
              have c115 : ziv = 0 := (ti_eq hiv (ti_k (by decide))).mp c115
              have ke : (fiE D x y w h ib) zpx zpy = D zpx zpy := fiE_out (by omega)
              have nf : (fiN D x y w h ib) zpx zpy = false := fiN_out (by omega)
              obtain ⟨v150, e150⟩ : ∃ y : Int32, y = px + 1 := ⟨_, rfl⟩
              have h150 : v150.toInt = zpx + 1 := by rw [e150]; exact ti_add hpx (ti_k (by decide)) (by omega) (by omega)
              refine lv_iinc (v := v150) (lv' := [(8, .int v150), (9, .int iv), (0, .ref mo), (1, .int a1), (2, .int a2), (3, .int a3), (4, .int a4), (5, .int a5), (6, .int kn), (7, .int py)]) hx hb d_Model_fill_150 hl (k := 9) rfl (by rw [e150]; rfl) (by decide) rfl (fun ls hl => ?_)
              refine lv_goto (tgt := 60) hx hb d_Model_fill_153 (by decide) ?_
              exact ih60 _ (by omega) _ _ _ ⟨kn, zkn, v150, (zpx + 1), fe, ls, rfl, lv_sub hl [2, 3, 4, 5, 6, 7, 8, 9, 0] rfl, rfl, hkn, h150, by omega, by first | (rw [ef146]; exact pf_set j2 (by omega) (by omega) (by omega) (by omega) (by omega) nv) | (rw [pf_keep ke]; exact j2), by first | (rw [rcn_y (by omega) nt]; omega) | (rw [rcn_n (by omega) nf]; omega), hP, hD, hS⟩
            · skip
              have c115 : ¬ (ziv = 0) := fun q => c115 ((ti_eq hiv (ti_k (by decide))).mpr q)
              refine lv_aload_n hx hb d_Model_fill_118 rfl (lv_at hl 1 rfl) ?_
              refine lv_iload hx hb d_Model_fill_119 (lv_at hl 9 rfl) ?_
              refine lv_iload hx hb d_Model_fill_121 (lv_at hl 8 rfl) ?_
              have hPc := hP.sub (ws' := [(mo, .inr (5, [.int tv, .int mw, .int mh, .ref ad, .ref asu, .ref aru, .int mro, .ref ast, .int msd, .ref afo, .int mmn])), (ad, .inl (kD, 262144, .inl fe))]) [0, 1] rfl
              have hKc := hK.sub (tys' := [(kD, .boolean)]) [0] rfl
              refine va_calli (va_runV (As := [.int px, .int py]) (rest := []) ⟨hx, hb, hml, hown, hts⟩ (m_isDark l dC dI mo ad asu aru ast afo tv mw mh mro msd mmn Wd Ht hmw hmh hW1 hW2 hH1 hH2 kD fe (pF D (fiE D x y w h ib) 0 0 Wd zpy zpx) j2 px py zpx zpy hpx hpy (by omega) (by omega) (by omega) (by omega)) (aw_V 2 hts wd_620 wd_622 ws_31 wd_5 wd_623 rfl rfl (by decide +kernel) ⟨Nat.le_of_ble_eq_true rfl, Nat.le_of_ble_eq_true rfl⟩) ⟨ro_blind, va_recv hKc hPc (ci := 5) (q0 := 0) rfl rfl, ro_pre hPc hKc⟩ rfl rfl hl.1 rfl (lv_room (Nat.le_of_ble_eq_true rfl)) d_Model_fill_123 ⟨Nat.le_of_ble_eq_true rfl, Nat.le_of_ble_eq_true rfl⟩) hS (fun q _ h => h.elim) (fun q h => h.elim) (fun v123 _ t9 H123 locs ht hvm h123 hB hz1 hk1 hS => ?_)
              have hP := ro_keep hP hk1
              clear hPc hKc ht hvm hB hz1 hk1
              rw [pf_at] at h123
              refine lv_iload hx hb d_Model_fill_126 (lv_at hl 6 rfl) ?_
              refine lv_icmp_eq (tgt := 150) hx hb d_Model_fill_128 (by decide) (fun c128 => ?_) (fun c128 => ?_)
              · skip
                rw [h123, g5, zb_eq] at c128
                have ke : (fiE D x y w h ib) zpx zpy = D zpx zpy := by rw [c128]; exact fiE_in (by omega)
                have nf : (fiN D x y w h ib) zpx zpy = false := fiN_same c128
                obtain ⟨v150, e150⟩ : ∃ y : Int32, y = px + 1 := ⟨_, rfl⟩
                have h150 : v150.toInt = zpx + 1 := by rw [e150]; exact ti_add hpx (ti_k (by decide)) (by omega) (by omega)
                refine lv_iinc (v := v150) (lv' := [(8, .int v150), (9, .int iv), (0, .ref mo), (1, .int a1), (2, .int a2), (3, .int a3), (4, .int a4), (5, .int a5), (6, .int kn), (7, .int py)]) hx hb d_Model_fill_150 hl (k := 9) rfl (by rw [e150]; rfl) (by decide) rfl (fun ls hl => ?_)
                refine lv_goto (tgt := 60) hx hb d_Model_fill_153 (by decide) ?_
                exact ih60 _ (by omega) _ _ _ ⟨kn, zkn, v150, (zpx + 1), fe, ls, rfl, lv_sub hl [2, 3, 4, 5, 6, 7, 8, 9, 0] rfl, rfl, hkn, h150, by omega, by first | (rw [ef146]; exact pf_set j2 (by omega) (by omega) (by omega) (by omega) (by omega) nv) | (rw [pf_keep ke]; exact j2), by first | (rw [rcn_y (by omega) nt]; omega) | (rw [rcn_n (by omega) nf]; omega), hP, hD, hS⟩
              · skip
                rw [h123, g5, zb_eq] at c128
                have nt : (fiN D x y w h ib) zpx zpy = true := fiN_in (by omega) c128
                refine lv_aload_n hx hb d_Model_fill_131 rfl (lv_at hl 1 rfl) ?_
                refine va_get (D := (dC, dI)) (ci := 5) (v := .ref ad) (C := R_Model) (T := T_Model) (N := 11) hx hb hts i_Model hown hK hP 0 rfl rfl 3 (by decide) (hts _ wd_568) (fun _ h9 => h9) rfl d_Model_fill_132 ?_
                refine lv_sipush (v := 512) hx hb d_Model_fill_135 (by decide) ?_
                refine lv_iload hx hb d_Model_fill_138 (lv_at hl 8 rfl) ?_
                refine lv_imul hx hb d_Model_fill_140 ?_
                refine lv_topi (fun v140 e140 => ?_)
                have h140 : v140.toInt = 512 * zpy := by rw [e140]; exact ti_mul (ti_k (by decide)) hpy (by omega) (by omega)
                refine lv_iload hx hb d_Model_fill_141 (lv_at hl 9 rfl) ?_
                refine lv_iadd hx hb d_Model_fill_143 ?_
                refine lv_topi (fun v143 e143 => ?_)
                have h143 : v143.toInt = (512 * zpy) + zpx := by rw [e143]; exact ti_add h140 hpx (by omega) (by omega)
                refine lv_iload hx hb d_Model_fill_144 (lv_at hl 6 rfl) ?_
                have nv : vp_nar .boolean a5 = zb ((fiE D x y w h ib) zpx zpy) := by rw [fiE_in (by omega), g5]; exact zb_vn _
                have in146 : vp_in v143 262144 := vi_in h143 (by omega) (by omega)
                refine va_zast hx hb hK hP hD hS 1 0 rfl rfl in146 d_Model_fill_146 (fun H146 locs hP hD hS => ?_)
                obtain ⟨f146, ef146⟩ : ∃ g, g = upd fe (v143).toNatClampNeg (vp_nar .boolean a5) := ⟨_, rfl⟩
                have hP : va_P (dC, dI) vwCl [(mo, .inr (5, [.int tv, .int mw, .int mh, .ref ad, .ref asu, .ref aru, .int mro, .ref ast, .int msd, .ref afo, .int mmn])), (ad, .inl (kD, 262144, .inl f146))] H146 := by rw [ef146]; exact hP
                have hD : va_D A [(mo, .inr (5, [.int tv, .int mw, .int mh, .ref ad, .ref asu, .ref aru, .int mro, .ref ast, .int msd, .ref afo, .int mmn])), (ad, .inl (kD, 262144, .inl f146))] := by rw [ef146]; exact hD
                have ef146 : f146 = upd fe (((512 * zpy) + zpx)).toNat (vp_nar .boolean a5) := by rw [ef146, vi_cl h143]
                obtain ⟨v147, e147⟩ : ∃ y : Int32, y = kn + 1 := ⟨_, rfl⟩
                have h147 : v147.toInt = zkn + 1 := by rw [e147]; exact ti_add hkn (ti_k (by decide)) (by omega) (by omega)
                refine lv_iinc (v := v147) (lv' := [(6, .int v147), (9, .int iv), (0, .ref mo), (1, .int a1), (2, .int a2), (3, .int a3), (4, .int a4), (5, .int a5), (7, .int py), (8, .int px)]) hx hb d_Model_fill_147 hl (k := 7) rfl (by rw [e147]; rfl) (by decide) rfl (fun ls hl => ?_)
                obtain ⟨v150, e150⟩ : ∃ y : Int32, y = px + 1 := ⟨_, rfl⟩
                have h150 : v150.toInt = zpx + 1 := by rw [e150]; exact ti_add hpx (ti_k (by decide)) (by omega) (by omega)
                refine lv_iinc (v := v150) (lv' := [(8, .int v150), (6, .int v147), (9, .int iv), (0, .ref mo), (1, .int a1), (2, .int a2), (3, .int a3), (4, .int a4), (5, .int a5), (7, .int py)]) hx hb d_Model_fill_150 hl (k := 9) rfl (by rw [e150]; rfl) (by decide) rfl (fun ls hl => ?_)
                refine lv_goto (tgt := 60) hx hb d_Model_fill_153 (by decide) ?_
                exact ih60 _ (by omega) _ _ _ ⟨v147, (zkn + 1), v150, (zpx + 1), f146, ls, rfl, lv_sub hl [3, 4, 5, 6, 7, 8, 1, 9, 0] rfl, rfl, h147, h150, by omega, by first | (rw [ef146]; exact pf_set j2 (by omega) (by omega) (by omega) (by omega) (by omega) nv) | (rw [pf_keep ke]; exact j2), by first | (rw [rcn_y (by omega) nt]; omega) | (rw [rcn_n (by omega) nf]; omega), hP, hD, hS⟩
          · skip
            intro hj111
            refine lv_iload hx hb d_Model_fill_69 (lv_at hl 8 rfl) ?_
            refine lv_iload_n hx hb d_Model_fill_71 rfl (lv_at hl 1 rfl) ?_
            refine lv_icmp_lt (tgt := 110) hx hb d_Model_fill_72 (by decide) (fun c72 => ?_) (fun c72 => ?_)
            · skip
              have c72 : zpx < x := (ti_lt hpx g1).mp c72
              refine lv_iconst (v := 0) hx hb d_Model_fill_110 (by decide) ?_
              exact hj111 _ _ _ ⟨0, 0, ls, rfl, lv_sub hl [0, 1, 2, 3, 4, 5, 6, 7, 8] rfl, (ti_k (by decide)), by omega, hP, hD, hS⟩
            · skip
              have c72 : ¬ (zpx < x) := fun q => c72 ((ti_lt hpx g1).mpr q)
              refine lv_iload hx hb d_Model_fill_75 (lv_at hl 8 rfl) ?_
              refine lv_i2l hx hb d_Model_fill_77 rfl ?_
              refine lv_topl (fun v77 e77 => ?_)
              have h77 : v77.toInt = zpx := by rw [e77]; exact tl_i2l hpx
              refine lv_iload_n hx hb d_Model_fill_78 rfl (lv_at hl 1 rfl) ?_
              refine lv_i2l hx hb d_Model_fill_79 rfl ?_
              refine lv_topl (fun v79 e79 => ?_)
              have h79 : v79.toInt = x := by rw [e79]; exact tl_i2l g1
              refine lv_iload_n hx hb d_Model_fill_80 rfl (lv_at hl 3 rfl) ?_
              refine lv_i2l hx hb d_Model_fill_81 rfl ?_
              refine lv_topl (fun v81 e81 => ?_)
              have h81 : v81.toInt = w := by rw [e81]; exact tl_i2l g3
              refine lv_ladd hx hb d_Model_fill_82 ?_
              refine lv_topl (fun v82 e82 => ?_)
              have h82 : v82.toInt = x + w := by rw [e82]; exact tl_add h79 h81 (by omega) (by omega)
              refine W.lcmp hx hb d_Model_fill_83 ?_
              refine lv_topi (fun v83 e83 => ?_)
              have h83 : v83.toInt = (if (x + w) < zpx then 1 else if zpx = (x + w) then 0 else -1) := by rw [e83]; exact tl_cmp h77 h82
              refine lv_if_ge (tgt := 110) hx hb d_Model_fill_84 (by decide) (fun c84 => ?_) (fun c84 => ?_)
              · skip
                have c84 : 0 ≤ (if (x + w) < zpx then 1 else if zpx = (x + w) then 0 else -1) := (ti_le (ti_k (by decide)) h83).mp c84
                refine lv_iconst (v := 0) hx hb d_Model_fill_110 (by decide) ?_
                exact hj111 _ _ _ ⟨0, 0, ls, rfl, lv_sub hl [0, 1, 2, 3, 4, 5, 6, 7, 8] rfl, (ti_k (by decide)), by omega, hP, hD, hS⟩
              · skip
                have c84 : ¬ (0 ≤ (if (x + w) < zpx then 1 else if zpx = (x + w) then 0 else -1)) := fun q => c84 ((ti_le (ti_k (by decide)) h83).mpr q)
                refine lv_iload hx hb d_Model_fill_87 (lv_at hl 7 rfl) ?_
                refine lv_iload_n hx hb d_Model_fill_89 rfl (lv_at hl 2 rfl) ?_
                refine lv_icmp_lt (tgt := 110) hx hb d_Model_fill_90 (by decide) (fun c90 => ?_) (fun c90 => ?_)
                · skip
                  have c90 : zpy < y := (ti_lt hpy g2).mp c90
                  refine lv_iconst (v := 0) hx hb d_Model_fill_110 (by decide) ?_
                  exact hj111 _ _ _ ⟨0, 0, ls, rfl, lv_sub hl [0, 1, 2, 3, 4, 5, 6, 7, 8] rfl, (ti_k (by decide)), by omega, hP, hD, hS⟩
                · skip
                  have c90 : ¬ (zpy < y) := fun q => c90 ((ti_lt hpy g2).mpr q)
                  refine lv_iload hx hb d_Model_fill_93 (lv_at hl 7 rfl) ?_
                  refine lv_i2l hx hb d_Model_fill_95 rfl ?_
                  refine lv_topl (fun v95 e95 => ?_)
                  have h95 : v95.toInt = zpy := by rw [e95]; exact tl_i2l hpy
                  refine lv_iload_n hx hb d_Model_fill_96 rfl (lv_at hl 2 rfl) ?_
                  refine lv_i2l hx hb d_Model_fill_97 rfl ?_
                  refine lv_topl (fun v97 e97 => ?_)
                  have h97 : v97.toInt = y := by rw [e97]; exact tl_i2l g2
                  refine lv_iload hx hb d_Model_fill_98 (lv_at hl 4 rfl) ?_
                  refine lv_i2l hx hb d_Model_fill_100 rfl ?_
                  refine lv_topl (fun v100 e100 => ?_)
                  have h100 : v100.toInt = h := by rw [e100]; exact tl_i2l g4
                  refine lv_ladd hx hb d_Model_fill_101 ?_
                  refine lv_topl (fun v101 e101 => ?_)
                  have h101 : v101.toInt = y + h := by rw [e101]; exact tl_add h97 h100 (by omega) (by omega)
                  refine W.lcmp hx hb d_Model_fill_102 ?_
                  refine lv_topi (fun v102 e102 => ?_)
                  have h102 : v102.toInt = (if (y + h) < zpy then 1 else if zpy = (y + h) then 0 else -1) := by rw [e102]; exact tl_cmp h95 h101
                  refine lv_if_ge (tgt := 110) hx hb d_Model_fill_103 (by decide) (fun c103 => ?_) (fun c103 => ?_)
                  · skip
                    have c103 : 0 ≤ (if (y + h) < zpy then 1 else if zpy = (y + h) then 0 else -1) := (ti_le (ti_k (by decide)) h102).mp c103
                    refine lv_iconst (v := 0) hx hb d_Model_fill_110 (by decide) ?_
                    exact hj111 _ _ _ ⟨0, 0, ls, rfl, lv_sub hl [0, 1, 2, 3, 4, 5, 6, 7, 8] rfl, (ti_k (by decide)), by omega, hP, hD, hS⟩
                  · skip
                    have c103 : ¬ (0 ≤ (if (y + h) < zpy then 1 else if zpy = (y + h) then 0 else -1)) := fun q => c103 ((ti_le (ti_k (by decide)) h102).mpr q)
                    refine lv_iconst (v := 1) hx hb d_Model_fill_106 (by decide) ?_
                    refine lv_goto (tgt := 111) hx hb d_Model_fill_107 (by decide) ?_
                    exact hj111 _ _ _ ⟨1, 1, ls, rfl, lv_sub hl [0, 1, 2, 3, 4, 5, 6, 7, 8] rfl, (ti_k (by decide)), by omega, hP, hD, hS⟩
  · skip
    intro hj32
    refine lv_iload_n hx hb d_Model_fill_1 rfl (lv_at hl 3 rfl) ?_
    refine lv_iconst (v := 1) hx hb d_Model_fill_2 (by decide) ?_
    refine lv_icmp_lt (tgt := 27) hx hb d_Model_fill_3 (by decide) (fun c3 => ?_) (fun c3 => ?_)
    · skip
      have c3 : w < 1 := (ti_lt g3 (ti_k (by decide))).mp c3
      refine lv_iconst (v := 1) hx hb d_Model_fill_27 (by decide) ?_
      refine lv_goto (tgt := 32) hx hb d_Model_fill_28 (by decide) ?_
      exact hj32 _ _ _ ⟨1, 1, ls, rfl, lv_sub hl [0, 1, 2, 3, 4, 5] rfl, (ti_k (by decide)), by omega, hP, hD, hS⟩
    · skip
      have c3 : ¬ (w < 1) := fun q => c3 ((ti_lt g3 (ti_k (by decide))).mpr q)
      refine lv_iload_n hx hb d_Model_fill_6 rfl (lv_at hl 3 rfl) ?_
      refine lv_sipush (v := 512) hx hb d_Model_fill_7 (by decide) ?_
      refine lv_icmp_gt (tgt := 27) hx hb d_Model_fill_10 (by decide) (fun c10 => ?_) (fun c10 => ?_)
      · skip
        have c10 : 512 < w := (ti_lt (ti_k (by decide)) g3).mp c10
        refine lv_iconst (v := 1) hx hb d_Model_fill_27 (by decide) ?_
        refine lv_goto (tgt := 32) hx hb d_Model_fill_28 (by decide) ?_
        exact hj32 _ _ _ ⟨1, 1, ls, rfl, lv_sub hl [0, 1, 2, 3, 4, 5] rfl, (ti_k (by decide)), by omega, hP, hD, hS⟩
      · skip
        have c10 : ¬ (512 < w) := fun q => c10 ((ti_lt (ti_k (by decide)) g3).mpr q)
        refine lv_iload hx hb d_Model_fill_13 (lv_at hl 4 rfl) ?_
        refine lv_iconst (v := 1) hx hb d_Model_fill_15 (by decide) ?_
        refine lv_icmp_lt (tgt := 27) hx hb d_Model_fill_16 (by decide) (fun c16 => ?_) (fun c16 => ?_)
        · skip
          have c16 : h < 1 := (ti_lt g4 (ti_k (by decide))).mp c16
          refine lv_iconst (v := 1) hx hb d_Model_fill_27 (by decide) ?_
          refine lv_goto (tgt := 32) hx hb d_Model_fill_28 (by decide) ?_
          exact hj32 _ _ _ ⟨1, 1, ls, rfl, lv_sub hl [0, 1, 2, 3, 4, 5] rfl, (ti_k (by decide)), by omega, hP, hD, hS⟩
        · skip
          have c16 : ¬ (h < 1) := fun q => c16 ((ti_lt g4 (ti_k (by decide))).mpr q)
          refine lv_iload hx hb d_Model_fill_19 (lv_at hl 4 rfl) ?_
          refine lv_sipush (v := 512) hx hb d_Model_fill_21 (by decide) ?_
          refine lv_icmp_le (tgt := 31) hx hb d_Model_fill_24 (by decide) (fun c24 => ?_) (fun c24 => ?_)
          · skip
            have c24 : h ≤ 512 := (ti_le g4 (ti_k (by decide))).mp c24
            refine lv_iconst (v := 0) hx hb d_Model_fill_31 (by decide) ?_
            exact hj32 _ _ _ ⟨0, 0, ls, rfl, lv_sub hl [0, 1, 2, 3, 4, 5] rfl, (ti_k (by decide)), by omega, hP, hD, hS⟩
          · skip
            have c24 : ¬ (h ≤ 512) := fun q => c24 ((ti_le g4 (ti_k (by decide))).mpr q)
            refine lv_iconst (v := 1) hx hb d_Model_fill_27 (by decide) ?_
            refine lv_goto (tgt := 32) hx hb d_Model_fill_28 (by decide) ?_
            exact hj32 _ _ _ ⟨1, 1, ls, rfl, lv_sub hl [0, 1, 2, 3, 4, 5] rfl, (ti_k (by decide)), by omega, hP, hD, hS⟩
