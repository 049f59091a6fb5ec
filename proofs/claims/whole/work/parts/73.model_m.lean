set_option maxHeartbeats 4000000 in
set_option maxRecDepth 100000 in
theorem m_order (l : Launch) (dC : Nat → ClassId) (dI : Nat → Nat → Nat) (sz : Nat) (mo ad asu aru ast afo : Nat) (mth mw mh mro msd mmn : Int32) (SD : Int) (hsd : msd.toInt = SD) (s0 : 0 ≤ SD) (s1 : SD ≤ 300) (kT : ClassId) (ft : Nat → Int32) (hE : ∀ a, 0 ≤ a → a < SD → bE ft a) (D : Int → Int → Bool) (F : Int → Int → Int → Int → Int → Prop) (hst : stOK D ft SD F) (kF : ClassId) (ff : Nat → Int32) (hmn : mmn.toInt = 0) : Met l y_Model_order (.code y_Model_order b_Model_order 6 none :: allw) ({ frames := 3, cells := 0, slots := 0, locals := 67 }) (va_Pc [.ref mo] (rw_B (dC, dI) vwCl [(mo, .inr (5, [.int mth, .int mw, .int mh, .ref ad, .ref asu, .ref aru, .int mro, .ref ast, .int msd, .ref afo, .int mmn])), (ast, .inl (kT, 1800, .inl ft)), (afo, .inl (kF, 1800, .inl ff))] [(kT, .int), (kF, .int)] sz)) (va_Qv (fun (u : Int32 × (Nat → Int32)) => 0 ≤ u.1.toInt ∧ u.1.toInt ≤ 300 ∧ foAll ft SD u.2 u.1.toInt) (fun u t => rw_E (dC, dI) vwCl [(mo, .inr (5, [.int mth, .int mw, .int mh, .ref ad, .ref asu, .ref aru, .int mro, .ref ast, .int msd, .ref afo, .int u.1])), (ast, .inl (kT, 1800, .inl ft)), (afo, .inl (kF, 1800, .inl u.2))] [(kT, .int), (kF, .int)] (va_A [(mo, .inr (5, [.int mth, .int mw, .int mh, .ref ad, .ref asu, .ref aru, .int mro, .ref ast, .int msd, .ref afo, .int mmn])), (ast, .inl (kT, 1800, .inl ft)), (afo, .inl (kF, 1800, .inl ff))] sz) t) (va_A [(mo, .inr (5, [.int mth, .int mw, .int mh, .ref ad, .ref asu, .ref aru, .int mro, .ref ast, .int msd, .ref afo, .int mmn])), (ast, .inl (kT, 1800, .inl ft)), (afo, .inl (kF, 1800, .inl ff))] sz)) 0 0 (va_A [(mo, .inr (5, [.int mth, .int mw, .int mh, .ref ad, .ref asu, .ref aru, .int mro, .ref ast, .int msd, .ref afo, .int mmn])), (ast, .inl (kT, 1800, .inl ft)), (afo, .inl (kF, 1800, .inl ff))] sz) := by
  refine Met.ofW (cc := b_Model_order) (maxL := 6) (ret := none) (by decide) rfl ?_
  intro p e s m args below meth c s₁ B hml hv
  obtain ⟨rfl, hsz, hP, hK, hD0⟩ := hv
  have hx := B.exec
  have hb := B.bytes
  have hr := B.returns
  have hts : ∀ w ∈ allw, w.before _ s = true := fun w h => atoms_spec (ws := .code y_Model_order b_Model_order 6 none :: allw) B.pre w (List.mem_cons_of_mem _ h)
  have hown : s.vm.findClass R_Model = some m.cls := findClass_of_methodNamed B.named
  have hlocks := B.notSynchronized
  subst hsz
  have hD := hD0.self (sz := s.heap.size)
  generalize hAe : va_A [(mo, .inr (5, [.int mth, .int mw, .int mh, .ref ad, .ref asu, .ref aru, .int mro, .ref ast, .int msd, .ref afo, .int mmn])), (ast, .inl (kT, 1800, .inl ft)), (afo, .inl (kF, 1800, .inl ff))] s.heap.size = A at hD ⊢
  have hA : ∀ q : Nat, s.heap.size ≤ q → A q := fun q h => by rw [← hAe]; exact Or.inr h
  have hS : va_S A s.heap s.heap [] := va_S.rf
  have hP : va_P (dC, dI) vwCl [(mo, .inr (5, [.int mth, .int mw, .int mh, .ref ad, .ref asu, .ref aru, .int mro, .ref ast, .int msd, .ref afo, .int mmn])), (ast, .inl (kT, 1800, .inl ft)), (afo, .inl (kF, 1800, .inl ff))] s.heap := hP
  have hl := lv_entry ([.ref mo]) (n := 6) (Nat.le_of_ble_eq_true rfl)
  rw [lg_entry_eq]
  generalize (lg_sl ([.ref mo]) ++ List.replicate (6 - (lg_sl ([.ref mo])).length) Slot.unset).toArray = ls at hl ⊢
  have hl : lv_has ls 6 [(0, .ref mo)] := hl
  refine lv_iconst (v := (-1)) hx hb d_Model_order_0 (by decide) ?_
  refine lv_istore_n (lv' := [(1, .int (-1)), (0, .ref mo)]) hx hb d_Model_order_1 rfl hl (by decide) rfl (fun ls hl => ?_)
  refine lv_iconst (v := 1) hx hb d_Model_order_2 (by decide) ?_
  refine lv_istore_n (lv' := [(2, .int 1), (1, .int (-1)), (0, .ref mo)]) hx hb d_Model_order_3 rfl hl (by decide) rfl (fun ls hl => ?_)
  refine w_loop (I := fun n H' locs' g' => ∃ (la : Int32) (zla : Int) (mv : Int32) (zmv : Int) (mn9 : Int32) (zmn : Int) (gc : Nat → Int32) (ls : Array Slot), g' = F0 m 4 ls [] ∧ lv_has ls 6 [(0, .ref mo), (1, .int la), (2, .int mv)] ∧ n = (2 * (300 - zmn) + zmv).toNat ∧ la.toInt = zla ∧ mv.toInt = zmv ∧ (mn9.toInt = zmn) ∧ (0 ≤ zmn ∧ zmn ≤ 300 ∧ (zmv = 0 ∨ zmv = 1)) ∧ ((zmv = 1 ∧ foOK ft SD gc zmn zla) ∨ (zmv = 0 ∧ foAll ft SD gc zmn)) ∧ va_P (dC, dI) vwCl [(mo, .inr (5, [.int mth, .int mw, .int mh, .ref ad, .ref asu, .ref aru, .int mro, .ref ast, .int msd, .ref afo, .int mn9])), (ast, .inl (kT, 1800, .inl ft)), (afo, .inl (kF, 1800, .inl gc))] H' ∧ va_D A [(mo, .inr (5, [.int mth, .int mw, .int mh, .ref ad, .ref asu, .ref aru, .int mro, .ref ast, .int msd, .ref afo, .int mn9])), (ast, .inl (kT, 1800, .inl ft)), (afo, .inl (kF, 1800, .inl gc))] ∧ va_S A s.heap H' locs') ?_ ⟨(-1), (-1), 1, 1, mmn, 0, ff, ls, rfl, lv_sub hl [2, 1, 0] rfl, rfl, (ti_k (by decide)), (ti_k (by decide)), hmn, by omega, Or.inl ⟨rfl, fo_0 _ _ _⟩, hP, hD, hS⟩
  intro n4 H4 locs g' hI ih4
  obtain ⟨la, zla, mv, zmv, mn9, zmn, gc, ls, rfl, hl, hn, hla, hmv, hmn9, i1, i2, hP, hD, hS⟩ := hI
  refine lv_iload_n hx hb d_Model_order_4 rfl (lv_at hl 2 rfl) ?_
  refine lv_if_eq (tgt := 163) hx hb d_Model_order_5 (by decide) (fun c5 => ?_) (fun c5 => ?_)
  · skip
    have c5 : zmv = 0 := (ti_eq hmv (ti_k (by decide))).mp c5
    have hpost : 0 ≤ mn9.toInt ∧ mn9.toInt ≤ 300 ∧ foAll ft SD gc mn9.toInt := by
      refine ⟨by omega, by omega, ?_⟩
      rw [hmn9]
      rcases i2 with q | q <;> first | exact q.2 | (exfalso; omega)
    have hP9 := hP.sub (ws' := [(mo, .inr (5, [.int mth, .int mw, .int mh, .ref ad, .ref asu, .ref aru, .int mro, .ref ast, .int msd, .ref afo, .int mn9])), (ast, .inl (kT, 1800, .inl ft)), (afo, .inl (kF, 1800, .inl gc))]) [0, 1, 2] rfl
    have hD9 := hD.sub (ws' := [(mo, .inr (5, [.int mth, .int mw, .int mh, .ref ad, .ref asu, .ref aru, .int mro, .ref ast, .int msd, .ref afo, .int mn9])), (ast, .inl (kT, 1800, .inl ft)), (afo, .inl (kF, 1800, .inl gc))]) [0, 1, 2] (by decide) rfl
    have hK9 := hK.sub (tys' := [(kT, .int), (kF, .int)]) [0, 1] rfl
    exact W.vret hx hb hr (fun t ht hW => ⟨⟨(mn9, gc), rfl, hpost, by rw [ht]; exact hP9, va_K.moved hW.alike hK9, hD9⟩, hS.F ht⟩) hS.2.2 d_Model_order_163
  · skip
    have c5 : ¬ (zmv = 0) := fun q => c5 ((ti_eq hmv (ti_k (by decide))).mpr q)
    have fo : foOK ft SD gc zmn zla := by rcases i2 with q | q <;> first | exact q.2 | (exfalso; omega)
    have lb9 : zla = -1 ∨ (0 ≤ zla ∧ zla < SD) := by rcases fo.2.2 with q | q <;> omega
    refine lv_iconst (v := (-1)) hx hb d_Model_order_8 (by decide) ?_
    refine lv_istore_n (lv' := [(3, .int (-1)), (0, .ref mo), (1, .int la), (2, .int mv)]) hx hb d_Model_order_9 rfl hl (by decide) rfl (fun ls hl => ?_)
    refine lv_iconst (v := 0) hx hb d_Model_order_10 (by decide) ?_
    refine lv_istore (lv' := [(4, .int 0), (3, .int (-1)), (0, .ref mo), (1, .int la), (2, .int mv)]) hx hb d_Model_order_11 hl (by decide) rfl (fun ls hl => ?_)
    refine w_loop (I := fun n H' locs' g' => ∃ (nx : Int32) (znx : Int) (aa : Int32) (zaa : Int) (ls : Array Slot), g' = F0 m 13 ls [] ∧ lv_has ls 6 [(0, .ref mo), (1, .int la), (2, .int mv), (3, .int nx), (4, .int aa)] ∧ n = (SD - zaa).toNat ∧ nx.toInt = znx ∧ aa.toInt = zaa ∧ (0 ≤ zaa ∧ zaa ≤ SD ∧ -1 ≤ znx ∧ znx < SD) ∧ (best ft SD zla znx zaa) ∧ va_P (dC, dI) vwCl [(mo, .inr (5, [.int mth, .int mw, .int mh, .ref ad, .ref asu, .ref aru, .int mro, .ref ast, .int msd, .ref afo, .int mn9])), (ast, .inl (kT, 1800, .inl ft)), (afo, .inl (kF, 1800, .inl gc))] H' ∧ va_D A [(mo, .inr (5, [.int mth, .int mw, .int mh, .ref ad, .ref asu, .ref aru, .int mro, .ref ast, .int msd, .ref afo, .int mn9])), (ast, .inl (kT, 1800, .inl ft)), (afo, .inl (kF, 1800, .inl gc))] ∧ va_S A s.heap H' locs') ?_ ⟨(-1), (-1), 0, 0, ls, rfl, lv_sub hl [2, 3, 4, 1, 0] rfl, rfl, (ti_k (by decide)), (ti_k (by decide)), by omega, Or.inl ⟨rfl, fun b b0 b1 => by omega⟩, hP, hD, hS⟩
    intro n13 H13 locs g' hI ih13
    obtain ⟨nx, znx, aa, zaa, ls, rfl, hl, hn, hnx, haa, j1, j2, hP, hD, hS⟩ := hI
    refine lv_iload hx hb d_Model_order_13 (lv_at hl 4 rfl) ?_
    refine lv_aload_n hx hb d_Model_order_15 rfl (lv_at hl 0 rfl) ?_
    refine va_get (D := (dC, dI)) (ci := 5) (v := .int msd) (C := R_Model) (T := T_Model) (N := 11) hx hb hts i_Model hown hK hP 0 rfl rfl 8 (by decide) (hts _ wd_573) (fun _ h9 => h9) rfl d_Model_order_16 ?_
    refine lv_icmp_ge (tgt := 80) hx hb d_Model_order_19 (by decide) (fun c19 => ?_) (fun c19 => ?_)
    · skip
      have c19 : SD ≤ zaa := (ti_le hsd haa).mp c19
      have ea : zaa = SD := by omega
      rw [ea] at j2
      refine lv_iload_n hx hb d_Model_order_80 rfl (lv_at hl 3 rfl) ?_
      refine lv_if_lt (tgt := 88) hx hb d_Model_order_81 (by decide) (fun c81 => ?_) (fun c81 => ?_)
      · skip
        have c81 : znx < 0 := (ti_lt hnx (ti_k (by decide))).mp c81
        refine lv_iconst (v := 0) hx hb d_Model_order_88 (by decide) ?_
        refine lv_istore_n (lv' := [(2, .int 0), (0, .ref mo), (1, .int la), (3, .int nx), (4, .int aa)]) hx hb d_Model_order_89 rfl hl (by decide) rfl (fun ls hl => ?_)
        refine lv_iconst (v := 0) hx hb d_Model_order_90 (by decide) ?_
        refine lv_istore (lv' := [(4, .int 0), (2, .int 0), (0, .ref mo), (1, .int la), (3, .int nx)]) hx hb d_Model_order_91 hl (by decide) rfl (fun ls hl => ?_)
        refine w_loop (I := fun n H' locs' g' => ∃ (kk : Int32) (zkk : Int) (mx : Int32) (zmx : Int) (gd : Nat → Int32) (ls : Array Slot), g' = F0 m 93 ls [] ∧ lv_has ls 6 [(0, .ref mo), (1, .int la), (2, .int 0), (3, .int nx), (4, .int kk)] ∧ n = (6 - zkk).toNat ∧ kk.toInt = zkk ∧ (mx.toInt = zmx) ∧ (0 ≤ zkk ∧ zkk ≤ 6 ∧ zmx = zmn) ∧ (∀ i : Nat, (i : Int) < 6 * zmn → gd i = gc i) ∧ (∀ k, 0 ≤ k → k < zkk → sE gd zmn k = sE ft znx k) ∧ va_P (dC, dI) vwCl [(mo, .inr (5, [.int mth, .int mw, .int mh, .ref ad, .ref asu, .ref aru, .int mro, .ref ast, .int msd, .ref afo, .int mx])), (ast, .inl (kT, 1800, .inl ft)), (afo, .inl (kF, 1800, .inl gd))] H' ∧ va_D A [(mo, .inr (5, [.int mth, .int mw, .int mh, .ref ad, .ref asu, .ref aru, .int mro, .ref ast, .int msd, .ref afo, .int mx])), (ast, .inl (kT, 1800, .inl ft)), (afo, .inl (kF, 1800, .inl gd))] ∧ va_S A s.heap H' locs') ?_ ⟨0, 0, mn9, zmn, gc, ls, rfl, lv_sub hl [2, 3, 1, 4, 0] rfl, rfl, (ti_k (by decide)), hmn9, by omega, fun _ _ => rfl, fun k k0 k1 => by omega, hP, hD, hS⟩
        intro n93 H93 locs g' hI ih93
        obtain ⟨kk, zkk, mx, zmx, gd, ls, rfl, hl, hn, hkk, hmx, l1, l2, l3, hP, hD, hS⟩ := hI
        refine lv_iload hx hb d_Model_order_93 (lv_at hl 4 rfl) ?_
        refine lv_bipush (v := 6) hx hb d_Model_order_95 (by decide) ?_
        refine lv_icmp_ge (tgt := 137) hx hb d_Model_order_97 (by decide) (fun c97 => ?_) (fun c97 => ?_)
        · skip
          have c97 : (6 : Int) ≤ zkk := (ti_le (ti_k (by decide)) hkk).mp c97
          refine lv_aload_n hx hb d_Model_order_137 rfl (lv_at hl 0 rfl) ?_
          refine lv_iload_n hx hb d_Model_order_138 rfl (lv_at hl 2 rfl) ?_
          refine lv_if_eq (tgt := 151) hx hb d_Model_order_139 (by decide) (fun c139 => ?_) (fun c139 => ?_)
          · skip
            have c139 : (0 : Int) = 0 := (ti_eq (ti_k (by decide)) (ti_k (by decide))).mp c139
            refine lv_aload_n hx hb d_Model_order_151 rfl (lv_at hl 0 rfl) ?_
            refine va_get (D := (dC, dI)) (ci := 5) (v := .int mx) (C := R_Model) (T := T_Model) (N := 11) hx hb hts i_Model hown hK hP 0 rfl rfl 10 (by decide) (hts _ wd_575) (fun _ h9 => h9) rfl d_Model_order_152 ?_
            refine va_put (D := (dC, dI)) (ci := 5) (v := .int mx) (ty := .int) (C := R_Model) (T := T_Model) (N := 11) hx hb hts i_Model t_Model t_Model_ok n_Model hown hK hP hD hS 0 rfl rfl 10 (by decide) (hts _ wd_575) (fun _ h9 => h9) rfl (by decide +kernel) rfl rfl (Nat.le_of_ble_eq_true rfl) d_Model_order_155 (fun H155 locs hP hD hS => ?_)
            have hP : va_P (dC, dI) vwCl [(mo, .inr (5, [.int mth, .int mw, .int mh, .ref ad, .ref asu, .ref aru, .int mro, .ref ast, .int msd, .ref afo, .int mx])), (ast, .inl (kT, 1800, .inl ft)), (afo, .inl (kF, 1800, .inl gd))] H155 := hP
            have hD : va_D A [(mo, .inr (5, [.int mth, .int mw, .int mh, .ref ad, .ref asu, .ref aru, .int mro, .ref ast, .int msd, .ref afo, .int mx])), (ast, .inl (kT, 1800, .inl ft)), (afo, .inl (kF, 1800, .inl gd))] := hD
            refine lv_iload_n hx hb d_Model_order_158 rfl (lv_at hl 3 rfl) ?_
            refine lv_istore_n (lv' := [(1, .int nx), (0, .ref mo), (2, .int 0), (3, .int nx), (4, .int kk)]) hx hb d_Model_order_159 rfl hl (by decide) rfl (fun ls hl => ?_)
            refine lv_goto (tgt := 4) hx hb d_Model_order_160 (by decide) ?_
            have em : zmx = zmn := l1.2.2
            exact ih4 _ (by omega) _ _ _ ⟨nx, znx, 0, 0, mx, zmx, gd, ls, rfl, lv_sub hl [1, 0, 2] rfl, rfl, hnx, (ti_k (by decide)), by first | exact h147 | exact hmx, by omega, by rw [em]; first | exact Or.inl ⟨rfl, fo_add hst fo (by omega) l2 (fun k k0 k1 => l3 k k0 (by omega)) j2 (by omega)⟩ | exact Or.inr ⟨rfl, fo_congr (fo_end fo j2 (by omega)) l2⟩, hP, hD, hS⟩
          · skip
            have c139 : ¬ ((0 : Int) = 0) := fun q => c139 ((ti_eq (ti_k (by decide)) (ti_k (by decide))).mpr q)
            exact absurd rfl c139
        · skip
          have c97 : ¬ ((6 : Int) ≤ zkk) := fun q => c97 ((ti_le (ti_k (by decide)) hkk).mpr q)
          refine lv_iload_n hx hb d_Model_order_100 rfl (lv_at hl 2 rfl) ?_
          refine lv_if_eq (tgt := 137) hx hb d_Model_order_101 (by decide) (fun c101 => ?_) (fun c101 => ?_)
          · skip
            have c101 : (0 : Int) = 0 := (ti_eq (ti_k (by decide)) (ti_k (by decide))).mp c101
            refine lv_aload_n hx hb d_Model_order_137 rfl (lv_at hl 0 rfl) ?_
            refine lv_iload_n hx hb d_Model_order_138 rfl (lv_at hl 2 rfl) ?_
            refine lv_if_eq (tgt := 151) hx hb d_Model_order_139 (by decide) (fun c139 => ?_) (fun c139 => ?_)
            · skip
              have c139 : (0 : Int) = 0 := (ti_eq (ti_k (by decide)) (ti_k (by decide))).mp c139
              refine lv_aload_n hx hb d_Model_order_151 rfl (lv_at hl 0 rfl) ?_
              refine va_get (D := (dC, dI)) (ci := 5) (v := .int mx) (C := R_Model) (T := T_Model) (N := 11) hx hb hts i_Model hown hK hP 0 rfl rfl 10 (by decide) (hts _ wd_575) (fun _ h9 => h9) rfl d_Model_order_152 ?_
              refine va_put (D := (dC, dI)) (ci := 5) (v := .int mx) (ty := .int) (C := R_Model) (T := T_Model) (N := 11) hx hb hts i_Model t_Model t_Model_ok n_Model hown hK hP hD hS 0 rfl rfl 10 (by decide) (hts _ wd_575) (fun _ h9 => h9) rfl (by decide +kernel) rfl rfl (Nat.le_of_ble_eq_true rfl) d_Model_order_155 (fun H155 locs hP hD hS => ?_)
              have hP : va_P (dC, dI) vwCl [(mo, .inr (5, [.int mth, .int mw, .int mh, .ref ad, .ref asu, .ref aru, .int mro, .ref ast, .int msd, .ref afo, .int mx])), (ast, .inl (kT, 1800, .inl ft)), (afo, .inl (kF, 1800, .inl gd))] H155 := hP
              have hD : va_D A [(mo, .inr (5, [.int mth, .int mw, .int mh, .ref ad, .ref asu, .ref aru, .int mro, .ref ast, .int msd, .ref afo, .int mx])), (ast, .inl (kT, 1800, .inl ft)), (afo, .inl (kF, 1800, .inl gd))] := hD
              refine lv_iload_n hx hb d_Model_order_158 rfl (lv_at hl 3 rfl) ?_
              refine lv_istore_n (lv' := [(1, .int nx), (0, .ref mo), (2, .int 0), (3, .int nx), (4, .int kk)]) hx hb d_Model_order_159 rfl hl (by decide) rfl (fun ls hl => ?_)
              refine lv_goto (tgt := 4) hx hb d_Model_order_160 (by decide) ?_
              have em : zmx = zmn := l1.2.2
              exact ih4 _ (by omega) _ _ _ ⟨nx, znx, 0, 0, mx, zmx, gd, ls, rfl, lv_sub hl [1, 0, 2] rfl, rfl, hnx, (ti_k (by decide)), by first | exact h147 | exact hmx, by omega, by rw [em]; first | exact Or.inl ⟨rfl, fo_add hst fo (by omega) l2 (fun k k0 k1 => l3 k k0 (by omega)) j2 (by omega)⟩ | exact Or.inr ⟨rfl, fo_congr (fo_end fo j2 (by omega)) l2⟩, hP, hD, hS⟩
            · skip
              have c139 : ¬ ((0 : Int) = 0) := fun q => c139 ((ti_eq (ti_k (by decide)) (ti_k (by decide))).mpr q)
              exact absurd rfl c139
          · skip
            have c101 : ¬ ((0 : Int) = 0) := fun q => c101 ((ti_eq (ti_k (by decide)) (ti_k (by decide))).mpr q)
            exact absurd rfl c101
      · skip
        have c81 : ¬ (znx < 0) := fun q => c81 ((ti_lt hnx (ti_k (by decide))).mpr q)
        have few : zmn + 1 ≤ SD := by have q := j2; unfold best at q; rcases q with q | q <;> first | (exfalso; omega) | exact fo_few hst fo (by omega) (by omega) (by omega) (by omega) q.2.2.1
        refine lv_iconst (v := 1) hx hb d_Model_order_84 (by decide) ?_
        refine lv_goto (tgt := 89) hx hb d_Model_order_85 (by decide) ?_
        refine lv_istore_n (lv' := [(2, .int 1), (0, .ref mo), (1, .int la), (3, .int nx), (4, .int aa)]) hx hb d_Model_order_89 rfl hl (by decide) rfl (fun ls hl => ?_)
        refine lv_iconst (v := 0) hx hb d_Model_order_90 (by decide) ?_
        refine lv_istore (lv' := [(4, .int 0), (2, .int 1), (0, .ref mo), (1, .int la), (3, .int nx)]) hx hb d_Model_order_91 hl (by decide) rfl (fun ls hl => ?_)
        refine w_loop (I := fun n H' locs' g' => ∃ (kk : Int32) (zkk : Int) (mx : Int32) (zmx : Int) (gd : Nat → Int32) (ls : Array Slot), g' = F0 m 93 ls [] ∧ lv_has ls 6 [(0, .ref mo), (1, .int la), (2, .int 1), (3, .int nx), (4, .int kk)] ∧ n = (6 - zkk).toNat ∧ kk.toInt = zkk ∧ (mx.toInt = zmx) ∧ (0 ≤ zkk ∧ zkk ≤ 6 ∧ zmx = zmn) ∧ (∀ i : Nat, (i : Int) < 6 * zmn → gd i = gc i) ∧ (∀ k, 0 ≤ k → k < zkk → sE gd zmn k = sE ft znx k) ∧ va_P (dC, dI) vwCl [(mo, .inr (5, [.int mth, .int mw, .int mh, .ref ad, .ref asu, .ref aru, .int mro, .ref ast, .int msd, .ref afo, .int mx])), (ast, .inl (kT, 1800, .inl ft)), (afo, .inl (kF, 1800, .inl gd))] H' ∧ va_D A [(mo, .inr (5, [.int mth, .int mw, .int mh, .ref ad, .ref asu, .ref aru, .int mro, .ref ast, .int msd, .ref afo, .int mx])), (ast, .inl (kT, 1800, .inl ft)), (afo, .inl (kF, 1800, .inl gd))] ∧ va_S A s.heap H' locs') ?_ ⟨0, 0, mn9, zmn, gc, ls, rfl, lv_sub hl [2, 3, 1, 4, 0] rfl, rfl, (ti_k (by decide)), hmn9, by omega, fun _ _ => rfl, fun k k0 k1 => by omega, hP, hD, hS⟩
        intro n93 H93 locs g' hI ih93
        obtain ⟨kk, zkk, mx, zmx, gd, ls, rfl, hl, hn, hkk, hmx, l1, l2, l3, hP, hD, hS⟩ := hI
        refine lv_iload hx hb d_Model_order_93 (lv_at hl 4 rfl) ?_
        refine lv_bipush (v := 6) hx hb d_Model_order_95 (by decide) ?_
        refine lv_icmp_ge (tgt := 137) hx hb d_Model_order_97 (by decide) (fun c97 => ?_) (fun c97 => ?_)
        · skip
          have c97 : (6 : Int) ≤ zkk := (ti_le (ti_k (by decide)) hkk).mp c97
          refine lv_aload_n hx hb d_Model_order_137 rfl (lv_at hl 0 rfl) ?_
          refine lv_iload_n hx hb d_Model_order_138 rfl (lv_at hl 2 rfl) ?_
          refine lv_if_eq (tgt := 151) hx hb d_Model_order_139 (by decide) (fun c139 => ?_) (fun c139 => ?_)
          · skip
            have c139 : (1 : Int) = 0 := (ti_eq (ti_k (by decide)) (ti_k (by decide))).mp c139
            exact absurd c139 (by decide)
          · skip
            have c139 : ¬ ((1 : Int) = 0) := fun q => c139 ((ti_eq (ti_k (by decide)) (ti_k (by decide))).mpr q)
            refine lv_aload_n hx hb d_Model_order_142 rfl (lv_at hl 0 rfl) ?_
            refine va_get (D := (dC, dI)) (ci := 5) (v := .int mx) (C := R_Model) (T := T_Model) (N := 11) hx hb hts i_Model hown hK hP 0 rfl rfl 10 (by decide) (hts _ wd_575) (fun _ h9 => h9) rfl d_Model_order_143 ?_
            refine lv_iconst (v := 1) hx hb d_Model_order_146 (by decide) ?_
            refine lv_iadd hx hb d_Model_order_147 ?_
            refine lv_topi (fun v147 e147 => ?_)
            have h147 : v147.toInt = zmx + 1 := by rw [e147]; exact ti_add hmx (ti_k (by decide)) (by omega) (by omega)
            refine lv_goto (tgt := 155) hx hb d_Model_order_148 (by decide) ?_
            refine va_put (D := (dC, dI)) (ci := 5) (v := .int v147) (ty := .int) (C := R_Model) (T := T_Model) (N := 11) hx hb hts i_Model t_Model t_Model_ok n_Model hown hK hP hD hS 0 rfl rfl 10 (by decide) (hts _ wd_575) (fun _ h9 => h9) rfl (by decide +kernel) rfl rfl (Nat.le_of_ble_eq_true rfl) d_Model_order_155 (fun H155 locs hP hD hS => ?_)
            have hP : va_P (dC, dI) vwCl [(mo, .inr (5, [.int mth, .int mw, .int mh, .ref ad, .ref asu, .ref aru, .int mro, .ref ast, .int msd, .ref afo, .int v147])), (ast, .inl (kT, 1800, .inl ft)), (afo, .inl (kF, 1800, .inl gd))] H155 := hP
            have hD : va_D A [(mo, .inr (5, [.int mth, .int mw, .int mh, .ref ad, .ref asu, .ref aru, .int mro, .ref ast, .int msd, .ref afo, .int v147])), (ast, .inl (kT, 1800, .inl ft)), (afo, .inl (kF, 1800, .inl gd))] := hD
            refine lv_iload_n hx hb d_Model_order_158 rfl (lv_at hl 3 rfl) ?_
            refine lv_istore_n (lv' := [(1, .int nx), (0, .ref mo), (2, .int 1), (3, .int nx), (4, .int kk)]) hx hb d_Model_order_159 rfl hl (by decide) rfl (fun ls hl => ?_)
            refine lv_goto (tgt := 4) hx hb d_Model_order_160 (by decide) ?_
            have em : zmx = zmn := l1.2.2
            exact ih4 _ (by omega) _ _ _ ⟨nx, znx, 1, 1, v147, (zmx + 1), gd, ls, rfl, lv_sub hl [1, 0, 2] rfl, rfl, hnx, (ti_k (by decide)), by first | exact h147 | exact hmx, by omega, by rw [em]; first | exact Or.inl ⟨rfl, fo_add hst fo (by omega) l2 (fun k k0 k1 => l3 k k0 (by omega)) j2 (by omega)⟩ | exact Or.inr ⟨rfl, fo_congr (fo_end fo j2 (by omega)) l2⟩, hP, hD, hS⟩
        · skip
          have c97 : ¬ ((6 : Int) ≤ zkk) := fun q => c97 ((ti_le (ti_k (by decide)) hkk).mpr q)
          refine lv_iload_n hx hb d_Model_order_100 rfl (lv_at hl 2 rfl) ?_
          refine lv_if_eq (tgt := 137) hx hb d_Model_order_101 (by decide) (fun c101 => ?_) (fun c101 => ?_)
          · skip
            have c101 : (1 : Int) = 0 := (ti_eq (ti_k (by decide)) (ti_k (by decide))).mp c101
            exact absurd c101 (by decide)
          · skip
            have c101 : ¬ ((1 : Int) = 0) := fun q => c101 ((ti_eq (ti_k (by decide)) (ti_k (by decide))).mpr q)
            refine lv_aload_n hx hb d_Model_order_104 rfl (lv_at hl 0 rfl) ?_
            refine va_get (D := (dC, dI)) (ci := 5) (v := .ref afo) (C := R_Model) (T := T_Model) (N := 11) hx hb hts i_Model hown hK hP 0 rfl rfl 9 (by decide) (hts _ wd_574) (fun _ h9 => h9) rfl d_Model_order_105 ?_
            refine lv_bipush (v := 6) hx hb d_Model_order_108 (by decide) ?_
            refine lv_aload_n hx hb d_Model_order_110 rfl (lv_at hl 0 rfl) ?_
            refine va_get (D := (dC, dI)) (ci := 5) (v := .int mx) (C := R_Model) (T := T_Model) (N := 11) hx hb hts i_Model hown hK hP 0 rfl rfl 10 (by decide) (hts _ wd_575) (fun _ h9 => h9) rfl d_Model_order_111 ?_
            refine lv_imul hx hb d_Model_order_114 ?_
            refine lv_topi (fun v114 e114 => ?_)
            have h114 : v114.toInt = 6 * zmx := by rw [e114]; exact ti_mul (ti_k (by decide)) hmx (by omega) (by omega)
            refine lv_iload hx hb d_Model_order_115 (lv_at hl 4 rfl) ?_
            refine lv_iadd hx hb d_Model_order_117 ?_
            refine lv_topi (fun v117 e117 => ?_)
            have h117 : v117.toInt = (6 * zmx) + zkk := by rw [e117]; exact ti_add h114 hkk (by omega) (by omega)
            refine lv_aload_n hx hb d_Model_order_118 rfl (lv_at hl 0 rfl) ?_
            refine va_get (D := (dC, dI)) (ci := 5) (v := .ref ast) (C := R_Model) (T := T_Model) (N := 11) hx hb hts i_Model hown hK hP 0 rfl rfl 7 (by decide) (hts _ wd_572) (fun _ h9 => h9) rfl d_Model_order_119 ?_
            refine lv_bipush (v := 6) hx hb d_Model_order_122 (by decide) ?_
            refine lv_iload_n hx hb d_Model_order_124 rfl (lv_at hl 3 rfl) ?_
            refine lv_imul hx hb d_Model_order_125 ?_
            refine lv_topi (fun v125 e125 => ?_)
            have h125 : v125.toInt = 6 * znx := by rw [e125]; exact ti_mul (ti_k (by decide)) hnx (by omega) (by omega)
            refine lv_iload hx hb d_Model_order_126 (lv_at hl 4 rfl) ?_
            refine lv_iadd hx hb d_Model_order_128 ?_
            refine lv_topi (fun v128 e128 => ?_)
            have h128 : v128.toInt = (6 * znx) + zkk := by rw [e128]; exact ti_add h125 hkk (by omega) (by omega)
            have in129 : vp_in v128 1800 := vi_in h128 (by omega) (by omega)
            refine va_iald hx hb hK hP 1 0 rfl rfl in129 d_Model_order_129 ?_
            refine lv_topi (fun v129 e129 => ?_)
            have e129 : v129 = ft (((6 * znx) + zkk)).toNat := by rw [e129, vi_cl h128]
            have h129 : v129.toInt = sE ft znx zkk := by rw [e129]; first | rfl | (unfold sE; congr 2; omega)
            have in130 : vp_in v117 1800 := vi_in h117 (by omega) (by omega)
            refine va_iast hx hb hK hP hD hS 2 1 rfl rfl in130 d_Model_order_130 (fun H130 locs hP hD hS => ?_)
            obtain ⟨f130, ef130⟩ : ∃ g, g = upd gd (v117).toNatClampNeg v129 := ⟨_, rfl⟩
            have hP : va_P (dC, dI) vwCl [(mo, .inr (5, [.int mth, .int mw, .int mh, .ref ad, .ref asu, .ref aru, .int mro, .ref ast, .int msd, .ref afo, .int mx])), (ast, .inl (kT, 1800, .inl ft)), (afo, .inl (kF, 1800, .inl f130))] H130 := by rw [ef130]; exact hP
            have hD : va_D A [(mo, .inr (5, [.int mth, .int mw, .int mh, .ref ad, .ref asu, .ref aru, .int mro, .ref ast, .int msd, .ref afo, .int mx])), (ast, .inl (kT, 1800, .inl ft)), (afo, .inl (kF, 1800, .inl f130))] := by rw [ef130]; exact hD
            have ef130 : f130 = upd gd (((6 * zmx) + zkk)).toNat v129 := by rw [ef130, vi_cl h117]
            obtain ⟨v131, e131⟩ : ∃ y : Int32, y = kk + 1 := ⟨_, rfl⟩
            have h131 : v131.toInt = zkk + 1 := by rw [e131]; exact ti_add hkk (ti_k (by decide)) (by omega) (by omega)
            refine lv_iinc (v := v131) (lv' := [(4, .int v131), (0, .ref mo), (1, .int la), (2, .int 1), (3, .int nx)]) hx hb d_Model_order_131 hl (k := 4) rfl (by rw [e131]; rfl) (by decide) rfl (fun ls hl => ?_)
            refine lv_goto (tgt := 93) hx hb d_Model_order_134 (by decide) ?_
            exact ih93 _ (by omega) _ _ _ ⟨v131, (zkk + 1), mx, zmx, f130, ls, rfl, lv_sub hl [1, 2, 3, 4, 0] rfl, rfl, h131, hmx, by omega, fun i q => by rw [ef130, pk_un (by omega)]; exact l2 i q, fun k k0 k1 => by by_cases z : k = zkk <;> first | (unfold sE; rw [ef130, z, show (6 * zmn + zkk).toNat = (6 * zmx + zkk).toNat by omega, pk_us]; exact h129) | (unfold sE; rw [ef130, pk_un (by omega)]; exact l3 k k0 (by omega)), hP, hD, hS⟩
    · skip
      have c19 : ¬ (SD ≤ zaa) := fun q => c19 ((ti_le hsd haa).mpr q)
      refine w_cut (I := fun H' locs' g' => ∃ (lf : Int32) (zlf : Int) (ls : Array Slot), g' = F0 m 41 ls [.int lf] ∧ lv_has ls 6 [(0, .ref mo), (1, .int la), (2, .int mv), (3, .int nx), (4, .int aa)] ∧ lf.toInt = zlf ∧ (((zla < 0 ∨ kE ft zla < kE ft zaa) ∧ zlf = 1) ∨ (¬ (zla < 0 ∨ kE ft zla < kE ft zaa) ∧ zlf = 0)) ∧ va_P (dC, dI) vwCl [(mo, .inr (5, [.int mth, .int mw, .int mh, .ref ad, .ref asu, .ref aru, .int mro, .ref ast, .int msd, .ref afo, .int mn9])), (ast, .inl (kT, 1800, .inl ft)), (afo, .inl (kF, 1800, .inl gc))] H' ∧ va_D A [(mo, .inr (5, [.int mth, .int mw, .int mh, .ref ad, .ref asu, .ref aru, .int mro, .ref ast, .int msd, .ref afo, .int mn9])), (ast, .inl (kT, 1800, .inl ft)), (afo, .inl (kF, 1800, .inl gc))] ∧ va_S A s.heap H' locs') ?_ ?_
      · skip
        intro H41 locs g' hI
        obtain ⟨lf, zlf, ls, rfl, hl, hlf, ilf, hP, hD, hS⟩ := hI
        refine lv_istore (lv' := [(5, .int lf), (0, .ref mo), (1, .int la), (2, .int mv), (3, .int nx), (4, .int aa)]) hx hb d_Model_order_41 hl (by decide) rfl (fun ls hl => ?_)
        refine lv_iload hx hb d_Model_order_43 (lv_at hl 0 rfl) ?_
        refine lv_if_eq (tgt := 74) hx hb d_Model_order_45 (by decide) (fun c45 => ?_) (fun c45 => ?_)
        · skip
          have c45 : zlf = 0 := (ti_eq hlf (ti_k (by decide))).mp c45
          have nl : ¬ (zla < 0 ∨ kE ft zla < kE ft zaa) := by rcases ilf with q | q <;> first | exact q.1 | (exfalso; omega)
          obtain ⟨v74, e74⟩ : ∃ y : Int32, y = aa + 1 := ⟨_, rfl⟩
          have h74 : v74.toInt = zaa + 1 := by rw [e74]; exact ti_add haa (ti_k (by decide)) (by omega) (by omega)
          refine lv_iinc (v := v74) (lv' := [(4, .int v74), (5, .int lf), (0, .ref mo), (1, .int la), (2, .int mv), (3, .int nx)]) hx hb d_Model_order_74 hl (k := 5) rfl (by rw [e74]; rfl) (by decide) rfl (fun ls hl => ?_)
          refine lv_goto (tgt := 13) hx hb d_Model_order_77 (by decide) ?_
          exact ih13 _ (by omega) _ _ _ ⟨nx, znx, v74, (zaa + 1), ls, rfl, lv_sub hl [2, 3, 4, 5, 0] rfl, rfl, hnx, h74, by omega, by first | exact best_new j2 (by omega) (Or.inl (by omega)) ⟨yl, c54⟩ | exact best_new j2 (by omega) (Or.inr c68) ⟨yl, c54⟩ | exact best_keep j2 (by omega) c68 | exact best_no j2 (fun q => c54 q.2) | exact best_no j2 (fun q => nl q.1), hP, hD, hS⟩
        · skip
          have c45 : ¬ (zlf = 0) := fun q => c45 ((ti_eq hlf (ti_k (by decide))).mpr q)
          have yl : zla < 0 ∨ kE ft zla < kE ft zaa := by rcases ilf with q | q <;> first | exact q.1 | (exfalso; omega)
          refine lv_aload_n hx hb d_Model_order_48 rfl (lv_at hl 1 rfl) ?_
          refine lv_iload hx hb d_Model_order_49 (lv_at hl 5 rfl) ?_
          have hPc := hP.sub (ws' := [(mo, .inr (5, [.int mth, .int mw, .int mh, .ref ad, .ref asu, .ref aru, .int mro, .ref ast, .int msd, .ref afo, .int mn9])), (ast, .inl (kT, 1800, .inl ft))]) [0, 1] rfl
          have hKc := hK.sub (tys' := [(kT, .int)]) [0] rfl
          refine va_calli (va_runV (As := [.int aa]) (rest := []) ⟨hx, hb, hml, hown, hts⟩ (m_leads l dC dI mo ad asu aru ast afo mth mw mh mro msd mn9 SD hsd s0 s1 kT ft hE aa zaa haa (by omega) (by omega)) (aw_V 1 hts wd_701 wd_703 ws_42 wd_5 wd_704 rfl rfl (by decide +kernel) ⟨Nat.le_of_ble_eq_true rfl, Nat.le_of_ble_eq_true rfl⟩) ⟨ro_blind, va_recv hKc hPc (ci := 5) (q0 := 0) rfl rfl, ro_pre hPc hKc⟩ rfl rfl hl.1 rfl (lv_room (Nat.le_of_ble_eq_true rfl)) d_Model_order_51 ⟨Nat.le_of_ble_eq_true rfl, Nat.le_of_ble_eq_true rfl⟩) hS (fun q _ h => h.elim) (fun q h => h.elim) (fun v51 _ t9 H51 locs ht hvm h51 hB hz1 hk1 hS => ?_)
          have hP := ro_keep hP hk1
          clear hPc hKc ht hvm hB hz1 hk1
          refine lv_if_eq (tgt := 74) hx hb d_Model_order_54 (by decide) (fun c54 => ?_) (fun c54 => ?_)
          · skip
            have c54 : ¬ (leadE ft SD zaa) := bi_z h51 c54
            obtain ⟨v74, e74⟩ : ∃ y : Int32, y = aa + 1 := ⟨_, rfl⟩
            have h74 : v74.toInt = zaa + 1 := by rw [e74]; exact ti_add haa (ti_k (by decide)) (by omega) (by omega)
            refine lv_iinc (v := v74) (lv' := [(4, .int v74), (5, .int lf), (0, .ref mo), (1, .int la), (2, .int mv), (3, .int nx)]) hx hb d_Model_order_74 hl (k := 5) rfl (by rw [e74]; rfl) (by decide) rfl (fun ls hl => ?_)
            refine lv_goto (tgt := 13) hx hb d_Model_order_77 (by decide) ?_
            exact ih13 _ (by omega) _ _ _ ⟨nx, znx, v74, (zaa + 1), ls, rfl, lv_sub hl [2, 3, 4, 5, 0] rfl, rfl, hnx, h74, by omega, by first | exact best_new j2 (by omega) (Or.inl (by omega)) ⟨yl, c54⟩ | exact best_new j2 (by omega) (Or.inr c68) ⟨yl, c54⟩ | exact best_keep j2 (by omega) c68 | exact best_no j2 (fun q => c54 q.2) | exact best_no j2 (fun q => nl q.1), hP, hD, hS⟩
          · skip
            have c54 : leadE ft SD zaa := bi_nz h51 c54
            refine lv_iload_n hx hb d_Model_order_57 rfl (lv_at hl 4 rfl) ?_
            refine lv_if_lt (tgt := 71) hx hb d_Model_order_58 (by decide) (fun c58 => ?_) (fun c58 => ?_)
            · skip
              have c58 : znx < 0 := (ti_lt hnx (ti_k (by decide))).mp c58
              refine lv_iload hx hb d_Model_order_71 (lv_at hl 5 rfl) ?_
              refine lv_istore_n (lv' := [(3, .int aa), (5, .int lf), (0, .ref mo), (1, .int la), (2, .int mv), (4, .int aa)]) hx hb d_Model_order_73 rfl hl (by decide) rfl (fun ls hl => ?_)
              obtain ⟨v74, e74⟩ : ∃ y : Int32, y = aa + 1 := ⟨_, rfl⟩
              have h74 : v74.toInt = zaa + 1 := by rw [e74]; exact ti_add haa (ti_k (by decide)) (by omega) (by omega)
              refine lv_iinc (v := v74) (lv' := [(4, .int v74), (3, .int aa), (5, .int lf), (0, .ref mo), (1, .int la), (2, .int mv)]) hx hb d_Model_order_74 hl (k := 5) rfl (by rw [e74]; rfl) (by decide) rfl (fun ls hl => ?_)
              refine lv_goto (tgt := 13) hx hb d_Model_order_77 (by decide) ?_
              exact ih13 _ (by omega) _ _ _ ⟨aa, zaa, v74, (zaa + 1), ls, rfl, lv_sub hl [3, 4, 5, 1, 0] rfl, rfl, haa, h74, by omega, by first | exact best_new j2 (by omega) (Or.inl (by omega)) ⟨yl, c54⟩ | exact best_new j2 (by omega) (Or.inr c68) ⟨yl, c54⟩ | exact best_keep j2 (by omega) c68 | exact best_no j2 (fun q => c54 q.2) | exact best_no j2 (fun q => nl q.1), hP, hD, hS⟩
            · skip
              have c58 : ¬ (znx < 0) := fun q => c58 ((ti_lt hnx (ti_k (by decide))).mpr q)
              refine lv_aload_n hx hb d_Model_order_61 rfl (lv_at hl 1 rfl) ?_
              refine lv_iload hx hb d_Model_order_62 (lv_at hl 5 rfl) ?_
              refine lv_iload_n hx hb d_Model_order_64 rfl (lv_at hl 4 rfl) ?_
              have hPc := hP.sub (ws' := [(mo, .inr (5, [.int mth, .int mw, .int mh, .ref ad, .ref asu, .ref aru, .int mro, .ref ast, .int msd, .ref afo, .int mn9])), (ast, .inl (kT, 1800, .inl ft))]) [0, 1] rfl
              have hKc := hK.sub (tys' := [(kT, .int)]) [0] rfl
              refine va_calli (va_runV (As := [.int aa, .int nx]) (rest := []) ⟨hx, hb, hml, hown, hts⟩ (m_isBefore l dC dI mo ad asu aru ast afo mth mw mh mro msd mn9 SD hsd s0 s1 kT ft hE aa nx zaa znx haa hnx (by omega) (by omega) (by omega) (by omega)) (aw_V 2 hts wd_697 wd_699 ws_41 wd_5 wd_700 rfl rfl (by decide +kernel) ⟨Nat.le_of_ble_eq_true rfl, Nat.le_of_ble_eq_true rfl⟩) ⟨ro_blind, va_recv hKc hPc (ci := 5) (q0 := 0) rfl rfl, ro_pre hPc hKc⟩ rfl rfl hl.1 rfl (lv_room (Nat.le_of_ble_eq_true rfl)) d_Model_order_65 ⟨Nat.le_of_ble_eq_true rfl, Nat.le_of_ble_eq_true rfl⟩) hS (fun q _ h => h.elim) (fun q h => h.elim) (fun v65 _ t9 H65 locs ht hvm h65 hB hz1 hk1 hS => ?_)
              have hP := ro_keep hP hk1
              clear hPc hKc ht hvm hB hz1 hk1
              refine lv_if_eq (tgt := 74) hx hb d_Model_order_68 (by decide) (fun c68 => ?_) (fun c68 => ?_)
              · skip
                have c68 : ¬ (kE ft zaa < kE ft znx) := bi_z h65 c68
                obtain ⟨v74, e74⟩ : ∃ y : Int32, y = aa + 1 := ⟨_, rfl⟩
                have h74 : v74.toInt = zaa + 1 := by rw [e74]; exact ti_add haa (ti_k (by decide)) (by omega) (by omega)
                refine lv_iinc (v := v74) (lv' := [(4, .int v74), (5, .int lf), (0, .ref mo), (1, .int la), (2, .int mv), (3, .int nx)]) hx hb d_Model_order_74 hl (k := 5) rfl (by rw [e74]; rfl) (by decide) rfl (fun ls hl => ?_)
                refine lv_goto (tgt := 13) hx hb d_Model_order_77 (by decide) ?_
                exact ih13 _ (by omega) _ _ _ ⟨nx, znx, v74, (zaa + 1), ls, rfl, lv_sub hl [2, 3, 4, 5, 0] rfl, rfl, hnx, h74, by omega, by first | exact best_new j2 (by omega) (Or.inl (by omega)) ⟨yl, c54⟩ | exact best_new j2 (by omega) (Or.inr c68) ⟨yl, c54⟩ | exact best_keep j2 (by omega) c68 | exact best_no j2 (fun q => c54 q.2) | exact best_no j2 (fun q => nl q.1), hP, hD, hS⟩
              · skip
                have c68 : kE ft zaa < kE ft znx := bi_nz h65 c68
                refine lv_iload hx hb d_Model_order_71 (lv_at hl 5 rfl) ?_
                refine lv_istore_n (lv' := [(3, .int aa), (5, .int lf), (0, .ref mo), (1, .int la), (2, .int mv), (4, .int aa)]) hx hb d_Model_order_73 rfl hl (by decide) rfl (fun ls hl => ?_)
                obtain ⟨v74, e74⟩ : ∃ y : Int32, y = aa + 1 := ⟨_, rfl⟩
                have h74 : v74.toInt = zaa + 1 := by rw [e74]; exact ti_add haa (ti_k (by decide)) (by omega) (by omega)
                refine lv_iinc (v := v74) (lv' := [(4, .int v74), (3, .int aa), (5, .int lf), (0, .ref mo), (1, .int la), (2, .int mv)]) hx hb d_Model_order_74 hl (k := 5) rfl (by rw [e74]; rfl) (by decide) rfl (fun ls hl => ?_)
                refine lv_goto (tgt := 13) hx hb d_Model_order_77 (by decide) ?_
                exact ih13 _ (by omega) _ _ _ ⟨aa, zaa, v74, (zaa + 1), ls, rfl, lv_sub hl [3, 4, 5, 1, 0] rfl, rfl, haa, h74, by omega, by first | exact best_new j2 (by omega) (Or.inl (by omega)) ⟨yl, c54⟩ | exact best_new j2 (by omega) (Or.inr c68) ⟨yl, c54⟩ | exact best_keep j2 (by omega) c68 | exact best_no j2 (fun q => c54 q.2) | exact best_no j2 (fun q => nl q.1), hP, hD, hS⟩
      · skip
        intro hj41
        refine lv_iload_n hx hb d_Model_order_22 rfl (lv_at hl 1 rfl) ?_
        refine lv_if_lt (tgt := 36) hx hb d_Model_order_23 (by decide) (fun c23 => ?_) (fun c23 => ?_)
        · skip
          have c23 : zla < 0 := (ti_lt hla (ti_k (by decide))).mp c23
          refine lv_iconst (v := 1) hx hb d_Model_order_36 (by decide) ?_
          refine lv_goto (tgt := 41) hx hb d_Model_order_37 (by decide) ?_
          exact hj41 _ _ _ ⟨1, 1, ls, rfl, lv_sub hl [0, 1, 2, 3, 4] rfl, (ti_k (by decide)), by first | exact Or.inl ⟨Or.inl c23, rfl⟩ | exact Or.inl ⟨Or.inr c33, rfl⟩ | exact Or.inr ⟨fun q => q.elim c23 c33, rfl⟩, hP, hD, hS⟩
        · skip
          have c23 : ¬ (zla < 0) := fun q => c23 ((ti_lt hla (ti_k (by decide))).mpr q)
          refine lv_aload_n hx hb d_Model_order_26 rfl (lv_at hl 0 rfl) ?_
          refine lv_iload_n hx hb d_Model_order_27 rfl (lv_at hl 1 rfl) ?_
          refine lv_iload hx hb d_Model_order_28 (lv_at hl 4 rfl) ?_
          have hPc := hP.sub (ws' := [(mo, .inr (5, [.int mth, .int mw, .int mh, .ref ad, .ref asu, .ref aru, .int mro, .ref ast, .int msd, .ref afo, .int mn9])), (ast, .inl (kT, 1800, .inl ft))]) [0, 1] rfl
          have hKc := hK.sub (tys' := [(kT, .int)]) [0] rfl
          refine va_calli (va_runV (As := [.int la, .int aa]) (rest := []) ⟨hx, hb, hml, hown, hts⟩ (m_isBefore l dC dI mo ad asu aru ast afo mth mw mh mro msd mn9 SD hsd s0 s1 kT ft hE la aa zla zaa hla haa (by omega) (by omega) (by omega) (by omega)) (aw_V 2 hts wd_697 wd_699 ws_41 wd_5 wd_700 rfl rfl (by decide +kernel) ⟨Nat.le_of_ble_eq_true rfl, Nat.le_of_ble_eq_true rfl⟩) ⟨ro_blind, va_recv hKc hPc (ci := 5) (q0 := 0) rfl rfl, ro_pre hPc hKc⟩ rfl rfl hl.1 rfl (lv_room (Nat.le_of_ble_eq_true rfl)) d_Model_order_30 ⟨Nat.le_of_ble_eq_true rfl, Nat.le_of_ble_eq_true rfl⟩) hS (fun q _ h => h.elim) (fun q h => h.elim) (fun v30 _ t9 H30 locs ht hvm h30 hB hz1 hk1 hS => ?_)
          have hP := ro_keep hP hk1
          clear hPc hKc ht hvm hB hz1 hk1
          refine lv_if_eq (tgt := 40) hx hb d_Model_order_33 (by decide) (fun c33 => ?_) (fun c33 => ?_)
          · skip
            have c33 : ¬ (kE ft zla < kE ft zaa) := bi_z h30 c33
            refine lv_iconst (v := 0) hx hb d_Model_order_40 (by decide) ?_
            exact hj41 _ _ _ ⟨0, 0, ls, rfl, lv_sub hl [0, 1, 2, 3, 4] rfl, (ti_k (by decide)), by first | exact Or.inl ⟨Or.inl c23, rfl⟩ | exact Or.inl ⟨Or.inr c33, rfl⟩ | exact Or.inr ⟨fun q => q.elim c23 c33, rfl⟩, hP, hD, hS⟩
          · skip
            have c33 : kE ft zla < kE ft zaa := bi_nz h30 c33
            refine lv_iconst (v := 1) hx hb d_Model_order_36 (by decide) ?_
            refine lv_goto (tgt := 41) hx hb d_Model_order_37 (by decide) ?_
            exact hj41 _ _ _ ⟨1, 1, ls, rfl, lv_sub hl [0, 1, 2, 3, 4] rfl, (ti_k (by decide)), by first | exact Or.inl ⟨Or.inl c23, rfl⟩ | exact Or.inl ⟨Or.inr c33, rfl⟩ | exact Or.inr ⟨fun q => q.elim c23 c33, rfl⟩, hP, hD, hS⟩
