set_option maxHeartbeats 4000000 in
set_option maxRecDepth 100000 in
theorem m_wrong (l : Launch) (dC : Nat → ClassId) (dI : Nat → Nat → Nat) (mo ad asu aru ast afo : Nat) (mth mw mh mro msd mmn : Int32) (Wd Ht : Int) (hW2 : Wd ≤ 512) (hH2 : Ht ≤ 512) (D : Int → Int → Bool) (kU kR : ClassId) (fu fr : Nat → Int32) (hs : sOK fu D Wd Ht) (RO S : Int) (hro : mro.toInt = RO) (r1 : RO ≤ 525) (hS1 : 21 ≤ S) (hS2 : S ≤ 177) (hw : rW S fr RO) (x y M Q : Int) (b1 : 0 ≤ x) (b2 : 0 ≤ y) (b3 : 1 ≤ M) (b4 : M ≤ 16) (b5 : 0 ≤ Q) (b6 : Q ≤ 3) (b7 : x + M * S ≤ Wd) (b8 : y + M * S ≤ Ht) (a1 a2 a3 a4 a5 a6 : Int32) (v LIM : Int) (g1 : a1.toInt = x) (g2 : a2.toInt = y) (g3 : a3.toInt = M) (g4 : a4.toInt = v) (g5 : a5.toInt = Q) (g6 : a6.toInt = LIM) (eS : S = 17 + 4 * v) (hr0 : 0 ≤ RO) (l0 : 0 ≤ LIM) (l1 : LIM ≤ 500) : Met l y_Model_wrong (.code y_Model_wrong b_Model_wrong 11 (some .int) :: allw) ({ frames := 2, cells := 0, slots := 0, locals := 58 }) (va_Pc [.ref mo, .int a1, .int a2, .int a3, .int a4, .int a5, .int a6] (ro_B (dC, dI) vwCl [(mo, .inr (5, [.int mth, .int mw, .int mh, .ref ad, .ref asu, .ref aru, .int mro, .ref ast, .int msd, .ref afo, .int mmn])), (asu, .inl (kU, 263169, .inl fu)), (aru, .inl (kR, 2100, .inl fr))] [(kU, .int), (kR, .int)])) (va_Qi (fun (r : Int32) (_ : Unit) => r.toInt = rS (gW D x y M S Q) fr RO.toNat ∨ (LIM < r.toInt ∧ r.toInt ≤ rS (gW D x y M S Q) fr RO.toNat)) (fun _ _ => True) (fun _ => False)) 0 0 (fun _ => False) := by
  refine Met.ofW (cc := b_Model_wrong) (maxL := 11) (ret := (some .int)) (by decide) rfl ?_
  intro p e s m args below meth c s₁ B hml hv
  obtain ⟨rfl, hP, hK⟩ := hv
  have hx := B.exec
  have hb := B.bytes
  have hr := B.returns
  have hts : ∀ w ∈ allw, w.before _ s = true := fun w h => atoms_spec (ws := .code y_Model_wrong b_Model_wrong 11 (some .int) :: allw) B.pre w (List.mem_cons_of_mem _ h)
  have hown : s.vm.findClass R_Model = some m.cls := findClass_of_methodNamed B.named
  have hlocks := B.notSynchronized
  have hS : va_S (fun _ => False) s.heap s.heap [] := va_S.rf
  have hP : va_P (dC, dI) vwCl [(mo, .inr (5, [.int mth, .int mw, .int mh, .ref ad, .ref asu, .ref aru, .int mro, .ref ast, .int msd, .ref afo, .int mmn])), (asu, .inl (kU, 263169, .inl fu)), (aru, .inl (kR, 2100, .inl fr))] s.heap := hP
  have hl := lv_entry ([.ref mo, .int a1, .int a2, .int a3, .int a4, .int a5, .int a6]) (n := 11) (Nat.le_of_ble_eq_true rfl)
  rw [lg_entry_eq]
  generalize (lg_sl ([.ref mo, .int a1, .int a2, .int a3, .int a4, .int a5, .int a6]) ++ List.replicate (11 - (lg_sl ([.ref mo, .int a1, .int a2, .int a3, .int a4, .int a5, .int a6])).length) Slot.unset).toArray = ls at hl ⊢
  have hl : lv_has ls 11 [(0, .ref mo), (1, .int a1), (2, .int a2), (3, .int a3), (4, .int a4), (5, .int a5), (6, .int a6)] := hl
  refine lv_iload hx hb d_Model_wrong_0 (lv_at hl 4 rfl) ?_
  have hPc := hP.sub (ws' := []) [] rfl
  have hKc := hK.sub (tys' := []) [] rfl
  refine va_calli (va_runS (As := [.int a4]) (rest := []) ⟨hx, hb, hml, hown, hts⟩ (m_side l dC dI a4 v g4 (by omega) (by omega)) (aw_S 1 hts wd_636 wd_637 wd_5 wd_638 rfl rfl (by decide +kernel) ⟨Nat.le_of_ble_eq_true rfl, Nat.le_of_ble_eq_true rfl⟩) ⟨ro_blind, ro_pre hPc hKc⟩ rfl rfl hl.1 rfl (lv_room (Nat.le_of_ble_eq_true rfl)) d_Model_wrong_2 ⟨Nat.le_of_ble_eq_true rfl, Nat.le_of_ble_eq_true rfl⟩) hS (fun q _ h => h.elim) (fun q h => h.elim) (fun v2 _ t9 H2 locs ht hvm h2 hB hz1 hk1 hS => ?_)
  have hP := ro_keep hP hk1
  clear hPc hKc ht hvm hB hz1 hk1
  have h2 : v2.toInt = S := by rw [h2, eS]
  refine lv_istore (lv' := [(7, .int v2), (0, .ref mo), (1, .int a1), (2, .int a2), (3, .int a3), (4, .int a4), (5, .int a5), (6, .int a6)]) hx hb d_Model_wrong_5 hl (by decide) rfl (fun ls hl => ?_)
  refine lv_iconst (v := 0) hx hb d_Model_wrong_7 (by decide) ?_
  refine lv_istore (lv' := [(8, .int 0), (7, .int v2), (0, .ref mo), (1, .int a1), (2, .int a2), (3, .int a3), (4, .int a4), (5, .int a5), (6, .int a6)]) hx hb d_Model_wrong_8 hl (by decide) rfl (fun ls hl => ?_)
  refine lv_iconst (v := 0) hx hb d_Model_wrong_10 (by decide) ?_
  refine lv_istore (lv' := [(9, .int 0), (8, .int 0), (7, .int v2), (0, .ref mo), (1, .int a1), (2, .int a2), (3, .int a3), (4, .int a4), (5, .int a5), (6, .int a6)]) hx hb d_Model_wrong_11 hl (by decide) rfl (fun ls hl => ?_)
  refine w_loop (I := fun n H' locs' g' => ∃ (nn : Int32) (znn : Int) (kk : Int32) (zkk : Int) (ls : Array Slot), g' = F0 m 13 ls [] ∧ lv_has ls 11 [(0, .ref mo), (1, .int a1), (2, .int a2), (3, .int a3), (4, .int a4), (5, .int a5), (6, .int a6), (7, .int v2), (8, .int nn), (9, .int kk)] ∧ n = (RO - zkk).toNat ∧ nn.toInt = znn ∧ kk.toInt = zkk ∧ (0 ≤ zkk ∧ zkk ≤ RO) ∧ (znn = rS (gW D x y M S Q) fr zkk.toNat) ∧ (0 ≤ znn) ∧ va_P (dC, dI) vwCl [(mo, .inr (5, [.int mth, .int mw, .int mh, .ref ad, .ref asu, .ref aru, .int mro, .ref ast, .int msd, .ref afo, .int mmn])), (asu, .inl (kU, 263169, .inl fu)), (aru, .inl (kR, 2100, .inl fr))] H' ∧ va_S (fun _ => False) s.heap H' locs') ?_ ⟨0, 0, 0, 0, ls, rfl, lv_sub hl [3, 4, 5, 6, 7, 8, 9, 2, 1, 0] rfl, rfl, (ti_k (by decide)), (ti_k (by decide)), by omega, rfl, by omega, hP, hS⟩
  intro n13 H13 locs g' hI ih13
  obtain ⟨nn, znn, kk, zkk, ls, rfl, hl, hn, hnn, hkk, i1, i2, i3, hP, hS⟩ := hI
  refine lv_iload hx hb d_Model_wrong_13 (lv_at hl 9 rfl) ?_
  refine lv_aload_n hx hb d_Model_wrong_15 rfl (lv_at hl 0 rfl) ?_
  refine va_get (D := (dC, dI)) (ci := 5) (v := .int mro) (C := R_Model) (T := T_Model) (N := 11) hx hb hts i_Model hown hK hP 0 rfl rfl 6 (by decide) (hts _ wd_571) (fun _ h9 => h9) rfl d_Model_wrong_16 ?_
  refine lv_icmp_ge (tgt := 93) hx hb d_Model_wrong_19 (by decide) (fun c19 => ?_) (fun c19 => ?_)
  · skip
    have c19 : RO ≤ zkk := (ti_le hro hkk).mp c19
    refine lv_iload hx hb d_Model_wrong_93 (lv_at hl 8 rfl) ?_
    have hpost : nn.toInt = rS (gW D x y M S Q) fr RO.toNat ∨ (LIM < nn.toInt ∧ nn.toInt ≤ rS (gW D x y M S Q) fr RO.toNat) := by
      by_cases e : zkk = RO
      · left; rw [hnn, i2, e]
      · right
        refine ⟨by omega, ?_⟩
        rw [hnn, i2]
        exact rS_mono (fun a b c => gW_nn (by omega)) (by omega)
    exact W.iret (v := nn) hx hb hr (fun t ht hW => ⟨⟨nn, (), rfl, hpost, trivial⟩, hS.F ht⟩) hS.2.2 d_Model_wrong_95
  · skip
    have c19 : ¬ (RO ≤ zkk) := fun q => c19 ((ti_le hro hkk).mpr q)
    refine lv_iload hx hb d_Model_wrong_22 (lv_at hl 8 rfl) ?_
    refine lv_iload hx hb d_Model_wrong_24 (lv_at hl 6 rfl) ?_
    refine lv_icmp_gt (tgt := 93) hx hb d_Model_wrong_26 (by decide) (fun c26 => ?_) (fun c26 => ?_)
    · skip
      have c26 : LIM < znn := (ti_lt g6 hnn).mp c26
      refine lv_iload hx hb d_Model_wrong_93 (lv_at hl 8 rfl) ?_
      have hpost : nn.toInt = rS (gW D x y M S Q) fr RO.toNat ∨ (LIM < nn.toInt ∧ nn.toInt ≤ rS (gW D x y M S Q) fr RO.toNat) := by
        by_cases e : zkk = RO
        · left; rw [hnn, i2, e]
        · right
          refine ⟨by omega, ?_⟩
          rw [hnn, i2]
          exact rS_mono (fun a b c => gW_nn (by omega)) (by omega)
      exact W.iret (v := nn) hx hb hr (fun t ht hW => ⟨⟨nn, (), rfl, hpost, trivial⟩, hS.F ht⟩) hS.2.2 d_Model_wrong_95
    · skip
      have c26 : ¬ (LIM < znn) := fun q => c26 ((ti_lt g6 hnn).mpr q)
      have wk := hw zkk (by omega) (by omega)
      refine lv_aload_n hx hb d_Model_wrong_29 rfl (lv_at hl 0 rfl) ?_
      refine lv_iload hx hb d_Model_wrong_30 (lv_at hl 9 rfl) ?_
      refine lv_iload_n hx hb d_Model_wrong_32 rfl (lv_at hl 1 rfl) ?_
      refine lv_iload_n hx hb d_Model_wrong_33 rfl (lv_at hl 2 rfl) ?_
      refine lv_iload_n hx hb d_Model_wrong_34 rfl (lv_at hl 3 rfl) ?_
      refine lv_iload hx hb d_Model_wrong_35 (lv_at hl 7 rfl) ?_
      refine lv_iload hx hb d_Model_wrong_37 (lv_at hl 5 rfl) ?_
      have hPc := hP.sub (ws' := [(mo, .inr (5, [.int mth, .int mw, .int mh, .ref ad, .ref asu, .ref aru, .int mro, .ref ast, .int msd, .ref afo, .int mmn])), (asu, .inl (kU, 263169, .inl fu)), (aru, .inl (kR, 2100, .inl fr))]) [0, 1, 2] rfl
      have hKc := hK.sub (tys' := [(kU, .int), (kR, .int)]) [0, 1] rfl
      refine va_calli (va_runV (As := [.int kk, .int a1, .int a2, .int a3, .int v2, .int a5]) (rest := []) ⟨hx, hb, hml, hown, hts⟩ (m_darkIn l dC dI mo ad asu aru ast afo mth mw mh mro msd mmn Wd Ht hW2 hH2 D kU kR fu fr hs RO S hro r1 hS1 hS2 hw x y M Q b1 b2 b3 b4 b5 b6 b7 b8 kk a1 a2 a3 v2 a5 zkk hkk g1 g2 g3 h2 g5 (by omega) (by omega)) (aw_V 6 hts wd_682 wd_684 ws_38 wd_5 wd_685 rfl rfl (by decide +kernel) ⟨Nat.le_of_ble_eq_true rfl, Nat.le_of_ble_eq_true rfl⟩) ⟨ro_blind, va_recv hKc hPc (ci := 5) (q0 := 0) rfl rfl, ro_pre hPc hKc⟩ rfl rfl hl.1 rfl (lv_room (Nat.le_of_ble_eq_true rfl)) d_Model_wrong_39 ⟨Nat.le_of_ble_eq_true rfl, Nat.le_of_ble_eq_true rfl⟩) hS (fun q _ h => h.elim) (fun q h => h.elim) (fun v39 _ t9 H39 locs ht hvm h39 hB hz1 hk1 hS => ?_)
      have hP := ro_keep hP hk1
      clear hPc hKc ht hvm hB hz1 hk1
      have nn9 := s1_nn (g := fun a => cB D x y M S Q a (rI fr zkk 1)) (x := rI fr zkk 0) (n := (rI fr zkk 2).toNat) (fun i => (cB_b (by omega)).1)
      have up9 := s1_up (g := fun a => cB D x y M S Q a (rI fr zkk 1)) (c := M * M) (x := rI fr zkk 0) (n := (rI fr zkk 2).toNat) (fun i => (cB_b (by omega)).2)
      have ln9 : (((rI fr zkk 2).toNat : Nat) : Int) = rI fr zkk 2 := by omega
      rw [ln9] at up9
      have mm2 := mul_b2 (a := M) (b := M) (p := 16) (q := 16) (by omega) (by omega) (by omega) (by omega)
      have mm0 := Int.mul_nonneg (show 0 ≤ M by omega) (show 0 ≤ M by omega)
      have mm3 := mul_b2 (a := M * M) (b := rI fr zkk 2) (p := 256) (q := 177) (by omega) (by omega) (by omega) (by omega)
      have mm4 := Int.mul_nonneg mm0 (show 0 ≤ rI fr zkk 2 by omega)
      refine lv_istore (lv' := [(10, .int v39), (0, .ref mo), (1, .int a1), (2, .int a2), (3, .int a3), (4, .int a4), (5, .int a5), (6, .int a6), (7, .int v2), (8, .int nn), (9, .int kk)]) hx hb d_Model_wrong_42 hl (by decide) rfl (fun ls hl => ?_)
      refine lv_iload hx hb d_Model_wrong_44 (lv_at hl 9 rfl) ?_
      refine lv_aload_n hx hb d_Model_wrong_46 rfl (lv_at hl 1 rfl) ?_
      refine va_get (D := (dC, dI)) (ci := 5) (v := .ref aru) (C := R_Model) (T := T_Model) (N := 11) hx hb hts i_Model hown hK hP 0 rfl rfl 5 (by decide) (hts _ wd_570) (fun _ h9 => h9) rfl d_Model_wrong_47 ?_
      refine lv_iconst (v := 4) hx hb d_Model_wrong_50 (by decide) ?_
      refine lv_iload hx hb d_Model_wrong_51 (lv_at hl 10 rfl) ?_
      refine lv_imul hx hb d_Model_wrong_53 ?_
      refine lv_topi (fun v53 e53 => ?_)
      have h53 : v53.toInt = 4 * zkk := by rw [e53]; exact ti_mul (ti_k (by decide)) hkk (by omega) (by omega)
      refine lv_iconst (v := 3) hx hb d_Model_wrong_54 (by decide) ?_
      refine lv_iadd hx hb d_Model_wrong_55 ?_
      refine lv_topi (fun v55 e55 => ?_)
      have h55 : v55.toInt = (4 * zkk) + 3 := by rw [e55]; exact ti_add h53 (ti_k (by decide)) (by omega) (by omega)
      have in56 : vp_in v55 2100 := vi_in h55 (by omega) (by omega)
      refine va_iald hx hb hK hP 2 1 rfl rfl in56 d_Model_wrong_56 ?_
      refine lv_topi (fun v56 e56 => ?_)
      have e56 : v56 = fr (((4 * zkk) + 3)).toNat := by rw [e56, vi_cl h55]
      have h56 : v56.toInt = rI fr zkk 3 := by rw [e56]; first | rfl | (unfold rI; congr 2; omega)
      refine lv_iconst (v := 1) hx hb d_Model_wrong_57 (by decide) ?_
      refine lv_icmp_ne (tgt := 82) hx hb d_Model_wrong_58 (by decide) (fun c58 => ?_) (fun c58 => ?_)
      · skip
        have c58 : ¬ (rI fr zkk 3 = 1) := fun q => c58 ((ti_eq h56 (ti_k (by decide))).mpr q)
        refine lv_iload hx hb d_Model_wrong_82 (lv_at hl 0 rfl) ?_
        refine lv_iadd hx hb d_Model_wrong_84 ?_
        refine lv_topi (fun v84 e84 => ?_)
        have h84 : v84.toInt = znn + (s1 (fun a => cB D x y M S Q a (rI fr zkk 1)) (rI fr zkk 0) (rI fr zkk 2).toNat) := by rw [e84]; exact ti_add hnn h39 (by omega) (by omega)
        have st9 : (znn + (s1 (fun a => cB D x y M S Q a (rI fr zkk 1)) (rI fr zkk 0) (rI fr zkk 2).toNat)) = rS (gW D x y M S Q) fr (zkk + 1).toNat := by rw [rS_next (by omega)]; first | (rw [c58, run_w1 (by omega)]; omega) | (rw [run_w0 c58]; omega)
        refine lv_istore (lv' := [(8, .int v84), (10, .int v39), (0, .ref mo), (1, .int a1), (2, .int a2), (3, .int a3), (4, .int a4), (5, .int a5), (6, .int a6), (7, .int v2), (9, .int kk)]) hx hb d_Model_wrong_85 hl (by decide) rfl (fun ls hl => ?_)
        obtain ⟨v87, e87⟩ : ∃ y : Int32, y = kk + 1 := ⟨_, rfl⟩
        have h87 : v87.toInt = zkk + 1 := by rw [e87]; exact ti_add hkk (ti_k (by decide)) (by omega) (by omega)
        refine lv_iinc (v := v87) (lv' := [(9, .int v87), (8, .int v84), (10, .int v39), (0, .ref mo), (1, .int a1), (2, .int a2), (3, .int a3), (4, .int a4), (5, .int a5), (6, .int a6), (7, .int v2)]) hx hb d_Model_wrong_87 hl (k := 10) rfl (by rw [e87]; rfl) (by decide) rfl (fun ls hl => ?_)
        refine lv_goto (tgt := 13) hx hb d_Model_wrong_90 (by decide) ?_
        exact ih13 _ (by omega) _ _ _ ⟨v84, (znn + (s1 (fun a => cB D x y M S Q a (rI fr zkk 1)) (rI fr zkk 0) (rI fr zkk 2).toNat)), v87, (zkk + 1), ls, rfl, lv_sub hl [3, 4, 5, 6, 7, 8, 9, 10, 1, 0] rfl, rfl, h84, h87, by omega, st9, by omega, hP, hS⟩
      · skip
        have c58 : rI fr zkk 3 = 1 := (ti_eq h56 (ti_k (by decide))).mp c58
        refine lv_iload_n hx hb d_Model_wrong_61 rfl (lv_at hl 4 rfl) ?_
        refine lv_iload_n hx hb d_Model_wrong_62 rfl (lv_at hl 4 rfl) ?_
        refine lv_imul hx hb d_Model_wrong_63 ?_
        refine lv_topi (fun v63 e63 => ?_)
        have h63 : v63.toInt = M * M := by rw [e63]; exact ti_mul g3 g3 (by omega) (by omega)
        refine lv_aload_n hx hb d_Model_wrong_64 rfl (lv_at hl 1 rfl) ?_
        refine va_get (D := (dC, dI)) (ci := 5) (v := .ref aru) (C := R_Model) (T := T_Model) (N := 11) hx hb hts i_Model hown hK hP 0 rfl rfl 5 (by decide) (hts _ wd_570) (fun _ h9 => h9) rfl d_Model_wrong_65 ?_
        refine lv_iconst (v := 4) hx hb d_Model_wrong_68 (by decide) ?_
        refine lv_iload hx hb d_Model_wrong_69 (lv_at hl 10 rfl) ?_
        refine lv_imul hx hb d_Model_wrong_71 ?_
        refine lv_topi (fun v71 e71 => ?_)
        have h71 : v71.toInt = 4 * zkk := by rw [e71]; exact ti_mul (ti_k (by decide)) hkk (by omega) (by omega)
        refine lv_iconst (v := 2) hx hb d_Model_wrong_72 (by decide) ?_
        refine lv_iadd hx hb d_Model_wrong_73 ?_
        refine lv_topi (fun v73 e73 => ?_)
        have h73 : v73.toInt = (4 * zkk) + 2 := by rw [e73]; exact ti_add h71 (ti_k (by decide)) (by omega) (by omega)
        have in74 : vp_in v73 2100 := vi_in h73 (by omega) (by omega)
        refine va_iald hx hb hK hP 2 1 rfl rfl in74 d_Model_wrong_74 ?_
        refine lv_topi (fun v74 e74 => ?_)
        have e74 : v74 = fr (((4 * zkk) + 2)).toNat := by rw [e74, vi_cl h73]
        have h74 : v74.toInt = rI fr zkk 2 := by rw [e74]; first | rfl | (unfold rI; congr 2; omega)
        refine lv_imul hx hb d_Model_wrong_75 ?_
        refine lv_topi (fun v75 e75 => ?_)
        have h75 : v75.toInt = (M * M) * rI fr zkk 2 := by rw [e75]; exact ti_mul h63 h74 (by omega) (by omega)
        refine lv_iload hx hb d_Model_wrong_76 (lv_at hl 0 rfl) ?_
        refine lv_isub hx hb d_Model_wrong_78 ?_
        refine lv_topi (fun v78 e78 => ?_)
        have h78 : v78.toInt = ((M * M) * rI fr zkk 2) - (s1 (fun a => cB D x y M S Q a (rI fr zkk 1)) (rI fr zkk 0) (rI fr zkk 2).toNat) := by rw [e78]; exact ti_sub h75 h39 (by omega) (by omega)
        refine lv_goto (tgt := 84) hx hb d_Model_wrong_79 (by decide) ?_
        refine lv_iadd hx hb d_Model_wrong_84 ?_
        refine lv_topi (fun v84 e84 => ?_)
        have h84 : v84.toInt = znn + (((M * M) * rI fr zkk 2) - (s1 (fun a => cB D x y M S Q a (rI fr zkk 1)) (rI fr zkk 0) (rI fr zkk 2).toNat)) := by rw [e84]; exact ti_add hnn h78 (by omega) (by omega)
        have st9 : (znn + (((M * M) * rI fr zkk 2) - (s1 (fun a => cB D x y M S Q a (rI fr zkk 1)) (rI fr zkk 0) (rI fr zkk 2).toNat))) = rS (gW D x y M S Q) fr (zkk + 1).toNat := by rw [rS_next (by omega)]; first | (rw [c58, run_w1 (by omega)]; omega) | (rw [run_w0 c58]; omega)
        refine lv_istore (lv' := [(8, .int v84), (10, .int v39), (0, .ref mo), (1, .int a1), (2, .int a2), (3, .int a3), (4, .int a4), (5, .int a5), (6, .int a6), (7, .int v2), (9, .int kk)]) hx hb d_Model_wrong_85 hl (by decide) rfl (fun ls hl => ?_)
        obtain ⟨v87, e87⟩ : ∃ y : Int32, y = kk + 1 := ⟨_, rfl⟩
        have h87 : v87.toInt = zkk + 1 := by rw [e87]; exact ti_add hkk (ti_k (by decide)) (by omega) (by omega)
        refine lv_iinc (v := v87) (lv' := [(9, .int v87), (8, .int v84), (10, .int v39), (0, .ref mo), (1, .int a1), (2, .int a2), (3, .int a3), (4, .int a4), (5, .int a5), (6, .int a6), (7, .int v2)]) hx hb d_Model_wrong_87 hl (k := 10) rfl (by rw [e87]; rfl) (by decide) rfl (fun ls hl => ?_)
        refine lv_goto (tgt := 13) hx hb d_Model_wrong_90 (by decide) ?_
        exact ih13 _ (by omega) _ _ _ ⟨v84, (znn + (((M * M) * rI fr zkk 2) - (s1 (fun a => cB D x y M S Q a (rI fr zkk 1)) (rI fr zkk 0) (rI fr zkk 2).toNat))), v87, (zkk + 1), ls, rfl, lv_sub hl [3, 4, 5, 6, 7, 8, 9, 10, 1, 0] rfl, rfl, h84, h87, by omega, st9, by omega, hP, hS⟩
