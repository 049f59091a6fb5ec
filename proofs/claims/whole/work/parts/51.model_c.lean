set_option maxHeartbeats 4000000 in
set_option maxRecDepth 100000 in
theorem m_turn (l : Launch) (dC : Nat → ClassId) (dI : Nat → Nat → Nat) (sz : Nat) (mo ad asu aru ast afo : Nat) (mth mw mh mro msd mmn : Int32) (Wd Ht : Int) (hmw : mw.toInt = Wd) (hmh : mh.toInt = Ht) (hW1 : 1 ≤ Wd) (hW2 : Wd ≤ 512) (hH1 : 1 ≤ Ht) (hH2 : Ht ≤ 512) (kD : ClassId) (fd : Nat → Int32) (D : Int → Int → Bool) (hfd : dOK fd D) (a1 a2 : Int32) (a3 : Int64) (x y : Int) (g1 : a1.toInt = x) (g2 : a2.toInt = y) : Met l y_Model_turn (.code y_Model_turn b_Model_turn 7 (some .int) :: allw) ({ frames := 1, cells := 0, slots := 0, locals := 24 }) (va_Pc [.ref mo, .int a1, .int a2, .long a3] (rw_B (dC, dI) vwCl [(mo, .inr (5, [.int mth, .int mw, .int mh, .ref ad, .ref asu, .ref aru, .int mro, .ref ast, .int msd, .ref afo, .int mmn])), (ad, .inl (kD, 262144, .inl fd))] [(kD, .boolean)] sz)) (va_Qi (fun (r : Int32) (u : Nat → Int32) => r.toInt = nb (flF Wd Ht x y a3) 64 ∧ dOK u (flD D Wd Ht x y a3 64)) (fun u t => rw_E (dC, dI) vwCl [(mo, .inr (5, [.int 0, .int mw, .int mh, .ref ad, .ref asu, .ref aru, .int mro, .ref ast, .int msd, .ref afo, .int mmn])), (ad, .inl (kD, 262144, .inl u))] [(kD, .boolean)] (va_A [(mo, .inr (5, [.int mth, .int mw, .int mh, .ref ad, .ref asu, .ref aru, .int mro, .ref ast, .int msd, .ref afo, .int mmn])), (ad, .inl (kD, 262144, .inl fd))] sz) t) (va_A [(mo, .inr (5, [.int mth, .int mw, .int mh, .ref ad, .ref asu, .ref aru, .int mro, .ref ast, .int msd, .ref afo, .int mmn])), (ad, .inl (kD, 262144, .inl fd))] sz)) 0 0 (va_A [(mo, .inr (5, [.int mth, .int mw, .int mh, .ref ad, .ref asu, .ref aru, .int mro, .ref ast, .int msd, .ref afo, .int mmn])), (ad, .inl (kD, 262144, .inl fd))] sz) := by
  refine Met.ofW (cc := b_Model_turn) (maxL := 7) (ret := (some .int)) (by decide) rfl ?_
  intro p e s m args below meth c s₁ B hml hv
  obtain ⟨rfl, hsz, hP, hK, hD0⟩ := hv
  have hx := B.exec
  have hb := B.bytes
  have hr := B.returns
  have hts : ∀ w ∈ allw, w.before _ s = true := fun w h => atoms_spec (ws := .code y_Model_turn b_Model_turn 7 (some .int) :: allw) B.pre w (List.mem_cons_of_mem _ h)
  have hown : s.vm.findClass R_Model = some m.cls := findClass_of_methodNamed B.named
  have hlocks := B.notSynchronized
  subst hsz
  have hD := hD0.self (sz := s.heap.size)
  generalize hAe : va_A [(mo, .inr (5, [.int mth, .int mw, .int mh, .ref ad, .ref asu, .ref aru, .int mro, .ref ast, .int msd, .ref afo, .int mmn])), (ad, .inl (kD, 262144, .inl fd))] s.heap.size = A at hD ⊢
  have hA : ∀ q : Nat, s.heap.size ≤ q → A q := fun q h => by rw [← hAe]; exact Or.inr h
  have hS : va_S A s.heap s.heap [] := va_S.rf
  have hP : va_P (dC, dI) vwCl [(mo, .inr (5, [.int mth, .int mw, .int mh, .ref ad, .ref asu, .ref aru, .int mro, .ref ast, .int msd, .ref afo, .int mmn])), (ad, .inl (kD, 262144, .inl fd))] s.heap := hP
  have hl := lv_entry ([.ref mo, .int a1, .int a2, .long a3]) (n := 7) (Nat.le_of_ble_eq_true rfl)
  rw [lg_entry_eq]
  generalize (lg_sl ([.ref mo, .int a1, .int a2, .long a3]) ++ List.replicate (7 - (lg_sl ([.ref mo, .int a1, .int a2, .long a3])).length) Slot.unset).toArray = ls at hl ⊢
  have hl : lv_has ls 7 [(0, .ref mo), (1, .int a1), (2, .int a2), (3, .long a3)] := hl
  have q1 := ti_rng a1
  have q2 := ti_rng a2
  refine lv_aload_n hx hb d_Model_turn_0 rfl (lv_at hl 0 rfl) ?_
  refine lv_iconst (v := 0) hx hb d_Model_turn_1 (by decide) ?_
  refine va_put (D := (dC, dI)) (ci := 5) (v := .int 0) (ty := .int) (C := R_Model) (T := T_Model) (N := 11) hx hb hts i_Model t_Model t_Model_ok n_Model hown hK hP hD hS 0 rfl rfl 0 (by decide) (hts _ wd_565) (fun _ h9 => h9) rfl (by decide +kernel) rfl rfl (Nat.le_of_ble_eq_true rfl) d_Model_turn_2 (fun H2 locs hP hD hS => ?_)
  have hP : va_P (dC, dI) vwCl [(mo, .inr (5, [.int 0, .int mw, .int mh, .ref ad, .ref asu, .ref aru, .int mro, .ref ast, .int msd, .ref afo, .int mmn])), (ad, .inl (kD, 262144, .inl fd))] H2 := hP
  have hD : va_D A [(mo, .inr (5, [.int 0, .int mw, .int mh, .ref ad, .ref asu, .ref aru, .int mro, .ref ast, .int msd, .ref afo, .int mmn])), (ad, .inl (kD, 262144, .inl fd))] := hD
  refine lv_iconst (v := 0) hx hb d_Model_turn_5 (by decide) ?_
  refine lv_istore (lv' := [(5, .int 0), (0, .ref mo), (1, .int a1), (2, .int a2), (3, .long a3)]) hx hb d_Model_turn_6 hl (by decide) rfl (fun ls hl => ?_)
  refine lv_iconst (v := 0) hx hb d_Model_turn_8 (by decide) ?_
  refine lv_istore (lv' := [(6, .int 0), (5, .int 0), (0, .ref mo), (1, .int a1), (2, .int a2), (3, .long a3)]) hx hb d_Model_turn_9 hl (by decide) rfl (fun ls hl => ?_)
  refine w_loop (I := fun n H' locs' g' => ∃ (nn : Int32) (znn : Int) (kk : Int32) (zkk : Int) (fc : Nat → Int32) (ls : Array Slot), g' = F0 m 11 ls [] ∧ lv_has ls 7 [(0, .ref mo), (1, .int a1), (2, .int a2), (3, .long a3), (5, .int nn), (6, .int kk)] ∧ n = (64 - zkk).toNat ∧ nn.toInt = znn ∧ kk.toInt = zkk ∧ (0 ≤ zkk ∧ zkk ≤ 64) ∧ (dOK fc (flD D Wd Ht x y a3 zkk)) ∧ (znn = nb (flF Wd Ht x y a3) zkk.toNat) ∧ va_P (dC, dI) vwCl [(mo, .inr (5, [.int 0, .int mw, .int mh, .ref ad, .ref asu, .ref aru, .int mro, .ref ast, .int msd, .ref afo, .int mmn])), (ad, .inl (kD, 262144, .inl fc))] H' ∧ va_D A [(mo, .inr (5, [.int 0, .int mw, .int mh, .ref ad, .ref asu, .ref aru, .int mro, .ref ast, .int msd, .ref afo, .int mmn])), (ad, .inl (kD, 262144, .inl fc))] ∧ va_S A s.heap H' locs') ?_ ⟨0, 0, 0, 0, fd, ls, rfl, lv_sub hl [2, 3, 4, 5, 1, 0] rfl, rfl, (ti_k (by decide)), (ti_k (by decide)), by omega, by rw [fl_0]; exact hfd, rfl, hP, hD, hS⟩
  intro n11 H11 locs g' hI ih11
  obtain ⟨nn, znn, kk, zkk, fc, ls, rfl, hl, hn, hnn, hkk, i1, i2, i3, hP, hD, hS⟩ := hI
  have bnn := nb_b (flF Wd Ht x y a3) zkk.toNat
  refine lv_iload hx hb d_Model_turn_11 (lv_at hl 5 rfl) ?_
  refine lv_bipush (v := 64) hx hb d_Model_turn_13 (by decide) ?_
  refine lv_icmp_ge (tgt := 85) hx hb d_Model_turn_15 (by decide) (fun c15 => ?_) (fun c15 => ?_)
  · skip
    have c15 : 64 ≤ zkk := (ti_le (ti_k (by decide)) hkk).mp c15
    refine lv_iload hx hb d_Model_turn_85 (lv_at hl 4 rfl) ?_
    have hpost : nn.toInt = nb (flF Wd Ht x y a3) 64 ∧ dOK fc (flD D Wd Ht x y a3 64) := by
      have e : zkk = 64 := by omega
      rw [e] at i2 i3
      exact ⟨by rw [hnn, i3]; rfl, i2⟩
    have hP9 := hP.sub (ws' := [(mo, .inr (5, [.int 0, .int mw, .int mh, .ref ad, .ref asu, .ref aru, .int mro, .ref ast, .int msd, .ref afo, .int mmn])), (ad, .inl (kD, 262144, .inl fc))]) [0, 1] rfl
    have hD9 := hD.sub (ws' := [(mo, .inr (5, [.int 0, .int mw, .int mh, .ref ad, .ref asu, .ref aru, .int mro, .ref ast, .int msd, .ref afo, .int mmn])), (ad, .inl (kD, 262144, .inl fc))]) [0, 1] (by decide) rfl
    have hK9 := hK.sub (tys' := [(kD, .boolean)]) [0] rfl
    exact W.iret (v := nn) hx hb hr (fun t ht hW => ⟨⟨nn, fc, rfl, hpost, by rw [ht]; exact hP9, va_K.moved hW.alike hK9, hD9⟩, hS.F ht⟩) hS.2.2 d_Model_turn_87
  · skip
    have c15 : ¬ (64 ≤ zkk) := fun q => c15 ((ti_le (ti_k (by decide)) hkk).mpr q)
    refine lv_lload_n hx hb d_Model_turn_18 rfl (lv_at hl 3 rfl) ?_
    refine lv_iload hx hb d_Model_turn_19 (lv_at hl 5 rfl) ?_
    refine lv_lshr hx hb d_Model_turn_21 rfl ?_
    refine lv_topl (fun v21 e21 => ?_)
    refine lv_lconst (v := 1) hx hb d_Model_turn_22 (by decide) ?_
    refine lv_land hx hb d_Model_turn_23 ?_
    refine lv_topl (fun v23 e23 => ?_)
    refine lv_lconst (v := 1) hx hb d_Model_turn_24 (by decide) ?_
    refine W.lcmp hx hb d_Model_turn_25 ?_
    refine lv_topi (fun v25 e25 => ?_)
    refine lv_if_ne (tgt := 79) hx hb d_Model_turn_26 (by decide) (fun c26 => ?_) (fun c26 => ?_)
    · skip
      have b26 : lb a3 zkk.toNat = false := bf (fun q => c26 ((bit_t hkk (by omega) (by omega) e21 e23 e25).mpr q))
      obtain ⟨v79, e79⟩ : ∃ y : Int32, y = kk + 1 := ⟨_, rfl⟩
      have h79 : v79.toInt = zkk + 1 := by rw [e79]; exact ti_add hkk (ti_k (by decide)) (by omega) (by omega)
      refine lv_iinc (v := v79) (lv' := [(6, .int v79), (0, .ref mo), (1, .int a1), (2, .int a2), (3, .long a3), (5, .int nn)]) hx hb d_Model_turn_79 hl (k := 5) rfl (by rw [e79]; rfl) (by decide) rfl (fun ls hl => ?_)
      refine lv_goto (tgt := 11) hx hb d_Model_turn_82 (by decide) ?_
      exact ih11 _ (by omega) _ _ _ ⟨nn, znn, v79, (zkk + 1), fc, ls, rfl, lv_sub hl [1, 2, 3, 4, 5, 0] rfl, rfl, hnn, h79, by omega, by first | (rw [ef75]; exact fl_set i2 (by omega) hW2 hH2 (by omega) b26 nv) | (rw [fl_skip (by omega) (Or.inr b26)]; exact i2) | (rw [fl_skip (by omega) (Or.inl c41)]; exact i2), by first | rw [nb_y (by omega) (flF_t (by omega) (by omega) b26), ← i3] | (rw [nb_n (by omega) (flF_f (by omega) (Or.inr b26))]; exact i3) | (rw [nb_n (by omega) (flF_f (by omega) (Or.inl c41))]; exact i3), hP, hD, hS⟩
    · skip
      have b26 : lb a3 zkk.toNat = true := (bit_t hkk (by omega) (by omega) e21 e23 e25).mp c26
      refine lv_aload_n hx hb d_Model_turn_29 rfl (lv_at hl 0 rfl) ?_
      refine lv_iload_n hx hb d_Model_turn_30 rfl (lv_at hl 1 rfl) ?_
      refine lv_i2l hx hb d_Model_turn_31 rfl ?_
      refine lv_topl (fun v31 e31 => ?_)
      have h31 : v31.toInt = x := by rw [e31]; exact tl_i2l g1
      refine lv_iload hx hb d_Model_turn_32 (lv_at hl 5 rfl) ?_
      refine lv_i2l hx hb d_Model_turn_34 rfl ?_
      refine lv_topl (fun v34 e34 => ?_)
      have h34 : v34.toInt = zkk := by rw [e34]; exact tl_i2l hkk
      refine lv_ladd hx hb d_Model_turn_35 ?_
      refine lv_topl (fun v35 e35 => ?_)
      have h35 : v35.toInt = x + zkk := by rw [e35]; exact tl_add h31 h34 (by omega) (by omega)
      refine lv_iload_n hx hb d_Model_turn_36 rfl (lv_at hl 2 rfl) ?_
      refine lv_i2l hx hb d_Model_turn_37 rfl ?_
      refine lv_topl (fun v37 e37 => ?_)
      have h37 : v37.toInt = y := by rw [e37]; exact tl_i2l g2
      have hPc := hP.sub (ws' := [(mo, .inr (5, [.int 0, .int mw, .int mh, .ref ad, .ref asu, .ref aru, .int mro, .ref ast, .int msd, .ref afo, .int mmn]))]) [0] rfl
      have hKc := hK.sub (tys' := []) [] rfl
      refine va_calli (va_runV (As := [.long v35, .long v37]) (rest := []) ⟨hx, hb, hml, hown, hts⟩ (m_isOn l dC dI mo ad asu aru ast afo 0 mw mh mro msd mmn Wd Ht hmw hmh hW1 hW2 hH1 hH2 v35 v37 (x + zkk) y h35 h37) (aw_V 2 hts wd_616 wd_618 ws_30 wd_5 wd_619 rfl rfl (by decide +kernel) ⟨Nat.le_of_ble_eq_true rfl, Nat.le_of_ble_eq_true rfl⟩) ⟨ro_blind, va_recv hKc hPc (ci := 5) (q0 := 0) rfl rfl, ro_pre hPc hKc⟩ rfl rfl hl.1 rfl (lv_room (Nat.le_of_ble_eq_true rfl)) d_Model_turn_38 ⟨Nat.le_of_ble_eq_true rfl, Nat.le_of_ble_eq_true rfl⟩) hS (fun q _ h => h.elim) (fun q h => h.elim) (fun v38 _ t9 H38 locs ht hvm h38 hB hz1 hk1 hS => ?_)
      have hP := ro_keep hP hk1
      clear hPc hKc ht hvm hB hz1 hk1
      refine lv_if_eq (tgt := 79) hx hb d_Model_turn_41 (by decide) (fun c41 => ?_) (fun c41 => ?_)
      · skip
        have c41 : ¬ (0 ≤ (x + zkk) ∧ (x + zkk) < Wd ∧ 0 ≤ y ∧ y < Ht) := bi_z h38 c41
        obtain ⟨v79, e79⟩ : ∃ y : Int32, y = kk + 1 := ⟨_, rfl⟩
        have h79 : v79.toInt = zkk + 1 := by rw [e79]; exact ti_add hkk (ti_k (by decide)) (by omega) (by omega)
        refine lv_iinc (v := v79) (lv' := [(6, .int v79), (0, .ref mo), (1, .int a1), (2, .int a2), (3, .long a3), (5, .int nn)]) hx hb d_Model_turn_79 hl (k := 5) rfl (by rw [e79]; rfl) (by decide) rfl (fun ls hl => ?_)
        refine lv_goto (tgt := 11) hx hb d_Model_turn_82 (by decide) ?_
        exact ih11 _ (by omega) _ _ _ ⟨nn, znn, v79, (zkk + 1), fc, ls, rfl, lv_sub hl [1, 2, 3, 4, 5, 0] rfl, rfl, hnn, h79, by omega, by first | (rw [ef75]; exact fl_set i2 (by omega) hW2 hH2 (by omega) b26 nv) | (rw [fl_skip (by omega) (Or.inr b26)]; exact i2) | (rw [fl_skip (by omega) (Or.inl c41)]; exact i2), by first | rw [nb_y (by omega) (flF_t (by omega) (by omega) b26), ← i3] | (rw [nb_n (by omega) (flF_f (by omega) (Or.inr b26))]; exact i3) | (rw [nb_n (by omega) (flF_f (by omega) (Or.inl c41))]; exact i3), hP, hD, hS⟩
      · skip
        have c41 : 0 ≤ (x + zkk) ∧ (x + zkk) < Wd ∧ 0 ≤ y ∧ y < Ht := bi_nz h38 c41
        refine lv_aload_n hx hb d_Model_turn_44 rfl (lv_at hl 0 rfl) ?_
        refine va_get (D := (dC, dI)) (ci := 5) (v := .ref ad) (C := R_Model) (T := T_Model) (N := 11) hx hb hts i_Model hown hK hP 0 rfl rfl 3 (by decide) (hts _ wd_568) (fun _ h9 => h9) rfl d_Model_turn_45 ?_
        refine lv_sipush (v := 512) hx hb d_Model_turn_48 (by decide) ?_
        refine lv_iload_n hx hb d_Model_turn_51 rfl (lv_at hl 2 rfl) ?_
        refine lv_imul hx hb d_Model_turn_52 ?_
        refine lv_topi (fun v52 e52 => ?_)
        have h52 : v52.toInt = 512 * y := by rw [e52]; exact ti_mul (ti_k (by decide)) g2 (by omega) (by omega)
        refine lv_iload_n hx hb d_Model_turn_53 rfl (lv_at hl 1 rfl) ?_
        refine lv_iadd hx hb d_Model_turn_54 ?_
        refine lv_topi (fun v54 e54 => ?_)
        have h54 : v54.toInt = (512 * y) + x := by rw [e54]; exact ti_add h52 g1 (by omega) (by omega)
        refine lv_iload hx hb d_Model_turn_55 (lv_at hl 5 rfl) ?_
        refine lv_iadd hx hb d_Model_turn_57 ?_
        refine lv_topi (fun v57 e57 => ?_)
        have h57 : v57.toInt = ((512 * y) + x) + zkk := by rw [e57]; exact ti_add h54 hkk (by omega) (by omega)
        refine lv_aload_n hx hb d_Model_turn_58 rfl (lv_at hl 0 rfl) ?_
        refine lv_iload_n hx hb d_Model_turn_59 rfl (lv_at hl 1 rfl) ?_
        refine lv_iload hx hb d_Model_turn_60 (lv_at hl 5 rfl) ?_
        refine lv_iadd hx hb d_Model_turn_62 ?_
        refine lv_topi (fun v62 e62 => ?_)
        have h62 : v62.toInt = x + zkk := by rw [e62]; exact ti_add g1 hkk (by omega) (by omega)
        refine lv_iload_n hx hb d_Model_turn_63 rfl (lv_at hl 2 rfl) ?_
        have hPc := hP.sub (ws' := [(mo, .inr (5, [.int 0, .int mw, .int mh, .ref ad, .ref asu, .ref aru, .int mro, .ref ast, .int msd, .ref afo, .int mmn])), (ad, .inl (kD, 262144, .inl fc))]) [0, 1] rfl
        have hKc := hK.sub (tys' := [(kD, .boolean)]) [0] rfl
        refine va_calli (va_runV (As := [.int v62, .int a2]) (rest := [.int v57, .ref ad]) ⟨hx, hb, hml, hown, hts⟩ (m_isDark l dC dI mo ad asu aru ast afo 0 mw mh mro msd mmn Wd Ht hmw hmh hW1 hW2 hH1 hH2 kD fc (flD D Wd Ht x y a3 zkk) i2 v62 a2 (x + zkk) y h62 g2 (by omega) (by omega) (by omega) (by omega)) (aw_V 2 hts wd_620 wd_622 ws_31 wd_5 wd_623 rfl rfl (by decide +kernel) ⟨Nat.le_of_ble_eq_true rfl, Nat.le_of_ble_eq_true rfl⟩) ⟨ro_blind, va_recv hKc hPc (ci := 5) (q0 := 0) rfl rfl, ro_pre hPc hKc⟩ rfl rfl hl.1 rfl (lv_room (Nat.le_of_ble_eq_true rfl)) d_Model_turn_64 ⟨Nat.le_of_ble_eq_true rfl, Nat.le_of_ble_eq_true rfl⟩) hS (fun q _ h => h.elim) (fun q h => h.elim) (fun v64 _ t9 H64 locs ht hvm h64 hB hz1 hk1 hS => ?_)
        have hP := ro_keep hP hk1
        clear hPc hKc ht hvm hB hz1 hk1
        refine lv_if_ne (tgt := 74) hx hb d_Model_turn_67 (by decide) (fun c67 => ?_) (fun c67 => ?_)
        · skip
          have c67 : (flD D Wd Ht x y a3 zkk) (x + zkk) y = true := bi_nz (zb_isB h64) c67
          refine lv_iconst (v := 0) hx hb d_Model_turn_74 (by decide) ?_
          have nv : vp_nar .boolean 0 = zb (!(flD D Wd Ht x y a3 zkk (x + zkk) y)) := by first | (rw [c67]; exact nar0) | (rw [bf c67]; exact nar1)
          have in75 : vp_in v57 262144 := vi_in h57 (by omega) (by omega)
          refine va_zast hx hb hK hP hD hS 1 0 rfl rfl in75 d_Model_turn_75 (fun H75 locs hP hD hS => ?_)
          obtain ⟨f75, ef75⟩ : ∃ g, g = upd fc (v57).toNatClampNeg (vp_nar .boolean 0) := ⟨_, rfl⟩
          have hP : va_P (dC, dI) vwCl [(mo, .inr (5, [.int 0, .int mw, .int mh, .ref ad, .ref asu, .ref aru, .int mro, .ref ast, .int msd, .ref afo, .int mmn])), (ad, .inl (kD, 262144, .inl f75))] H75 := by rw [ef75]; exact hP
          have hD : va_D A [(mo, .inr (5, [.int 0, .int mw, .int mh, .ref ad, .ref asu, .ref aru, .int mro, .ref ast, .int msd, .ref afo, .int mmn])), (ad, .inl (kD, 262144, .inl f75))] := by rw [ef75]; exact hD
          have ef75 : f75 = upd fc ((((512 * y) + x) + zkk)).toNat (vp_nar .boolean 0) := by rw [ef75, vi_cl h57]
          obtain ⟨v76, e76⟩ : ∃ y : Int32, y = nn + 1 := ⟨_, rfl⟩
          have h76 : v76.toInt = znn + 1 := by rw [e76]; exact ti_add hnn (ti_k (by decide)) (by omega) (by omega)
          refine lv_iinc (v := v76) (lv' := [(5, .int v76), (0, .ref mo), (1, .int a1), (2, .int a2), (3, .long a3), (6, .int kk)]) hx hb d_Model_turn_76 hl (k := 4) rfl (by rw [e76]; rfl) (by decide) rfl (fun ls hl => ?_)
          obtain ⟨v79, e79⟩ : ∃ y : Int32, y = kk + 1 := ⟨_, rfl⟩
          have h79 : v79.toInt = zkk + 1 := by rw [e79]; exact ti_add hkk (ti_k (by decide)) (by omega) (by omega)
          refine lv_iinc (v := v79) (lv' := [(6, .int v79), (5, .int v76), (0, .ref mo), (1, .int a1), (2, .int a2), (3, .long a3)]) hx hb d_Model_turn_79 hl (k := 5) rfl (by rw [e79]; rfl) (by decide) rfl (fun ls hl => ?_)
          refine lv_goto (tgt := 11) hx hb d_Model_turn_82 (by decide) ?_
          exact ih11 _ (by omega) _ _ _ ⟨v76, (znn + 1), v79, (zkk + 1), f75, ls, rfl, lv_sub hl [2, 3, 4, 5, 1, 0] rfl, rfl, h76, h79, by omega, by first | (rw [ef75]; exact fl_set i2 (by omega) hW2 hH2 (by omega) b26 nv) | (rw [fl_skip (by omega) (Or.inr b26)]; exact i2) | (rw [fl_skip (by omega) (Or.inl c41)]; exact i2), by first | rw [nb_y (by omega) (flF_t (by omega) (by omega) b26), ← i3] | (rw [nb_n (by omega) (flF_f (by omega) (Or.inr b26))]; exact i3) | (rw [nb_n (by omega) (flF_f (by omega) (Or.inl c41))]; exact i3), hP, hD, hS⟩
        · skip
          have c67 : ¬ ((flD D Wd Ht x y a3 zkk) (x + zkk) y = true) := bi_z (zb_isB h64) c67
          refine lv_iconst (v := 1) hx hb d_Model_turn_70 (by decide) ?_
          refine lv_goto (tgt := 75) hx hb d_Model_turn_71 (by decide) ?_
          have nv : vp_nar .boolean 1 = zb (!(flD D Wd Ht x y a3 zkk (x + zkk) y)) := by first | (rw [c67]; exact nar0) | (rw [bf c67]; exact nar1)
          have in75 : vp_in v57 262144 := vi_in h57 (by omega) (by omega)
          refine va_zast hx hb hK hP hD hS 1 0 rfl rfl in75 d_Model_turn_75 (fun H75 locs hP hD hS => ?_)
          obtain ⟨f75, ef75⟩ : ∃ g, g = upd fc (v57).toNatClampNeg (vp_nar .boolean 1) := ⟨_, rfl⟩
          have hP : va_P (dC, dI) vwCl [(mo, .inr (5, [.int 0, .int mw, .int mh, .ref ad, .ref asu, .ref aru, .int mro, .ref ast, .int msd, .ref afo, .int mmn])), (ad, .inl (kD, 262144, .inl f75))] H75 := by rw [ef75]; exact hP
          have hD : va_D A [(mo, .inr (5, [.int 0, .int mw, .int mh, .ref ad, .ref asu, .ref aru, .int mro, .ref ast, .int msd, .ref afo, .int mmn])), (ad, .inl (kD, 262144, .inl f75))] := by rw [ef75]; exact hD
          have ef75 : f75 = upd fc ((((512 * y) + x) + zkk)).toNat (vp_nar .boolean 1) := by rw [ef75, vi_cl h57]
          obtain ⟨v76, e76⟩ : ∃ y : Int32, y = nn + 1 := ⟨_, rfl⟩
          have h76 : v76.toInt = znn + 1 := by rw [e76]; exact ti_add hnn (ti_k (by decide)) (by omega) (by omega)
          refine lv_iinc (v := v76) (lv' := [(5, .int v76), (0, .ref mo), (1, .int a1), (2, .int a2), (3, .long a3), (6, .int kk)]) hx hb d_Model_turn_76 hl (k := 4) rfl (by rw [e76]; rfl) (by decide) rfl (fun ls hl => ?_)
          obtain ⟨v79, e79⟩ : ∃ y : Int32, y = kk + 1 := ⟨_, rfl⟩
          have h79 : v79.toInt = zkk + 1 := by rw [e79]; exact ti_add hkk (ti_k (by decide)) (by omega) (by omega)
          refine lv_iinc (v := v79) (lv' := [(6, .int v79), (5, .int v76), (0, .ref mo), (1, .int a1), (2, .int a2), (3, .long a3)]) hx hb d_Model_turn_79 hl (k := 5) rfl (by rw [e79]; rfl) (by decide) rfl (fun ls hl => ?_)
          refine lv_goto (tgt := 11) hx hb d_Model_turn_82 (by decide) ?_
          exact ih11 _ (by omega) _ _ _ ⟨v76, (znn + 1), v79, (zkk + 1), f75, ls, rfl, lv_sub hl [2, 3, 4, 5, 1, 0] rfl, rfl, h76, h79, by omega, by first | (rw [ef75]; exact fl_set i2 (by omega) hW2 hH2 (by omega) b26 nv) | (rw [fl_skip (by omega) (Or.inr b26)]; exact i2) | (rw [fl_skip (by omega) (Or.inl c41)]; exact i2), by first | rw [nb_y (by omega) (flF_t (by omega) (by omega) b26), ← i3] | (rw [nb_n (by omega) (flF_f (by omega) (Or.inr b26))]; exact i3) | (rw [nb_n (by omega) (flF_f (by omega) (Or.inl c41))]; exact i3), hP, hD, hS⟩
