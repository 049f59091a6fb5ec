set_option maxHeartbeats 4000000 in
set_option maxRecDepth 100000 in
theorem c_addUpRow (l : Launch) (dC : Nat → ClassId) (dI : Nat → Nat → Nat) (sz : Nat) (hp hw hs : Nat) (kW kS : ClassId) (pw ph psr : Int32) (fw : Nat → Int64) (fs : Nat → Int32) (Wd Ht : Int) (D : Int → Int → Bool) (hpw : pw.toInt = Wd) (hph : ph.toInt = Ht) (hW1 : 1 ≤ Wd) (hW2 : Wd ≤ 512) (hH1 : 1 ≤ Ht) (hH2 : Ht ≤ 512) (hbits : bOK fw D) (a1 : Int32) (y : Int) (g1 : a1.toInt = y) (y0 : 0 ≤ y) (y1 : y < Ht) (hsk : sK fs D Wd y) (hf0 : fst0 fs) : Met l y_Paper_addUpRow (.code y_Paper_addUpRow b_Paper_addUpRow 6 none :: allw) ({ frames := 0, cells := 0, slots := 0, locals := 0 }) (va_Pc [.ref hp, .int a1] (rw_B (dC, dI) vwCl [(hp, .inr (0, [.int pw, .int ph, .ref hw, .ref hs, .int psr])), (hw, .inl (kW, 4096, .inr (.inl fw))), (hs, .inl (kS, 263169, .inl fs))] [(kW, .long), (kS, .int)] sz)) (va_Qv (fun (u : Nat → Int32) => sK u D Wd (y + 1) ∧ fst0 u) (fun u t => rw_E (dC, dI) vwCl [(hp, .inr (0, [.int pw, .int ph, .ref hw, .ref hs, .int psr])), (hw, .inl (kW, 4096, .inr (.inl fw))), (hs, .inl (kS, 263169, .inl u))] [(kW, .long), (kS, .int)] (va_A [(hp, .inr (0, [.int pw, .int ph, .ref hw, .ref hs, .int psr])), (hw, .inl (kW, 4096, .inr (.inl fw))), (hs, .inl (kS, 263169, .inl fs))] sz) t) (va_A [(hp, .inr (0, [.int pw, .int ph, .ref hw, .ref hs, .int psr])), (hw, .inl (kW, 4096, .inr (.inl fw))), (hs, .inl (kS, 263169, .inl fs))] sz)) 0 0 (va_A [(hp, .inr (0, [.int pw, .int ph, .ref hw, .ref hs, .int psr])), (hw, .inl (kW, 4096, .inr (.inl fw))), (hs, .inl (kS, 263169, .inl fs))] sz) := by
  refine Met.ofW (cc := b_Paper_addUpRow) (maxL := 6) (ret := none) (by decide) rfl ?_
  intro p e s m args below meth c s₁ B hml hv
  obtain ⟨rfl, hsz, hP, hK, hD0⟩ := hv
  have hx := B.exec
  have hb := B.bytes
  have hr := B.returns
  have hts : ∀ w ∈ allw, w.before _ s = true := fun w h => atoms_spec (ws := .code y_Paper_addUpRow b_Paper_addUpRow 6 none :: allw) B.pre w (List.mem_cons_of_mem _ h)
  have hown : s.vm.findClass R_Paper = some m.cls := findClass_of_methodNamed B.named
  have hlocks := B.notSynchronized
  subst hsz
  have hD := hD0.self (sz := s.heap.size)
  generalize hAe : va_A [(hp, .inr (0, [.int pw, .int ph, .ref hw, .ref hs, .int psr])), (hw, .inl (kW, 4096, .inr (.inl fw))), (hs, .inl (kS, 263169, .inl fs))] s.heap.size = A at hD ⊢
  have hA : ∀ q : Nat, s.heap.size ≤ q → A q := fun q h => by rw [← hAe]; exact Or.inr h
  have hS : va_S A s.heap s.heap [] := va_S.rf
  have hP : va_P (dC, dI) vwCl [(hp, .inr (0, [.int pw, .int ph, .ref hw, .ref hs, .int psr])), (hw, .inl (kW, 4096, .inr (.inl fw))), (hs, .inl (kS, 263169, .inl fs))] s.heap := hP
  have hl := lv_entry ([.ref hp, .int a1]) (n := 6) (Nat.le_of_ble_eq_true rfl)
  rw [lg_entry_eq]
  generalize (lg_sl ([.ref hp, .int a1]) ++ List.replicate (6 - (lg_sl ([.ref hp, .int a1])).length) Slot.unset).toArray = ls at hl ⊢
  have hl : lv_has ls 6 [(0, .ref hp), (1, .int a1)] := hl
  refine lv_iload_n hx hb d_Paper_addUpRow_0 rfl (lv_at hl 1 rfl) ?_
  refine lv_sipush (v := 513) hx hb d_Paper_addUpRow_1 (by decide) ?_
  refine lv_imul hx hb d_Paper_addUpRow_4 ?_
  refine lv_topi (fun v4 e4 => ?_)
  have h4 : v4.toInt = y * 513 := by rw [e4]; exact ti_mul g1 (ti_k (by decide)) (by omega) (by omega)
  refine lv_iconst (v := 1) hx hb d_Paper_addUpRow_5 (by decide) ?_
  refine lv_iadd hx hb d_Paper_addUpRow_6 ?_
  refine lv_topi (fun v6 e6 => ?_)
  have h6 : v6.toInt = (y * 513) + 1 := by rw [e6]; exact ti_add h4 (ti_k (by decide)) (by omega) (by omega)
  refine lv_istore_n (lv' := [(2, .int v6), (0, .ref hp), (1, .int a1)]) hx hb d_Paper_addUpRow_7 rfl hl (by decide) rfl (fun ls hl => ?_)
  refine lv_iload_n hx hb d_Paper_addUpRow_8 rfl (lv_at hl 0 rfl) ?_
  refine lv_sipush (v := 513) hx hb d_Paper_addUpRow_9 (by decide) ?_
  refine lv_iadd hx hb d_Paper_addUpRow_12 ?_
  refine lv_topi (fun v12 e12 => ?_)
  have h12 : v12.toInt = ((y * 513) + 1) + 513 := by rw [e12]; exact ti_add h6 (ti_k (by decide)) (by omega) (by omega)
  refine lv_istore_n (lv' := [(3, .int v12), (2, .int v6), (0, .ref hp), (1, .int a1)]) hx hb d_Paper_addUpRow_13 rfl hl (by decide) rfl (fun ls hl => ?_)
  refine lv_iconst (v := 0) hx hb d_Paper_addUpRow_14 (by decide) ?_
  refine lv_istore (lv' := [(4, .int 0), (3, .int v12), (2, .int v6), (0, .ref hp), (1, .int a1)]) hx hb d_Paper_addUpRow_15 hl (by decide) rfl (fun ls hl => ?_)
  refine lv_iconst (v := 0) hx hb d_Paper_addUpRow_17 (by decide) ?_
  refine lv_istore (lv' := [(5, .int 0), (4, .int 0), (3, .int v12), (2, .int v6), (0, .ref hp), (1, .int a1)]) hx hb d_Paper_addUpRow_18 hl (by decide) rfl (fun ls hl => ?_)
  refine w_loop (I := fun n H' locs' g' => ∃ (dd : Int32) (zdd : Int) (xx : Int32) (zxx : Int) (fc : Nat → Int32) (ls : Array Slot), g' = F0 m 20 ls [] ∧ lv_has ls 6 [(0, .ref hp), (1, .int a1), (2, .int v6), (3, .int v12), (4, .int dd), (5, .int xx)] ∧ n = (Wd - zxx).toNat ∧ dd.toInt = zdd ∧ xx.toInt = zxx ∧ (0 ≤ zxx ∧ zxx ≤ Wd) ∧ (zdd = rc D 0 y zxx.toNat) ∧ (sK fc D Wd y) ∧ (rowS fc D y zxx) ∧ (fst0 fc) ∧ va_P (dC, dI) vwCl [(hp, .inr (0, [.int pw, .int ph, .ref hw, .ref hs, .int psr])), (hw, .inl (kW, 4096, .inr (.inl fw))), (hs, .inl (kS, 263169, .inl fc))] H' ∧ va_D A [(hp, .inr (0, [.int pw, .int ph, .ref hw, .ref hs, .int psr])), (hw, .inl (kW, 4096, .inr (.inl fw))), (hs, .inl (kS, 263169, .inl fc))] ∧ va_S A s.heap H' locs') ?_ ⟨0, 0, 0, 0, fs, ls, rfl, lv_sub hl [4, 5, 3, 2, 1, 0] rfl, rfl, (ti_k (by decide)), (ti_k (by decide)), by omega, rfl, hsk, row_0 hf0 (by omega) (by omega), hf0, hP, hD, hS⟩
  intro n20 H20 locs g' hI ih20
  obtain ⟨dd, zdd, xx, zxx, fc, ls, rfl, hl, hn, hdd, hxx, i1, i0, i2, i3, i4, hP, hD, hS⟩ := hI
  have rn := rc_nn D 0 y zxx.toNat
  have rm := rc_le D 0 y zxx.toNat
  refine lv_iload hx hb d_Paper_addUpRow_20 (lv_at hl 5 rfl) ?_
  refine lv_aload_n hx hb d_Paper_addUpRow_22 rfl (lv_at hl 0 rfl) ?_
  refine va_get (D := (dC, dI)) (ci := 0) (v := .int pw) (C := R_Paper) (T := T_Paper) (N := 5) hx hb hts i_Paper hown hK hP 0 rfl rfl 0 (by decide) (hts _ wd_37) (fun _ h9 => h9) rfl d_Paper_addUpRow_23 ?_
  refine lv_icmp_ge (tgt := 85) hx hb d_Paper_addUpRow_26 (by decide) (fun c26 => ?_) (fun c26 => ?_)
  · skip
    have c26 : Wd ≤ zxx := (ti_le hpw hxx).mp c26
    have hpost : sK fc D Wd (y + 1) ∧ fst0 fc := by
      have e : zxx = Wd := by omega
      rw [e] at i3
      exact ⟨sk_next i2 i3, i4⟩
    have hP9 := hP.sub (ws' := [(hp, .inr (0, [.int pw, .int ph, .ref hw, .ref hs, .int psr])), (hw, .inl (kW, 4096, .inr (.inl fw))), (hs, .inl (kS, 263169, .inl fc))]) [0, 1, 2] rfl
    have hD9 := hD.sub (ws' := [(hp, .inr (0, [.int pw, .int ph, .ref hw, .ref hs, .int psr])), (hw, .inl (kW, 4096, .inr (.inl fw))), (hs, .inl (kS, 263169, .inl fc))]) [0, 1, 2] (by decide) rfl
    have hK9 := hK.sub (tys' := [(kW, .long), (kS, .int)]) [0, 1] rfl
    exact W.vret hx hb hr (fun t ht hW => ⟨⟨fc, rfl, hpost, by rw [ht]; exact hP9, va_K.moved hW.alike hK9, hD9⟩, hS.F ht⟩) hS.2.2 d_Paper_addUpRow_85
  · skip
    have c26 : ¬ (Wd ≤ zxx) := fun q => c26 ((ti_le hpw hxx).mpr q)
    refine lv_iload hx hb d_Paper_addUpRow_29 (lv_at hl 4 rfl) ?_
    refine lv_aload_n hx hb d_Paper_addUpRow_31 rfl (lv_at hl 0 rfl) ?_
    refine va_get (D := (dC, dI)) (ci := 0) (v := .ref hw) (C := R_Paper) (T := T_Paper) (N := 5) hx hb hts i_Paper hown hK hP 0 rfl rfl 2 (by decide) (hts _ wd_43) (fun _ h9 => h9) rfl d_Paper_addUpRow_32 ?_
    refine lv_iload_n hx hb d_Paper_addUpRow_35 rfl (lv_at hl 1 rfl) ?_
    refine lv_bipush (v := 8) hx hb d_Paper_addUpRow_36 (by decide) ?_
    refine lv_imul hx hb d_Paper_addUpRow_38 ?_
    refine lv_topi (fun v38 e38 => ?_)
    have h38 : v38.toInt = y * 8 := by rw [e38]; exact ti_mul g1 (ti_k (by decide)) (by omega) (by omega)
    refine lv_iload hx hb d_Paper_addUpRow_39 (lv_at hl 5 rfl) ?_
    refine lv_bipush (v := 6) hx hb d_Paper_addUpRow_41 (by decide) ?_
    refine lv_ishr hx hb d_Paper_addUpRow_43 ?_
    refine lv_topi (fun v43 e43 => ?_)
    have h43 : v43.toInt = zxx / 64 := by rw [e43]; exact ti_shr6 hxx
    refine lv_iadd hx hb d_Paper_addUpRow_44 ?_
    refine lv_topi (fun v44 e44 => ?_)
    have h44 : v44.toInt = (y * 8) + (zxx / 64) := by rw [e44]; exact ti_add h38 h43 (by omega) (by omega)
    have in45 : vp_in v44 4096 := vi_in h44 (by omega) (by omega)
    refine va_lald hx hb hK hP 1 0 rfl rfl in45 d_Paper_addUpRow_45 ?_
    refine lv_topl (fun v45 e45 => ?_)
    have e45 : v45 = fw (((y * 8) + (zxx / 64))).toNat := by rw [e45, vi_cl h44]
    have w45 : lb v45 (zxx % 64).toNat = D zxx y := by rw [e45]; exact hbits zxx y (by omega) (by omega) (by omega) (by omega)
    refine lv_iload hx hb d_Paper_addUpRow_46 (lv_at hl 5 rfl) ?_
    refine lv_bipush (v := 63) hx hb d_Paper_addUpRow_48 (by decide) ?_
    refine lv_iand hx hb d_Paper_addUpRow_50 ?_
    refine lv_topi (fun v50 e50 => ?_)
    have h50 : v50.toInt = zxx % 64 := by rw [e50]; exact ti_and63 hxx (by omega)
    refine lv_lushr hx hb d_Paper_addUpRow_51 rfl ?_
    refine lv_topl (fun v51 e51 => ?_)
    refine lv_l2i hx hb d_Paper_addUpRow_52 rfl ?_
    refine lv_topi (fun v52 e52 => ?_)
    refine lv_iconst (v := 1) hx hb d_Paper_addUpRow_53 (by decide) ?_
    refine lv_iand hx hb d_Paper_addUpRow_54 ?_
    refine lv_topi (fun v54 e54 => ?_)
    have h54 : v54.toInt = (if D zxx y = true then 1 else 0) := by rw [e54]; rw [← w45]; exact bit_of h50 (by omega) (by omega) e51 e52 rfl
    have b54 : 0 ≤ (if D zxx y = true then (1 : Int) else 0) ∧ (if D zxx y = true then (1 : Int) else 0) ≤ 1 := by split <;> omega
    refine lv_iadd hx hb d_Paper_addUpRow_55 ?_
    refine lv_topi (fun v55 e55 => ?_)
    have h55 : v55.toInt = zdd + (if D zxx y = true then 1 else 0) := by rw [e55]; exact ti_add hdd h54 (by omega) (by omega)
    refine lv_istore (lv' := [(4, .int v55), (0, .ref hp), (1, .int a1), (2, .int v6), (3, .int v12), (5, .int xx)]) hx hb d_Paper_addUpRow_56 hl (by decide) rfl (fun ls hl => ?_)
    refine lv_aload_n hx hb d_Paper_addUpRow_58 rfl (lv_at hl 1 rfl) ?_
    refine va_get (D := (dC, dI)) (ci := 0) (v := .ref hs) (C := R_Paper) (T := T_Paper) (N := 5) hx hb hts i_Paper hown hK hP 0 rfl rfl 3 (by decide) (hts _ wd_44) (fun _ h9 => h9) rfl d_Paper_addUpRow_59 ?_
    refine lv_iload_n hx hb d_Paper_addUpRow_62 rfl (lv_at hl 4 rfl) ?_
    refine lv_iload hx hb d_Paper_addUpRow_63 (lv_at hl 5 rfl) ?_
    refine lv_iadd hx hb d_Paper_addUpRow_65 ?_
    refine lv_topi (fun v65 e65 => ?_)
    have h65 : v65.toInt = (((y * 513) + 1) + 513) + zxx := by rw [e65]; exact ti_add h12 hxx (by omega) (by omega)
    refine lv_aload_n hx hb d_Paper_addUpRow_66 rfl (lv_at hl 1 rfl) ?_
    refine va_get (D := (dC, dI)) (ci := 0) (v := .ref hs) (C := R_Paper) (T := T_Paper) (N := 5) hx hb hts i_Paper hown hK hP 0 rfl rfl 3 (by decide) (hts _ wd_44) (fun _ h9 => h9) rfl d_Paper_addUpRow_67 ?_
    refine lv_iload_n hx hb d_Paper_addUpRow_70 rfl (lv_at hl 3 rfl) ?_
    refine lv_iload hx hb d_Paper_addUpRow_71 (lv_at hl 5 rfl) ?_
    refine lv_iadd hx hb d_Paper_addUpRow_73 ?_
    refine lv_topi (fun v73 e73 => ?_)
    have h73 : v73.toInt = ((y * 513) + 1) + zxx := by rw [e73]; exact ti_add h6 hxx (by omega) (by omega)
    have in74 : vp_in v73 263169 := vi_in h73 (by omega) (by omega)
    refine va_iald hx hb hK hP 2 1 rfl rfl in74 d_Paper_addUpRow_74 ?_
    refine lv_topi (fun v74 e74 => ?_)
    have e74 : v74 = fc ((((y * 513) + 1) + zxx)).toNat := by rw [e74, vi_cl h73]
    have h74 : v74.toInt = cI D 0 0 (zxx + 1) y := by rw [e74, ← i2 (zxx + 1) y (by omega) (by omega) (by omega) (by omega)]; congr 2; omega
    have n74 := cI_nn D 0 0 (zxx + 1) y
    have l74 := cI_le D 0 0 (w := zxx + 1) (h := y) (by omega) (by omega)
    have m74 := mul_b2 (a := zxx + 1) (b := y) (p := 512) (q := 512) (by omega) (by omega) (by omega) (by omega)
    refine lv_iload hx hb d_Paper_addUpRow_75 (lv_at hl 0 rfl) ?_
    refine lv_iadd hx hb d_Paper_addUpRow_77 ?_
    refine lv_topi (fun v77 e77 => ?_)
    have h77 : v77.toInt = cI D 0 0 (zxx + 1) y + (zdd + (if D zxx y = true then 1 else 0)) := by rw [e77]; exact ti_add h74 h55 (by omega) (by omega)
    have in78 : vp_in v65 263169 := vi_in h65 (by omega) (by omega)
    refine va_iast hx hb hK hP hD hS 2 1 rfl rfl in78 d_Paper_addUpRow_78 (fun H78 locs hP hD hS => ?_)
    obtain ⟨f78, ef78⟩ : ∃ g, g = upd fc (v65).toNatClampNeg v77 := ⟨_, rfl⟩
    have hP : va_P (dC, dI) vwCl [(hp, .inr (0, [.int pw, .int ph, .ref hw, .ref hs, .int psr])), (hw, .inl (kW, 4096, .inr (.inl fw))), (hs, .inl (kS, 263169, .inl f78))] H78 := by rw [ef78]; exact hP
    have hD : va_D A [(hp, .inr (0, [.int pw, .int ph, .ref hw, .ref hs, .int psr])), (hw, .inl (kW, 4096, .inr (.inl fw))), (hs, .inl (kS, 263169, .inl f78))] := by rw [ef78]; exact hD
    have ef78 : f78 = upd fc (((((y * 513) + 1) + 513) + zxx)).toNat v77 := by rw [ef78, vi_cl h65]
    have r78 := row_step i2 i3 i4 (by omega) (by omega) (by omega) (by omega) (by omega) ef78 (by rw [rc_step (by omega)]; omega)
    obtain ⟨v79, e79⟩ : ∃ y : Int32, y = xx + 1 := ⟨_, rfl⟩
    have h79 : v79.toInt = zxx + 1 := by rw [e79]; exact ti_add hxx (ti_k (by decide)) (by omega) (by omega)
    refine lv_iinc (v := v79) (lv' := [(5, .int v79), (4, .int v55), (0, .ref hp), (1, .int a1), (2, .int v6), (3, .int v12)]) hx hb d_Paper_addUpRow_79 hl (k := 5) rfl (by rw [e79]; rfl) (by decide) rfl (fun ls hl => ?_)
    refine lv_goto (tgt := 20) hx hb d_Paper_addUpRow_82 (by decide) ?_
    exact ih20 _ (by omega) _ _ _ ⟨v55, (zdd + (if D zxx y = true then 1 else 0)), v79, (zxx + 1), f78, ls, rfl, lv_sub hl [2, 3, 4, 5, 1, 0] rfl, rfl, h55, h79, by omega, by rw [rc_step (by omega)]; omega, r78.1, r78.2.1, r78.2.2, hP, hD, hS⟩

set_option maxHeartbeats 4000000 in
set_option maxRecDepth 100000 in
theorem c_addUp (l : Launch) (dC : Nat → ClassId) (dI : Nat → Nat → Nat) (sz : Nat) (hp hw hs : Nat) (kW kS : ClassId) (pw ph psr : Int32) (fw : Nat → Int64) (fs : Nat → Int32) (Wd Ht : Int) (D : Int → Int → Bool) (hpw : pw.toInt = Wd) (hph : ph.toInt = Ht) (hW1 : 1 ≤ Wd) (hW2 : Wd ≤ 512) (hH1 : 1 ≤ Ht) (hH2 : Ht ≤ 512) (hbits : bOK fw D) (hsup : ∀ x y, D x y = true → 0 ≤ x ∧ x < Wd ∧ 0 ≤ y ∧ y < Ht) (SR : Int) (hsr : psr.toInt = SR) (hsr0 : 0 ≤ SR) (hsr1 : SR ≤ Ht) (hsk : sK fs D Wd SR) (hf0 : fst0 fs) : Met l y_Paper_addUp (.code y_Paper_addUp b_Paper_addUp 2 none :: allw) ({ frames := 1, cells := 0, slots := 0, locals := 40 }) (va_Pc [.ref hp] (rw_B (dC, dI) vwCl [(hp, .inr (0, [.int pw, .int ph, .ref hw, .ref hs, .int psr])), (hw, .inl (kW, 4096, .inr (.inl fw))), (hs, .inl (kS, 263169, .inl fs))] [(kW, .long), (kS, .int)] sz)) (va_Qv (fun (u : (Nat → Int32) × Int32) => sK u.1 D Wd Ht ∧ fst0 u.1 ∧ u.2.toInt = Ht) (fun u t => rw_E (dC, dI) vwCl [(hp, .inr (0, [.int pw, .int ph, .ref hw, .ref hs, .int u.2])), (hw, .inl (kW, 4096, .inr (.inl fw))), (hs, .inl (kS, 263169, .inl u.1))] [(kW, .long), (kS, .int)] (va_A [(hp, .inr (0, [.int pw, .int ph, .ref hw, .ref hs, .int psr])), (hw, .inl (kW, 4096, .inr (.inl fw))), (hs, .inl (kS, 263169, .inl fs))] sz) t) (va_A [(hp, .inr (0, [.int pw, .int ph, .ref hw, .ref hs, .int psr])), (hw, .inl (kW, 4096, .inr (.inl fw))), (hs, .inl (kS, 263169, .inl fs))] sz)) 0 0 (va_A [(hp, .inr (0, [.int pw, .int ph, .ref hw, .ref hs, .int psr])), (hw, .inl (kW, 4096, .inr (.inl fw))), (hs, .inl (kS, 263169, .inl fs))] sz) := by
  refine Met.ofW (cc := b_Paper_addUp) (maxL := 2) (ret := none) (by decide) rfl ?_
  intro p e s m args below meth c s₁ B hml hv
  obtain ⟨rfl, hsz, hP, hK, hD0⟩ := hv
  have hx := B.exec
  have hb := B.bytes
  have hr := B.returns
  have hts : ∀ w ∈ allw, w.before _ s = true := fun w h => atoms_spec (ws := .code y_Paper_addUp b_Paper_addUp 2 none :: allw) B.pre w (List.mem_cons_of_mem _ h)
  have hown : s.vm.findClass R_Paper = some m.cls := findClass_of_methodNamed B.named
  have hlocks := B.notSynchronized
  subst hsz
  have hD := hD0.self (sz := s.heap.size)
  generalize hAe : va_A [(hp, .inr (0, [.int pw, .int ph, .ref hw, .ref hs, .int psr])), (hw, .inl (kW, 4096, .inr (.inl fw))), (hs, .inl (kS, 263169, .inl fs))] s.heap.size = A at hD ⊢
  have hA : ∀ q : Nat, s.heap.size ≤ q → A q := fun q h => by rw [← hAe]; exact Or.inr h
  have hS : va_S A s.heap s.heap [] := va_S.rf
  have hP : va_P (dC, dI) vwCl [(hp, .inr (0, [.int pw, .int ph, .ref hw, .ref hs, .int psr])), (hw, .inl (kW, 4096, .inr (.inl fw))), (hs, .inl (kS, 263169, .inl fs))] s.heap := hP
  have hl := lv_entry ([.ref hp]) (n := 2) (Nat.le_of_ble_eq_true rfl)
  rw [lg_entry_eq]
  generalize (lg_sl ([.ref hp]) ++ List.replicate (2 - (lg_sl ([.ref hp])).length) Slot.unset).toArray = ls at hl ⊢
  have hl : lv_has ls 2 [(0, .ref hp)] := hl
  refine lv_aload_n hx hb d_Paper_addUp_0 rfl (lv_at hl 0 rfl) ?_
  refine va_get (D := (dC, dI)) (ci := 0) (v := .int psr) (C := R_Paper) (T := T_Paper) (N := 5) hx hb hts i_Paper hown hK hP 0 rfl rfl 4 (by decide) (hts _ wd_45) (fun _ h9 => h9) rfl d_Paper_addUp_1 ?_
  refine lv_iconst (v := 0) hx hb d_Paper_addUp_4 (by decide) ?_
  refine va_mmax hx hb (by rw [hml]; exact hl.1.symm) hown (hts _ wd_147) (hts _ wd_148) (hts _ wd_11) (hts _ wd_149) (Nat.le_of_ble_eq_true rfl) (Nat.le_of_ble_eq_true rfl) (Nat.le_of_ble_eq_true rfl) (Nat.le_of_ble_eq_true rfl) d_Paper_addUp_5 ?_
  refine lv_topi (fun v5 e5 => ?_)
  have h5 : v5.toInt = max SR 0 := by rw [e5]; exact ti_max hsr (ti_k (by decide))
  refine lv_istore_n (lv' := [(1, .int v5), (0, .ref hp)]) hx hb d_Paper_addUp_8 rfl hl (by decide) rfl (fun ls hl => ?_)
  refine w_loop (I := fun n H' locs' g' => ∃ (yy : Int32) (zyy : Int) (fc : Nat → Int32) (ls : Array Slot), g' = F0 m 9 ls [] ∧ lv_has ls 2 [(0, .ref hp), (1, .int yy)] ∧ n = (Ht - zyy).toNat ∧ yy.toInt = zyy ∧ (0 ≤ zyy ∧ zyy ≤ Ht) ∧ (sK fc D Wd zyy) ∧ (fst0 fc) ∧ va_P (dC, dI) vwCl [(hp, .inr (0, [.int pw, .int ph, .ref hw, .ref hs, .int psr])), (hw, .inl (kW, 4096, .inr (.inl fw))), (hs, .inl (kS, 263169, .inl fc))] H' ∧ va_D A [(hp, .inr (0, [.int pw, .int ph, .ref hw, .ref hs, .int psr])), (hw, .inl (kW, 4096, .inr (.inl fw))), (hs, .inl (kS, 263169, .inl fc))] ∧ va_S A s.heap H' locs') ?_ ⟨v5, (max SR 0), fs, ls, rfl, lv_sub hl [1, 0] rfl, rfl, h5, by omega, by
      have e0 : max SR 0 = SR := by omega
      rw [e0]; exact hsk, hf0, hP, hD, hS⟩
  intro n9 H9 locs g' hI ih9
  obtain ⟨yy, zyy, fc, ls, rfl, hl, hn, hyy, i1, i2, i4, hP, hD, hS⟩ := hI
  refine lv_iload_n hx hb d_Paper_addUp_9 rfl (lv_at hl 1 rfl) ?_
  refine lv_aload_n hx hb d_Paper_addUp_10 rfl (lv_at hl 0 rfl) ?_
  refine va_get (D := (dC, dI)) (ci := 0) (v := .int ph) (C := R_Paper) (T := T_Paper) (N := 5) hx hb hts i_Paper hown hK hP 0 rfl rfl 1 (by decide) (hts _ wd_40) (fun _ h9 => h9) rfl d_Paper_addUp_11 ?_
  refine lv_icmp_ge (tgt := 68) hx hb d_Paper_addUp_14 (by decide) (fun c14 => ?_) (fun c14 => ?_)
  · skip
    have c14 : Ht ≤ zyy := (ti_le hph hyy).mp c14
    refine lv_aload_n hx hb d_Paper_addUp_68 rfl (lv_at hl 0 rfl) ?_
    refine lv_aload_n hx hb d_Paper_addUp_69 rfl (lv_at hl 0 rfl) ?_
    refine va_get (D := (dC, dI)) (ci := 0) (v := .int ph) (C := R_Paper) (T := T_Paper) (N := 5) hx hb hts i_Paper hown hK hP 0 rfl rfl 1 (by decide) (hts _ wd_40) (fun _ h9 => h9) rfl d_Paper_addUp_70 ?_
    refine va_put (D := (dC, dI)) (ci := 0) (v := .int ph) (ty := .int) (C := R_Paper) (T := T_Paper) (N := 5) hx hb hts i_Paper t_Paper t_Paper_ok n_Paper hown hK hP hD hS 0 rfl rfl 4 (by decide) (hts _ wd_45) (fun _ h9 => h9) rfl (by decide +kernel) rfl rfl (Nat.le_of_ble_eq_true rfl) d_Paper_addUp_73 (fun H73 locs hP hD hS => ?_)
    have hP : va_P (dC, dI) vwCl [(hp, .inr (0, [.int pw, .int ph, .ref hw, .ref hs, .int ph])), (hw, .inl (kW, 4096, .inr (.inl fw))), (hs, .inl (kS, 263169, .inl fc))] H73 := hP
    have hD : va_D A [(hp, .inr (0, [.int pw, .int ph, .ref hw, .ref hs, .int ph])), (hw, .inl (kW, 4096, .inr (.inl fw))), (hs, .inl (kS, 263169, .inl fc))] := hD
    have hpost : sK fc D Wd Ht ∧ fst0 fc ∧ (ph : Int32).toInt = Ht := by
      have e : zyy = Ht := by omega
      rw [e] at i2
      exact ⟨i2, i4, hph⟩
    have hP9 := hP.sub (ws' := [(hp, .inr (0, [.int pw, .int ph, .ref hw, .ref hs, .int ph])), (hw, .inl (kW, 4096, .inr (.inl fw))), (hs, .inl (kS, 263169, .inl fc))]) [0, 1, 2] rfl
    have hD9 := hD.sub (ws' := [(hp, .inr (0, [.int pw, .int ph, .ref hw, .ref hs, .int ph])), (hw, .inl (kW, 4096, .inr (.inl fw))), (hs, .inl (kS, 263169, .inl fc))]) [0, 1, 2] (by decide) rfl
    have hK9 := hK.sub (tys' := [(kW, .long), (kS, .int)]) [0, 1] rfl
    exact W.vret hx hb hr (fun t ht hW => ⟨⟨(fc, ph), rfl, hpost, by rw [ht]; exact hP9, va_K.moved hW.alike hK9, hD9⟩, hS.F ht⟩) hS.2.2 d_Paper_addUp_76
  · skip
    have c14 : ¬ (Ht ≤ zyy) := fun q => c14 ((ti_le hph hyy).mpr q)
    refine lv_aload_n hx hb d_Paper_addUp_17 rfl (lv_at hl 0 rfl) ?_
    refine lv_iload_n hx hb d_Paper_addUp_18 rfl (lv_at hl 1 rfl) ?_
    have hPc := hP.sub (ws' := [(hp, .inr (0, [.int pw, .int ph, .ref hw, .ref hs, .int psr])), (hw, .inl (kW, 4096, .inr (.inl fw))), (hs, .inl (kS, 263169, .inl fc))]) [0, 1, 2] rfl
    have hKc := hK.sub (tys' := [(kW, .long), (kS, .int)]) [0, 1] rfl
    refine va_calli (va_runV (As := [.int yy]) (rest := []) ⟨hx, hb, hml, hown, hts⟩ (c_isLight l dC dI hp hw hs kW kS pw ph psr fw fc Wd Ht D hpw hph hW1 hW2 hH1 hH2 hbits hsup yy zyy hyy (by omega) (by omega)) (aw_V 1 hts wd_380 wd_382 ws_4 wd_3 wd_383 rfl rfl (by decide +kernel) ⟨Nat.le_of_ble_eq_true rfl, Nat.le_of_ble_eq_true rfl⟩) ⟨ro_blind, va_recv hKc hPc (ci := 0) (q0 := 0) rfl rfl, ro_pre hPc hKc⟩ rfl rfl hl.1 rfl (lv_room (Nat.le_of_ble_eq_true rfl)) d_Paper_addUp_19 ⟨Nat.le_of_ble_eq_true rfl, Nat.le_of_ble_eq_true rfl⟩) hS (fun q _ h => h.elim) (fun q h => h.elim) (fun v19 _ t9 H19 locs ht hvm h19 hB hz1 hk1 hS => ?_)
    have hP := ro_keep hP hk1
    clear hPc hKc ht hvm hB hz1 hk1
    refine lv_if_eq (tgt := 57) hx hb d_Paper_addUp_22 (by decide) (fun c22 => ?_) (fun c22 => ?_)
    · skip
      have c22 : ¬ (∀ x, 0 ≤ x → x < 512 → D x zyy = false) := bi_z h19 c22
      refine lv_aload_n hx hb d_Paper_addUp_57 rfl (lv_at hl 0 rfl) ?_
      refine lv_iload_n hx hb d_Paper_addUp_58 rfl (lv_at hl 1 rfl) ?_
      have hPc := hP.sub (ws' := [(hp, .inr (0, [.int pw, .int ph, .ref hw, .ref hs, .int psr])), (hw, .inl (kW, 4096, .inr (.inl fw))), (hs, .inl (kS, 263169, .inl fc))]) [0, 1, 2] rfl
      have hKc := hK.sub (tys' := [(kW, .long), (kS, .int)]) [0, 1] rfl
      have hDc := hD.sub (ws' := [(hp, .inr (0, [.int pw, .int ph, .ref hw, .ref hs, .int psr])), (hw, .inl (kW, 4096, .inr (.inl fw))), (hs, .inl (kS, 263169, .inl fc))]) [0, 1, 2] (by decide) rfl
      have hFc := va_free (wc := [(hp, .inr (0, [.int pw, .int ph, .ref hw, .ref hs, .int psr])), (hw, .inl (kW, 4096, .inr (.inl fw))), (hs, .inl (kS, 263169, .inl fc))]) hD hS hA [0, 1, 2] rfl
      refine va_callv (va_runV (As := [.int yy]) (rest := []) ⟨hx, hb, hml, hown, hts⟩ (c_addUpRow l dC dI H19.size hp hw hs kW kS pw ph psr fw fc Wd Ht D hpw hph hW1 hW2 hH1 hH2 hbits yy zyy hyy (by omega) (by omega) i2 i4) (aw_V 1 hts wd_387 wd_389 ws_5 wd_3 wd_390 rfl rfl (by decide +kernel) ⟨Nat.le_of_ble_eq_true rfl, Nat.le_of_ble_eq_true rfl⟩) ⟨rw_blind, va_recv hKc hPc (ci := 0) (q0 := 0) rfl rfl, rw_pre hPc hKc hDc⟩ rfl rfl hl.1 rfl (lv_room (Nat.le_of_ble_eq_true rfl)) d_Paper_addUp_59 ⟨Nat.le_of_ble_eq_true rfl, Nat.le_of_ble_eq_true rfl⟩) hS (fun q _ h => hFc q h) hFc (fun u59_fs t9 H59 locs ht hvm h59 hB hz1 hk1 hS => ?_)
      obtain ⟨hP1, _, hD1⟩ := hB
      rw [ht] at hP1
      try dsimp only at h59 hP1 hD1
      obtain ⟨hP, hD⟩ := va_join (wr := []) (w1 := [(hp, .inr (0, [.int pw, .int ph, .ref hw, .ref hs, .int psr])), (hw, .inl (kW, 4096, .inr (.inl fw))), (hs, .inl (kS, 263169, .inl u59_fs))]) hP hD [0, 1, 2] [] rfl rfl (by decide) (by decide) hk1 hFc hP1 hD1
      have hP := hP.sub (ws' := [(hp, .inr (0, [.int pw, .int ph, .ref hw, .ref hs, .int psr])), (hw, .inl (kW, 4096, .inr (.inl fw))), (hs, .inl (kS, 263169, .inl u59_fs))]) [0, 1, 2] rfl
      have hD := hD.sub (ws' := [(hp, .inr (0, [.int pw, .int ph, .ref hw, .ref hs, .int psr])), (hw, .inl (kW, 4096, .inr (.inl fw))), (hs, .inl (kS, 263169, .inl u59_fs))]) [0, 1, 2] (by decide) rfl
      clear hPc hKc hDc hFc ht hvm hz1 hk1 hP1 hD1
      obtain ⟨v62, e62⟩ : ∃ y : Int32, y = yy + 1 := ⟨_, rfl⟩
      have h62 : v62.toInt = zyy + 1 := by rw [e62]; exact ti_add hyy (ti_k (by decide)) (by omega) (by omega)
      refine lv_iinc (v := v62) (lv' := [(1, .int v62), (0, .ref hp)]) hx hb d_Paper_addUp_62 hl (k := 1) rfl (by rw [e62]; rfl) (by decide) rfl (fun ls hl => ?_)
      refine lv_goto (tgt := 9) hx hb d_Paper_addUp_65 (by decide) ?_
      exact ih9 _ (by omega) _ _ _ ⟨v62, (zyy + 1), u59_fs, ls, rfl, lv_sub hl [1, 0] rfl, rfl, h62, by omega, by first | exact r51.1 | exact h59.1, by first | exact r51.2 | exact h59.2, hP, hD, hS⟩
    · skip
      have c22 : ∀ x, 0 ≤ x → x < 512 → D x zyy = false := bi_nz h19 c22
      refine lv_aload_n hx hb d_Paper_addUp_25 rfl (lv_at hl 0 rfl) ?_
      refine va_get (D := (dC, dI)) (ci := 0) (v := .ref hs) (C := R_Paper) (T := T_Paper) (N := 5) hx hb hts i_Paper hown hK hP 0 rfl rfl 3 (by decide) (hts _ wd_44) (fun _ h9 => h9) rfl d_Paper_addUp_26 ?_
      refine lv_iload_n hx hb d_Paper_addUp_29 rfl (lv_at hl 1 rfl) ?_
      refine lv_sipush (v := 513) hx hb d_Paper_addUp_30 (by decide) ?_
      refine lv_imul hx hb d_Paper_addUp_33 ?_
      refine lv_topi (fun v33 e33 => ?_)
      have h33 : v33.toInt = zyy * 513 := by rw [e33]; exact ti_mul hyy (ti_k (by decide)) (by omega) (by omega)
      refine lv_aload_n hx hb d_Paper_addUp_34 rfl (lv_at hl 0 rfl) ?_
      refine va_get (D := (dC, dI)) (ci := 0) (v := .ref hs) (C := R_Paper) (T := T_Paper) (N := 5) hx hb hts i_Paper hown hK hP 0 rfl rfl 3 (by decide) (hts _ wd_44) (fun _ h9 => h9) rfl d_Paper_addUp_35 ?_
      refine lv_iload_n hx hb d_Paper_addUp_38 rfl (lv_at hl 1 rfl) ?_
      refine lv_iconst (v := 1) hx hb d_Paper_addUp_39 (by decide) ?_
      refine lv_iadd hx hb d_Paper_addUp_40 ?_
      refine lv_topi (fun v40 e40 => ?_)
      have h40 : v40.toInt = zyy + 1 := by rw [e40]; exact ti_add hyy (ti_k (by decide)) (by omega) (by omega)
      refine lv_sipush (v := 513) hx hb d_Paper_addUp_41 (by decide) ?_
      refine lv_imul hx hb d_Paper_addUp_44 ?_
      refine lv_topi (fun v44 e44 => ?_)
      have h44 : v44.toInt = (zyy + 1) * 513 := by rw [e44]; exact ti_mul h40 (ti_k (by decide)) (by omega) (by omega)
      refine lv_aload_n hx hb d_Paper_addUp_45 rfl (lv_at hl 0 rfl) ?_
      refine va_get (D := (dC, dI)) (ci := 0) (v := .int pw) (C := R_Paper) (T := T_Paper) (N := 5) hx hb hts i_Paper hown hK hP 0 rfl rfl 0 (by decide) (hts _ wd_37) (fun _ h9 => h9) rfl d_Paper_addUp_46 ?_
      refine lv_iconst (v := 1) hx hb d_Paper_addUp_49 (by decide) ?_
      refine lv_iadd hx hb d_Paper_addUp_50 ?_
      refine lv_topi (fun v50 e50 => ?_)
      have h50 : v50.toInt = Wd + 1 := by rw [e50]; exact ti_add hpw (ti_k (by decide)) (by omega) (by omega)
      refine va_copyi hx hb (by rw [hml]; exact hl.1.symm) hown (hts _ wd_384) (hts _ wd_386) (hts _ wd_385) (hts _ wd_14) hK hP hD hS 2 2 1 1 rfl rfl rfl rfl rfl (fun q => by have := (ti_lt h33 (ti_k (z := 0) (by decide))).mp q; omega) (fun q => by have := (ti_lt h44 (ti_k (z := 0) (by decide))).mp q; omega) (fun q => by have := (ti_lt h50 (ti_k (z := 0) (by decide))).mp q; omega) (by rw [vi_cl h33, vi_cl h50]; omega) (by rw [vi_cl h44, vi_cl h50]; omega) (fun _ _ => rfl) (Nat.le_of_ble_eq_true rfl) (Nat.le_of_ble_eq_true rfl) d_Paper_addUp_51 (fun H51 locs hP hD hS => ?_)
      obtain ⟨f51, ef51⟩ : ∃ g, g = va_cpy fc fc (v33).toNatClampNeg (v44).toNatClampNeg (v50).toNatClampNeg := ⟨_, rfl⟩
      have hP : va_P (dC, dI) vwCl [(hp, .inr (0, [.int pw, .int ph, .ref hw, .ref hs, .int psr])), (hw, .inl (kW, 4096, .inr (.inl fw))), (hs, .inl (kS, 263169, .inl f51))] H51 := by rw [ef51]; exact hP
      have hD : va_D A [(hp, .inr (0, [.int pw, .int ph, .ref hw, .ref hs, .int psr])), (hw, .inl (kW, 4096, .inr (.inl fw))), (hs, .inl (kS, 263169, .inl f51))] := by rw [ef51]; exact hD
      rw [vi_cl h33, vi_cl h44, vi_cl h50] at ef51
      have r51 := row_copy (g := f51) i2 i4 (by omega) (by omega) (by omega) (by omega) c22 (fun i => by rw [ef51]; rfl)
      refine lv_goto (tgt := 62) hx hb d_Paper_addUp_54 (by decide) ?_
      obtain ⟨v62, e62⟩ : ∃ y : Int32, y = yy + 1 := ⟨_, rfl⟩
      have h62 : v62.toInt = zyy + 1 := by rw [e62]; exact ti_add hyy (ti_k (by decide)) (by omega) (by omega)
      refine lv_iinc (v := v62) (lv' := [(1, .int v62), (0, .ref hp)]) hx hb d_Paper_addUp_62 hl (k := 1) rfl (by rw [e62]; rfl) (by decide) rfl (fun ls hl => ?_)
      refine lv_goto (tgt := 9) hx hb d_Paper_addUp_65 (by decide) ?_
      exact ih9 _ (by omega) _ _ _ ⟨v62, (zyy + 1), f51, ls, rfl, lv_sub hl [1, 0] rfl, rfl, h62, by omega, by first | exact r51.1 | exact h59.1, by first | exact r51.2 | exact h59.2, hP, hD, hS⟩
