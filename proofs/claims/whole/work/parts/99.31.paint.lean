set_option maxHeartbeats 4000000 in
set_option maxRecDepth 100000 in
theorem c_paint (l : Launch) (dC : Nat → ClassId) (dI : Nat → Nat → Nat) (sz : Nat) (hp hw hs : Nat) (kW kS : ClassId) (pw ph psr : Int32) (fw : Nat → Int64) (fs : Nat → Int32) (Wd Ht : Int) (D : Int → Int → Bool) (hpw : pw.toInt = Wd) (hph : ph.toInt = Ht) (hW1 : 1 ≤ Wd) (hW2 : Wd ≤ 512) (hH1 : 1 ≤ Ht) (hH2 : Ht ≤ 512) (hbits : bOK fw D) (hsup : ∀ x y, D x y = true → 0 ≤ x ∧ x < Wd ∧ 0 ≤ y ∧ y < Ht) (SR : Int) (hsr : psr.toInt = SR) (hsr0 : 0 ≤ SR) (hsr1 : SR ≤ Ht) (hsk : sK fs D Wd SR) (a1 a2 a3 a4 a5 : Int32) (x y w h : Int) (ib : Bool) (g1 : a1.toInt = x) (g2 : a2.toInt = y) (g3 : a3.toInt = w) (g4 : a4.toInt = h) (g5 : a5 = zb ib) (w1 : 1 ≤ w) (w2 : w ≤ 512) (h1 : 1 ≤ h) (h2 : h ≤ 512) : Met l y_Paper_paint (.code y_Paper_paint b_Paper_paint 15 (some .int) :: allw) ({ frames := 2, cells := 0, slots := 0, locals := 50 }) (va_Pc [.ref hp, .int a1, .int a2, .int a3, .int a4, .int a5] (rw_B (dC, dI) vwCl [(hp, .inr (0, [.int pw, .int ph, .ref hw, .ref hs, .int psr])), (hw, .inl (kW, 4096, .inr (.inl fw))), (hs, .inl (kS, 263169, .inl fs))] [(kW, .long), (kS, .int)] sz)) (va_Qi (fun (r : Int32) (u : (Nat → Int64) × Int32) => r.toInt = cI (fiN D x y w h ib) 0 0 Wd Ht ∧ bOK u.1 (pF D (fiE D x y w h ib) 0 0 Wd Ht 0) ∧ 0 ≤ (u.2 : Int32).toInt ∧ (u.2 : Int32).toInt ≤ SR ∧ sK fs (pF D (fiE D x y w h ib) 0 0 Wd Ht 0) Wd (u.2 : Int32).toInt) (fun u t => rw_E (dC, dI) vwCl [(hp, .inr (0, [.int pw, .int ph, .ref hw, .ref hs, .int u.2])), (hw, .inl (kW, 4096, .inr (.inl u.1))), (hs, .inl (kS, 263169, .inl fs))] [(kW, .long), (kS, .int)] (va_A [(hp, .inr (0, [.int pw, .int ph, .ref hw, .ref hs, .int psr])), (hw, .inl (kW, 4096, .inr (.inl fw))), (hs, .inl (kS, 263169, .inl fs))] sz) t) (va_A [(hp, .inr (0, [.int pw, .int ph, .ref hw, .ref hs, .int psr])), (hw, .inl (kW, 4096, .inr (.inl fw))), (hs, .inl (kS, 263169, .inl fs))] sz)) 0 0 (va_A [(hp, .inr (0, [.int pw, .int ph, .ref hw, .ref hs, .int psr])), (hw, .inl (kW, 4096, .inr (.inl fw))), (hs, .inl (kS, 263169, .inl fs))] sz) := by
  refine Met.ofW (cc := b_Paper_paint) (maxL := 15) (ret := (some .int)) (by decide) rfl ?_
  intro p e s m args below meth c s₁ B hml hv
  obtain ⟨rfl, hsz, hP, hK, hD0⟩ := hv
  have hx := B.exec
  have hb := B.bytes
  have hr := B.returns
  have hts : ∀ w ∈ allw, w.before _ s = true := fun w h => atoms_spec (ws := .code y_Paper_paint b_Paper_paint 15 (some .int) :: allw) B.pre w (List.mem_cons_of_mem _ h)
  have hown : s.vm.findClass R_Paper = some m.cls := findClass_of_methodNamed B.named
  have hlocks := B.notSynchronized
  subst hsz
  have hD := hD0.self (sz := s.heap.size)
  generalize hAe : va_A [(hp, .inr (0, [.int pw, .int ph, .ref hw, .ref hs, .int psr])), (hw, .inl (kW, 4096, .inr (.inl fw))), (hs, .inl (kS, 263169, .inl fs))] s.heap.size = A at hD ⊢
  have hA : ∀ q : Nat, s.heap.size ≤ q → A q := fun q h => by rw [← hAe]; exact Or.inr h
  have hS : va_S A s.heap s.heap [] := va_S.rf
  have hP : va_P (dC, dI) vwCl [(hp, .inr (0, [.int pw, .int ph, .ref hw, .ref hs, .int psr])), (hw, .inl (kW, 4096, .inr (.inl fw))), (hs, .inl (kS, 263169, .inl fs))] s.heap := hP
  have hl := lv_entry ([.ref hp, .int a1, .int a2, .int a3, .int a4, .int a5]) (n := 15) (Nat.le_of_ble_eq_true rfl)
  rw [lg_entry_eq]
  generalize (lg_sl ([.ref hp, .int a1, .int a2, .int a3, .int a4, .int a5]) ++ List.replicate (15 - (lg_sl ([.ref hp, .int a1, .int a2, .int a3, .int a4, .int a5])).length) Slot.unset).toArray = ls at hl ⊢
  have hl : lv_has ls 15 [(0, .ref hp), (1, .int a1), (2, .int a2), (3, .int a3), (4, .int a4), (5, .int a5)] := hl
  have q1 := ti_rng a1
  have q2 := ti_rng a2
  refine lv_iload_n hx hb d_Paper_paint_0 rfl (lv_at hl 1 rfl) ?_
  refine lv_iconst (v := 0) hx hb d_Paper_paint_1 (by decide) ?_
  refine va_mmax hx hb (by rw [hml]; exact hl.1.symm) hown (hts _ wd_147) (hts _ wd_148) (hts _ wd_11) (hts _ wd_149) (Nat.le_of_ble_eq_true rfl) (Nat.le_of_ble_eq_true rfl) (Nat.le_of_ble_eq_true rfl) (Nat.le_of_ble_eq_true rfl) d_Paper_paint_2 ?_
  refine lv_topi (fun v2 e2 => ?_)
  have h2 : v2.toInt = max x 0 := by rw [e2]; exact ti_max g1 (ti_k (by decide))
  obtain ⟨LFT, kLFT⟩ : ∃ c : Int, c = (max x 0) := ⟨_, rfl⟩
  have h2 : v2.toInt = LFT := by rw [h2, kLFT]
  refine lv_istore (lv' := [(6, .int v2), (0, .ref hp), (1, .int a1), (2, .int a2), (3, .int a3), (4, .int a4), (5, .int a5)]) hx hb d_Paper_paint_5 hl (by decide) rfl (fun ls hl => ?_)
  refine lv_iload_n hx hb d_Paper_paint_7 rfl (lv_at hl 3 rfl) ?_
  refine lv_iconst (v := 0) hx hb d_Paper_paint_8 (by decide) ?_
  refine va_mmax hx hb (by rw [hml]; exact hl.1.symm) hown (hts _ wd_147) (hts _ wd_148) (hts _ wd_11) (hts _ wd_149) (Nat.le_of_ble_eq_true rfl) (Nat.le_of_ble_eq_true rfl) (Nat.le_of_ble_eq_true rfl) (Nat.le_of_ble_eq_true rfl) d_Paper_paint_9 ?_
  refine lv_topi (fun v9 e9 => ?_)
  have h9 : v9.toInt = max y 0 := by rw [e9]; exact ti_max g2 (ti_k (by decide))
  obtain ⟨TOP, kTOP⟩ : ∃ c : Int, c = (max y 0) := ⟨_, rfl⟩
  have h9 : v9.toInt = TOP := by rw [h9, kTOP]
  refine lv_istore (lv' := [(7, .int v9), (6, .int v2), (0, .ref hp), (1, .int a1), (2, .int a2), (3, .int a3), (4, .int a4), (5, .int a5)]) hx hb d_Paper_paint_12 hl (by decide) rfl (fun ls hl => ?_)
  refine lv_iload_n hx hb d_Paper_paint_14 rfl (lv_at hl 3 rfl) ?_
  refine lv_i2l hx hb d_Paper_paint_15 rfl ?_
  refine lv_topl (fun v15 e15 => ?_)
  have h15 : v15.toInt = x := by rw [e15]; exact tl_i2l g1
  refine lv_iload_n hx hb d_Paper_paint_16 rfl (lv_at hl 5 rfl) ?_
  refine lv_i2l hx hb d_Paper_paint_17 rfl ?_
  refine lv_topl (fun v17 e17 => ?_)
  have h17 : v17.toInt = w := by rw [e17]; exact tl_i2l g3
  refine lv_ladd hx hb d_Paper_paint_18 ?_
  refine lv_topl (fun v18 e18 => ?_)
  have h18 : v18.toInt = x + w := by rw [e18]; exact tl_add h15 h17 (by omega) (by omega)
  refine lv_aload_n hx hb d_Paper_paint_19 rfl (lv_at hl 2 rfl) ?_
  refine va_get (D := (dC, dI)) (ci := 0) (v := .int pw) (C := R_Paper) (T := T_Paper) (N := 5) hx hb hts i_Paper hown hK hP 0 rfl rfl 0 (by decide) (hts _ wd_37) (fun _ h9 => h9) rfl d_Paper_paint_20 ?_
  refine lv_i2l hx hb d_Paper_paint_23 rfl ?_
  refine lv_topl (fun v23 e23 => ?_)
  have h23 : v23.toInt = Wd := by rw [e23]; exact tl_i2l hpw
  refine va_mmin_long hx hb (by rw [hml]; exact hl.1.symm) hown (hts _ wd_272) (hts _ wd_273) (hts _ wd_11) (hts _ wd_274) (Nat.le_of_ble_eq_true rfl) (Nat.le_of_ble_eq_true rfl) (Nat.le_of_ble_eq_true rfl) (Nat.le_of_ble_eq_true rfl) d_Paper_paint_24 ?_
  refine lv_topl (fun v24 e24 => ?_)
  have h24 : v24.toInt = min (x + w) Wd := by rw [e24]; exact tl_min h18 h23
  refine lv_l2i hx hb d_Paper_paint_27 rfl ?_
  refine lv_topi (fun v27 e27 => ?_)
  have h27 : v27.toInt = (min (x + w) Wd) := by rw [e27]; exact tl_l2i h24 (by omega) (by omega)
  obtain ⟨RGT, kRGT⟩ : ∃ c : Int, c = (min (x + w) Wd) := ⟨_, rfl⟩
  have h27 : v27.toInt = RGT := by rw [h27, kRGT]
  refine lv_istore (lv' := [(8, .int v27), (7, .int v9), (6, .int v2), (0, .ref hp), (1, .int a1), (2, .int a2), (3, .int a3), (4, .int a4), (5, .int a5)]) hx hb d_Paper_paint_28 hl (by decide) rfl (fun ls hl => ?_)
  refine lv_iload_n hx hb d_Paper_paint_30 rfl (lv_at hl 5 rfl) ?_
  refine lv_i2l hx hb d_Paper_paint_31 rfl ?_
  refine lv_topl (fun v31 e31 => ?_)
  have h31 : v31.toInt = y := by rw [e31]; exact tl_i2l g2
  refine lv_iload hx hb d_Paper_paint_32 (lv_at hl 7 rfl) ?_
  refine lv_i2l hx hb d_Paper_paint_34 rfl ?_
  refine lv_topl (fun v34 e34 => ?_)
  have h34 : v34.toInt = h := by rw [e34]; exact tl_i2l g4
  refine lv_ladd hx hb d_Paper_paint_35 ?_
  refine lv_topl (fun v35 e35 => ?_)
  have h35 : v35.toInt = y + h := by rw [e35]; exact tl_add h31 h34 (by omega) (by omega)
  refine lv_aload_n hx hb d_Paper_paint_36 rfl (lv_at hl 3 rfl) ?_
  refine va_get (D := (dC, dI)) (ci := 0) (v := .int ph) (C := R_Paper) (T := T_Paper) (N := 5) hx hb hts i_Paper hown hK hP 0 rfl rfl 1 (by decide) (hts _ wd_40) (fun _ h9 => h9) rfl d_Paper_paint_37 ?_
  refine lv_i2l hx hb d_Paper_paint_40 rfl ?_
  refine lv_topl (fun v40 e40 => ?_)
  have h40 : v40.toInt = Ht := by rw [e40]; exact tl_i2l hph
  refine va_mmin_long hx hb (by rw [hml]; exact hl.1.symm) hown (hts _ wd_272) (hts _ wd_273) (hts _ wd_11) (hts _ wd_274) (Nat.le_of_ble_eq_true rfl) (Nat.le_of_ble_eq_true rfl) (Nat.le_of_ble_eq_true rfl) (Nat.le_of_ble_eq_true rfl) d_Paper_paint_41 ?_
  refine lv_topl (fun v41 e41 => ?_)
  have h41 : v41.toInt = min (y + h) Ht := by rw [e41]; exact tl_min h35 h40
  refine lv_l2i hx hb d_Paper_paint_44 rfl ?_
  refine lv_topi (fun v44 e44 => ?_)
  have h44 : v44.toInt = (min (y + h) Ht) := by rw [e44]; exact tl_l2i h41 (by omega) (by omega)
  obtain ⟨BOT, kBOT⟩ : ∃ c : Int, c = (min (y + h) Ht) := ⟨_, rfl⟩
  have h44 : v44.toInt = BOT := by rw [h44, kBOT]
  refine lv_istore (lv' := [(9, .int v44), (8, .int v27), (7, .int v9), (6, .int v2), (0, .ref hp), (1, .int a1), (2, .int a2), (3, .int a3), (4, .int a4), (5, .int a5)]) hx hb d_Paper_paint_45 hl (by decide) rfl (fun ls hl => ?_)
  refine lv_iconst (v := 0) hx hb d_Paper_paint_47 (by decide) ?_
  refine lv_istore (lv' := [(10, .int 0), (9, .int v44), (8, .int v27), (7, .int v9), (6, .int v2), (0, .ref hp), (1, .int a1), (2, .int a2), (3, .int a3), (4, .int a4), (5, .int a5)]) hx hb d_Paper_paint_48 hl (by decide) rfl (fun ls hl => ?_)
  obtain ⟨MM, kMM⟩ : ∃ c : Int, c = max (RGT - LFT) 0 := ⟨_, rfl⟩
  obtain ⟨BB, kBB⟩ : ∃ c : Int, c = max BOT TOP := ⟨_, rfl⟩
  refine lv_iload hx hb d_Paper_paint_50 (lv_at hl 3 rfl) ?_
  refine lv_istore (lv' := [(11, .int v9), (10, .int 0), (9, .int v44), (8, .int v27), (7, .int v9), (6, .int v2), (0, .ref hp), (1, .int a1), (2, .int a2), (3, .int a3), (4, .int a4), (5, .int a5)]) hx hb d_Paper_paint_52 hl (by decide) rfl (fun ls hl => ?_)
  refine w_loop (I := fun n H' locs' g' => ∃ (nn : Int32) (znn : Int) (rr : Int32) (zrr : Int) (fc : Nat → Int64) (sc : Int32) (zsc : Int) (ls : Array Slot), g' = F0 m 54 ls [] ∧ lv_has ls 15 [(0, .ref hp), (1, .int a1), (2, .int a2), (3, .int a3), (4, .int a4), (5, .int a5), (6, .int v2), (7, .int v9), (8, .int v27), (9, .int v44), (10, .int nn), (11, .int rr)] ∧ n = (BB - zrr).toNat ∧ nn.toInt = znn ∧ rr.toInt = zrr ∧ (TOP ≤ zrr ∧ (zrr ≤ BB)) ∧ (bOK fc (pF D (cst ib) LFT TOP MM zrr LFT)) ∧ (znn = cI (neB D ib) LFT TOP MM (zrr - TOP)) ∧ (sc.toInt = zsc) ∧ (0 ≤ zsc ∧ zsc ≤ SR) ∧ (sK fs (pF D (cst ib) LFT TOP MM zrr LFT) Wd zsc) ∧ va_P (dC, dI) vwCl [(hp, .inr (0, [.int pw, .int ph, .ref hw, .ref hs, .int sc])), (hw, .inl (kW, 4096, .inr (.inl fc))), (hs, .inl (kS, 263169, .inl fs))] H' ∧ va_D A [(hp, .inr (0, [.int pw, .int ph, .ref hw, .ref hs, .int sc])), (hw, .inl (kW, 4096, .inr (.inl fc))), (hs, .inl (kS, 263169, .inl fs))] ∧ va_S A s.heap H' locs') ?_ ⟨0, 0, v9, TOP, fw, psr, SR, ls, rfl, lv_sub hl [6, 7, 8, 9, 10, 11, 5, 4, 3, 2, 1, 0] rfl, rfl, (ti_k (by decide)), h9, by omega, by rw [pf_0]; exact hbits, (cI_0h (neB D ib) LFT TOP MM (by omega)).symm, hsr, by omega, by rw [pf_0]; exact hsk, hP, hD, hS⟩
  intro n54 H54 locs g' hI ih54
  obtain ⟨nn, znn, rr, zrr, fc, sc, zsc, ls, rfl, hl, hn, hnn, hrr, i1, i2, i3, hsc, i4, i5, hP, hD, hS⟩ := hI
  have bn := cI_nn (neB D ib) LFT TOP MM (zrr - TOP)
  have bm := cI_le (neB D ib) LFT TOP (w := MM) (h := zrr - TOP) (by omega) (by omega)
  have bq := mul_b2 (a := MM) (b := zrr - TOP) (p := 512) (q := 512) (by omega) (by omega) (by omega) (by omega)
  refine lv_iload hx hb d_Paper_paint_54 (lv_at hl 11 rfl) ?_
  refine lv_iload hx hb d_Paper_paint_56 (lv_at hl 9 rfl) ?_
  refine lv_icmp_ge (tgt := 132) hx hb d_Paper_paint_58 (by decide) (fun c58 => ?_) (fun c58 => ?_)
  · skip
    have c58 : BOT ≤ zrr := (ti_le h44 hrr).mp c58
    refine lv_iload hx hb d_Paper_paint_132 (lv_at hl 10 rfl) ?_
    have hpost : (nn : Int32).toInt = cI (fiN D x y w h ib) 0 0 Wd Ht ∧ bOK fc (pF D (fiE D x y w h ib) 0 0 Wd Ht 0) ∧ 0 ≤ (sc : Int32).toInt ∧ (sc : Int32).toInt ≤ SR ∧ sK fs (pF D (fiE D x y w h ib) 0 0 Wd Ht 0) Wd (sc : Int32).toInt := by
      have e : zrr = BB := by omega
      rw [e] at i2 i3 i5
      have pr := pt_ref (D := D) (W := Wd) (H := Ht) (v := ib) hW1 hH1 w1 h1 kLFT kTOP kRGT kBOT kMM kBB
      rw [pr.1] at i2 i5
      rw [pr.2] at i3
      exact ⟨by rw [hnn, i3], i2, by omega, by omega, by rw [hsc]; exact i5⟩
    have hP9 := hP.sub (ws' := [(hp, .inr (0, [.int pw, .int ph, .ref hw, .ref hs, .int sc])), (hw, .inl (kW, 4096, .inr (.inl fc))), (hs, .inl (kS, 263169, .inl fs))]) [0, 1, 2] rfl
    have hD9 := hD.sub (ws' := [(hp, .inr (0, [.int pw, .int ph, .ref hw, .ref hs, .int sc])), (hw, .inl (kW, 4096, .inr (.inl fc))), (hs, .inl (kS, 263169, .inl fs))]) [0, 1, 2] (by decide) rfl
    have hK9 := hK.sub (tys' := [(kW, .long), (kS, .int)]) [0, 1] rfl
    exact W.iret (v := nn) hx hb hr (fun t ht hW => ⟨⟨nn, (fc, sc), rfl, hpost, by rw [ht]; exact hP9, va_K.moved hW.alike hK9, hD9⟩, hS.F ht⟩) hS.2.2 d_Paper_paint_134
  · skip
    have c58 : ¬ (BOT ≤ zrr) := fun q => c58 ((ti_le h44 hrr).mpr q)
    refine lv_iload hx hb d_Paper_paint_61 (lv_at hl 6 rfl) ?_
    refine lv_istore (lv' := [(12, .int v2), (0, .ref hp), (1, .int a1), (2, .int a2), (3, .int a3), (4, .int a4), (5, .int a5), (6, .int v2), (7, .int v9), (8, .int v27), (9, .int v44), (10, .int nn), (11, .int rr)]) hx hb d_Paper_paint_63 hl (by decide) rfl (fun ls hl => ?_)
    refine w_loop (I := fun n H' locs' g' => ∃ (kn : Int32) (zkn : Int) (px : Int32) (zpx : Int) (fe : Nat → Int64) (sd : Int32) (zsd : Int) (ls : Array Slot), g' = F0 m 65 ls [] ∧ lv_has ls 15 [(0, .ref hp), (1, .int a1), (2, .int a2), (3, .int a3), (4, .int a4), (5, .int a5), (6, .int v2), (7, .int v9), (8, .int v27), (9, .int v44), (10, .int kn), (11, .int rr), (12, .int px)] ∧ n = (LFT + MM - zpx).toNat ∧ kn.toInt = zkn ∧ px.toInt = zpx ∧ (LFT ≤ zpx ∧ zpx ≤ LFT + MM + 63) ∧ (bOK fe (pF D (cst ib) LFT TOP MM zrr (min zpx (LFT + MM)))) ∧ (zkn = cI (neB D ib) LFT TOP MM (zrr - TOP) + rc (neB D ib) LFT zrr ((min zpx (LFT + MM)) - LFT).toNat) ∧ (sd.toInt = zsd) ∧ (0 ≤ zsd ∧ zsd ≤ SR) ∧ (sK fs (pF D (cst ib) LFT TOP MM zrr (min zpx (LFT + MM))) Wd zsd) ∧ va_P (dC, dI) vwCl [(hp, .inr (0, [.int pw, .int ph, .ref hw, .ref hs, .int sd])), (hw, .inl (kW, 4096, .inr (.inl fe))), (hs, .inl (kS, 263169, .inl fs))] H' ∧ va_D A [(hp, .inr (0, [.int pw, .int ph, .ref hw, .ref hs, .int sd])), (hw, .inl (kW, 4096, .inr (.inl fe))), (hs, .inl (kS, 263169, .inl fs))] ∧ va_S A s.heap H' locs') ?_ ⟨nn, znn, v2, LFT, fc, sc, zsc, ls, rfl, lv_sub hl [1, 2, 3, 4, 5, 6, 7, 8, 9, 10, 11, 12, 0] rfl, rfl, hnn, h2, by omega, by
        have e0 : min LFT (LFT + MM) = LFT := by omega
        rw [e0]; exact i2, by
        have e0 : min LFT (LFT + MM) = LFT := by omega
        rw [e0, rc_0, Int.add_zero]; exact i3, hsc, i4, by
        have e0 : min LFT (LFT + MM) = LFT := by omega
        rw [e0]; exact i5, hP, hD, hS⟩
    intro n65 H65 locs g' hI ih65
    obtain ⟨kn, zkn, px, zpx, fe, sd, zsd, ls, rfl, hl, hn, hkn, hpx, j1, j2, j3, hsd, j4, j5, hP, hD, hS⟩ := hI
    have rn := rc_nn (neB D ib) LFT zrr ((min zpx (LFT + MM)) - LFT).toNat
    have rm := rc_le (neB D ib) LFT zrr ((min zpx (LFT + MM)) - LFT).toNat
    refine lv_iload hx hb d_Paper_paint_65 (lv_at hl 12 rfl) ?_
    refine lv_iload hx hb d_Paper_paint_67 (lv_at hl 8 rfl) ?_
    refine lv_icmp_ge (tgt := 126) hx hb d_Paper_paint_69 (by decide) (fun c69 => ?_) (fun c69 => ?_)
    · skip
      have c69 : RGT ≤ zpx := (ti_le h27 hpx).mp c69
      obtain ⟨v126, e126⟩ : ∃ y : Int32, y = rr + 1 := ⟨_, rfl⟩
      have h126 : v126.toInt = zrr + 1 := by rw [e126]; exact ti_add hrr (ti_k (by decide)) (by omega) (by omega)
      refine lv_iinc (v := v126) (lv' := [(11, .int v126), (0, .ref hp), (1, .int a1), (2, .int a2), (3, .int a3), (4, .int a4), (5, .int a5), (6, .int v2), (7, .int v9), (8, .int v27), (9, .int v44), (10, .int kn), (12, .int px)]) hx hb d_Paper_paint_126 hl (k := 11) rfl (by rw [e126]; rfl) (by decide) rfl (fun ls hl => ?_)
      refine lv_goto (tgt := 54) hx hb d_Paper_paint_129 (by decide) ?_
      have ex : (min zpx (LFT + MM)) = LFT + MM := by omega
      rw [ex] at j2 j3 j5
      exact ih54 _ (by omega) _ _ _ ⟨kn, zkn, v126, (zrr + 1), fe, sd, zsd, ls, rfl, lv_sub hl [1, 2, 3, 4, 5, 6, 7, 8, 9, 10, 11, 0] rfl, rfl, hkn, h126, by omega, by rw [← pf_row (by omega)]; exact j2, by rw [cIn_row (by omega) (by omega)]; exact j3, hsd, j4, by rw [← pf_row (by omega)]; exact j5, hP, hD, hS⟩
    · skip
      have c69 : ¬ (RGT ≤ zpx) := fun q => c69 ((ti_le h27 hpx).mpr q)
      have emn : (min zpx (LFT + MM)) = zpx := by omega
      rw [emn] at j2 j3 j5 rn rm
      have j6 : bOK fe (pF D (cst ib) LFT TOP MM zrr zpx) := j2
      have j7 := pc_sup (v := ib) (lf := LFT) (tp := TOP) (mm := MM) (row := zrr) (px := zpx) hsup (by omega) (by omega) (by omega) (by omega) (by omega) (by omega)
      have j8 := j5
      refine lv_aload_n hx hb d_Paper_paint_72 rfl (lv_at hl 0 rfl) ?_
      refine lv_iload hx hb d_Paper_paint_73 (lv_at hl 12 rfl) ?_
      refine lv_iload hx hb d_Paper_paint_75 (lv_at hl 11 rfl) ?_
      have hPc := hP.sub (ws' := [(hp, .inr (0, [.int pw, .int ph, .ref hw, .ref hs, .int sd])), (hw, .inl (kW, 4096, .inr (.inl fe))), (hs, .inl (kS, 263169, .inl fs))]) [0, 1, 2] rfl
      have hKc := hK.sub (tys' := [(kW, .long), (kS, .int)]) [0, 1] rfl
      refine va_calll (va_runV (As := [.int px, .int rr]) (rest := []) ⟨hx, hb, hml, hown, hts⟩ (c_bits l dC dI hp hw hs kW kS pw ph sd fe fs Wd Ht (pF D (cst ib) LFT TOP MM zrr zpx) hpw hph hW1 hW2 hH1 hH2 j6 j7 px rr zpx zrr hpx hrr) (aw_V 2 hts wd_275 wd_164 wd_165 wd_3 wd_166 rfl rfl (by decide +kernel) ⟨Nat.le_of_ble_eq_true rfl, Nat.le_of_ble_eq_true rfl⟩) ⟨ro_blind, va_recv hKc hPc (ci := 0) (q0 := 0) rfl rfl, ro_pre hPc hKc⟩ rfl rfl hl.1 rfl (lv_room (Nat.le_of_ble_eq_true rfl)) d_Paper_paint_77 ⟨Nat.le_of_ble_eq_true rfl, Nat.le_of_ble_eq_true rfl⟩) hS (fun q _ h => h.elim) (fun q h => h.elim) (fun v77 _ t9 H77 locs ht hvm h77 hB hz1 hk1 hS => ?_)
      have hP := ro_keep hP hk1
      clear hPc hKc ht hvm hB hz1 hk1
      refine lv_lstore (lv' := [(13, .long v77), (0, .ref hp), (1, .int a1), (2, .int a2), (3, .int a3), (4, .int a4), (5, .int a5), (6, .int v2), (7, .int v9), (8, .int v27), (9, .int v44), (10, .int kn), (11, .int rr), (12, .int px)]) hx hb d_Paper_paint_80 hl (by decide) rfl (fun ls hl => ?_)
      refine lv_iload hx hb d_Paper_paint_82 (lv_at hl 11 rfl) ?_
      refine lv_aload_n hx hb d_Paper_paint_84 rfl (lv_at hl 1 rfl) ?_
      refine lv_iload hx hb d_Paper_paint_85 (lv_at hl 13 rfl) ?_
      refine lv_iload hx hb d_Paper_paint_87 (lv_at hl 12 rfl) ?_
      refine w_cut (I := fun H' locs' g' => ∃ (mk : Int64) (ls : Array Slot), g' = F0 m 105 ls [.long mk, .int rr, .int px, .ref hp, .int kn] ∧ lv_has ls 15 [(0, .ref hp), (1, .int a1), (2, .int a2), (3, .int a3), (4, .int a4), (5, .int a5), (6, .int v2), (7, .int v9), (8, .int v27), (9, .int v44), (10, .int kn), (11, .int rr), (12, .int px), (13, .long v77)] ∧ (∀ i : Nat, i < 64 → lb mk i = (pF D (cst ib) LFT TOP MM zrr zpx (zpx + i) zrr != ib)) ∧ va_P (dC, dI) vwCl [(hp, .inr (0, [.int pw, .int ph, .ref hw, .ref hs, .int sd])), (hw, .inl (kW, 4096, .inr (.inl fe))), (hs, .inl (kS, 263169, .inl fs))] H' ∧ va_D A [(hp, .inr (0, [.int pw, .int ph, .ref hw, .ref hs, .int sd])), (hw, .inl (kW, 4096, .inr (.inl fe))), (hs, .inl (kS, 263169, .inl fs))] ∧ va_S A s.heap H' locs') ?_ ?_
      · skip
        intro H105 locs g' hI
        obtain ⟨mk, ls, rfl, hl, jm, hP, hD, hS⟩ := hI
        refine lv_iload hx hb d_Paper_paint_105 (lv_at hl 8 rfl) ?_
        refine lv_iload hx hb d_Paper_paint_107 (lv_at hl 12 rfl) ?_
        refine lv_isub hx hb d_Paper_paint_109 ?_
        refine lv_topi (fun v109 e109 => ?_)
        have h109 : v109.toInt = RGT - zpx := by rw [e109]; exact ti_sub h27 hpx (by omega) (by omega)
        have hPc := hP.sub (ws' := []) [] rfl
        have hKc := hK.sub (tys' := []) [] rfl
        refine va_calll (va_runS (As := [.int v109]) (rest := [.long mk, .int rr, .int px, .ref hp, .int kn]) ⟨hx, hb, hml, hown, hts⟩ (c_lowest l dC dI v109 (RGT - zpx) h109 (by omega)) (aw_S 1 hts wd_277 wd_278 wd_3 wd_279 rfl rfl (by decide +kernel) ⟨Nat.le_of_ble_eq_true rfl, Nat.le_of_ble_eq_true rfl⟩) ⟨ro_blind, ro_pre hPc hKc⟩ rfl rfl hl.1 rfl (lv_room (Nat.le_of_ble_eq_true rfl)) d_Paper_paint_110 ⟨Nat.le_of_ble_eq_true rfl, Nat.le_of_ble_eq_true rfl⟩) hS (fun q _ h => h.elim) (fun q h => h.elim) (fun v110 _ t9 H110 locs ht hvm h110 hB hz1 hk1 hS => ?_)
        have hP := ro_keep hP hk1
        clear hPc hKc ht hvm hB hz1 hk1
        refine lv_land hx hb d_Paper_paint_113 ?_
        refine lv_topl (fun v113 e113 => ?_)
        have jk : ∀ i : Nat, i < 64 → lb v113 i = ((pF D (cst ib) LFT TOP MM zrr zpx (zpx + i) zrr != ib) && decide ((i : Int) < LFT + MM - zpx)) := fun i hi => by rw [e113, lb_and, jm i hi, h110 i hi]; congr 1; apply decide_eq_decide.mpr; omega
        have hPc := hP.sub (ws' := [(hp, .inr (0, [.int pw, .int ph, .ref hw, .ref hs, .int sd])), (hw, .inl (kW, 4096, .inr (.inl fe))), (hs, .inl (kS, 263169, .inl fs))]) [0, 1, 2] rfl
        have hKc := hK.sub (tys' := [(kW, .long), (kS, .int)]) [0, 1] rfl
        have hDc := hD.sub (ws' := [(hp, .inr (0, [.int pw, .int ph, .ref hw, .ref hs, .int sd])), (hw, .inl (kW, 4096, .inr (.inl fe))), (hs, .inl (kS, 263169, .inl fs))]) [0, 1, 2] (by decide) rfl
        have hFc := va_free (wc := [(hp, .inr (0, [.int pw, .int ph, .ref hw, .ref hs, .int sd])), (hw, .inl (kW, 4096, .inr (.inl fe))), (hs, .inl (kS, 263169, .inl fs))]) hD hS hA [0, 1, 2] rfl
        refine va_calli (va_runV (As := [.int px, .int rr, .long v113]) (rest := [.int kn]) ⟨hx, hb, hml, hown, hts⟩ (c_flip l dC dI H110.size hp hw hs kW kS pw ph sd fe fs Wd Ht (pF D (cst ib) LFT TOP MM zrr zpx) hpw hph hW1 hW2 hH1 hH2 j6 zsd hsd (by omega) (by omega) j8 px rr v113 zpx zrr hpx hrr) (aw_V 3 hts wd_280 wd_144 wd_145 wd_3 wd_146 rfl rfl (by decide +kernel) ⟨Nat.le_of_ble_eq_true rfl, Nat.le_of_ble_eq_true rfl⟩) ⟨rw_blind, va_recv hKc hPc (ci := 0) (q0 := 0) rfl rfl, rw_pre hPc hKc hDc⟩ rfl rfl hl.1 rfl (lv_room (Nat.le_of_ble_eq_true rfl)) d_Paper_paint_114 ⟨Nat.le_of_ble_eq_true rfl, Nat.le_of_ble_eq_true rfl⟩) hS (fun q _ h => hFc q h) hFc (fun v114 u t9 H114 locs ht hvm h114 hB hz1 hk1 hS => ?_)
        obtain ⟨u114_fw, u114_sr⟩ := u
        obtain ⟨hP1, _, hD1⟩ := hB
        rw [ht] at hP1
        try dsimp only at h114 hP1 hD1
        obtain ⟨hP, hD⟩ := va_join (wr := []) (w1 := [(hp, .inr (0, [.int pw, .int ph, .ref hw, .ref hs, .int u114_sr])), (hw, .inl (kW, 4096, .inr (.inl u114_fw))), (hs, .inl (kS, 263169, .inl fs))]) hP hD [0, 1, 2] [] rfl rfl (by decide) (by decide) hk1 hFc hP1 hD1
        have hP := hP.sub (ws' := [(hp, .inr (0, [.int pw, .int ph, .ref hw, .ref hs, .int u114_sr])), (hw, .inl (kW, 4096, .inr (.inl u114_fw))), (hs, .inl (kS, 263169, .inl fs))]) [0, 1, 2] rfl
        have hD := hD.sub (ws' := [(hp, .inr (0, [.int pw, .int ph, .ref hw, .ref hs, .int u114_sr])), (hw, .inl (kW, 4096, .inr (.inl u114_fw))), (hs, .inl (kS, 263169, .inl fs))]) [0, 1, 2] (by decide) rfl
        clear hPc hKc hDc hFc ht hvm hz1 hk1 hP1 hD1
        have b114 := nb_b (flF Wd Ht zpx zrr v113) 64
        have s114 := pt_step (D := D) (W := Wd) (H := Ht) (by omega) (by omega) (by omega) (by omega) (by omega) (by omega) (by omega) jk
        have t114 := pt_count (D := D) (W := Wd) (H := Ht) (by omega) (by omega) (by omega) (by omega) (by omega) (by omega) (by omega) jk
        have y114 := h114.2
        rw [s114] at y114
        refine lv_iadd hx hb d_Paper_paint_117 ?_
        refine lv_topi (fun v117 e117 => ?_)
        have h117 : v117.toInt = zkn + (nb (flF Wd Ht zpx zrr v113) 64) := by rw [e117]; exact ti_add hkn h114.1 (by omega) (by omega)
        refine lv_istore (lv' := [(10, .int v117), (0, .ref hp), (1, .int a1), (2, .int a2), (3, .int a3), (4, .int a4), (5, .int a5), (6, .int v2), (7, .int v9), (8, .int v27), (9, .int v44), (11, .int rr), (12, .int px), (13, .long v77)]) hx hb d_Paper_paint_118 hl (by decide) rfl (fun ls hl => ?_)
        obtain ⟨v120, e120⟩ : ∃ y : Int32, y = px + 64 := ⟨_, rfl⟩
        have h120 : v120.toInt = zpx + 64 := by rw [e120]; exact ti_add hpx (ti_k (by decide)) (by omega) (by omega)
        refine lv_iinc (v := v120) (lv' := [(12, .int v120), (10, .int v117), (0, .ref hp), (1, .int a1), (2, .int a2), (3, .int a3), (4, .int a4), (5, .int a5), (6, .int v2), (7, .int v9), (8, .int v27), (9, .int v44), (11, .int rr), (13, .long v77)]) hx hb d_Paper_paint_120 hl (k := 12) rfl (by rw [e120]; rfl) (by decide) rfl (fun ls hl => ?_)
        refine lv_goto (tgt := 65) hx hb d_Paper_paint_123 (by decide) ?_
        exact ih65 _ (by omega) _ _ _ ⟨v117, (zkn + (nb (flF Wd Ht zpx zrr v113) 64)), v120, (zpx + 64), u114_fw, u114_sr, (u114_sr.toInt), ls, rfl, lv_sub hl [2, 3, 4, 5, 6, 7, 8, 9, 10, 11, 1, 12, 0] rfl, rfl, h117, h120, by omega, y114.1, by rw [← t114]; omega, rfl, ⟨y114.2.1, by have := y114.2.2.1; omega⟩, y114.2.2.2, hP, hD, hS⟩
      · skip
        intro hj105
        refine lv_iload hx hb d_Paper_paint_89 (lv_at hl 6 rfl) ?_
        refine lv_if_eq (tgt := 103) hx hb d_Paper_paint_91 (by decide) (fun c91 => ?_) (fun c91 => ?_)
        · skip
          have c91 : ¬ (ib = true) := bi_z (zb_isB g5) c91
          refine lv_lload hx hb d_Paper_paint_103 (lv_at hl 0 rfl) ?_
          exact hj105 _ _ _ ⟨v77, ls, rfl, lv_sub hl [1, 2, 3, 4, 5, 6, 7, 8, 9, 10, 11, 12, 13, 0] rfl, fun i hi => by rw [h77 i hi, bf c91] <;> cases pF D (cst false) LFT TOP MM zrr zpx (zpx + i) zrr <;> rfl, hP, hD, hS⟩
        · skip
          have c91 : ib = true := bi_nz (zb_isB g5) c91
          refine lv_lload hx hb d_Paper_paint_94 (lv_at hl 0 rfl) ?_
          refine lv_ldc2 (v := (-1)) hx hb hown (hts _ wd_276) d_Paper_paint_96 ?_
          refine lv_lxor hx hb d_Paper_paint_99 ?_
          refine lv_topl (fun v99 e99 => ?_)
          refine lv_goto (tgt := 105) hx hb d_Paper_paint_100 (by decide) ?_
          exact hj105 _ _ _ ⟨v99, ls, rfl, lv_sub hl [1, 2, 3, 4, 5, 6, 7, 8, 9, 10, 11, 12, 13, 0] rfl, fun i hi => by rw [e99, lb_xor, h77 i hi, lb_m1 hi, c91] <;> cases pF D (cst true) LFT TOP MM zrr zpx (zpx + i) zrr <;> rfl, hP, hD, hS⟩
