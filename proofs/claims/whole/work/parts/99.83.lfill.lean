set_option maxHeartbeats 4000000 in
set_option maxRecDepth 100000 in
theorem l_fill (l : Launch) (dC : Nat → ClassId) (dI : Nat → Nat → Nat) (sz : Nat) (hl9 : l.stackTraces = false) (hf hq hst hld : Nat) (hp hw hs : Nat) (kW kS : ClassId) (pw ph psr : Int32) (fw : Nat → Int64) (fs : Nat → Int32) (Wd Ht : Int) (D : Int → Int → Bool) (hpw : pw.toInt = Wd) (hph : ph.toInt = Ht) (hW1 : 1 ≤ Wd) (hW2 : Wd ≤ 512) (hH1 : 1 ≤ Ht) (hH2 : Ht ≤ 512) (hbits : bOK fw D) (hsup : ∀ x y, D x y = true → 0 ≤ x ∧ x < Wd ∧ 0 ≤ y ∧ y < Ht) (SR : Int) (hsr : psr.toInt = SR) (hsr0 : 0 ≤ SR) (hsr1 : SR ≤ Ht) (hsk : sK fs D Wd SR) (a1 a2 a3 a4 a5 : Int32) (x y w h : Int) (ib : Bool) (g1 : a1.toInt = x) (g2 : a2.toInt = y) (g3 : a3.toInt = w) (g4 : a4.toInt = h) (g5 : a5 = zb ib) (ho9 : Nat) (kO : ClassId) (fo : Nat → Int64) : Met l y_Law_fill (.codeWith y_Law_fill b_Law_fill 8 (some .int) [(0, 16, 19, 13)] :: allw) ({ frames := 7, cells := 1, slots := 6, locals := 125 }) (va_Pc [.ref hf, .int a1, .int a2, .int a3, .int a4, .int a5, .ref ho9] (tB (dC, dI) vwCl [(hf, .inr (4, [.ref hq, .ref hp, .ref hst, .ref hld])), (hp, .inr (0, [.int pw, .int ph, .ref hw, .ref hs, .int psr])), (hw, .inl (kW, 4096, .inr (.inl fw))), (hs, .inl (kS, 263169, .inl fs)), (ho9, .inl (kO, 1, .inr (.inl fo)))] [(kW, .long), (kS, .int), (kO, .long)] sz R_IAE [(56, "w and h are 1 .. 512")])) (va_Qi (fun (r : Int32) (u : (Nat → Int64) × Int32 × (Nat → Int64)) => (r = (1 : Int32) ∧ (¬ (1 ≤ w ∧ w ≤ 512 ∧ 1 ≤ h ∧ h ≤ 512)) ∧ u.1 = fw ∧ u.2.1 = psr ∧ u.2.2 = fo) ∨ (r = (0 : Int32) ∧ ∃ v : Int32, u.2.2 0 = v.toInt64 ∧ (1 ≤ w ∧ w ≤ 512 ∧ 1 ≤ h ∧ h ≤ 512) ∧ v.toInt = cI (fiN D x y w h ib) 0 0 Wd Ht ∧ bOK u.1 (pF D (fiE D x y w h ib) 0 0 Wd Ht 0) ∧ 0 ≤ (u.2.1 : Int32).toInt ∧ (u.2.1 : Int32).toInt ≤ SR ∧ sK fs (pF D (fiE D x y w h ib) 0 0 Wd Ht 0) Wd (u.2.1 : Int32).toInt)) (fun u t => rw_E (dC, dI) vwCl [(hf, .inr (4, [.ref hq, .ref hp, .ref hst, .ref hld])), (hp, .inr (0, [.int pw, .int ph, .ref hw, .ref hs, .int u.2.1])), (hw, .inl (kW, 4096, .inr (.inl u.1))), (hs, .inl (kS, 263169, .inl fs)), (ho9, .inl (kO, 1, .inr (.inl u.2.2)))] [(kW, .long), (kS, .int), (kO, .long)] (va_A [(hf, .inr (4, [.ref hq, .ref hp, .ref hst, .ref hld])), (hp, .inr (0, [.int pw, .int ph, .ref hw, .ref hs, .int psr])), (hw, .inl (kW, 4096, .inr (.inl fw))), (hs, .inl (kS, 263169, .inl fs)), (ho9, .inl (kO, 1, .inr (.inl fo)))] sz) t) (va_A [(hf, .inr (4, [.ref hq, .ref hp, .ref hst, .ref hld])), (hp, .inr (0, [.int pw, .int ph, .ref hw, .ref hs, .int psr])), (hw, .inl (kW, 4096, .inr (.inl fw))), (hs, .inl (kS, 263169, .inl fs)), (ho9, .inl (kO, 1, .inr (.inl fo)))] sz)) 1 6 (va_A [(hf, .inr (4, [.ref hq, .ref hp, .ref hst, .ref hld])), (hp, .inr (0, [.int pw, .int ph, .ref hw, .ref hs, .int psr])), (hw, .inl (kW, 4096, .inr (.inl fw))), (hs, .inl (kS, 263169, .inl fs)), (ho9, .inl (kO, 1, .inr (.inl fo)))] sz) := by
  refine va_MetW (cc := b_Law_fill) (maxL := 8) (ret := (some .int)) (by decide) rfl ?_
  intro p e s m args below meth c s₁ B hml hv
  have htab := vx_table (x := y_Law_fill) B (atoms_spec (ws := .codeWith y_Law_fill b_Law_fill 8 (some .int) [(0, 16, 19, 13)] :: allw) B.pre _ List.mem_cons_self)
  obtain ⟨rfl, ⟨hsz, hP, hK, hD0⟩, hTx, hTr, hTz⟩ := hv
  have hx := B.exec
  have hb := B.bytes
  have hr := B.returns
  have hts : ∀ w ∈ allw, w.before _ s = true := fun w h => atoms_spec (ws := .codeWith y_Law_fill b_Law_fill 8 (some .int) [(0, 16, 19, 13)] :: allw) B.pre w (List.mem_cons_of_mem _ h)
  have hown : s.vm.findClass R_Law = some m.cls := findClass_of_methodNamed B.named
  have hlocks := B.notSynchronized
  subst hsz
  have hD := hD0.self (sz := s.heap.size)
  generalize hAe : va_A [(hf, .inr (4, [.ref hq, .ref hp, .ref hst, .ref hld])), (hp, .inr (0, [.int pw, .int ph, .ref hw, .ref hs, .int psr])), (hw, .inl (kW, 4096, .inr (.inl fw))), (hs, .inl (kS, 263169, .inl fs)), (ho9, .inl (kO, 1, .inr (.inl fo)))] s.heap.size = A at hD hTz ⊢
  have hA : ∀ q : Nat, s.heap.size ≤ q → A q := fun q h => by rw [← hAe]; exact Or.inr h
  have hS : va_S A s.heap s.heap [] := va_S.rf
  have hP : va_P (dC, dI) vwCl [(hf, .inr (4, [.ref hq, .ref hp, .ref hst, .ref hld])), (hp, .inr (0, [.int pw, .int ph, .ref hw, .ref hs, .int psr])), (hw, .inl (kW, 4096, .inr (.inl fw))), (hs, .inl (kS, 263169, .inl fs)), (ho9, .inl (kO, 1, .inr (.inl fo)))] s.heap := hP
  have hl := lv_entry ([.ref hf, .int a1, .int a2, .int a3, .int a4, .int a5, .ref ho9]) (n := 8) (Nat.le_of_ble_eq_true rfl)
  rw [lg_entry_eq]
  generalize (lg_sl ([.ref hf, .int a1, .int a2, .int a3, .int a4, .int a5, .ref ho9]) ++ List.replicate (8 - (lg_sl ([.ref hf, .int a1, .int a2, .int a3, .int a4, .int a5, .ref ho9])).length) Slot.unset).toArray = ls at hl ⊢
  have hl : lv_has ls 8 [(0, .ref hf), (1, .int a1), (2, .int a2), (3, .int a3), (4, .int a4), (5, .int a5), (6, .ref ho9)] := hl
  refine lv_aload hx hb d_Law_fill_0 (lv_at hl 6 rfl) ?_
  refine lv_iconst (v := 0) hx hb d_Law_fill_2 (by decide) ?_
  refine lv_aload_n hx hb d_Law_fill_3 rfl (lv_at hl 0 rfl) ?_
  refine lv_iload_n hx hb d_Law_fill_4 rfl (lv_at hl 1 rfl) ?_
  refine lv_iload_n hx hb d_Law_fill_5 rfl (lv_at hl 2 rfl) ?_
  refine lv_iload_n hx hb d_Law_fill_6 rfl (lv_at hl 3 rfl) ?_
  refine lv_iload hx hb d_Law_fill_7 (lv_at hl 4 rfl) ?_
  refine lv_iload hx hb d_Law_fill_9 (lv_at hl 5 rfl) ?_
  have hPc := hP.sub (ws' := [(hf, .inr (4, [.ref hq, .ref hp, .ref hst, .ref hld])), (hp, .inr (0, [.int pw, .int ph, .ref hw, .ref hs, .int psr])), (hw, .inl (kW, 4096, .inr (.inl fw))), (hs, .inl (kS, 263169, .inl fs))]) [0, 1, 2, 3] rfl
  have hKc := hK.sub (tys' := [(kW, .long), (kS, .int)]) [0, 1] rfl
  have hDc := hD.sub (ws' := [(hf, .inr (4, [.ref hq, .ref hp, .ref hst, .ref hld])), (hp, .inr (0, [.int pw, .int ph, .ref hw, .ref hs, .int psr])), (hw, .inl (kW, 4096, .inr (.inl fw))), (hs, .inl (kS, 263169, .inl fs))]) [0, 1, 2, 3] (by decide) rfl
  have hFc := va_free (wc := [(hf, .inr (4, [.ref hq, .ref hp, .ref hst, .ref hld])), (hp, .inr (0, [.int pw, .int ph, .ref hw, .ref hs, .int psr])), (hw, .inl (kW, 4096, .inr (.inl fw))), (hs, .inl (kS, 263169, .inl fs))]) hD hS hA [0, 1, 2, 3] rfl
  have hTzc := tZ.sub hTz hS hFc
  refine vx_calli (vx_runV (As := [.int a1, .int a2, .int a3, .int a4, .int a5]) (rest := [.int 0, .ref ho9]) ⟨hx, hb, hml, hown, hts⟩ (c_fill l dC dI s.heap.size hl9 hf hq hst hld hp hw hs kW kS pw ph psr fw fs Wd Ht D hpw hph hW1 hW2 hH1 hH2 hbits hsup SR hsr hsr0 hsr1 hsk a1 a2 a3 a4 a5 x y w h ib g1 g2 g3 g4 g5) (aw_V 5 hts wd_263 wd_264 wd_265 wd_1 wd_266 rfl rfl (by decide +kernel) ⟨Nat.le_of_ble_eq_true rfl, Nat.le_of_ble_eq_true rfl⟩) ⟨tB_blind, va_recv hKc hPc (ci := 4) (q0 := 0) rfl rfl, tB_pre hPc hKc hDc hTx hTr hTzc⟩ rfl rfl hl.1 rfl (lv_room (Nat.le_of_ble_eq_true rfl)) d_Law_fill_11 ⟨Nat.le_of_ble_eq_true rfl, Nat.le_of_ble_eq_true rfl⟩) hS (fun q _ h => hFc q h) hFc (fun q _ h => hFc q h) ?_ ?_
  · skip
    intro E ce q9 u9 t9 H11 locs ht hvm hpx hBx hz1 hk1 hS hce hcv hcl
    obtain ⟨eE, hP1, hK1, hD1⟩ := hBx
    rw [ht] at hP1
    obtain ⟨hP, hD⟩ := va_join (wr := [(ho9, .inl (kO, 1, .inr (.inl fo)))]) (w1 := [(hf, .inr (4, [.ref hq, .ref hp, .ref hst, .ref hld])), (hp, .inr (0, [.int pw, .int ph, .ref hw, .ref hs, .int psr])), (hw, .inl (kW, 4096, .inr (.inl fw))), (hs, .inl (kS, 263169, .inl fs))]) hP hD [0, 1, 2, 3] [4] rfl rfl (by decide) (by decide) hk1 hFc hP1 hD1
    have hP := hP.sub (ws' := [(hf, .inr (4, [.ref hq, .ref hp, .ref hst, .ref hld])), (hp, .inr (0, [.int pw, .int ph, .ref hw, .ref hs, .int psr])), (hw, .inl (kW, 4096, .inr (.inl fw))), (hs, .inl (kS, 263169, .inl fs)), (ho9, .inl (kO, 1, .inr (.inl fo)))]) [1, 2, 3, 4, 0] rfl
    have hD := hD.sub (ws' := [(hf, .inr (4, [.ref hq, .ref hp, .ref hst, .ref hld])), (hp, .inr (0, [.int pw, .int ph, .ref hw, .ref hs, .int psr])), (hw, .inl (kW, 4096, .inr (.inl fw))), (hs, .inl (kS, 263169, .inl fs)), (ho9, .inl (kO, 1, .inr (.inl fo)))]) [1, 2, 3, 4, 0] (by decide) rfl
    clear hPc hKc hDc hFc hTzc hP1 hD1 hK1 hk1 hz1
    refine vx_catch (name := R_IAE) hown [] ⟨0, 16, 19, 13⟩ [] htab (fun z hz => by cases hz) (by decide) (by decide) (hts _ wd_174) (by rw [eE]; exact va_tabs rfl rfl hTx.1) hce hcv hcl ?_
    refine W.widen (k := 1) (n := 6) (by decide) (by decide) ?_
    refine lv_astore (lv' := [(7, .ref q9), (0, .ref hf), (1, .int a1), (2, .int a2), (3, .int a3), (4, .int a4), (5, .int a5), (6, .ref ho9)]) hx hb d_Law_fill_19 hl (by decide) rfl (fun ls hl => ?_)
    refine lv_iconst (v := 1) hx hb d_Law_fill_21 (by decide) ?_
    have hpost : ((1 : Int32) = (1 : Int32) ∧ (¬ (1 ≤ w ∧ w ≤ 512 ∧ 1 ≤ h ∧ h ≤ 512)) ∧ fw = fw ∧ psr = psr ∧ fo = fo) ∨ ((1 : Int32) = (0 : Int32) ∧ ∃ v : Int32, fo 0 = v.toInt64 ∧ (1 ≤ w ∧ w ≤ 512 ∧ 1 ≤ h ∧ h ≤ 512) ∧ v.toInt = cI (fiN D x y w h ib) 0 0 Wd Ht ∧ bOK fw (pF D (fiE D x y w h ib) 0 0 Wd Ht 0) ∧ 0 ≤ (psr : Int32).toInt ∧ (psr : Int32).toInt ≤ SR ∧ sK fs (pF D (fiE D x y w h ib) 0 0 Wd Ht 0) Wd (psr : Int32).toInt) := by
      exact Or.inl ⟨rfl, hpx, rfl, rfl, rfl⟩
    have hP9 := hP.sub (ws' := [(hf, .inr (4, [.ref hq, .ref hp, .ref hst, .ref hld])), (hp, .inr (0, [.int pw, .int ph, .ref hw, .ref hs, .int psr])), (hw, .inl (kW, 4096, .inr (.inl fw))), (hs, .inl (kS, 263169, .inl fs)), (ho9, .inl (kO, 1, .inr (.inl fo)))]) [0, 1, 2, 3, 4] rfl
    have hD9 := hD.sub (ws' := [(hf, .inr (4, [.ref hq, .ref hp, .ref hst, .ref hld])), (hp, .inr (0, [.int pw, .int ph, .ref hw, .ref hs, .int psr])), (hw, .inl (kW, 4096, .inr (.inl fw))), (hs, .inl (kS, 263169, .inl fs)), (ho9, .inl (kO, 1, .inr (.inl fo)))]) [0, 1, 2, 3, 4] (by decide) rfl
    have hK9 := hK.sub (tys' := [(kW, .long), (kS, .int), (kO, .long)]) [0, 1, 2] rfl
    refine W.widen (k := 1) (n := 6) (by decide) (by decide) ?_
    exact W.iret (v := 1) hx hb hr (fun t ht hW => ⟨⟨1, (fw, psr, fo), rfl, hpost, by rw [ht]; exact hP9, va_K.moved hW.alike hK9, hD9⟩, hS.F ht⟩) hS.2.2 d_Law_fill_22
  · skip
    intro v11 u t9 H11 locs ht hvm h11 hB hz1 hk1 hS
    obtain ⟨u11_fw, u11_sr⟩ := u
    obtain ⟨hP1, hK1, hD1⟩ := hB
    rw [ht] at hP1
    try dsimp only at h11 hP1 hD1
    obtain ⟨hP, hD⟩ := va_join (wr := [(ho9, .inl (kO, 1, .inr (.inl fo)))]) (w1 := [(hf, .inr (4, [.ref hq, .ref hp, .ref hst, .ref hld])), (hp, .inr (0, [.int pw, .int ph, .ref hw, .ref hs, .int u11_sr])), (hw, .inl (kW, 4096, .inr (.inl u11_fw))), (hs, .inl (kS, 263169, .inl fs))]) hP hD [0, 1, 2, 3] [4] rfl rfl (by decide) (by decide) hk1 hFc hP1 hD1
    have hP := hP.sub (ws' := [(hf, .inr (4, [.ref hq, .ref hp, .ref hst, .ref hld])), (hp, .inr (0, [.int pw, .int ph, .ref hw, .ref hs, .int u11_sr])), (hw, .inl (kW, 4096, .inr (.inl u11_fw))), (hs, .inl (kS, 263169, .inl fs)), (ho9, .inl (kO, 1, .inr (.inl fo)))]) [1, 2, 3, 4, 0] rfl
    have hD := hD.sub (ws' := [(hf, .inr (4, [.ref hq, .ref hp, .ref hst, .ref hld])), (hp, .inr (0, [.int pw, .int ph, .ref hw, .ref hs, .int u11_sr])), (hw, .inl (kW, 4096, .inr (.inl u11_fw))), (hs, .inl (kS, 263169, .inl fs)), (ho9, .inl (kO, 1, .inr (.inl fo)))]) [1, 2, 3, 4, 0] (by decide) rfl
    clear hPc hKc hDc hFc hTzc hP1 hD1 hK1 hk1 hz1
    refine W.widen (k := 1) (n := 6) (by decide) (by decide) ?_
    refine lv_i2l hx hb d_Law_fill_14 rfl ?_
    refine lv_topl (fun v14 e14 => ?_)
    have in15 : vp_in (0 : Int32) 1 := vi_in (show (0 : Int32).toInt = (0 : Int) by decide) (by omega) (by omega)
    refine va_last hx hb hK hP hD hS 4 2 rfl rfl in15 d_Law_fill_15 (fun H15 locs hP hD hS => ?_)
    obtain ⟨f15, ef15⟩ : ∃ g, g = vp_updL fo ((0 : Int32)).toNatClampNeg v14 := ⟨_, rfl⟩
    have hP : va_P (dC, dI) vwCl [(hf, .inr (4, [.ref hq, .ref hp, .ref hst, .ref hld])), (hp, .inr (0, [.int pw, .int ph, .ref hw, .ref hs, .int u11_sr])), (hw, .inl (kW, 4096, .inr (.inl u11_fw))), (hs, .inl (kS, 263169, .inl fs)), (ho9, .inl (kO, 1, .inr (.inl f15)))] H15 := by rw [ef15]; exact hP
    have hD : va_D A [(hf, .inr (4, [.ref hq, .ref hp, .ref hst, .ref hld])), (hp, .inr (0, [.int pw, .int ph, .ref hw, .ref hs, .int u11_sr])), (hw, .inl (kW, 4096, .inr (.inl u11_fw))), (hs, .inl (kS, 263169, .inl fs)), (ho9, .inl (kO, 1, .inr (.inl f15)))] := by rw [ef15]; exact hD
    have ef15 : f15 = vp_updL fo ((0 : Int)).toNat v14 := by rw [ef15, vi_cl (show (0 : Int32).toInt = (0 : Int) by decide)]
    refine lv_goto (tgt := 23) hx hb d_Law_fill_16 (by decide) ?_
    refine lv_iconst (v := 0) hx hb d_Law_fill_23 (by decide) ?_
    have hpost : ((0 : Int32) = (1 : Int32) ∧ (¬ (1 ≤ w ∧ w ≤ 512 ∧ 1 ≤ h ∧ h ≤ 512)) ∧ u11_fw = fw ∧ u11_sr = psr ∧ f15 = fo) ∨ ((0 : Int32) = (0 : Int32) ∧ ∃ v : Int32, f15 0 = v.toInt64 ∧ (1 ≤ w ∧ w ≤ 512 ∧ 1 ≤ h ∧ h ≤ 512) ∧ v.toInt = cI (fiN D x y w h ib) 0 0 Wd Ht ∧ bOK u11_fw (pF D (fiE D x y w h ib) 0 0 Wd Ht 0) ∧ 0 ≤ (u11_sr : Int32).toInt ∧ (u11_sr : Int32).toInt ≤ SR ∧ sK fs (pF D (fiE D x y w h ib) 0 0 Wd Ht 0) Wd (u11_sr : Int32).toInt) := by
      refine Or.inr ⟨rfl, v11, ?_, h11⟩
      rw [ef15]; show vp_updL fo 0 v14 0 = _; rw [pk_uLs, e14]
    have hP9 := hP.sub (ws' := [(hf, .inr (4, [.ref hq, .ref hp, .ref hst, .ref hld])), (hp, .inr (0, [.int pw, .int ph, .ref hw, .ref hs, .int u11_sr])), (hw, .inl (kW, 4096, .inr (.inl u11_fw))), (hs, .inl (kS, 263169, .inl fs)), (ho9, .inl (kO, 1, .inr (.inl f15)))]) [0, 1, 2, 3, 4] rfl
    have hD9 := hD.sub (ws' := [(hf, .inr (4, [.ref hq, .ref hp, .ref hst, .ref hld])), (hp, .inr (0, [.int pw, .int ph, .ref hw, .ref hs, .int u11_sr])), (hw, .inl (kW, 4096, .inr (.inl u11_fw))), (hs, .inl (kS, 263169, .inl fs)), (ho9, .inl (kO, 1, .inr (.inl f15)))]) [0, 1, 2, 3, 4] (by decide) rfl
    have hK9 := hK.sub (tys' := [(kW, .long), (kS, .int), (kO, .long)]) [0, 1, 2] rfl
    refine W.widen (k := 1) (n := 6) (by decide) (by decide) ?_
    exact W.iret (v := 0) hx hb hr (fun t ht hW => ⟨⟨0, (u11_fw, u11_sr, f15), rfl, hpost, by rw [ht]; exact hP9, va_K.moved hW.alike hK9, hD9⟩, hS.F ht⟩) hS.2.2 d_Law_fill_24

set_option maxHeartbeats 4000000 in
set_option maxRecDepth 100000 in
theorem l_draw (l : Launch) (dC : Nat → ClassId) (dI : Nat → Nat → Nat) (sz : Nat) (hl9 : l.stackTraces = false) (hf hq hst hld : Nat) (hp hw hs : Nat) (kW kS : ClassId) (pw ph psr : Int32) (fw : Nat → Int64) (fs : Nat → Int32) (Wd Ht : Int) (D : Int → Int → Bool) (hpw : pw.toInt = Wd) (hph : ph.toInt = Ht) (hW1 : 1 ≤ Wd) (hW2 : Wd ≤ 512) (hH1 : 1 ≤ Ht) (hH2 : Ht ≤ 512) (hbits : bOK fw D) (hsup : ∀ x y, D x y = true → 0 ≤ x ∧ x < Wd ∧ 0 ≤ y ∧ y < Ht) (SR : Int) (hsr : psr.toInt = SR) (hsr0 : 0 ≤ SR) (hsr1 : SR ≤ Ht) (hsk : sK fs D Wd SR) (a1 a2 a3 : Int32) (x y PL : Int) (g1 : a1.toInt = x) (g2 : a2.toInt = y) (g3 : a3.toInt = PL) (ho9 : Nat) (kO : ClassId) (fo : Nat → Int64) : Met l y_Law_draw (.codeWith y_Law_draw b_Law_draw 6 (some .int) [(0, 12, 15, 13)] :: allw) ({ frames := 7, cells := 1, slots := 6, locals := 187 }) (va_Pc [.ref hf, .int a1, .int a2, .int a3, .ref ho9] (tB (dC, dI) vwCl [(hf, .inr (4, [.ref hq, .ref hp, .ref hst, .ref hld])), (hp, .inr (0, [.int pw, .int ph, .ref hw, .ref hs, .int psr])), (hw, .inl (kW, 4096, .inr (.inl fw))), (hs, .inl (kS, 263169, .inl fs)), (ho9, .inl (kO, 1, .inr (.inl fo)))] [(kW, .long), (kS, .int), (kO, .long)] sz R_IAE [(62, "place has bits above those of m"), (73, "m is 1 .. 16 and v 1 .. 40"), (85, "the place lies not on the sheet")])) (va_Qi (fun (r : Int32) (u : (Nat → Int64) × Int32 × (Nat → Int64)) => (r = (1 : Int32) ∧ (¬ drOK Wd Ht x y PL) ∧ u.1 = fw ∧ u.2.1 = psr ∧ u.2.2 = fo) ∨ (r = (0 : Int32) ∧ ∃ v : Int32, u.2.2 0 = v.toInt64 ∧ (drOK Wd Ht x y PL) ∧ v.toInt = DW D x y (PL / 256 % 32) (17 + 4 * (PL / 4 % 64)) (PL % 4) ∧ bOK u.1 (dP D x y (PL / 256 % 32) (17 + 4 * (PL / 4 % 64)) (PL % 4) (fxd (17 + 4 * (PL / 4 % 64)))) ∧ 0 ≤ (u.2.1 : Int32).toInt ∧ (u.2.1 : Int32).toInt ≤ SR ∧ sK fs (dP D x y (PL / 256 % 32) (17 + 4 * (PL / 4 % 64)) (PL % 4) (fxd (17 + 4 * (PL / 4 % 64)))) Wd (u.2.1 : Int32).toInt)) (fun u t => rw_E (dC, dI) vwCl [(hf, .inr (4, [.ref hq, .ref hp, .ref hst, .ref hld])), (hp, .inr (0, [.int pw, .int ph, .ref hw, .ref hs, .int u.2.1])), (hw, .inl (kW, 4096, .inr (.inl u.1))), (hs, .inl (kS, 263169, .inl fs)), (ho9, .inl (kO, 1, .inr (.inl u.2.2)))] [(kW, .long), (kS, .int), (kO, .long)] (va_A [(hf, .inr (4, [.ref hq, .ref hp, .ref hst, .ref hld])), (hp, .inr (0, [.int pw, .int ph, .ref hw, .ref hs, .int psr])), (hw, .inl (kW, 4096, .inr (.inl fw))), (hs, .inl (kS, 263169, .inl fs)), (ho9, .inl (kO, 1, .inr (.inl fo)))] sz) t) (va_A [(hf, .inr (4, [.ref hq, .ref hp, .ref hst, .ref hld])), (hp, .inr (0, [.int pw, .int ph, .ref hw, .ref hs, .int psr])), (hw, .inl (kW, 4096, .inr (.inl fw))), (hs, .inl (kS, 263169, .inl fs)), (ho9, .inl (kO, 1, .inr (.inl fo)))] sz)) 1 6 (va_A [(hf, .inr (4, [.ref hq, .ref hp, .ref hst, .ref hld])), (hp, .inr (0, [.int pw, .int ph, .ref hw, .ref hs, .int psr])), (hw, .inl (kW, 4096, .inr (.inl fw))), (hs, .inl (kS, 263169, .inl fs)), (ho9, .inl (kO, 1, .inr (.inl fo)))] sz) := by
  refine va_MetW (cc := b_Law_draw) (maxL := 6) (ret := (some .int)) (by decide) rfl ?_
  intro p e s m args below meth c s₁ B hml hv
  have htab := vx_table (x := y_Law_draw) B (atoms_spec (ws := .codeWith y_Law_draw b_Law_draw 6 (some .int) [(0, 12, 15, 13)] :: allw) B.pre _ List.mem_cons_self)
  obtain ⟨rfl, ⟨hsz, hP, hK, hD0⟩, hTx, hTr, hTz⟩ := hv
  have hx := B.exec
  have hb := B.bytes
  have hr := B.returns
  have hts : ∀ w ∈ allw, w.before _ s = true := fun w h => atoms_spec (ws := .codeWith y_Law_draw b_Law_draw 6 (some .int) [(0, 12, 15, 13)] :: allw) B.pre w (List.mem_cons_of_mem _ h)
  have hown : s.vm.findClass R_Law = some m.cls := findClass_of_methodNamed B.named
  have hlocks := B.notSynchronized
  subst hsz
  have hD := hD0.self (sz := s.heap.size)
  generalize hAe : va_A [(hf, .inr (4, [.ref hq, .ref hp, .ref hst, .ref hld])), (hp, .inr (0, [.int pw, .int ph, .ref hw, .ref hs, .int psr])), (hw, .inl (kW, 4096, .inr (.inl fw))), (hs, .inl (kS, 263169, .inl fs)), (ho9, .inl (kO, 1, .inr (.inl fo)))] s.heap.size = A at hD hTz ⊢
  have hA : ∀ q : Nat, s.heap.size ≤ q → A q := fun q h => by rw [← hAe]; exact Or.inr h
  have hS : va_S A s.heap s.heap [] := va_S.rf
  have hP : va_P (dC, dI) vwCl [(hf, .inr (4, [.ref hq, .ref hp, .ref hst, .ref hld])), (hp, .inr (0, [.int pw, .int ph, .ref hw, .ref hs, .int psr])), (hw, .inl (kW, 4096, .inr (.inl fw))), (hs, .inl (kS, 263169, .inl fs)), (ho9, .inl (kO, 1, .inr (.inl fo)))] s.heap := hP
  have hl := lv_entry ([.ref hf, .int a1, .int a2, .int a3, .ref ho9]) (n := 6) (Nat.le_of_ble_eq_true rfl)
  rw [lg_entry_eq]
  generalize (lg_sl ([.ref hf, .int a1, .int a2, .int a3, .ref ho9]) ++ List.replicate (6 - (lg_sl ([.ref hf, .int a1, .int a2, .int a3, .ref ho9])).length) Slot.unset).toArray = ls at hl ⊢
  have hl : lv_has ls 6 [(0, .ref hf), (1, .int a1), (2, .int a2), (3, .int a3), (4, .ref ho9)] := hl
  refine lv_aload hx hb d_Law_draw_0 (lv_at hl 4 rfl) ?_
  refine lv_iconst (v := 0) hx hb d_Law_draw_2 (by decide) ?_
  refine lv_aload_n hx hb d_Law_draw_3 rfl (lv_at hl 0 rfl) ?_
  refine lv_iload_n hx hb d_Law_draw_4 rfl (lv_at hl 1 rfl) ?_
  refine lv_iload_n hx hb d_Law_draw_5 rfl (lv_at hl 2 rfl) ?_
  refine lv_iload_n hx hb d_Law_draw_6 rfl (lv_at hl 3 rfl) ?_
  have hPc := hP.sub (ws' := [(hf, .inr (4, [.ref hq, .ref hp, .ref hst, .ref hld])), (hp, .inr (0, [.int pw, .int ph, .ref hw, .ref hs, .int psr])), (hw, .inl (kW, 4096, .inr (.inl fw))), (hs, .inl (kS, 263169, .inl fs))]) [0, 1, 2, 3] rfl
  have hKc := hK.sub (tys' := [(kW, .long), (kS, .int)]) [0, 1] rfl
  have hDc := hD.sub (ws' := [(hf, .inr (4, [.ref hq, .ref hp, .ref hst, .ref hld])), (hp, .inr (0, [.int pw, .int ph, .ref hw, .ref hs, .int psr])), (hw, .inl (kW, 4096, .inr (.inl fw))), (hs, .inl (kS, 263169, .inl fs))]) [0, 1, 2, 3] (by decide) rfl
  have hFc := va_free (wc := [(hf, .inr (4, [.ref hq, .ref hp, .ref hst, .ref hld])), (hp, .inr (0, [.int pw, .int ph, .ref hw, .ref hs, .int psr])), (hw, .inl (kW, 4096, .inr (.inl fw))), (hs, .inl (kS, 263169, .inl fs))]) hD hS hA [0, 1, 2, 3] rfl
  have hTzc := tZ.sub hTz hS hFc
  refine vx_calli (vx_runV (As := [.int a1, .int a2, .int a3]) (rest := [.int 0, .ref ho9]) ⟨hx, hb, hml, hown, hts⟩ (c_draw l dC dI s.heap.size hl9 hf hq hst hld hp hw hs kW kS pw ph psr fw fs Wd Ht D hpw hph hW1 hW2 hH1 hH2 hbits hsup SR hsr hsr0 hsr1 hsk a1 a2 a3 x y PL g1 g2 g3) (aw_V 3 hts wd_284 wd_285 wd_286 wd_1 wd_287 rfl rfl (by decide +kernel) ⟨Nat.le_of_ble_eq_true rfl, Nat.le_of_ble_eq_true rfl⟩) ⟨tB_blind, va_recv hKc hPc (ci := 4) (q0 := 0) rfl rfl, tB_pre hPc hKc hDc hTx hTr hTzc⟩ rfl rfl hl.1 rfl (lv_room (Nat.le_of_ble_eq_true rfl)) d_Law_draw_7 ⟨Nat.le_of_ble_eq_true rfl, Nat.le_of_ble_eq_true rfl⟩) hS (fun q _ h => hFc q h) hFc (fun q _ h => hFc q h) ?_ ?_
  · skip
    intro E ce q9 u9 t9 H7 locs ht hvm hpx hBx hz1 hk1 hS hce hcv hcl
    obtain ⟨eE, hP1, hK1, hD1⟩ := hBx
    rw [ht] at hP1
    obtain ⟨hP, hD⟩ := va_join (wr := [(ho9, .inl (kO, 1, .inr (.inl fo)))]) (w1 := [(hf, .inr (4, [.ref hq, .ref hp, .ref hst, .ref hld])), (hp, .inr (0, [.int pw, .int ph, .ref hw, .ref hs, .int psr])), (hw, .inl (kW, 4096, .inr (.inl fw))), (hs, .inl (kS, 263169, .inl fs))]) hP hD [0, 1, 2, 3] [4] rfl rfl (by decide) (by decide) hk1 hFc hP1 hD1
    have hP := hP.sub (ws' := [(hf, .inr (4, [.ref hq, .ref hp, .ref hst, .ref hld])), (hp, .inr (0, [.int pw, .int ph, .ref hw, .ref hs, .int psr])), (hw, .inl (kW, 4096, .inr (.inl fw))), (hs, .inl (kS, 263169, .inl fs)), (ho9, .inl (kO, 1, .inr (.inl fo)))]) [1, 2, 3, 4, 0] rfl
    have hD := hD.sub (ws' := [(hf, .inr (4, [.ref hq, .ref hp, .ref hst, .ref hld])), (hp, .inr (0, [.int pw, .int ph, .ref hw, .ref hs, .int psr])), (hw, .inl (kW, 4096, .inr (.inl fw))), (hs, .inl (kS, 263169, .inl fs)), (ho9, .inl (kO, 1, .inr (.inl fo)))]) [1, 2, 3, 4, 0] (by decide) rfl
    clear hPc hKc hDc hFc hTzc hP1 hD1 hK1 hk1 hz1
    refine vx_catch (name := R_IAE) hown [] ⟨0, 12, 15, 13⟩ [] htab (fun z hz => by cases hz) (by decide) (by decide) (hts _ wd_174) (by rw [eE]; exact va_tabs rfl rfl hTx.1) hce hcv hcl ?_
    refine W.widen (k := 1) (n := 6) (by decide) (by decide) ?_
    refine lv_astore (lv' := [(5, .ref q9), (0, .ref hf), (1, .int a1), (2, .int a2), (3, .int a3), (4, .ref ho9)]) hx hb d_Law_draw_15 hl (by decide) rfl (fun ls hl => ?_)
    refine lv_iconst (v := 1) hx hb d_Law_draw_17 (by decide) ?_
    have hpost : ((1 : Int32) = (1 : Int32) ∧ (¬ drOK Wd Ht x y PL) ∧ fw = fw ∧ psr = psr ∧ fo = fo) ∨ ((1 : Int32) = (0 : Int32) ∧ ∃ v : Int32, fo 0 = v.toInt64 ∧ (drOK Wd Ht x y PL) ∧ v.toInt = DW D x y (PL / 256 % 32) (17 + 4 * (PL / 4 % 64)) (PL % 4) ∧ bOK fw (dP D x y (PL / 256 % 32) (17 + 4 * (PL / 4 % 64)) (PL % 4) (fxd (17 + 4 * (PL / 4 % 64)))) ∧ 0 ≤ (psr : Int32).toInt ∧ (psr : Int32).toInt ≤ SR ∧ sK fs (dP D x y (PL / 256 % 32) (17 + 4 * (PL / 4 % 64)) (PL % 4) (fxd (17 + 4 * (PL / 4 % 64)))) Wd (psr : Int32).toInt) := by
      exact Or.inl ⟨rfl, hpx, rfl, rfl, rfl⟩
    have hP9 := hP.sub (ws' := [(hf, .inr (4, [.ref hq, .ref hp, .ref hst, .ref hld])), (hp, .inr (0, [.int pw, .int ph, .ref hw, .ref hs, .int psr])), (hw, .inl (kW, 4096, .inr (.inl fw))), (hs, .inl (kS, 263169, .inl fs)), (ho9, .inl (kO, 1, .inr (.inl fo)))]) [0, 1, 2, 3, 4] rfl
    have hD9 := hD.sub (ws' := [(hf, .inr (4, [.ref hq, .ref hp, .ref hst, .ref hld])), (hp, .inr (0, [.int pw, .int ph, .ref hw, .ref hs, .int psr])), (hw, .inl (kW, 4096, .inr (.inl fw))), (hs, .inl (kS, 263169, .inl fs)), (ho9, .inl (kO, 1, .inr (.inl fo)))]) [0, 1, 2, 3, 4] (by decide) rfl
    have hK9 := hK.sub (tys' := [(kW, .long), (kS, .int), (kO, .long)]) [0, 1, 2] rfl
    refine W.widen (k := 1) (n := 6) (by decide) (by decide) ?_
    exact W.iret (v := 1) hx hb hr (fun t ht hW => ⟨⟨1, (fw, psr, fo), rfl, hpost, by rw [ht]; exact hP9, va_K.moved hW.alike hK9, hD9⟩, hS.F ht⟩) hS.2.2 d_Law_draw_18
  · skip
    intro v7 u t9 H7 locs ht hvm h7 hB hz1 hk1 hS
    obtain ⟨u7_fw, u7_sr⟩ := u
    obtain ⟨hP1, hK1, hD1⟩ := hB
    rw [ht] at hP1
    try dsimp only at h7 hP1 hD1
    obtain ⟨hP, hD⟩ := va_join (wr := [(ho9, .inl (kO, 1, .inr (.inl fo)))]) (w1 := [(hf, .inr (4, [.ref hq, .ref hp, .ref hst, .ref hld])), (hp, .inr (0, [.int pw, .int ph, .ref hw, .ref hs, .int u7_sr])), (hw, .inl (kW, 4096, .inr (.inl u7_fw))), (hs, .inl (kS, 263169, .inl fs))]) hP hD [0, 1, 2, 3] [4] rfl rfl (by decide) (by decide) hk1 hFc hP1 hD1
    have hP := hP.sub (ws' := [(hf, .inr (4, [.ref hq, .ref hp, .ref hst, .ref hld])), (hp, .inr (0, [.int pw, .int ph, .ref hw, .ref hs, .int u7_sr])), (hw, .inl (kW, 4096, .inr (.inl u7_fw))), (hs, .inl (kS, 263169, .inl fs)), (ho9, .inl (kO, 1, .inr (.inl fo)))]) [1, 2, 3, 4, 0] rfl
    have hD := hD.sub (ws' := [(hf, .inr (4, [.ref hq, .ref hp, .ref hst, .ref hld])), (hp, .inr (0, [.int pw, .int ph, .ref hw, .ref hs, .int u7_sr])), (hw, .inl (kW, 4096, .inr (.inl u7_fw))), (hs, .inl (kS, 263169, .inl fs)), (ho9, .inl (kO, 1, .inr (.inl fo)))]) [1, 2, 3, 4, 0] (by decide) rfl
    clear hPc hKc hDc hFc hTzc hP1 hD1 hK1 hk1 hz1
    refine W.widen (k := 1) (n := 6) (by decide) (by decide) ?_
    refine lv_i2l hx hb d_Law_draw_10 rfl ?_
    refine lv_topl (fun v10 e10 => ?_)
    have in11 : vp_in (0 : Int32) 1 := vi_in (show (0 : Int32).toInt = (0 : Int) by decide) (by omega) (by omega)
    refine va_last hx hb hK hP hD hS 4 2 rfl rfl in11 d_Law_draw_11 (fun H11 locs hP hD hS => ?_)
    obtain ⟨f11, ef11⟩ : ∃ g, g = vp_updL fo ((0 : Int32)).toNatClampNeg v10 := ⟨_, rfl⟩
    have hP : va_P (dC, dI) vwCl [(hf, .inr (4, [.ref hq, .ref hp, .ref hst, .ref hld])), (hp, .inr (0, [.int pw, .int ph, .ref hw, .ref hs, .int u7_sr])), (hw, .inl (kW, 4096, .inr (.inl u7_fw))), (hs, .inl (kS, 263169, .inl fs)), (ho9, .inl (kO, 1, .inr (.inl f11)))] H11 := by rw [ef11]; exact hP
    have hD : va_D A [(hf, .inr (4, [.ref hq, .ref hp, .ref hst, .ref hld])), (hp, .inr (0, [.int pw, .int ph, .ref hw, .ref hs, .int u7_sr])), (hw, .inl (kW, 4096, .inr (.inl u7_fw))), (hs, .inl (kS, 263169, .inl fs)), (ho9, .inl (kO, 1, .inr (.inl f11)))] := by rw [ef11]; exact hD
    have ef11 : f11 = vp_updL fo ((0 : Int)).toNat v10 := by rw [ef11, vi_cl (show (0 : Int32).toInt = (0 : Int) by decide)]
    refine lv_goto (tgt := 19) hx hb d_Law_draw_12 (by decide) ?_
    refine lv_iconst (v := 0) hx hb d_Law_draw_19 (by decide) ?_
    have hpost : ((0 : Int32) = (1 : Int32) ∧ (¬ drOK Wd Ht x y PL) ∧ u7_fw = fw ∧ u7_sr = psr ∧ f11 = fo) ∨ ((0 : Int32) = (0 : Int32) ∧ ∃ v : Int32, f11 0 = v.toInt64 ∧ (drOK Wd Ht x y PL) ∧ v.toInt = DW D x y (PL / 256 % 32) (17 + 4 * (PL / 4 % 64)) (PL % 4) ∧ bOK u7_fw (dP D x y (PL / 256 % 32) (17 + 4 * (PL / 4 % 64)) (PL % 4) (fxd (17 + 4 * (PL / 4 % 64)))) ∧ 0 ≤ (u7_sr : Int32).toInt ∧ (u7_sr : Int32).toInt ≤ SR ∧ sK fs (dP D x y (PL / 256 % 32) (17 + 4 * (PL / 4 % 64)) (PL % 4) (fxd (17 + 4 * (PL / 4 % 64)))) Wd (u7_sr : Int32).toInt) := by
      refine Or.inr ⟨rfl, v7, ?_, h7⟩
      rw [ef11]; show vp_updL fo 0 v10 0 = _; rw [pk_uLs, e10]
    have hP9 := hP.sub (ws' := [(hf, .inr (4, [.ref hq, .ref hp, .ref hst, .ref hld])), (hp, .inr (0, [.int pw, .int ph, .ref hw, .ref hs, .int u7_sr])), (hw, .inl (kW, 4096, .inr (.inl u7_fw))), (hs, .inl (kS, 263169, .inl fs)), (ho9, .inl (kO, 1, .inr (.inl f11)))]) [0, 1, 2, 3, 4] rfl
    have hD9 := hD.sub (ws' := [(hf, .inr (4, [.ref hq, .ref hp, .ref hst, .ref hld])), (hp, .inr (0, [.int pw, .int ph, .ref hw, .ref hs, .int u7_sr])), (hw, .inl (kW, 4096, .inr (.inl u7_fw))), (hs, .inl (kS, 263169, .inl fs)), (ho9, .inl (kO, 1, .inr (.inl f11)))]) [0, 1, 2, 3, 4] (by decide) rfl
    have hK9 := hK.sub (tys' := [(kW, .long), (kS, .int), (kO, .long)]) [0, 1, 2] rfl
    refine W.widen (k := 1) (n := 6) (by decide) (by decide) ?_
    exact W.iret (v := 0) hx hb hr (fun t ht hW => ⟨⟨0, (u7_fw, u7_sr, f11), rfl, hpost, by rw [ht]; exact hP9, va_K.moved hW.alike hK9, hD9⟩, hS.F ht⟩) hS.2.2 d_Law_draw_20

set_option maxHeartbeats 4000000 in
set_option maxRecDepth 100000 in
theorem l_place (l : Launch) (dC : Nat → ClassId) (dI : Nat → Nat → Nat) (sz : Nat) (hl9 : l.stackTraces = false) (hf hq hp hst hld bk br : Nat) (dK dR : ClassId) (cnt2 : Int32) (kg wg : Nat → Int32) (n2 : Int) (hn2 : cnt2.toInt = n2) (n20 : 0 ≤ n2) (n21 : n2 ≤ 300) (hkp : ∀ i : Nat, (i : Int) < n2 → 0 ≤ (kg i).toInt) (a1 a2 : Int32) (k wt : Int) (g1 : a1.toInt = k) (g2 : a2.toInt = wt) (ho9 : Nat) (kO : ClassId) (fo : Nat → Int64) : Met l y_Law_place (.codeWith y_Law_place b_Law_place 5 (some .int) [(0, 10, 13, 13)] :: allw) ({ frames := 7, cells := 1, slots := 6, locals := 123 }) (va_Pc [.ref hf, .int a1, .int a2, .ref ho9] (tB (dC, dI) vwCl [(hf, .inr (4, [.ref hq, .ref hp, .ref hst, .ref hld])), (hld, .inr (2, [.ref bk, .ref br, .int cnt2])), (bk, .inl (dK, 300, .inl kg)), (br, .inl (dR, 300, .inl wg)), (ho9, .inl (kO, 1, .inr (.inl fo)))] [(dK, .int), (dR, .int), (kO, .long)] sz R_IAE [(119, "what is 0 .. 5")])) (va_Qi (fun (r : Int32) (u : Nat → Int64) => (r = (1 : Int32) ∧ (¬ (0 ≤ wt ∧ wt ≤ 5)) ∧ u = fo) ∨ (r = (0 : Int32) ∧ ∃ v : Int32, u 0 = v.toInt64 ∧ (0 ≤ wt ∧ wt ≤ 5) ∧ ((¬ (0 ≤ k ∧ k < n2) ∧ v.toInt = -1) ∨ ((0 ≤ k ∧ k < n2) ∧ v.toInt = plV (kg k.toNat).toInt (wg k.toNat).toInt wt)))) (fun u t => rw_E (dC, dI) vwCl [(hf, .inr (4, [.ref hq, .ref hp, .ref hst, .ref hld])), (hld, .inr (2, [.ref bk, .ref br, .int cnt2])), (bk, .inl (dK, 300, .inl kg)), (br, .inl (dR, 300, .inl wg)), (ho9, .inl (kO, 1, .inr (.inl u)))] [(dK, .int), (dR, .int), (kO, .long)] (va_A [(hf, .inr (4, [.ref hq, .ref hp, .ref hst, .ref hld])), (hld, .inr (2, [.ref bk, .ref br, .int cnt2])), (bk, .inl (dK, 300, .inl kg)), (br, .inl (dR, 300, .inl wg)), (ho9, .inl (kO, 1, .inr (.inl fo)))] sz) t) (va_A [(hf, .inr (4, [.ref hq, .ref hp, .ref hst, .ref hld])), (hld, .inr (2, [.ref bk, .ref br, .int cnt2])), (bk, .inl (dK, 300, .inl kg)), (br, .inl (dR, 300, .inl wg)), (ho9, .inl (kO, 1, .inr (.inl fo)))] sz)) 1 6 (va_A [(hf, .inr (4, [.ref hq, .ref hp, .ref hst, .ref hld])), (hld, .inr (2, [.ref bk, .ref br, .int cnt2])), (bk, .inl (dK, 300, .inl kg)), (br, .inl (dR, 300, .inl wg)), (ho9, .inl (kO, 1, .inr (.inl fo)))] sz) := by
  refine va_MetW (cc := b_Law_place) (maxL := 5) (ret := (some .int)) (by decide) rfl ?_
  intro p e s m args below meth c s₁ B hml hv
  have htab := vx_table (x := y_Law_place) B (atoms_spec (ws := .codeWith y_Law_place b_Law_place 5 (some .int) [(0, 10, 13, 13)] :: allw) B.pre _ List.mem_cons_self)
  obtain ⟨rfl, ⟨hsz, hP, hK, hD0⟩, hTx, hTr, hTz⟩ := hv
  have hx := B.exec
  have hb := B.bytes
  have hr := B.returns
  have hts : ∀ w ∈ allw, w.before _ s = true := fun w h => atoms_spec (ws := .codeWith y_Law_place b_Law_place 5 (some .int) [(0, 10, 13, 13)] :: allw) B.pre w (List.mem_cons_of_mem _ h)
  have hown : s.vm.findClass R_Law = some m.cls := findClass_of_methodNamed B.named
  have hlocks := B.notSynchronized
  subst hsz
  have hD := hD0.self (sz := s.heap.size)
  generalize hAe : va_A [(hf, .inr (4, [.ref hq, .ref hp, .ref hst, .ref hld])), (hld, .inr (2, [.ref bk, .ref br, .int cnt2])), (bk, .inl (dK, 300, .inl kg)), (br, .inl (dR, 300, .inl wg)), (ho9, .inl (kO, 1, .inr (.inl fo)))] s.heap.size = A at hD hTz ⊢
  have hA : ∀ q : Nat, s.heap.size ≤ q → A q := fun q h => by rw [← hAe]; exact Or.inr h
  have hS : va_S A s.heap s.heap [] := va_S.rf
  have hP : va_P (dC, dI) vwCl [(hf, .inr (4, [.ref hq, .ref hp, .ref hst, .ref hld])), (hld, .inr (2, [.ref bk, .ref br, .int cnt2])), (bk, .inl (dK, 300, .inl kg)), (br, .inl (dR, 300, .inl wg)), (ho9, .inl (kO, 1, .inr (.inl fo)))] s.heap := hP
  have hl := lv_entry ([.ref hf, .int a1, .int a2, .ref ho9]) (n := 5) (Nat.le_of_ble_eq_true rfl)
  rw [lg_entry_eq]
  generalize (lg_sl ([.ref hf, .int a1, .int a2, .ref ho9]) ++ List.replicate (5 - (lg_sl ([.ref hf, .int a1, .int a2, .ref ho9])).length) Slot.unset).toArray = ls at hl ⊢
  have hl : lv_has ls 5 [(0, .ref hf), (1, .int a1), (2, .int a2), (3, .ref ho9)] := hl
  refine lv_aload_n hx hb d_Law_place_0 rfl (lv_at hl 3 rfl) ?_
  refine lv_iconst (v := 0) hx hb d_Law_place_1 (by decide) ?_
  refine lv_aload_n hx hb d_Law_place_2 rfl (lv_at hl 0 rfl) ?_
  refine lv_iload_n hx hb d_Law_place_3 rfl (lv_at hl 1 rfl) ?_
  refine lv_iload_n hx hb d_Law_place_4 rfl (lv_at hl 2 rfl) ?_
  have hPc := hP.sub (ws' := [(hf, .inr (4, [.ref hq, .ref hp, .ref hst, .ref hld])), (hld, .inr (2, [.ref bk, .ref br, .int cnt2])), (bk, .inl (dK, 300, .inl kg)), (br, .inl (dR, 300, .inl wg))]) [0, 1, 2, 3] rfl
  have hKc := hK.sub (tys' := [(dK, .int), (dR, .int)]) [0, 1] rfl
  have hDc := hD.sub (ws' := [(hf, .inr (4, [.ref hq, .ref hp, .ref hst, .ref hld])), (hld, .inr (2, [.ref bk, .ref br, .int cnt2])), (bk, .inl (dK, 300, .inl kg)), (br, .inl (dR, 300, .inl wg))]) [0, 1, 2, 3] (by decide) rfl
  have hFc := va_free (wc := [(hf, .inr (4, [.ref hq, .ref hp, .ref hst, .ref hld])), (hld, .inr (2, [.ref bk, .ref br, .int cnt2])), (bk, .inl (dK, 300, .inl kg)), (br, .inl (dR, 300, .inl wg))]) hD hS hA [0, 1, 2, 3] rfl
  have hTzc := tZ.sub hTz hS hFc
  refine vx_calli (vx_runV (As := [.int a1, .int a2]) (rest := [.int 0, .ref ho9]) ⟨hx, hb, hml, hown, hts⟩ (c_place l dC dI s.heap.size hl9 hf hq hp hst hld bk br dK dR cnt2 kg wg n2 hn2 n20 n21 hkp a1 a2 k wt g1 g2) (aw_V 2 hts wd_517 wd_518 wd_519 wd_1 wd_520 rfl rfl (by decide +kernel) ⟨Nat.le_of_ble_eq_true rfl, Nat.le_of_ble_eq_true rfl⟩) ⟨tB_blind, va_recv hKc hPc (ci := 4) (q0 := 0) rfl rfl, tB_pre hPc hKc hDc hTx hTr hTzc⟩ rfl rfl hl.1 rfl (lv_room (Nat.le_of_ble_eq_true rfl)) d_Law_place_5 ⟨Nat.le_of_ble_eq_true rfl, Nat.le_of_ble_eq_true rfl⟩) hS (fun q _ h => hFc q h) hFc (fun q _ h => hFc q h) ?_ ?_
  · skip
    intro E ce q9 u9 t9 H5 locs ht hvm hpx hBx hz1 hk1 hS hce hcv hcl
    obtain ⟨eE, hP1, hK1, hD1⟩ := hBx
    rw [ht] at hP1
    obtain ⟨hP, hD⟩ := va_join (wr := [(ho9, .inl (kO, 1, .inr (.inl fo)))]) (w1 := [(hf, .inr (4, [.ref hq, .ref hp, .ref hst, .ref hld])), (hld, .inr (2, [.ref bk, .ref br, .int cnt2])), (bk, .inl (dK, 300, .inl kg)), (br, .inl (dR, 300, .inl wg))]) hP hD [0, 1, 2, 3] [4] rfl rfl (by decide) (by decide) hk1 hFc hP1 hD1
    have hP := hP.sub (ws' := [(hf, .inr (4, [.ref hq, .ref hp, .ref hst, .ref hld])), (hld, .inr (2, [.ref bk, .ref br, .int cnt2])), (bk, .inl (dK, 300, .inl kg)), (br, .inl (dR, 300, .inl wg)), (ho9, .inl (kO, 1, .inr (.inl fo)))]) [1, 2, 3, 4, 0] rfl
    have hD := hD.sub (ws' := [(hf, .inr (4, [.ref hq, .ref hp, .ref hst, .ref hld])), (hld, .inr (2, [.ref bk, .ref br, .int cnt2])), (bk, .inl (dK, 300, .inl kg)), (br, .inl (dR, 300, .inl wg)), (ho9, .inl (kO, 1, .inr (.inl fo)))]) [1, 2, 3, 4, 0] (by decide) rfl
    clear hPc hKc hDc hFc hTzc hP1 hD1 hK1 hk1 hz1
    refine vx_catch (name := R_IAE) hown [] ⟨0, 10, 13, 13⟩ [] htab (fun z hz => by cases hz) (by decide) (by decide) (hts _ wd_174) (by rw [eE]; exact va_tabs rfl rfl hTx.1) hce hcv hcl ?_
    refine W.widen (k := 1) (n := 6) (by decide) (by decide) ?_
    refine lv_astore (lv' := [(4, .ref q9), (0, .ref hf), (1, .int a1), (2, .int a2), (3, .ref ho9)]) hx hb d_Law_place_13 hl (by decide) rfl (fun ls hl => ?_)
    refine lv_iconst (v := 1) hx hb d_Law_place_15 (by decide) ?_
    have hpost : ((1 : Int32) = (1 : Int32) ∧ (¬ (0 ≤ wt ∧ wt ≤ 5)) ∧ fo = fo) ∨ ((1 : Int32) = (0 : Int32) ∧ ∃ v : Int32, fo 0 = v.toInt64 ∧ (0 ≤ wt ∧ wt ≤ 5) ∧ ((¬ (0 ≤ k ∧ k < n2) ∧ v.toInt = -1) ∨ ((0 ≤ k ∧ k < n2) ∧ v.toInt = plV (kg k.toNat).toInt (wg k.toNat).toInt wt))) := by
      exact Or.inl ⟨rfl, hpx, rfl⟩
    have hP9 := hP.sub (ws' := [(hf, .inr (4, [.ref hq, .ref hp, .ref hst, .ref hld])), (hld, .inr (2, [.ref bk, .ref br, .int cnt2])), (bk, .inl (dK, 300, .inl kg)), (br, .inl (dR, 300, .inl wg)), (ho9, .inl (kO, 1, .inr (.inl fo)))]) [0, 1, 2, 3, 4] rfl
    have hD9 := hD.sub (ws' := [(hf, .inr (4, [.ref hq, .ref hp, .ref hst, .ref hld])), (hld, .inr (2, [.ref bk, .ref br, .int cnt2])), (bk, .inl (dK, 300, .inl kg)), (br, .inl (dR, 300, .inl wg)), (ho9, .inl (kO, 1, .inr (.inl fo)))]) [0, 1, 2, 3, 4] (by decide) rfl
    have hK9 := hK.sub (tys' := [(dK, .int), (dR, .int), (kO, .long)]) [0, 1, 2] rfl
    refine W.widen (k := 1) (n := 6) (by decide) (by decide) ?_
    exact W.iret (v := 1) hx hb hr (fun t ht hW => ⟨⟨1, fo, rfl, hpost, by rw [ht]; exact hP9, va_K.moved hW.alike hK9, hD9⟩, hS.F ht⟩) hS.2.2 d_Law_place_16
  · skip
    intro v5 u5_w t9 H5 locs ht hvm h5 hB hz1 hk1 hS
    obtain ⟨hP1, hK1, hD1⟩ := hB
    rw [ht] at hP1
    try dsimp only at h5 hP1 hD1
    obtain ⟨hP, hD⟩ := va_join (wr := [(ho9, .inl (kO, 1, .inr (.inl fo)))]) (w1 := [(hf, .inr (4, [.ref hq, .ref hp, .ref hst, .ref hld])), (hld, .inr (2, [.ref bk, .ref br, .int cnt2])), (bk, .inl (dK, 300, .inl kg)), (br, .inl (dR, 300, .inl wg))]) hP hD [0, 1, 2, 3] [4] rfl rfl (by decide) (by decide) hk1 hFc hP1 hD1
    have hP := hP.sub (ws' := [(hf, .inr (4, [.ref hq, .ref hp, .ref hst, .ref hld])), (hld, .inr (2, [.ref bk, .ref br, .int cnt2])), (bk, .inl (dK, 300, .inl kg)), (br, .inl (dR, 300, .inl wg)), (ho9, .inl (kO, 1, .inr (.inl fo)))]) [1, 2, 3, 4, 0] rfl
    have hD := hD.sub (ws' := [(hf, .inr (4, [.ref hq, .ref hp, .ref hst, .ref hld])), (hld, .inr (2, [.ref bk, .ref br, .int cnt2])), (bk, .inl (dK, 300, .inl kg)), (br, .inl (dR, 300, .inl wg)), (ho9, .inl (kO, 1, .inr (.inl fo)))]) [1, 2, 3, 4, 0] (by decide) rfl
    clear hPc hKc hDc hFc hTzc hP1 hD1 hK1 hk1 hz1
    refine W.widen (k := 1) (n := 6) (by decide) (by decide) ?_
    refine lv_i2l hx hb d_Law_place_8 rfl ?_
    refine lv_topl (fun v8 e8 => ?_)
    have in9 : vp_in (0 : Int32) 1 := vi_in (show (0 : Int32).toInt = (0 : Int) by decide) (by omega) (by omega)
    refine va_last hx hb hK hP hD hS 4 2 rfl rfl in9 d_Law_place_9 (fun H9 locs hP hD hS => ?_)
    obtain ⟨f9, ef9⟩ : ∃ g, g = vp_updL fo ((0 : Int32)).toNatClampNeg v8 := ⟨_, rfl⟩
    have hP : va_P (dC, dI) vwCl [(hf, .inr (4, [.ref hq, .ref hp, .ref hst, .ref hld])), (hld, .inr (2, [.ref bk, .ref br, .int cnt2])), (bk, .inl (dK, 300, .inl kg)), (br, .inl (dR, 300, .inl wg)), (ho9, .inl (kO, 1, .inr (.inl f9)))] H9 := by rw [ef9]; exact hP
    have hD : va_D A [(hf, .inr (4, [.ref hq, .ref hp, .ref hst, .ref hld])), (hld, .inr (2, [.ref bk, .ref br, .int cnt2])), (bk, .inl (dK, 300, .inl kg)), (br, .inl (dR, 300, .inl wg)), (ho9, .inl (kO, 1, .inr (.inl f9)))] := by rw [ef9]; exact hD
    have ef9 : f9 = vp_updL fo ((0 : Int)).toNat v8 := by rw [ef9, vi_cl (show (0 : Int32).toInt = (0 : Int) by decide)]
    refine lv_goto (tgt := 17) hx hb d_Law_place_10 (by decide) ?_
    refine lv_iconst (v := 0) hx hb d_Law_place_17 (by decide) ?_
    have hpost : ((0 : Int32) = (1 : Int32) ∧ (¬ (0 ≤ wt ∧ wt ≤ 5)) ∧ f9 = fo) ∨ ((0 : Int32) = (0 : Int32) ∧ ∃ v : Int32, f9 0 = v.toInt64 ∧ (0 ≤ wt ∧ wt ≤ 5) ∧ ((¬ (0 ≤ k ∧ k < n2) ∧ v.toInt = -1) ∨ ((0 ≤ k ∧ k < n2) ∧ v.toInt = plV (kg k.toNat).toInt (wg k.toNat).toInt wt))) := by
      refine Or.inr ⟨rfl, v5, ?_, h5⟩
      rw [ef9]; show vp_updL fo 0 v8 0 = _; rw [pk_uLs, e8]
    have hP9 := hP.sub (ws' := [(hf, .inr (4, [.ref hq, .ref hp, .ref hst, .ref hld])), (hld, .inr (2, [.ref bk, .ref br, .int cnt2])), (bk, .inl (dK, 300, .inl kg)), (br, .inl (dR, 300, .inl wg)), (ho9, .inl (kO, 1, .inr (.inl f9)))]) [0, 1, 2, 3, 4] rfl
    have hD9 := hD.sub (ws' := [(hf, .inr (4, [.ref hq, .ref hp, .ref hst, .ref hld])), (hld, .inr (2, [.ref bk, .ref br, .int cnt2])), (bk, .inl (dK, 300, .inl kg)), (br, .inl (dR, 300, .inl wg)), (ho9, .inl (kO, 1, .inr (.inl f9)))]) [0, 1, 2, 3, 4] (by decide) rfl
    have hK9 := hK.sub (tys' := [(dK, .int), (dR, .int), (kO, .long)]) [0, 1, 2] rfl
    refine W.widen (k := 1) (n := 6) (by decide) (by decide) ?_
    exact W.iret (v := 0) hx hb hr (fun t ht hW => ⟨⟨0, f9, rfl, hpost, by rw [ht]; exact hP9, va_K.moved hW.alike hK9, hD9⟩, hS.F ht⟩) hS.2.2 d_Law_place_18

set_option maxHeartbeats 4000000 in
set_option maxRecDepth 100000 in
theorem l_modules (l : Launch) (dC : Nat → ClassId) (dI : Nat → Nat → Nat) (sz : Nat) (hl9 : l.stackTraces = false) (hf hq hst hld : Nat) (hp hw hs : Nat) (kW kS : ClassId) (pw ph psr : Int32) (fw : Nat → Int64) (fs : Nat → Int32) (Wd Ht : Int) (D : Int → Int → Bool) (hpw : pw.toInt = Wd) (hph : ph.toInt = Ht) (hW1 : 1 ≤ Wd) (hW2 : Wd ≤ 512) (hH1 : 1 ≤ Ht) (hH2 : Ht ≤ 512) (hbits : bOK fw D) (hsup : ∀ x y, D x y = true → 0 ≤ x ∧ x < Wd ∧ 0 ≤ y ∧ y < Ht) (bk br : Nat) (dK : ClassId) (cnt2 : Int32) (kg : Nat → Int32) (n2 : Int) (hn2 : cnt2.toInt = n2) (n20 : 0 ≤ n2) (n21 : n2 ≤ 300) (hkey : ∀ i : Nat, (i : Int) < n2 → ∃ X Y MM VV QQ, bnd5 X Y MM VV QQ ∧ (kg i).toInt = keyI X Y MM VV QQ ∧ X + MM * (17 + 4 * VV) ≤ Wd ∧ Y + MM * (17 + 4 * VV) ≤ Ht) (a1 a2 a3 : Int32) (k i j : Int) (g1 : a1.toInt = k) (g2 : a2.toInt = i) (g3 : a3.toInt = j) (ho9 : Nat) (kO : ClassId) (fo : Nat → Int64) : Met l y_Law_modules (.codeWith y_Law_modules b_Law_modules 6 (some .int) [(0, 11, 14, 34)] :: allw) ({ frames := 7, cells := 1, slots := 6, locals := 128 }) (va_Pc [.ref hf, .int a1, .int a2, .int a3, .ref ho9] (tB (dC, dI) vwCl [(hf, .inr (4, [.ref hq, .ref hp, .ref hst, .ref hld])), (hp, .inr (0, [.int pw, .int ph, .ref hw, .ref hs, .int psr])), (hw, .inl (kW, 4096, .inr (.inl fw))), (hs, .inl (kS, 263169, .inl fs)), (hld, .inr (2, [.ref bk, .ref br, .int cnt2])), (bk, .inl (dK, 300, .inl kg)), (ho9, .inl (kO, 1, .inr (.inl fo)))] [(kW, .long), (kS, .int), (dK, .int), (kO, .long)] sz R_IOB [(139, "there is no such place")])) (va_Qi (fun (r : Int32) (u : Nat → Int64) => (r = (1 : Int32) ∧ (¬ (0 ≤ k ∧ k < n2)) ∧ u = fo) ∨ (r = (0 : Int32) ∧ (0 ≤ k ∧ k < n2) ∧ ∃ X Y MM VV QQ, bnd5 X Y MM VV QQ ∧ (kg k.toNat).toInt = keyI X Y MM VV QQ ∧ ∀ t : Nat, t < 64 → lb (u 0) t = mcF D X Y MM (17 + 4 * VV) QQ j (i + t) 0)) (fun u t => rw_E (dC, dI) vwCl [(hf, .inr (4, [.ref hq, .ref hp, .ref hst, .ref hld])), (hp, .inr (0, [.int pw, .int ph, .ref hw, .ref hs, .int psr])), (hw, .inl (kW, 4096, .inr (.inl fw))), (hs, .inl (kS, 263169, .inl fs)), (hld, .inr (2, [.ref bk, .ref br, .int cnt2])), (bk, .inl (dK, 300, .inl kg)), (ho9, .inl (kO, 1, .inr (.inl u)))] [(kW, .long), (kS, .int), (dK, .int), (kO, .long)] (va_A [(hf, .inr (4, [.ref hq, .ref hp, .ref hst, .ref hld])), (hp, .inr (0, [.int pw, .int ph, .ref hw, .ref hs, .int psr])), (hw, .inl (kW, 4096, .inr (.inl fw))), (hs, .inl (kS, 263169, .inl fs)), (hld, .inr (2, [.ref bk, .ref br, .int cnt2])), (bk, .inl (dK, 300, .inl kg)), (ho9, .inl (kO, 1, .inr (.inl fo)))] sz) t) (va_A [(hf, .inr (4, [.ref hq, .ref hp, .ref hst, .ref hld])), (hp, .inr (0, [.int pw, .int ph, .ref hw, .ref hs, .int psr])), (hw, .inl (kW, 4096, .inr (.inl fw))), (hs, .inl (kS, 263169, .inl fs)), (hld, .inr (2, [.ref bk, .ref br, .int cnt2])), (bk, .inl (dK, 300, .inl kg)), (ho9, .inl (kO, 1, .inr (.inl fo)))] sz)) 1 6 (va_A [(hf, .inr (4, [.ref hq, .ref hp, .ref hst, .ref hld])), (hp, .inr (0, [.int pw, .int ph, .ref hw, .ref hs, .int psr])), (hw, .inl (kW, 4096, .inr (.inl fw))), (hs, .inl (kS, 263169, .inl fs)), (hld, .inr (2, [.ref bk, .ref br, .int cnt2])), (bk, .inl (dK, 300, .inl kg)), (ho9, .inl (kO, 1, .inr (.inl fo)))] sz) := by
  refine va_MetW (cc := b_Law_modules) (maxL := 6) (ret := (some .int)) (by decide) rfl ?_
  intro p e s m args below meth c s₁ B hml hv
  have htab := vx_table (x := y_Law_modules) B (atoms_spec (ws := .codeWith y_Law_modules b_Law_modules 6 (some .int) [(0, 11, 14, 34)] :: allw) B.pre _ List.mem_cons_self)
  obtain ⟨rfl, ⟨hsz, hP, hK, hD0⟩, hTx, hTr, hTz⟩ := hv
  have hx := B.exec
  have hb := B.bytes
  have hr := B.returns
  have hts : ∀ w ∈ allw, w.before _ s = true := fun w h => atoms_spec (ws := .codeWith y_Law_modules b_Law_modules 6 (some .int) [(0, 11, 14, 34)] :: allw) B.pre w (List.mem_cons_of_mem _ h)
  have hown : s.vm.findClass R_Law = some m.cls := findClass_of_methodNamed B.named
  have hlocks := B.notSynchronized
  subst hsz
  have hD := hD0.self (sz := s.heap.size)
  generalize hAe : va_A [(hf, .inr (4, [.ref hq, .ref hp, .ref hst, .ref hld])), (hp, .inr (0, [.int pw, .int ph, .ref hw, .ref hs, .int psr])), (hw, .inl (kW, 4096, .inr (.inl fw))), (hs, .inl (kS, 263169, .inl fs)), (hld, .inr (2, [.ref bk, .ref br, .int cnt2])), (bk, .inl (dK, 300, .inl kg)), (ho9, .inl (kO, 1, .inr (.inl fo)))] s.heap.size = A at hD hTz ⊢
  have hA : ∀ q : Nat, s.heap.size ≤ q → A q := fun q h => by rw [← hAe]; exact Or.inr h
  have hS : va_S A s.heap s.heap [] := va_S.rf
  have hP : va_P (dC, dI) vwCl [(hf, .inr (4, [.ref hq, .ref hp, .ref hst, .ref hld])), (hp, .inr (0, [.int pw, .int ph, .ref hw, .ref hs, .int psr])), (hw, .inl (kW, 4096, .inr (.inl fw))), (hs, .inl (kS, 263169, .inl fs)), (hld, .inr (2, [.ref bk, .ref br, .int cnt2])), (bk, .inl (dK, 300, .inl kg)), (ho9, .inl (kO, 1, .inr (.inl fo)))] s.heap := hP
  have hl := lv_entry ([.ref hf, .int a1, .int a2, .int a3, .ref ho9]) (n := 6) (Nat.le_of_ble_eq_true rfl)
  rw [lg_entry_eq]
  generalize (lg_sl ([.ref hf, .int a1, .int a2, .int a3, .ref ho9]) ++ List.replicate (6 - (lg_sl ([.ref hf, .int a1, .int a2, .int a3, .ref ho9])).length) Slot.unset).toArray = ls at hl ⊢
  have hl : lv_has ls 6 [(0, .ref hf), (1, .int a1), (2, .int a2), (3, .int a3), (4, .ref ho9)] := hl
  refine lv_aload hx hb d_Law_modules_0 (lv_at hl 4 rfl) ?_
  refine lv_iconst (v := 0) hx hb d_Law_modules_2 (by decide) ?_
  refine lv_aload_n hx hb d_Law_modules_3 rfl (lv_at hl 0 rfl) ?_
  refine lv_iload_n hx hb d_Law_modules_4 rfl (lv_at hl 1 rfl) ?_
  refine lv_iload_n hx hb d_Law_modules_5 rfl (lv_at hl 2 rfl) ?_
  refine lv_iload_n hx hb d_Law_modules_6 rfl (lv_at hl 3 rfl) ?_
  have hPc := hP.sub (ws' := [(hf, .inr (4, [.ref hq, .ref hp, .ref hst, .ref hld])), (hp, .inr (0, [.int pw, .int ph, .ref hw, .ref hs, .int psr])), (hw, .inl (kW, 4096, .inr (.inl fw))), (hs, .inl (kS, 263169, .inl fs)), (hld, .inr (2, [.ref bk, .ref br, .int cnt2])), (bk, .inl (dK, 300, .inl kg))]) [0, 1, 2, 3, 4, 5] rfl
  have hKc := hK.sub (tys' := [(kW, .long), (kS, .int), (dK, .int)]) [0, 1, 2] rfl
  have hDc := hD.sub (ws' := [(hf, .inr (4, [.ref hq, .ref hp, .ref hst, .ref hld])), (hp, .inr (0, [.int pw, .int ph, .ref hw, .ref hs, .int psr])), (hw, .inl (kW, 4096, .inr (.inl fw))), (hs, .inl (kS, 263169, .inl fs)), (hld, .inr (2, [.ref bk, .ref br, .int cnt2])), (bk, .inl (dK, 300, .inl kg))]) [0, 1, 2, 3, 4, 5] (by decide) rfl
  have hFc := va_free (wc := [(hf, .inr (4, [.ref hq, .ref hp, .ref hst, .ref hld])), (hp, .inr (0, [.int pw, .int ph, .ref hw, .ref hs, .int psr])), (hw, .inl (kW, 4096, .inr (.inl fw))), (hs, .inl (kS, 263169, .inl fs)), (hld, .inr (2, [.ref bk, .ref br, .int cnt2])), (bk, .inl (dK, 300, .inl kg))]) hD hS hA [0, 1, 2, 3, 4, 5] rfl
  have hTzc := tZ.sub hTz hS hFc
  refine vx_calll (vx_runV (As := [.int a1, .int a2, .int a3]) (rest := [.int 0, .ref ho9]) ⟨hx, hb, hml, hown, hts⟩ (c_modules l dC dI s.heap.size hl9 hf hq hst hld hp hw hs kW kS pw ph psr fw fs Wd Ht D hpw hph hW1 hW2 hH1 hH2 hbits hsup bk br dK cnt2 kg n2 hn2 n20 n21 hkey a1 a2 a3 k i j g1 g2 g3) (aw_V 3 hts wd_529 wd_530 wd_531 wd_1 wd_532 rfl rfl (by decide +kernel) ⟨Nat.le_of_ble_eq_true rfl, Nat.le_of_ble_eq_true rfl⟩) ⟨tB_blind, va_recv hKc hPc (ci := 4) (q0 := 0) rfl rfl, tB_pre hPc hKc hDc hTx hTr hTzc⟩ rfl rfl hl.1 rfl (lv_room (Nat.le_of_ble_eq_true rfl)) d_Law_modules_7 ⟨Nat.le_of_ble_eq_true rfl, Nat.le_of_ble_eq_true rfl⟩) hS (fun q _ h => hFc q h) hFc (fun q _ h => hFc q h) ?_ ?_
  · skip
    intro E ce q9 u9 t9 H7 locs ht hvm hpx hBx hz1 hk1 hS hce hcv hcl
    obtain ⟨eE, hP1, hK1, hD1⟩ := hBx
    rw [ht] at hP1
    obtain ⟨hP, hD⟩ := va_join (wr := [(ho9, .inl (kO, 1, .inr (.inl fo)))]) (w1 := [(hf, .inr (4, [.ref hq, .ref hp, .ref hst, .ref hld])), (hp, .inr (0, [.int pw, .int ph, .ref hw, .ref hs, .int psr])), (hw, .inl (kW, 4096, .inr (.inl fw))), (hs, .inl (kS, 263169, .inl fs)), (hld, .inr (2, [.ref bk, .ref br, .int cnt2])), (bk, .inl (dK, 300, .inl kg))]) hP hD [0, 1, 2, 3, 4, 5] [6] rfl rfl (by decide) (by decide) hk1 hFc hP1 hD1
    have hP := hP.sub (ws' := [(hf, .inr (4, [.ref hq, .ref hp, .ref hst, .ref hld])), (hp, .inr (0, [.int pw, .int ph, .ref hw, .ref hs, .int psr])), (hw, .inl (kW, 4096, .inr (.inl fw))), (hs, .inl (kS, 263169, .inl fs)), (hld, .inr (2, [.ref bk, .ref br, .int cnt2])), (bk, .inl (dK, 300, .inl kg)), (ho9, .inl (kO, 1, .inr (.inl fo)))]) [1, 2, 3, 4, 5, 6, 0] rfl
    have hD := hD.sub (ws' := [(hf, .inr (4, [.ref hq, .ref hp, .ref hst, .ref hld])), (hp, .inr (0, [.int pw, .int ph, .ref hw, .ref hs, .int psr])), (hw, .inl (kW, 4096, .inr (.inl fw))), (hs, .inl (kS, 263169, .inl fs)), (hld, .inr (2, [.ref bk, .ref br, .int cnt2])), (bk, .inl (dK, 300, .inl kg)), (ho9, .inl (kO, 1, .inr (.inl fo)))]) [1, 2, 3, 4, 5, 6, 0] (by decide) rfl
    clear hPc hKc hDc hFc hTzc hP1 hD1 hK1 hk1 hz1
    refine vx_catch (name := R_IOB) hown [] ⟨0, 11, 14, 34⟩ [] htab (fun z hz => by cases hz) (by decide) (by decide) (hts _ wd_528) (by rw [eE]; exact va_tabs rfl rfl hTx.1) hce hcv hcl ?_
    refine W.widen (k := 1) (n := 6) (by decide) (by decide) ?_
    refine lv_astore (lv' := [(5, .ref q9), (0, .ref hf), (1, .int a1), (2, .int a2), (3, .int a3), (4, .ref ho9)]) hx hb d_Law_modules_14 hl (by decide) rfl (fun ls hl => ?_)
    refine lv_iconst (v := 1) hx hb d_Law_modules_16 (by decide) ?_
    have hpost : ((1 : Int32) = (1 : Int32) ∧ (¬ (0 ≤ k ∧ k < n2)) ∧ fo = fo) ∨ ((1 : Int32) = (0 : Int32) ∧ (0 ≤ k ∧ k < n2) ∧ ∃ X Y MM VV QQ, bnd5 X Y MM VV QQ ∧ (kg k.toNat).toInt = keyI X Y MM VV QQ ∧ ∀ t : Nat, t < 64 → lb (fo 0) t = mcF D X Y MM (17 + 4 * VV) QQ j (i + t) 0) := by
      exact Or.inl ⟨rfl, hpx, rfl⟩
    have hP9 := hP.sub (ws' := [(hf, .inr (4, [.ref hq, .ref hp, .ref hst, .ref hld])), (hp, .inr (0, [.int pw, .int ph, .ref hw, .ref hs, .int psr])), (hw, .inl (kW, 4096, .inr (.inl fw))), (hs, .inl (kS, 263169, .inl fs)), (hld, .inr (2, [.ref bk, .ref br, .int cnt2])), (bk, .inl (dK, 300, .inl kg)), (ho9, .inl (kO, 1, .inr (.inl fo)))]) [0, 1, 2, 3, 4, 5, 6] rfl
    have hD9 := hD.sub (ws' := [(hf, .inr (4, [.ref hq, .ref hp, .ref hst, .ref hld])), (hp, .inr (0, [.int pw, .int ph, .ref hw, .ref hs, .int psr])), (hw, .inl (kW, 4096, .inr (.inl fw))), (hs, .inl (kS, 263169, .inl fs)), (hld, .inr (2, [.ref bk, .ref br, .int cnt2])), (bk, .inl (dK, 300, .inl kg)), (ho9, .inl (kO, 1, .inr (.inl fo)))]) [0, 1, 2, 3, 4, 5, 6] (by decide) rfl
    have hK9 := hK.sub (tys' := [(kW, .long), (kS, .int), (dK, .int), (kO, .long)]) [0, 1, 2, 3] rfl
    refine W.widen (k := 1) (n := 6) (by decide) (by decide) ?_
    exact W.iret (v := 1) hx hb hr (fun t ht hW => ⟨⟨1, fo, rfl, hpost, by rw [ht]; exact hP9, va_K.moved hW.alike hK9, hD9⟩, hS.F ht⟩) hS.2.2 d_Law_modules_17
  · skip
    intro v7 u7_w t9 H7 locs ht hvm h7 hB hz1 hk1 hS
    obtain ⟨hP1, hK1, hD1⟩ := hB
    rw [ht] at hP1
    try dsimp only at h7 hP1 hD1
    obtain ⟨hP, hD⟩ := va_join (wr := [(ho9, .inl (kO, 1, .inr (.inl fo)))]) (w1 := [(hf, .inr (4, [.ref hq, .ref hp, .ref hst, .ref hld])), (hp, .inr (0, [.int pw, .int ph, .ref hw, .ref hs, .int psr])), (hw, .inl (kW, 4096, .inr (.inl fw))), (hs, .inl (kS, 263169, .inl fs)), (hld, .inr (2, [.ref bk, .ref br, .int cnt2])), (bk, .inl (dK, 300, .inl kg))]) hP hD [0, 1, 2, 3, 4, 5] [6] rfl rfl (by decide) (by decide) hk1 hFc hP1 hD1
    have hP := hP.sub (ws' := [(hf, .inr (4, [.ref hq, .ref hp, .ref hst, .ref hld])), (hp, .inr (0, [.int pw, .int ph, .ref hw, .ref hs, .int psr])), (hw, .inl (kW, 4096, .inr (.inl fw))), (hs, .inl (kS, 263169, .inl fs)), (hld, .inr (2, [.ref bk, .ref br, .int cnt2])), (bk, .inl (dK, 300, .inl kg)), (ho9, .inl (kO, 1, .inr (.inl fo)))]) [1, 2, 3, 4, 5, 6, 0] rfl
    have hD := hD.sub (ws' := [(hf, .inr (4, [.ref hq, .ref hp, .ref hst, .ref hld])), (hp, .inr (0, [.int pw, .int ph, .ref hw, .ref hs, .int psr])), (hw, .inl (kW, 4096, .inr (.inl fw))), (hs, .inl (kS, 263169, .inl fs)), (hld, .inr (2, [.ref bk, .ref br, .int cnt2])), (bk, .inl (dK, 300, .inl kg)), (ho9, .inl (kO, 1, .inr (.inl fo)))]) [1, 2, 3, 4, 5, 6, 0] (by decide) rfl
    clear hPc hKc hDc hFc hTzc hP1 hD1 hK1 hk1 hz1
    refine W.widen (k := 1) (n := 6) (by decide) (by decide) ?_
    have in10 : vp_in (0 : Int32) 1 := vi_in (show (0 : Int32).toInt = (0 : Int) by decide) (by omega) (by omega)
    refine va_last hx hb hK hP hD hS 6 3 rfl rfl in10 d_Law_modules_10 (fun H10 locs hP hD hS => ?_)
    obtain ⟨f10, ef10⟩ : ∃ g, g = vp_updL fo ((0 : Int32)).toNatClampNeg v7 := ⟨_, rfl⟩
    have hP : va_P (dC, dI) vwCl [(hf, .inr (4, [.ref hq, .ref hp, .ref hst, .ref hld])), (hp, .inr (0, [.int pw, .int ph, .ref hw, .ref hs, .int psr])), (hw, .inl (kW, 4096, .inr (.inl fw))), (hs, .inl (kS, 263169, .inl fs)), (hld, .inr (2, [.ref bk, .ref br, .int cnt2])), (bk, .inl (dK, 300, .inl kg)), (ho9, .inl (kO, 1, .inr (.inl f10)))] H10 := by rw [ef10]; exact hP
    have hD : va_D A [(hf, .inr (4, [.ref hq, .ref hp, .ref hst, .ref hld])), (hp, .inr (0, [.int pw, .int ph, .ref hw, .ref hs, .int psr])), (hw, .inl (kW, 4096, .inr (.inl fw))), (hs, .inl (kS, 263169, .inl fs)), (hld, .inr (2, [.ref bk, .ref br, .int cnt2])), (bk, .inl (dK, 300, .inl kg)), (ho9, .inl (kO, 1, .inr (.inl f10)))] := by rw [ef10]; exact hD
    have ef10 : f10 = vp_updL fo ((0 : Int)).toNat v7 := by rw [ef10, vi_cl (show (0 : Int32).toInt = (0 : Int) by decide)]
    refine lv_goto (tgt := 18) hx hb d_Law_modules_11 (by decide) ?_
    refine lv_iconst (v := 0) hx hb d_Law_modules_18 (by decide) ?_
    have hpost : ((0 : Int32) = (1 : Int32) ∧ (¬ (0 ≤ k ∧ k < n2)) ∧ f10 = fo) ∨ ((0 : Int32) = (0 : Int32) ∧ (0 ≤ k ∧ k < n2) ∧ ∃ X Y MM VV QQ, bnd5 X Y MM VV QQ ∧ (kg k.toNat).toInt = keyI X Y MM VV QQ ∧ ∀ t : Nat, t < 64 → lb (f10 0) t = mcF D X Y MM (17 + 4 * VV) QQ j (i + t) 0) := by
      refine Or.inr ⟨rfl, ?_⟩
      have ez : f10 0 = v7 := by rw [ef10]; exact pk_uLs
      rw [ez]; exact h7
    have hP9 := hP.sub (ws' := [(hf, .inr (4, [.ref hq, .ref hp, .ref hst, .ref hld])), (hp, .inr (0, [.int pw, .int ph, .ref hw, .ref hs, .int psr])), (hw, .inl (kW, 4096, .inr (.inl fw))), (hs, .inl (kS, 263169, .inl fs)), (hld, .inr (2, [.ref bk, .ref br, .int cnt2])), (bk, .inl (dK, 300, .inl kg)), (ho9, .inl (kO, 1, .inr (.inl f10)))]) [0, 1, 2, 3, 4, 5, 6] rfl
    have hD9 := hD.sub (ws' := [(hf, .inr (4, [.ref hq, .ref hp, .ref hst, .ref hld])), (hp, .inr (0, [.int pw, .int ph, .ref hw, .ref hs, .int psr])), (hw, .inl (kW, 4096, .inr (.inl fw))), (hs, .inl (kS, 263169, .inl fs)), (hld, .inr (2, [.ref bk, .ref br, .int cnt2])), (bk, .inl (dK, 300, .inl kg)), (ho9, .inl (kO, 1, .inr (.inl f10)))]) [0, 1, 2, 3, 4, 5, 6] (by decide) rfl
    have hK9 := hK.sub (tys' := [(kW, .long), (kS, .int), (dK, .int), (kO, .long)]) [0, 1, 2, 3] rfl
    refine W.widen (k := 1) (n := 6) (by decide) (by decide) ?_
    exact W.iret (v := 0) hx hb hr (fun t ht hW => ⟨⟨0, f10, rfl, hpost, by rw [ht]; exact hP9, va_K.moved hW.alike hK9, hD9⟩, hS.F ht⟩) hS.2.2 d_Law_modules_19
