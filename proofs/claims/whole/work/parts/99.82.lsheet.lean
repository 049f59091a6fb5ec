set_option maxHeartbeats 4000000 in
set_option maxRecDepth 100000 in
theorem l_sheet (l : Launch) (dC : Nat → ClassId) (dI : Nat → Nat → Nat) (sz : Nat) (hl9 : l.stackTraces = false) (hf hq hst hld : Nat) (hp hw hs ak ar bk br : Nat) (kW : ClassId) (pw ph psr : Int32) (fw : Nat → Int64) (cnt cnt2 : Int32) (a1 a2 : Int32) (w h : Int) (g1 : a1.toInt = w) (g2 : a2.toInt = h) : Met l y_Law_sheet (.codeWith y_Law_sheet b_Law_sheet 4 (some .int) [(0, 6, 9, 13)] :: allw) ({ frames := 7, cells := 1, slots := 6, locals := 122 }) (va_Pc [.ref hf, .int a1, .int a2] (tB (dC, dI) vwCl [(hf, .inr (4, [.ref hq, .ref hp, .ref hst, .ref hld])), (hp, .inr (0, [.int pw, .int ph, .ref hw, .ref hs, .int psr])), (hw, .inl (kW, 4096, .inr (.inl fw))), (hst, .inr (2, [.ref ak, .ref ar, .int cnt])), (hld, .inr (2, [.ref bk, .ref br, .int cnt2]))] [(kW, .long)] sz R_IAE [(38, "width and height are 1 .. 512")])) (va_Qi (fun (r : Int32) (u : Int32 × Int32 × Int32 × (Nat → Int64) × Int32 × Int32) => (r = (1 : Int32) ∧ ¬ (1 ≤ w ∧ w ≤ 512 ∧ 1 ≤ h ∧ h ≤ 512) ∧ u.1 = pw ∧ u.2.1 = ph ∧ u.2.2.1 = psr ∧ u.2.2.2.1 = fw ∧ u.2.2.2.2.1 = cnt ∧ u.2.2.2.2.2 = cnt2) ∨ (r = (0 : Int32) ∧ (1 ≤ w ∧ w ≤ 512 ∧ 1 ≤ h ∧ h ≤ 512) ∧ u.1 = a1 ∧ u.2.1 = a2 ∧ u.2.2.1 = (0 : Int32) ∧ (∀ i : Nat, i < 4096 → u.2.2.2.1 i = 0) ∧ u.2.2.2.2.1 = (0 : Int32) ∧ u.2.2.2.2.2 = (0 : Int32))) (fun u t => rw_E (dC, dI) vwCl [(hf, .inr (4, [.ref hq, .ref hp, .ref hst, .ref hld])), (hp, .inr (0, [.int u.1, .int u.2.1, .ref hw, .ref hs, .int u.2.2.1])), (hw, .inl (kW, 4096, .inr (.inl u.2.2.2.1))), (hst, .inr (2, [.ref ak, .ref ar, .int u.2.2.2.2.1])), (hld, .inr (2, [.ref bk, .ref br, .int u.2.2.2.2.2]))] [(kW, .long)] (va_A [(hf, .inr (4, [.ref hq, .ref hp, .ref hst, .ref hld])), (hp, .inr (0, [.int pw, .int ph, .ref hw, .ref hs, .int psr])), (hw, .inl (kW, 4096, .inr (.inl fw))), (hst, .inr (2, [.ref ak, .ref ar, .int cnt])), (hld, .inr (2, [.ref bk, .ref br, .int cnt2]))] sz) t) (va_A [(hf, .inr (4, [.ref hq, .ref hp, .ref hst, .ref hld])), (hp, .inr (0, [.int pw, .int ph, .ref hw, .ref hs, .int psr])), (hw, .inl (kW, 4096, .inr (.inl fw))), (hst, .inr (2, [.ref ak, .ref ar, .int cnt])), (hld, .inr (2, [.ref bk, .ref br, .int cnt2]))] sz)) 1 6 (va_A [(hf, .inr (4, [.ref hq, .ref hp, .ref hst, .ref hld])), (hp, .inr (0, [.int pw, .int ph, .ref hw, .ref hs, .int psr])), (hw, .inl (kW, 4096, .inr (.inl fw))), (hst, .inr (2, [.ref ak, .ref ar, .int cnt])), (hld, .inr (2, [.ref bk, .ref br, .int cnt2]))] sz) := by
  refine va_MetW (cc := b_Law_sheet) (maxL := 4) (ret := (some .int)) (by decide) rfl ?_
  intro p e s m args below meth c s₁ B hml hv
  have htab := vx_table (x := y_Law_sheet) B (atoms_spec (ws := .codeWith y_Law_sheet b_Law_sheet 4 (some .int) [(0, 6, 9, 13)] :: allw) B.pre _ List.mem_cons_self)
  obtain ⟨rfl, ⟨hsz, hP, hK, hD0⟩, hTx, hTr, hTz⟩ := hv
  have hx := B.exec
  have hb := B.bytes
  have hr := B.returns
  have hts : ∀ w ∈ allw, w.before _ s = true := fun w h => atoms_spec (ws := .codeWith y_Law_sheet b_Law_sheet 4 (some .int) [(0, 6, 9, 13)] :: allw) B.pre w (List.mem_cons_of_mem _ h)
  have hown : s.vm.findClass R_Law = some m.cls := findClass_of_methodNamed B.named
  have hlocks := B.notSynchronized
  subst hsz
  have hD := hD0.self (sz := s.heap.size)
  generalize hAe : va_A [(hf, .inr (4, [.ref hq, .ref hp, .ref hst, .ref hld])), (hp, .inr (0, [.int pw, .int ph, .ref hw, .ref hs, .int psr])), (hw, .inl (kW, 4096, .inr (.inl fw))), (hst, .inr (2, [.ref ak, .ref ar, .int cnt])), (hld, .inr (2, [.ref bk, .ref br, .int cnt2]))] s.heap.size = A at hD hTz ⊢
  have hA : ∀ q : Nat, s.heap.size ≤ q → A q := fun q h => by rw [← hAe]; exact Or.inr h
  have hS : va_S A s.heap s.heap [] := va_S.rf
  have hP : va_P (dC, dI) vwCl [(hf, .inr (4, [.ref hq, .ref hp, .ref hst, .ref hld])), (hp, .inr (0, [.int pw, .int ph, .ref hw, .ref hs, .int psr])), (hw, .inl (kW, 4096, .inr (.inl fw))), (hst, .inr (2, [.ref ak, .ref ar, .int cnt])), (hld, .inr (2, [.ref bk, .ref br, .int cnt2]))] s.heap := hP
  have hl := lv_entry ([.ref hf, .int a1, .int a2]) (n := 4) (Nat.le_of_ble_eq_true rfl)
  rw [lg_entry_eq]
  generalize (lg_sl ([.ref hf, .int a1, .int a2]) ++ List.replicate (4 - (lg_sl ([.ref hf, .int a1, .int a2])).length) Slot.unset).toArray = ls at hl ⊢
  have hl : lv_has ls 4 [(0, .ref hf), (1, .int a1), (2, .int a2)] := hl
  refine lv_aload_n hx hb d_Law_sheet_0 rfl (lv_at hl 0 rfl) ?_
  refine lv_iload_n hx hb d_Law_sheet_1 rfl (lv_at hl 1 rfl) ?_
  refine lv_iload_n hx hb d_Law_sheet_2 rfl (lv_at hl 2 rfl) ?_
  have hPc := hP.sub (ws' := [(hf, .inr (4, [.ref hq, .ref hp, .ref hst, .ref hld])), (hp, .inr (0, [.int pw, .int ph, .ref hw, .ref hs, .int psr])), (hw, .inl (kW, 4096, .inr (.inl fw))), (hst, .inr (2, [.ref ak, .ref ar, .int cnt])), (hld, .inr (2, [.ref bk, .ref br, .int cnt2]))]) [0, 1, 2, 3, 4] rfl
  have hKc := hK.sub (tys' := [(kW, .long)]) [0] rfl
  have hDc := hD.sub (ws' := [(hf, .inr (4, [.ref hq, .ref hp, .ref hst, .ref hld])), (hp, .inr (0, [.int pw, .int ph, .ref hw, .ref hs, .int psr])), (hw, .inl (kW, 4096, .inr (.inl fw))), (hst, .inr (2, [.ref ak, .ref ar, .int cnt])), (hld, .inr (2, [.ref bk, .ref br, .int cnt2]))]) [0, 1, 2, 3, 4] (by decide) rfl
  have hFc := va_free (wc := [(hf, .inr (4, [.ref hq, .ref hp, .ref hst, .ref hld])), (hp, .inr (0, [.int pw, .int ph, .ref hw, .ref hs, .int psr])), (hw, .inl (kW, 4096, .inr (.inl fw))), (hst, .inr (2, [.ref ak, .ref ar, .int cnt])), (hld, .inr (2, [.ref bk, .ref br, .int cnt2]))]) hD hS hA [0, 1, 2, 3, 4] rfl
  have hTzc := tZ.sub hTz hS hFc
  refine vx_callv (vx_runV (As := [.int a1, .int a2]) (rest := []) ⟨hx, hb, hml, hown, hts⟩ (c_sheet l dC dI s.heap.size hl9 hf hq hst hld hp hw hs ak ar bk br kW pw ph psr fw cnt cnt2 a1 a2 w h g1 g2) (aw_V 2 hts wd_175 wd_176 wd_177 wd_1 wd_178 rfl rfl (by decide +kernel) ⟨Nat.le_of_ble_eq_true rfl, Nat.le_of_ble_eq_true rfl⟩) ⟨tB_blind, va_recv hKc hPc (ci := 4) (q0 := 0) rfl rfl, tB_pre hPc hKc hDc hTx hTr hTzc⟩ rfl rfl hl.1 rfl (lv_room (Nat.le_of_ble_eq_true rfl)) d_Law_sheet_3 ⟨Nat.le_of_ble_eq_true rfl, Nat.le_of_ble_eq_true rfl⟩) hS (fun q _ h => hFc q h) hFc (fun q _ h => hFc q h) ?_ ?_
  · skip
    intro E ce q9 u9 t9 H3 locs ht hvm hpx hBx hz1 hk1 hS hce hcv hcl
    obtain ⟨eE, hP1, hK1, hD1⟩ := hBx
    rw [ht] at hP1
    obtain ⟨hP, hD⟩ := va_join (wr := []) (w1 := [(hf, .inr (4, [.ref hq, .ref hp, .ref hst, .ref hld])), (hp, .inr (0, [.int pw, .int ph, .ref hw, .ref hs, .int psr])), (hw, .inl (kW, 4096, .inr (.inl fw))), (hst, .inr (2, [.ref ak, .ref ar, .int cnt])), (hld, .inr (2, [.ref bk, .ref br, .int cnt2]))]) hP hD [0, 1, 2, 3, 4] [] rfl rfl (by decide) (by decide) hk1 hFc hP1 hD1
    have hP := hP.sub (ws' := [(hf, .inr (4, [.ref hq, .ref hp, .ref hst, .ref hld])), (hp, .inr (0, [.int pw, .int ph, .ref hw, .ref hs, .int psr])), (hw, .inl (kW, 4096, .inr (.inl fw))), (hst, .inr (2, [.ref ak, .ref ar, .int cnt])), (hld, .inr (2, [.ref bk, .ref br, .int cnt2]))]) [0, 1, 2, 3, 4] rfl
    have hD := hD.sub (ws' := [(hf, .inr (4, [.ref hq, .ref hp, .ref hst, .ref hld])), (hp, .inr (0, [.int pw, .int ph, .ref hw, .ref hs, .int psr])), (hw, .inl (kW, 4096, .inr (.inl fw))), (hst, .inr (2, [.ref ak, .ref ar, .int cnt])), (hld, .inr (2, [.ref bk, .ref br, .int cnt2]))]) [0, 1, 2, 3, 4] (by decide) rfl
    clear hPc hKc hDc hFc hTzc hP1 hD1 hK1 hk1 hz1
    refine vx_catch (name := R_IAE) hown [] ⟨0, 6, 9, 13⟩ [] htab (fun z hz => by cases hz) (by decide) (by decide) (hts _ wd_174) (by rw [eE]; exact va_tabs rfl rfl hTx.1) hce hcv hcl ?_
    refine W.widen (k := 1) (n := 6) (by decide) (by decide) ?_
    refine lv_astore_n (lv' := [(3, .ref q9), (0, .ref hf), (1, .int a1), (2, .int a2)]) hx hb d_Law_sheet_9 rfl hl (by decide) rfl (fun ls hl => ?_)
    refine lv_iconst (v := 1) hx hb d_Law_sheet_10 (by decide) ?_
    have hpost : ((1 : Int32) = (1 : Int32) ∧ ¬ (1 ≤ w ∧ w ≤ 512 ∧ 1 ≤ h ∧ h ≤ 512) ∧ pw = pw ∧ ph = ph ∧ psr = psr ∧ fw = fw ∧ cnt = cnt ∧ cnt2 = cnt2) ∨ ((1 : Int32) = (0 : Int32) ∧ (1 ≤ w ∧ w ≤ 512 ∧ 1 ≤ h ∧ h ≤ 512) ∧ pw = a1 ∧ ph = a2 ∧ psr = (0 : Int32) ∧ (∀ i : Nat, i < 4096 → fw i = 0) ∧ cnt = (0 : Int32) ∧ cnt2 = (0 : Int32)) := by
      exact Or.inl ⟨rfl, hpx, rfl, rfl, rfl, rfl, rfl, rfl⟩
    have hP9 := hP.sub (ws' := [(hf, .inr (4, [.ref hq, .ref hp, .ref hst, .ref hld])), (hp, .inr (0, [.int pw, .int ph, .ref hw, .ref hs, .int psr])), (hw, .inl (kW, 4096, .inr (.inl fw))), (hst, .inr (2, [.ref ak, .ref ar, .int cnt])), (hld, .inr (2, [.ref bk, .ref br, .int cnt2]))]) [0, 1, 2, 3, 4] rfl
    have hD9 := hD.sub (ws' := [(hf, .inr (4, [.ref hq, .ref hp, .ref hst, .ref hld])), (hp, .inr (0, [.int pw, .int ph, .ref hw, .ref hs, .int psr])), (hw, .inl (kW, 4096, .inr (.inl fw))), (hst, .inr (2, [.ref ak, .ref ar, .int cnt])), (hld, .inr (2, [.ref bk, .ref br, .int cnt2]))]) [0, 1, 2, 3, 4] (by decide) rfl
    have hK9 := hK.sub (tys' := [(kW, .long)]) [0] rfl
    refine W.widen (k := 1) (n := 6) (by decide) (by decide) ?_
    exact W.iret (v := 1) hx hb hr (fun t ht hW => ⟨⟨1, (pw, ph, psr, fw, cnt, cnt2), rfl, hpost, by rw [ht]; exact hP9, va_K.moved hW.alike hK9, hD9⟩, hS.F ht⟩) hS.2.2 d_Law_sheet_11
  · skip
    intro u3_fw t9 H3 locs ht hvm h3 hB hz1 hk1 hS
    obtain ⟨hP1, hK1, hD1⟩ := hB
    rw [ht] at hP1
    try dsimp only at h3 hP1 hD1
    obtain ⟨hP, hD⟩ := va_join (wr := []) (w1 := [(hf, .inr (4, [.ref hq, .ref hp, .ref hst, .ref hld])), (hp, .inr (0, [.int a1, .int a2, .ref hw, .ref hs, .int 0])), (hw, .inl (kW, 4096, .inr (.inl u3_fw))), (hst, .inr (2, [.ref ak, .ref ar, .int 0])), (hld, .inr (2, [.ref bk, .ref br, .int 0]))]) hP hD [0, 1, 2, 3, 4] [] rfl rfl (by decide) (by decide) hk1 hFc hP1 hD1
    have hP := hP.sub (ws' := [(hf, .inr (4, [.ref hq, .ref hp, .ref hst, .ref hld])), (hp, .inr (0, [.int a1, .int a2, .ref hw, .ref hs, .int 0])), (hw, .inl (kW, 4096, .inr (.inl u3_fw))), (hst, .inr (2, [.ref ak, .ref ar, .int 0])), (hld, .inr (2, [.ref bk, .ref br, .int 0]))]) [0, 1, 2, 3, 4] rfl
    have hD := hD.sub (ws' := [(hf, .inr (4, [.ref hq, .ref hp, .ref hst, .ref hld])), (hp, .inr (0, [.int a1, .int a2, .ref hw, .ref hs, .int 0])), (hw, .inl (kW, 4096, .inr (.inl u3_fw))), (hst, .inr (2, [.ref ak, .ref ar, .int 0])), (hld, .inr (2, [.ref bk, .ref br, .int 0]))]) [0, 1, 2, 3, 4] (by decide) rfl
    clear hPc hKc hDc hFc hTzc hP1 hD1 hK1 hk1 hz1
    refine W.widen (k := 1) (n := 6) (by decide) (by decide) ?_
    refine lv_goto (tgt := 12) hx hb d_Law_sheet_6 (by decide) ?_
    refine lv_iconst (v := 0) hx hb d_Law_sheet_12 (by decide) ?_
    have hpost : ((0 : Int32) = (1 : Int32) ∧ ¬ (1 ≤ w ∧ w ≤ 512 ∧ 1 ≤ h ∧ h ≤ 512) ∧ a1 = pw ∧ a2 = ph ∧ 0 = psr ∧ u3_fw = fw ∧ 0 = cnt ∧ 0 = cnt2) ∨ ((0 : Int32) = (0 : Int32) ∧ (1 ≤ w ∧ w ≤ 512 ∧ 1 ≤ h ∧ h ≤ 512) ∧ a1 = a1 ∧ a2 = a2 ∧ 0 = (0 : Int32) ∧ (∀ i : Nat, i < 4096 → u3_fw i = 0) ∧ 0 = (0 : Int32) ∧ 0 = (0 : Int32)) := by
      exact Or.inr ⟨rfl, h3.1, rfl, rfl, rfl, h3.2, rfl, rfl⟩
    have hP9 := hP.sub (ws' := [(hf, .inr (4, [.ref hq, .ref hp, .ref hst, .ref hld])), (hp, .inr (0, [.int a1, .int a2, .ref hw, .ref hs, .int 0])), (hw, .inl (kW, 4096, .inr (.inl u3_fw))), (hst, .inr (2, [.ref ak, .ref ar, .int 0])), (hld, .inr (2, [.ref bk, .ref br, .int 0]))]) [0, 1, 2, 3, 4] rfl
    have hD9 := hD.sub (ws' := [(hf, .inr (4, [.ref hq, .ref hp, .ref hst, .ref hld])), (hp, .inr (0, [.int a1, .int a2, .ref hw, .ref hs, .int 0])), (hw, .inl (kW, 4096, .inr (.inl u3_fw))), (hst, .inr (2, [.ref ak, .ref ar, .int 0])), (hld, .inr (2, [.ref bk, .ref br, .int 0]))]) [0, 1, 2, 3, 4] (by decide) rfl
    have hK9 := hK.sub (tys' := [(kW, .long)]) [0] rfl
    refine W.widen (k := 1) (n := 6) (by decide) (by decide) ?_
    exact W.iret (v := 0) hx hb hr (fun t ht hW => ⟨⟨0, (a1, a2, 0, u3_fw, 0, 0), rfl, hpost, by rw [ht]; exact hP9, va_K.moved hW.alike hK9, hD9⟩, hS.F ht⟩) hS.2.2 d_Law_sheet_13
