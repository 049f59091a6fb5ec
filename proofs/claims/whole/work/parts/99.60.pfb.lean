set_option maxHeartbeats 4000000 in
set_option maxRecDepth 100000 in
theorem c_turn (l : Launch) (dC : Nat → ClassId) (dI : Nat → Nat → Nat) (sz : Nat) (hf hq hst hld : Nat) (hp hw hs : Nat) (kW kS : ClassId) (pw ph psr : Int32) (fw : Nat → Int64) (fs : Nat → Int32) (Wd Ht : Int) (D : Int → Int → Bool) (hpw : pw.toInt = Wd) (hph : ph.toInt = Ht) (hW1 : 1 ≤ Wd) (hW2 : Wd ≤ 512) (hH1 : 1 ≤ Ht) (hH2 : Ht ≤ 512) (hbits : bOK fw D) (SR : Int) (hsr : psr.toInt = SR) (hsr0 : 0 ≤ SR) (hsr1 : SR ≤ Ht) (hsk : sK fs D Wd SR) (a1 a2 : Int32) (a3 : Int64) (x y : Int) (g1 : a1.toInt = x) (g2 : a2.toInt = y) : Met l y_PF_turn (.code y_PF_turn b_PF_turn 5 (some .int) :: allw) ({ frames := 2, cells := 0, slots := 0, locals := 50 }) (va_Pc [.ref hf, .int a1, .int a2, .long a3] (rw_B (dC, dI) vwCl [(hf, .inr (4, [.ref hq, .ref hp, .ref hst, .ref hld])), (hp, .inr (0, [.int pw, .int ph, .ref hw, .ref hs, .int psr])), (hw, .inl (kW, 4096, .inr (.inl fw))), (hs, .inl (kS, 263169, .inl fs))] [(kW, .long), (kS, .int)] sz)) (va_Qi (fun (r : Int32) (u : (Nat → Int64) × Int32) => r.toInt = nb (flF Wd Ht x y a3) 64 ∧ bOK u.1 (flD D Wd Ht x y a3 64) ∧ 0 ≤ (u.2 : Int32).toInt ∧ (u.2 : Int32).toInt ≤ SR ∧ sK fs (flD D Wd Ht x y a3 64) Wd (u.2 : Int32).toInt) (fun u t => rw_E (dC, dI) vwCl [(hf, .inr (4, [.ref hq, .ref hp, .ref hst, .ref hld])), (hp, .inr (0, [.int pw, .int ph, .ref hw, .ref hs, .int u.2])), (hw, .inl (kW, 4096, .inr (.inl u.1))), (hs, .inl (kS, 263169, .inl fs))] [(kW, .long), (kS, .int)] (va_A [(hf, .inr (4, [.ref hq, .ref hp, .ref hst, .ref hld])), (hp, .inr (0, [.int pw, .int ph, .ref hw, .ref hs, .int psr])), (hw, .inl (kW, 4096, .inr (.inl fw))), (hs, .inl (kS, 263169, .inl fs))] sz) t) (va_A [(hf, .inr (4, [.ref hq, .ref hp, .ref hst, .ref hld])), (hp, .inr (0, [.int pw, .int ph, .ref hw, .ref hs, .int psr])), (hw, .inl (kW, 4096, .inr (.inl fw))), (hs, .inl (kS, 263169, .inl fs))] sz)) 0 0 (va_A [(hf, .inr (4, [.ref hq, .ref hp, .ref hst, .ref hld])), (hp, .inr (0, [.int pw, .int ph, .ref hw, .ref hs, .int psr])), (hw, .inl (kW, 4096, .inr (.inl fw))), (hs, .inl (kS, 263169, .inl fs))] sz) := by
  refine Met.ofW (cc := b_PF_turn) (maxL := 5) (ret := (some .int)) (by decide) rfl ?_
  intro p e s m args below meth c s₁ B hml hv
  obtain ⟨rfl, hsz, hP, hK, hD0⟩ := hv
  have hx := B.exec
  have hb := B.bytes
  have hr := B.returns
  have hts : ∀ w ∈ allw, w.before _ s = true := fun w h => atoms_spec (ws := .code y_PF_turn b_PF_turn 5 (some .int) :: allw) B.pre w (List.mem_cons_of_mem _ h)
  have hown : s.vm.findClass R_PF = some m.cls := findClass_of_methodNamed B.named
  have hlocks := B.notSynchronized
  subst hsz
  have hD := hD0.self (sz := s.heap.size)
  generalize hAe : va_A [(hf, .inr (4, [.ref hq, .ref hp, .ref hst, .ref hld])), (hp, .inr (0, [.int pw, .int ph, .ref hw, .ref hs, .int psr])), (hw, .inl (kW, 4096, .inr (.inl fw))), (hs, .inl (kS, 263169, .inl fs))] s.heap.size = A at hD ⊢
  have hA : ∀ q : Nat, s.heap.size ≤ q → A q := fun q h => by rw [← hAe]; exact Or.inr h
  have hS : va_S A s.heap s.heap [] := va_S.rf
  have hP : va_P (dC, dI) vwCl [(hf, .inr (4, [.ref hq, .ref hp, .ref hst, .ref hld])), (hp, .inr (0, [.int pw, .int ph, .ref hw, .ref hs, .int psr])), (hw, .inl (kW, 4096, .inr (.inl fw))), (hs, .inl (kS, 263169, .inl fs))] s.heap := hP
  have hl := lv_entry ([.ref hf, .int a1, .int a2, .long a3]) (n := 5) (Nat.le_of_ble_eq_true rfl)
  rw [lg_entry_eq]
  generalize (lg_sl ([.ref hf, .int a1, .int a2, .long a3]) ++ List.replicate (5 - (lg_sl ([.ref hf, .int a1, .int a2, .long a3])).length) Slot.unset).toArray = ls at hl ⊢
  have hl : lv_has ls 5 [(0, .ref hf), (1, .int a1), (2, .int a2), (3, .long a3)] := hl
  refine lv_aload_n hx hb d_PF_turn_0 rfl (lv_at hl 0 rfl) ?_
  refine va_get (D := (dC, dI)) (ci := 4) (v := .ref hp) (C := R_PF) (T := T_PF) (N := 4) hx hb hts i_PF hown hK hP 0 rfl rfl 1 (by decide) (hts _ wd_127) (fun _ h9 => h9) rfl d_PF_turn_1 ?_
  refine lv_iload_n hx hb d_PF_turn_4 rfl (lv_at hl 1 rfl) ?_
  refine lv_iload_n hx hb d_PF_turn_5 rfl (lv_at hl 2 rfl) ?_
  refine lv_lload_n hx hb d_PF_turn_6 rfl (lv_at hl 3 rfl) ?_
  have hPc := hP.sub (ws' := [(hp, .inr (0, [.int pw, .int ph, .ref hw, .ref hs, .int psr])), (hw, .inl (kW, 4096, .inr (.inl fw))), (hs, .inl (kS, 263169, .inl fs))]) [1, 2, 3] rfl
  have hKc := hK.sub (tys' := [(kW, .long), (kS, .int)]) [0, 1] rfl
  have hDc := hD.sub (ws' := [(hp, .inr (0, [.int pw, .int ph, .ref hw, .ref hs, .int psr])), (hw, .inl (kW, 4096, .inr (.inl fw))), (hs, .inl (kS, 263169, .inl fs))]) [1, 2, 3] (by decide) rfl
  have hFc := va_free (wc := [(hp, .inr (0, [.int pw, .int ph, .ref hw, .ref hs, .int psr])), (hw, .inl (kW, 4096, .inr (.inl fw))), (hs, .inl (kS, 263169, .inl fs))]) hD hS hA [1, 2, 3] rfl
  refine va_calli (va_runV (As := [.int a1, .int a2, .long a3]) (rest := []) ⟨hx, hb, hml, hown, hts⟩ (c_flip l dC dI s.heap.size hp hw hs kW kS pw ph psr fw fs Wd Ht D hpw hph hW1 hW2 hH1 hH2 hbits SR hsr hsr0 hsr1 hsk a1 a2 a3 x y g1 g2) (aw_V 3 hts wd_143 wd_144 wd_145 wd_3 wd_146 rfl rfl (by decide +kernel) ⟨Nat.le_of_ble_eq_true rfl, Nat.le_of_ble_eq_true rfl⟩) ⟨rw_blind, va_recv hKc hPc (ci := 0) (q0 := 0) rfl rfl, rw_pre hPc hKc hDc⟩ rfl rfl hl.1 rfl (lv_room (Nat.le_of_ble_eq_true rfl)) d_PF_turn_7 ⟨Nat.le_of_ble_eq_true rfl, Nat.le_of_ble_eq_true rfl⟩) hS (fun q _ h => hFc q h) hFc (fun v7 u t9 H7 locs ht hvm h7 hB hz1 hk1 hS => ?_)
  obtain ⟨u7_fw, u7_sr⟩ := u
  obtain ⟨hP1, hK1, hD1⟩ := hB
  rw [ht] at hP1
  try dsimp only at h7 hP1 hD1
  obtain ⟨hP, hD⟩ := va_join (wr := [(hf, .inr (4, [.ref hq, .ref hp, .ref hst, .ref hld]))]) (w1 := [(hp, .inr (0, [.int pw, .int ph, .ref hw, .ref hs, .int u7_sr])), (hw, .inl (kW, 4096, .inr (.inl u7_fw))), (hs, .inl (kS, 263169, .inl fs))]) hP hD [1, 2, 3] [0] rfl rfl (by decide) (by decide) hk1 hFc hP1 hD1
  have hP := hP.sub (ws' := [(hf, .inr (4, [.ref hq, .ref hp, .ref hst, .ref hld])), (hp, .inr (0, [.int pw, .int ph, .ref hw, .ref hs, .int u7_sr])), (hw, .inl (kW, 4096, .inr (.inl u7_fw))), (hs, .inl (kS, 263169, .inl fs))]) [0, 1, 2, 3] rfl
  have hD := hD.sub (ws' := [(hf, .inr (4, [.ref hq, .ref hp, .ref hst, .ref hld])), (hp, .inr (0, [.int pw, .int ph, .ref hw, .ref hs, .int u7_sr])), (hw, .inl (kW, 4096, .inr (.inl u7_fw))), (hs, .inl (kS, 263169, .inl fs))]) [0, 1, 2, 3] (by decide) rfl
  clear hPc hKc hDc hFc ht hvm hz1 hk1 hP1 hD1 hK1
  have hpost : (v7 : Int32).toInt = nb (flF Wd Ht x y a3) 64 ∧ bOK u7_fw (flD D Wd Ht x y a3 64) ∧ 0 ≤ (u7_sr : Int32).toInt ∧ (u7_sr : Int32).toInt ≤ SR ∧ sK fs (flD D Wd Ht x y a3 64) Wd (u7_sr : Int32).toInt := by
    exact h7
  have hP9 := hP.sub (ws' := [(hf, .inr (4, [.ref hq, .ref hp, .ref hst, .ref hld])), (hp, .inr (0, [.int pw, .int ph, .ref hw, .ref hs, .int u7_sr])), (hw, .inl (kW, 4096, .inr (.inl u7_fw))), (hs, .inl (kS, 263169, .inl fs))]) [0, 1, 2, 3] rfl
  have hD9 := hD.sub (ws' := [(hf, .inr (4, [.ref hq, .ref hp, .ref hst, .ref hld])), (hp, .inr (0, [.int pw, .int ph, .ref hw, .ref hs, .int u7_sr])), (hw, .inl (kW, 4096, .inr (.inl u7_fw))), (hs, .inl (kS, 263169, .inl fs))]) [0, 1, 2, 3] (by decide) rfl
  have hK9 := hK.sub (tys' := [(kW, .long), (kS, .int)]) [0, 1] rfl
  exact W.iret (v := v7) hx hb hr (fun t ht hW => ⟨⟨v7, (u7_fw, u7_sr), rfl, hpost, by rw [ht]; exact hP9, va_K.moved hW.alike hK9, hD9⟩, hS.F ht⟩) hS.2.2 d_PF_turn_10

set_option maxHeartbeats 4000000 in
set_option maxRecDepth 100000 in
theorem c_dots (l : Launch) (dC : Nat → ClassId) (dI : Nat → Nat → Nat) (hf hq hst hld : Nat) (hp hw hs : Nat) (kW kS : ClassId) (pw ph psr : Int32) (fw : Nat → Int64) (fs : Nat → Int32) (Wd Ht : Int) (D : Int → Int → Bool) (hpw : pw.toInt = Wd) (hph : ph.toInt = Ht) (hW1 : 1 ≤ Wd) (hW2 : Wd ≤ 512) (hH1 : 1 ≤ Ht) (hH2 : Ht ≤ 512) (hbits : bOK fw D) (hsup : ∀ x y, D x y = true → 0 ≤ x ∧ x < Wd ∧ 0 ≤ y ∧ y < Ht) (a1 a2 : Int32) (x y : Int) (g1 : a1.toInt = x) (g2 : a2.toInt = y) : Met l y_PF_dots (.code y_PF_dots b_PF_dots 3 (some .long) :: allw) ({ frames := 1, cells := 0, slots := 0, locals := 27 }) (va_Pc [.ref hf, .int a1, .int a2] (ro_B (dC, dI) vwCl [(hf, .inr (4, [.ref hq, .ref hp, .ref hst, .ref hld])), (hp, .inr (0, [.int pw, .int ph, .ref hw, .ref hs, .int psr])), (hw, .inl (kW, 4096, .inr (.inl fw))), (hs, .inl (kS, 263169, .inl fs))] [(kW, .long), (kS, .int)])) (va_Ql (fun (r : Int64) (_ : Unit) => ∀ i : Nat, i < 64 → lb r i = D (x + i) y) (fun _ _ => True) (fun _ => False)) 0 0 (fun _ => False) := by
  refine Met.ofW (cc := b_PF_dots) (maxL := 3) (ret := (some .long)) (by decide) rfl ?_
  intro p e s m args below meth c s₁ B hml hv
  obtain ⟨rfl, hP, hK⟩ := hv
  have hx := B.exec
  have hb := B.bytes
  have hr := B.returns
  have hts : ∀ w ∈ allw, w.before _ s = true := fun w h => atoms_spec (ws := .code y_PF_dots b_PF_dots 3 (some .long) :: allw) B.pre w (List.mem_cons_of_mem _ h)
  have hown : s.vm.findClass R_PF = some m.cls := findClass_of_methodNamed B.named
  have hlocks := B.notSynchronized
  have hS : va_S (fun _ => False) s.heap s.heap [] := va_S.rf
  have hP : va_P (dC, dI) vwCl [(hf, .inr (4, [.ref hq, .ref hp, .ref hst, .ref hld])), (hp, .inr (0, [.int pw, .int ph, .ref hw, .ref hs, .int psr])), (hw, .inl (kW, 4096, .inr (.inl fw))), (hs, .inl (kS, 263169, .inl fs))] s.heap := hP
  have hl := lv_entry ([.ref hf, .int a1, .int a2]) (n := 3) (Nat.le_of_ble_eq_true rfl)
  rw [lg_entry_eq]
  generalize (lg_sl ([.ref hf, .int a1, .int a2]) ++ List.replicate (3 - (lg_sl ([.ref hf, .int a1, .int a2])).length) Slot.unset).toArray = ls at hl ⊢
  have hl : lv_has ls 3 [(0, .ref hf), (1, .int a1), (2, .int a2)] := hl
  refine lv_aload_n hx hb d_PF_dots_0 rfl (lv_at hl 0 rfl) ?_
  refine va_get (D := (dC, dI)) (ci := 4) (v := .ref hp) (C := R_PF) (T := T_PF) (N := 4) hx hb hts i_PF hown hK hP 0 rfl rfl 1 (by decide) (hts _ wd_127) (fun _ h9 => h9) rfl d_PF_dots_1 ?_
  refine lv_iload_n hx hb d_PF_dots_4 rfl (lv_at hl 1 rfl) ?_
  refine lv_iload_n hx hb d_PF_dots_5 rfl (lv_at hl 2 rfl) ?_
  have hPc := hP.sub (ws' := [(hp, .inr (0, [.int pw, .int ph, .ref hw, .ref hs, .int psr])), (hw, .inl (kW, 4096, .inr (.inl fw))), (hs, .inl (kS, 263169, .inl fs))]) [1, 2, 3] rfl
  have hKc := hK.sub (tys' := [(kW, .long), (kS, .int)]) [0, 1] rfl
  refine va_calll (va_runV (As := [.int a1, .int a2]) (rest := []) ⟨hx, hb, hml, hown, hts⟩ (c_bits l dC dI hp hw hs kW kS pw ph psr fw fs Wd Ht D hpw hph hW1 hW2 hH1 hH2 hbits hsup a1 a2 x y g1 g2) (aw_V 2 hts wd_163 wd_164 wd_165 wd_3 wd_166 rfl rfl (by decide +kernel) ⟨Nat.le_of_ble_eq_true rfl, Nat.le_of_ble_eq_true rfl⟩) ⟨ro_blind, va_recv hKc hPc (ci := 0) (q0 := 0) rfl rfl, ro_pre hPc hKc⟩ rfl rfl hl.1 rfl (lv_room (Nat.le_of_ble_eq_true rfl)) d_PF_dots_6 ⟨Nat.le_of_ble_eq_true rfl, Nat.le_of_ble_eq_true rfl⟩) hS (fun q _ h => h.elim) (fun q h => h.elim) (fun v6 _ t9 H6 locs ht hvm h6 hB hz1 hk1 hS => ?_)
  have hP := ro_keep hP hk1
  clear hPc hKc ht hvm hB hz1 hk1
  have hpost : ∀ i : Nat, i < 64 → lb v6 i = D (x + i) y := by
    exact h6
  exact W.lret (v := v6) hx hb hr (fun t ht hW => ⟨⟨v6, (), rfl, hpost, trivial⟩, hS.F ht⟩) hS.2.2 d_PF_dots_9

set_option maxHeartbeats 4000000 in
set_option maxRecDepth 100000 in
theorem c_stood (l : Launch) (dC : Nat → ClassId) (dI : Nat → Nat → Nat) (hf hq hst hld : Nat) (hp ak ar : Nat) (cnt : Int32) : Met l y_PF_stood (.code y_PF_stood b_PF_stood 1 (some .int) :: allw) ({ frames := 0, cells := 0, slots := 0, locals := 0 }) (va_Pc [.ref hf] (ro_B (dC, dI) vwCl [(hf, .inr (4, [.ref hq, .ref hp, .ref hst, .ref hld])), (hst, .inr (2, [.ref ak, .ref ar, .int cnt]))] [])) (va_Qi (fun (r : Int32) (_ : Unit) => r = cnt) (fun _ _ => True) (fun _ => False)) 0 0 (fun _ => False) := by
  refine Met.ofW (cc := b_PF_stood) (maxL := 1) (ret := (some .int)) (by decide) rfl ?_
  intro p e s m args below meth c s₁ B hml hv
  obtain ⟨rfl, hP, hK⟩ := hv
  have hx := B.exec
  have hb := B.bytes
  have hr := B.returns
  have hts : ∀ w ∈ allw, w.before _ s = true := fun w h => atoms_spec (ws := .code y_PF_stood b_PF_stood 1 (some .int) :: allw) B.pre w (List.mem_cons_of_mem _ h)
  have hown : s.vm.findClass R_PF = some m.cls := findClass_of_methodNamed B.named
  have hlocks := B.notSynchronized
  have hS : va_S (fun _ => False) s.heap s.heap [] := va_S.rf
  have hP : va_P (dC, dI) vwCl [(hf, .inr (4, [.ref hq, .ref hp, .ref hst, .ref hld])), (hst, .inr (2, [.ref ak, .ref ar, .int cnt]))] s.heap := hP
  have hl := lv_entry ([.ref hf]) (n := 1) (Nat.le_of_ble_eq_true rfl)
  rw [lg_entry_eq]
  generalize (lg_sl ([.ref hf]) ++ List.replicate (1 - (lg_sl ([.ref hf])).length) Slot.unset).toArray = ls at hl ⊢
  have hl : lv_has ls 1 [(0, .ref hf)] := hl
  refine lv_aload_n hx hb d_PF_stood_0 rfl (lv_at hl 0 rfl) ?_
  refine va_get (D := (dC, dI)) (ci := 4) (v := .ref hst) (C := R_PF) (T := T_PF) (N := 4) hx hb hts i_PF hown hK hP 0 rfl rfl 2 (by decide) (hts _ wd_128) (fun _ h9 => h9) rfl d_PF_stood_1 ?_
  refine va_get (D := (dC, dI)) (ci := 2) (v := .int cnt) (C := R_List) (T := T_List) (N := 3) hx hb hts i_List hown hK hP 1 rfl rfl 2 (by decide) (hts _ wd_70) (fun _ h9 => h9) rfl d_PF_stood_4 ?_
  have hpost : cnt = cnt := by
    rfl
  exact W.iret (v := cnt) hx hb hr (fun t ht hW => ⟨⟨cnt, (), rfl, hpost, trivial⟩, hS.F ht⟩) hS.2.2 d_PF_stood_7
