set_option maxHeartbeats 4000000 in
set_option maxRecDepth 100000 in
theorem c_renew (l : Launch) (dC : Nat → ClassId) (dI : Nat → Nat → Nat) (sz : Nat) (hp hw hs : Nat) (kW : ClassId) (pw ph psr : Int32) (fw : Nat → Int64) (a1 a2 : Int32) : Met l y_Paper_renew (.code y_Paper_renew b_Paper_renew 3 none :: allw) ({ frames := 1, cells := 0, slots := 0, locals := 24 }) (va_Pc [.ref hp, .int a1, .int a2] (rw_B (dC, dI) vwCl [(hp, .inr (0, [.int pw, .int ph, .ref hw, .ref hs, .int psr])), (hw, .inl (kW, 4096, .inr (.inl fw)))] [(kW, .long)] sz)) (va_Qv (fun (u : Nat → Int64) => ∀ i : Nat, i < 4096 → u i = 0) (fun u t => rw_E (dC, dI) vwCl [(hp, .inr (0, [.int a1, .int a2, .ref hw, .ref hs, .int 0])), (hw, .inl (kW, 4096, .inr (.inl u)))] [(kW, .long)] (va_A [(hp, .inr (0, [.int pw, .int ph, .ref hw, .ref hs, .int psr])), (hw, .inl (kW, 4096, .inr (.inl fw)))] sz) t) (va_A [(hp, .inr (0, [.int pw, .int ph, .ref hw, .ref hs, .int psr])), (hw, .inl (kW, 4096, .inr (.inl fw)))] sz)) 0 0 (va_A [(hp, .inr (0, [.int pw, .int ph, .ref hw, .ref hs, .int psr])), (hw, .inl (kW, 4096, .inr (.inl fw)))] sz) := by
  refine Met.ofW (cc := b_Paper_renew) (maxL := 3) (ret := none) (by decide) rfl ?_
  intro p e s m args below meth c s₁ B hml hv
  obtain ⟨rfl, hsz, hP, hK, hD0⟩ := hv
  have hx := B.exec
  have hb := B.bytes
  have hr := B.returns
  have hts : ∀ w ∈ allw, w.before _ s = true := fun w h => atoms_spec (ws := .code y_Paper_renew b_Paper_renew 3 none :: allw) B.pre w (List.mem_cons_of_mem _ h)
  have hown : s.vm.findClass R_Paper = some m.cls := findClass_of_methodNamed B.named
  have hlocks := B.notSynchronized
  subst hsz
  have hD := hD0.self (sz := s.heap.size)
  generalize hAe : va_A [(hp, .inr (0, [.int pw, .int ph, .ref hw, .ref hs, .int psr])), (hw, .inl (kW, 4096, .inr (.inl fw)))] s.heap.size = A at hD ⊢
  have hA : ∀ q : Nat, s.heap.size ≤ q → A q := fun q h => by rw [← hAe]; exact Or.inr h
  have hS : va_S A s.heap s.heap [] := va_S.rf
  have hP : va_P (dC, dI) vwCl [(hp, .inr (0, [.int pw, .int ph, .ref hw, .ref hs, .int psr])), (hw, .inl (kW, 4096, .inr (.inl fw)))] s.heap := hP
  have hl := lv_entry ([.ref hp, .int a1, .int a2]) (n := 3) (Nat.le_of_ble_eq_true rfl)
  rw [lg_entry_eq]
  generalize (lg_sl ([.ref hp, .int a1, .int a2]) ++ List.replicate (3 - (lg_sl ([.ref hp, .int a1, .int a2])).length) Slot.unset).toArray = ls at hl ⊢
  have hl : lv_has ls 3 [(0, .ref hp), (1, .int a1), (2, .int a2)] := hl
  refine lv_aload_n hx hb d_Paper_renew_0 rfl (lv_at hl 0 rfl) ?_
  refine lv_iload_n hx hb d_Paper_renew_1 rfl (lv_at hl 1 rfl) ?_
  refine va_put (D := (dC, dI)) (ci := 0) (v := .int a1) (ty := .int) (C := R_Paper) (T := T_Paper) (N := 5) hx hb hts i_Paper t_Paper t_Paper_ok n_Paper hown hK hP hD hS 0 rfl rfl 0 (by decide) (hts _ wd_37) (fun _ h9 => h9) rfl (by decide +kernel) rfl rfl (Nat.le_of_ble_eq_true rfl) d_Paper_renew_2 (fun H2 locs hP hD hS => ?_)
  have hP : va_P (dC, dI) vwCl [(hp, .inr (0, [.int a1, .int ph, .ref hw, .ref hs, .int psr])), (hw, .inl (kW, 4096, .inr (.inl fw)))] H2 := hP
  have hD : va_D A [(hp, .inr (0, [.int a1, .int ph, .ref hw, .ref hs, .int psr])), (hw, .inl (kW, 4096, .inr (.inl fw)))] := hD
  refine lv_aload_n hx hb d_Paper_renew_5 rfl (lv_at hl 0 rfl) ?_
  refine lv_iload_n hx hb d_Paper_renew_6 rfl (lv_at hl 2 rfl) ?_
  refine va_put (D := (dC, dI)) (ci := 0) (v := .int a2) (ty := .int) (C := R_Paper) (T := T_Paper) (N := 5) hx hb hts i_Paper t_Paper t_Paper_ok n_Paper hown hK hP hD hS 0 rfl rfl 1 (by decide) (hts _ wd_40) (fun _ h9 => h9) rfl (by decide +kernel) rfl rfl (Nat.le_of_ble_eq_true rfl) d_Paper_renew_7 (fun H7 locs hP hD hS => ?_)
  have hP : va_P (dC, dI) vwCl [(hp, .inr (0, [.int a1, .int a2, .ref hw, .ref hs, .int psr])), (hw, .inl (kW, 4096, .inr (.inl fw)))] H7 := hP
  have hD : va_D A [(hp, .inr (0, [.int a1, .int a2, .ref hw, .ref hs, .int psr])), (hw, .inl (kW, 4096, .inr (.inl fw)))] := hD
  refine lv_aload_n hx hb d_Paper_renew_10 rfl (lv_at hl 0 rfl) ?_
  refine lv_iconst (v := 0) hx hb d_Paper_renew_11 (by decide) ?_
  refine va_put (D := (dC, dI)) (ci := 0) (v := .int 0) (ty := .int) (C := R_Paper) (T := T_Paper) (N := 5) hx hb hts i_Paper t_Paper t_Paper_ok n_Paper hown hK hP hD hS 0 rfl rfl 4 (by decide) (hts _ wd_45) (fun _ h9 => h9) rfl (by decide +kernel) rfl rfl (Nat.le_of_ble_eq_true rfl) d_Paper_renew_12 (fun H12 locs hP hD hS => ?_)
  have hP : va_P (dC, dI) vwCl [(hp, .inr (0, [.int a1, .int a2, .ref hw, .ref hs, .int 0])), (hw, .inl (kW, 4096, .inr (.inl fw)))] H12 := hP
  have hD : va_D A [(hp, .inr (0, [.int a1, .int a2, .ref hw, .ref hs, .int 0])), (hw, .inl (kW, 4096, .inr (.inl fw)))] := hD
  refine lv_aload_n hx hb d_Paper_renew_15 rfl (lv_at hl 0 rfl) ?_
  refine va_get (D := (dC, dI)) (ci := 0) (v := .ref hw) (C := R_Paper) (T := T_Paper) (N := 5) hx hb hts i_Paper hown hK hP 0 rfl rfl 2 (by decide) (hts _ wd_43) (fun _ h9 => h9) rfl d_Paper_renew_16 ?_
  refine lv_lconst (v := 0) hx hb d_Paper_renew_19 (by decide) ?_
  have hPc := hP.sub (ws' := [(hw, .inl (kW, 4096, .inr (.inl fw)))]) [1] rfl
  have hKc := hK.sub (tys' := [(kW, .long)]) [0] rfl
  have hDc := hD.sub (ws' := [(hw, .inl (kW, 4096, .inr (.inl fw)))]) [1] (by decide) rfl
  have hFc := va_free (wc := [(hw, .inl (kW, 4096, .inr (.inl fw)))]) hD hS hA [1] rfl
  refine va_callv (va_runS (As := [.ref hw, .long 0]) (rest := []) ⟨hx, hb, hml, hown, hts⟩ (c_fillJ l dC dI H12.size hw kW 4096 (by decide) fw 0) (aw_S 2 hts wd_253 wd_254 wd_10 wd_255 rfl rfl (by decide +kernel) ⟨Nat.le_of_ble_eq_true rfl, Nat.le_of_ble_eq_true rfl⟩) ⟨rw_blind, rw_pre hPc hKc hDc⟩ rfl rfl hl.1 rfl (lv_room (Nat.le_of_ble_eq_true rfl)) d_Paper_renew_20 ⟨Nat.le_of_ble_eq_true rfl, Nat.le_of_ble_eq_true rfl⟩) hS (fun q _ h => hFc q h) hFc (fun u20_f t9 H20 locs ht hvm h20 hB hz1 hk1 hS => ?_)
  obtain ⟨hP1, _, hD1⟩ := hB
  rw [ht] at hP1
  try dsimp only at h20 hP1 hD1
  obtain ⟨hP, hD⟩ := va_join (wr := [(hp, .inr (0, [.int a1, .int a2, .ref hw, .ref hs, .int 0]))]) (w1 := [(hw, .inl (kW, 4096, .inr (.inl u20_f)))]) hP hD [1] [0] rfl rfl (by decide) (by decide) hk1 hFc hP1 hD1
  have hP := hP.sub (ws' := [(hp, .inr (0, [.int a1, .int a2, .ref hw, .ref hs, .int 0])), (hw, .inl (kW, 4096, .inr (.inl u20_f)))]) [0, 1] rfl
  have hD := hD.sub (ws' := [(hp, .inr (0, [.int a1, .int a2, .ref hw, .ref hs, .int 0])), (hw, .inl (kW, 4096, .inr (.inl u20_f)))]) [0, 1] (by decide) rfl
  clear hPc hKc hDc hFc ht hvm hz1 hk1 hP1 hD1
  have hpost : ∀ i : Nat, i < 4096 → u20_f i = 0 := by
    exact h20
  have hP9 := hP.sub (ws' := [(hp, .inr (0, [.int a1, .int a2, .ref hw, .ref hs, .int 0])), (hw, .inl (kW, 4096, .inr (.inl u20_f)))]) [0, 1] rfl
  have hD9 := hD.sub (ws' := [(hp, .inr (0, [.int a1, .int a2, .ref hw, .ref hs, .int 0])), (hw, .inl (kW, 4096, .inr (.inl u20_f)))]) [0, 1] (by decide) rfl
  have hK9 := hK.sub (tys' := [(kW, .long)]) [0] rfl
  exact W.vret hx hb hr (fun t ht hW => ⟨⟨u20_f, rfl, hpost, by rw [ht]; exact hP9, va_K.moved hW.alike hK9, hD9⟩, hS.F ht⟩) hS.2.2 d_Paper_renew_23
