set_option maxHeartbeats 4000000 in
set_option maxRecDepth 100000 in
theorem c_isLight (l : Launch) (dC : Nat → ClassId) (dI : Nat → Nat → Nat) (hp hw hs : Nat) (kW kS : ClassId) (pw ph psr : Int32) (fw : Nat → Int64) (fs : Nat → Int32) (Wd Ht : Int) (D : Int → Int → Bool) (hpw : pw.toInt = Wd) (hph : ph.toInt = Ht) (hW1 : 1 ≤ Wd) (hW2 : Wd ≤ 512) (hH1 : 1 ≤ Ht) (hH2 : Ht ≤ 512) (hbits : ∀ x y, 0 ≤ x → x < 512 → 0 ≤ y → y < 512 → lb (fw (y * 8 + x / 64).toNat) (x % 64).toNat = D x y) (hsup : ∀ x y, D x y = true → 0 ≤ x ∧ x < Wd ∧ 0 ≤ y ∧ y < Ht) (a1 : Int32) (y : Int) (g1 : a1.toInt = y) (hy0 : 0 ≤ y) (hy1 : y < 512) : Met l y_Paper_isLight (.code y_Paper_isLight b_Paper_isLight 5 (some .boolean) :: allw) ({ frames := 0, cells := 0, slots := 0, locals := 0 }) (va_Pc [.ref hp, .int a1] (ro_B (dC, dI) vwCl [(hp, .inr (0, [.int pw, .int ph, .ref hw, .ref hs, .int psr])), (hw, .inl (kW, 4096, .inr (.inl fw))), (hs, .inl (kS, 263169, .inl fs))] [(kW, .long), (kS, .int)])) (va_Qi (fun (r : Int32) (_ : Unit) => isB r (∀ x, 0 ≤ x → x < 512 → D x y = false)) (fun _ _ => True) (fun _ => False)) 0 0 (fun _ => False) := by
  refine Met.ofW (cc := b_Paper_isLight) (maxL := 5) (ret := (some .boolean)) (by decide) rfl ?_
  intro p e s m args below meth c s₁ B hml hv
  obtain ⟨rfl, hP, hK⟩ := hv
  have hx := B.exec
  have hb := B.bytes
  have hr := B.returns
  have hts : ∀ w ∈ allw, w.before _ s = true := fun w h => atoms_spec (ws := .code y_Paper_isLight b_Paper_isLight 5 (some .boolean) :: allw) B.pre w (List.mem_cons_of_mem _ h)
  have hown : s.vm.findClass R_Paper = some m.cls := findClass_of_methodNamed B.named
  have hlocks := B.notSynchronized
  have hS : va_S (fun _ => False) s.heap s.heap [] := va_S.rf
  have hP : va_P (dC, dI) vwCl [(hp, .inr (0, [.int pw, .int ph, .ref hw, .ref hs, .int psr])), (hw, .inl (kW, 4096, .inr (.inl fw))), (hs, .inl (kS, 263169, .inl fs))] s.heap := hP
  have hl := lv_entry ([.ref hp, .int a1]) (n := 5) (Nat.le_of_ble_eq_true rfl)
  rw [lg_entry_eq]
  generalize (lg_sl ([.ref hp, .int a1]) ++ List.replicate (5 - (lg_sl ([.ref hp, .int a1])).length) Slot.unset).toArray = ls at hl ⊢
  have hl : lv_has ls 5 [(0, .ref hp), (1, .int a1)] := hl
  refine lv_lconst (v := 0) hx hb d_Paper_isLight_0 (by decide) ?_
  refine lv_lstore_n (lv' := [(2, .long 0), (0, .ref hp), (1, .int a1)]) hx hb d_Paper_isLight_1 rfl hl (by decide) rfl (fun ls hl => ?_)
  refine lv_iconst (v := 0) hx hb d_Paper_isLight_2 (by decide) ?_
  refine lv_istore (lv' := [(4, .int 0), (2, .long 0), (0, .ref hp), (1, .int a1)]) hx hb d_Paper_isLight_3 hl (by decide) rfl (fun ls hl => ?_)
  refine w_loop (I := fun n H' locs' g' => ∃ (an : Int64) (ii : Int32) (zii : Int) (ls : Array Slot), g' = F0 m 5 ls [] ∧ lv_has ls 5 [(0, .ref hp), (1, .int a1), (2, .long an), (4, .int ii)] ∧ n = (8 - zii).toNat ∧ ii.toInt = zii ∧ (0 ≤ zii ∧ zii ≤ 8) ∧ (∀ j : Nat, j < 64 → (lb an j = true ↔ ∃ k : Int, 0 ≤ k ∧ k < zii ∧ D (k * 64 + j) y = true)) ∧ va_P (dC, dI) vwCl [(hp, .inr (0, [.int pw, .int ph, .ref hw, .ref hs, .int psr])), (hw, .inl (kW, 4096, .inr (.inl fw))), (hs, .inl (kS, 263169, .inl fs))] H' ∧ va_S (fun _ => False) s.heap H' locs') ?_ ⟨0, 0, 0, ls, rfl, lv_sub hl [2, 3, 1, 0] rfl, rfl, (ti_k (by decide)), by omega, fun j _ => ⟨fun q => by rw [lb_0] at q; exact absurd q (by decide), fun ⟨k, q1, q2, _⟩ => by omega⟩, hP, hS⟩
  intro n5 H5 locs g' hI ih5
  obtain ⟨an, ii, zii, ls, rfl, hl, hn, hii, i1, i2, hP, hS⟩ := hI
  refine lv_iload hx hb d_Paper_isLight_5 (lv_at hl 3 rfl) ?_
  refine lv_bipush (v := 8) hx hb d_Paper_isLight_7 (by decide) ?_
  refine lv_icmp_ge (tgt := 33) hx hb d_Paper_isLight_9 (by decide) (fun c9 => ?_) (fun c9 => ?_)
  · skip
    have c9 : (8 : Int) ≤ zii := (ti_le (ti_k (by decide)) hii).mp c9
    refine lv_lload_n hx hb d_Paper_isLight_33 rfl (lv_at hl 2 rfl) ?_
    refine lv_lconst (v := 0) hx hb d_Paper_isLight_34 (by decide) ?_
    refine W.lcmp hx hb d_Paper_isLight_35 ?_
    refine lv_topi (fun v35 e35 => ?_)
    refine lv_if_ne (tgt := 43) hx hb d_Paper_isLight_36 (by decide) (fun c36 => ?_) (fun c36 => ?_)
    · skip
      refine lv_iconst (v := 0) hx hb d_Paper_isLight_43 (by decide) ?_
      have hpost : isB 0 (∀ x, 0 ≤ x → x < 512 → D x y = false) := by
        have ex : zii = 8 := by omega
        rw [ex] at i2
        exact Or.inr ⟨rfl, fun q => c36 (e35.trans (lg_z.mpr (lt_none i2 q)))⟩
      exact W.zret (v := 0) hx hb hr (by decide) (fun t ht hW => ⟨⟨0, (), rfl, hpost, trivial⟩, hS.F ht⟩) hS.2.2 d_Paper_isLight_44
    · skip
      refine lv_iconst (v := 1) hx hb d_Paper_isLight_39 (by decide) ?_
      refine lv_goto (tgt := 44) hx hb d_Paper_isLight_40 (by decide) ?_
      have hpost : isB 1 (∀ x, 0 ≤ x → x < 512 → D x y = false) := by
        have ex : zii = 8 := by omega
        rw [ex] at i2
        exact Or.inl ⟨rfl, lt_all i2 (lg_z.mp (e35 ▸ c36))⟩
      exact W.zret (v := 1) hx hb hr (by decide) (fun t ht hW => ⟨⟨1, (), rfl, hpost, trivial⟩, hS.F ht⟩) hS.2.2 d_Paper_isLight_44
  · skip
    have c9 : ¬ ((8 : Int) ≤ zii) := fun q => c9 ((ti_le (ti_k (by decide)) hii).mpr q)
    refine lv_lload_n hx hb d_Paper_isLight_12 rfl (lv_at hl 2 rfl) ?_
    refine lv_aload_n hx hb d_Paper_isLight_13 rfl (lv_at hl 0 rfl) ?_
    refine va_get (D := (dC, dI)) (ci := 0) (v := .ref hw) (C := R_Paper) (T := T_Paper) (N := 5) hx hb hts i_Paper hown hK hP 0 rfl rfl 2 (by decide) (hts _ wd_43) (fun _ h9 => h9) rfl d_Paper_isLight_14 ?_
    refine lv_iload_n hx hb d_Paper_isLight_17 rfl (lv_at hl 1 rfl) ?_
    refine lv_bipush (v := 8) hx hb d_Paper_isLight_18 (by decide) ?_
    refine lv_imul hx hb d_Paper_isLight_20 ?_
    refine lv_topi (fun v20 e20 => ?_)
    have h20 : v20.toInt = y * 8 := by rw [e20]; exact ti_mul g1 (ti_k (by decide)) (by omega) (by omega)
    refine lv_iload hx hb d_Paper_isLight_21 (lv_at hl 3 rfl) ?_
    refine lv_iadd hx hb d_Paper_isLight_23 ?_
    refine lv_topi (fun v23 e23 => ?_)
    have h23 : v23.toInt = (y * 8) + zii := by rw [e23]; exact ti_add h20 hii (by omega) (by omega)
    have in24 : vp_in v23 4096 := vi_in h23 (by omega) (by omega)
    refine va_lald hx hb hK hP 1 0 rfl rfl in24 d_Paper_isLight_24 ?_
    refine lv_topl (fun v24 e24 => ?_)
    have e24 : v24 = fw (((y * 8) + zii)).toNat := by rw [e24, vi_cl h23]
    have w24 : ∀ j : Nat, j < 64 → lb v24 j = D (zii * 64 + j) y := fun j hj => by rw [e24]; exact bt_row hbits (by omega) (by omega) (by omega) (by omega) hj
    refine lv_lor hx hb d_Paper_isLight_25 ?_
    refine lv_topl (fun v25 e25 => ?_)
    refine lv_lstore_n (lv' := [(2, .long v25), (0, .ref hp), (1, .int a1), (4, .int ii)]) hx hb d_Paper_isLight_26 rfl hl (by decide) rfl (fun ls hl => ?_)
    obtain ⟨v27, e27⟩ : ∃ y : Int32, y = ii + 1 := ⟨_, rfl⟩
    have h27 : v27.toInt = zii + 1 := by rw [e27]; exact ti_add hii (ti_k (by decide)) (by omega) (by omega)
    refine lv_iinc (v := v27) (lv' := [(4, .int v27), (2, .long v25), (0, .ref hp), (1, .int a1)]) hx hb d_Paper_isLight_27 hl (k := 3) rfl (by rw [e27]; rfl) (by decide) rfl (fun ls hl => ?_)
    refine lv_goto (tgt := 5) hx hb d_Paper_isLight_30 (by decide) ?_
    exact ih5 _ (by omega) _ _ _ ⟨v25, v27, (zii + 1), ls, rfl, lv_sub hl [2, 3, 1, 0] rfl, rfl, h27, by omega, lt_step i2 (by omega) w24 e25, hP, hS⟩
