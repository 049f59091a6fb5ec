set_option maxHeartbeats 4000000 in
set_option maxRecDepth 100000 in
theorem c_drawCorner (l : Launch) (dC : Nat → ClassId) (dI : Nat → Nat → Nat) (sz : Nat) (hf hq hst hld : Nat) (ho : Nat) (ol ot om os oq : Int32) (L T M S Q : Int) (hol : ol.toInt = L) (hot : ot.toInt = T) (hom : om.toInt = M) (hos : os.toInt = S) (hoq : oq.toInt = Q) (hS0 : 21 ≤ S) (hS7 : S ≤ 177) (hM0 : 1 ≤ M) (hM1 : M ≤ 16) (hL0 : 0 ≤ L) (hT0 : 0 ≤ T) (hQ0 : 0 ≤ Q) (hQ3 : Q ≤ 3) (D0 : Int → Int → Bool) (P : Int → Int → Bool) (hp hw hs : Nat) (kW kS : ClassId) (pw ph psr : Int32) (fw : Nat → Int64) (fs : Nat → Int32) (Wd Ht : Int) (hpw : pw.toInt = Wd) (hph : ph.toInt = Ht) (hW1 : 1 ≤ Wd) (hW2 : Wd ≤ 512) (hH1 : 1 ≤ Ht) (hH2 : Ht ≤ 512) (hbits : bOK fw (dP D0 L T M S Q (P))) (hsup : ∀ x y, D0 x y = true → 0 ≤ x ∧ x < Wd ∧ 0 ≤ y ∧ y < Ht) (SR : Int) (hsr : psr.toInt = SR) (hsr0 : 0 ≤ SR) (hsr1 : SR ≤ Ht) (hsk : sK fs (dP D0 L T M S Q (P)) Wd SR) (on1 : L + M * S ≤ Wd) (on2 : T + M * S ≤ Ht) (a2 a3 : Int32) (mi mj : Int) (g2 : a2.toInt = mi) (g3 : a3.toInt = mj) (hm : (mi = 3 ∧ mj = 3) ∨ (mi = S - 4 ∧ mj = 3) ∨ (mi = 3 ∧ mj = S - 4)) (hPf : ∀ i j, 0 ≤ i → i < S → 0 ≤ j → j < S → mi - 4 ≤ i → i ≤ mi + 4 → mj - 4 ≤ j → j ≤ mj + 4 → P i j = false) : Met l y_PF_drawCorner (.code y_PF_drawCorner b_PF_drawCorner 8 (some .int) :: allw) ({ frames := 4, cells := 0, slots := 0, locals := 109 }) (va_Pc [.ref hf, .ref ho, .int a2, .int a3] (rw_B (dC, dI) vwCl [(hf, .inr (4, [.ref hq, .ref hp, .ref hst, .ref hld])), (ho, .inr (1, [.int ol, .int ot, .int om, .int os, .int oq])), (hp, .inr (0, [.int pw, .int ph, .ref hw, .ref hs, .int psr])), (hw, .inl (kW, 4096, .inr (.inl fw))), (hs, .inl (kS, 263169, .inl fs))] [(kW, .long), (kS, .int)] sz)) (va_Qi (fun (r : Int32) (u : (Nat → Int64) × Int32) => r.toInt = sI (gG (gN D0 L T M S Q) S) (max (mi - 4) 0) (max (mj - 4) 0) 8 8 ∧ bOK u.1 (dP D0 L T M S Q (crP P mi mj (mj + 5) (mi - 4))) ∧ 0 ≤ (u.2 : Int32).toInt ∧ (u.2 : Int32).toInt ≤ SR ∧ sK fs (dP D0 L T M S Q (crP P mi mj (mj + 5) (mi - 4))) Wd (u.2 : Int32).toInt) (fun u t => rw_E (dC, dI) vwCl [(hf, .inr (4, [.ref hq, .ref hp, .ref hst, .ref hld])), (ho, .inr (1, [.int ol, .int ot, .int om, .int os, .int oq])), (hp, .inr (0, [.int pw, .int ph, .ref hw, .ref hs, .int u.2])), (hw, .inl (kW, 4096, .inr (.inl u.1))), (hs, .inl (kS, 263169, .inl fs))] [(kW, .long), (kS, .int)] (va_A [(hf, .inr (4, [.ref hq, .ref hp, .ref hst, .ref hld])), (ho, .inr (1, [.int ol, .int ot, .int om, .int os, .int oq])), (hp, .inr (0, [.int pw, .int ph, .ref hw, .ref hs, .int psr])), (hw, .inl (kW, 4096, .inr (.inl fw))), (hs, .inl (kS, 263169, .inl fs))] sz) t) (va_A [(hf, .inr (4, [.ref hq, .ref hp, .ref hst, .ref hld])), (ho, .inr (1, [.int ol, .int ot, .int om, .int os, .int oq])), (hp, .inr (0, [.int pw, .int ph, .ref hw, .ref hs, .int psr])), (hw, .inl (kW, 4096, .inr (.inl fw))), (hs, .inl (kS, 263169, .inl fs))] sz)) 0 0 (va_A [(hf, .inr (4, [.ref hq, .ref hp, .ref hst, .ref hld])), (ho, .inr (1, [.int ol, .int ot, .int om, .int os, .int oq])), (hp, .inr (0, [.int pw, .int ph, .ref hw, .ref hs, .int psr])), (hw, .inl (kW, 4096, .inr (.inl fw))), (hs, .inl (kS, 263169, .inl fs))] sz) := by
  refine Met.ofW (cc := b_PF_drawCorner) (maxL := 8) (ret := (some .int)) (by decide) rfl ?_
  intro p e s m args below meth c s₁ B hml hv
  obtain ⟨rfl, hsz, hP, hK, hD0⟩ := hv
  have hx := B.exec
  have hb := B.bytes
  have hr := B.returns
  have hts : ∀ w ∈ allw, w.before _ s = true := fun w h => atoms_spec (ws := .code y_PF_drawCorner b_PF_drawCorner 8 (some .int) :: allw) B.pre w (List.mem_cons_of_mem _ h)
  have hown : s.vm.findClass R_PF = some m.cls := findClass_of_methodNamed B.named
  have hlocks := B.notSynchronized
  subst hsz
  have hD := hD0.self (sz := s.heap.size)
  generalize hAe : va_A [(hf, .inr (4, [.ref hq, .ref hp, .ref hst, .ref hld])), (ho, .inr (1, [.int ol, .int ot, .int om, .int os, .int oq])), (hp, .inr (0, [.int pw, .int ph, .ref hw, .ref hs, .int psr])), (hw, .inl (kW, 4096, .inr (.inl fw))), (hs, .inl (kS, 263169, .inl fs))] s.heap.size = A at hD ⊢
  have hA : ∀ q : Nat, s.heap.size ≤ q → A q := fun q h => by rw [← hAe]; exact Or.inr h
  have hS : va_S A s.heap s.heap [] := va_S.rf
  have hP : va_P (dC, dI) vwCl [(hf, .inr (4, [.ref hq, .ref hp, .ref hst, .ref hld])), (ho, .inr (1, [.int ol, .int ot, .int om, .int os, .int oq])), (hp, .inr (0, [.int pw, .int ph, .ref hw, .ref hs, .int psr])), (hw, .inl (kW, 4096, .inr (.inl fw))), (hs, .inl (kS, 263169, .inl fs))] s.heap := hP
  have hl := lv_entry ([.ref hf, .ref ho, .int a2, .int a3]) (n := 8) (Nat.le_of_ble_eq_true rfl)
  rw [lg_entry_eq]
  generalize (lg_sl ([.ref hf, .ref ho, .int a2, .int a3]) ++ List.replicate (8 - (lg_sl ([.ref hf, .ref ho, .int a2, .int a3])).length) Slot.unset).toArray = ls at hl ⊢
  have hl : lv_has ls 8 [(0, .ref hf), (1, .ref ho), (2, .int a2), (3, .int a3)] := hl
  have m2 := mul_b (a := M) (b := M) (n := 16) (by omega) (by omega) (by omega) (by omega)
  have gb := cz_b (S := S) (by omega) (gD_b (D := D0) (x := L) (y := T) (M := M) (S := S) (Q := Q) (by omega) (by omega))
  refine lv_iconst (v := 0) hx hb d_PF_drawCorner_0 (by decide) ?_
  refine lv_istore (lv' := [(4, .int 0), (0, .ref hf), (1, .ref ho), (2, .int a2), (3, .int a3)]) hx hb d_PF_drawCorner_1 hl (by decide) rfl (fun ls hl => ?_)
  refine lv_iload_n hx hb d_PF_drawCorner_3 rfl (lv_at hl 4 rfl) ?_
  refine lv_iconst (v := 4) hx hb d_PF_drawCorner_4 (by decide) ?_
  refine lv_isub hx hb d_PF_drawCorner_5 ?_
  refine lv_topi (fun v5 e5 => ?_)
  have h5 : v5.toInt = mj - 4 := by rw [e5]; exact ti_sub g3 (ti_k (by decide)) (by omega) (by omega)
  refine lv_istore (lv' := [(5, .int v5), (4, .int 0), (0, .ref hf), (1, .ref ho), (2, .int a2), (3, .int a3)]) hx hb d_PF_drawCorner_6 hl (by decide) rfl (fun ls hl => ?_)
  refine w_loop (I := fun n H' locs' g' => ∃ (nn : Int32) (znn : Int) (jj : Int32) (zjj : Int) (fc : Nat → Int64) (sc : Int32) (zsc : Int) (ls : Array Slot), g' = F0 m 8 ls [] ∧ lv_has ls 8 [(0, .ref hf), (1, .ref ho), (2, .int a2), (3, .int a3), (4, .int nn), (5, .int jj)] ∧ n = (mj + 5 - zjj).toNat ∧ nn.toInt = znn ∧ jj.toInt = zjj ∧ (mj - 4 ≤ zjj ∧ zjj ≤ mj + 5) ∧ (sc.toInt = zsc) ∧ (0 ≤ zsc ∧ zsc ≤ SR) ∧ (bOK fc (dP D0 L T M S Q (crP P mi mj zjj (mi - 4)))) ∧ (sK fs (dP D0 L T M S Q (crP P mi mj zjj (mi - 4))) Wd zsc) ∧ (znn = sI (cz (gG (gN D0 L T M S Q) S) S) (mi - 4) (mj - 4) 9 (zjj - (mj - 4))) ∧ va_P (dC, dI) vwCl [(hf, .inr (4, [.ref hq, .ref hp, .ref hst, .ref hld])), (ho, .inr (1, [.int ol, .int ot, .int om, .int os, .int oq])), (hp, .inr (0, [.int pw, .int ph, .ref hw, .ref hs, .int sc])), (hw, .inl (kW, 4096, .inr (.inl fc))), (hs, .inl (kS, 263169, .inl fs))] H' ∧ va_D A [(hf, .inr (4, [.ref hq, .ref hp, .ref hst, .ref hld])), (ho, .inr (1, [.int ol, .int ot, .int om, .int os, .int oq])), (hp, .inr (0, [.int pw, .int ph, .ref hw, .ref hs, .int sc])), (hw, .inl (kW, 4096, .inr (.inl fc))), (hs, .inl (kS, 263169, .inl fs))] ∧ va_S A s.heap H' locs') ?_ ⟨0, 0, v5, (mj - 4), fw, psr, SR, ls, rfl, lv_sub hl [2, 3, 4, 5, 1, 0] rfl, rfl, (ti_k (by decide)), h5, by omega, hsr, by omega, by rw [cr_0]; exact hbits, by rw [cr_0]; exact hsk, by
      have e0 : mj - 4 - (mj - 4) = 0 := by omega
      rw [e0]; rfl, hP, hD, hS⟩
  intro n8 H8 locs g' hI ih8
  obtain ⟨nn, znn, jj, zjj, fc, sc, zsc, ls, rfl, hl, hn, hnn, hjj, i1, hsc, iea, ieb, iec, i3, hP, hD, hS⟩ := hI
  have bn := sI_b gb (x := mi - 4) (y := mj - 4) 9 (zjj - (mj - 4)) (by omega) (by omega)
  refine lv_iload hx hb d_PF_drawCorner_8 (lv_at hl 5 rfl) ?_
  refine lv_iload_n hx hb d_PF_drawCorner_10 rfl (lv_at hl 3 rfl) ?_
  refine lv_iconst (v := 4) hx hb d_PF_drawCorner_11 (by decide) ?_
  refine lv_iadd hx hb d_PF_drawCorner_12 ?_
  refine lv_topi (fun v12 e12 => ?_)
  have h12 : v12.toInt = mj + 4 := by rw [e12]; exact ti_add g3 (ti_k (by decide)) (by omega) (by omega)
  refine lv_icmp_gt (tgt := 102) hx hb d_PF_drawCorner_13 (by decide) (fun c13 => ?_) (fun c13 => ?_)
  · skip
    have c13 : (mj + 4) < zjj := (ti_lt h12 hjj).mp c13
    refine lv_iload hx hb d_PF_drawCorner_102 (lv_at hl 4 rfl) ?_
    have hpost : (nn : Int32).toInt = sI (gG (gN D0 L T M S Q) S) (max (mi - 4) 0) (max (mj - 4) 0) 8 8 ∧ bOK fc (dP D0 L T M S Q (crP P mi mj (mj + 5) (mi - 4))) ∧ 0 ≤ (sc : Int32).toInt ∧ (sc : Int32).toInt ≤ SR ∧ sK fs (dP D0 L T M S Q (crP P mi mj (mj + 5) (mi - 4))) Wd (sc : Int32).toInt := by
      have e : zjj = mj + 5 := by omega
      rw [e] at ieb iec i3
      have e9 : mj + 5 - (mj - 4) = 9 := by omega
      rw [e9, cz_9 hS0 hm] at i3
      exact ⟨by rw [hnn, i3], ieb, by omega, by omega, by rw [hsc]; exact iec⟩
    have hP9 := hP.sub (ws' := [(hf, .inr (4, [.ref hq, .ref hp, .ref hst, .ref hld])), (ho, .inr (1, [.int ol, .int ot, .int om, .int os, .int oq])), (hp, .inr (0, [.int pw, .int ph, .ref hw, .ref hs, .int sc])), (hw, .inl (kW, 4096, .inr (.inl fc))), (hs, .inl (kS, 263169, .inl fs))]) [0, 1, 2, 3, 4] rfl
    have hD9 := hD.sub (ws' := [(hf, .inr (4, [.ref hq, .ref hp, .ref hst, .ref hld])), (ho, .inr (1, [.int ol, .int ot, .int om, .int os, .int oq])), (hp, .inr (0, [.int pw, .int ph, .ref hw, .ref hs, .int sc])), (hw, .inl (kW, 4096, .inr (.inl fc))), (hs, .inl (kS, 263169, .inl fs))]) [0, 1, 2, 3, 4] (by decide) rfl
    have hK9 := hK.sub (tys' := [(kW, .long), (kS, .int)]) [0, 1] rfl
    exact W.iret (v := nn) hx hb hr (fun t ht hW => ⟨⟨nn, (fc, sc), rfl, hpost, by rw [ht]; exact hP9, va_K.moved hW.alike hK9, hD9⟩, hS.F ht⟩) hS.2.2 d_PF_drawCorner_104
  · skip
    have c13 : ¬ ((mj + 4) < zjj) := fun q => c13 ((ti_lt h12 hjj).mpr q)
    refine lv_iload_n hx hb d_PF_drawCorner_16 rfl (lv_at hl 2 rfl) ?_
    refine lv_iconst (v := 4) hx hb d_PF_drawCorner_17 (by decide) ?_
    refine lv_isub hx hb d_PF_drawCorner_18 ?_
    refine lv_topi (fun v18 e18 => ?_)
    have h18 : v18.toInt = mi - 4 := by rw [e18]; exact ti_sub g2 (ti_k (by decide)) (by omega) (by omega)
    refine lv_istore (lv' := [(6, .int v18), (0, .ref hf), (1, .ref ho), (2, .int a2), (3, .int a3), (4, .int nn), (5, .int jj)]) hx hb d_PF_drawCorner_19 hl (by decide) rfl (fun ls hl => ?_)
    refine w_loop (I := fun n H' locs' g' => ∃ (kn : Int32) (zkn : Int) (ii : Int32) (zii : Int) (fe : Nat → Int64) (sd : Int32) (zsd : Int) (ls : Array Slot), g' = F0 m 21 ls [] ∧ lv_has ls 8 [(0, .ref hf), (1, .ref ho), (2, .int a2), (3, .int a3), (4, .int kn), (5, .int jj), (6, .int ii)] ∧ n = (mi + 5 - zii).toNat ∧ kn.toInt = zkn ∧ ii.toInt = zii ∧ (mi - 4 ≤ zii ∧ zii ≤ mi + 5) ∧ (sd.toInt = zsd) ∧ (0 ≤ zsd ∧ zsd ≤ SR) ∧ (bOK fe (dP D0 L T M S Q (crP P mi mj zjj zii))) ∧ (sK fs (dP D0 L T M S Q (crP P mi mj zjj zii)) Wd zsd) ∧ (zkn = sI (cz (gG (gN D0 L T M S Q) S) S) (mi - 4) (mj - 4) 9 (zjj - (mj - 4)) + s1 (fun i => cz (gG (gN D0 L T M S Q) S) S i zjj) (mi - 4) (zii - (mi - 4)).toNat) ∧ va_P (dC, dI) vwCl [(hf, .inr (4, [.ref hq, .ref hp, .ref hst, .ref hld])), (ho, .inr (1, [.int ol, .int ot, .int om, .int os, .int oq])), (hp, .inr (0, [.int pw, .int ph, .ref hw, .ref hs, .int sd])), (hw, .inl (kW, 4096, .inr (.inl fe))), (hs, .inl (kS, 263169, .inl fs))] H' ∧ va_D A [(hf, .inr (4, [.ref hq, .ref hp, .ref hst, .ref hld])), (ho, .inr (1, [.int ol, .int ot, .int om, .int os, .int oq])), (hp, .inr (0, [.int pw, .int ph, .ref hw, .ref hs, .int sd])), (hw, .inl (kW, 4096, .inr (.inl fe))), (hs, .inl (kS, 263169, .inl fs))] ∧ va_S A s.heap H' locs') ?_ ⟨nn, znn, v18, (mi - 4), fc, sc, zsc, ls, rfl, lv_sub hl [1, 2, 3, 4, 5, 6, 0] rfl, rfl, hnn, h18, by omega, hsc, iea, ieb, iec, by
        have e0 : (mi - 4 - (mi - 4)).toNat = 0 := by omega
        rw [e0]; show _ = _ + 0; omega, hP, hD, hS⟩
    intro n21 H21 locs g' hI ih21
    obtain ⟨kn, zkn, ii, zii, fe, sd, zsd, ls, rfl, hl, hn, hkn, hii, j1, hsd, jea, jeb, jec, j3, hP, hD, hS⟩ := hI
    have bs := s1_b (g := fun i => cz (gG (gN D0 L T M S Q) S) S i zjj) (fun i => gb i zjj) (x := mi - 4) (zii - (mi - 4)) (by omega)
    refine lv_iload hx hb d_PF_drawCorner_21 (lv_at hl 6 rfl) ?_
    refine lv_iload_n hx hb d_PF_drawCorner_23 rfl (lv_at hl 2 rfl) ?_
    refine lv_iconst (v := 4) hx hb d_PF_drawCorner_24 (by decide) ?_
    refine lv_iadd hx hb d_PF_drawCorner_25 ?_
    refine lv_topi (fun v25 e25 => ?_)
    have h25 : v25.toInt = mi + 4 := by rw [e25]; exact ti_add g2 (ti_k (by decide)) (by omega) (by omega)
    refine lv_icmp_gt (tgt := 96) hx hb d_PF_drawCorner_26 (by decide) (fun c26 => ?_) (fun c26 => ?_)
    · skip
      have c26 : (mi + 4) < zii := (ti_lt h25 hii).mp c26
      obtain ⟨v96, e96⟩ : ∃ y : Int32, y = jj + 1 := ⟨_, rfl⟩
      have h96 : v96.toInt = zjj + 1 := by rw [e96]; exact ti_add hjj (ti_k (by decide)) (by omega) (by omega)
      refine lv_iinc (v := v96) (lv' := [(5, .int v96), (0, .ref hf), (1, .ref ho), (2, .int a2), (3, .int a3), (4, .int kn), (6, .int ii)]) hx hb d_PF_drawCorner_96 hl (k := 5) rfl (by rw [e96]; rfl) (by decide) rfl (fun ls hl => ?_)
      refine lv_goto (tgt := 8) hx hb d_PF_drawCorner_99 (by decide) ?_
      have ex : zii = mi + 5 := by omega
      rw [ex] at jeb jec j3
      exact ih8 _ (by omega) _ _ _ ⟨kn, zkn, v96, (zjj + 1), fe, sd, zsd, ls, rfl, lv_sub hl [1, 2, 3, 4, 5, 0] rfl, rfl, hkn, h96, by omega, hsd, jea, by rw [← cr_row]; exact jeb, by rw [← cr_row]; exact jec, by
          rw [sI_st (by omega)]
          have e9 : (mi + 5 - (mi - 4)).toNat = (9 : Int).toNat := by omega
          rw [e9] at j3; exact j3, hP, hD, hS⟩
    · skip
      have c26 : ¬ ((mi + 4) < zii) := fun q => c26 ((ti_lt h25 hii).mpr q)
      refine lv_aload_n hx hb d_PF_drawCorner_29 rfl (lv_at hl 1 rfl) ?_
      refine lv_iload hx hb d_PF_drawCorner_30 (lv_at hl 6 rfl) ?_
      refine lv_iload hx hb d_PF_drawCorner_32 (lv_at hl 5 rfl) ?_
      have hPc := hP.sub (ws' := [(ho, .inr (1, [.int ol, .int ot, .int om, .int os, .int oq]))]) [1] rfl
      have hKc := hK.sub (tys' := []) [] rfl
      refine va_calli (va_runV (As := [.int ii, .int jj]) (rest := []) ⟨hx, hb, hml, hown, hts⟩ (c_hasModule l dC dI ho ol ot om os oq L T M S Q hol hot hom hos hoq ii jj zii zjj hii hjj) (aw_V 2 hts wd_347 wd_348 wd_349 wd_13 wd_350 rfl rfl (by decide +kernel) ⟨Nat.le_of_ble_eq_true rfl, Nat.le_of_ble_eq_true rfl⟩) ⟨ro_blind, va_recv hKc hPc (ci := 1) (q0 := 0) rfl rfl, ro_pre hPc hKc⟩ rfl rfl hl.1 rfl (lv_room (Nat.le_of_ble_eq_true rfl)) d_PF_drawCorner_34 ⟨Nat.le_of_ble_eq_true rfl, Nat.le_of_ble_eq_true rfl⟩) hS (fun q _ h => h.elim) (fun q h => h.elim) (fun v34 _ t9 H34 locs ht hvm h34 hB hz1 hk1 hS => ?_)
      have hP := ro_keep hP hk1
      clear hPc hKc ht hvm hB hz1 hk1
      refine lv_if_eq (tgt := 90) hx hb d_PF_drawCorner_37 (by decide) (fun c37 => ?_) (fun c37 => ?_)
      · skip
        have c37 : ¬ (0 ≤ zii ∧ zii < S ∧ 0 ≤ zjj ∧ zjj < S) := bi_z h34 c37
        obtain ⟨v90, e90⟩ : ∃ y : Int32, y = ii + 1 := ⟨_, rfl⟩
        have h90 : v90.toInt = zii + 1 := by rw [e90]; exact ti_add hii (ti_k (by decide)) (by omega) (by omega)
        refine lv_iinc (v := v90) (lv' := [(6, .int v90), (0, .ref hf), (1, .ref ho), (2, .int a2), (3, .int a3), (4, .int kn), (5, .int jj)]) hx hb d_PF_drawCorner_90 hl (k := 6) rfl (by rw [e90]; rfl) (by decide) rfl (fun ls hl => ?_)
        refine lv_goto (tgt := 21) hx hb d_PF_drawCorner_93 (by decide) ?_
        exact ih21 _ (by omega) _ _ _ ⟨kn, zkn, v90, (zii + 1), fe, sd, zsd, ls, rfl, lv_sub hl [1, 2, 3, 4, 5, 6, 0] rfl, rfl, hkn, h90, by omega, by first | rfl | exact hsd, by first | exact ⟨y84.2.1, by have := y84.2.2.1; omega⟩ | exact jea, by first | exact y84.1 | (rw [cr_skip (by omega) c37]; exact jeb), by first | exact y84.2.2.2 | (rw [cr_skip (by omega) c37]; exact jec), by rw [s1_st (by omega)]; first | (rw [gy]; omega) | (rw [cz_out c37]; omega), hP, hD, hS⟩
      · skip
        have c37 : 0 ≤ zii ∧ zii < S ∧ 0 ≤ zjj ∧ zjj < S := bi_nz h34 c37
        refine lv_iload hx hb d_PF_drawCorner_40 (lv_at hl 6 rfl) ?_
        refine lv_iload_n hx hb d_PF_drawCorner_42 rfl (lv_at hl 2 rfl) ?_
        refine lv_isub hx hb d_PF_drawCorner_43 ?_
        refine lv_topi (fun v43 e43 => ?_)
        have h43 : v43.toInt = zii - mi := by rw [e43]; exact ti_sub hii g2 (by omega) (by omega)
        refine va_mabs hx hb (by rw [hml]; exact hl.1.symm) hown (hts _ wd_351) (hts _ wd_352) (hts _ wd_11) (hts _ wd_353) (Nat.le_of_ble_eq_true rfl) (Nat.le_of_ble_eq_true rfl) (Nat.le_of_ble_eq_true rfl) (Nat.le_of_ble_eq_true rfl) d_PF_drawCorner_44 ?_
        refine lv_topi (fun v44 e44 => ?_)
        have h44 : v44.toInt = if 0 ≤ (zii - mi) then (zii - mi) else 0 - (zii - mi) := by rw [e44]; exact ti_abs h43 (by omega)
        refine lv_iload hx hb d_PF_drawCorner_47 (lv_at hl 5 rfl) ?_
        refine lv_iload_n hx hb d_PF_drawCorner_49 rfl (lv_at hl 3 rfl) ?_
        refine lv_isub hx hb d_PF_drawCorner_50 ?_
        refine lv_topi (fun v50 e50 => ?_)
        have h50 : v50.toInt = zjj - mj := by rw [e50]; exact ti_sub hjj g3 (by omega) (by omega)
        refine va_mabs hx hb (by rw [hml]; exact hl.1.symm) hown (hts _ wd_351) (hts _ wd_352) (hts _ wd_11) (hts _ wd_353) (Nat.le_of_ble_eq_true rfl) (Nat.le_of_ble_eq_true rfl) (Nat.le_of_ble_eq_true rfl) (Nat.le_of_ble_eq_true rfl) d_PF_drawCorner_51 ?_
        refine lv_topi (fun v51 e51 => ?_)
        have h51 : v51.toInt = if 0 ≤ (zjj - mj) then (zjj - mj) else 0 - (zjj - mj) := by rw [e51]; exact ti_abs h50 (by omega)
        refine va_mmax hx hb (by rw [hml]; exact hl.1.symm) hown (hts _ wd_354) (hts _ wd_148) (hts _ wd_11) (hts _ wd_149) (Nat.le_of_ble_eq_true rfl) (Nat.le_of_ble_eq_true rfl) (Nat.le_of_ble_eq_true rfl) (Nat.le_of_ble_eq_true rfl) d_PF_drawCorner_54 ?_
        refine lv_topi (fun v54 e54 => ?_)
        have h54 : v54.toInt = max (if 0 ≤ (zii - mi) then (zii - mi) else 0 - (zii - mi)) (if 0 ≤ (zjj - mj) then (zjj - mj) else 0 - (zjj - mj)) := by rw [e54]; exact ti_max h44 h51
        obtain ⟨DD, kDD⟩ : ∃ c : Int, c = (max (if 0 ≤ (zii - mi) then (zii - mi) else 0 - (zii - mi)) (if 0 ≤ (zjj - mj) then (zjj - mj) else 0 - (zjj - mj))) := ⟨_, rfl⟩
        have h54 : v54.toInt = DD := by rw [h54, kDD]
        refine lv_istore (lv' := [(7, .int v54), (0, .ref hf), (1, .ref ho), (2, .int a2), (3, .int a3), (4, .int kn), (5, .int jj), (6, .int ii)]) hx hb d_PF_drawCorner_57 hl (by decide) rfl (fun ls hl => ?_)
        refine lv_iload hx hb d_PF_drawCorner_59 (lv_at hl 5 rfl) ?_
        have cl := crn_col hS0 hm (by omega) (by omega) (by omega) (by omega) (by omega) (by omega) kDD
        have ne := crn_ne cl
        have j7 := dp_sup (M := M) (S := S) (Q := Q) (P := crP P mi mj zjj zii) hsup hL0 hT0 on1 on2
        have gy := gz_y (D := D0) (x := L) (y := T) (M := M) (Q := Q) ne (by omega)
        have pa1 := bA_b (S := S) (Q := Q) (i := zii) (j := zjj) (by omega) (by omega) (by omega) (by omega)
        have pb1 := bB_b (S := S) (Q := Q) (i := zii) (j := zjj) (by omega) (by omega) (by omega) (by omega)
        have pA1 := blk_b (m := M) (S := S) (by omega) pa1.1 pa1.2
        have pB1 := blk_b (m := M) (S := S) (by omega) pb1.1 pb1.2
        refine lv_aload_n hx hb d_PF_drawCorner_61 rfl (lv_at hl 1 rfl) ?_
        refine lv_aload_n hx hb d_PF_drawCorner_62 rfl (lv_at hl 2 rfl) ?_
        refine lv_iload hx hb d_PF_drawCorner_63 (lv_at hl 7 rfl) ?_
        refine lv_iload hx hb d_PF_drawCorner_65 (lv_at hl 6 rfl) ?_
        refine w_cut (I := fun H' locs' g' => ∃ (bv : Int32) (ls : Array Slot), g' = F0 m 84 ls [.int bv, .int jj, .int ii, .ref ho, .ref hf, .int kn] ∧ lv_has ls 8 [(0, .ref hf), (1, .ref ho), (2, .int a2), (3, .int a3), (4, .int kn), (5, .int jj), (6, .int ii), (7, .int v54)] ∧ (bv = zb (decide (mdl S zii zjj = 1))) ∧ va_P (dC, dI) vwCl [(hf, .inr (4, [.ref hq, .ref hp, .ref hst, .ref hld])), (ho, .inr (1, [.int ol, .int ot, .int om, .int os, .int oq])), (hp, .inr (0, [.int pw, .int ph, .ref hw, .ref hs, .int sd])), (hw, .inl (kW, 4096, .inr (.inl fe))), (hs, .inl (kS, 263169, .inl fs))] H' ∧ va_D A [(hf, .inr (4, [.ref hq, .ref hp, .ref hst, .ref hld])), (ho, .inr (1, [.int ol, .int ot, .int om, .int os, .int oq])), (hp, .inr (0, [.int pw, .int ph, .ref hw, .ref hs, .int sd])), (hw, .inl (kW, 4096, .inr (.inl fe))), (hs, .inl (kS, 263169, .inl fs))] ∧ va_S A s.heap H' locs') ?_ ?_
        · skip
          intro H84 locs g' hI
          obtain ⟨bv, ls, rfl, hl, ibv, hP, hD, hS⟩ := hI
          have hPc := hP.sub (ws' := [(hf, .inr (4, [.ref hq, .ref hp, .ref hst, .ref hld])), (ho, .inr (1, [.int ol, .int ot, .int om, .int os, .int oq])), (hp, .inr (0, [.int pw, .int ph, .ref hw, .ref hs, .int sd])), (hw, .inl (kW, 4096, .inr (.inl fe))), (hs, .inl (kS, 263169, .inl fs))]) [0, 1, 2, 3, 4] rfl
          have hKc := hK.sub (tys' := [(kW, .long), (kS, .int)]) [0, 1] rfl
          have hDc := hD.sub (ws' := [(hf, .inr (4, [.ref hq, .ref hp, .ref hst, .ref hld])), (ho, .inr (1, [.int ol, .int ot, .int om, .int os, .int oq])), (hp, .inr (0, [.int pw, .int ph, .ref hw, .ref hs, .int sd])), (hw, .inl (kW, 4096, .inr (.inl fe))), (hs, .inl (kS, 263169, .inl fs))]) [0, 1, 2, 3, 4] (by decide) rfl
          have hFc := va_free (wc := [(hf, .inr (4, [.ref hq, .ref hp, .ref hst, .ref hld])), (ho, .inr (1, [.int ol, .int ot, .int om, .int os, .int oq])), (hp, .inr (0, [.int pw, .int ph, .ref hw, .ref hs, .int sd])), (hw, .inl (kW, 4096, .inr (.inl fe))), (hs, .inl (kS, 263169, .inl fs))]) hD hS hA [0, 1, 2, 3, 4] rfl
          refine va_calli (va_runV (As := [.ref ho, .int ii, .int jj, .int bv]) (rest := [.int kn]) ⟨hx, hb, hml, hown, hts⟩ (c_drawModule l dC dI H84.size hf hq hst hld ho ol ot om os oq L T M S Q hol hot hom hos hoq hS0 hS7 hM0 hM1 hL0 hT0 hQ0 hQ3 hp hw hs kW kS pw ph sd fe fs Wd Ht (dP D0 L T M S Q (crP P mi mj zjj zii)) hpw hph hW1 hW2 hH1 hH2 jeb j7 zsd hsd (by omega) (by omega) jec on1 on2 ii jj bv zii zjj (decide (mdl S zii zjj = 1)) hii hjj ibv (by omega) (by omega) (by omega) (by omega)) (aw_V 4 hts wd_355 wd_357 ws_3 wd_1 wd_358 rfl rfl (by decide +kernel) ⟨Nat.le_of_ble_eq_true rfl, Nat.le_of_ble_eq_true rfl⟩) ⟨rw_blind, va_recv hKc hPc (ci := 4) (q0 := 0) rfl rfl, rw_pre hPc hKc hDc⟩ rfl rfl hl.1 rfl (lv_room (Nat.le_of_ble_eq_true rfl)) d_PF_drawCorner_84 ⟨Nat.le_of_ble_eq_true rfl, Nat.le_of_ble_eq_true rfl⟩) hS (fun q _ h => hFc q h) hFc (fun v84 u t9 H84 locs ht hvm h84 hB hz1 hk1 hS => ?_)
          obtain ⟨u84_fw, u84_sr⟩ := u
          obtain ⟨hP1, _, hD1⟩ := hB
          rw [ht] at hP1
          try dsimp only at h84 hP1 hD1
          obtain ⟨hP, hD⟩ := va_join (wr := []) (w1 := [(hf, .inr (4, [.ref hq, .ref hp, .ref hst, .ref hld])), (ho, .inr (1, [.int ol, .int ot, .int om, .int os, .int oq])), (hp, .inr (0, [.int pw, .int ph, .ref hw, .ref hs, .int u84_sr])), (hw, .inl (kW, 4096, .inr (.inl u84_fw))), (hs, .inl (kS, 263169, .inl fs))]) hP hD [0, 1, 2, 3, 4] [] rfl rfl (by decide) (by decide) hk1 hFc hP1 hD1
          have hP := hP.sub (ws' := [(hf, .inr (4, [.ref hq, .ref hp, .ref hst, .ref hld])), (ho, .inr (1, [.int ol, .int ot, .int om, .int os, .int oq])), (hp, .inr (0, [.int pw, .int ph, .ref hw, .ref hs, .int u84_sr])), (hw, .inl (kW, 4096, .inr (.inl u84_fw))), (hs, .inl (kS, 263169, .inl fs))]) [0, 1, 2, 3, 4] rfl
          have hD := hD.sub (ws' := [(hf, .inr (4, [.ref hq, .ref hp, .ref hst, .ref hld])), (ho, .inr (1, [.int ol, .int ot, .int om, .int os, .int oq])), (hp, .inr (0, [.int pw, .int ph, .ref hw, .ref hs, .int u84_sr])), (hw, .inl (kW, 4096, .inr (.inl u84_fw))), (hs, .inl (kS, 263169, .inl fs))]) [0, 1, 2, 3, 4] (by decide) rfl
          clear hPc hKc hDc hFc ht hvm hz1 hk1 hP1 hD1
          have f84 := fi_on (D := dP D0 L T M S Q (crP P mi mj zjj zii)) (W := Wd) (H := Ht) (x := L + M * bA S Q zii zjj) (y := T + M * bB S Q zii zjj) (w := M) (h := M) (v := decide (mdl S zii zjj = 1)) (by omega) (by omega) (by omega) (by omega) (by omega) (by omega)
          have s84 : pF (dP D0 L T M S Q (crP P mi mj zjj zii)) (fiE (dP D0 L T M S Q (crP P mi mj zjj zii)) (L + M * bA S Q zii zjj) (T + M * bB S Q zii zjj) M M (decide (mdl S zii zjj = 1))) 0 0 Wd Ht 0 = dP D0 L T M S Q (crP P mi mj zjj (zii + 1)) := dp_step (by omega) (by omega) (by omega) (by omega) (by omega) (by omega) (by omega) rfl (cr_add (by omega) (by omega) (by omega)) f84.1
          have y84 := h84.2
          rw [s84] at y84
          have n84 := h84.1
          rw [dp_count (by omega) (by omega) (by omega) (by omega) (by omega) (by omega) (by omega) (cr_new (hPf _ _ (by omega) (by omega) (by omega) (by omega) (by omega) (by omega) (by omega) (by omega)))] at n84
          have b84 := cI_nn (neB D0 (decide (mdl S zii zjj = 1))) (L + M * bA S Q zii zjj) (T + M * bB S Q zii zjj) M M
          have l84 := cI_le (neB D0 (decide (mdl S zii zjj = 1))) (L + M * bA S Q zii zjj) (T + M * bB S Q zii zjj) (w := M) (h := M) (by omega) (by omega)
          refine lv_iadd hx hb d_PF_drawCorner_87 ?_
          refine lv_topi (fun v87 e87 => ?_)
          have h87 : v87.toInt = zkn + (cI (neB D0 (decide (mdl S zii zjj = 1))) (L + M * bA S Q zii zjj) (T + M * bB S Q zii zjj) M M) := by rw [e87]; exact ti_add hkn n84 (by omega) (by omega)
          refine lv_istore (lv' := [(4, .int v87), (0, .ref hf), (1, .ref ho), (2, .int a2), (3, .int a3), (5, .int jj), (6, .int ii), (7, .int v54)]) hx hb d_PF_drawCorner_88 hl (by decide) rfl (fun ls hl => ?_)
          obtain ⟨v90, e90⟩ : ∃ y : Int32, y = ii + 1 := ⟨_, rfl⟩
          have h90 : v90.toInt = zii + 1 := by rw [e90]; exact ti_add hii (ti_k (by decide)) (by omega) (by omega)
          refine lv_iinc (v := v90) (lv' := [(6, .int v90), (4, .int v87), (0, .ref hf), (1, .ref ho), (2, .int a2), (3, .int a3), (5, .int jj), (7, .int v54)]) hx hb d_PF_drawCorner_90 hl (k := 6) rfl (by rw [e90]; rfl) (by decide) rfl (fun ls hl => ?_)
          refine lv_goto (tgt := 21) hx hb d_PF_drawCorner_93 (by decide) ?_
          exact ih21 _ (by omega) _ _ _ ⟨v87, (zkn + (cI (neB D0 (decide (mdl S zii zjj = 1))) (L + M * bA S Q zii zjj) (T + M * bB S Q zii zjj) M M)), v90, (zii + 1), u84_fw, u84_sr, (u84_sr.toInt), ls, rfl, lv_sub hl [2, 3, 4, 5, 1, 6, 0] rfl, rfl, h87, h90, by omega, by first | rfl | exact hsd, by first | exact ⟨y84.2.1, by have := y84.2.2.1; omega⟩ | exact jea, by first | exact y84.1 | (rw [cr_skip (by omega) c37]; exact jeb), by first | exact y84.2.2.2 | (rw [cr_skip (by omega) c37]; exact jec), by rw [s1_st (by omega)]; first | (rw [gy]; omega) | (rw [cz_out c37]; omega), hP, hD, hS⟩
        · skip
          intro hj84
          refine lv_iload hx hb d_PF_drawCorner_67 (lv_at hl 0 rfl) ?_
          refine lv_iconst (v := 2) hx hb d_PF_drawCorner_69 (by decide) ?_
          refine lv_icmp_eq (tgt := 83) hx hb d_PF_drawCorner_70 (by decide) (fun c70 => ?_) (fun c70 => ?_)
          · skip
            have c70 : DD = 2 := (ti_eq h54 (ti_k (by decide))).mp c70
            refine lv_iconst (v := 0) hx hb d_PF_drawCorner_83 (by decide) ?_
            exact hj84 _ _ _ ⟨0, ls, rfl, lv_sub hl [1, 2, 3, 4, 5, 6, 7, 0] rfl, by rw [cl]; first | (rw [if_pos (by omega)]; rfl) | (rw [if_neg (by omega)]; rfl), hP, hD, hS⟩
          · skip
            have c70 : ¬ (DD = 2) := fun q => c70 ((ti_eq h54 (ti_k (by decide))).mpr q)
            refine lv_iload hx hb d_PF_drawCorner_73 (lv_at hl 0 rfl) ?_
            refine lv_iconst (v := 4) hx hb d_PF_drawCorner_75 (by decide) ?_
            refine lv_icmp_eq (tgt := 83) hx hb d_PF_drawCorner_76 (by decide) (fun c76 => ?_) (fun c76 => ?_)
            · skip
              have c76 : DD = 4 := (ti_eq h54 (ti_k (by decide))).mp c76
              refine lv_iconst (v := 0) hx hb d_PF_drawCorner_83 (by decide) ?_
              exact hj84 _ _ _ ⟨0, ls, rfl, lv_sub hl [1, 2, 3, 4, 5, 6, 7, 0] rfl, by rw [cl]; first | (rw [if_pos (by omega)]; rfl) | (rw [if_neg (by omega)]; rfl), hP, hD, hS⟩
            · skip
              have c76 : ¬ (DD = 4) := fun q => c76 ((ti_eq h54 (ti_k (by decide))).mpr q)
              refine lv_iconst (v := 1) hx hb d_PF_drawCorner_79 (by decide) ?_
              refine lv_goto (tgt := 84) hx hb d_PF_drawCorner_80 (by decide) ?_
              exact hj84 _ _ _ ⟨1, ls, rfl, lv_sub hl [1, 2, 3, 4, 5, 6, 7, 0] rfl, by rw [cl]; first | (rw [if_pos (by omega)]; rfl) | (rw [if_neg (by omega)]; rfl), hP, hD, hS⟩
