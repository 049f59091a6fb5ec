set_option maxHeartbeats 4000000 in
set_option maxRecDepth 100000 in
theorem law_c8 {p : Program} {e : Env} {s : State} {m : MethodId} {below : List Frame} {meth : Method} {c : Code} {QQ : State → Prop} {A : Nat → Prop} {b L : Nat} {xs : Nat → Int32} (l : Launch) (dC : Nat → ClassId) (dI : Nat → Nat → Nat) (hl9 : l.stackTraces = false) (kW kS cK cR cQ cN dK dR kD kU kR kT kF kO : ClassId) (hfix : CallFix p m c code 8 s #[Value.ref b] allw R_Law) (hK : va_K (dC, dI) vwCl [(kW, .long), (kS, .int), (cK, .int), (cR, .int), (cQ, .int), (cN, .long), (dK, .int), (dR, .int), (kD, .boolean), (kU, .int), (kR, .int), (kT, .int), (kF, .int), (kO, .long)] s) (hA : ∀ q : Nat, s.heap.size ≤ q → A q) (hX : va_X b L xs s s.heap) (hbl : b < s.heap.size) (hbA : ¬ A b) (hTz : tZ A s s.heap) (hTx : tX R_IOB s) (hTr : tR [(139, "there is no such place")] s) (hf hq hp hw hs hst ak ar hqf hkn hld bk br mo ad asu aru ast afo ho9 : Nat) (Wd Ht n9 : Int) (D : Int → Int → Bool) (pw ph psr lim thd md sz0 tm tx ty sx sy stp cnt cnt2 mth mw mh mro msd mmn : Int32) (fw kn fo : Nat → Int64) (fs kf wf qf kg wg fd fu fr ft ff : Nat → Int32) (kc ns : Nat) (hkc : kc + 1 ≤ 601024) (hns : ns + 6 ≤ 7293034) (hn9 : 0 ≤ n9 ∧ n9 < 512) (iv : Int32) (zi : Int) (hiv : iv.toInt = zi) (hzi : 0 ≤ zi ∧ zi + 6 ≤ L) (hL : L ≤ 3072) (hS0 : iS Wd Ht D pw ph psr mw mh fw fs fd fu) (hN0 : iN n9 sz0 stp kn) (hV0 : iV Wd Ht cnt cnt2 msd mmn kg wg ff) (H : Heap) (locs : List Loc) (ls : Array Slot) (hl : lv_has ls 8 [(0, .ref b), (1, .ref hf), (2, .ref mo), (3, .ref ho9), (4, .int iv)]) (hP : va_P (dC, dI) vwCl [(hf, .inr (4, [.ref hq, .ref hp, .ref hst, .ref hld])), (hq, .inr (3, [.ref hp, .ref hst, .int lim, .int thd, .int md, .int sz0, .int tm, .int tx, .int ty, .int sx, .int sy, .ref hqf, .ref hkn, .int stp])), (hp, .inr (0, [.int pw, .int ph, .ref hw, .ref hs, .int psr])), (hw, .inl (kW, 4096, .inr (.inl fw))), (hs, .inl (kS, 263169, .inl fs)), (hst, .inr (2, [.ref ak, .ref ar, .int cnt])), (ak, .inl (cK, 300, .inl kf)), (ar, .inl (cR, 300, .inl wf)), (hqf, .inl (cQ, 4, .inl qf)), (hkn, .inl (cN, 262144, .inr (.inl kn))), (hld, .inr (2, [.ref bk, .ref br, .int cnt2])), (bk, .inl (dK, 300, .inl kg)), (br, .inl (dR, 300, .inl wg)), (mo, .inr (5, [.int mth, .int mw, .int mh, .ref ad, .ref asu, .ref aru, .int mro, .ref ast, .int msd, .ref afo, .int mmn])), (ad, .inl (kD, 262144, .inl fd)), (asu, .inl (kU, 263169, .inl fu)), (aru, .inl (kR, 2100, .inl fr)), (ast, .inl (kT, 1800, .inl ft)), (afo, .inl (kF, 1800, .inl ff)), (ho9, .inl (kO, 1, .inr (.inl fo)))] H) (hD : va_D A [(hf, .inr (4, [.ref hq, .ref hp, .ref hst, .ref hld])), (hq, .inr (3, [.ref hp, .ref hst, .int lim, .int thd, .int md, .int sz0, .int tm, .int tx, .int ty, .int sx, .int sy, .ref hqf, .ref hkn, .int stp])), (hp, .inr (0, [.int pw, .int ph, .ref hw, .ref hs, .int psr])), (hw, .inl (kW, 4096, .inr (.inl fw))), (hs, .inl (kS, 263169, .inl fs)), (hst, .inr (2, [.ref ak, .ref ar, .int cnt])), (ak, .inl (cK, 300, .inl kf)), (ar, .inl (cR, 300, .inl wf)), (hqf, .inl (cQ, 4, .inl qf)), (hkn, .inl (cN, 262144, .inr (.inl kn))), (hld, .inr (2, [.ref bk, .ref br, .int cnt2])), (bk, .inl (dK, 300, .inl kg)), (br, .inl (dR, 300, .inl wg)), (mo, .inr (5, [.int mth, .int mw, .int mh, .ref ad, .ref asu, .ref aru, .int mro, .ref ast, .int msd, .ref afo, .int mmn])), (ad, .inl (kD, 262144, .inl fd)), (asu, .inl (kU, 263169, .inl fu)), (aru, .inl (kR, 2100, .inl fr)), (ast, .inl (kT, 1800, .inl ft)), (afo, .inl (kF, 1800, .inl ff)), (ho9, .inl (kO, 1, .inr (.inl fo)))]) (hS : va_S A s.heap H locs) (kk : ∀ (H9 : Heap) (locs9 : List Loc) (ls9 : Array Slot) (Wd9 Ht9 : Int) (D9 : Int → Int → Bool) (pw9 ph9 psr9 lim9 thd9 md9 sz09 tm9 tx9 ty9 sx9 sy9 stp9 cnt9 cnt29 mth9 mw9 mh9 mro9 msd9 mmn9 : Int32) (fw9 kn9 fo9 : Nat → Int64) (fs9 kf9 wf9 qf9 kg9 wg9 fd9 fu9 fr9 ft9 ff9 : Nat → Int32), lv_has ls9 8 [(0, .ref b), (1, .ref hf), (2, .ref mo), (3, .ref ho9), (4, .int iv)] → iS Wd9 Ht9 D9 pw9 ph9 psr9 mw9 mh9 fw9 fs9 fd9 fu9 → iN (n9 + 1) sz09 stp9 kn9 → iV Wd9 Ht9 cnt9 cnt29 msd9 mmn9 kg9 wg9 ff9 → va_P (dC, dI) vwCl [(hf, .inr (4, [.ref hq, .ref hp, .ref hst, .ref hld])), (hq, .inr (3, [.ref hp, .ref hst, .int lim9, .int thd9, .int md9, .int sz09, .int tm9, .int tx9, .int ty9, .int sx9, .int sy9, .ref hqf, .ref hkn, .int stp9])), (hp, .inr (0, [.int pw9, .int ph9, .ref hw, .ref hs, .int psr9])), (hw, .inl (kW, 4096, .inr (.inl fw9))), (hs, .inl (kS, 263169, .inl fs9)), (hst, .inr (2, [.ref ak, .ref ar, .int cnt9])), (ak, .inl (cK, 300, .inl kf9)), (ar, .inl (cR, 300, .inl wf9)), (hqf, .inl (cQ, 4, .inl qf9)), (hkn, .inl (cN, 262144, .inr (.inl kn9))), (hld, .inr (2, [.ref bk, .ref br, .int cnt29])), (bk, .inl (dK, 300, .inl kg9)), (br, .inl (dR, 300, .inl wg9)), (mo, .inr (5, [.int mth9, .int mw9, .int mh9, .ref ad, .ref asu, .ref aru, .int mro9, .ref ast, .int msd9, .ref afo, .int mmn9])), (ad, .inl (kD, 262144, .inl fd9)), (asu, .inl (kU, 263169, .inl fu9)), (aru, .inl (kR, 2100, .inl fr9)), (ast, .inl (kT, 1800, .inl ft9)), (afo, .inl (kF, 1800, .inl ff9)), (ho9, .inl (kO, 1, .inr (.inl fo9)))] H9 → va_D A [(hf, .inr (4, [.ref hq, .ref hp, .ref hst, .ref hld])), (hq, .inr (3, [.ref hp, .ref hst, .int lim9, .int thd9, .int md9, .int sz09, .int tm9, .int tx9, .int ty9, .int sx9, .int sy9, .ref hqf, .ref hkn, .int stp9])), (hp, .inr (0, [.int pw9, .int ph9, .ref hw, .ref hs, .int psr9])), (hw, .inl (kW, 4096, .inr (.inl fw9))), (hs, .inl (kS, 263169, .inl fs9)), (hst, .inr (2, [.ref ak, .ref ar, .int cnt9])), (ak, .inl (cK, 300, .inl kf9)), (ar, .inl (cR, 300, .inl wf9)), (hqf, .inl (cQ, 4, .inl qf9)), (hkn, .inl (cN, 262144, .inr (.inl kn9))), (hld, .inr (2, [.ref bk, .ref br, .int cnt29])), (bk, .inl (dK, 300, .inl kg9)), (br, .inl (dR, 300, .inl wg9)), (mo, .inr (5, [.int mth9, .int mw9, .int mh9, .ref ad, .ref asu, .ref aru, .int mro9, .ref ast, .int msd9, .ref afo, .int mmn9])), (ad, .inl (kD, 262144, .inl fd9)), (asu, .inl (kU, 263169, .inl fu9)), (aru, .inl (kR, 2100, .inl fr9)), (ast, .inl (kT, 1800, .inl ft9)), (afo, .inl (kF, 1800, .inl ff9)), (ho9, .inl (kO, 1, .inr (.inl fo9)))] → va_S A s.heap H9 locs9 → W p l e room_1 s m #[Value.ref b] below meth c H9 locs9 (kc + 1) (ns + 6) QQ (F0 m 699 ls9 [])) : W p l e room_1 s m #[Value.ref b] below meth c H locs kc ns QQ (F0 m 620 ls []) := by
  obtain ⟨hx, hb, hml, hown, hts⟩ := hfix
  refine lv_aload_n hx hb d_law_620 rfl (lv_at hl 1 rfl) ?_
  refine lv_aload_n hx hb d_law_621 rfl (lv_at hl 0 rfl) ?_
  refine lv_iload hx hb d_law_622 (lv_at hl 4 rfl) ?_
  refine lv_iconst (v := 1) hx hb d_law_624 (by decide) ?_
  refine lv_iadd hx hb d_law_625 ?_
  refine lv_topi (fun v625 e625 => ?_)
  have h625 : v625.toInt = zi + 1 := by rw [e625]; exact ti_add hiv (ti_k (by decide)) (by omega) (by omega)
  have in626 : vp_in v625 L := vi_in h625 (by omega) (by omega)
  refine va_sld hx hb hX hbl hbA hS in626 d_law_626 ?_
  refine lv_topi (fun v626 e626 => ?_)
  refine lv_aload_n hx hb d_law_627 rfl (lv_at hl 0 rfl) ?_
  refine lv_iload hx hb d_law_628 (lv_at hl 4 rfl) ?_
  refine lv_iconst (v := 2) hx hb d_law_630 (by decide) ?_
  refine lv_iadd hx hb d_law_631 ?_
  refine lv_topi (fun v631 e631 => ?_)
  have h631 : v631.toInt = zi + 2 := by rw [e631]; exact ti_add hiv (ti_k (by decide)) (by omega) (by omega)
  have in632 : vp_in v631 L := vi_in h631 (by omega) (by omega)
  refine va_sld hx hb hX hbl hbA hS in632 d_law_632 ?_
  refine lv_topi (fun v632 e632 => ?_)
  refine lv_aload_n hx hb d_law_633 rfl (lv_at hl 0 rfl) ?_
  refine lv_iload hx hb d_law_634 (lv_at hl 4 rfl) ?_
  refine lv_iconst (v := 3) hx hb d_law_636 (by decide) ?_
  refine lv_iadd hx hb d_law_637 ?_
  refine lv_topi (fun v637 e637 => ?_)
  have h637 : v637.toInt = zi + 3 := by rw [e637]; exact ti_add hiv (ti_k (by decide)) (by omega) (by omega)
  have in638 : vp_in v637 L := vi_in h637 (by omega) (by omega)
  refine va_sld hx hb hX hbl hbA hS in638 d_law_638 ?_
  refine lv_topi (fun v638 e638 => ?_)
  refine lv_aload_n hx hb d_law_639 rfl (lv_at hl 3 rfl) ?_
  have hPc := hP.sub (ws' := [(hf, .inr (4, [.ref hq, .ref hp, .ref hst, .ref hld])), (hp, .inr (0, [.int pw, .int ph, .ref hw, .ref hs, .int psr])), (hw, .inl (kW, 4096, .inr (.inl fw))), (hs, .inl (kS, 263169, .inl fs)), (hld, .inr (2, [.ref bk, .ref br, .int cnt2])), (bk, .inl (dK, 300, .inl kg)), (ho9, .inl (kO, 1, .inr (.inl fo)))]) [0, 2, 3, 4, 10, 11, 19] rfl
  have hKc := hK.sub (tys' := [(kW, .long), (kS, .int), (dK, .int), (kO, .long)]) [0, 1, 6, 13] rfl
  have hDc := hD.sub (ws' := [(hf, .inr (4, [.ref hq, .ref hp, .ref hst, .ref hld])), (hp, .inr (0, [.int pw, .int ph, .ref hw, .ref hs, .int psr])), (hw, .inl (kW, 4096, .inr (.inl fw))), (hs, .inl (kS, 263169, .inl fs)), (hld, .inr (2, [.ref bk, .ref br, .int cnt2])), (bk, .inl (dK, 300, .inl kg)), (ho9, .inl (kO, 1, .inr (.inl fo)))]) [0, 2, 3, 4, 10, 11, 19] (by decide) rfl
  have hFc := va_free (wc := [(hf, .inr (4, [.ref hq, .ref hp, .ref hst, .ref hld])), (hp, .inr (0, [.int pw, .int ph, .ref hw, .ref hs, .int psr])), (hw, .inl (kW, 4096, .inr (.inl fw))), (hs, .inl (kS, 263169, .inl fs)), (hld, .inr (2, [.ref bk, .ref br, .int cnt2])), (bk, .inl (dK, 300, .inl kg)), (ho9, .inl (kO, 1, .inr (.inl fo)))]) hD hS hA [0, 2, 3, 4, 10, 11, 19] rfl
  have hTzc := tZ.sub hTz hS hFc
  refine va_calli (vx_runSW (As := [.ref hf, .int v626, .int v632, .int v638, .ref ho9]) (rest := []) ⟨hx, hb, hml, hown, hts⟩ (l_modules l dC dI H.size hl9 hf hq hst hld hp hw hs kW kS pw ph psr fw fs Wd Ht D hS0.1.1 hS0.1.2.1 hS0.2.1.1 hS0.2.1.2.1 hS0.2.1.2.2.1 hS0.2.1.2.2.2 hS0.2.2.1 hS0.2.2.2.2.1 bk br dK cnt2 kg cnt2.toInt rfl (iV_n hV0).1 (iV_n hV0).2 (iV_key hV0) v626 v632 v638 v626.toInt v632.toInt v638.toInt rfl rfl rfl ho9 kO fo) (aw_SW 5 hts wd_525 wd_526 wd_0 wd_527 rfl rfl (by decide +kernel) ⟨Nat.le_of_ble_eq_true rfl, Nat.le_of_ble_eq_true rfl⟩) ⟨tB_blind, tB_pre hPc hKc hDc hTx hTr hTzc⟩ rfl rfl hl.1 rfl (lv_room (Nat.le_of_ble_eq_true rfl)) d_law_640 ⟨by show _ ≤ 601024; omega, by show _ ≤ 7293034; omega⟩) hS (fun q _ h => hFc q h) hFc (fun v640 u640_fo t9 H640 locs ht hvm h640 hB hz1 hk1 hS => ?_)
  obtain ⟨hP1, hK1, hD1⟩ := hB
  rw [ht] at hP1
  try dsimp only at h640 hP1 hD1
  obtain ⟨hP, hD⟩ := va_join (wr := [(hq, .inr (3, [.ref hp, .ref hst, .int lim, .int thd, .int md, .int sz0, .int tm, .int tx, .int ty, .int sx, .int sy, .ref hqf, .ref hkn, .int stp])), (hst, .inr (2, [.ref ak, .ref ar, .int cnt])), (ak, .inl (cK, 300, .inl kf)), (ar, .inl (cR, 300, .inl wf)), (hqf, .inl (cQ, 4, .inl qf)), (hkn, .inl (cN, 262144, .inr (.inl kn))), (br, .inl (dR, 300, .inl wg)), (mo, .inr (5, [.int mth, .int mw, .int mh, .ref ad, .ref asu, .ref aru, .int mro, .ref ast, .int msd, .ref afo, .int mmn])), (ad, .inl (kD, 262144, .inl fd)), (asu, .inl (kU, 263169, .inl fu)), (aru, .inl (kR, 2100, .inl fr)), (ast, .inl (kT, 1800, .inl ft)), (afo, .inl (kF, 1800, .inl ff))]) (w1 := [(hf, .inr (4, [.ref hq, .ref hp, .ref hst, .ref hld])), (hp, .inr (0, [.int pw, .int ph, .ref hw, .ref hs, .int psr])), (hw, .inl (kW, 4096, .inr (.inl fw))), (hs, .inl (kS, 263169, .inl fs)), (hld, .inr (2, [.ref bk, .ref br, .int cnt2])), (bk, .inl (dK, 300, .inl kg)), (ho9, .inl (kO, 1, .inr (.inl u640_fo)))]) hP hD [0, 2, 3, 4, 10, 11, 19] [1, 5, 6, 7, 8, 9, 12, 13, 14, 15, 16, 17, 18] rfl rfl (by decide) (by decide) hk1 hFc hP1 hD1
  have hP := hP.sub (ws' := [(hf, .inr (4, [.ref hq, .ref hp, .ref hst, .ref hld])), (hq, .inr (3, [.ref hp, .ref hst, .int lim, .int thd, .int md, .int sz0, .int tm, .int tx, .int ty, .int sx, .int sy, .ref hqf, .ref hkn, .int stp])), (hp, .inr (0, [.int pw, .int ph, .ref hw, .ref hs, .int psr])), (hw, .inl (kW, 4096, .inr (.inl fw))), (hs, .inl (kS, 263169, .inl fs)), (hst, .inr (2, [.ref ak, .ref ar, .int cnt])), (ak, .inl (cK, 300, .inl kf)), (ar, .inl (cR, 300, .inl wf)), (hqf, .inl (cQ, 4, .inl qf)), (hkn, .inl (cN, 262144, .inr (.inl kn))), (hld, .inr (2, [.ref bk, .ref br, .int cnt2])), (bk, .inl (dK, 300, .inl kg)), (br, .inl (dR, 300, .inl wg)), (mo, .inr (5, [.int mth, .int mw, .int mh, .ref ad, .ref asu, .ref aru, .int mro, .ref ast, .int msd, .ref afo, .int mmn])), (ad, .inl (kD, 262144, .inl fd)), (asu, .inl (kU, 263169, .inl fu)), (aru, .inl (kR, 2100, .inl fr)), (ast, .inl (kT, 1800, .inl ft)), (afo, .inl (kF, 1800, .inl ff)), (ho9, .inl (kO, 1, .inr (.inl u640_fo)))]) [13, 0, 14, 15, 16, 1, 2, 3, 4, 5, 17, 18, 6, 7, 8, 9, 10, 11, 12, 19] rfl
  have hD := hD.sub (ws' := [(hf, .inr (4, [.ref hq, .ref hp, .ref hst, .ref hld])), (hq, .inr (3, [.ref hp, .ref hst, .int lim, .int thd, .int md, .int sz0, .int tm, .int tx, .int ty, .int sx, .int sy, .ref hqf, .ref hkn, .int stp])), (hp, .inr (0, [.int pw, .int ph, .ref hw, .ref hs, .int psr])), (hw, .inl (kW, 4096, .inr (.inl fw))), (hs, .inl (kS, 263169, .inl fs)), (hst, .inr (2, [.ref ak, .ref ar, .int cnt])), (ak, .inl (cK, 300, .inl kf)), (ar, .inl (cR, 300, .inl wf)), (hqf, .inl (cQ, 4, .inl qf)), (hkn, .inl (cN, 262144, .inr (.inl kn))), (hld, .inr (2, [.ref bk, .ref br, .int cnt2])), (bk, .inl (dK, 300, .inl kg)), (br, .inl (dR, 300, .inl wg)), (mo, .inr (5, [.int mth, .int mw, .int mh, .ref ad, .ref asu, .ref aru, .int mro, .ref ast, .int msd, .ref afo, .int mmn])), (ad, .inl (kD, 262144, .inl fd)), (asu, .inl (kU, 263169, .inl fu)), (aru, .inl (kR, 2100, .inl fr)), (ast, .inl (kT, 1800, .inl ft)), (afo, .inl (kF, 1800, .inl ff)), (ho9, .inl (kO, 1, .inr (.inl u640_fo)))]) [13, 0, 14, 15, 16, 1, 2, 3, 4, 5, 17, 18, 6, 7, 8, 9, 10, 11, 12, 19] (by decide) rfl
  clear hPc hKc hDc hFc hTzc ht hvm hz1 hk1 hP1 hD1 hK1
  refine lv_istore (lv' := [(5, .int v640), (0, .ref b), (1, .ref hf), (2, .ref mo), (3, .ref ho9), (4, .int iv)]) hx hb d_law_643 hl (by decide) rfl (fun ls hl => ?_)
  refine lv_aload_n hx hb d_law_645 rfl (lv_at hl 3 rfl) ?_
  refine lv_aload_n hx hb d_law_646 rfl (lv_at hl 1 rfl) ?_
  refine lv_iload hx hb d_law_647 (lv_at hl 5 rfl) ?_
  refine lv_iconst (v := 1) hx hb d_law_649 (by decide) ?_
  refine lv_iadd hx hb d_law_650 ?_
  refine lv_topi (fun v650 e650 => ?_)
  have h650 : v650.toInt = zi + 1 := by rw [e650]; exact ti_add hiv (ti_k (by decide)) (by omega) (by omega)
  have q650 : v625 = v650 := by rw [e625, e650]
  subst q650
  have in651 : vp_in v625 L := vi_in h650 (by omega) (by omega)
  refine va_sld hx hb hX hbl hbA hS in651 d_law_651 ?_
  refine lv_topi (fun v651 e651 => ?_)
  have q651 : v626 = v651 := by rw [e626, e651]
  subst q651
  refine lv_aload_n hx hb d_law_652 rfl (lv_at hl 1 rfl) ?_
  refine lv_iload hx hb d_law_653 (lv_at hl 5 rfl) ?_
  refine lv_iconst (v := 2) hx hb d_law_655 (by decide) ?_
  refine lv_iadd hx hb d_law_656 ?_
  refine lv_topi (fun v656 e656 => ?_)
  have h656 : v656.toInt = zi + 2 := by rw [e656]; exact ti_add hiv (ti_k (by decide)) (by omega) (by omega)
  have q656 : v631 = v656 := by rw [e631, e656]
  subst q656
  have in657 : vp_in v631 L := vi_in h656 (by omega) (by omega)
  refine va_sld hx hb hX hbl hbA hS in657 d_law_657 ?_
  refine lv_topi (fun v657 e657 => ?_)
  have q657 : v632 = v657 := by rw [e632, e657]
  subst q657
  refine lv_aload_n hx hb d_law_658 rfl (lv_at hl 1 rfl) ?_
  refine lv_iload hx hb d_law_659 (lv_at hl 5 rfl) ?_
  refine lv_iconst (v := 3) hx hb d_law_661 (by decide) ?_
  refine lv_iadd hx hb d_law_662 ?_
  refine lv_topi (fun v662 e662 => ?_)
  have h662 : v662.toInt = zi + 3 := by rw [e662]; exact ti_add hiv (ti_k (by decide)) (by omega) (by omega)
  have q662 : v637 = v662 := by rw [e637, e662]
  subst q662
  have in663 : vp_in v637 L := vi_in h662 (by omega) (by omega)
  refine va_sld hx hb hX hbl hbA hS in663 d_law_663 ?_
  refine lv_topi (fun v663 e663 => ?_)
  have q663 : v638 = v663 := by rw [e638, e663]
  subst q663
  have hPc := hP.sub (ws' := [(mo, .inr (5, [.int mth, .int mw, .int mh, .ref ad, .ref asu, .ref aru, .int mro, .ref ast, .int msd, .ref afo, .int mmn])), (ad, .inl (kD, 262144, .inl fd)), (afo, .inl (kF, 1800, .inl ff))]) [13, 14, 18] rfl
  have hKc := hK.sub (tys' := [(kD, .boolean), (kF, .int)]) [8, 12] rfl
  have hDc := hD.sub (ws' := [(mo, .inr (5, [.int mth, .int mw, .int mh, .ref ad, .ref asu, .ref aru, .int mro, .ref ast, .int msd, .ref afo, .int mmn])), (ad, .inl (kD, 262144, .inl fd)), (afo, .inl (kF, 1800, .inl ff))]) [13, 14, 18] (by decide) rfl
  have hFc := va_free (wc := [(mo, .inr (5, [.int mth, .int mw, .int mh, .ref ad, .ref asu, .ref aru, .int mro, .ref ast, .int msd, .ref afo, .int mmn])), (ad, .inl (kD, 262144, .inl fd)), (afo, .inl (kF, 1800, .inl ff))]) hD hS hA [13, 14, 18] rfl
  refine va_calll (va_runV (As := [.int v626, .int v632, .int v638]) (rest := []) ⟨hx, hb, hml, hown, hts⟩ (m_modules l dC dI H640.size mo ad asu aru ast afo mth mw mh mro msd mmn Wd Ht hS0.1.2.2.1 hS0.1.2.2.2 hS0.2.1.1 hS0.2.1.2.1 hS0.2.1.2.2.1 hS0.2.1.2.2.2 kD fd D hS0.2.2.2.1 mmn.toInt rfl hV0.2.2.1.1 hV0.2.2.1.2 kF ff (iV_F hV0 hS0.2.1.2.1 hS0.2.1.2.2.2) v626 v632 v638 v626.toInt v632.toInt v638.toInt rfl rfl rfl) (aw_V 3 hts wd_717 wd_718 wd_719 wd_5 wd_720 rfl rfl (by decide +kernel) ⟨Nat.le_of_ble_eq_true rfl, Nat.le_of_ble_eq_true rfl⟩) ⟨rw_blind, va_recv hKc hPc (ci := 5) (q0 := 0) rfl rfl, rw_pre hPc hKc hDc⟩ rfl rfl hl.1 rfl (lv_room (Nat.le_of_ble_eq_true rfl)) d_law_664 ⟨by show _ ≤ 601024; omega, by show _ ≤ 7293034; omega⟩) hS (fun q _ h => hFc q h) hFc (fun v664 u t9 H664 locs ht hvm h664 hB hz1 hk1 hS => ?_)
  obtain ⟨u664_th, u664_fd⟩ := u
  obtain ⟨hP1, hK1, hD1⟩ := hB
  rw [ht] at hP1
  try dsimp only at h664 hP1 hD1
  obtain ⟨hP, hD⟩ := va_join (wr := [(hf, .inr (4, [.ref hq, .ref hp, .ref hst, .ref hld])), (hq, .inr (3, [.ref hp, .ref hst, .int lim, .int thd, .int md, .int sz0, .int tm, .int tx, .int ty, .int sx, .int sy, .ref hqf, .ref hkn, .int stp])), (hp, .inr (0, [.int pw, .int ph, .ref hw, .ref hs, .int psr])), (hw, .inl (kW, 4096, .inr (.inl fw))), (hs, .inl (kS, 263169, .inl fs)), (hst, .inr (2, [.ref ak, .ref ar, .int cnt])), (ak, .inl (cK, 300, .inl kf)), (ar, .inl (cR, 300, .inl wf)), (hqf, .inl (cQ, 4, .inl qf)), (hkn, .inl (cN, 262144, .inr (.inl kn))), (hld, .inr (2, [.ref bk, .ref br, .int cnt2])), (bk, .inl (dK, 300, .inl kg)), (br, .inl (dR, 300, .inl wg)), (asu, .inl (kU, 263169, .inl fu)), (aru, .inl (kR, 2100, .inl fr)), (ast, .inl (kT, 1800, .inl ft)), (ho9, .inl (kO, 1, .inr (.inl u640_fo)))]) (w1 := [(mo, .inr (5, [.int u664_th, .int mw, .int mh, .ref ad, .ref asu, .ref aru, .int mro, .ref ast, .int msd, .ref afo, .int mmn])), (ad, .inl (kD, 262144, .inl u664_fd)), (afo, .inl (kF, 1800, .inl ff))]) hP hD [13, 14, 18] [0, 1, 2, 3, 4, 5, 6, 7, 8, 9, 10, 11, 12, 15, 16, 17, 19] rfl rfl (by decide) (by decide) hk1 hFc hP1 hD1
  have hP := hP.sub (ws' := [(hf, .inr (4, [.ref hq, .ref hp, .ref hst, .ref hld])), (hq, .inr (3, [.ref hp, .ref hst, .int lim, .int thd, .int md, .int sz0, .int tm, .int tx, .int ty, .int sx, .int sy, .ref hqf, .ref hkn, .int stp])), (hp, .inr (0, [.int pw, .int ph, .ref hw, .ref hs, .int psr])), (hw, .inl (kW, 4096, .inr (.inl fw))), (hs, .inl (kS, 263169, .inl fs)), (hst, .inr (2, [.ref ak, .ref ar, .int cnt])), (ak, .inl (cK, 300, .inl kf)), (ar, .inl (cR, 300, .inl wf)), (hqf, .inl (cQ, 4, .inl qf)), (hkn, .inl (cN, 262144, .inr (.inl kn))), (hld, .inr (2, [.ref bk, .ref br, .int cnt2])), (bk, .inl (dK, 300, .inl kg)), (br, .inl (dR, 300, .inl wg)), (mo, .inr (5, [.int u664_th, .int mw, .int mh, .ref ad, .ref asu, .ref aru, .int mro, .ref ast, .int msd, .ref afo, .int mmn])), (ad, .inl (kD, 262144, .inl u664_fd)), (asu, .inl (kU, 263169, .inl fu)), (aru, .inl (kR, 2100, .inl fr)), (ast, .inl (kT, 1800, .inl ft)), (afo, .inl (kF, 1800, .inl ff)), (ho9, .inl (kO, 1, .inr (.inl u640_fo)))]) [0, 1, 2, 3, 4, 5, 6, 7, 8, 9, 10, 11, 12, 17, 18, 13, 14, 15, 19, 16] rfl
  have hD := hD.sub (ws' := [(hf, .inr (4, [.ref hq, .ref hp, .ref hst, .ref hld])), (hq, .inr (3, [.ref hp, .ref hst, .int lim, .int thd, .int md, .int sz0, .int tm, .int tx, .int ty, .int sx, .int sy, .ref hqf, .ref hkn, .int stp])), (hp, .inr (0, [.int pw, .int ph, .ref hw, .ref hs, .int psr])), (hw, .inl (kW, 4096, .inr (.inl fw))), (hs, .inl (kS, 263169, .inl fs)), (hst, .inr (2, [.ref ak, .ref ar, .int cnt])), (ak, .inl (cK, 300, .inl kf)), (ar, .inl (cR, 300, .inl wf)), (hqf, .inl (cQ, 4, .inl qf)), (hkn, .inl (cN, 262144, .inr (.inl kn))), (hld, .inr (2, [.ref bk, .ref br, .int cnt2])), (bk, .inl (dK, 300, .inl kg)), (br, .inl (dR, 300, .inl wg)), (mo, .inr (5, [.int u664_th, .int mw, .int mh, .ref ad, .ref asu, .ref aru, .int mro, .ref ast, .int msd, .ref afo, .int mmn])), (ad, .inl (kD, 262144, .inl u664_fd)), (asu, .inl (kU, 263169, .inl fu)), (aru, .inl (kR, 2100, .inl fr)), (ast, .inl (kT, 1800, .inl ft)), (afo, .inl (kF, 1800, .inl ff)), (ho9, .inl (kO, 1, .inr (.inl u640_fo)))]) [0, 1, 2, 3, 4, 5, 6, 7, 8, 9, 10, 11, 12, 17, 18, 13, 14, 15, 19, 16] (by decide) rfl
  clear hPc hKc hDc hFc ht hvm hz1 hk1 hP1 hD1 hK1
  obtain ⟨hth, hk, i1⟩ := st_modules hS0 hV0 h640 h664
  refine lv_lstore (lv' := [(6, .long v664), (5, .int v640), (0, .ref b), (1, .ref hf), (2, .ref mo), (3, .ref ho9), (4, .int iv)]) hx hb d_law_667 hl (by decide) rfl (fun ls hl => ?_)
  refine lv_aload_n hx hb d_law_669 rfl (lv_at hl 4 rfl) ?_
  have hPc := hP.sub (ws' := [(mo, .inr (5, [.int u664_th, .int mw, .int mh, .ref ad, .ref asu, .ref aru, .int mro, .ref ast, .int msd, .ref afo, .int mmn]))]) [13] rfl
  have hKc := hK.sub (tys' := []) [] rfl
  refine va_calli (va_runV (As := []) (rest := []) ⟨hx, hb, hml, hown, hts⟩ (m_thrown l dC dI mo ad asu aru ast afo u664_th mw mh mro msd mmn) (aw_V 0 hts wd_600 wd_601 wd_602 wd_5 wd_603 rfl rfl (by decide +kernel) ⟨Nat.le_of_ble_eq_true rfl, Nat.le_of_ble_eq_true rfl⟩) ⟨ro_blind, va_recv hKc hPc (ci := 5) (q0 := 0) rfl rfl, ro_pre hPc hKc⟩ rfl rfl hl.1 rfl (lv_room (Nat.le_of_ble_eq_true rfl)) d_law_670 ⟨by show _ ≤ 601024; omega, by show _ ≤ 7293034; omega⟩) hS (fun q _ h => h.elim) (fun q h => h.elim) (fun v670 _ t9 H670 locs ht hvm h670 hB hz1 hk1 hS => ?_)
  have hP := ro_keep hP hk1
  clear hPc hKc ht hvm hB hz1 hk1
  refine lv_iload hx hb d_law_673 (lv_at hl 1 rfl) ?_
  refine lv_icmp_eq (tgt := 680) hx hb d_law_675 (by decide) (fun c675 => ?_) (fun c675 => ?_)
  · skip
    refine lv_iload hx hb d_law_680 (lv_at hl 1 rfl) ?_
    refine lv_if_ne (tgt := 696) hx hb d_law_682 (by decide) (fun c682 => ?_) (fun c682 => ?_)
    · skip
      have c682 : ¬ (v640.toInt = 0) := fun q => c682 ((ti_eq rfl (ti_k (by decide))).mpr q)
      refine lv_goto (tgt := 699) hx hb d_law_696 (by decide) ?_
      exact kk _ _ _ _ _ _ pw ph psr lim thd md sz0 tm tx ty sx sy stp cnt cnt2 u664_th mw mh mro msd mmn fw kn u640_fo fs kf wf qf kg wg u664_fd fu fr ft ff (lv_sub hl [2, 3, 4, 5, 6] rfl) i1 (iN_s hN0) hV0 hP hD hS
    · skip
      have c682 : v640.toInt = 0 := (ti_eq rfl (ti_k (by decide))).mp c682
      refine lv_aload_n hx hb d_law_685 rfl (lv_at hl 5 rfl) ?_
      refine lv_iconst (v := 0) hx hb d_law_686 (by decide) ?_
      have in687 : vp_in (0 : Int32) 1 := vi_in (show (0 : Int32).toInt = (0 : Int) by decide) (by omega) (by omega)
      refine va_lald hx hb hK hP 19 13 rfl rfl in687 d_law_687 ?_
      refine lv_topl (fun v687 e687 => ?_)
      have e687 : v687 = u640_fo ((0 : Int)).toNat := by rw [e687, vi_cl (show (0 : Int32).toInt = (0 : Int) by decide)]
      refine lv_lload hx hb d_law_688 (lv_at hl 0 rfl) ?_
      refine W.lcmp hx hb d_law_690 ?_
      refine lv_topi (fun v690 e690 => ?_)
      have h690 : v690.toInt = (if v664.toInt < v687.toInt then 1 else if v687.toInt = v664.toInt then 0 else -1) := by rw [e690]; exact tl_cmp rfl rfl
      refine lv_if_eq (tgt := 696) hx hb d_law_691 (by decide) (fun c691 => ?_) (fun c691 => ?_)
      · skip
        have c691 : (if v664.toInt < v687.toInt then 1 else if v687.toInt = v664.toInt then 0 else -1) = 0 := (ti_eq h690 (ti_k (by decide))).mp c691
        refine lv_goto (tgt := 699) hx hb d_law_696 (by decide) ?_
        exact kk _ _ _ _ _ _ pw ph psr lim thd md sz0 tm tx ty sx sy stp cnt cnt2 u664_th mw mh mro msd mmn fw kn u640_fo fs kf wf qf kg wg u664_fd fu fr ft ff (lv_sub hl [2, 3, 4, 5, 6] rfl) i1 (iN_s hN0) hV0 hP hD hS
      · skip
        have c691 : ¬ ((if v664.toInt < v687.toInt then 1 else if v687.toInt = v664.toInt then 0 else -1) = 0) := fun q => c691 ((ti_eq h690 (ti_k (by decide))).mpr q)
        exact absurd (lc0 (congrArg Int64.toInt (e687.trans (hk ((ti_eq rfl (show (0 : Int32).toInt = 0 by decide)).mpr c682))))) c691
  · skip
    exact absurd (h670.trans hth) c675
