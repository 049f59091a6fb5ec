set_option maxHeartbeats 4000000 in
set_option maxRecDepth 100000 in
theorem law_c5 {p : Program} {e : Env} {s : State} {m : MethodId} {below : List Frame} {meth : Method} {c : Code} {QQ : State → Prop} {A : Nat → Prop} {b L : Nat} {xs : Nat → Int32} (l : Launch) (dC : Nat → ClassId) (dI : Nat → Nat → Nat) (hl9 : l.stackTraces = false) (kW kS cK cR cQ cN dK dR kD kU kR kT kF kO : ClassId) (hfix : CallFix p m c code 8 s #[Value.ref b] allw R_Law) (hK : va_K (dC, dI) vwCl [(kW, .long), (kS, .int), (cK, .int), (cR, .int), (cQ, .int), (cN, .long), (dK, .int), (dR, .int), (kD, .boolean), (kU, .int), (kR, .int), (kT, .int), (kF, .int), (kO, .long)] s) (hA : ∀ q : Nat, s.heap.size ≤ q → A q) (hX : va_X b L xs s s.heap) (hbl : b < s.heap.size) (hbA : ¬ A b) (hTz : tZ A s s.heap) (hTx : tX R_IAE s) (hTr : tR [(102, "least is 1 .. 16 and most least .. 16"), (104, "limit is 0 .. 500")] s) (hf hq hp hw hs hst ak ar hqf hkn hld bk br mo ad asu aru ast afo ho9 : Nat) (Wd Ht n9 : Int) (D : Int → Int → Bool) (pw ph psr lim thd md sz0 tm tx ty sx sy stp cnt cnt2 mth mw mh mro msd mmn : Int32) (fw kn fo : Nat → Int64) (fs kf wf qf kg wg fd fu fr ft ff : Nat → Int32) (kc ns : Nat) (hkc : kc + 1 ≤ 601024) (hns : ns + 6 ≤ 7293034) (hn9 : 0 ≤ n9 ∧ n9 < 512) (iv : Int32) (zi : Int) (hiv : iv.toInt = zi) (hzi : 0 ≤ zi ∧ zi + 6 ≤ L) (hL : L ≤ 3072) (hS0 : iS Wd Ht D pw ph psr mw mh fw fs fd fu) (hN0 : iN n9 sz0 stp kn) (hV0 : iV Wd Ht cnt cnt2 msd mmn kg wg ff) (H : Heap) (locs : List Loc) (ls : Array Slot) (hl : lv_has ls 8 [(0, .ref b), (1, .ref hf), (2, .ref mo), (3, .ref ho9), (4, .int iv)]) (hP : va_P (dC, dI) vwCl [(hf, .inr (4, [.ref hq, .ref hp, .ref hst, .ref hld])), (hq, .inr (3, [.ref hp, .ref hst, .int lim, .int thd, .int md, .int sz0, .int tm, .int tx, .int ty, .int sx, .int sy, .ref hqf, .ref hkn, .int stp])), (hp, .inr (0, [.int pw, .int ph, .ref hw, .ref hs, .int psr])), (hw, .inl (kW, 4096, .inr (.inl fw))), (hs, .inl (kS, 263169, .inl fs)), (hst, .inr (2, [.ref ak, .ref ar, .int cnt])), (ak, .inl (cK, 300, .inl kf)), (ar, .inl (cR, 300, .inl wf)), (hqf, .inl (cQ, 4, .inl qf)), (hkn, .inl (cN, 262144, .inr (.inl kn))), (hld, .inr (2, [.ref bk, .ref br, .int cnt2])), (bk, .inl (dK, 300, .inl kg)), (br, .inl (dR, 300, .inl wg)), (mo, .inr (5, [.int mth, .int mw, .int mh, .ref ad, .ref asu, .ref aru, .int mro, .ref ast, .int msd, .ref afo, .int mmn])), (ad, .inl (kD, 262144, .inl fd)), (asu, .inl (kU, 263169, .inl fu)), (aru, .inl (kR, 2100, .inl fr)), (ast, .inl (kT, 1800, .inl ft)), (afo, .inl (kF, 1800, .inl ff)), (ho9, .inl (kO, 1, .inr (.inl fo)))] H) (hD : va_D A [(hf, .inr (4, [.ref hq, .ref hp, .ref hst, .ref hld])), (hq, .inr (3, [.ref hp, .ref hst, .int lim, .int thd, .int md, .int sz0, .int tm, .int tx, .int ty, .int sx, .int sy, .ref hqf, .ref hkn, .int stp])), (hp, .inr (0, [.int pw, .int ph, .ref hw, .ref hs, .int psr])), (hw, .inl (kW, 4096, .inr (.inl fw))), (hs, .inl (kS, 263169, .inl fs)), (hst, .inr (2, [.ref ak, .ref ar, .int cnt])), (ak, .inl (cK, 300, .inl kf)), (ar, .inl (cR, 300, .inl wf)), (hqf, .inl (cQ, 4, .inl qf)), (hkn, .inl (cN, 262144, .inr (.inl kn))), (hld, .inr (2, [.ref bk, .ref br, .int cnt2])), (bk, .inl (dK, 300, .inl kg)), (br, .inl (dR, 300, .inl wg)), (mo, .inr (5, [.int mth, .int mw, .int mh, .ref ad, .ref asu, .ref aru, .int mro, .ref ast, .int msd, .ref afo, .int mmn])), (ad, .inl (kD, 262144, .inl fd)), (asu, .inl (kU, 263169, .inl fu)), (aru, .inl (kR, 2100, .inl fr)), (ast, .inl (kT, 1800, .inl ft)), (afo, .inl (kF, 1800, .inl ff)), (ho9, .inl (kO, 1, .inr (.inl fo)))]) (hS : va_S A s.heap H locs) (kk : ∀ (H9 : Heap) (locs9 : List Loc) (ls9 : Array Slot) (Wd9 Ht9 : Int) (D9 : Int → Int → Bool) (pw9 ph9 psr9 lim9 thd9 md9 sz09 tm9 tx9 ty9 sx9 sy9 stp9 cnt9 cnt29 mth9 mw9 mh9 mro9 msd9 mmn9 : Int32) (fw9 kn9 fo9 : Nat → Int64) (fs9 kf9 wf9 qf9 kg9 wg9 fd9 fu9 fr9 ft9 ff9 : Nat → Int32), lv_has ls9 8 [(0, .ref b), (1, .ref hf), (2, .ref mo), (3, .ref ho9), (4, .int iv)] → iS Wd9 Ht9 D9 pw9 ph9 psr9 mw9 mh9 fw9 fs9 fd9 fu9 → iN (n9 + 1) sz09 stp9 kn9 → iV Wd9 Ht9 cnt9 cnt29 msd9 mmn9 kg9 wg9 ff9 → va_P (dC, dI) vwCl [(hf, .inr (4, [.ref hq, .ref hp, .ref hst, .ref hld])), (hq, .inr (3, [.ref hp, .ref hst, .int lim9, .int thd9, .int md9, .int sz09, .int tm9, .int tx9, .int ty9, .int sx9, .int sy9, .ref hqf, .ref hkn, .int stp9])), (hp, .inr (0, [.int pw9, .int ph9, .ref hw, .ref hs, .int psr9])), (hw, .inl (kW, 4096, .inr (.inl fw9))), (hs, .inl (kS, 263169, .inl fs9)), (hst, .inr (2, [.ref ak, .ref ar, .int cnt9])), (ak, .inl (cK, 300, .inl kf9)), (ar, .inl (cR, 300, .inl wf9)), (hqf, .inl (cQ, 4, .inl qf9)), (hkn, .inl (cN, 262144, .inr (.inl kn9))), (hld, .inr (2, [.ref bk, .ref br, .int cnt29])), (bk, .inl (dK, 300, .inl kg9)), (br, .inl (dR, 300, .inl wg9)), (mo, .inr (5, [.int mth9, .int mw9, .int mh9, .ref ad, .ref asu, .ref aru, .int mro9, .ref ast, .int msd9, .ref afo, .int mmn9])), (ad, .inl (kD, 262144, .inl fd9)), (asu, .inl (kU, 263169, .inl fu9)), (aru, .inl (kR, 2100, .inl fr9)), (ast, .inl (kT, 1800, .inl ft9)), (afo, .inl (kF, 1800, .inl ff9)), (ho9, .inl (kO, 1, .inr (.inl fo9)))] H9 → va_D A [(hf, .inr (4, [.ref hq, .ref hp, .ref hst, .ref hld])), (hq, .inr (3, [.ref hp, .ref hst, .int lim9, .int thd9, .int md9, .int sz09, .int tm9, .int tx9, .int ty9, .int sx9, .int sy9, .ref hqf, .ref hkn, .int stp9])), (hp, .inr (0, [.int pw9, .int ph9, .ref hw, .ref hs, .int psr9])), (hw, .inl (kW, 4096, .inr (.inl fw9))), (hs, .inl (kS, 263169, .inl fs9)), (hst, .inr (2, [.ref ak, .ref ar, .int cnt9])), (ak, .inl (cK, 300, .inl kf9)), (ar, .inl (cR, 300, .inl wf9)), (hqf, .inl (cQ, 4, .inl qf9)), (hkn, .inl (cN, 262144, .inr (.inl kn9))), (hld, .inr (2, [.ref bk, .ref br, .int cnt29])), (bk, .inl (dK, 300, .inl kg9)), (br, .inl (dR, 300, .inl wg9)), (mo, .inr (5, [.int mth9, .int mw9, .int mh9, .ref ad, .ref asu, .ref aru, .int mro9, .ref ast, .int msd9, .ref afo, .int mmn9])), (ad, .inl (kD, 262144, .inl fd9)), (asu, .inl (kU, 263169, .inl fu9)), (aru, .inl (kR, 2100, .inl fr9)), (ast, .inl (kT, 1800, .inl ft9)), (afo, .inl (kF, 1800, .inl ff9)), (ho9, .inl (kO, 1, .inr (.inl fo9)))] → va_S A s.heap H9 locs9 → W p l e room_1 s m #[Value.ref b] below meth c H9 locs9 (kc + 1) (ns + 6) QQ (F0 m 699 ls9 [])) : W p l e room_1 s m #[Value.ref b] below meth c H locs kc ns QQ (F0 m 459 ls []) := by
  obtain ⟨hx, hb, hml, hown, hts⟩ := hfix
  obtain ⟨D0, M0, hkn0⟩ := hN0.2.2
  refine lv_aload_n hx hb d_law_459 rfl (lv_at hl 1 rfl) ?_
  refine lv_aload_n hx hb d_law_460 rfl (lv_at hl 0 rfl) ?_
  refine lv_iload hx hb d_law_461 (lv_at hl 4 rfl) ?_
  refine lv_iconst (v := 1) hx hb d_law_463 (by decide) ?_
  refine lv_iadd hx hb d_law_464 ?_
  refine lv_topi (fun v464 e464 => ?_)
  have h464 : v464.toInt = zi + 1 := by rw [e464]; exact ti_add hiv (ti_k (by decide)) (by omega) (by omega)
  have in465 : vp_in v464 L := vi_in h464 (by omega) (by omega)
  refine va_sld hx hb hX hbl hbA hS in465 d_law_465 ?_
  refine lv_topi (fun v465 e465 => ?_)
  refine lv_aload_n hx hb d_law_466 rfl (lv_at hl 0 rfl) ?_
  refine lv_iload hx hb d_law_467 (lv_at hl 4 rfl) ?_
  refine lv_iconst (v := 2) hx hb d_law_469 (by decide) ?_
  refine lv_iadd hx hb d_law_470 ?_
  refine lv_topi (fun v470 e470 => ?_)
  have h470 : v470.toInt = zi + 2 := by rw [e470]; exact ti_add hiv (ti_k (by decide)) (by omega) (by omega)
  have in471 : vp_in v470 L := vi_in h470 (by omega) (by omega)
  refine va_sld hx hb hX hbl hbA hS in471 d_law_471 ?_
  refine lv_topi (fun v471 e471 => ?_)
  refine lv_aload_n hx hb d_law_472 rfl (lv_at hl 0 rfl) ?_
  refine lv_iload hx hb d_law_473 (lv_at hl 4 rfl) ?_
  refine lv_iconst (v := 3) hx hb d_law_475 (by decide) ?_
  refine lv_iadd hx hb d_law_476 ?_
  refine lv_topi (fun v476 e476 => ?_)
  have h476 : v476.toInt = zi + 3 := by rw [e476]; exact ti_add hiv (ti_k (by decide)) (by omega) (by omega)
  have in477 : vp_in v476 L := vi_in h476 (by omega) (by omega)
  refine va_sld hx hb hX hbl hbA hS in477 d_law_477 ?_
  refine lv_topi (fun v477 e477 => ?_)
  refine lv_aload_n hx hb d_law_478 rfl (lv_at hl 3 rfl) ?_
  have hPc := hP.sub (ws' := [(hf, .inr (4, [.ref hq, .ref hp, .ref hst, .ref hld])), (hq, .inr (3, [.ref hp, .ref hst, .int lim, .int thd, .int md, .int sz0, .int tm, .int tx, .int ty, .int sx, .int sy, .ref hqf, .ref hkn, .int stp])), (hp, .inr (0, [.int pw, .int ph, .ref hw, .ref hs, .int psr])), (hw, .inl (kW, 4096, .inr (.inl fw))), (hs, .inl (kS, 263169, .inl fs)), (hst, .inr (2, [.ref ak, .ref ar, .int cnt])), (ak, .inl (cK, 300, .inl kf)), (ar, .inl (cR, 300, .inl wf)), (hqf, .inl (cQ, 4, .inl qf)), (hkn, .inl (cN, 262144, .inr (.inl kn))), (hld, .inr (2, [.ref bk, .ref br, .int cnt2])), (bk, .inl (dK, 300, .inl kg)), (br, .inl (dR, 300, .inl wg)), (ho9, .inl (kO, 1, .inr (.inl fo)))]) [0, 1, 2, 3, 4, 5, 6, 7, 8, 9, 10, 11, 12, 19] rfl
  have hKc := hK.sub (tys' := [(kW, .long), (kS, .int), (cK, .int), (cR, .int), (cQ, .int), (cN, .long), (dK, .int), (dR, .int), (kO, .long)]) [0, 1, 2, 3, 4, 5, 6, 7, 13] rfl
  have hDc := hD.sub (ws' := [(hf, .inr (4, [.ref hq, .ref hp, .ref hst, .ref hld])), (hq, .inr (3, [.ref hp, .ref hst, .int lim, .int thd, .int md, .int sz0, .int tm, .int tx, .int ty, .int sx, .int sy, .ref hqf, .ref hkn, .int stp])), (hp, .inr (0, [.int pw, .int ph, .ref hw, .ref hs, .int psr])), (hw, .inl (kW, 4096, .inr (.inl fw))), (hs, .inl (kS, 263169, .inl fs)), (hst, .inr (2, [.ref ak, .ref ar, .int cnt])), (ak, .inl (cK, 300, .inl kf)), (ar, .inl (cR, 300, .inl wf)), (hqf, .inl (cQ, 4, .inl qf)), (hkn, .inl (cN, 262144, .inr (.inl kn))), (hld, .inr (2, [.ref bk, .ref br, .int cnt2])), (bk, .inl (dK, 300, .inl kg)), (br, .inl (dR, 300, .inl wg)), (ho9, .inl (kO, 1, .inr (.inl fo)))]) [0, 1, 2, 3, 4, 5, 6, 7, 8, 9, 10, 11, 12, 19] (by decide) rfl
  have hFc := va_free (wc := [(hf, .inr (4, [.ref hq, .ref hp, .ref hst, .ref hld])), (hq, .inr (3, [.ref hp, .ref hst, .int lim, .int thd, .int md, .int sz0, .int tm, .int tx, .int ty, .int sx, .int sy, .ref hqf, .ref hkn, .int stp])), (hp, .inr (0, [.int pw, .int ph, .ref hw, .ref hs, .int psr])), (hw, .inl (kW, 4096, .inr (.inl fw))), (hs, .inl (kS, 263169, .inl fs)), (hst, .inr (2, [.ref ak, .ref ar, .int cnt])), (ak, .inl (cK, 300, .inl kf)), (ar, .inl (cR, 300, .inl wf)), (hqf, .inl (cQ, 4, .inl qf)), (hkn, .inl (cN, 262144, .inr (.inl kn))), (hld, .inr (2, [.ref bk, .ref br, .int cnt2])), (bk, .inl (dK, 300, .inl kg)), (br, .inl (dR, 300, .inl wg)), (ho9, .inl (kO, 1, .inr (.inl fo)))]) hD hS hA [0, 1, 2, 3, 4, 5, 6, 7, 8, 9, 10, 11, 12, 19] rfl
  have hTzc := tZ.sub hTz hS hFc
  refine va_calli (vx_runSW (As := [.ref hf, .int v465, .int v471, .int v477, .ref ho9]) (rest := []) ⟨hx, hb, hml, hown, hts⟩ (l_find l dC dI H.size hl9 hf hq hp hw hs hst hqf hkn hld ak ar bk br kW kS cK cR cQ cN dK dR pw ph psr lim thd md sz0 tm tx ty sx sy stp cnt cnt2 fw fs kf wf qf kg wg kn Wd Ht sz0.toInt stp.toInt M0 D D0 hS0.1.1 hS0.1.2.1 hS0.2.1.1 hS0.2.1.2.1 hS0.2.1.2.2.1 hS0.2.1.2.2.2 hS0.2.2.1 hS0.2.2.2.2.1 psr.toInt rfl hS0.2.2.2.2.2.1.1 hS0.2.2.2.2.2.1.2 hS0.2.2.2.2.2.2.1 hS0.2.2.2.2.2.2.2.1 rfl hN0.1.1 hN0.1.2 rfl hN0.2.1.1 (by have := hN0.2.1.2; omega) hkn0 v465 v471 v477 v465.toInt v471.toInt v477.toInt rfl rfl rfl ho9 kO fo) (aw_SW 5 hts wd_367 wd_368 wd_0 wd_369 rfl rfl (by decide +kernel) ⟨Nat.le_of_ble_eq_true rfl, Nat.le_of_ble_eq_true rfl⟩) ⟨tB_blind, tB_pre hPc hKc hDc hTx hTr hTzc⟩ rfl rfl hl.1 rfl (lv_room (Nat.le_of_ble_eq_true rfl)) d_law_479 ⟨by show _ ≤ 601024; omega, by show _ ≤ 7293034; omega⟩) hS (fun q _ h => hFc q h) hFc (fun v479 u t9 H479 locs ht hvm h479 hB hz1 hk1 hS => ?_)
  obtain ⟨u479_fs, u479_sr, u479_lim, u479_thd, u479_md, u479_sz, u479_tm, u479_tx, u479_ty, u479_sx, u479_sy, u479_stp, u479_cnt, u479_kf, u479_wf, u479_qf, u479_kn, u479_cnt2, u479_kg, u479_wg, u479_fo⟩ := u
  obtain ⟨hP1, hK1, hD1⟩ := hB
  rw [ht] at hP1
  try dsimp only at h479 hP1 hD1
  obtain ⟨hP, hD⟩ := va_join (wr := [(mo, .inr (5, [.int mth, .int mw, .int mh, .ref ad, .ref asu, .ref aru, .int mro, .ref ast, .int msd, .ref afo, .int mmn])), (ad, .inl (kD, 262144, .inl fd)), (asu, .inl (kU, 263169, .inl fu)), (aru, .inl (kR, 2100, .inl fr)), (ast, .inl (kT, 1800, .inl ft)), (afo, .inl (kF, 1800, .inl ff))]) (w1 := [(hf, .inr (4, [.ref hq, .ref hp, .ref hst, .ref hld])), (hq, .inr (3, [.ref hp, .ref hst, .int u479_lim, .int u479_thd, .int u479_md, .int u479_sz, .int u479_tm, .int u479_tx, .int u479_ty, .int u479_sx, .int u479_sy, .ref hqf, .ref hkn, .int u479_stp])), (hp, .inr (0, [.int pw, .int ph, .ref hw, .ref hs, .int u479_sr])), (hw, .inl (kW, 4096, .inr (.inl fw))), (hs, .inl (kS, 263169, .inl u479_fs)), (hst, .inr (2, [.ref ak, .ref ar, .int u479_cnt])), (ak, .inl (cK, 300, .inl u479_kf)), (ar, .inl (cR, 300, .inl u479_wf)), (hqf, .inl (cQ, 4, .inl u479_qf)), (hkn, .inl (cN, 262144, .inr (.inl u479_kn))), (hld, .inr (2, [.ref bk, .ref br, .int u479_cnt2])), (bk, .inl (dK, 300, .inl u479_kg)), (br, .inl (dR, 300, .inl u479_wg)), (ho9, .inl (kO, 1, .inr (.inl u479_fo)))]) hP hD [0, 1, 2, 3, 4, 5, 6, 7, 8, 9, 10, 11, 12, 19] [13, 14, 15, 16, 17, 18] rfl rfl (by decide) (by decide) hk1 hFc hP1 hD1
  have hP := hP.sub (ws' := [(hf, .inr (4, [.ref hq, .ref hp, .ref hst, .ref hld])), (hq, .inr (3, [.ref hp, .ref hst, .int u479_lim, .int u479_thd, .int u479_md, .int u479_sz, .int u479_tm, .int u479_tx, .int u479_ty, .int u479_sx, .int u479_sy, .ref hqf, .ref hkn, .int u479_stp])), (hp, .inr (0, [.int pw, .int ph, .ref hw, .ref hs, .int u479_sr])), (hw, .inl (kW, 4096, .inr (.inl fw))), (hs, .inl (kS, 263169, .inl u479_fs)), (hst, .inr (2, [.ref ak, .ref ar, .int u479_cnt])), (ak, .inl (cK, 300, .inl u479_kf)), (ar, .inl (cR, 300, .inl u479_wf)), (hqf, .inl (cQ, 4, .inl u479_qf)), (hkn, .inl (cN, 262144, .inr (.inl u479_kn))), (hld, .inr (2, [.ref bk, .ref br, .int u479_cnt2])), (bk, .inl (dK, 300, .inl u479_kg)), (br, .inl (dR, 300, .inl u479_wg)), (mo, .inr (5, [.int mth, .int mw, .int mh, .ref ad, .ref asu, .ref aru, .int mro, .ref ast, .int msd, .ref afo, .int mmn])), (ad, .inl (kD, 262144, .inl fd)), (asu, .inl (kU, 263169, .inl fu)), (aru, .inl (kR, 2100, .inl fr)), (ast, .inl (kT, 1800, .inl ft)), (afo, .inl (kF, 1800, .inl ff)), (ho9, .inl (kO, 1, .inr (.inl u479_fo)))]) [6, 7, 8, 9, 10, 11, 12, 13, 14, 15, 16, 17, 18, 0, 1, 2, 3, 4, 5, 19] rfl
  have hD := hD.sub (ws' := [(hf, .inr (4, [.ref hq, .ref hp, .ref hst, .ref hld])), (hq, .inr (3, [.ref hp, .ref hst, .int u479_lim, .int u479_thd, .int u479_md, .int u479_sz, .int u479_tm, .int u479_tx, .int u479_ty, .int u479_sx, .int u479_sy, .ref hqf, .ref hkn, .int u479_stp])), (hp, .inr (0, [.int pw, .int ph, .ref hw, .ref hs, .int u479_sr])), (hw, .inl (kW, 4096, .inr (.inl fw))), (hs, .inl (kS, 263169, .inl u479_fs)), (hst, .inr (2, [.ref ak, .ref ar, .int u479_cnt])), (ak, .inl (cK, 300, .inl u479_kf)), (ar, .inl (cR, 300, .inl u479_wf)), (hqf, .inl (cQ, 4, .inl u479_qf)), (hkn, .inl (cN, 262144, .inr (.inl u479_kn))), (hld, .inr (2, [.ref bk, .ref br, .int u479_cnt2])), (bk, .inl (dK, 300, .inl u479_kg)), (br, .inl (dR, 300, .inl u479_wg)), (mo, .inr (5, [.int mth, .int mw, .int mh, .ref ad, .ref asu, .ref aru, .int mro, .ref ast, .int msd, .ref afo, .int mmn])), (ad, .inl (kD, 262144, .inl fd)), (asu, .inl (kU, 263169, .inl fu)), (aru, .inl (kR, 2100, .inl fr)), (ast, .inl (kT, 1800, .inl ft)), (afo, .inl (kF, 1800, .inl ff)), (ho9, .inl (kO, 1, .inr (.inl u479_fo)))]) [6, 7, 8, 9, 10, 11, 12, 13, 14, 15, 16, 17, 18, 0, 1, 2, 3, 4, 5, 19] (by decide) rfl
  clear hPc hKc hDc hFc hTzc ht hvm hz1 hk1 hP1 hD1 hK1
  refine lv_istore (lv' := [(5, .int v479), (0, .ref b), (1, .ref hf), (2, .ref mo), (3, .ref ho9), (4, .int iv)]) hx hb d_law_482 hl (by decide) rfl (fun ls hl => ?_)
  refine lv_aload_n hx hb d_law_484 rfl (lv_at hl 3 rfl) ?_
  refine lv_aload_n hx hb d_law_485 rfl (lv_at hl 1 rfl) ?_
  refine lv_iload hx hb d_law_486 (lv_at hl 5 rfl) ?_
  refine lv_iconst (v := 1) hx hb d_law_488 (by decide) ?_
  refine lv_iadd hx hb d_law_489 ?_
  refine lv_topi (fun v489 e489 => ?_)
  have h489 : v489.toInt = zi + 1 := by rw [e489]; exact ti_add hiv (ti_k (by decide)) (by omega) (by omega)
  have q489 : v464 = v489 := by rw [e464, e489]
  subst q489
  have in490 : vp_in v464 L := vi_in h489 (by omega) (by omega)
  refine va_sld hx hb hX hbl hbA hS in490 d_law_490 ?_
  refine lv_topi (fun v490 e490 => ?_)
  have q490 : v465 = v490 := by rw [e465, e490]
  subst q490
  refine lv_aload_n hx hb d_law_491 rfl (lv_at hl 1 rfl) ?_
  refine lv_iload hx hb d_law_492 (lv_at hl 5 rfl) ?_
  refine lv_iconst (v := 2) hx hb d_law_494 (by decide) ?_
  refine lv_iadd hx hb d_law_495 ?_
  refine lv_topi (fun v495 e495 => ?_)
  have h495 : v495.toInt = zi + 2 := by rw [e495]; exact ti_add hiv (ti_k (by decide)) (by omega) (by omega)
  have q495 : v470 = v495 := by rw [e470, e495]
  subst q495
  have in496 : vp_in v470 L := vi_in h495 (by omega) (by omega)
  refine va_sld hx hb hX hbl hbA hS in496 d_law_496 ?_
  refine lv_topi (fun v496 e496 => ?_)
  have q496 : v471 = v496 := by rw [e471, e496]
  subst q496
  refine lv_aload_n hx hb d_law_497 rfl (lv_at hl 1 rfl) ?_
  refine lv_iload hx hb d_law_498 (lv_at hl 5 rfl) ?_
  refine lv_iconst (v := 3) hx hb d_law_500 (by decide) ?_
  refine lv_iadd hx hb d_law_501 ?_
  refine lv_topi (fun v501 e501 => ?_)
  have h501 : v501.toInt = zi + 3 := by rw [e501]; exact ti_add hiv (ti_k (by decide)) (by omega) (by omega)
  have q501 : v476 = v501 := by rw [e476, e501]
  subst q501
  have in502 : vp_in v476 L := vi_in h501 (by omega) (by omega)
  refine va_sld hx hb hX hbl hbA hS in502 d_law_502 ?_
  refine lv_topi (fun v502 e502 => ?_)
  have q502 : v477 = v502 := by rw [e477, e502]
  subst q502
  have hPc := hP.sub (ws' := [(mo, .inr (5, [.int mth, .int mw, .int mh, .ref ad, .ref asu, .ref aru, .int mro, .ref ast, .int msd, .ref afo, .int mmn])), (ad, .inl (kD, 262144, .inl fd)), (asu, .inl (kU, 263169, .inl fu)), (aru, .inl (kR, 2100, .inl fr)), (ast, .inl (kT, 1800, .inl ft)), (afo, .inl (kF, 1800, .inl ff))]) [13, 14, 15, 16, 17, 18] rfl
  have hKc := hK.sub (tys' := [(kD, .boolean), (kU, .int), (kR, .int), (kT, .int), (kF, .int)]) [8, 9, 10, 11, 12] rfl
  have hDc := hD.sub (ws' := [(mo, .inr (5, [.int mth, .int mw, .int mh, .ref ad, .ref asu, .ref aru, .int mro, .ref ast, .int msd, .ref afo, .int mmn])), (ad, .inl (kD, 262144, .inl fd)), (asu, .inl (kU, 263169, .inl fu)), (aru, .inl (kR, 2100, .inl fr)), (ast, .inl (kT, 1800, .inl ft)), (afo, .inl (kF, 1800, .inl ff))]) [13, 14, 15, 16, 17, 18] (by decide) rfl
  have hFc := va_free (wc := [(mo, .inr (5, [.int mth, .int mw, .int mh, .ref ad, .ref asu, .ref aru, .int mro, .ref ast, .int msd, .ref afo, .int mmn])), (ad, .inl (kD, 262144, .inl fd)), (asu, .inl (kU, 263169, .inl fu)), (aru, .inl (kR, 2100, .inl fr)), (ast, .inl (kT, 1800, .inl ft)), (afo, .inl (kF, 1800, .inl ff))]) hD hS hA [13, 14, 15, 16, 17, 18] rfl
  refine va_calli (va_runV (As := [.int v465, .int v471, .int v477]) (rest := []) ⟨hx, hb, hml, hown, hts⟩ (m_find l dC dI H479.size mo ad asu aru ast afo mth mw mh mro msd mmn Wd Ht hS0.1.2.2.1 hS0.1.2.2.2 hS0.2.1.1 hS0.2.1.2.1 hS0.2.1.2.2.1 hS0.2.1.2.2.2 kD fd D hS0.2.2.2.1 kU kR kT kF fu fr ft ff hS0.2.2.2.2.2.2.2.2 v465 v471 v477 v465.toInt v471.toInt v477.toInt rfl rfl rfl) (aw_V 3 hts wd_662 wd_663 wd_664 wd_5 wd_665 rfl rfl (by decide +kernel) ⟨Nat.le_of_ble_eq_true rfl, Nat.le_of_ble_eq_true rfl⟩) ⟨rw_blind, va_recv hKc hPc (ci := 5) (q0 := 0) rfl rfl, rw_pre hPc hKc hDc⟩ rfl rfl hl.1 rfl (lv_room (Nat.le_of_ble_eq_true rfl)) d_law_503 ⟨by show _ ≤ 601024; omega, by show _ ≤ 7293034; omega⟩) hS (fun q _ h => hFc q h) hFc (fun v503 u t9 H503 locs ht hvm h503 hB hz1 hk1 hS => ?_)
  obtain ⟨u503_th, u503_ro, u503_sd, u503_mn, u503_fu, u503_fr, u503_ft, u503_ff⟩ := u
  obtain ⟨hP1, hK1, hD1⟩ := hB
  rw [ht] at hP1
  try dsimp only at h503 hP1 hD1
  obtain ⟨hP, hD⟩ := va_join (wr := [(hf, .inr (4, [.ref hq, .ref hp, .ref hst, .ref hld])), (hq, .inr (3, [.ref hp, .ref hst, .int u479_lim, .int u479_thd, .int u479_md, .int u479_sz, .int u479_tm, .int u479_tx, .int u479_ty, .int u479_sx, .int u479_sy, .ref hqf, .ref hkn, .int u479_stp])), (hp, .inr (0, [.int pw, .int ph, .ref hw, .ref hs, .int u479_sr])), (hw, .inl (kW, 4096, .inr (.inl fw))), (hs, .inl (kS, 263169, .inl u479_fs)), (hst, .inr (2, [.ref ak, .ref ar, .int u479_cnt])), (ak, .inl (cK, 300, .inl u479_kf)), (ar, .inl (cR, 300, .inl u479_wf)), (hqf, .inl (cQ, 4, .inl u479_qf)), (hkn, .inl (cN, 262144, .inr (.inl u479_kn))), (hld, .inr (2, [.ref bk, .ref br, .int u479_cnt2])), (bk, .inl (dK, 300, .inl u479_kg)), (br, .inl (dR, 300, .inl u479_wg)), (ho9, .inl (kO, 1, .inr (.inl u479_fo)))]) (w1 := [(mo, .inr (5, [.int u503_th, .int mw, .int mh, .ref ad, .ref asu, .ref aru, .int u503_ro, .ref ast, .int u503_sd, .ref afo, .int u503_mn])), (ad, .inl (kD, 262144, .inl fd)), (asu, .inl (kU, 263169, .inl u503_fu)), (aru, .inl (kR, 2100, .inl u503_fr)), (ast, .inl (kT, 1800, .inl u503_ft)), (afo, .inl (kF, 1800, .inl u503_ff))]) hP hD [13, 14, 15, 16, 17, 18] [0, 1, 2, 3, 4, 5, 6, 7, 8, 9, 10, 11, 12, 19] rfl rfl (by decide) (by decide) hk1 hFc hP1 hD1
  have hP := hP.sub (ws' := [(hf, .inr (4, [.ref hq, .ref hp, .ref hst, .ref hld])), (hq, .inr (3, [.ref hp, .ref hst, .int u479_lim, .int u479_thd, .int u479_md, .int u479_sz, .int u479_tm, .int u479_tx, .int u479_ty, .int u479_sx, .int u479_sy, .ref hqf, .ref hkn, .int u479_stp])), (hp, .inr (0, [.int pw, .int ph, .ref hw, .ref hs, .int u479_sr])), (hw, .inl (kW, 4096, .inr (.inl fw))), (hs, .inl (kS, 263169, .inl u479_fs)), (hst, .inr (2, [.ref ak, .ref ar, .int u479_cnt])), (ak, .inl (cK, 300, .inl u479_kf)), (ar, .inl (cR, 300, .inl u479_wf)), (hqf, .inl (cQ, 4, .inl u479_qf)), (hkn, .inl (cN, 262144, .inr (.inl u479_kn))), (hld, .inr (2, [.ref bk, .ref br, .int u479_cnt2])), (bk, .inl (dK, 300, .inl u479_kg)), (br, .inl (dR, 300, .inl u479_wg)), (mo, .inr (5, [.int u503_th, .int mw, .int mh, .ref ad, .ref asu, .ref aru, .int u503_ro, .ref ast, .int u503_sd, .ref afo, .int u503_mn])), (ad, .inl (kD, 262144, .inl fd)), (asu, .inl (kU, 263169, .inl u503_fu)), (aru, .inl (kR, 2100, .inl u503_fr)), (ast, .inl (kT, 1800, .inl u503_ft)), (afo, .inl (kF, 1800, .inl u503_ff)), (ho9, .inl (kO, 1, .inr (.inl u479_fo)))]) [0, 1, 2, 3, 4, 5, 6, 7, 8, 9, 10, 11, 12, 14, 15, 16, 17, 18, 19, 13] rfl
  have hD := hD.sub (ws' := [(hf, .inr (4, [.ref hq, .ref hp, .ref hst, .ref hld])), (hq, .inr (3, [.ref hp, .ref hst, .int u479_lim, .int u479_thd, .int u479_md, .int u479_sz, .int u479_tm, .int u479_tx, .int u479_ty, .int u479_sx, .int u479_sy, .ref hqf, .ref hkn, .int u479_stp])), (hp, .inr (0, [.int pw, .int ph, .ref hw, .ref hs, .int u479_sr])), (hw, .inl (kW, 4096, .inr (.inl fw))), (hs, .inl (kS, 263169, .inl u479_fs)), (hst, .inr (2, [.ref ak, .ref ar, .int u479_cnt])), (ak, .inl (cK, 300, .inl u479_kf)), (ar, .inl (cR, 300, .inl u479_wf)), (hqf, .inl (cQ, 4, .inl u479_qf)), (hkn, .inl (cN, 262144, .inr (.inl u479_kn))), (hld, .inr (2, [.ref bk, .ref br, .int u479_cnt2])), (bk, .inl (dK, 300, .inl u479_kg)), (br, .inl (dR, 300, .inl u479_wg)), (mo, .inr (5, [.int u503_th, .int mw, .int mh, .ref ad, .ref asu, .ref aru, .int u503_ro, .ref ast, .int u503_sd, .ref afo, .int u503_mn])), (ad, .inl (kD, 262144, .inl fd)), (asu, .inl (kU, 263169, .inl u503_fu)), (aru, .inl (kR, 2100, .inl u503_fr)), (ast, .inl (kT, 1800, .inl u503_ft)), (afo, .inl (kF, 1800, .inl u503_ff)), (ho9, .inl (kO, 1, .inr (.inl u479_fo)))]) [0, 1, 2, 3, 4, 5, 6, 7, 8, 9, 10, 11, 12, 14, 15, 16, 17, 18, 19, 13] (by decide) rfl
  clear hPc hKc hDc hFc ht hvm hz1 hk1 hP1 hD1 hK1
  obtain ⟨hth, hk, i1, i2, i3⟩ := st_find (kf := kf) (wf := wf) (fo := fo) hS0 hN0 hV0 (h479.imp (fun ⟨z1, z2, y0, y1, y2, y3, y4, y5, y6, y7, y8, y9, y10, y11, y12, y13, y14, y15, y16, y17, y18, y19, y20⟩ => ⟨z1, z2, y0, y1, y5, y11, y12, y16, y17, y18, y19⟩) id) h503
  refine lv_istore (lv' := [(6, .int v503), (5, .int v479), (0, .ref b), (1, .ref hf), (2, .ref mo), (3, .ref ho9), (4, .int iv)]) hx hb d_law_506 hl (by decide) rfl (fun ls hl => ?_)
  refine lv_aload_n hx hb d_law_508 rfl (lv_at hl 4 rfl) ?_
  have hPc := hP.sub (ws' := [(mo, .inr (5, [.int u503_th, .int mw, .int mh, .ref ad, .ref asu, .ref aru, .int u503_ro, .ref ast, .int u503_sd, .ref afo, .int u503_mn]))]) [13] rfl
  have hKc := hK.sub (tys' := []) [] rfl
  refine va_calli (va_runV (As := []) (rest := []) ⟨hx, hb, hml, hown, hts⟩ (m_thrown l dC dI mo ad asu aru ast afo u503_th mw mh u503_ro u503_sd u503_mn) (aw_V 0 hts wd_600 wd_601 wd_602 wd_5 wd_603 rfl rfl (by decide +kernel) ⟨Nat.le_of_ble_eq_true rfl, Nat.le_of_ble_eq_true rfl⟩) ⟨ro_blind, va_recv hKc hPc (ci := 5) (q0 := 0) rfl rfl, ro_pre hPc hKc⟩ rfl rfl hl.1 rfl (lv_room (Nat.le_of_ble_eq_true rfl)) d_law_509 ⟨by show _ ≤ 601024; omega, by show _ ≤ 7293034; omega⟩) hS (fun q _ h => h.elim) (fun q h => h.elim) (fun v509 _ t9 H509 locs ht hvm h509 hB hz1 hk1 hS => ?_)
  have hP := ro_keep hP hk1
  clear hPc hKc ht hvm hB hz1 hk1
  refine lv_iload hx hb d_law_512 (lv_at hl 1 rfl) ?_
  refine lv_icmp_eq (tgt := 519) hx hb d_law_514 (by decide) (fun c514 => ?_) (fun c514 => ?_)
  · skip
    refine lv_iload hx hb d_law_519 (lv_at hl 1 rfl) ?_
    refine lv_if_ne (tgt := 536) hx hb d_law_521 (by decide) (fun c521 => ?_) (fun c521 => ?_)
    · skip
      have c521 : ¬ (v479.toInt = 0) := fun q => c521 ((ti_eq rfl (ti_k (by decide))).mpr q)
      refine lv_goto (tgt := 699) hx hb d_law_536 (by decide) ?_
      exact kk _ _ _ _ _ _ pw ph u479_sr u479_lim u479_thd u479_md u479_sz u479_tm u479_tx u479_ty u479_sx u479_sy u479_stp u479_cnt u479_cnt2 u503_th mw mh u503_ro u503_sd u503_mn fw u479_kn u479_fo u479_fs u479_kf u479_wf u479_qf u479_kg u479_wg fd u503_fu u503_fr u503_ft u503_ff (lv_sub hl [2, 3, 4, 5, 6] rfl) i1 i2 i3 hP hD hS
    · skip
      have c521 : v479.toInt = 0 := (ti_eq rfl (ti_k (by decide))).mp c521
      refine lv_aload_n hx hb d_law_524 rfl (lv_at hl 5 rfl) ?_
      refine lv_iconst (v := 0) hx hb d_law_525 (by decide) ?_
      have in526 : vp_in (0 : Int32) 1 := vi_in (show (0 : Int32).toInt = (0 : Int) by decide) (by omega) (by omega)
      refine va_lald hx hb hK hP 19 13 rfl rfl in526 d_law_526 ?_
      refine lv_topl (fun v526 e526 => ?_)
      have e526 : v526 = u479_fo ((0 : Int)).toNat := by rw [e526, vi_cl (show (0 : Int32).toInt = (0 : Int) by decide)]
      refine lv_iload hx hb d_law_527 (lv_at hl 0 rfl) ?_
      refine lv_i2l hx hb d_law_529 rfl ?_
      refine lv_topl (fun v529 e529 => ?_)
      have h529 : v529.toInt = v503.toInt := by rw [e529]; exact tl_i2l rfl
      refine W.lcmp hx hb d_law_530 ?_
      refine lv_topi (fun v530 e530 => ?_)
      have h530 : v530.toInt = (if v503.toInt < v526.toInt then 1 else if v526.toInt = v503.toInt then 0 else -1) := by rw [e530]; exact tl_cmp rfl h529
      refine lv_if_eq (tgt := 536) hx hb d_law_531 (by decide) (fun c531 => ?_) (fun c531 => ?_)
      · skip
        have c531 : (if v503.toInt < v526.toInt then 1 else if v526.toInt = v503.toInt then 0 else -1) = 0 := (ti_eq h530 (ti_k (by decide))).mp c531
        refine lv_goto (tgt := 699) hx hb d_law_536 (by decide) ?_
        exact kk _ _ _ _ _ _ pw ph u479_sr u479_lim u479_thd u479_md u479_sz u479_tm u479_tx u479_ty u479_sx u479_sy u479_stp u479_cnt u479_cnt2 u503_th mw mh u503_ro u503_sd u503_mn fw u479_kn u479_fo u479_fs u479_kf u479_wf u479_qf u479_kg u479_wg fd u503_fu u503_fr u503_ft u503_ff (lv_sub hl [2, 3, 4, 5, 6] rfl) i1 i2 i3 hP hD hS
      · skip
        have c531 : ¬ ((if v503.toInt < v526.toInt then 1 else if v526.toInt = v503.toInt then 0 else -1) = 0) := fun q => c531 ((ti_eq h530 (ti_k (by decide))).mpr q)
        exact absurd (lc0 (show v526.toInt = v503.toInt by rw [show v526 = v503.toInt64 from e526.trans (hk ((ti_eq rfl (show (0 : Int32).toInt = 0 by decide)).mpr c521)), ← e529]; exact h529)) c531
  · skip
    exact absurd (h509.trans hth) c514
