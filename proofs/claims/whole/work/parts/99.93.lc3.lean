set_option maxHeartbeats 4000000 in
set_option maxRecDepth 100000 in
theorem law_c3 {p : Program} {e : Env} {s : State} {m : MethodId} {below : List Frame} {meth : Method} {c : Code} {QQ : State → Prop} {A : Nat → Prop} {b L : Nat} {xs : Nat → Int32} (l : Launch) (dC : Nat → ClassId) (dI : Nat → Nat → Nat) (hl9 : l.stackTraces = false) (kW kS cK cR cQ cN dK dR kD kU kR kT kF kO : ClassId) (hfix : CallFix p m c code 8 s #[Value.ref b] allw R_Law) (hK : va_K (dC, dI) vwCl [(kW, .long), (kS, .int), (cK, .int), (cR, .int), (cQ, .int), (cN, .long), (dK, .int), (dR, .int), (kD, .boolean), (kU, .int), (kR, .int), (kT, .int), (kF, .int), (kO, .long)] s) (hA : ∀ q : Nat, s.heap.size ≤ q → A q) (hX : va_X b L xs s s.heap) (hbl : b < s.heap.size) (hbA : ¬ A b) (hTz : tZ A s s.heap) (hTx : tX R_IAE s) (hTr : tR [(62, "place has bits above those of m"), (73, "m is 1 .. 16 and v 1 .. 40"), (85, "the place lies not on the sheet")] s) (hf hq hp hw hs hst ak ar hqf hkn hld bk br mo ad asu aru ast afo ho9 : Nat) (Wd Ht n9 : Int) (D : Int → Int → Bool) (pw ph psr lim thd md sz0 tm tx ty sx sy stp cnt cnt2 mth mw mh mro msd mmn : Int32) (fw kn fo : Nat → Int64) (fs kf wf qf kg wg fd fu fr ft ff : Nat → Int32) (kc ns : Nat) (hkc : kc + 1 ≤ 601024) (hns : ns + 6 ≤ 7293034) (hn9 : 0 ≤ n9 ∧ n9 < 512) (iv : Int32) (zi : Int) (hiv : iv.toInt = zi) (hzi : 0 ≤ zi ∧ zi + 6 ≤ L) (hL : L ≤ 3072) (hS0 : iS Wd Ht D pw ph psr mw mh fw fs fd fu) (hN0 : iN n9 sz0 stp kn) (hV0 : iV Wd Ht cnt cnt2 msd mmn kg wg ff) (H : Heap) (locs : List Loc) (ls : Array Slot) (hl : lv_has ls 8 [(0, .ref b), (1, .ref hf), (2, .ref mo), (3, .ref ho9), (4, .int iv)]) (hP : va_P (dC, dI) vwCl [(hf, .inr (4, [.ref hq, .ref hp, .ref hst, .ref hld])), (hq, .inr (3, [.ref hp, .ref hst, .int lim, .int thd, .int md, .int sz0, .int tm, .int tx, .int ty, .int sx, .int sy, .ref hqf, .ref hkn, .int stp])), (hp, .inr (0, [.int pw, .int ph, .ref hw, .ref hs, .int psr])), (hw, .inl (kW, 4096, .inr (.inl fw))), (hs, .inl (kS, 263169, .inl fs)), (hst, .inr (2, [.ref ak, .ref ar, .int cnt])), (ak, .inl (cK, 300, .inl kf)), (ar, .inl (cR, 300, .inl wf)), (hqf, .inl (cQ, 4, .inl qf)), (hkn, .inl (cN, 262144, .inr (.inl kn))), (hld, .inr (2, [.ref bk, .ref br, .int cnt2])), (bk, .inl (dK, 300, .inl kg)), (br, .inl (dR, 300, .inl wg)), (mo, .inr (5, [.int mth, .int mw, .int mh, .ref ad, .ref asu, .ref aru, .int mro, .ref ast, .int msd, .ref afo, .int mmn])), (ad, .inl (kD, 262144, .inl fd)), (asu, .inl (kU, 263169, .inl fu)), (aru, .inl (kR, 2100, .inl fr)), (ast, .inl (kT, 1800, .inl ft)), (afo, .inl (kF, 1800, .inl ff)), (ho9, .inl (kO, 1, .inr (.inl fo)))] H) (hD : va_D A [(hf, .inr (4, [.ref hq, .ref hp, .ref hst, .ref hld])), (hq, .inr (3, [.ref hp, .ref hst, .int lim, .int thd, .int md, .int sz0, .int tm, .int tx, .int ty, .int sx, .int sy, .ref hqf, .ref hkn, .int stp])), (hp, .inr (0, [.int pw, .int ph, .ref hw, .ref hs, .int psr])), (hw, .inl (kW, 4096, .inr (.inl fw))), (hs, .inl (kS, 263169, .inl fs)), (hst, .inr (2, [.ref ak, .ref ar, .int cnt])), (ak, .inl (cK, 300, .inl kf)), (ar, .inl (cR, 300, .inl wf)), (hqf, .inl (cQ, 4, .inl qf)), (hkn, .inl (cN, 262144, .inr (.inl kn))), (hld, .inr (2, [.ref bk, .ref br, .int cnt2])), (bk, .inl (dK, 300, .inl kg)), (br, .inl (dR, 300, .inl wg)), (mo, .inr (5, [.int mth, .int mw, .int mh, .ref ad, .ref asu, .ref aru, .int mro, .ref ast, .int msd, .ref afo, .int mmn])), (ad, .inl (kD, 262144, .inl fd)), (asu, .inl (kU, 263169, .inl fu)), (aru, .inl (kR, 2100, .inl fr)), (ast, .inl (kT, 1800, .inl ft)), (afo, .inl (kF, 1800, .inl ff)), (ho9, .inl (kO, 1, .inr (.inl fo)))]) (hS : va_S A s.heap H locs) (kk : ∀ (H9 : Heap) (locs9 : List Loc) (ls9 : Array Slot) (Wd9 Ht9 : Int) (D9 : Int → Int → Bool) (pw9 ph9 psr9 lim9 thd9 md9 sz09 tm9 tx9 ty9 sx9 sy9 stp9 cnt9 cnt29 mth9 mw9 mh9 mro9 msd9 mmn9 : Int32) (fw9 kn9 fo9 : Nat → Int64) (fs9 kf9 wf9 qf9 kg9 wg9 fd9 fu9 fr9 ft9 ff9 : Nat → Int32), lv_has ls9 8 [(0, .ref b), (1, .ref hf), (2, .ref mo), (3, .ref ho9), (4, .int iv)] → iS Wd9 Ht9 D9 pw9 ph9 psr9 mw9 mh9 fw9 fs9 fd9 fu9 → iN (n9 + 1) sz09 stp9 kn9 → iV Wd9 Ht9 cnt9 cnt29 msd9 mmn9 kg9 wg9 ff9 → va_P (dC, dI) vwCl [(hf, .inr (4, [.ref hq, .ref hp, .ref hst, .ref hld])), (hq, .inr (3, [.ref hp, .ref hst, .int lim9, .int thd9, .int md9, .int sz09, .int tm9, .int tx9, .int ty9, .int sx9, .int sy9, .ref hqf, .ref hkn, .int stp9])), (hp, .inr (0, [.int pw9, .int ph9, .ref hw, .ref hs, .int psr9])), (hw, .inl (kW, 4096, .inr (.inl fw9))), (hs, .inl (kS, 263169, .inl fs9)), (hst, .inr (2, [.ref ak, .ref ar, .int cnt9])), (ak, .inl (cK, 300, .inl kf9)), (ar, .inl (cR, 300, .inl wf9)), (hqf, .inl (cQ, 4, .inl qf9)), (hkn, .inl (cN, 262144, .inr (.inl kn9))), (hld, .inr (2, [.ref bk, .ref br, .int cnt29])), (bk, .inl (dK, 300, .inl kg9)), (br, .inl (dR, 300, .inl wg9)), (mo, .inr (5, [.int mth9, .int mw9, .int mh9, .ref ad, .ref asu, .ref aru, .int mro9, .ref ast, .int msd9, .ref afo, .int mmn9])), (ad, .inl (kD, 262144, .inl fd9)), (asu, .inl (kU, 263169, .inl fu9)), (aru, .inl (kR, 2100, .inl fr9)), (ast, .inl (kT, 1800, .inl ft9)), (afo, .inl (kF, 1800, .inl ff9)), (ho9, .inl (kO, 1, .inr (.inl fo9)))] H9 → va_D A [(hf, .inr (4, [.ref hq, .ref hp, .ref hst, .ref hld])), (hq, .inr (3, [.ref hp, .ref hst, .int lim9, .int thd9, .int md9, .int sz09, .int tm9, .int tx9, .int ty9, .int sx9, .int sy9, .ref hqf, .ref hkn, .int stp9])), (hp, .inr (0, [.int pw9, .int ph9, .ref hw, .ref hs, .int psr9])), (hw, .inl (kW, 4096, .inr (.inl fw9))), (hs, .inl (kS, 263169, .inl fs9)), (hst, .inr (2, [.ref ak, .ref ar, .int cnt9])), (ak, .inl (cK, 300, .inl kf9)), (ar, .inl (cR, 300, .inl wf9)), (hqf, .inl (cQ, 4, .inl qf9)), (hkn, .inl (cN, 262144, .inr (.inl kn9))), (hld, .inr (2, [.ref bk, .ref br, .int cnt29])), (bk, .inl (dK, 300, .inl kg9)), (br, .inl (dR, 300, .inl wg9)), (mo, .inr (5, [.int mth9, .int mw9, .int mh9, .ref ad, .ref asu, .ref aru, .int mro9, .ref ast, .int msd9, .ref afo, .int mmn9])), (ad, .inl (kD, 262144, .inl fd9)), (asu, .inl (kU, 263169, .inl fu9)), (aru, .inl (kR, 2100, .inl fr9)), (ast, .inl (kT, 1800, .inl ft9)), (afo, .inl (kF, 1800, .inl ff9)), (ho9, .inl (kO, 1, .inr (.inl fo9)))] → va_S A s.heap H9 locs9 → W p l e room_1 s m #[Value.ref b] below meth c H9 locs9 (kc + 1) (ns + 6) QQ (F0 m 699 ls9 [])) : W p l e room_1 s m #[Value.ref b] below meth c H locs kc ns QQ (F0 m 341 ls []) := by
  obtain ⟨hx, hb, hml, hown, hts⟩ := hfix
  refine lv_aload_n hx hb d_law_341 rfl (lv_at hl 1 rfl) ?_
  refine lv_aload_n hx hb d_law_342 rfl (lv_at hl 0 rfl) ?_
  refine lv_iload hx hb d_law_343 (lv_at hl 4 rfl) ?_
  refine lv_iconst (v := 1) hx hb d_law_345 (by decide) ?_
  refine lv_iadd hx hb d_law_346 ?_
  refine lv_topi (fun v346 e346 => ?_)
  have h346 : v346.toInt = zi + 1 := by rw [e346]; exact ti_add hiv (ti_k (by decide)) (by omega) (by omega)
  have in347 : vp_in v346 L := vi_in h346 (by omega) (by omega)
  refine va_sld hx hb hX hbl hbA hS in347 d_law_347 ?_
  refine lv_topi (fun v347 e347 => ?_)
  refine lv_aload_n hx hb d_law_348 rfl (lv_at hl 0 rfl) ?_
  refine lv_iload hx hb d_law_349 (lv_at hl 4 rfl) ?_
  refine lv_iconst (v := 2) hx hb d_law_351 (by decide) ?_
  refine lv_iadd hx hb d_law_352 ?_
  refine lv_topi (fun v352 e352 => ?_)
  have h352 : v352.toInt = zi + 2 := by rw [e352]; exact ti_add hiv (ti_k (by decide)) (by omega) (by omega)
  have in353 : vp_in v352 L := vi_in h352 (by omega) (by omega)
  refine va_sld hx hb hX hbl hbA hS in353 d_law_353 ?_
  refine lv_topi (fun v353 e353 => ?_)
  refine lv_aload_n hx hb d_law_354 rfl (lv_at hl 0 rfl) ?_
  refine lv_iload hx hb d_law_355 (lv_at hl 4 rfl) ?_
  refine lv_iconst (v := 3) hx hb d_law_357 (by decide) ?_
  refine lv_iadd hx hb d_law_358 ?_
  refine lv_topi (fun v358 e358 => ?_)
  have h358 : v358.toInt = zi + 3 := by rw [e358]; exact ti_add hiv (ti_k (by decide)) (by omega) (by omega)
  have in359 : vp_in v358 L := vi_in h358 (by omega) (by omega)
  refine va_sld hx hb hX hbl hbA hS in359 d_law_359 ?_
  refine lv_topi (fun v359 e359 => ?_)
  refine lv_aload_n hx hb d_law_360 rfl (lv_at hl 3 rfl) ?_
  have hPc := hP.sub (ws' := [(hf, .inr (4, [.ref hq, .ref hp, .ref hst, .ref hld])), (hp, .inr (0, [.int pw, .int ph, .ref hw, .ref hs, .int psr])), (hw, .inl (kW, 4096, .inr (.inl fw))), (hs, .inl (kS, 263169, .inl fs)), (ho9, .inl (kO, 1, .inr (.inl fo)))]) [0, 2, 3, 4, 19] rfl
  have hKc := hK.sub (tys' := [(kW, .long), (kS, .int), (kO, .long)]) [0, 1, 13] rfl
  have hDc := hD.sub (ws' := [(hf, .inr (4, [.ref hq, .ref hp, .ref hst, .ref hld])), (hp, .inr (0, [.int pw, .int ph, .ref hw, .ref hs, .int psr])), (hw, .inl (kW, 4096, .inr (.inl fw))), (hs, .inl (kS, 263169, .inl fs)), (ho9, .inl (kO, 1, .inr (.inl fo)))]) [0, 2, 3, 4, 19] (by decide) rfl
  have hFc := va_free (wc := [(hf, .inr (4, [.ref hq, .ref hp, .ref hst, .ref hld])), (hp, .inr (0, [.int pw, .int ph, .ref hw, .ref hs, .int psr])), (hw, .inl (kW, 4096, .inr (.inl fw))), (hs, .inl (kS, 263169, .inl fs)), (ho9, .inl (kO, 1, .inr (.inl fo)))]) hD hS hA [0, 2, 3, 4, 19] rfl
  have hTzc := tZ.sub hTz hS hFc
  refine va_calli (vx_runSW (As := [.ref hf, .int v347, .int v353, .int v359, .ref ho9]) (rest := []) ⟨hx, hb, hml, hown, hts⟩ (l_draw l dC dI H.size hl9 hf hq hst hld hp hw hs kW kS pw ph psr fw fs Wd Ht D hS0.1.1 hS0.1.2.1 hS0.2.1.1 hS0.2.1.2.1 hS0.2.1.2.2.1 hS0.2.1.2.2.2 hS0.2.2.1 hS0.2.2.2.2.1 psr.toInt rfl hS0.2.2.2.2.2.1.1 hS0.2.2.2.2.2.1.2 hS0.2.2.2.2.2.2.1 v347 v353 v359 v347.toInt v353.toInt v359.toInt rfl rfl rfl ho9 kO fo) (aw_SW 5 hts wd_281 wd_282 wd_0 wd_283 rfl rfl (by decide +kernel) ⟨Nat.le_of_ble_eq_true rfl, Nat.le_of_ble_eq_true rfl⟩) ⟨tB_blind, tB_pre hPc hKc hDc hTx hTr hTzc⟩ rfl rfl hl.1 rfl (lv_room (Nat.le_of_ble_eq_true rfl)) d_law_361 ⟨by show _ ≤ 601024; omega, by show _ ≤ 7293034; omega⟩) hS (fun q _ h => hFc q h) hFc (fun v361 u t9 H361 locs ht hvm h361 hB hz1 hk1 hS => ?_)
  obtain ⟨u361_fw, u361_sr, u361_fo⟩ := u
  obtain ⟨hP1, hK1, hD1⟩ := hB
  rw [ht] at hP1
  try dsimp only at h361 hP1 hD1
  obtain ⟨hP, hD⟩ := va_join (wr := [(hq, .inr (3, [.ref hp, .ref hst, .int lim, .int thd, .int md, .int sz0, .int tm, .int tx, .int ty, .int sx, .int sy, .ref hqf, .ref hkn, .int stp])), (hst, .inr (2, [.ref ak, .ref ar, .int cnt])), (ak, .inl (cK, 300, .inl kf)), (ar, .inl (cR, 300, .inl wf)), (hqf, .inl (cQ, 4, .inl qf)), (hkn, .inl (cN, 262144, .inr (.inl kn))), (hld, .inr (2, [.ref bk, .ref br, .int cnt2])), (bk, .inl (dK, 300, .inl kg)), (br, .inl (dR, 300, .inl wg)), (mo, .inr (5, [.int mth, .int mw, .int mh, .ref ad, .ref asu, .ref aru, .int mro, .ref ast, .int msd, .ref afo, .int mmn])), (ad, .inl (kD, 262144, .inl fd)), (asu, .inl (kU, 263169, .inl fu)), (aru, .inl (kR, 2100, .inl fr)), (ast, .inl (kT, 1800, .inl ft)), (afo, .inl (kF, 1800, .inl ff))]) (w1 := [(hf, .inr (4, [.ref hq, .ref hp, .ref hst, .ref hld])), (hp, .inr (0, [.int pw, .int ph, .ref hw, .ref hs, .int u361_sr])), (hw, .inl (kW, 4096, .inr (.inl u361_fw))), (hs, .inl (kS, 263169, .inl fs)), (ho9, .inl (kO, 1, .inr (.inl u361_fo)))]) hP hD [0, 2, 3, 4, 19] [1, 5, 6, 7, 8, 9, 10, 11, 12, 13, 14, 15, 16, 17, 18] rfl rfl (by decide) (by decide) hk1 hFc hP1 hD1
  have hP := hP.sub (ws' := [(hf, .inr (4, [.ref hq, .ref hp, .ref hst, .ref hld])), (hq, .inr (3, [.ref hp, .ref hst, .int lim, .int thd, .int md, .int sz0, .int tm, .int tx, .int ty, .int sx, .int sy, .ref hqf, .ref hkn, .int stp])), (hp, .inr (0, [.int pw, .int ph, .ref hw, .ref hs, .int u361_sr])), (hw, .inl (kW, 4096, .inr (.inl u361_fw))), (hs, .inl (kS, 263169, .inl fs)), (hst, .inr (2, [.ref ak, .ref ar, .int cnt])), (ak, .inl (cK, 300, .inl kf)), (ar, .inl (cR, 300, .inl wf)), (hqf, .inl (cQ, 4, .inl qf)), (hkn, .inl (cN, 262144, .inr (.inl kn))), (hld, .inr (2, [.ref bk, .ref br, .int cnt2])), (bk, .inl (dK, 300, .inl kg)), (br, .inl (dR, 300, .inl wg)), (mo, .inr (5, [.int mth, .int mw, .int mh, .ref ad, .ref asu, .ref aru, .int mro, .ref ast, .int msd, .ref afo, .int mmn])), (ad, .inl (kD, 262144, .inl fd)), (asu, .inl (kU, 263169, .inl fu)), (aru, .inl (kR, 2100, .inl fr)), (ast, .inl (kT, 1800, .inl ft)), (afo, .inl (kF, 1800, .inl ff)), (ho9, .inl (kO, 1, .inr (.inl u361_fo)))]) [15, 0, 16, 17, 18, 1, 2, 3, 4, 5, 6, 7, 8, 9, 10, 11, 12, 13, 14, 19] rfl
  have hD := hD.sub (ws' := [(hf, .inr (4, [.ref hq, .ref hp, .ref hst, .ref hld])), (hq, .inr (3, [.ref hp, .ref hst, .int lim, .int thd, .int md, .int sz0, .int tm, .int tx, .int ty, .int sx, .int sy, .ref hqf, .ref hkn, .int stp])), (hp, .inr (0, [.int pw, .int ph, .ref hw, .ref hs, .int u361_sr])), (hw, .inl (kW, 4096, .inr (.inl u361_fw))), (hs, .inl (kS, 263169, .inl fs)), (hst, .inr (2, [.ref ak, .ref ar, .int cnt])), (ak, .inl (cK, 300, .inl kf)), (ar, .inl (cR, 300, .inl wf)), (hqf, .inl (cQ, 4, .inl qf)), (hkn, .inl (cN, 262144, .inr (.inl kn))), (hld, .inr (2, [.ref bk, .ref br, .int cnt2])), (bk, .inl (dK, 300, .inl kg)), (br, .inl (dR, 300, .inl wg)), (mo, .inr (5, [.int mth, .int mw, .int mh, .ref ad, .ref asu, .ref aru, .int mro, .ref ast, .int msd, .ref afo, .int mmn])), (ad, .inl (kD, 262144, .inl fd)), (asu, .inl (kU, 263169, .inl fu)), (aru, .inl (kR, 2100, .inl fr)), (ast, .inl (kT, 1800, .inl ft)), (afo, .inl (kF, 1800, .inl ff)), (ho9, .inl (kO, 1, .inr (.inl u361_fo)))]) [15, 0, 16, 17, 18, 1, 2, 3, 4, 5, 6, 7, 8, 9, 10, 11, 12, 13, 14, 19] (by decide) rfl
  clear hPc hKc hDc hFc hTzc ht hvm hz1 hk1 hP1 hD1 hK1
  refine lv_istore (lv' := [(5, .int v361), (0, .ref b), (1, .ref hf), (2, .ref mo), (3, .ref ho9), (4, .int iv)]) hx hb d_law_364 hl (by decide) rfl (fun ls hl => ?_)
  refine lv_aload_n hx hb d_law_366 rfl (lv_at hl 3 rfl) ?_
  refine lv_aload_n hx hb d_law_367 rfl (lv_at hl 1 rfl) ?_
  refine lv_iload hx hb d_law_368 (lv_at hl 5 rfl) ?_
  refine lv_iconst (v := 1) hx hb d_law_370 (by decide) ?_
  refine lv_iadd hx hb d_law_371 ?_
  refine lv_topi (fun v371 e371 => ?_)
  have h371 : v371.toInt = zi + 1 := by rw [e371]; exact ti_add hiv (ti_k (by decide)) (by omega) (by omega)
  have q371 : v346 = v371 := by rw [e346, e371]
  subst q371
  have in372 : vp_in v346 L := vi_in h371 (by omega) (by omega)
  refine va_sld hx hb hX hbl hbA hS in372 d_law_372 ?_
  refine lv_topi (fun v372 e372 => ?_)
  have q372 : v347 = v372 := by rw [e347, e372]
  subst q372
  refine lv_aload_n hx hb d_law_373 rfl (lv_at hl 1 rfl) ?_
  refine lv_iload hx hb d_law_374 (lv_at hl 5 rfl) ?_
  refine lv_iconst (v := 2) hx hb d_law_376 (by decide) ?_
  refine lv_iadd hx hb d_law_377 ?_
  refine lv_topi (fun v377 e377 => ?_)
  have h377 : v377.toInt = zi + 2 := by rw [e377]; exact ti_add hiv (ti_k (by decide)) (by omega) (by omega)
  have q377 : v352 = v377 := by rw [e352, e377]
  subst q377
  have in378 : vp_in v352 L := vi_in h377 (by omega) (by omega)
  refine va_sld hx hb hX hbl hbA hS in378 d_law_378 ?_
  refine lv_topi (fun v378 e378 => ?_)
  have q378 : v353 = v378 := by rw [e353, e378]
  subst q378
  refine lv_aload_n hx hb d_law_379 rfl (lv_at hl 1 rfl) ?_
  refine lv_iload hx hb d_law_380 (lv_at hl 5 rfl) ?_
  refine lv_iconst (v := 3) hx hb d_law_382 (by decide) ?_
  refine lv_iadd hx hb d_law_383 ?_
  refine lv_topi (fun v383 e383 => ?_)
  have h383 : v383.toInt = zi + 3 := by rw [e383]; exact ti_add hiv (ti_k (by decide)) (by omega) (by omega)
  have q383 : v358 = v383 := by rw [e358, e383]
  subst q383
  have in384 : vp_in v358 L := vi_in h383 (by omega) (by omega)
  refine va_sld hx hb hX hbl hbA hS in384 d_law_384 ?_
  refine lv_topi (fun v384 e384 => ?_)
  have q384 : v359 = v384 := by rw [e359, e384]
  subst q384
  have hPc := hP.sub (ws' := [(mo, .inr (5, [.int mth, .int mw, .int mh, .ref ad, .ref asu, .ref aru, .int mro, .ref ast, .int msd, .ref afo, .int mmn])), (ad, .inl (kD, 262144, .inl fd))]) [13, 14] rfl
  have hKc := hK.sub (tys' := [(kD, .boolean)]) [8] rfl
  have hDc := hD.sub (ws' := [(mo, .inr (5, [.int mth, .int mw, .int mh, .ref ad, .ref asu, .ref aru, .int mro, .ref ast, .int msd, .ref afo, .int mmn])), (ad, .inl (kD, 262144, .inl fd))]) [13, 14] (by decide) rfl
  have hFc := va_free (wc := [(mo, .inr (5, [.int mth, .int mw, .int mh, .ref ad, .ref asu, .ref aru, .int mro, .ref ast, .int msd, .ref afo, .int mmn])), (ad, .inl (kD, 262144, .inl fd))]) hD hS hA [13, 14] rfl
  refine va_calli (va_runV (As := [.int v347, .int v353, .int v359]) (rest := []) ⟨hx, hb, hml, hown, hts⟩ (m_draw l dC dI H361.size mo ad asu aru ast afo mth mw mh mro msd mmn Wd Ht hS0.1.2.2.1 hS0.1.2.2.2 hS0.2.1.1 hS0.2.1.2.1 hS0.2.1.2.2.1 hS0.2.1.2.2.2 kD fd D hS0.2.2.2.1 v347 v353 v359 v347.toInt v353.toInt v359.toInt rfl rfl rfl) (aw_V 3 hts wd_632 wd_633 wd_634 wd_5 wd_635 rfl rfl (by decide +kernel) ⟨Nat.le_of_ble_eq_true rfl, Nat.le_of_ble_eq_true rfl⟩) ⟨rw_blind, va_recv hKc hPc (ci := 5) (q0 := 0) rfl rfl, rw_pre hPc hKc hDc⟩ rfl rfl hl.1 rfl (lv_room (Nat.le_of_ble_eq_true rfl)) d_law_385 ⟨by show _ ≤ 601024; omega, by show _ ≤ 7293034; omega⟩) hS (fun q _ h => hFc q h) hFc (fun v385 u t9 H385 locs ht hvm h385 hB hz1 hk1 hS => ?_)
  obtain ⟨u385_th, u385_fd⟩ := u
  obtain ⟨hP1, hK1, hD1⟩ := hB
  rw [ht] at hP1
  try dsimp only at h385 hP1 hD1
  obtain ⟨hP, hD⟩ := va_join (wr := [(hf, .inr (4, [.ref hq, .ref hp, .ref hst, .ref hld])), (hq, .inr (3, [.ref hp, .ref hst, .int lim, .int thd, .int md, .int sz0, .int tm, .int tx, .int ty, .int sx, .int sy, .ref hqf, .ref hkn, .int stp])), (hp, .inr (0, [.int pw, .int ph, .ref hw, .ref hs, .int u361_sr])), (hw, .inl (kW, 4096, .inr (.inl u361_fw))), (hs, .inl (kS, 263169, .inl fs)), (hst, .inr (2, [.ref ak, .ref ar, .int cnt])), (ak, .inl (cK, 300, .inl kf)), (ar, .inl (cR, 300, .inl wf)), (hqf, .inl (cQ, 4, .inl qf)), (hkn, .inl (cN, 262144, .inr (.inl kn))), (hld, .inr (2, [.ref bk, .ref br, .int cnt2])), (bk, .inl (dK, 300, .inl kg)), (br, .inl (dR, 300, .inl wg)), (asu, .inl (kU, 263169, .inl fu)), (aru, .inl (kR, 2100, .inl fr)), (ast, .inl (kT, 1800, .inl ft)), (afo, .inl (kF, 1800, .inl ff)), (ho9, .inl (kO, 1, .inr (.inl u361_fo)))]) (w1 := [(mo, .inr (5, [.int u385_th, .int mw, .int mh, .ref ad, .ref asu, .ref aru, .int mro, .ref ast, .int msd, .ref afo, .int mmn])), (ad, .inl (kD, 262144, .inl u385_fd))]) hP hD [13, 14] [0, 1, 2, 3, 4, 5, 6, 7, 8, 9, 10, 11, 12, 15, 16, 17, 18, 19] rfl rfl (by decide) (by decide) hk1 hFc hP1 hD1
  have hP := hP.sub (ws' := [(hf, .inr (4, [.ref hq, .ref hp, .ref hst, .ref hld])), (hq, .inr (3, [.ref hp, .ref hst, .int lim, .int thd, .int md, .int sz0, .int tm, .int tx, .int ty, .int sx, .int sy, .ref hqf, .ref hkn, .int stp])), (hp, .inr (0, [.int pw, .int ph, .ref hw, .ref hs, .int u361_sr])), (hw, .inl (kW, 4096, .inr (.inl u361_fw))), (hs, .inl (kS, 263169, .inl fs)), (hst, .inr (2, [.ref ak, .ref ar, .int cnt])), (ak, .inl (cK, 300, .inl kf)), (ar, .inl (cR, 300, .inl wf)), (hqf, .inl (cQ, 4, .inl qf)), (hkn, .inl (cN, 262144, .inr (.inl kn))), (hld, .inr (2, [.ref bk, .ref br, .int cnt2])), (bk, .inl (dK, 300, .inl kg)), (br, .inl (dR, 300, .inl wg)), (mo, .inr (5, [.int u385_th, .int mw, .int mh, .ref ad, .ref asu, .ref aru, .int mro, .ref ast, .int msd, .ref afo, .int mmn])), (ad, .inl (kD, 262144, .inl u385_fd)), (asu, .inl (kU, 263169, .inl fu)), (aru, .inl (kR, 2100, .inl fr)), (ast, .inl (kT, 1800, .inl ft)), (afo, .inl (kF, 1800, .inl ff)), (ho9, .inl (kO, 1, .inr (.inl u361_fo)))]) [0, 1, 2, 3, 4, 5, 6, 7, 8, 9, 10, 11, 12, 18, 19, 13, 14, 15, 16, 17] rfl
  have hD := hD.sub (ws' := [(hf, .inr (4, [.ref hq, .ref hp, .ref hst, .ref hld])), (hq, .inr (3, [.ref hp, .ref hst, .int lim, .int thd, .int md, .int sz0, .int tm, .int tx, .int ty, .int sx, .int sy, .ref hqf, .ref hkn, .int stp])), (hp, .inr (0, [.int pw, .int ph, .ref hw, .ref hs, .int u361_sr])), (hw, .inl (kW, 4096, .inr (.inl u361_fw))), (hs, .inl (kS, 263169, .inl fs)), (hst, .inr (2, [.ref ak, .ref ar, .int cnt])), (ak, .inl (cK, 300, .inl kf)), (ar, .inl (cR, 300, .inl wf)), (hqf, .inl (cQ, 4, .inl qf)), (hkn, .inl (cN, 262144, .inr (.inl kn))), (hld, .inr (2, [.ref bk, .ref br, .int cnt2])), (bk, .inl (dK, 300, .inl kg)), (br, .inl (dR, 300, .inl wg)), (mo, .inr (5, [.int u385_th, .int mw, .int mh, .ref ad, .ref asu, .ref aru, .int mro, .ref ast, .int msd, .ref afo, .int mmn])), (ad, .inl (kD, 262144, .inl u385_fd)), (asu, .inl (kU, 263169, .inl fu)), (aru, .inl (kR, 2100, .inl fr)), (ast, .inl (kT, 1800, .inl ft)), (afo, .inl (kF, 1800, .inl ff)), (ho9, .inl (kO, 1, .inr (.inl u361_fo)))]) [0, 1, 2, 3, 4, 5, 6, 7, 8, 9, 10, 11, 12, 18, 19, 13, 14, 15, 16, 17] (by decide) rfl
  clear hPc hKc hDc hFc ht hvm hz1 hk1 hP1 hD1 hK1
  obtain ⟨hth, hk, D9, i1⟩ := st_draw hS0 h361 h385
  refine lv_istore (lv' := [(6, .int v385), (5, .int v361), (0, .ref b), (1, .ref hf), (2, .ref mo), (3, .ref ho9), (4, .int iv)]) hx hb d_law_388 hl (by decide) rfl (fun ls hl => ?_)
  refine lv_aload_n hx hb d_law_390 rfl (lv_at hl 4 rfl) ?_
  have hPc := hP.sub (ws' := [(mo, .inr (5, [.int u385_th, .int mw, .int mh, .ref ad, .ref asu, .ref aru, .int mro, .ref ast, .int msd, .ref afo, .int mmn]))]) [13] rfl
  have hKc := hK.sub (tys' := []) [] rfl
  refine va_calli (va_runV (As := []) (rest := []) ⟨hx, hb, hml, hown, hts⟩ (m_thrown l dC dI mo ad asu aru ast afo u385_th mw mh mro msd mmn) (aw_V 0 hts wd_600 wd_601 wd_602 wd_5 wd_603 rfl rfl (by decide +kernel) ⟨Nat.le_of_ble_eq_true rfl, Nat.le_of_ble_eq_true rfl⟩) ⟨ro_blind, va_recv hKc hPc (ci := 5) (q0 := 0) rfl rfl, ro_pre hPc hKc⟩ rfl rfl hl.1 rfl (lv_room (Nat.le_of_ble_eq_true rfl)) d_law_391 ⟨by show _ ≤ 601024; omega, by show _ ≤ 7293034; omega⟩) hS (fun q _ h => h.elim) (fun q h => h.elim) (fun v391 _ t9 H391 locs ht hvm h391 hB hz1 hk1 hS => ?_)
  have hP := ro_keep hP hk1
  clear hPc hKc ht hvm hB hz1 hk1
  refine lv_iload hx hb d_law_394 (lv_at hl 1 rfl) ?_
  refine lv_icmp_eq (tgt := 401) hx hb d_law_396 (by decide) (fun c396 => ?_) (fun c396 => ?_)
  · skip
    refine lv_iload hx hb d_law_401 (lv_at hl 1 rfl) ?_
    refine lv_if_ne (tgt := 418) hx hb d_law_403 (by decide) (fun c403 => ?_) (fun c403 => ?_)
    · skip
      have c403 : ¬ (v361.toInt = 0) := fun q => c403 ((ti_eq rfl (ti_k (by decide))).mpr q)
      refine lv_goto (tgt := 699) hx hb d_law_418 (by decide) ?_
      exact kk _ _ _ _ _ _ pw ph u361_sr lim thd md sz0 tm tx ty sx sy stp cnt cnt2 u385_th mw mh mro msd mmn u361_fw kn u361_fo fs kf wf qf kg wg u385_fd fu fr ft ff (lv_sub hl [2, 3, 4, 5, 6] rfl) i1 (iN_s hN0) hV0 hP hD hS
    · skip
      have c403 : v361.toInt = 0 := (ti_eq rfl (ti_k (by decide))).mp c403
      refine lv_aload_n hx hb d_law_406 rfl (lv_at hl 5 rfl) ?_
      refine lv_iconst (v := 0) hx hb d_law_407 (by decide) ?_
      have in408 : vp_in (0 : Int32) 1 := vi_in (show (0 : Int32).toInt = (0 : Int) by decide) (by omega) (by omega)
      refine va_lald hx hb hK hP 19 13 rfl rfl in408 d_law_408 ?_
      refine lv_topl (fun v408 e408 => ?_)
      have e408 : v408 = u361_fo ((0 : Int)).toNat := by rw [e408, vi_cl (show (0 : Int32).toInt = (0 : Int) by decide)]
      refine lv_iload hx hb d_law_409 (lv_at hl 0 rfl) ?_
      refine lv_i2l hx hb d_law_411 rfl ?_
      refine lv_topl (fun v411 e411 => ?_)
      have h411 : v411.toInt = v385.toInt := by rw [e411]; exact tl_i2l rfl
      refine W.lcmp hx hb d_law_412 ?_
      refine lv_topi (fun v412 e412 => ?_)
      have h412 : v412.toInt = (if v385.toInt < v408.toInt then 1 else if v408.toInt = v385.toInt then 0 else -1) := by rw [e412]; exact tl_cmp rfl h411
      refine lv_if_eq (tgt := 418) hx hb d_law_413 (by decide) (fun c413 => ?_) (fun c413 => ?_)
      · skip
        have c413 : (if v385.toInt < v408.toInt then 1 else if v408.toInt = v385.toInt then 0 else -1) = 0 := (ti_eq h412 (ti_k (by decide))).mp c413
        refine lv_goto (tgt := 699) hx hb d_law_418 (by decide) ?_
        exact kk _ _ _ _ _ _ pw ph u361_sr lim thd md sz0 tm tx ty sx sy stp cnt cnt2 u385_th mw mh mro msd mmn u361_fw kn u361_fo fs kf wf qf kg wg u385_fd fu fr ft ff (lv_sub hl [2, 3, 4, 5, 6] rfl) i1 (iN_s hN0) hV0 hP hD hS
      · skip
        have c413 : ¬ ((if v385.toInt < v408.toInt then 1 else if v408.toInt = v385.toInt then 0 else -1) = 0) := fun q => c413 ((ti_eq h412 (ti_k (by decide))).mpr q)
        exact absurd (lc0 (show v408.toInt = v385.toInt by rw [show v408 = v385.toInt64 from e408.trans (hk ((ti_eq rfl (show (0 : Int32).toInt = 0 by decide)).mpr c403)), ← e411]; exact h411)) c413
  · skip
    exact absurd (h391.trans hth) c396
