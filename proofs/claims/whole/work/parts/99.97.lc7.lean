set_option maxHeartbeats 4000000 in
set_option maxRecDepth 100000 in
theorem law_c7 {p : Program} {e : Env} {s : State} {m : MethodId} {below : List Frame} {meth : Method} {c : Code} {QQ : State → Prop} {A : Nat → Prop} {b L : Nat} {xs : Nat → Int32} (l : Launch) (dC : Nat → ClassId) (dI : Nat → Nat → Nat) (hl9 : l.stackTraces = false) (kW kS cK cR cQ cN dK dR kD kU kR kT kF kO : ClassId) (hfix : CallFix p m c code 8 s #[Value.ref b] allw R_Law) (hK : va_K (dC, dI) vwCl [(kW, .long), (kS, .int), (cK, .int), (cR, .int), (cQ, .int), (cN, .long), (dK, .int), (dR, .int), (kD, .boolean), (kU, .int), (kR, .int), (kT, .int), (kF, .int), (kO, .long)] s) (hA : ∀ q : Nat, s.heap.size ≤ q → A q) (hX : va_X b L xs s s.heap) (hbl : b < s.heap.size) (hbA : ¬ A b) (hTz : tZ A s s.heap) (hTx : tX R_IAE s) (hTr : tR [(119, "what is 0 .. 5")] s) (hf hq hp hw hs hst ak ar hqf hkn hld bk br mo ad asu aru ast afo ho9 : Nat) (Wd Ht n9 : Int) (D : Int → Int → Bool) (pw ph psr lim thd md sz0 tm tx ty sx sy stp cnt cnt2 mth mw mh mro msd mmn : Int32) (fw kn fo : Nat → Int64) (fs kf wf qf kg wg fd fu fr ft ff : Nat → Int32) (kc ns : Nat) (hkc : kc + 1 ≤ 601024) (hns : ns + 6 ≤ 7293034) (hn9 : 0 ≤ n9 ∧ n9 < 512) (iv : Int32) (zi : Int) (hiv : iv.toInt = zi) (hzi : 0 ≤ zi ∧ zi + 6 ≤ L) (hL : L ≤ 3072) (hS0 : iS Wd Ht D pw ph psr mw mh fw fs fd fu) (hN0 : iN n9 sz0 stp kn) (hV0 : iV Wd Ht cnt cnt2 msd mmn kg wg ff) (H : Heap) (locs : List Loc) (ls : Array Slot) (hl : lv_has ls 8 [(0, .ref b), (1, .ref hf), (2, .ref mo), (3, .ref ho9), (4, .int iv)]) (hP : va_P (dC, dI) vwCl [(hf, .inr (4, [.ref hq, .ref hp, .ref hst, .ref hld])), (hq, .inr (3, [.ref hp, .ref hst, .int lim, .int thd, .int md, .int sz0, .int tm, .int tx, .int ty, .int sx, .int sy, .ref hqf, .ref hkn, .int stp])), (hp, .inr (0, [.int pw, .int ph, .ref hw, .ref hs, .int psr])), (hw, .inl (kW, 4096, .inr (.inl fw))), (hs, .inl (kS, 263169, .inl fs)), (hst, .inr (2, [.ref ak, .ref ar, .int cnt])), (ak, .inl (cK, 300, .inl kf)), (ar, .inl (cR, 300, .inl wf)), (hqf, .inl (cQ, 4, .inl qf)), (hkn, .inl (cN, 262144, .inr (.inl kn))), (hld, .inr (2, [.ref bk, .ref br, .int cnt2])), (bk, .inl (dK, 300, .inl kg)), (br, .inl (dR, 300, .inl wg)), (mo, .inr (5, [.int mth, .int mw, .int mh, .ref ad, .ref asu, .ref aru, .int mro, .ref ast, .int msd, .ref afo, .int mmn])), (ad, .inl (kD, 262144, .inl fd)), (asu, .inl (kU, 263169, .inl fu)), (aru, .inl (kR, 2100, .inl fr)), (ast, .inl (kT, 1800, .inl ft)), (afo, .inl (kF, 1800, .inl ff)), (ho9, .inl (kO, 1, .inr (.inl fo)))] H) (hD : va_D A [(hf, .inr (4, [.ref hq, .ref hp, .ref hst, .ref hld])), (hq, .inr (3, [.ref hp, .ref hst, .int lim, .int thd, .int md, .int sz0, .int tm, .int tx, .int ty, .int sx, .int sy, .ref hqf, .ref hkn, .int stp])), (hp, .inr (0, [.int pw, .int ph, .ref hw, .ref hs, .int psr])), (hw, .inl (kW, 4096, .inr (.inl fw))), (hs, .inl (kS, 263169, .inl fs)), (hst, .inr (2, [.ref ak, .ref ar, .int cnt])), (ak, .inl (cK, 300, .inl kf)), (ar, .inl (cR, 300, .inl wf)), (hqf, .inl (cQ, 4, .inl qf)), (hkn, .inl (cN, 262144, .inr (.inl kn))), (hld, .inr (2, [.ref bk, .ref br, .int cnt2])), (bk, .inl (dK, 300, .inl kg)), (br, .inl (dR, 300, .inl wg)), (mo, .inr (5, [.int mth, .int mw, .int mh, .ref ad, .ref asu, .ref aru, .int mro, .ref ast, .int msd, .ref afo, .int mmn])), (ad, .inl (kD, 262144, .inl fd)), (asu, .inl (kU, 263169, .inl fu)), (aru, .inl (kR, 2100, .inl fr)), (ast, .inl (kT, 1800, .inl ft)), (afo, .inl (kF, 1800, .inl ff)), (ho9, .inl (kO, 1, .inr (.inl fo)))]) (hS : va_S A s.heap H locs) (kk : ∀ (H9 : Heap) (locs9 : List Loc) (ls9 : Array Slot) (Wd9 Ht9 : Int) (D9 : Int → Int → Bool) (pw9 ph9 psr9 lim9 thd9 md9 sz09 tm9 tx9 ty9 sx9 sy9 stp9 cnt9 cnt29 mth9 mw9 mh9 mro9 msd9 mmn9 : Int32) (fw9 kn9 fo9 : Nat → Int64) (fs9 kf9 wf9 qf9 kg9 wg9 fd9 fu9 fr9 ft9 ff9 : Nat → Int32), lv_has ls9 8 [(0, .ref b), (1, .ref hf), (2, .ref mo), (3, .ref ho9), (4, .int iv)] → iS Wd9 Ht9 D9 pw9 ph9 psr9 mw9 mh9 fw9 fs9 fd9 fu9 → iN (n9 + 1) sz09 stp9 kn9 → iV Wd9 Ht9 cnt9 cnt29 msd9 mmn9 kg9 wg9 ff9 → va_P (dC, dI) vwCl [(hf, .inr (4, [.ref hq, .ref hp, .ref hst, .ref hld])), (hq, .inr (3, [.ref hp, .ref hst, .int lim9, .int thd9, .int md9, .int sz09, .int tm9, .int tx9, .int ty9, .int sx9, .int sy9, .ref hqf, .ref hkn, .int stp9])), (hp, .inr (0, [.int pw9, .int ph9, .ref hw, .ref hs, .int psr9])), (hw, .inl (kW, 4096, .inr (.inl fw9))), (hs, .inl (kS, 263169, .inl fs9)), (hst, .inr (2, [.ref ak, .ref ar, .int cnt9])), (ak, .inl (cK, 300, .inl kf9)), (ar, .inl (cR, 300, .inl wf9)), (hqf, .inl (cQ, 4, .inl qf9)), (hkn, .inl (cN, 262144, .inr (.inl kn9))), (hld, .inr (2, [.ref bk, .ref br, .int cnt29])), (bk, .inl (dK, 300, .inl kg9)), (br, .inl (dR, 300, .inl wg9)), (mo, .inr (5, [.int mth9, .int mw9, .int mh9, .ref ad, .ref asu, .ref aru, .int mro9, .ref ast, .int msd9, .ref afo, .int mmn9])), (ad, .inl (kD, 262144, .inl fd9)), (asu, .inl (kU, 263169, .inl fu9)), (aru, .inl (kR, 2100, .inl fr9)), (ast, .inl (kT, 1800, .inl ft9)), (afo, .inl (kF, 1800, .inl ff9)), (ho9, .inl (kO, 1, .inr (.inl fo9)))] H9 → va_D A [(hf, .inr (4, [.ref hq, .ref hp, .ref hst, .ref hld])), (hq, .inr (3, [.ref hp, .ref hst, .int lim9, .int thd9, .int md9, .int sz09, .int tm9, .int tx9, .int ty9, .int sx9, .int sy9, .ref hqf, .ref hkn, .int stp9])), (hp, .inr (0, [.int pw9, .int ph9, .ref hw, .ref hs, .int psr9])), (hw, .inl (kW, 4096, .inr (.inl fw9))), (hs, .inl (kS, 263169, .inl fs9)), (hst, .inr (2, [.ref ak, .ref ar, .int cnt9])), (ak, .inl (cK, 300, .inl kf9)), (ar, .inl (cR, 300, .inl wf9)), (hqf, .inl (cQ, 4, .inl qf9)), (hkn, .inl (cN, 262144, .inr (.inl kn9))), (hld, .inr (2, [.ref bk, .ref br, .int cnt29])), (bk, .inl (dK, 300, .inl kg9)), (br, .inl (dR, 300, .inl wg9)), (mo, .inr (5, [.int mth9, .int mw9, .int mh9, .ref ad, .ref asu, .ref aru, .int mro9, .ref ast, .int msd9, .ref afo, .int mmn9])), (ad, .inl (kD, 262144, .inl fd9)), (asu, .inl (kU, 263169, .inl fu9)), (aru, .inl (kR, 2100, .inl fr9)), (ast, .inl (kT, 1800, .inl ft9)), (afo, .inl (kF, 1800, .inl ff9)), (ho9, .inl (kO, 1, .inr (.inl fo9)))] → va_S A s.heap H9 locs9 → W p l e room_1 s m #[Value.ref b] below meth c H9 locs9 (kc + 1) (ns + 6) QQ (F0 m 699 ls9 [])) : W p l e room_1 s m #[Value.ref b] below meth c H locs kc ns QQ (F0 m 552 ls []) := by
  obtain ⟨hx, hb, hml, hown, hts⟩ := hfix
  refine lv_aload_n hx hb d_law_552 rfl (lv_at hl 1 rfl) ?_
  refine lv_aload_n hx hb d_law_553 rfl (lv_at hl 0 rfl) ?_
  refine lv_iload hx hb d_law_554 (lv_at hl 4 rfl) ?_
  refine lv_iconst (v := 1) hx hb d_law_556 (by decide) ?_
  refine lv_iadd hx hb d_law_557 ?_
  refine lv_topi (fun v557 e557 => ?_)
  have h557 : v557.toInt = zi + 1 := by rw [e557]; exact ti_add hiv (ti_k (by decide)) (by omega) (by omega)
  have in558 : vp_in v557 L := vi_in h557 (by omega) (by omega)
  refine va_sld hx hb hX hbl hbA hS in558 d_law_558 ?_
  refine lv_topi (fun v558 e558 => ?_)
  refine lv_aload_n hx hb d_law_559 rfl (lv_at hl 0 rfl) ?_
  refine lv_iload hx hb d_law_560 (lv_at hl 4 rfl) ?_
  refine lv_iconst (v := 2) hx hb d_law_562 (by decide) ?_
  refine lv_iadd hx hb d_law_563 ?_
  refine lv_topi (fun v563 e563 => ?_)
  have h563 : v563.toInt = zi + 2 := by rw [e563]; exact ti_add hiv (ti_k (by decide)) (by omega) (by omega)
  have in564 : vp_in v563 L := vi_in h563 (by omega) (by omega)
  refine va_sld hx hb hX hbl hbA hS in564 d_law_564 ?_
  refine lv_topi (fun v564 e564 => ?_)
  refine lv_aload_n hx hb d_law_565 rfl (lv_at hl 3 rfl) ?_
  have hPc := hP.sub (ws' := [(hf, .inr (4, [.ref hq, .ref hp, .ref hst, .ref hld])), (hld, .inr (2, [.ref bk, .ref br, .int cnt2])), (bk, .inl (dK, 300, .inl kg)), (br, .inl (dR, 300, .inl wg)), (ho9, .inl (kO, 1, .inr (.inl fo)))]) [0, 10, 11, 12, 19] rfl
  have hKc := hK.sub (tys' := [(dK, .int), (dR, .int), (kO, .long)]) [6, 7, 13] rfl
  have hDc := hD.sub (ws' := [(hf, .inr (4, [.ref hq, .ref hp, .ref hst, .ref hld])), (hld, .inr (2, [.ref bk, .ref br, .int cnt2])), (bk, .inl (dK, 300, .inl kg)), (br, .inl (dR, 300, .inl wg)), (ho9, .inl (kO, 1, .inr (.inl fo)))]) [0, 10, 11, 12, 19] (by decide) rfl
  have hFc := va_free (wc := [(hf, .inr (4, [.ref hq, .ref hp, .ref hst, .ref hld])), (hld, .inr (2, [.ref bk, .ref br, .int cnt2])), (bk, .inl (dK, 300, .inl kg)), (br, .inl (dR, 300, .inl wg)), (ho9, .inl (kO, 1, .inr (.inl fo)))]) hD hS hA [0, 10, 11, 12, 19] rfl
  have hTzc := tZ.sub hTz hS hFc
  refine va_calli (vx_runSW (As := [.ref hf, .int v558, .int v564, .ref ho9]) (rest := []) ⟨hx, hb, hml, hown, hts⟩ (l_place l dC dI H.size hl9 hf hq hp hst hld bk br dK dR cnt2 kg wg cnt2.toInt rfl (iV_n hV0).1 (iV_n hV0).2 (iV_kp hV0) v558 v564 v558.toInt v564.toInt rfl rfl ho9 kO fo) (aw_SW 4 hts wd_514 wd_515 wd_0 wd_516 rfl rfl (by decide +kernel) ⟨Nat.le_of_ble_eq_true rfl, Nat.le_of_ble_eq_true rfl⟩) ⟨tB_blind, tB_pre hPc hKc hDc hTx hTr hTzc⟩ rfl rfl hl.1 rfl (lv_room (Nat.le_of_ble_eq_true rfl)) d_law_566 ⟨by show _ ≤ 601024; omega, by show _ ≤ 7293034; omega⟩) hS (fun q _ h => hFc q h) hFc (fun v566 u566_fo t9 H566 locs ht hvm h566 hB hz1 hk1 hS => ?_)
  obtain ⟨hP1, hK1, hD1⟩ := hB
  rw [ht] at hP1
  try dsimp only at h566 hP1 hD1
  obtain ⟨hP, hD⟩ := va_join (wr := [(hq, .inr (3, [.ref hp, .ref hst, .int lim, .int thd, .int md, .int sz0, .int tm, .int tx, .int ty, .int sx, .int sy, .ref hqf, .ref hkn, .int stp])), (hp, .inr (0, [.int pw, .int ph, .ref hw, .ref hs, .int psr])), (hw, .inl (kW, 4096, .inr (.inl fw))), (hs, .inl (kS, 263169, .inl fs)), (hst, .inr (2, [.ref ak, .ref ar, .int cnt])), (ak, .inl (cK, 300, .inl kf)), (ar, .inl (cR, 300, .inl wf)), (hqf, .inl (cQ, 4, .inl qf)), (hkn, .inl (cN, 262144, .inr (.inl kn))), (mo, .inr (5, [.int mth, .int mw, .int mh, .ref ad, .ref asu, .ref aru, .int mro, .ref ast, .int msd, .ref afo, .int mmn])), (ad, .inl (kD, 262144, .inl fd)), (asu, .inl (kU, 263169, .inl fu)), (aru, .inl (kR, 2100, .inl fr)), (ast, .inl (kT, 1800, .inl ft)), (afo, .inl (kF, 1800, .inl ff))]) (w1 := [(hf, .inr (4, [.ref hq, .ref hp, .ref hst, .ref hld])), (hld, .inr (2, [.ref bk, .ref br, .int cnt2])), (bk, .inl (dK, 300, .inl kg)), (br, .inl (dR, 300, .inl wg)), (ho9, .inl (kO, 1, .inr (.inl u566_fo)))]) hP hD [0, 10, 11, 12, 19] [1, 2, 3, 4, 5, 6, 7, 8, 9, 13, 14, 15, 16, 17, 18] rfl rfl (by decide) (by decide) hk1 hFc hP1 hD1
  have hP := hP.sub (ws' := [(hf, .inr (4, [.ref hq, .ref hp, .ref hst, .ref hld])), (hq, .inr (3, [.ref hp, .ref hst, .int lim, .int thd, .int md, .int sz0, .int tm, .int tx, .int ty, .int sx, .int sy, .ref hqf, .ref hkn, .int stp])), (hp, .inr (0, [.int pw, .int ph, .ref hw, .ref hs, .int psr])), (hw, .inl (kW, 4096, .inr (.inl fw))), (hs, .inl (kS, 263169, .inl fs)), (hst, .inr (2, [.ref ak, .ref ar, .int cnt])), (ak, .inl (cK, 300, .inl kf)), (ar, .inl (cR, 300, .inl wf)), (hqf, .inl (cQ, 4, .inl qf)), (hkn, .inl (cN, 262144, .inr (.inl kn))), (hld, .inr (2, [.ref bk, .ref br, .int cnt2])), (bk, .inl (dK, 300, .inl kg)), (br, .inl (dR, 300, .inl wg)), (mo, .inr (5, [.int mth, .int mw, .int mh, .ref ad, .ref asu, .ref aru, .int mro, .ref ast, .int msd, .ref afo, .int mmn])), (ad, .inl (kD, 262144, .inl fd)), (asu, .inl (kU, 263169, .inl fu)), (aru, .inl (kR, 2100, .inl fr)), (ast, .inl (kT, 1800, .inl ft)), (afo, .inl (kF, 1800, .inl ff)), (ho9, .inl (kO, 1, .inr (.inl u566_fo)))]) [15, 0, 1, 2, 3, 4, 5, 6, 7, 8, 16, 17, 18, 9, 10, 11, 12, 13, 14, 19] rfl
  have hD := hD.sub (ws' := [(hf, .inr (4, [.ref hq, .ref hp, .ref hst, .ref hld])), (hq, .inr (3, [.ref hp, .ref hst, .int lim, .int thd, .int md, .int sz0, .int tm, .int tx, .int ty, .int sx, .int sy, .ref hqf, .ref hkn, .int stp])), (hp, .inr (0, [.int pw, .int ph, .ref hw, .ref hs, .int psr])), (hw, .inl (kW, 4096, .inr (.inl fw))), (hs, .inl (kS, 263169, .inl fs)), (hst, .inr (2, [.ref ak, .ref ar, .int cnt])), (ak, .inl (cK, 300, .inl kf)), (ar, .inl (cR, 300, .inl wf)), (hqf, .inl (cQ, 4, .inl qf)), (hkn, .inl (cN, 262144, .inr (.inl kn))), (hld, .inr (2, [.ref bk, .ref br, .int cnt2])), (bk, .inl (dK, 300, .inl kg)), (br, .inl (dR, 300, .inl wg)), (mo, .inr (5, [.int mth, .int mw, .int mh, .ref ad, .ref asu, .ref aru, .int mro, .ref ast, .int msd, .ref afo, .int mmn])), (ad, .inl (kD, 262144, .inl fd)), (asu, .inl (kU, 263169, .inl fu)), (aru, .inl (kR, 2100, .inl fr)), (ast, .inl (kT, 1800, .inl ft)), (afo, .inl (kF, 1800, .inl ff)), (ho9, .inl (kO, 1, .inr (.inl u566_fo)))]) [15, 0, 1, 2, 3, 4, 5, 6, 7, 8, 16, 17, 18, 9, 10, 11, 12, 13, 14, 19] (by decide) rfl
  clear hPc hKc hDc hFc hTzc ht hvm hz1 hk1 hP1 hD1 hK1
  refine lv_istore (lv' := [(5, .int v566), (0, .ref b), (1, .ref hf), (2, .ref mo), (3, .ref ho9), (4, .int iv)]) hx hb d_law_569 hl (by decide) rfl (fun ls hl => ?_)
  refine lv_aload_n hx hb d_law_571 rfl (lv_at hl 3 rfl) ?_
  refine lv_aload_n hx hb d_law_572 rfl (lv_at hl 1 rfl) ?_
  refine lv_iload hx hb d_law_573 (lv_at hl 5 rfl) ?_
  refine lv_iconst (v := 1) hx hb d_law_575 (by decide) ?_
  refine lv_iadd hx hb d_law_576 ?_
  refine lv_topi (fun v576 e576 => ?_)
  have h576 : v576.toInt = zi + 1 := by rw [e576]; exact ti_add hiv (ti_k (by decide)) (by omega) (by omega)
  have q576 : v557 = v576 := by rw [e557, e576]
  subst q576
  have in577 : vp_in v557 L := vi_in h576 (by omega) (by omega)
  refine va_sld hx hb hX hbl hbA hS in577 d_law_577 ?_
  refine lv_topi (fun v577 e577 => ?_)
  have q577 : v558 = v577 := by rw [e558, e577]
  subst q577
  refine lv_aload_n hx hb d_law_578 rfl (lv_at hl 1 rfl) ?_
  refine lv_iload hx hb d_law_579 (lv_at hl 5 rfl) ?_
  refine lv_iconst (v := 2) hx hb d_law_581 (by decide) ?_
  refine lv_iadd hx hb d_law_582 ?_
  refine lv_topi (fun v582 e582 => ?_)
  have h582 : v582.toInt = zi + 2 := by rw [e582]; exact ti_add hiv (ti_k (by decide)) (by omega) (by omega)
  have q582 : v563 = v582 := by rw [e563, e582]
  subst q582
  have in583 : vp_in v563 L := vi_in h582 (by omega) (by omega)
  refine va_sld hx hb hX hbl hbA hS in583 d_law_583 ?_
  refine lv_topi (fun v583 e583 => ?_)
  have q583 : v564 = v583 := by rw [e564, e583]
  subst q583
  have hPc := hP.sub (ws' := [(mo, .inr (5, [.int mth, .int mw, .int mh, .ref ad, .ref asu, .ref aru, .int mro, .ref ast, .int msd, .ref afo, .int mmn])), (afo, .inl (kF, 1800, .inl ff))]) [13, 18] rfl
  have hKc := hK.sub (tys' := [(kF, .int)]) [12] rfl
  have hDc := hD.sub (ws' := [(mo, .inr (5, [.int mth, .int mw, .int mh, .ref ad, .ref asu, .ref aru, .int mro, .ref ast, .int msd, .ref afo, .int mmn])), (afo, .inl (kF, 1800, .inl ff))]) [13, 18] (by decide) rfl
  have hFc := va_free (wc := [(mo, .inr (5, [.int mth, .int mw, .int mh, .ref ad, .ref asu, .ref aru, .int mro, .ref ast, .int msd, .ref afo, .int mmn])), (afo, .inl (kF, 1800, .inl ff))]) hD hS hA [13, 18] rfl
  refine va_calli (va_runV (As := [.int v558, .int v564]) (rest := []) ⟨hx, hb, hml, hown, hts⟩ (m_place l dC dI H566.size mo ad asu aru ast afo mth mw mh mro msd mmn mmn.toInt rfl hV0.2.2.1.1 hV0.2.2.1.2 kF ff v558 v564 v558.toInt v564.toInt rfl rfl) (aw_V 2 hts wd_713 wd_714 wd_715 wd_5 wd_716 rfl rfl (by decide +kernel) ⟨Nat.le_of_ble_eq_true rfl, Nat.le_of_ble_eq_true rfl⟩) ⟨rw_blind, va_recv hKc hPc (ci := 5) (q0 := 0) rfl rfl, rw_pre hPc hKc hDc⟩ rfl rfl hl.1 rfl (lv_room (Nat.le_of_ble_eq_true rfl)) d_law_584 ⟨by show _ ≤ 601024; omega, by show _ ≤ 7293034; omega⟩) hS (fun q _ h => hFc q h) hFc (fun v584 u584_th t9 H584 locs ht hvm h584 hB hz1 hk1 hS => ?_)
  obtain ⟨hP1, hK1, hD1⟩ := hB
  rw [ht] at hP1
  try dsimp only at h584 hP1 hD1
  obtain ⟨hP, hD⟩ := va_join (wr := [(hf, .inr (4, [.ref hq, .ref hp, .ref hst, .ref hld])), (hq, .inr (3, [.ref hp, .ref hst, .int lim, .int thd, .int md, .int sz0, .int tm, .int tx, .int ty, .int sx, .int sy, .ref hqf, .ref hkn, .int stp])), (hp, .inr (0, [.int pw, .int ph, .ref hw, .ref hs, .int psr])), (hw, .inl (kW, 4096, .inr (.inl fw))), (hs, .inl (kS, 263169, .inl fs)), (hst, .inr (2, [.ref ak, .ref ar, .int cnt])), (ak, .inl (cK, 300, .inl kf)), (ar, .inl (cR, 300, .inl wf)), (hqf, .inl (cQ, 4, .inl qf)), (hkn, .inl (cN, 262144, .inr (.inl kn))), (hld, .inr (2, [.ref bk, .ref br, .int cnt2])), (bk, .inl (dK, 300, .inl kg)), (br, .inl (dR, 300, .inl wg)), (ad, .inl (kD, 262144, .inl fd)), (asu, .inl (kU, 263169, .inl fu)), (aru, .inl (kR, 2100, .inl fr)), (ast, .inl (kT, 1800, .inl ft)), (ho9, .inl (kO, 1, .inr (.inl u566_fo)))]) (w1 := [(mo, .inr (5, [.int u584_th, .int mw, .int mh, .ref ad, .ref asu, .ref aru, .int mro, .ref ast, .int msd, .ref afo, .int mmn])), (afo, .inl (kF, 1800, .inl ff))]) hP hD [13, 18] [0, 1, 2, 3, 4, 5, 6, 7, 8, 9, 10, 11, 12, 14, 15, 16, 17, 19] rfl rfl (by decide) (by decide) hk1 hFc hP1 hD1
  have hP := hP.sub (ws' := [(hf, .inr (4, [.ref hq, .ref hp, .ref hst, .ref hld])), (hq, .inr (3, [.ref hp, .ref hst, .int lim, .int thd, .int md, .int sz0, .int tm, .int tx, .int ty, .int sx, .int sy, .ref hqf, .ref hkn, .int stp])), (hp, .inr (0, [.int pw, .int ph, .ref hw, .ref hs, .int psr])), (hw, .inl (kW, 4096, .inr (.inl fw))), (hs, .inl (kS, 263169, .inl fs)), (hst, .inr (2, [.ref ak, .ref ar, .int cnt])), (ak, .inl (cK, 300, .inl kf)), (ar, .inl (cR, 300, .inl wf)), (hqf, .inl (cQ, 4, .inl qf)), (hkn, .inl (cN, 262144, .inr (.inl kn))), (hld, .inr (2, [.ref bk, .ref br, .int cnt2])), (bk, .inl (dK, 300, .inl kg)), (br, .inl (dR, 300, .inl wg)), (mo, .inr (5, [.int u584_th, .int mw, .int mh, .ref ad, .ref asu, .ref aru, .int mro, .ref ast, .int msd, .ref afo, .int mmn])), (ad, .inl (kD, 262144, .inl fd)), (asu, .inl (kU, 263169, .inl fu)), (aru, .inl (kR, 2100, .inl fr)), (ast, .inl (kT, 1800, .inl ft)), (afo, .inl (kF, 1800, .inl ff)), (ho9, .inl (kO, 1, .inr (.inl u566_fo)))]) [0, 1, 2, 3, 4, 5, 6, 7, 8, 9, 10, 11, 12, 18, 13, 14, 15, 16, 19, 17] rfl
  have hD := hD.sub (ws' := [(hf, .inr (4, [.ref hq, .ref hp, .ref hst, .ref hld])), (hq, .inr (3, [.ref hp, .ref hst, .int lim, .int thd, .int md, .int sz0, .int tm, .int tx, .int ty, .int sx, .int sy, .ref hqf, .ref hkn, .int stp])), (hp, .inr (0, [.int pw, .int ph, .ref hw, .ref hs, .int psr])), (hw, .inl (kW, 4096, .inr (.inl fw))), (hs, .inl (kS, 263169, .inl fs)), (hst, .inr (2, [.ref ak, .ref ar, .int cnt])), (ak, .inl (cK, 300, .inl kf)), (ar, .inl (cR, 300, .inl wf)), (hqf, .inl (cQ, 4, .inl qf)), (hkn, .inl (cN, 262144, .inr (.inl kn))), (hld, .inr (2, [.ref bk, .ref br, .int cnt2])), (bk, .inl (dK, 300, .inl kg)), (br, .inl (dR, 300, .inl wg)), (mo, .inr (5, [.int u584_th, .int mw, .int mh, .ref ad, .ref asu, .ref aru, .int mro, .ref ast, .int msd, .ref afo, .int mmn])), (ad, .inl (kD, 262144, .inl fd)), (asu, .inl (kU, 263169, .inl fu)), (aru, .inl (kR, 2100, .inl fr)), (ast, .inl (kT, 1800, .inl ft)), (afo, .inl (kF, 1800, .inl ff)), (ho9, .inl (kO, 1, .inr (.inl u566_fo)))]) [0, 1, 2, 3, 4, 5, 6, 7, 8, 9, 10, 11, 12, 18, 13, 14, 15, 16, 19, 17] (by decide) rfl
  clear hPc hKc hDc hFc ht hvm hz1 hk1 hP1 hD1 hK1
  obtain ⟨hth, hk⟩ := st_place hV0 h566 h584
  refine lv_istore (lv' := [(6, .int v584), (5, .int v566), (0, .ref b), (1, .ref hf), (2, .ref mo), (3, .ref ho9), (4, .int iv)]) hx hb d_law_587 hl (by decide) rfl (fun ls hl => ?_)
  refine lv_aload_n hx hb d_law_589 rfl (lv_at hl 4 rfl) ?_
  have hPc := hP.sub (ws' := [(mo, .inr (5, [.int u584_th, .int mw, .int mh, .ref ad, .ref asu, .ref aru, .int mro, .ref ast, .int msd, .ref afo, .int mmn]))]) [13] rfl
  have hKc := hK.sub (tys' := []) [] rfl
  refine va_calli (va_runV (As := []) (rest := []) ⟨hx, hb, hml, hown, hts⟩ (m_thrown l dC dI mo ad asu aru ast afo u584_th mw mh mro msd mmn) (aw_V 0 hts wd_600 wd_601 wd_602 wd_5 wd_603 rfl rfl (by decide +kernel) ⟨Nat.le_of_ble_eq_true rfl, Nat.le_of_ble_eq_true rfl⟩) ⟨ro_blind, va_recv hKc hPc (ci := 5) (q0 := 0) rfl rfl, ro_pre hPc hKc⟩ rfl rfl hl.1 rfl (lv_room (Nat.le_of_ble_eq_true rfl)) d_law_590 ⟨by show _ ≤ 601024; omega, by show _ ≤ 7293034; omega⟩) hS (fun q _ h => h.elim) (fun q h => h.elim) (fun v590 _ t9 H590 locs ht hvm h590 hB hz1 hk1 hS => ?_)
  have hP := ro_keep hP hk1
  clear hPc hKc ht hvm hB hz1 hk1
  refine lv_iload hx hb d_law_593 (lv_at hl 1 rfl) ?_
  refine lv_icmp_eq (tgt := 600) hx hb d_law_595 (by decide) (fun c595 => ?_) (fun c595 => ?_)
  · skip
    refine lv_iload hx hb d_law_600 (lv_at hl 1 rfl) ?_
    refine lv_if_ne (tgt := 617) hx hb d_law_602 (by decide) (fun c602 => ?_) (fun c602 => ?_)
    · skip
      have c602 : ¬ (v566.toInt = 0) := fun q => c602 ((ti_eq rfl (ti_k (by decide))).mpr q)
      refine lv_goto (tgt := 699) hx hb d_law_617 (by decide) ?_
      exact kk _ _ _ _ _ _ pw ph psr lim thd md sz0 tm tx ty sx sy stp cnt cnt2 u584_th mw mh mro msd mmn fw kn u566_fo fs kf wf qf kg wg fd fu fr ft ff (lv_sub hl [2, 3, 4, 5, 6] rfl) hS0 (iN_s hN0) hV0 hP hD hS
    · skip
      have c602 : v566.toInt = 0 := (ti_eq rfl (ti_k (by decide))).mp c602
      refine lv_aload_n hx hb d_law_605 rfl (lv_at hl 5 rfl) ?_
      refine lv_iconst (v := 0) hx hb d_law_606 (by decide) ?_
      have in607 : vp_in (0 : Int32) 1 := vi_in (show (0 : Int32).toInt = (0 : Int) by decide) (by omega) (by omega)
      refine va_lald hx hb hK hP 19 13 rfl rfl in607 d_law_607 ?_
      refine lv_topl (fun v607 e607 => ?_)
      have e607 : v607 = u566_fo ((0 : Int)).toNat := by rw [e607, vi_cl (show (0 : Int32).toInt = (0 : Int) by decide)]
      refine lv_iload hx hb d_law_608 (lv_at hl 0 rfl) ?_
      refine lv_i2l hx hb d_law_610 rfl ?_
      refine lv_topl (fun v610 e610 => ?_)
      have h610 : v610.toInt = v584.toInt := by rw [e610]; exact tl_i2l rfl
      refine W.lcmp hx hb d_law_611 ?_
      refine lv_topi (fun v611 e611 => ?_)
      have h611 : v611.toInt = (if v584.toInt < v607.toInt then 1 else if v607.toInt = v584.toInt then 0 else -1) := by rw [e611]; exact tl_cmp rfl h610
      refine lv_if_eq (tgt := 617) hx hb d_law_612 (by decide) (fun c612 => ?_) (fun c612 => ?_)
      · skip
        have c612 : (if v584.toInt < v607.toInt then 1 else if v607.toInt = v584.toInt then 0 else -1) = 0 := (ti_eq h611 (ti_k (by decide))).mp c612
        refine lv_goto (tgt := 699) hx hb d_law_617 (by decide) ?_
        exact kk _ _ _ _ _ _ pw ph psr lim thd md sz0 tm tx ty sx sy stp cnt cnt2 u584_th mw mh mro msd mmn fw kn u566_fo fs kf wf qf kg wg fd fu fr ft ff (lv_sub hl [2, 3, 4, 5, 6] rfl) hS0 (iN_s hN0) hV0 hP hD hS
      · skip
        have c612 : ¬ ((if v584.toInt < v607.toInt then 1 else if v607.toInt = v584.toInt then 0 else -1) = 0) := fun q => c612 ((ti_eq h611 (ti_k (by decide))).mpr q)
        exact absurd (lc0 (show v607.toInt = v584.toInt by rw [show v607 = v584.toInt64 from e607.trans (hk ((ti_eq rfl (show (0 : Int32).toInt = 0 by decide)).mpr c602)), ← e610]; exact h610)) c612
  · skip
    exact absurd (h590.trans hth) c595
