set_option maxHeartbeats 4000000 in
set_option maxRecDepth 100000 in
theorem law_c2 {p : Program} {e : Env} {s : State} {m : MethodId} {below : List Frame} {meth : Method} {c : Code} {QQ : State → Prop} {A : Nat → Prop} {b L : Nat} {xs : Nat → Int32} (l : Launch) (dC : Nat → ClassId) (dI : Nat → Nat → Nat) (hl9 : l.stackTraces = false) (kW kS cK cR cQ cN dK dR kD kU kR kT kF kO : ClassId) (hfix : CallFix p m c code 8 s #[Value.ref b] allw R_Law) (hK : va_K (dC, dI) vwCl [(kW, .long), (kS, .int), (cK, .int), (cR, .int), (cQ, .int), (cN, .long), (dK, .int), (dR, .int), (kD, .boolean), (kU, .int), (kR, .int), (kT, .int), (kF, .int), (kO, .long)] s) (hA : ∀ q : Nat, s.heap.size ≤ q → A q) (hX : va_X b L xs s s.heap) (hbl : b < s.heap.size) (hbA : ¬ A b) (hTz : tZ A s s.heap) (hTx : tX R_IAE s) (hTr : tR [(56, "w and h are 1 .. 512")] s) (hf hq hp hw hs hst ak ar hqf hkn hld bk br mo ad asu aru ast afo ho9 : Nat) (Wd Ht n9 : Int) (D : Int → Int → Bool) (pw ph psr lim thd md sz0 tm tx ty sx sy stp cnt cnt2 mth mw mh mro msd mmn : Int32) (fw kn fo : Nat → Int64) (fs kf wf qf kg wg fd fu fr ft ff : Nat → Int32) (kc ns : Nat) (hkc : kc + 1 ≤ 601024) (hns : ns + 6 ≤ 7293034) (hn9 : 0 ≤ n9 ∧ n9 < 512) (iv : Int32) (zi : Int) (hiv : iv.toInt = zi) (hzi : 0 ≤ zi ∧ zi + 6 ≤ L) (hL : L ≤ 3072) (hS0 : iS Wd Ht D pw ph psr mw mh fw fs fd fu) (hN0 : iN n9 sz0 stp kn) (hV0 : iV Wd Ht cnt cnt2 msd mmn kg wg ff) (H : Heap) (locs : List Loc) (ls : Array Slot) (hl : lv_has ls 8 [(0, .ref b), (1, .ref hf), (2, .ref mo), (3, .ref ho9), (4, .int iv)]) (hP : va_P (dC, dI) vwCl [(hf, .inr (4, [.ref hq, .ref hp, .ref hst, .ref hld])), (hq, .inr (3, [.ref hp, .ref hst, .int lim, .int thd, .int md, .int sz0, .int tm, .int tx, .int ty, .int sx, .int sy, .ref hqf, .ref hkn, .int stp])), (hp, .inr (0, [.int pw, .int ph, .ref hw, .ref hs, .int psr])), (hw, .inl (kW, 4096, .inr (.inl fw))), (hs, .inl (kS, 263169, .inl fs)), (hst, .inr (2, [.ref ak, .ref ar, .int cnt])), (ak, .inl (cK, 300, .inl kf)), (ar, .inl (cR, 300, .inl wf)), (hqf, .inl (cQ, 4, .inl qf)), (hkn, .inl (cN, 262144, .inr (.inl kn))), (hld, .inr (2, [.ref bk, .ref br, .int cnt2])), (bk, .inl (dK, 300, .inl kg)), (br, .inl (dR, 300, .inl wg)), (mo, .inr (5, [.int mth, .int mw, .int mh, .ref ad, .ref asu, .ref aru, .int mro, .ref ast, .int msd, .ref afo, .int mmn])), (ad, .inl (kD, 262144, .inl fd)), (asu, .inl (kU, 263169, .inl fu)), (aru, .inl (kR, 2100, .inl fr)), (ast, .inl (kT, 1800, .inl ft)), (afo, .inl (kF, 1800, .inl ff)), (ho9, .inl (kO, 1, .inr (.inl fo)))] H) (hD : va_D A [(hf, .inr (4, [.ref hq, .ref hp, .ref hst, .ref hld])), (hq, .inr (3, [.ref hp, .ref hst, .int lim, .int thd, .int md, .int sz0, .int tm, .int tx, .int ty, .int sx, .int sy, .ref hqf, .ref hkn, .int stp])), (hp, .inr (0, [.int pw, .int ph, .ref hw, .ref hs, .int psr])), (hw, .inl (kW, 4096, .inr (.inl fw))), (hs, .inl (kS, 263169, .inl fs)), (hst, .inr (2, [.ref ak, .ref ar, .int cnt])), (ak, .inl (cK, 300, .inl kf)), (ar, .inl (cR, 300, .inl wf)), (hqf, .inl (cQ, 4, .inl qf)), (hkn, .inl (cN, 262144, .inr (.inl kn))), (hld, .inr (2, [.ref bk, .ref br, .int cnt2])), (bk, .inl (dK, 300, .inl kg)), (br, .inl (dR, 300, .inl wg)), (mo, .inr (5, [.int mth, .int mw, .int mh, .ref ad, .ref asu, .ref aru, .int mro, .ref ast, .int msd, .ref afo, .int mmn])), (ad, .inl (kD, 262144, .inl fd)), (asu, .inl (kU, 263169, .inl fu)), (aru, .inl (kR, 2100, .inl fr)), (ast, .inl (kT, 1800, .inl ft)), (afo, .inl (kF, 1800, .inl ff)), (ho9, .inl (kO, 1, .inr (.inl fo)))]) (hS : va_S A s.heap H locs) (kk : ∀ (H9 : Heap) (locs9 : List Loc) (ls9 : Array Slot) (Wd9 Ht9 : Int) (D9 : Int → Int → Bool) (pw9 ph9 psr9 lim9 thd9 md9 sz09 tm9 tx9 ty9 sx9 sy9 stp9 cnt9 cnt29 mth9 mw9 mh9 mro9 msd9 mmn9 : Int32) (fw9 kn9 fo9 : Nat → Int64) (fs9 kf9 wf9 qf9 kg9 wg9 fd9 fu9 fr9 ft9 ff9 : Nat → Int32), lv_has ls9 8 [(0, .ref b), (1, .ref hf), (2, .ref mo), (3, .ref ho9), (4, .int iv)] → iS Wd9 Ht9 D9 pw9 ph9 psr9 mw9 mh9 fw9 fs9 fd9 fu9 → iN (n9 + 1) sz09 stp9 kn9 → iV Wd9 Ht9 cnt9 cnt29 msd9 mmn9 kg9 wg9 ff9 → va_P (dC, dI) vwCl [(hf, .inr (4, [.ref hq, .ref hp, .ref hst, .ref hld])), (hq, .inr (3, [.ref hp, .ref hst, .int lim9, .int thd9, .int md9, .int sz09, .int tm9, .int tx9, .int ty9, .int sx9, .int sy9, .ref hqf, .ref hkn, .int stp9])), (hp, .inr (0, [.int pw9, .int ph9, .ref hw, .ref hs, .int psr9])), (hw, .inl (kW, 4096, .inr (.inl fw9))), (hs, .inl (kS, 263169, .inl fs9)), (hst, .inr (2, [.ref ak, .ref ar, .int cnt9])), (ak, .inl (cK, 300, .inl kf9)), (ar, .inl (cR, 300, .inl wf9)), (hqf, .inl (cQ, 4, .inl qf9)), (hkn, .inl (cN, 262144, .inr (.inl kn9))), (hld, .inr (2, [.ref bk, .ref br, .int cnt29])), (bk, .inl (dK, 300, .inl kg9)), (br, .inl (dR, 300, .inl wg9)), (mo, .inr (5, [.int mth9, .int mw9, .int mh9, .ref ad, .ref asu, .ref aru, .int mro9, .ref ast, .int msd9, .ref afo, .int mmn9])), (ad, .inl (kD, 262144, .inl fd9)), (asu, .inl (kU, 263169, .inl fu9)), (aru, .inl (kR, 2100, .inl fr9)), (ast, .inl (kT, 1800, .inl ft9)), (afo, .inl (kF, 1800, .inl ff9)), (ho9, .inl (kO, 1, .inr (.inl fo9)))] H9 → va_D A [(hf, .inr (4, [.ref hq, .ref hp, .ref hst, .ref hld])), (hq, .inr (3, [.ref hp, .ref hst, .int lim9, .int thd9, .int md9, .int sz09, .int tm9, .int tx9, .int ty9, .int sx9, .int sy9, .ref hqf, .ref hkn, .int stp9])), (hp, .inr (0, [.int pw9, .int ph9, .ref hw, .ref hs, .int psr9])), (hw, .inl (kW, 4096, .inr (.inl fw9))), (hs, .inl (kS, 263169, .inl fs9)), (hst, .inr (2, [.ref ak, .ref ar, .int cnt9])), (ak, .inl (cK, 300, .inl kf9)), (ar, .inl (cR, 300, .inl wf9)), (hqf, .inl (cQ, 4, .inl qf9)), (hkn, .inl (cN, 262144, .inr (.inl kn9))), (hld, .inr (2, [.ref bk, .ref br, .int cnt29])), (bk, .inl (dK, 300, .inl kg9)), (br, .inl (dR, 300, .inl wg9)), (mo, .inr (5, [.int mth9, .int mw9, .int mh9, .ref ad, .ref asu, .ref aru, .int mro9, .ref ast, .int msd9, .ref afo, .int mmn9])), (ad, .inl (kD, 262144, .inl fd9)), (asu, .inl (kU, 263169, .inl fu9)), (aru, .inl (kR, 2100, .inl fr9)), (ast, .inl (kT, 1800, .inl ft9)), (afo, .inl (kF, 1800, .inl ff9)), (ho9, .inl (kO, 1, .inr (.inl fo9)))] → va_S A s.heap H9 locs9 → W p l e room_1 s m #[Value.ref b] below meth c H9 locs9 (kc + 1) (ns + 6) QQ (F0 m 699 ls9 [])) : W p l e room_1 s m #[Value.ref b] below meth c H locs kc ns QQ (F0 m 221 ls []) := by
  obtain ⟨hx, hb, hml, hown, hts⟩ := hfix
  refine lv_aload_n hx hb d_law_221 rfl (lv_at hl 1 rfl) ?_
  refine lv_aload_n hx hb d_law_222 rfl (lv_at hl 0 rfl) ?_
  refine lv_iload hx hb d_law_223 (lv_at hl 4 rfl) ?_
  refine lv_iconst (v := 1) hx hb d_law_225 (by decide) ?_
  refine lv_iadd hx hb d_law_226 ?_
  refine lv_topi (fun v226 e226 => ?_)
  have h226 : v226.toInt = zi + 1 := by rw [e226]; exact ti_add hiv (ti_k (by decide)) (by omega) (by omega)
  have in227 : vp_in v226 L := vi_in h226 (by omega) (by omega)
  refine va_sld hx hb hX hbl hbA hS in227 d_law_227 ?_
  refine lv_topi (fun v227 e227 => ?_)
  refine lv_aload_n hx hb d_law_228 rfl (lv_at hl 0 rfl) ?_
  refine lv_iload hx hb d_law_229 (lv_at hl 4 rfl) ?_
  refine lv_iconst (v := 2) hx hb d_law_231 (by decide) ?_
  refine lv_iadd hx hb d_law_232 ?_
  refine lv_topi (fun v232 e232 => ?_)
  have h232 : v232.toInt = zi + 2 := by rw [e232]; exact ti_add hiv (ti_k (by decide)) (by omega) (by omega)
  have in233 : vp_in v232 L := vi_in h232 (by omega) (by omega)
  refine va_sld hx hb hX hbl hbA hS in233 d_law_233 ?_
  refine lv_topi (fun v233 e233 => ?_)
  refine lv_aload_n hx hb d_law_234 rfl (lv_at hl 0 rfl) ?_
  refine lv_iload hx hb d_law_235 (lv_at hl 4 rfl) ?_
  refine lv_iconst (v := 3) hx hb d_law_237 (by decide) ?_
  refine lv_iadd hx hb d_law_238 ?_
  refine lv_topi (fun v238 e238 => ?_)
  have h238 : v238.toInt = zi + 3 := by rw [e238]; exact ti_add hiv (ti_k (by decide)) (by omega) (by omega)
  have in239 : vp_in v238 L := vi_in h238 (by omega) (by omega)
  refine va_sld hx hb hX hbl hbA hS in239 d_law_239 ?_
  refine lv_topi (fun v239 e239 => ?_)
  refine lv_aload_n hx hb d_law_240 rfl (lv_at hl 0 rfl) ?_
  refine lv_iload hx hb d_law_241 (lv_at hl 4 rfl) ?_
  refine lv_iconst (v := 4) hx hb d_law_243 (by decide) ?_
  refine lv_iadd hx hb d_law_244 ?_
  refine lv_topi (fun v244 e244 => ?_)
  have h244 : v244.toInt = zi + 4 := by rw [e244]; exact ti_add hiv (ti_k (by decide)) (by omega) (by omega)
  have in245 : vp_in v244 L := vi_in h244 (by omega) (by omega)
  refine va_sld hx hb hX hbl hbA hS in245 d_law_245 ?_
  refine lv_topi (fun v245 e245 => ?_)
  refine lv_aload_n hx hb d_law_246 rfl (lv_at hl 0 rfl) ?_
  refine lv_iload hx hb d_law_247 (lv_at hl 4 rfl) ?_
  refine lv_iconst (v := 5) hx hb d_law_249 (by decide) ?_
  refine lv_iadd hx hb d_law_250 ?_
  refine lv_topi (fun v250 e250 => ?_)
  have h250 : v250.toInt = zi + 5 := by rw [e250]; exact ti_add hiv (ti_k (by decide)) (by omega) (by omega)
  have in251 : vp_in v250 L := vi_in h250 (by omega) (by omega)
  refine va_sld hx hb hX hbl hbA hS in251 d_law_251 ?_
  refine lv_topi (fun v251 e251 => ?_)
  refine w_cut (I := fun H' locs' g' => ∃ (fb : Int32) (ls : Array Slot), g' = F0 m 260 ls [.int fb, .int v245, .int v239, .int v233, .int v227, .ref hf] ∧ lv_has ls 8 [(0, .ref b), (1, .ref hf), (2, .ref mo), (3, .ref ho9), (4, .int iv)] ∧ (fb = zb (decide (v251.toInt ≠ 0))) ∧ va_P (dC, dI) vwCl [(hf, .inr (4, [.ref hq, .ref hp, .ref hst, .ref hld])), (hq, .inr (3, [.ref hp, .ref hst, .int lim, .int thd, .int md, .int sz0, .int tm, .int tx, .int ty, .int sx, .int sy, .ref hqf, .ref hkn, .int stp])), (hp, .inr (0, [.int pw, .int ph, .ref hw, .ref hs, .int psr])), (hw, .inl (kW, 4096, .inr (.inl fw))), (hs, .inl (kS, 263169, .inl fs)), (hst, .inr (2, [.ref ak, .ref ar, .int cnt])), (ak, .inl (cK, 300, .inl kf)), (ar, .inl (cR, 300, .inl wf)), (hqf, .inl (cQ, 4, .inl qf)), (hkn, .inl (cN, 262144, .inr (.inl kn))), (hld, .inr (2, [.ref bk, .ref br, .int cnt2])), (bk, .inl (dK, 300, .inl kg)), (br, .inl (dR, 300, .inl wg)), (mo, .inr (5, [.int mth, .int mw, .int mh, .ref ad, .ref asu, .ref aru, .int mro, .ref ast, .int msd, .ref afo, .int mmn])), (ad, .inl (kD, 262144, .inl fd)), (asu, .inl (kU, 263169, .inl fu)), (aru, .inl (kR, 2100, .inl fr)), (ast, .inl (kT, 1800, .inl ft)), (afo, .inl (kF, 1800, .inl ff)), (ho9, .inl (kO, 1, .inr (.inl fo)))] H' ∧ va_D A [(hf, .inr (4, [.ref hq, .ref hp, .ref hst, .ref hld])), (hq, .inr (3, [.ref hp, .ref hst, .int lim, .int thd, .int md, .int sz0, .int tm, .int tx, .int ty, .int sx, .int sy, .ref hqf, .ref hkn, .int stp])), (hp, .inr (0, [.int pw, .int ph, .ref hw, .ref hs, .int psr])), (hw, .inl (kW, 4096, .inr (.inl fw))), (hs, .inl (kS, 263169, .inl fs)), (hst, .inr (2, [.ref ak, .ref ar, .int cnt])), (ak, .inl (cK, 300, .inl kf)), (ar, .inl (cR, 300, .inl wf)), (hqf, .inl (cQ, 4, .inl qf)), (hkn, .inl (cN, 262144, .inr (.inl kn))), (hld, .inr (2, [.ref bk, .ref br, .int cnt2])), (bk, .inl (dK, 300, .inl kg)), (br, .inl (dR, 300, .inl wg)), (mo, .inr (5, [.int mth, .int mw, .int mh, .ref ad, .ref asu, .ref aru, .int mro, .ref ast, .int msd, .ref afo, .int mmn])), (ad, .inl (kD, 262144, .inl fd)), (asu, .inl (kU, 263169, .inl fu)), (aru, .inl (kR, 2100, .inl fr)), (ast, .inl (kT, 1800, .inl ft)), (afo, .inl (kF, 1800, .inl ff)), (ho9, .inl (kO, 1, .inr (.inl fo)))] ∧ va_S A s.heap H' locs') ?_ ?_
  · skip
    intro H260 locs g' hI
    obtain ⟨fb, ls, rfl, hl, qfb, hP, hD, hS⟩ := hI
    refine lv_aload_n hx hb d_law_260 rfl (lv_at hl 3 rfl) ?_
    have hPc := hP.sub (ws' := [(hf, .inr (4, [.ref hq, .ref hp, .ref hst, .ref hld])), (hp, .inr (0, [.int pw, .int ph, .ref hw, .ref hs, .int psr])), (hw, .inl (kW, 4096, .inr (.inl fw))), (hs, .inl (kS, 263169, .inl fs)), (ho9, .inl (kO, 1, .inr (.inl fo)))]) [0, 2, 3, 4, 19] rfl
    have hKc := hK.sub (tys' := [(kW, .long), (kS, .int), (kO, .long)]) [0, 1, 13] rfl
    have hDc := hD.sub (ws' := [(hf, .inr (4, [.ref hq, .ref hp, .ref hst, .ref hld])), (hp, .inr (0, [.int pw, .int ph, .ref hw, .ref hs, .int psr])), (hw, .inl (kW, 4096, .inr (.inl fw))), (hs, .inl (kS, 263169, .inl fs)), (ho9, .inl (kO, 1, .inr (.inl fo)))]) [0, 2, 3, 4, 19] (by decide) rfl
    have hFc := va_free (wc := [(hf, .inr (4, [.ref hq, .ref hp, .ref hst, .ref hld])), (hp, .inr (0, [.int pw, .int ph, .ref hw, .ref hs, .int psr])), (hw, .inl (kW, 4096, .inr (.inl fw))), (hs, .inl (kS, 263169, .inl fs)), (ho9, .inl (kO, 1, .inr (.inl fo)))]) hD hS hA [0, 2, 3, 4, 19] rfl
    have hTzc := tZ.sub hTz hS hFc
    refine va_calli (vx_runSW (As := [.ref hf, .int v227, .int v233, .int v239, .int v245, .int fb, .ref ho9]) (rest := []) ⟨hx, hb, hml, hown, hts⟩ (l_fill l dC dI H260.size hl9 hf hq hst hld hp hw hs kW kS pw ph psr fw fs Wd Ht D hS0.1.1 hS0.1.2.1 hS0.2.1.1 hS0.2.1.2.1 hS0.2.1.2.2.1 hS0.2.1.2.2.2 hS0.2.2.1 hS0.2.2.2.2.1 psr.toInt rfl hS0.2.2.2.2.2.1.1 hS0.2.2.2.2.2.1.2 hS0.2.2.2.2.2.2.1 v227 v233 v239 v245 fb v227.toInt v233.toInt v239.toInt v245.toInt (decide (v251.toInt ≠ 0)) rfl rfl rfl rfl qfb ho9 kO fo) (aw_SW 7 hts wd_260 wd_261 wd_0 wd_262 rfl rfl (by decide +kernel) ⟨Nat.le_of_ble_eq_true rfl, Nat.le_of_ble_eq_true rfl⟩) ⟨tB_blind, tB_pre hPc hKc hDc hTx hTr hTzc⟩ rfl rfl hl.1 rfl (lv_room (Nat.le_of_ble_eq_true rfl)) d_law_261 ⟨by show _ ≤ 601024; omega, by show _ ≤ 7293034; omega⟩) hS (fun q _ h => hFc q h) hFc (fun v261 u t9 H261 locs ht hvm h261 hB hz1 hk1 hS => ?_)
    obtain ⟨u261_fw, u261_sr, u261_fo⟩ := u
    obtain ⟨hP1, hK1, hD1⟩ := hB
    rw [ht] at hP1
    try dsimp only at h261 hP1 hD1
    obtain ⟨hP, hD⟩ := va_join (wr := [(hq, .inr (3, [.ref hp, .ref hst, .int lim, .int thd, .int md, .int sz0, .int tm, .int tx, .int ty, .int sx, .int sy, .ref hqf, .ref hkn, .int stp])), (hst, .inr (2, [.ref ak, .ref ar, .int cnt])), (ak, .inl (cK, 300, .inl kf)), (ar, .inl (cR, 300, .inl wf)), (hqf, .inl (cQ, 4, .inl qf)), (hkn, .inl (cN, 262144, .inr (.inl kn))), (hld, .inr (2, [.ref bk, .ref br, .int cnt2])), (bk, .inl (dK, 300, .inl kg)), (br, .inl (dR, 300, .inl wg)), (mo, .inr (5, [.int mth, .int mw, .int mh, .ref ad, .ref asu, .ref aru, .int mro, .ref ast, .int msd, .ref afo, .int mmn])), (ad, .inl (kD, 262144, .inl fd)), (asu, .inl (kU, 263169, .inl fu)), (aru, .inl (kR, 2100, .inl fr)), (ast, .inl (kT, 1800, .inl ft)), (afo, .inl (kF, 1800, .inl ff))]) (w1 := [(hf, .inr (4, [.ref hq, .ref hp, .ref hst, .ref hld])), (hp, .inr (0, [.int pw, .int ph, .ref hw, .ref hs, .int u261_sr])), (hw, .inl (kW, 4096, .inr (.inl u261_fw))), (hs, .inl (kS, 263169, .inl fs)), (ho9, .inl (kO, 1, .inr (.inl u261_fo)))]) hP hD [0, 2, 3, 4, 19] [1, 5, 6, 7, 8, 9, 10, 11, 12, 13, 14, 15, 16, 17, 18] rfl rfl (by decide) (by decide) hk1 hFc hP1 hD1
    have hP := hP.sub (ws' := [(hf, .inr (4, [.ref hq, .ref hp, .ref hst, .ref hld])), (hq, .inr (3, [.ref hp, .ref hst, .int lim, .int thd, .int md, .int sz0, .int tm, .int tx, .int ty, .int sx, .int sy, .ref hqf, .ref hkn, .int stp])), (hp, .inr (0, [.int pw, .int ph, .ref hw, .ref hs, .int u261_sr])), (hw, .inl (kW, 4096, .inr (.inl u261_fw))), (hs, .inl (kS, 263169, .inl fs)), (hst, .inr (2, [.ref ak, .ref ar, .int cnt])), (ak, .inl (cK, 300, .inl kf)), (ar, .inl (cR, 300, .inl wf)), (hqf, .inl (cQ, 4, .inl qf)), (hkn, .inl (cN, 262144, .inr (.inl kn))), (hld, .inr (2, [.ref bk, .ref br, .int cnt2])), (bk, .inl (dK, 300, .inl kg)), (br, .inl (dR, 300, .inl wg)), (mo, .inr (5, [.int mth, .int mw, .int mh, .ref ad, .ref asu, .ref aru, .int mro, .ref ast, .int msd, .ref afo, .int mmn])), (ad, .inl (kD, 262144, .inl fd)), (asu, .inl (kU, 263169, .inl fu)), (aru, .inl (kR, 2100, .inl fr)), (ast, .inl (kT, 1800, .inl ft)), (afo, .inl (kF, 1800, .inl ff)), (ho9, .inl (kO, 1, .inr (.inl u261_fo)))]) [15, 0, 16, 17, 18, 1, 2, 3, 4, 5, 6, 7, 8, 9, 10, 11, 12, 13, 14, 19] rfl
    have hD := hD.sub (ws' := [(hf, .inr (4, [.ref hq, .ref hp, .ref hst, .ref hld])), (hq, .inr (3, [.ref hp, .ref hst, .int lim, .int thd, .int md, .int sz0, .int tm, .int tx, .int ty, .int sx, .int sy, .ref hqf, .ref hkn, .int stp])), (hp, .inr (0, [.int pw, .int ph, .ref hw, .ref hs, .int u261_sr])), (hw, .inl (kW, 4096, .inr (.inl u261_fw))), (hs, .inl (kS, 263169, .inl fs)), (hst, .inr (2, [.ref ak, .ref ar, .int cnt])), (ak, .inl (cK, 300, .inl kf)), (ar, .inl (cR, 300, .inl wf)), (hqf, .inl (cQ, 4, .inl qf)), (hkn, .inl (cN, 262144, .inr (.inl kn))), (hld, .inr (2, [.ref bk, .ref br, .int cnt2])), (bk, .inl (dK, 300, .inl kg)), (br, .inl (dR, 300, .inl wg)), (mo, .inr (5, [.int mth, .int mw, .int mh, .ref ad, .ref asu, .ref aru, .int mro, .ref ast, .int msd, .ref afo, .int mmn])), (ad, .inl (kD, 262144, .inl fd)), (asu, .inl (kU, 263169, .inl fu)), (aru, .inl (kR, 2100, .inl fr)), (ast, .inl (kT, 1800, .inl ft)), (afo, .inl (kF, 1800, .inl ff)), (ho9, .inl (kO, 1, .inr (.inl u261_fo)))]) [15, 0, 16, 17, 18, 1, 2, 3, 4, 5, 6, 7, 8, 9, 10, 11, 12, 13, 14, 19] (by decide) rfl
    clear hPc hKc hDc hFc hTzc ht hvm hz1 hk1 hP1 hD1 hK1
    refine lv_istore (lv' := [(5, .int v261), (0, .ref b), (1, .ref hf), (2, .ref mo), (3, .ref ho9), (4, .int iv)]) hx hb d_law_264 hl (by decide) rfl (fun ls hl => ?_)
    refine lv_aload_n hx hb d_law_266 rfl (lv_at hl 3 rfl) ?_
    refine lv_aload_n hx hb d_law_267 rfl (lv_at hl 1 rfl) ?_
    refine lv_iload hx hb d_law_268 (lv_at hl 5 rfl) ?_
    refine lv_iconst (v := 1) hx hb d_law_270 (by decide) ?_
    refine lv_iadd hx hb d_law_271 ?_
    refine lv_topi (fun v271 e271 => ?_)
    have h271 : v271.toInt = zi + 1 := by rw [e271]; exact ti_add hiv (ti_k (by decide)) (by omega) (by omega)
    have q271 : v226 = v271 := by rw [e226, e271]
    subst q271
    have in272 : vp_in v226 L := vi_in h271 (by omega) (by omega)
    refine va_sld hx hb hX hbl hbA hS in272 d_law_272 ?_
    refine lv_topi (fun v272 e272 => ?_)
    have q272 : v227 = v272 := by rw [e227, e272]
    subst q272
    refine lv_aload_n hx hb d_law_273 rfl (lv_at hl 1 rfl) ?_
    refine lv_iload hx hb d_law_274 (lv_at hl 5 rfl) ?_
    refine lv_iconst (v := 2) hx hb d_law_276 (by decide) ?_
    refine lv_iadd hx hb d_law_277 ?_
    refine lv_topi (fun v277 e277 => ?_)
    have h277 : v277.toInt = zi + 2 := by rw [e277]; exact ti_add hiv (ti_k (by decide)) (by omega) (by omega)
    have q277 : v232 = v277 := by rw [e232, e277]
    subst q277
    have in278 : vp_in v232 L := vi_in h277 (by omega) (by omega)
    refine va_sld hx hb hX hbl hbA hS in278 d_law_278 ?_
    refine lv_topi (fun v278 e278 => ?_)
    have q278 : v233 = v278 := by rw [e233, e278]
    subst q278
    refine lv_aload_n hx hb d_law_279 rfl (lv_at hl 1 rfl) ?_
    refine lv_iload hx hb d_law_280 (lv_at hl 5 rfl) ?_
    refine lv_iconst (v := 3) hx hb d_law_282 (by decide) ?_
    refine lv_iadd hx hb d_law_283 ?_
    refine lv_topi (fun v283 e283 => ?_)
    have h283 : v283.toInt = zi + 3 := by rw [e283]; exact ti_add hiv (ti_k (by decide)) (by omega) (by omega)
    have q283 : v238 = v283 := by rw [e238, e283]
    subst q283
    have in284 : vp_in v238 L := vi_in h283 (by omega) (by omega)
    refine va_sld hx hb hX hbl hbA hS in284 d_law_284 ?_
    refine lv_topi (fun v284 e284 => ?_)
    have q284 : v239 = v284 := by rw [e239, e284]
    subst q284
    refine lv_aload_n hx hb d_law_285 rfl (lv_at hl 1 rfl) ?_
    refine lv_iload hx hb d_law_286 (lv_at hl 5 rfl) ?_
    refine lv_iconst (v := 4) hx hb d_law_288 (by decide) ?_
    refine lv_iadd hx hb d_law_289 ?_
    refine lv_topi (fun v289 e289 => ?_)
    have h289 : v289.toInt = zi + 4 := by rw [e289]; exact ti_add hiv (ti_k (by decide)) (by omega) (by omega)
    have q289 : v244 = v289 := by rw [e244, e289]
    subst q289
    have in290 : vp_in v244 L := vi_in h289 (by omega) (by omega)
    refine va_sld hx hb hX hbl hbA hS in290 d_law_290 ?_
    refine lv_topi (fun v290 e290 => ?_)
    have q290 : v245 = v290 := by rw [e245, e290]
    subst q290
    refine lv_aload_n hx hb d_law_291 rfl (lv_at hl 1 rfl) ?_
    refine lv_iload hx hb d_law_292 (lv_at hl 5 rfl) ?_
    refine lv_iconst (v := 5) hx hb d_law_294 (by decide) ?_
    refine lv_iadd hx hb d_law_295 ?_
    refine lv_topi (fun v295 e295 => ?_)
    have h295 : v295.toInt = zi + 5 := by rw [e295]; exact ti_add hiv (ti_k (by decide)) (by omega) (by omega)
    have q295 : v250 = v295 := by rw [e250, e295]
    subst q295
    have in296 : vp_in v250 L := vi_in h295 (by omega) (by omega)
    refine va_sld hx hb hX hbl hbA hS in296 d_law_296 ?_
    refine lv_topi (fun v296 e296 => ?_)
    have q296 : v251 = v296 := by rw [e251, e296]
    subst q296
    refine w_cut (I := fun H' locs' g' => ∃ (fc : Int32) (ls : Array Slot), g' = F0 m 305 ls [.int fc, .int v245, .int v239, .int v233, .int v227, .ref mo] ∧ lv_has ls 8 [(0, .ref b), (1, .ref hf), (2, .ref mo), (3, .ref ho9), (4, .int iv), (5, .int v261)] ∧ (fc = zb (decide (v251.toInt ≠ 0))) ∧ va_P (dC, dI) vwCl [(hf, .inr (4, [.ref hq, .ref hp, .ref hst, .ref hld])), (hq, .inr (3, [.ref hp, .ref hst, .int lim, .int thd, .int md, .int sz0, .int tm, .int tx, .int ty, .int sx, .int sy, .ref hqf, .ref hkn, .int stp])), (hp, .inr (0, [.int pw, .int ph, .ref hw, .ref hs, .int u261_sr])), (hw, .inl (kW, 4096, .inr (.inl u261_fw))), (hs, .inl (kS, 263169, .inl fs)), (hst, .inr (2, [.ref ak, .ref ar, .int cnt])), (ak, .inl (cK, 300, .inl kf)), (ar, .inl (cR, 300, .inl wf)), (hqf, .inl (cQ, 4, .inl qf)), (hkn, .inl (cN, 262144, .inr (.inl kn))), (hld, .inr (2, [.ref bk, .ref br, .int cnt2])), (bk, .inl (dK, 300, .inl kg)), (br, .inl (dR, 300, .inl wg)), (mo, .inr (5, [.int mth, .int mw, .int mh, .ref ad, .ref asu, .ref aru, .int mro, .ref ast, .int msd, .ref afo, .int mmn])), (ad, .inl (kD, 262144, .inl fd)), (asu, .inl (kU, 263169, .inl fu)), (aru, .inl (kR, 2100, .inl fr)), (ast, .inl (kT, 1800, .inl ft)), (afo, .inl (kF, 1800, .inl ff)), (ho9, .inl (kO, 1, .inr (.inl u261_fo)))] H' ∧ va_D A [(hf, .inr (4, [.ref hq, .ref hp, .ref hst, .ref hld])), (hq, .inr (3, [.ref hp, .ref hst, .int lim, .int thd, .int md, .int sz0, .int tm, .int tx, .int ty, .int sx, .int sy, .ref hqf, .ref hkn, .int stp])), (hp, .inr (0, [.int pw, .int ph, .ref hw, .ref hs, .int u261_sr])), (hw, .inl (kW, 4096, .inr (.inl u261_fw))), (hs, .inl (kS, 263169, .inl fs)), (hst, .inr (2, [.ref ak, .ref ar, .int cnt])), (ak, .inl (cK, 300, .inl kf)), (ar, .inl (cR, 300, .inl wf)), (hqf, .inl (cQ, 4, .inl qf)), (hkn, .inl (cN, 262144, .inr (.inl kn))), (hld, .inr (2, [.ref bk, .ref br, .int cnt2])), (bk, .inl (dK, 300, .inl kg)), (br, .inl (dR, 300, .inl wg)), (mo, .inr (5, [.int mth, .int mw, .int mh, .ref ad, .ref asu, .ref aru, .int mro, .ref ast, .int msd, .ref afo, .int mmn])), (ad, .inl (kD, 262144, .inl fd)), (asu, .inl (kU, 263169, .inl fu)), (aru, .inl (kR, 2100, .inl fr)), (ast, .inl (kT, 1800, .inl ft)), (afo, .inl (kF, 1800, .inl ff)), (ho9, .inl (kO, 1, .inr (.inl u261_fo)))] ∧ va_S A s.heap H' locs') ?_ ?_
    · skip
      intro H305 locs g' hI
      obtain ⟨fc, ls, rfl, hl, qfc, hP, hD, hS⟩ := hI
      have hPc := hP.sub (ws' := [(mo, .inr (5, [.int mth, .int mw, .int mh, .ref ad, .ref asu, .ref aru, .int mro, .ref ast, .int msd, .ref afo, .int mmn])), (ad, .inl (kD, 262144, .inl fd))]) [13, 14] rfl
      have hKc := hK.sub (tys' := [(kD, .boolean)]) [8] rfl
      have hDc := hD.sub (ws' := [(mo, .inr (5, [.int mth, .int mw, .int mh, .ref ad, .ref asu, .ref aru, .int mro, .ref ast, .int msd, .ref afo, .int mmn])), (ad, .inl (kD, 262144, .inl fd))]) [13, 14] (by decide) rfl
      have hFc := va_free (wc := [(mo, .inr (5, [.int mth, .int mw, .int mh, .ref ad, .ref asu, .ref aru, .int mro, .ref ast, .int msd, .ref afo, .int mmn])), (ad, .inl (kD, 262144, .inl fd))]) hD hS hA [13, 14] rfl
      refine va_calli (va_runV (As := [.int v227, .int v233, .int v239, .int v245, .int fc]) (rest := []) ⟨hx, hb, hml, hown, hts⟩ (m_fill l dC dI H305.size mo ad asu aru ast afo mth mw mh mro msd mmn Wd Ht hS0.1.2.2.1 hS0.1.2.2.2 hS0.2.1.1 hS0.2.1.2.1 hS0.2.1.2.2.1 hS0.2.1.2.2.2 kD fd D hS0.2.2.2.1 v227 v233 v239 v245 fc v227.toInt v233.toInt v239.toInt v245.toInt (decide (v251.toInt ≠ 0)) rfl rfl rfl rfl qfc) (aw_V 5 hts wd_624 wd_625 wd_626 wd_5 wd_627 rfl rfl (by decide +kernel) ⟨Nat.le_of_ble_eq_true rfl, Nat.le_of_ble_eq_true rfl⟩) ⟨rw_blind, va_recv hKc hPc (ci := 5) (q0 := 0) rfl rfl, rw_pre hPc hKc hDc⟩ rfl rfl hl.1 rfl (lv_room (Nat.le_of_ble_eq_true rfl)) d_law_305 ⟨by show _ ≤ 601024; omega, by show _ ≤ 7293034; omega⟩) hS (fun q _ h => hFc q h) hFc (fun v305 u t9 H305 locs ht hvm h305 hB hz1 hk1 hS => ?_)
      obtain ⟨u305_th, u305_fd⟩ := u
      obtain ⟨hP1, hK1, hD1⟩ := hB
      rw [ht] at hP1
      try dsimp only at h305 hP1 hD1
      obtain ⟨hP, hD⟩ := va_join (wr := [(hf, .inr (4, [.ref hq, .ref hp, .ref hst, .ref hld])), (hq, .inr (3, [.ref hp, .ref hst, .int lim, .int thd, .int md, .int sz0, .int tm, .int tx, .int ty, .int sx, .int sy, .ref hqf, .ref hkn, .int stp])), (hp, .inr (0, [.int pw, .int ph, .ref hw, .ref hs, .int u261_sr])), (hw, .inl (kW, 4096, .inr (.inl u261_fw))), (hs, .inl (kS, 263169, .inl fs)), (hst, .inr (2, [.ref ak, .ref ar, .int cnt])), (ak, .inl (cK, 300, .inl kf)), (ar, .inl (cR, 300, .inl wf)), (hqf, .inl (cQ, 4, .inl qf)), (hkn, .inl (cN, 262144, .inr (.inl kn))), (hld, .inr (2, [.ref bk, .ref br, .int cnt2])), (bk, .inl (dK, 300, .inl kg)), (br, .inl (dR, 300, .inl wg)), (asu, .inl (kU, 263169, .inl fu)), (aru, .inl (kR, 2100, .inl fr)), (ast, .inl (kT, 1800, .inl ft)), (afo, .inl (kF, 1800, .inl ff)), (ho9, .inl (kO, 1, .inr (.inl u261_fo)))]) (w1 := [(mo, .inr (5, [.int u305_th, .int mw, .int mh, .ref ad, .ref asu, .ref aru, .int mro, .ref ast, .int msd, .ref afo, .int mmn])), (ad, .inl (kD, 262144, .inl u305_fd))]) hP hD [13, 14] [0, 1, 2, 3, 4, 5, 6, 7, 8, 9, 10, 11, 12, 15, 16, 17, 18, 19] rfl rfl (by decide) (by decide) hk1 hFc hP1 hD1
      have hP := hP.sub (ws' := [(hf, .inr (4, [.ref hq, .ref hp, .ref hst, .ref hld])), (hq, .inr (3, [.ref hp, .ref hst, .int lim, .int thd, .int md, .int sz0, .int tm, .int tx, .int ty, .int sx, .int sy, .ref hqf, .ref hkn, .int stp])), (hp, .inr (0, [.int pw, .int ph, .ref hw, .ref hs, .int u261_sr])), (hw, .inl (kW, 4096, .inr (.inl u261_fw))), (hs, .inl (kS, 263169, .inl fs)), (hst, .inr (2, [.ref ak, .ref ar, .int cnt])), (ak, .inl (cK, 300, .inl kf)), (ar, .inl (cR, 300, .inl wf)), (hqf, .inl (cQ, 4, .inl qf)), (hkn, .inl (cN, 262144, .inr (.inl kn))), (hld, .inr (2, [.ref bk, .ref br, .int cnt2])), (bk, .inl (dK, 300, .inl kg)), (br, .inl (dR, 300, .inl wg)), (mo, .inr (5, [.int u305_th, .int mw, .int mh, .ref ad, .ref asu, .ref aru, .int mro, .ref ast, .int msd, .ref afo, .int mmn])), (ad, .inl (kD, 262144, .inl u305_fd)), (asu, .inl (kU, 263169, .inl fu)), (aru, .inl (kR, 2100, .inl fr)), (ast, .inl (kT, 1800, .inl ft)), (afo, .inl (kF, 1800, .inl ff)), (ho9, .inl (kO, 1, .inr (.inl u261_fo)))]) [0, 1, 2, 3, 4, 5, 6, 7, 8, 9, 10, 11, 12, 18, 19, 13, 14, 15, 16, 17] rfl
      have hD := hD.sub (ws' := [(hf, .inr (4, [.ref hq, .ref hp, .ref hst, .ref hld])), (hq, .inr (3, [.ref hp, .ref hst, .int lim, .int thd, .int md, .int sz0, .int tm, .int tx, .int ty, .int sx, .int sy, .ref hqf, .ref hkn, .int stp])), (hp, .inr (0, [.int pw, .int ph, .ref hw, .ref hs, .int u261_sr])), (hw, .inl (kW, 4096, .inr (.inl u261_fw))), (hs, .inl (kS, 263169, .inl fs)), (hst, .inr (2, [.ref ak, .ref ar, .int cnt])), (ak, .inl (cK, 300, .inl kf)), (ar, .inl (cR, 300, .inl wf)), (hqf, .inl (cQ, 4, .inl qf)), (hkn, .inl (cN, 262144, .inr (.inl kn))), (hld, .inr (2, [.ref bk, .ref br, .int cnt2])), (bk, .inl (dK, 300, .inl kg)), (br, .inl (dR, 300, .inl wg)), (mo, .inr (5, [.int u305_th, .int mw, .int mh, .ref ad, .ref asu, .ref aru, .int mro, .ref ast, .int msd, .ref afo, .int mmn])), (ad, .inl (kD, 262144, .inl u305_fd)), (asu, .inl (kU, 263169, .inl fu)), (aru, .inl (kR, 2100, .inl fr)), (ast, .inl (kT, 1800, .inl ft)), (afo, .inl (kF, 1800, .inl ff)), (ho9, .inl (kO, 1, .inr (.inl u261_fo)))]) [0, 1, 2, 3, 4, 5, 6, 7, 8, 9, 10, 11, 12, 18, 19, 13, 14, 15, 16, 17] (by decide) rfl
      clear hPc hKc hDc hFc ht hvm hz1 hk1 hP1 hD1 hK1
      obtain ⟨hth, hk, D9, i1⟩ := st_fill hS0 h261 h305
      refine lv_istore (lv' := [(6, .int v305), (0, .ref b), (1, .ref hf), (2, .ref mo), (3, .ref ho9), (4, .int iv), (5, .int v261)]) hx hb d_law_308 hl (by decide) rfl (fun ls hl => ?_)
      refine lv_aload_n hx hb d_law_310 rfl (lv_at hl 3 rfl) ?_
      have hPc := hP.sub (ws' := [(mo, .inr (5, [.int u305_th, .int mw, .int mh, .ref ad, .ref asu, .ref aru, .int mro, .ref ast, .int msd, .ref afo, .int mmn]))]) [13] rfl
      have hKc := hK.sub (tys' := []) [] rfl
      refine va_calli (va_runV (As := []) (rest := []) ⟨hx, hb, hml, hown, hts⟩ (m_thrown l dC dI mo ad asu aru ast afo u305_th mw mh mro msd mmn) (aw_V 0 hts wd_600 wd_601 wd_602 wd_5 wd_603 rfl rfl (by decide +kernel) ⟨Nat.le_of_ble_eq_true rfl, Nat.le_of_ble_eq_true rfl⟩) ⟨ro_blind, va_recv hKc hPc (ci := 5) (q0 := 0) rfl rfl, ro_pre hPc hKc⟩ rfl rfl hl.1 rfl (lv_room (Nat.le_of_ble_eq_true rfl)) d_law_311 ⟨by show _ ≤ 601024; omega, by show _ ≤ 7293034; omega⟩) hS (fun q _ h => h.elim) (fun q h => h.elim) (fun v311 _ t9 H311 locs ht hvm h311 hB hz1 hk1 hS => ?_)
      have hP := ro_keep hP hk1
      clear hPc hKc ht hvm hB hz1 hk1
      refine lv_iload hx hb d_law_314 (lv_at hl 6 rfl) ?_
      refine lv_icmp_eq (tgt := 321) hx hb d_law_316 (by decide) (fun c316 => ?_) (fun c316 => ?_)
      · skip
        refine lv_iload hx hb d_law_321 (lv_at hl 6 rfl) ?_
        refine lv_if_ne (tgt := 338) hx hb d_law_323 (by decide) (fun c323 => ?_) (fun c323 => ?_)
        · skip
          have c323 : ¬ (v261.toInt = 0) := fun q => c323 ((ti_eq rfl (ti_k (by decide))).mpr q)
          refine lv_goto (tgt := 699) hx hb d_law_338 (by decide) ?_
          exact kk _ _ _ _ _ _ pw ph u261_sr lim thd md sz0 tm tx ty sx sy stp cnt cnt2 u305_th mw mh mro msd mmn u261_fw kn u261_fo fs kf wf qf kg wg u305_fd fu fr ft ff (lv_sub hl [1, 2, 3, 4, 5] rfl) i1 (iN_s hN0) hV0 hP hD hS
        · skip
          have c323 : v261.toInt = 0 := (ti_eq rfl (ti_k (by decide))).mp c323
          refine lv_aload_n hx hb d_law_326 rfl (lv_at hl 4 rfl) ?_
          refine lv_iconst (v := 0) hx hb d_law_327 (by decide) ?_
          have in328 : vp_in (0 : Int32) 1 := vi_in (show (0 : Int32).toInt = (0 : Int) by decide) (by omega) (by omega)
          refine va_lald hx hb hK hP 19 13 rfl rfl in328 d_law_328 ?_
          refine lv_topl (fun v328 e328 => ?_)
          have e328 : v328 = u261_fo ((0 : Int)).toNat := by rw [e328, vi_cl (show (0 : Int32).toInt = (0 : Int) by decide)]
          refine lv_iload hx hb d_law_329 (lv_at hl 0 rfl) ?_
          refine lv_i2l hx hb d_law_331 rfl ?_
          refine lv_topl (fun v331 e331 => ?_)
          have h331 : v331.toInt = v305.toInt := by rw [e331]; exact tl_i2l rfl
          refine W.lcmp hx hb d_law_332 ?_
          refine lv_topi (fun v332 e332 => ?_)
          have h332 : v332.toInt = (if v305.toInt < v328.toInt then 1 else if v328.toInt = v305.toInt then 0 else -1) := by rw [e332]; exact tl_cmp rfl h331
          refine lv_if_eq (tgt := 338) hx hb d_law_333 (by decide) (fun c333 => ?_) (fun c333 => ?_)
          · skip
            have c333 : (if v305.toInt < v328.toInt then 1 else if v328.toInt = v305.toInt then 0 else -1) = 0 := (ti_eq h332 (ti_k (by decide))).mp c333
            refine lv_goto (tgt := 699) hx hb d_law_338 (by decide) ?_
            exact kk _ _ _ _ _ _ pw ph u261_sr lim thd md sz0 tm tx ty sx sy stp cnt cnt2 u305_th mw mh mro msd mmn u261_fw kn u261_fo fs kf wf qf kg wg u305_fd fu fr ft ff (lv_sub hl [1, 2, 3, 4, 5] rfl) i1 (iN_s hN0) hV0 hP hD hS
          · skip
            have c333 : ¬ ((if v305.toInt < v328.toInt then 1 else if v328.toInt = v305.toInt then 0 else -1) = 0) := fun q => c333 ((ti_eq h332 (ti_k (by decide))).mpr q)
            exact absurd (lc0 (show v328.toInt = v305.toInt by rw [show v328 = v305.toInt64 from e328.trans (hk ((ti_eq rfl (show (0 : Int32).toInt = 0 by decide)).mpr c323)), ← e331]; exact h331)) c333
      · skip
        exact absurd (h311.trans hth) c316
    · skip
      intro hj305
      refine lv_if_eq (tgt := 304) hx hb d_law_297 (by decide) (fun c297 => ?_) (fun c297 => ?_)
      · skip
        have c297 : v251.toInt = 0 := (ti_eq rfl (ti_k (by decide))).mp c297
        refine lv_iconst (v := 0) hx hb d_law_304 (by decide) ?_
        exact hj305 _ _ _ ⟨0, ls, rfl, lv_sub hl [1, 2, 3, 4, 5, 0] rfl, by first | (rw [decide_eq_true c297]; rfl) | (rw [decide_eq_false (fun q => q c297)]; rfl), hP, hD, hS⟩
      · skip
        have c297 : ¬ (v251.toInt = 0) := fun q => c297 ((ti_eq rfl (ti_k (by decide))).mpr q)
        refine lv_iconst (v := 1) hx hb d_law_300 (by decide) ?_
        refine lv_goto (tgt := 305) hx hb d_law_301 (by decide) ?_
        exact hj305 _ _ _ ⟨1, ls, rfl, lv_sub hl [1, 2, 3, 4, 5, 0] rfl, by first | (rw [decide_eq_true c297]; rfl) | (rw [decide_eq_false (fun q => q c297)]; rfl), hP, hD, hS⟩
  · skip
    intro hj260
    refine lv_if_eq (tgt := 259) hx hb d_law_252 (by decide) (fun c252 => ?_) (fun c252 => ?_)
    · skip
      have c252 : v251.toInt = 0 := (ti_eq rfl (ti_k (by decide))).mp c252
      refine lv_iconst (v := 0) hx hb d_law_259 (by decide) ?_
      exact hj260 _ _ _ ⟨0, ls, rfl, lv_sub hl [0, 1, 2, 3, 4] rfl, by first | (rw [decide_eq_true c252]; rfl) | (rw [decide_eq_false (fun q => q c252)]; rfl), hP, hD, hS⟩
    · skip
      have c252 : ¬ (v251.toInt = 0) := fun q => c252 ((ti_eq rfl (ti_k (by decide))).mpr q)
      refine lv_iconst (v := 1) hx hb d_law_255 (by decide) ?_
      refine lv_goto (tgt := 260) hx hb d_law_256 (by decide) ?_
      exact hj260 _ _ _ ⟨1, ls, rfl, lv_sub hl [0, 1, 2, 3, 4] rfl, by first | (rw [decide_eq_true c252]; rfl) | (rw [decide_eq_false (fun q => q c252)]; rfl), hP, hD, hS⟩
