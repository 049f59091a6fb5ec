set_option maxHeartbeats 4000000 in
set_option maxRecDepth 100000 in
theorem law_c1 {p : Program} {e : Env} {s : State} {m : MethodId} {below : List Frame} {meth : Method} {c : Code} {QQ : State → Prop} {A : Nat → Prop} {b L : Nat} {xs : Nat → Int32} (l : Launch) (dC : Nat → ClassId) (dI : Nat → Nat → Nat) (hl9 : l.stackTraces = false) (kW kS cK cR cQ cN dK dR kD kU kR kT kF kO : ClassId) (hfix : CallFix p m c code 8 s #[Value.ref b] allw R_Law) (hK : va_K (dC, dI) vwCl [(kW, .long), (kS, .int), (cK, .int), (cR, .int), (cQ, .int), (cN, .long), (dK, .int), (dR, .int), (kD, .boolean), (kU, .int), (kR, .int), (kT, .int), (kF, .int), (kO, .long)] s) (hA : ∀ q : Nat, s.heap.size ≤ q → A q) (hX : va_X b L xs s s.heap) (hbl : b < s.heap.size) (hbA : ¬ A b) (hTz : tZ A s s.heap) (hf hq hp hw hs hst ak ar hqf hkn hld bk br mo ad asu aru ast afo ho9 : Nat) (Wd Ht n9 : Int) (D : Int → Int → Bool) (pw ph psr lim thd md sz0 tm tx ty sx sy stp cnt cnt2 mth mw mh mro msd mmn : Int32) (fw kn fo : Nat → Int64) (fs kf wf qf kg wg fd fu fr ft ff : Nat → Int32) (kc ns : Nat) (hkc : kc + 1 ≤ 601024) (hns : ns + 6 ≤ 7293034) (hn9 : 0 ≤ n9 ∧ n9 < 512) (iv : Int32) (zi : Int) (hiv : iv.toInt = zi) (hzi : 0 ≤ zi ∧ zi + 6 ≤ L) (hL : L ≤ 3072) (hS0 : iS Wd Ht D pw ph psr mw mh fw fs fd fu) (hN0 : iN n9 sz0 stp kn) (hV0 : iV Wd Ht cnt cnt2 msd mmn kg wg ff) (H : Heap) (locs : List Loc) (ls : Array Slot) (hl : lv_has ls 8 [(0, .ref b), (1, .ref hf), (2, .ref mo), (3, .ref ho9), (4, .int iv)]) (hP : va_P (dC, dI) vwCl [(hf, .inr (4, [.ref hq, .ref hp, .ref hst, .ref hld])), (hq, .inr (3, [.ref hp, .ref hst, .int lim, .int thd, .int md, .int sz0, .int tm, .int tx, .int ty, .int sx, .int sy, .ref hqf, .ref hkn, .int stp])), (hp, .inr (0, [.int pw, .int ph, .ref hw, .ref hs, .int psr])), (hw, .inl (kW, 4096, .inr (.inl fw))), (hs, .inl (kS, 263169, .inl fs)), (hst, .inr (2, [.ref ak, .ref ar, .int cnt])), (ak, .inl (cK, 300, .inl kf)), (ar, .inl (cR, 300, .inl wf)), (hqf, .inl (cQ, 4, .inl qf)), (hkn, .inl (cN, 262144, .inr (.inl kn))), (hld, .inr (2, [.ref bk, .ref br, .int cnt2])), (bk, .inl (dK, 300, .inl kg)), (br, .inl (dR, 300, .inl wg)), (mo, .inr (5, [.int mth, .int mw, .int mh, .ref ad, .ref asu, .ref aru, .int mro, .ref ast, .int msd, .ref afo, .int mmn])), (ad, .inl (kD, 262144, .inl fd)), (asu, .inl (kU, 263169, .inl fu)), (aru, .inl (kR, 2100, .inl fr)), (ast, .inl (kT, 1800, .inl ft)), (afo, .inl (kF, 1800, .inl ff)), (ho9, .inl (kO, 1, .inr (.inl fo)))] H) (hD : va_D A [(hf, .inr (4, [.ref hq, .ref hp, .ref hst, .ref hld])), (hq, .inr (3, [.ref hp, .ref hst, .int lim, .int thd, .int md, .int sz0, .int tm, .int tx, .int ty, .int sx, .int sy, .ref hqf, .ref hkn, .int stp])), (hp, .inr (0, [.int pw, .int ph, .ref hw, .ref hs, .int psr])), (hw, .inl (kW, 4096, .inr (.inl fw))), (hs, .inl (kS, 263169, .inl fs)), (hst, .inr (2, [.ref ak, .ref ar, .int cnt])), (ak, .inl (cK, 300, .inl kf)), (ar, .inl (cR, 300, .inl wf)), (hqf, .inl (cQ, 4, .inl qf)), (hkn, .inl (cN, 262144, .inr (.inl kn))), (hld, .inr (2, [.ref bk, .ref br, .int cnt2])), (bk, .inl (dK, 300, .inl kg)), (br, .inl (dR, 300, .inl wg)), (mo, .inr (5, [.int mth, .int mw, .int mh, .ref ad, .ref asu, .ref aru, .int mro, .ref ast, .int msd, .ref afo, .int mmn])), (ad, .inl (kD, 262144, .inl fd)), (asu, .inl (kU, 263169, .inl fu)), (aru, .inl (kR, 2100, .inl fr)), (ast, .inl (kT, 1800, .inl ft)), (afo, .inl (kF, 1800, .inl ff)), (ho9, .inl (kO, 1, .inr (.inl fo)))]) (hS : va_S A s.heap H locs) (kk : ∀ (H9 : Heap) (locs9 : List Loc) (ls9 : Array Slot) (Wd9 Ht9 : Int) (D9 : Int → Int → Bool) (pw9 ph9 psr9 lim9 thd9 md9 sz09 tm9 tx9 ty9 sx9 sy9 stp9 cnt9 cnt29 mth9 mw9 mh9 mro9 msd9 mmn9 : Int32) (fw9 kn9 fo9 : Nat → Int64) (fs9 kf9 wf9 qf9 kg9 wg9 fd9 fu9 fr9 ft9 ff9 : Nat → Int32), lv_has ls9 8 [(0, .ref b), (1, .ref hf), (2, .ref mo), (3, .ref ho9), (4, .int iv)] → iS Wd9 Ht9 D9 pw9 ph9 psr9 mw9 mh9 fw9 fs9 fd9 fu9 → iN (n9 + 1) sz09 stp9 kn9 → iV Wd9 Ht9 cnt9 cnt29 msd9 mmn9 kg9 wg9 ff9 → va_P (dC, dI) vwCl [(hf, .inr (4, [.ref hq, .ref hp, .ref hst, .ref hld])), (hq, .inr (3, [.ref hp, .ref hst, .int lim9, .int thd9, .int md9, .int sz09, .int tm9, .int tx9, .int ty9, .int sx9, .int sy9, .ref hqf, .ref hkn, .int stp9])), (hp, .inr (0, [.int pw9, .int ph9, .ref hw, .ref hs, .int psr9])), (hw, .inl (kW, 4096, .inr (.inl fw9))), (hs, .inl (kS, 263169, .inl fs9)), (hst, .inr (2, [.ref ak, .ref ar, .int cnt9])), (ak, .inl (cK, 300, .inl kf9)), (ar, .inl (cR, 300, .inl wf9)), (hqf, .inl (cQ, 4, .inl qf9)), (hkn, .inl (cN, 262144, .inr (.inl kn9))), (hld, .inr (2, [.ref bk, .ref br, .int cnt29])), (bk, .inl (dK, 300, .inl kg9)), (br, .inl (dR, 300, .inl wg9)), (mo, .inr (5, [.int mth9, .int mw9, .int mh9, .ref ad, .ref asu, .ref aru, .int mro9, .ref ast, .int msd9, .ref afo, .int mmn9])), (ad, .inl (kD, 262144, .inl fd9)), (asu, .inl (kU, 263169, .inl fu9)), (aru, .inl (kR, 2100, .inl fr9)), (ast, .inl (kT, 1800, .inl ft9)), (afo, .inl (kF, 1800, .inl ff9)), (ho9, .inl (kO, 1, .inr (.inl fo9)))] H9 → va_D A [(hf, .inr (4, [.ref hq, .ref hp, .ref hst, .ref hld])), (hq, .inr (3, [.ref hp, .ref hst, .int lim9, .int thd9, .int md9, .int sz09, .int tm9, .int tx9, .int ty9, .int sx9, .int sy9, .ref hqf, .ref hkn, .int stp9])), (hp, .inr (0, [.int pw9, .int ph9, .ref hw, .ref hs, .int psr9])), (hw, .inl (kW, 4096, .inr (.inl fw9))), (hs, .inl (kS, 263169, .inl fs9)), (hst, .inr (2, [.ref ak, .ref ar, .int cnt9])), (ak, .inl (cK, 300, .inl kf9)), (ar, .inl (cR, 300, .inl wf9)), (hqf, .inl (cQ, 4, .inl qf9)), (hkn, .inl (cN, 262144, .inr (.inl kn9))), (hld, .inr (2, [.ref bk, .ref br, .int cnt29])), (bk, .inl (dK, 300, .inl kg9)), (br, .inl (dR, 300, .inl wg9)), (mo, .inr (5, [.int mth9, .int mw9, .int mh9, .ref ad, .ref asu, .ref aru, .int mro9, .ref ast, .int msd9, .ref afo, .int mmn9])), (ad, .inl (kD, 262144, .inl fd9)), (asu, .inl (kU, 263169, .inl fu9)), (aru, .inl (kR, 2100, .inl fr9)), (ast, .inl (kT, 1800, .inl ft9)), (afo, .inl (kF, 1800, .inl ff9)), (ho9, .inl (kO, 1, .inr (.inl fo9)))] → va_S A s.heap H9 locs9 → W p l e room_1 s m #[Value.ref b] below meth c H9 locs9 (kc + 1) (ns + 6) QQ (F0 m 699 ls9 [])) : W p l e room_1 s m #[Value.ref b] below meth c H locs kc ns QQ (F0 m 140 ls []) := by
  obtain ⟨hx, hb, hml, hown, hts⟩ := hfix
  refine lv_aload_n hx hb d_law_140 rfl (lv_at hl 1 rfl) ?_
  refine lv_aload_n hx hb d_law_141 rfl (lv_at hl 0 rfl) ?_
  refine lv_iload hx hb d_law_142 (lv_at hl 4 rfl) ?_
  refine lv_iconst (v := 1) hx hb d_law_144 (by decide) ?_
  refine lv_iadd hx hb d_law_145 ?_
  refine lv_topi (fun v145 e145 => ?_)
  have h145 : v145.toInt = zi + 1 := by rw [e145]; exact ti_add hiv (ti_k (by decide)) (by omega) (by omega)
  have in146 : vp_in v145 L := vi_in h145 (by omega) (by omega)
  refine va_sld hx hb hX hbl hbA hS in146 d_law_146 ?_
  refine lv_topi (fun v146 e146 => ?_)
  refine lv_aload_n hx hb d_law_147 rfl (lv_at hl 0 rfl) ?_
  refine lv_iload hx hb d_law_148 (lv_at hl 4 rfl) ?_
  refine lv_iconst (v := 2) hx hb d_law_150 (by decide) ?_
  refine lv_iadd hx hb d_law_151 ?_
  refine lv_topi (fun v151 e151 => ?_)
  have h151 : v151.toInt = zi + 2 := by rw [e151]; exact ti_add hiv (ti_k (by decide)) (by omega) (by omega)
  have in152 : vp_in v151 L := vi_in h151 (by omega) (by omega)
  refine va_sld hx hb hX hbl hbA hS in152 d_law_152 ?_
  refine lv_topi (fun v152 e152 => ?_)
  refine lv_aload_n hx hb d_law_153 rfl (lv_at hl 0 rfl) ?_
  refine lv_iload hx hb d_law_154 (lv_at hl 4 rfl) ?_
  refine lv_iconst (v := 3) hx hb d_law_156 (by decide) ?_
  refine lv_iadd hx hb d_law_157 ?_
  refine lv_topi (fun v157 e157 => ?_)
  have h157 : v157.toInt = zi + 3 := by rw [e157]; exact ti_add hiv (ti_k (by decide)) (by omega) (by omega)
  have in158 : vp_in v157 L := vi_in h157 (by omega) (by omega)
  refine va_sld hx hb hX hbl hbA hS in158 d_law_158 ?_
  refine lv_topi (fun v158 e158 => ?_)
  refine lv_i2l hx hb d_law_159 rfl ?_
  refine lv_topl (fun v159 e159 => ?_)
  have h159 : v159.toInt = v158.toInt := by rw [e159]; exact tl_i2l rfl
  refine lv_bipush (v := 32) hx hb d_law_160 (by decide) ?_
  refine lv_lshl hx hb d_law_162 rfl ?_
  refine lv_topl (fun v162 e162 => ?_)
  refine lv_aload_n hx hb d_law_163 rfl (lv_at hl 0 rfl) ?_
  refine lv_iload hx hb d_law_164 (lv_at hl 4 rfl) ?_
  refine lv_iconst (v := 4) hx hb d_law_166 (by decide) ?_
  refine lv_iadd hx hb d_law_167 ?_
  refine lv_topi (fun v167 e167 => ?_)
  have h167 : v167.toInt = zi + 4 := by rw [e167]; exact ti_add hiv (ti_k (by decide)) (by omega) (by omega)
  have in168 : vp_in v167 L := vi_in h167 (by omega) (by omega)
  refine va_sld hx hb hX hbl hbA hS in168 d_law_168 ?_
  refine lv_topi (fun v168 e168 => ?_)
  refine lv_i2l hx hb d_law_169 rfl ?_
  refine lv_topl (fun v169 e169 => ?_)
  have h169 : v169.toInt = v168.toInt := by rw [e169]; exact tl_i2l rfl
  refine lv_ldc2 (v := 4294967295) hx hb hown (hts _ wd_721) d_law_170 ?_
  refine lv_land hx hb d_law_173 ?_
  refine lv_topl (fun v173 e173 => ?_)
  refine lv_lor hx hb d_law_174 ?_
  refine lv_topl (fun v174 e174 => ?_)
  have hPc := hP.sub (ws' := [(hf, .inr (4, [.ref hq, .ref hp, .ref hst, .ref hld])), (hp, .inr (0, [.int pw, .int ph, .ref hw, .ref hs, .int psr])), (hw, .inl (kW, 4096, .inr (.inl fw))), (hs, .inl (kS, 263169, .inl fs))]) [0, 2, 3, 4] rfl
  have hKc := hK.sub (tys' := [(kW, .long), (kS, .int)]) [0, 1] rfl
  have hDc := hD.sub (ws' := [(hf, .inr (4, [.ref hq, .ref hp, .ref hst, .ref hld])), (hp, .inr (0, [.int pw, .int ph, .ref hw, .ref hs, .int psr])), (hw, .inl (kW, 4096, .inr (.inl fw))), (hs, .inl (kS, 263169, .inl fs))]) [0, 2, 3, 4] (by decide) rfl
  have hFc := va_free (wc := [(hf, .inr (4, [.ref hq, .ref hp, .ref hst, .ref hld])), (hp, .inr (0, [.int pw, .int ph, .ref hw, .ref hs, .int psr])), (hw, .inl (kW, 4096, .inr (.inl fw))), (hs, .inl (kS, 263169, .inl fs))]) hD hS hA [0, 2, 3, 4] rfl
  refine va_calli (va_runV (As := [.int v146, .int v152, .long v174]) (rest := []) ⟨hx, hb, hml, hown, hts⟩ (c_turn l dC dI H.size hf hq hst hld hp hw hs kW kS pw ph psr fw fs Wd Ht D hS0.1.1 hS0.1.2.1 hS0.2.1.1 hS0.2.1.2.1 hS0.2.1.2.2.1 hS0.2.1.2.2.2 hS0.2.2.1 psr.toInt rfl hS0.2.2.2.2.2.1.1 hS0.2.2.2.2.2.1.2 hS0.2.2.2.2.2.2.1 v146 v152 v174 v146.toInt v152.toInt rfl rfl) (aw_V 3 hts wd_139 wd_140 wd_141 wd_1 wd_142 rfl rfl (by decide +kernel) ⟨Nat.le_of_ble_eq_true rfl, Nat.le_of_ble_eq_true rfl⟩) ⟨rw_blind, va_recv hKc hPc (ci := 4) (q0 := 0) rfl rfl, rw_pre hPc hKc hDc⟩ rfl rfl hl.1 rfl (lv_room (Nat.le_of_ble_eq_true rfl)) d_law_175 ⟨by show _ ≤ 601024; omega, by show _ ≤ 7293034; omega⟩) hS (fun q _ h => hFc q h) hFc (fun v175 u t9 H175 locs ht hvm h175 hB hz1 hk1 hS => ?_)
  obtain ⟨u175_fw, u175_sr⟩ := u
  obtain ⟨hP1, hK1, hD1⟩ := hB
  rw [ht] at hP1
  try dsimp only at h175 hP1 hD1
  obtain ⟨hP, hD⟩ := va_join (wr := [(hq, .inr (3, [.ref hp, .ref hst, .int lim, .int thd, .int md, .int sz0, .int tm, .int tx, .int ty, .int sx, .int sy, .ref hqf, .ref hkn, .int stp])), (hst, .inr (2, [.ref ak, .ref ar, .int cnt])), (ak, .inl (cK, 300, .inl kf)), (ar, .inl (cR, 300, .inl wf)), (hqf, .inl (cQ, 4, .inl qf)), (hkn, .inl (cN, 262144, .inr (.inl kn))), (hld, .inr (2, [.ref bk, .ref br, .int cnt2])), (bk, .inl (dK, 300, .inl kg)), (br, .inl (dR, 300, .inl wg)), (mo, .inr (5, [.int mth, .int mw, .int mh, .ref ad, .ref asu, .ref aru, .int mro, .ref ast, .int msd, .ref afo, .int mmn])), (ad, .inl (kD, 262144, .inl fd)), (asu, .inl (kU, 263169, .inl fu)), (aru, .inl (kR, 2100, .inl fr)), (ast, .inl (kT, 1800, .inl ft)), (afo, .inl (kF, 1800, .inl ff)), (ho9, .inl (kO, 1, .inr (.inl fo)))]) (w1 := [(hf, .inr (4, [.ref hq, .ref hp, .ref hst, .ref hld])), (hp, .inr (0, [.int pw, .int ph, .ref hw, .ref hs, .int u175_sr])), (hw, .inl (kW, 4096, .inr (.inl u175_fw))), (hs, .inl (kS, 263169, .inl fs))]) hP hD [0, 2, 3, 4] [1, 5, 6, 7, 8, 9, 10, 11, 12, 13, 14, 15, 16, 17, 18, 19] rfl rfl (by decide) (by decide) hk1 hFc hP1 hD1
  have hP := hP.sub (ws' := [(hf, .inr (4, [.ref hq, .ref hp, .ref hst, .ref hld])), (hq, .inr (3, [.ref hp, .ref hst, .int lim, .int thd, .int md, .int sz0, .int tm, .int tx, .int ty, .int sx, .int sy, .ref hqf, .ref hkn, .int stp])), (hp, .inr (0, [.int pw, .int ph, .ref hw, .ref hs, .int u175_sr])), (hw, .inl (kW, 4096, .inr (.inl u175_fw))), (hs, .inl (kS, 263169, .inl fs)), (hst, .inr (2, [.ref ak, .ref ar, .int cnt])), (ak, .inl (cK, 300, .inl kf)), (ar, .inl (cR, 300, .inl wf)), (hqf, .inl (cQ, 4, .inl qf)), (hkn, .inl (cN, 262144, .inr (.inl kn))), (hld, .inr (2, [.ref bk, .ref br, .int cnt2])), (bk, .inl (dK, 300, .inl kg)), (br, .inl (dR, 300, .inl wg)), (mo, .inr (5, [.int mth, .int mw, .int mh, .ref ad, .ref asu, .ref aru, .int mro, .ref ast, .int msd, .ref afo, .int mmn])), (ad, .inl (kD, 262144, .inl fd)), (asu, .inl (kU, 263169, .inl fu)), (aru, .inl (kR, 2100, .inl fr)), (ast, .inl (kT, 1800, .inl ft)), (afo, .inl (kF, 1800, .inl ff)), (ho9, .inl (kO, 1, .inr (.inl fo)))]) [16, 0, 17, 18, 19, 1, 2, 3, 4, 5, 6, 7, 8, 9, 10, 11, 12, 13, 14, 15] rfl
  have hD := hD.sub (ws' := [(hf, .inr (4, [.ref hq, .ref hp, .ref hst, .ref hld])), (hq, .inr (3, [.ref hp, .ref hst, .int lim, .int thd, .int md, .int sz0, .int tm, .int tx, .int ty, .int sx, .int sy, .ref hqf, .ref hkn, .int stp])), (hp, .inr (0, [.int pw, .int ph, .ref hw, .ref hs, .int u175_sr])), (hw, .inl (kW, 4096, .inr (.inl u175_fw))), (hs, .inl (kS, 263169, .inl fs)), (hst, .inr (2, [.ref ak, .ref ar, .int cnt])), (ak, .inl (cK, 300, .inl kf)), (ar, .inl (cR, 300, .inl wf)), (hqf, .inl (cQ, 4, .inl qf)), (hkn, .inl (cN, 262144, .inr (.inl kn))), (hld, .inr (2, [.ref bk, .ref br, .int cnt2])), (bk, .inl (dK, 300, .inl kg)), (br, .inl (dR, 300, .inl wg)), (mo, .inr (5, [.int mth, .int mw, .int mh, .ref ad, .ref asu, .ref aru, .int mro, .ref ast, .int msd, .ref afo, .int mmn])), (ad, .inl (kD, 262144, .inl fd)), (asu, .inl (kU, 263169, .inl fu)), (aru, .inl (kR, 2100, .inl fr)), (ast, .inl (kT, 1800, .inl ft)), (afo, .inl (kF, 1800, .inl ff)), (ho9, .inl (kO, 1, .inr (.inl fo)))]) [16, 0, 17, 18, 19, 1, 2, 3, 4, 5, 6, 7, 8, 9, 10, 11, 12, 13, 14, 15] (by decide) rfl
  clear hPc hKc hDc hFc ht hvm hz1 hk1 hP1 hD1 hK1
  refine lv_aload_n hx hb d_law_178 rfl (lv_at hl 2 rfl) ?_
  refine lv_aload_n hx hb d_law_179 rfl (lv_at hl 0 rfl) ?_
  refine lv_iload hx hb d_law_180 (lv_at hl 4 rfl) ?_
  refine lv_iconst (v := 1) hx hb d_law_182 (by decide) ?_
  refine lv_iadd hx hb d_law_183 ?_
  refine lv_topi (fun v183 e183 => ?_)
  have h183 : v183.toInt = zi + 1 := by rw [e183]; exact ti_add hiv (ti_k (by decide)) (by omega) (by omega)
  have q183 : v145 = v183 := by rw [e145, e183]
  subst q183
  have in184 : vp_in v145 L := vi_in h183 (by omega) (by omega)
  refine va_sld hx hb hX hbl hbA hS in184 d_law_184 ?_
  refine lv_topi (fun v184 e184 => ?_)
  have q184 : v146 = v184 := by rw [e146, e184]
  subst q184
  refine lv_aload_n hx hb d_law_185 rfl (lv_at hl 0 rfl) ?_
  refine lv_iload hx hb d_law_186 (lv_at hl 4 rfl) ?_
  refine lv_iconst (v := 2) hx hb d_law_188 (by decide) ?_
  refine lv_iadd hx hb d_law_189 ?_
  refine lv_topi (fun v189 e189 => ?_)
  have h189 : v189.toInt = zi + 2 := by rw [e189]; exact ti_add hiv (ti_k (by decide)) (by omega) (by omega)
  have q189 : v151 = v189 := by rw [e151, e189]
  subst q189
  have in190 : vp_in v151 L := vi_in h189 (by omega) (by omega)
  refine va_sld hx hb hX hbl hbA hS in190 d_law_190 ?_
  refine lv_topi (fun v190 e190 => ?_)
  have q190 : v152 = v190 := by rw [e152, e190]
  subst q190
  refine lv_aload_n hx hb d_law_191 rfl (lv_at hl 0 rfl) ?_
  refine lv_iload hx hb d_law_192 (lv_at hl 4 rfl) ?_
  refine lv_iconst (v := 3) hx hb d_law_194 (by decide) ?_
  refine lv_iadd hx hb d_law_195 ?_
  refine lv_topi (fun v195 e195 => ?_)
  have h195 : v195.toInt = zi + 3 := by rw [e195]; exact ti_add hiv (ti_k (by decide)) (by omega) (by omega)
  have q195 : v157 = v195 := by rw [e157, e195]
  subst q195
  have in196 : vp_in v157 L := vi_in h195 (by omega) (by omega)
  refine va_sld hx hb hX hbl hbA hS in196 d_law_196 ?_
  refine lv_topi (fun v196 e196 => ?_)
  have q196 : v158 = v196 := by rw [e158, e196]
  subst q196
  refine lv_i2l hx hb d_law_197 rfl ?_
  refine lv_topl (fun v197 e197 => ?_)
  have h197 : v197.toInt = v158.toInt := by rw [e197]; exact tl_i2l rfl
  have q197 : v159 = v197 := by rw [e159, e197]
  subst q197
  refine lv_bipush (v := 32) hx hb d_law_198 (by decide) ?_
  refine lv_lshl hx hb d_law_200 rfl ?_
  refine lv_topl (fun v200 e200 => ?_)
  have q200 : v162 = v200 := by rw [e162, e200]
  subst q200
  refine lv_aload_n hx hb d_law_201 rfl (lv_at hl 0 rfl) ?_
  refine lv_iload hx hb d_law_202 (lv_at hl 4 rfl) ?_
  refine lv_iconst (v := 4) hx hb d_law_204 (by decide) ?_
  refine lv_iadd hx hb d_law_205 ?_
  refine lv_topi (fun v205 e205 => ?_)
  have h205 : v205.toInt = zi + 4 := by rw [e205]; exact ti_add hiv (ti_k (by decide)) (by omega) (by omega)
  have q205 : v167 = v205 := by rw [e167, e205]
  subst q205
  have in206 : vp_in v167 L := vi_in h205 (by omega) (by omega)
  refine va_sld hx hb hX hbl hbA hS in206 d_law_206 ?_
  refine lv_topi (fun v206 e206 => ?_)
  have q206 : v168 = v206 := by rw [e168, e206]
  subst q206
  refine lv_i2l hx hb d_law_207 rfl ?_
  refine lv_topl (fun v207 e207 => ?_)
  have h207 : v207.toInt = v168.toInt := by rw [e207]; exact tl_i2l rfl
  have q207 : v169 = v207 := by rw [e169, e207]
  subst q207
  refine lv_ldc2 (v := 4294967295) hx hb hown (hts _ wd_721) d_law_208 ?_
  refine lv_land hx hb d_law_211 ?_
  refine lv_topl (fun v211 e211 => ?_)
  have q211 : v173 = v211 := by rw [e173, e211]
  subst q211
  refine lv_lor hx hb d_law_212 ?_
  refine lv_topl (fun v212 e212 => ?_)
  have q212 : v174 = v212 := by rw [e174, e212]
  subst q212
  have hPc := hP.sub (ws' := [(mo, .inr (5, [.int mth, .int mw, .int mh, .ref ad, .ref asu, .ref aru, .int mro, .ref ast, .int msd, .ref afo, .int mmn])), (ad, .inl (kD, 262144, .inl fd))]) [13, 14] rfl
  have hKc := hK.sub (tys' := [(kD, .boolean)]) [8] rfl
  have hDc := hD.sub (ws' := [(mo, .inr (5, [.int mth, .int mw, .int mh, .ref ad, .ref asu, .ref aru, .int mro, .ref ast, .int msd, .ref afo, .int mmn])), (ad, .inl (kD, 262144, .inl fd))]) [13, 14] (by decide) rfl
  have hFc := va_free (wc := [(mo, .inr (5, [.int mth, .int mw, .int mh, .ref ad, .ref asu, .ref aru, .int mro, .ref ast, .int msd, .ref afo, .int mmn])), (ad, .inl (kD, 262144, .inl fd))]) hD hS hA [13, 14] rfl
  refine va_calli (va_runV (As := [.int v146, .int v152, .long v174]) (rest := [.int v175]) ⟨hx, hb, hml, hown, hts⟩ (m_turn l dC dI H175.size mo ad asu aru ast afo mth mw mh mro msd mmn Wd Ht hS0.1.2.2.1 hS0.1.2.2.2 hS0.2.1.1 hS0.2.1.2.1 hS0.2.1.2.2.1 hS0.2.1.2.2.2 kD fd D hS0.2.2.2.1 v146 v152 v174 v146.toInt v152.toInt rfl rfl) (aw_V 3 hts wd_612 wd_613 wd_614 wd_5 wd_615 rfl rfl (by decide +kernel) ⟨Nat.le_of_ble_eq_true rfl, Nat.le_of_ble_eq_true rfl⟩) ⟨rw_blind, va_recv hKc hPc (ci := 5) (q0 := 0) rfl rfl, rw_pre hPc hKc hDc⟩ rfl rfl hl.1 rfl (lv_room (Nat.le_of_ble_eq_true rfl)) d_law_213 ⟨by show _ ≤ 601024; omega, by show _ ≤ 7293034; omega⟩) hS (fun q _ h => hFc q h) hFc (fun v213 u213_fd t9 H213 locs ht hvm h213 hB hz1 hk1 hS => ?_)
  obtain ⟨hP1, hK1, hD1⟩ := hB
  rw [ht] at hP1
  try dsimp only at h213 hP1 hD1
  obtain ⟨hP, hD⟩ := va_join (wr := [(hf, .inr (4, [.ref hq, .ref hp, .ref hst, .ref hld])), (hq, .inr (3, [.ref hp, .ref hst, .int lim, .int thd, .int md, .int sz0, .int tm, .int tx, .int ty, .int sx, .int sy, .ref hqf, .ref hkn, .int stp])), (hp, .inr (0, [.int pw, .int ph, .ref hw, .ref hs, .int u175_sr])), (hw, .inl (kW, 4096, .inr (.inl u175_fw))), (hs, .inl (kS, 263169, .inl fs)), (hst, .inr (2, [.ref ak, .ref ar, .int cnt])), (ak, .inl (cK, 300, .inl kf)), (ar, .inl (cR, 300, .inl wf)), (hqf, .inl (cQ, 4, .inl qf)), (hkn, .inl (cN, 262144, .inr (.inl kn))), (hld, .inr (2, [.ref bk, .ref br, .int cnt2])), (bk, .inl (dK, 300, .inl kg)), (br, .inl (dR, 300, .inl wg)), (asu, .inl (kU, 263169, .inl fu)), (aru, .inl (kR, 2100, .inl fr)), (ast, .inl (kT, 1800, .inl ft)), (afo, .inl (kF, 1800, .inl ff)), (ho9, .inl (kO, 1, .inr (.inl fo)))]) (w1 := [(mo, .inr (5, [.int 0, .int mw, .int mh, .ref ad, .ref asu, .ref aru, .int mro, .ref ast, .int msd, .ref afo, .int mmn])), (ad, .inl (kD, 262144, .inl u213_fd))]) hP hD [13, 14] [0, 1, 2, 3, 4, 5, 6, 7, 8, 9, 10, 11, 12, 15, 16, 17, 18, 19] rfl rfl (by decide) (by decide) hk1 hFc hP1 hD1
  have hP := hP.sub (ws' := [(hf, .inr (4, [.ref hq, .ref hp, .ref hst, .ref hld])), (hq, .inr (3, [.ref hp, .ref hst, .int lim, .int thd, .int md, .int sz0, .int tm, .int tx, .int ty, .int sx, .int sy, .ref hqf, .ref hkn, .int stp])), (hp, .inr (0, [.int pw, .int ph, .ref hw, .ref hs, .int u175_sr])), (hw, .inl (kW, 4096, .inr (.inl u175_fw))), (hs, .inl (kS, 263169, .inl fs)), (hst, .inr (2, [.ref ak, .ref ar, .int cnt])), (ak, .inl (cK, 300, .inl kf)), (ar, .inl (cR, 300, .inl wf)), (hqf, .inl (cQ, 4, .inl qf)), (hkn, .inl (cN, 262144, .inr (.inl kn))), (hld, .inr (2, [.ref bk, .ref br, .int cnt2])), (bk, .inl (dK, 300, .inl kg)), (br, .inl (dR, 300, .inl wg)), (mo, .inr (5, [.int 0, .int mw, .int mh, .ref ad, .ref asu, .ref aru, .int mro, .ref ast, .int msd, .ref afo, .int mmn])), (ad, .inl (kD, 262144, .inl u213_fd)), (asu, .inl (kU, 263169, .inl fu)), (aru, .inl (kR, 2100, .inl fr)), (ast, .inl (kT, 1800, .inl ft)), (afo, .inl (kF, 1800, .inl ff)), (ho9, .inl (kO, 1, .inr (.inl fo)))]) [0, 1, 2, 3, 4, 5, 6, 7, 8, 9, 10, 11, 12, 18, 19, 13, 14, 15, 16, 17] rfl
  have hD := hD.sub (ws' := [(hf, .inr (4, [.ref hq, .ref hp, .ref hst, .ref hld])), (hq, .inr (3, [.ref hp, .ref hst, .int lim, .int thd, .int md, .int sz0, .int tm, .int tx, .int ty, .int sx, .int sy, .ref hqf, .ref hkn, .int stp])), (hp, .inr (0, [.int pw, .int ph, .ref hw, .ref hs, .int u175_sr])), (hw, .inl (kW, 4096, .inr (.inl u175_fw))), (hs, .inl (kS, 263169, .inl fs)), (hst, .inr (2, [.ref ak, .ref ar, .int cnt])), (ak, .inl (cK, 300, .inl kf)), (ar, .inl (cR, 300, .inl wf)), (hqf, .inl (cQ, 4, .inl qf)), (hkn, .inl (cN, 262144, .inr (.inl kn))), (hld, .inr (2, [.ref bk, .ref br, .int cnt2])), (bk, .inl (dK, 300, .inl kg)), (br, .inl (dR, 300, .inl wg)), (mo, .inr (5, [.int 0, .int mw, .int mh, .ref ad, .ref asu, .ref aru, .int mro, .ref ast, .int msd, .ref afo, .int mmn])), (ad, .inl (kD, 262144, .inl u213_fd)), (asu, .inl (kU, 263169, .inl fu)), (aru, .inl (kR, 2100, .inl fr)), (ast, .inl (kT, 1800, .inl ft)), (afo, .inl (kF, 1800, .inl ff)), (ho9, .inl (kO, 1, .inr (.inl fo)))]) [0, 1, 2, 3, 4, 5, 6, 7, 8, 9, 10, 11, 12, 18, 19, 13, 14, 15, 16, 17] (by decide) rfl
  clear hPc hKc hDc hFc ht hvm hz1 hk1 hP1 hD1 hK1
  obtain ⟨hth, i1⟩ := st_turn hS0 h175 h213
  refine lv_icmp_eq (tgt := 699) hx hb d_law_216 (by decide) (fun c216 => ?_) (fun c216 => ?_)
  · skip
    refine W.widen (k := kc + 1) (n := ns + 6) (by omega) (by omega) ?_
    exact kk _ _ _ _ _ _ pw ph u175_sr lim thd md sz0 tm tx ty sx sy stp cnt cnt2 (0 : Int32) mw mh mro msd mmn u175_fw kn fo fs kf wf qf kg wg u213_fd fu fr ft ff (lv_sub hl [0, 1, 2, 3, 4] rfl) i1 (iN_s hN0) hV0 hP hD hS
  · skip
    exact absurd hth c216
