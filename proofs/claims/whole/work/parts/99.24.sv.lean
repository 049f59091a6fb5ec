set_option maxHeartbeats 4000000 in
set_option maxRecDepth 100000 in
theorem c_siftVersions (l : Launch) (dC : Nat → ClassId) (dI : Nat → Nat → Nat) (sz : Nat) (hq hp hw hs hst hqf hkn : Nat) (kS : ClassId) (pw ph psr lim thd md sz0 tm tx ty sx sy stp : Int32) (fs : Nat → Int32) (Wd Ht M S : Int) (D : Int → Int → Bool) (hpw : pw.toInt = Wd) (hph : ph.toInt = Ht) (hmd : md.toInt = M) (hsz0 : sz0.toInt = S) (hW1 : 1 ≤ Wd) (hW2 : Wd ≤ 512) (hH1 : 1 ≤ Ht) (hH2 : Ht ≤ 512) (hM1 : 1 ≤ M) (hM2 : M ≤ 16) (hsum : ∀ x y, 0 ≤ x → x ≤ Wd → 0 ≤ y → y ≤ Ht → (fs (y * 513 + x).toNat).toInt = cI D 0 0 x y) (hS0 : 0 ≤ S) (hS1 : S ≤ 177) (cN : ClassId) (kn : Nat → Int64) (ST : Int) (hst0 : stp.toInt = ST) (hst1 : 0 ≤ ST) (hst2 : ST < 8388608) (hkn0 : KN D M ST kn) (LIM : Int) (hlim : lim.toInt = LIM) (hL0 : 0 ≤ LIM) (hL1 : LIM ≤ 500) (THD : Int) (hthd : thd.toInt = THD) (hTHD : THD = LIM / 3) (ak ar : Nat) (cK cR : ClassId) (cnt : Int32) (kf wf : Nat → Int32) (nc : Int) (hcnt : cnt.toInt = nc) (AL F : Int → Int → Int → Int → Int → Prop) (hSR : SR D AL F tm kf wf nc) (cQ : ClassId) (qf : Nat → Int32) (a1 a2 a3 a4 : Int32) (L T RR BO : Int) (g1 : a1.toInt = L) (g2 : a2.toInt = T) (g3 : a3.toInt = RR) (g4 : a4.toInt = BO) (htx : tx.toInt = L) (hty : ty.toInt = T) (hsx : sx.toInt = RR - L) (hsy : sy.toInt = BO - T) (hl0 : 0 ≤ L) (hl1 : L ≤ RR) (ht0 : 0 ≤ T) (ht1 : T ≤ BO) (hr0 : RR + 7 * M ≤ Wd) (hb0 : BO + 7 * M ≤ Ht) (hAL : ∀ x y m v q, F x y m v q → AL x y m v q) (hdis : ∀ x y m v q, tgF D Wd Ht LIM THD M L T RR BO x y m v q → AL x y m v q ∧ ¬ F x y m v q) : Met l y_Search_siftVersions (.code y_Search_siftVersions b_Search_siftVersions 17 none :: allw) ({ frames := 13, cells := 0, slots := 0, locals := 452 }) (va_Pc [.ref hq, .int a1, .int a2, .int a3, .int a4] (rw_B (dC, dI) vwCl [(hq, .inr (3, [.ref hp, .ref hst, .int lim, .int thd, .int md, .int sz0, .int tm, .int tx, .int ty, .int sx, .int sy, .ref hqf, .ref hkn, .int stp])), (hp, .inr (0, [.int pw, .int ph, .ref hw, .ref hs, .int psr])), (hs, .inl (kS, 263169, .inl fs)), (hst, .inr (2, [.ref ak, .ref ar, .int cnt])), (ak, .inl (cK, 300, .inl kf)), (ar, .inl (cR, 300, .inl wf)), (hqf, .inl (cQ, 4, .inl qf)), (hkn, .inl (cN, 262144, .inr (.inl kn)))] [(kS, .int), (cK, .int), (cR, .int), (cQ, .int), (cN, .long)] sz)) (va_Qv (fun (u : Int32 × Int32 × Int32 × Int32 × Int32 × Int32 × Int32 × (Nat → Int32) × (Nat → Int32) × (Nat → Int32) × (Nat → Int64)) => SR D AL (orF F (tgF D Wd Ht LIM THD M L T RR BO)) u.1 u.2.2.2.2.2.2.2.1 u.2.2.2.2.2.2.2.2.1 (u.2.2.2.2.2.2.1 : Int32).toInt ∧ KN D M ST u.2.2.2.2.2.2.2.2.2.2 ∧ 0 ≤ (u.2.1 : Int32).toInt ∧ (u.2.1 : Int32).toInt ≤ 177) (fun u t => rw_E (dC, dI) vwCl [(hq, .inr (3, [.ref hp, .ref hst, .int lim, .int thd, .int md, .int u.2.1, .int u.1, .int u.2.2.1, .int u.2.2.2.1, .int u.2.2.2.2.1, .int u.2.2.2.2.2.1, .ref hqf, .ref hkn, .int stp])), (hp, .inr (0, [.int pw, .int ph, .ref hw, .ref hs, .int psr])), (hs, .inl (kS, 263169, .inl fs)), (hst, .inr (2, [.ref ak, .ref ar, .int u.2.2.2.2.2.2.1])), (ak, .inl (cK, 300, .inl u.2.2.2.2.2.2.2.1)), (ar, .inl (cR, 300, .inl u.2.2.2.2.2.2.2.2.1)), (hqf, .inl (cQ, 4, .inl u.2.2.2.2.2.2.2.2.2.1)), (hkn, .inl (cN, 262144, .inr (.inl u.2.2.2.2.2.2.2.2.2.2)))] [(kS, .int), (cK, .int), (cR, .int), (cQ, .int), (cN, .long)] (va_A [(hq, .inr (3, [.ref hp, .ref hst, .int lim, .int thd, .int md, .int sz0, .int tm, .int tx, .int ty, .int sx, .int sy, .ref hqf, .ref hkn, .int stp])), (hp, .inr (0, [.int pw, .int ph, .ref hw, .ref hs, .int psr])), (hs, .inl (kS, 263169, .inl fs)), (hst, .inr (2, [.ref ak, .ref ar, .int cnt])), (ak, .inl (cK, 300, .inl kf)), (ar, .inl (cR, 300, .inl wf)), (hqf, .inl (cQ, 4, .inl qf)), (hkn, .inl (cN, 262144, .inr (.inl kn)))] sz) t) (va_A [(hq, .inr (3, [.ref hp, .ref hst, .int lim, .int thd, .int md, .int sz0, .int tm, .int tx, .int ty, .int sx, .int sy, .ref hqf, .ref hkn, .int stp])), (hp, .inr (0, [.int pw, .int ph, .ref hw, .ref hs, .int psr])), (hs, .inl (kS, 263169, .inl fs)), (hst, .inr (2, [.ref ak, .ref ar, .int cnt])), (ak, .inl (cK, 300, .inl kf)), (ar, .inl (cR, 300, .inl wf)), (hqf, .inl (cQ, 4, .inl qf)), (hkn, .inl (cN, 262144, .inr (.inl kn)))] sz)) 0 0 (va_A [(hq, .inr (3, [.ref hp, .ref hst, .int lim, .int thd, .int md, .int sz0, .int tm, .int tx, .int ty, .int sx, .int sy, .ref hqf, .ref hkn, .int stp])), (hp, .inr (0, [.int pw, .int ph, .ref hw, .ref hs, .int psr])), (hs, .inl (kS, 263169, .inl fs)), (hst, .inr (2, [.ref ak, .ref ar, .int cnt])), (ak, .inl (cK, 300, .inl kf)), (ar, .inl (cR, 300, .inl wf)), (hqf, .inl (cQ, 4, .inl qf)), (hkn, .inl (cN, 262144, .inr (.inl kn)))] sz) := by
  refine Met.ofW (cc := b_Search_siftVersions) (maxL := 17) (ret := none) (by decide) rfl ?_
  intro p e s m args below meth c s₁ B hml hv
  obtain ⟨rfl, hsz, hP, hK, hD0⟩ := hv
  have hx := B.exec
  have hb := B.bytes
  have hr := B.returns
  have hts : ∀ w ∈ allw, w.before _ s = true := fun w h => atoms_spec (ws := .code y_Search_siftVersions b_Search_siftVersions 17 none :: allw) B.pre w (List.mem_cons_of_mem _ h)
  have hown : s.vm.findClass R_Search = some m.cls := findClass_of_methodNamed B.named
  have hlocks := B.notSynchronized
  subst hsz
  have hD := hD0.self (sz := s.heap.size)
  generalize hAe : va_A [(hq, .inr (3, [.ref hp, .ref hst, .int lim, .int thd, .int md, .int sz0, .int tm, .int tx, .int ty, .int sx, .int sy, .ref hqf, .ref hkn, .int stp])), (hp, .inr (0, [.int pw, .int ph, .ref hw, .ref hs, .int psr])), (hs, .inl (kS, 263169, .inl fs)), (hst, .inr (2, [.ref ak, .ref ar, .int cnt])), (ak, .inl (cK, 300, .inl kf)), (ar, .inl (cR, 300, .inl wf)), (hqf, .inl (cQ, 4, .inl qf)), (hkn, .inl (cN, 262144, .inr (.inl kn)))] s.heap.size = A at hD ⊢
  have hA : ∀ q : Nat, s.heap.size ≤ q → A q := fun q h => by rw [← hAe]; exact Or.inr h
  have hS : va_S A s.heap s.heap [] := va_S.rf
  have hP : va_P (dC, dI) vwCl [(hq, .inr (3, [.ref hp, .ref hst, .int lim, .int thd, .int md, .int sz0, .int tm, .int tx, .int ty, .int sx, .int sy, .ref hqf, .ref hkn, .int stp])), (hp, .inr (0, [.int pw, .int ph, .ref hw, .ref hs, .int psr])), (hs, .inl (kS, 263169, .inl fs)), (hst, .inr (2, [.ref ak, .ref ar, .int cnt])), (ak, .inl (cK, 300, .inl kf)), (ar, .inl (cR, 300, .inl wf)), (hqf, .inl (cQ, 4, .inl qf)), (hkn, .inl (cN, 262144, .inr (.inl kn)))] s.heap := hP
  have hl := lv_entry ([.ref hq, .int a1, .int a2, .int a3, .int a4]) (n := 17) (Nat.le_of_ble_eq_true rfl)
  rw [lg_entry_eq]
  generalize (lg_sl ([.ref hq, .int a1, .int a2, .int a3, .int a4]) ++ List.replicate (17 - (lg_sl ([.ref hq, .int a1, .int a2, .int a3, .int a4])).length) Slot.unset).toArray = ls at hl ⊢
  have hl : lv_has ls 17 [(0, .ref hq), (1, .int a1), (2, .int a2), (3, .int a3), (4, .int a4)] := hl
  have hB : sBnd Wd Ht M S L T (RR - L) (BO - T) := by unfold sBnd; omega
  have e512 : ((2 ^ 9 : Nat) : Int) = 512 := rfl
  refine lv_aload_n hx hb d_Search_siftVersions_0 rfl (lv_at hl 0 rfl) ?_
  have hPc := hP.sub (ws' := [(hq, .inr (3, [.ref hp, .ref hst, .int lim, .int thd, .int md, .int sz0, .int tm, .int tx, .int ty, .int sx, .int sy, .ref hqf, .ref hkn, .int stp])), (hp, .inr (0, [.int pw, .int ph, .ref hw, .ref hs, .int psr])), (hs, .inl (kS, 263169, .inl fs))]) [0, 1, 2] rfl
  have hKc := hK.sub (tys' := [(kS, .int)]) [0] rfl
  refine va_calli (va_runV (As := []) (rest := []) ⟨hx, hb, hml, hown, hts⟩ (c_isSingle l dC dI hq hp hw hs hst hqf hkn kS pw ph psr lim thd md sz0 tm tx ty sx sy stp fs Wd Ht M S L T (RR - L) (BO - T) D hpw hph hmd hsz0 htx hty hsx hsy hB hsum) (aw_V 0 hts wd_418 wd_420 ws_10 wd_2 wd_421 rfl rfl (by decide +kernel) ⟨Nat.le_of_ble_eq_true rfl, Nat.le_of_ble_eq_true rfl⟩) ⟨ro_blind, va_recv hKc hPc (ci := 3) (q0 := 0) rfl rfl, ro_pre hPc hKc⟩ rfl rfl hl.1 rfl (lv_room (Nat.le_of_ble_eq_true rfl)) d_Search_siftVersions_1 ⟨Nat.le_of_ble_eq_true rfl, Nat.le_of_ble_eq_true rfl⟩) hS (fun q _ h => h.elim) (fun q h => h.elim) (fun v1 _ t9 H1 locs ht hvm h1 hB hz1 hk1 hS => ?_)
  have hP := ro_keep hP hk1
  clear hPc hKc ht hvm hB hz1 hk1
  refine lv_istore (lv' := [(5, .int v1), (0, .ref hq), (1, .int a1), (2, .int a2), (3, .int a3), (4, .int a4)]) hx hb d_Search_siftVersions_4 hl (by decide) rfl (fun ls hl => ?_)
  refine lv_iconst (v := 0) hx hb d_Search_siftVersions_6 (by decide) ?_
  refine lv_istore (lv' := [(6, .int 0), (5, .int v1), (0, .ref hq), (1, .int a1), (2, .int a2), (3, .int a3), (4, .int a4)]) hx hb d_Search_siftVersions_7 hl (by decide) rfl (fun ls hl => ?_)
  refine w_loop (I := fun n H' locs' g' => ∃ (cc : Int32) (zcc : Int) (tma : Int32) (sza : Int32) (zsza : Int) (txa : Int32) (tya : Int32) (sxa : Int32) (sya : Int32) (nna : Int32) (zna : Int) (kfa : Nat → Int32) (wfa : Nat → Int32) (qfa : Nat → Int32) (kna : Nat → Int64) (ls : Array Slot), g' = F0 m 9 ls [] ∧ lv_has ls 17 [(0, .ref hq), (1, .int a1), (2, .int a2), (3, .int a3), (4, .int a4), (5, .int v1), (6, .int cc)] ∧ n = (4 - zcc).toNat ∧ cc.toInt = zcc ∧ (0 ≤ zcc ∧ zcc ≤ 4) ∧ (sza.toInt = zsza) ∧ (0 ≤ zsza ∧ zsza ≤ 177) ∧ (nna.toInt = zna) ∧ (SR D AL (orF F (tvF D Wd Ht LIM THD M L T RR BO zcc 1)) tma kfa wfa zna) ∧ (KN D M ST kna) ∧ (RR - L = 0 ∧ BO - T = 0 → True) ∧ va_P (dC, dI) vwCl [(hq, .inr (3, [.ref hp, .ref hst, .int lim, .int thd, .int md, .int sza, .int tma, .int txa, .int tya, .int sxa, .int sya, .ref hqf, .ref hkn, .int stp])), (hp, .inr (0, [.int pw, .int ph, .ref hw, .ref hs, .int psr])), (hs, .inl (kS, 263169, .inl fs)), (hst, .inr (2, [.ref ak, .ref ar, .int nna])), (ak, .inl (cK, 300, .inl kfa)), (ar, .inl (cR, 300, .inl wfa)), (hqf, .inl (cQ, 4, .inl qfa)), (hkn, .inl (cN, 262144, .inr (.inl kna)))] H' ∧ va_D A [(hq, .inr (3, [.ref hp, .ref hst, .int lim, .int thd, .int md, .int sza, .int tma, .int txa, .int tya, .int sxa, .int sya, .ref hqf, .ref hkn, .int stp])), (hp, .inr (0, [.int pw, .int ph, .ref hw, .ref hs, .int psr])), (hs, .inl (kS, 263169, .inl fs)), (hst, .inr (2, [.ref ak, .ref ar, .int nna])), (ak, .inl (cK, 300, .inl kfa)), (ar, .inl (cR, 300, .inl wfa)), (hqf, .inl (cQ, 4, .inl qfa)), (hkn, .inl (cN, 262144, .inr (.inl kna)))] ∧ va_S A s.heap H' locs') ?_ ⟨0, 0, tm, sz0, S, tx, ty, sx, sy, cnt, nc, kf, wf, qf, kn, ls, rfl, lv_sub hl [2, 3, 4, 5, 6, 1, 0] rfl, rfl, (ti_k (by decide)), by omega, hsz0, ⟨hS0, hS1⟩, hcnt, SR_congr hSR (fun _ _ _ _ _ => or_no (fun _ _ _ _ _ => tv_0)), hkn0, fun _ => trivial, hP, hD, hS⟩
  intro n9 H9 locs g' hI ih9
  obtain ⟨cc, zcc, tma, sza, zsza, txa, tya, sxa, sya, nna, zna, kfa, wfa, qfa, kna, ls, rfl, hl, hn, hcc, i1, hsza, hszba, hna, iSRa, iKNa, itx, hP, hD, hS⟩ := hI
  refine lv_iload hx hb d_Search_siftVersions_9 (lv_at hl 6 rfl) ?_
  refine lv_iconst (v := 4) hx hb d_Search_siftVersions_11 (by decide) ?_
  refine lv_icmp_ge (tgt := 225) hx hb d_Search_siftVersions_12 (by decide) (fun c12 => ?_) (fun c12 => ?_)
  · skip
    have c12 : (4 : Int) ≤ zcc := (ti_le (ti_k (by decide)) hcc).mp c12
    have hpost : SR D AL (orF F (tgF D Wd Ht LIM THD M L T RR BO)) tma kfa wfa (nna : Int32).toInt ∧ KN D M ST kna ∧ 0 ≤ (sza : Int32).toInt ∧ (sza : Int32).toInt ≤ 177 := by
      have e4 : zcc = 4 := by omega
      rw [e4] at iSRa
      exact ⟨by rw [hna]; exact SR_congr iSRa (fun _ _ _ _ _ => or_iff (fun _ _ _ _ _ => tv_end)), iKNa, by omega, by omega⟩
    have hP9 := hP.sub (ws' := [(hq, .inr (3, [.ref hp, .ref hst, .int lim, .int thd, .int md, .int sza, .int tma, .int txa, .int tya, .int sxa, .int sya, .ref hqf, .ref hkn, .int stp])), (hp, .inr (0, [.int pw, .int ph, .ref hw, .ref hs, .int psr])), (hs, .inl (kS, 263169, .inl fs)), (hst, .inr (2, [.ref ak, .ref ar, .int nna])), (ak, .inl (cK, 300, .inl kfa)), (ar, .inl (cR, 300, .inl wfa)), (hqf, .inl (cQ, 4, .inl qfa)), (hkn, .inl (cN, 262144, .inr (.inl kna)))]) [0, 1, 2, 3, 4, 5, 6, 7] rfl
    have hD9 := hD.sub (ws' := [(hq, .inr (3, [.ref hp, .ref hst, .int lim, .int thd, .int md, .int sza, .int tma, .int txa, .int tya, .int sxa, .int sya, .ref hqf, .ref hkn, .int stp])), (hp, .inr (0, [.int pw, .int ph, .ref hw, .ref hs, .int psr])), (hs, .inl (kS, 263169, .inl fs)), (hst, .inr (2, [.ref ak, .ref ar, .int nna])), (ak, .inl (cK, 300, .inl kfa)), (ar, .inl (cR, 300, .inl wfa)), (hqf, .inl (cQ, 4, .inl qfa)), (hkn, .inl (cN, 262144, .inr (.inl kna)))]) [0, 1, 2, 3, 4, 5, 6, 7] (by decide) rfl
    have hK9 := hK.sub (tys' := [(kS, .int), (cK, .int), (cR, .int), (cQ, .int), (cN, .long)]) [0, 1, 2, 3, 4] rfl
    exact W.vret hx hb hr (fun t ht hW => ⟨⟨(tma, sza, txa, tya, sxa, sya, nna, kfa, wfa, qfa, kna), rfl, hpost, by rw [ht]; exact hP9, va_K.moved hW.alike hK9, hD9⟩, hS.F ht⟩) hS.2.2 d_Search_siftVersions_225
  · skip
    have c12 : ¬ ((4 : Int) ≤ zcc) := fun q => c12 ((ti_le (ti_k (by decide)) hcc).mpr q)
    refine lv_bipush (v := 15) hx hb d_Search_siftVersions_15 (by decide) ?_
    refine lv_iconst (v := 1) hx hb d_Search_siftVersions_17 (by decide) ?_
    refine lv_iload hx hb d_Search_siftVersions_18 (lv_at hl 6 rfl) ?_
    refine lv_iconst (v := 2) hx hb d_Search_siftVersions_20 (by decide) ?_
    refine lv_iadd hx hb d_Search_siftVersions_21 ?_
    refine lv_topi (fun v21 e21 => ?_)
    have h21 : v21.toInt = zcc + 2 := by rw [e21]; exact ti_add hcc (ti_k (by decide)) (by omega) (by omega)
    refine lv_iconst (v := 3) hx hb d_Search_siftVersions_22 (by decide) ?_
    refine lv_iand hx hb d_Search_siftVersions_23 ?_
    refine lv_topi (fun v23 e23 => ?_)
    refine lv_ishl hx hb d_Search_siftVersions_24 ?_
    refine lv_topi (fun v24 e24 => ?_)
    refine lv_iconst (v := (-1)) hx hb d_Search_siftVersions_25 (by decide) ?_
    refine lv_ixor hx hb d_Search_siftVersions_26 ?_
    refine lv_topi (fun v26 e26 => ?_)
    refine lv_iand hx hb d_Search_siftVersions_27 ?_
    refine lv_topi (fun v27 e27 => ?_)
    obtain ⟨Qs, h27, Q0, Q1, Qb⟩ := bt_all hcc (by omega) (by omega)
    rw [← e21, ← e23, ← e24, ← e26, ← e27] at h27
    have hQq : bt Qs ((zcc + 2) % 4) = false := by rw [Qb _ (by omega) (by omega)]; exact decide_eq_false (fun h => h rfl)
    refine lv_istore (lv' := [(7, .int v27), (0, .ref hq), (1, .int a1), (2, .int a2), (3, .int a3), (4, .int a4), (5, .int v1), (6, .int cc)]) hx hb d_Search_siftVersions_28 hl (by decide) rfl (fun ls hl => ?_)
    refine w_cut (I := fun H' locs' g' => ∃ (vs : Int32) (zvs : Int) (kl : Nat → Int64) (ls : Array Slot), g' = F0 m 56 ls [.int vs] ∧ lv_has ls 17 [(0, .ref hq), (1, .int a1), (2, .int a2), (3, .int a3), (4, .int a4), (5, .int v1), (6, .int cc), (7, .int v27)] ∧ vs.toInt = zvs ∧ (zvs = 40 ∨ (zvs = 0 ∧ ∀ x y v q, St D Wd Ht LIM x y M v q → 1 ≤ v → ¬ atF D THD M L T RR BO x y v q zcc)) ∧ (KN D M ST kl) ∧ va_P (dC, dI) vwCl [(hq, .inr (3, [.ref hp, .ref hst, .int lim, .int thd, .int md, .int sza, .int tma, .int txa, .int tya, .int sxa, .int sya, .ref hqf, .ref hkn, .int stp])), (hp, .inr (0, [.int pw, .int ph, .ref hw, .ref hs, .int psr])), (hs, .inl (kS, 263169, .inl fs)), (hst, .inr (2, [.ref ak, .ref ar, .int nna])), (ak, .inl (cK, 300, .inl kfa)), (ar, .inl (cR, 300, .inl wfa)), (hqf, .inl (cQ, 4, .inl qfa)), (hkn, .inl (cN, 262144, .inr (.inl kl)))] H' ∧ va_D A [(hq, .inr (3, [.ref hp, .ref hst, .int lim, .int thd, .int md, .int sza, .int tma, .int txa, .int tya, .int sxa, .int sya, .ref hqf, .ref hkn, .int stp])), (hp, .inr (0, [.int pw, .int ph, .ref hw, .ref hs, .int psr])), (hs, .inl (kS, 263169, .inl fs)), (hst, .inr (2, [.ref ak, .ref ar, .int nna])), (ak, .inl (cK, 300, .inl kfa)), (ar, .inl (cR, 300, .inl wfa)), (hqf, .inl (cQ, 4, .inl qfa)), (hkn, .inl (cN, 262144, .inr (.inl kl)))] ∧ va_S A s.heap H' locs') ?_ ?_
    · skip
      intro H56 locs g' hI
      obtain ⟨vs, zvs, kl, ls, rfl, hl, hvs, jv, jkn, hP, hD, hS⟩ := hI
      refine lv_istore (lv' := [(8, .int vs), (0, .ref hq), (1, .int a1), (2, .int a2), (3, .int a3), (4, .int a4), (5, .int v1), (6, .int cc), (7, .int v27)]) hx hb d_Search_siftVersions_56 hl (by decide) rfl (fun ls hl => ?_)
      refine lv_iconst (v := 1) hx hb d_Search_siftVersions_58 (by decide) ?_
      refine lv_istore (lv' := [(9, .int 1), (8, .int vs), (0, .ref hq), (1, .int a1), (2, .int a2), (3, .int a3), (4, .int a4), (5, .int v1), (6, .int cc), (7, .int v27)]) hx hb d_Search_siftVersions_59 hl (by decide) rfl (fun ls hl => ?_)
      refine w_loop (I := fun n H' locs' g' => ∃ (vv : Int32) (zvv : Int) (tmb : Int32) (szb : Int32) (zszb : Int) (txb : Int32) (tyb : Int32) (sxb : Int32) (syb : Int32) (nnb : Int32) (znb : Int) (kfb : Nat → Int32) (wfb : Nat → Int32) (qfb : Nat → Int32) (knb : Nat → Int64) (ls : Array Slot), g' = F0 m 61 ls [] ∧ lv_has ls 17 [(0, .ref hq), (1, .int a1), (2, .int a2), (3, .int a3), (4, .int a4), (5, .int v1), (6, .int cc), (7, .int v27), (8, .int vs), (9, .int vv)] ∧ n = (41 - zvv).toNat ∧ vv.toInt = zvv ∧ (1 ≤ zvv ∧ zvv ≤ zvs + 1) ∧ (szb.toInt = zszb) ∧ (0 ≤ zszb ∧ zszb ≤ 177) ∧ (nnb.toInt = znb) ∧ (SR D AL (orF F (tvF D Wd Ht LIM THD M L T RR BO zcc zvv)) tmb kfb wfb znb) ∧ (KN D M ST knb) ∧ va_P (dC, dI) vwCl [(hq, .inr (3, [.ref hp, .ref hst, .int lim, .int thd, .int md, .int szb, .int tmb, .int txb, .int tyb, .int sxb, .int syb, .ref hqf, .ref hkn, .int stp])), (hp, .inr (0, [.int pw, .int ph, .ref hw, .ref hs, .int psr])), (hs, .inl (kS, 263169, .inl fs)), (hst, .inr (2, [.ref ak, .ref ar, .int nnb])), (ak, .inl (cK, 300, .inl kfb)), (ar, .inl (cR, 300, .inl wfb)), (hqf, .inl (cQ, 4, .inl qfb)), (hkn, .inl (cN, 262144, .inr (.inl knb)))] H' ∧ va_D A [(hq, .inr (3, [.ref hp, .ref hst, .int lim, .int thd, .int md, .int szb, .int tmb, .int txb, .int tyb, .int sxb, .int syb, .ref hqf, .ref hkn, .int stp])), (hp, .inr (0, [.int pw, .int ph, .ref hw, .ref hs, .int psr])), (hs, .inl (kS, 263169, .inl fs)), (hst, .inr (2, [.ref ak, .ref ar, .int nnb])), (ak, .inl (cK, 300, .inl kfb)), (ar, .inl (cR, 300, .inl wfb)), (hqf, .inl (cQ, 4, .inl qfb)), (hkn, .inl (cN, 262144, .inr (.inl knb)))] ∧ va_S A s.heap H' locs') ?_ ⟨1, 1, tma, sza, zsza, txa, tya, sxa, sya, nna, zna, kfa, wfa, qfa, kl, ls, rfl, lv_sub hl [2, 3, 4, 5, 6, 7, 8, 9, 1, 0] rfl, rfl, (ti_k (by decide)), by omega, hsza, hszba, hna, iSRa, jkn, hP, hD, hS⟩
      intro n61 H61 locs g' hI ih61
      obtain ⟨vv, zvv, tmb, szb, zszb, txb, tyb, sxb, syb, nnb, znb, kfb, wfb, qfb, knb, ls, rfl, hl, hn, hvv, j1, hszb, hszbb, hnb, iSRb, iKNb, hP, hD, hS⟩ := hI
      refine lv_iload hx hb d_Search_siftVersions_61 (lv_at hl 9 rfl) ?_
      refine lv_iload hx hb d_Search_siftVersions_63 (lv_at hl 8 rfl) ?_
      refine lv_icmp_gt (tgt := 219) hx hb d_Search_siftVersions_65 (by decide) (fun c65 => ?_) (fun c65 => ?_)
      · skip
        have c65 : zvs < zvv := (ti_lt hvs hvv).mp c65
        obtain ⟨v219, e219⟩ : ∃ y : Int32, y = cc + 1 := ⟨_, rfl⟩
        have h219 : v219.toInt = zcc + 1 := by rw [e219]; exact ti_add hcc (ti_k (by decide)) (by omega) (by omega)
        refine lv_iinc (v := v219) (lv' := [(6, .int v219), (0, .ref hq), (1, .int a1), (2, .int a2), (3, .int a3), (4, .int a4), (5, .int v1), (7, .int v27), (8, .int vs), (9, .int vv)]) hx hb d_Search_siftVersions_219 hl (k := 6) rfl (by rw [e219]; rfl) (by decide) rfl (fun ls hl => ?_)
        refine lv_goto (tgt := 9) hx hb d_Search_siftVersions_222 (by decide) ?_
        exact ih9 _ (by omega) _ _ _ ⟨v219, (zcc + 1), tmb, szb, zszb, txb, tyb, sxb, syb, nnb, znb, kfb, wfb, qfb, knb, ls, rfl, lv_sub hl [1, 2, 3, 4, 5, 6, 0] rfl, rfl, h219, by omega, hszb, hszbb, hnb, by
          rcases jv with jv | ⟨jv, jn⟩
          · have e41 : zvv = 41 := by omega
            rw [e41] at iSRb; exact SR_congr iSRb (fun _ _ _ _ _ => or_iff (fun _ _ _ _ _ => tv_next))
          · have e1 : zvv = 1 := by omega
            rw [e1] at iSRb; exact SR_congr iSRb (fun _ _ _ _ _ => or_iff (fun _ _ _ _ _ => tv_skip jn)), iKNb, fun _ => trivial, hP, hD, hS⟩
      · skip
        have c65 : ¬ (zvs < zvv) := fun q => c65 ((ti_lt hvs hvv).mpr q)
        refine lv_aload_n hx hb d_Search_siftVersions_68 rfl (lv_at hl 0 rfl) ?_
        refine lv_iload hx hb d_Search_siftVersions_69 (lv_at hl 9 rfl) ?_
        have hPc := hP.sub (ws' := []) [] rfl
        have hKc := hK.sub (tys' := []) [] rfl
        refine va_calli (va_runS (As := [.int vv]) (rest := [.ref hq]) ⟨hx, hb, hml, hown, hts⟩ (c_sizeOf l dC dI vv zvv hvv (by omega) (by omega)) (aw_S 1 hts wd_397 wd_297 wd_13 wd_298 rfl rfl (by decide +kernel) ⟨Nat.le_of_ble_eq_true rfl, Nat.le_of_ble_eq_true rfl⟩) ⟨ro_blind, ro_pre hPc hKc⟩ rfl rfl hl.1 rfl (lv_room (Nat.le_of_ble_eq_true rfl)) d_Search_siftVersions_71 ⟨Nat.le_of_ble_eq_true rfl, Nat.le_of_ble_eq_true rfl⟩) hS (fun q _ h => h.elim) (fun q h => h.elim) (fun v71 _ t9 H71 locs ht hvm h71 hB hz1 hk1 hS => ?_)
        have hP := ro_keep hP hk1
        clear hPc hKc ht hvm hB hz1 hk1
        refine va_put (D := (dC, dI)) (ci := 3) (v := .int v71) (ty := .int) (C := R_Search) (T := T_Search) (N := 14) hx hb hts i_Search t_Search t_Search_ok n_Search hown hK hP hD hS 0 rfl rfl 5 (by decide) (hts _ wd_86) (fun _ h9 => h9) rfl (by decide +kernel) rfl rfl (Nat.le_of_ble_eq_true rfl) d_Search_siftVersions_74 (fun H74 locs hP hD hS => ?_)
        have hP : va_P (dC, dI) vwCl [(hq, .inr (3, [.ref hp, .ref hst, .int lim, .int thd, .int md, .int v71, .int tmb, .int txb, .int tyb, .int sxb, .int syb, .ref hqf, .ref hkn, .int stp])), (hp, .inr (0, [.int pw, .int ph, .ref hw, .ref hs, .int psr])), (hs, .inl (kS, 263169, .inl fs)), (hst, .inr (2, [.ref ak, .ref ar, .int nnb])), (ak, .inl (cK, 300, .inl kfb)), (ar, .inl (cR, 300, .inl wfb)), (hqf, .inl (cQ, 4, .inl qfb)), (hkn, .inl (cN, 262144, .inr (.inl knb)))] H74 := hP
        have hD : va_D A [(hq, .inr (3, [.ref hp, .ref hst, .int lim, .int thd, .int md, .int v71, .int tmb, .int txb, .int tyb, .int sxb, .int syb, .ref hqf, .ref hkn, .int stp])), (hp, .inr (0, [.int pw, .int ph, .ref hw, .ref hs, .int psr])), (hs, .inl (kS, 263169, .inl fs)), (hst, .inr (2, [.ref ak, .ref ar, .int nnb])), (ak, .inl (cK, 300, .inl kfb)), (ar, .inl (cR, 300, .inl wfb)), (hqf, .inl (cQ, 4, .inl qfb)), (hkn, .inl (cN, 262144, .inr (.inl knb)))] := hD
        have mM := mul_b2 (a := 17 + 4 * zvv) (b := M) (p := 177) (q := 16) (by omega) (by omega) (by omega) (by omega)
        have mM0 := Int.mul_nonneg (show 0 ≤ 17 + 4 * zvv - 7 by omega) (show 0 ≤ M by omega)
        have mM1 : (17 + 4 * zvv - 7) * M = (17 + 4 * zvv) * M - 7 * M := Int.sub_mul _ _ _
        refine lv_aload_n hx hb d_Search_siftVersions_77 rfl (lv_at hl 0 rfl) ?_
        refine va_get (D := (dC, dI)) (ci := 3) (v := .int v71) (C := R_Search) (T := T_Search) (N := 14) hx hb hts i_Search hown hK hP 0 rfl rfl 5 (by decide) (hts _ wd_86) (fun _ h9 => h9) rfl d_Search_siftVersions_78 ?_
        refine lv_bipush (v := 7) hx hb d_Search_siftVersions_81 (by decide) ?_
        refine lv_isub hx hb d_Search_siftVersions_83 ?_
        refine lv_topi (fun v83 e83 => ?_)
        have h83 : v83.toInt = (17 + 4 * zvv) - 7 := by rw [e83]; exact ti_sub h71 (ti_k (by decide)) (by omega) (by omega)
        refine lv_aload_n hx hb d_Search_siftVersions_84 rfl (lv_at hl 0 rfl) ?_
        refine va_get (D := (dC, dI)) (ci := 3) (v := .int md) (C := R_Search) (T := T_Search) (N := 14) hx hb hts i_Search hown hK hP 0 rfl rfl 4 (by decide) (hts _ wd_85) (fun _ h9 => h9) rfl d_Search_siftVersions_85 ?_
        refine lv_imul hx hb d_Search_siftVersions_88 ?_
        refine lv_topi (fun v88 e88 => ?_)
        have h88 : v88.toInt = ((17 + 4 * zvv) - 7) * M := by rw [e88]; exact ti_mul h83 hmd (by omega) (by omega)
        obtain ⟨FA, kFA⟩ : ∃ c : Int, c = (((17 + 4 * zvv) - 7) * M) := ⟨_, rfl⟩
        have h88 : v88.toInt = FA := by rw [h88, kFA]
        refine lv_istore (lv' := [(10, .int v88), (0, .ref hq), (1, .int a1), (2, .int a2), (3, .int a3), (4, .int a4), (5, .int v1), (6, .int cc), (7, .int v27), (8, .int vs), (9, .int vv)]) hx hb d_Search_siftVersions_89 hl (by decide) rfl (fun ls hl => ?_)
        refine w_cut (I := fun H' locs' g' => ∃ (xx : Int32) (zxx : Int) (ls : Array Slot), g' = F0 m 105 ls [.int xx] ∧ lv_has ls 17 [(0, .ref hq), (1, .int a1), (2, .int a2), (3, .int a3), (4, .int a4), (5, .int v1), (6, .int cc), (7, .int v27), (8, .int vs), (9, .int vv), (10, .int v88)] ∧ xx.toInt = zxx ∧ (zxx = if zcc = 1 ∨ zcc = 2 then FA else 0) ∧ va_P (dC, dI) vwCl [(hq, .inr (3, [.ref hp, .ref hst, .int lim, .int thd, .int md, .int v71, .int tmb, .int txb, .int tyb, .int sxb, .int syb, .ref hqf, .ref hkn, .int stp])), (hp, .inr (0, [.int pw, .int ph, .ref hw, .ref hs, .int psr])), (hs, .inl (kS, 263169, .inl fs)), (hst, .inr (2, [.ref ak, .ref ar, .int nnb])), (ak, .inl (cK, 300, .inl kfb)), (ar, .inl (cR, 300, .inl wfb)), (hqf, .inl (cQ, 4, .inl qfb)), (hkn, .inl (cN, 262144, .inr (.inl knb)))] H' ∧ va_D A [(hq, .inr (3, [.ref hp, .ref hst, .int lim, .int thd, .int md, .int v71, .int tmb, .int txb, .int tyb, .int sxb, .int syb, .ref hqf, .ref hkn, .int stp])), (hp, .inr (0, [.int pw, .int ph, .ref hw, .ref hs, .int psr])), (hs, .inl (kS, 263169, .inl fs)), (hst, .inr (2, [.ref ak, .ref ar, .int nnb])), (ak, .inl (cK, 300, .inl kfb)), (ar, .inl (cR, 300, .inl wfb)), (hqf, .inl (cQ, 4, .inl qfb)), (hkn, .inl (cN, 262144, .inr (.inl knb)))] ∧ va_S A s.heap H' locs') ?_ ?_
        · skip
          intro H105 locs g' hI
          obtain ⟨xx, zxx, ls, rfl, hl, hxx, ixx0, hP, hD, hS⟩ := hI
          refine lv_istore (lv' := [(11, .int xx), (0, .ref hq), (1, .int a1), (2, .int a2), (3, .int a3), (4, .int a4), (5, .int v1), (6, .int cc), (7, .int v27), (8, .int vs), (9, .int vv), (10, .int v88)]) hx hb d_Search_siftVersions_105 hl (by decide) rfl (fun ls hl => ?_)
          refine w_cut (I := fun H' locs' g' => ∃ (yy : Int32) (zyy : Int) (ls : Array Slot), g' = F0 m 121 ls [.int yy] ∧ lv_has ls 17 [(0, .ref hq), (1, .int a1), (2, .int a2), (3, .int a3), (4, .int a4), (5, .int v1), (6, .int cc), (7, .int v27), (8, .int vs), (9, .int vv), (10, .int v88), (11, .int xx)] ∧ yy.toInt = zyy ∧ (zyy = if 2 ≤ zcc then FA else 0) ∧ va_P (dC, dI) vwCl [(hq, .inr (3, [.ref hp, .ref hst, .int lim, .int thd, .int md, .int v71, .int tmb, .int txb, .int tyb, .int sxb, .int syb, .ref hqf, .ref hkn, .int stp])), (hp, .inr (0, [.int pw, .int ph, .ref hw, .ref hs, .int psr])), (hs, .inl (kS, 263169, .inl fs)), (hst, .inr (2, [.ref ak, .ref ar, .int nnb])), (ak, .inl (cK, 300, .inl kfb)), (ar, .inl (cR, 300, .inl wfb)), (hqf, .inl (cQ, 4, .inl qfb)), (hkn, .inl (cN, 262144, .inr (.inl knb)))] H' ∧ va_D A [(hq, .inr (3, [.ref hp, .ref hst, .int lim, .int thd, .int md, .int v71, .int tmb, .int txb, .int tyb, .int sxb, .int syb, .ref hqf, .ref hkn, .int stp])), (hp, .inr (0, [.int pw, .int ph, .ref hw, .ref hs, .int psr])), (hs, .inl (kS, 263169, .inl fs)), (hst, .inr (2, [.ref ak, .ref ar, .int nnb])), (ak, .inl (cK, 300, .inl kfb)), (ar, .inl (cR, 300, .inl wfb)), (hqf, .inl (cQ, 4, .inl qfb)), (hkn, .inl (cN, 262144, .inr (.inl knb)))] ∧ va_S A s.heap H' locs') ?_ ?_
          · skip
            intro H121 locs g' hI
            obtain ⟨yy, zyy, ls, rfl, hl, hyy, iyy0, hP, hD, hS⟩ := hI
            refine lv_istore (lv' := [(12, .int yy), (0, .ref hq), (1, .int a1), (2, .int a2), (3, .int a3), (4, .int a4), (5, .int v1), (6, .int cc), (7, .int v27), (8, .int vs), (9, .int vv), (10, .int v88), (11, .int xx)]) hx hb d_Search_siftVersions_121 hl (by decide) rfl (fun ls hl => ?_)
            have jxx : 0 ≤ zxx ∧ zxx ≤ FA := by rw [ixx0]; split <;> omega
            have jyy : 0 ≤ zyy ∧ zyy ≤ FA := by rw [iyy0]; split <;> omega
            have ixx : zxx = if zcc = 1 ∨ zcc = 2 then (17 + 4 * zvv - 7) * M else 0 := by rw [ixx0, kFA]
            have iyy : zyy = if 2 ≤ zcc then (17 + 4 * zvv - 7) * M else 0 := by rw [iyy0, kFA]
            have KX : ∀ _ : Unit, (zxx = if zcc = 1 ∨ zcc = 2 then (17 + 4 * zvv - 7) * M else 0) ∧ (zyy = if 2 ≤ zcc then (17 + 4 * zvv - 7) * M else 0) := fun _ => ⟨ixx, iyy⟩
            clear ixx0 iyy0 ixx iyy
            refine lv_iload_n hx hb d_Search_siftVersions_123 rfl (lv_at hl 4 rfl) ?_
            refine lv_iload hx hb d_Search_siftVersions_124 (lv_at hl 12 rfl) ?_
            refine lv_isub hx hb d_Search_siftVersions_126 ?_
            refine lv_topi (fun v126 e126 => ?_)
            have h126 : v126.toInt = RR - zxx := by rw [e126]; exact ti_sub g3 hxx (by omega) (by omega)
            refine lv_aload_n hx hb d_Search_siftVersions_127 rfl (lv_at hl 1 rfl) ?_
            refine va_get (D := (dC, dI)) (ci := 3) (v := .ref hp) (C := R_Search) (T := T_Search) (N := 14) hx hb hts i_Search hown hK hP 0 rfl rfl 0 (by decide) (hts _ wd_79) (fun _ h9 => h9) rfl d_Search_siftVersions_128 ?_
            refine va_get (D := (dC, dI)) (ci := 0) (v := .int pw) (C := R_Paper) (T := T_Paper) (N := 5) hx hb hts i_Paper hown hK hP 1 rfl rfl 0 (by decide) (hts _ wd_38) (fun _ h9 => h9) rfl d_Search_siftVersions_131 ?_
            refine lv_aload_n hx hb d_Search_siftVersions_134 rfl (lv_at hl 1 rfl) ?_
            refine va_get (D := (dC, dI)) (ci := 3) (v := .int v71) (C := R_Search) (T := T_Search) (N := 14) hx hb hts i_Search hown hK hP 0 rfl rfl 5 (by decide) (hts _ wd_86) (fun _ h9 => h9) rfl d_Search_siftVersions_135 ?_
            refine lv_aload_n hx hb d_Search_siftVersions_138 rfl (lv_at hl 1 rfl) ?_
            refine va_get (D := (dC, dI)) (ci := 3) (v := .int md) (C := R_Search) (T := T_Search) (N := 14) hx hb hts i_Search hown hK hP 0 rfl rfl 4 (by decide) (hts _ wd_85) (fun _ h9 => h9) rfl d_Search_siftVersions_139 ?_
            refine lv_imul hx hb d_Search_siftVersions_142 ?_
            refine lv_topi (fun v142 e142 => ?_)
            have h142 : v142.toInt = (17 + 4 * zvv) * M := by rw [e142]; exact ti_mul h71 hmd (by omega) (by omega)
            refine lv_isub hx hb d_Search_siftVersions_143 ?_
            refine lv_topi (fun v143 e143 => ?_)
            have h143 : v143.toInt = Wd - ((17 + 4 * zvv) * M) := by rw [e143]; exact ti_sub hpw h142 (by omega) (by omega)
            refine va_mmin hx hb (by rw [hml]; exact hl.1.symm) hown (hts _ wd_396) (hts _ wd_151) (hts _ wd_11) (hts _ wd_152) (Nat.le_of_ble_eq_true rfl) (Nat.le_of_ble_eq_true rfl) (Nat.le_of_ble_eq_true rfl) (Nat.le_of_ble_eq_true rfl) d_Search_siftVersions_144 ?_
            refine lv_topi (fun v144 e144 => ?_)
            have h144 : v144.toInt = min (RR - zxx) (Wd - ((17 + 4 * zvv) * M)) := by rw [e144]; exact ti_min h126 h143
            obtain ⟨R2, kR2⟩ : ∃ c : Int, c = (min (RR - zxx) (Wd - ((17 + 4 * zvv) * M))) := ⟨_, rfl⟩
            have h144 : v144.toInt = R2 := by rw [h144, kR2]
            refine lv_istore (lv' := [(13, .int v144), (12, .int yy), (0, .ref hq), (1, .int a1), (2, .int a2), (3, .int a3), (4, .int a4), (5, .int v1), (6, .int cc), (7, .int v27), (8, .int vs), (9, .int vv), (10, .int v88), (11, .int xx)]) hx hb d_Search_siftVersions_147 hl (by decide) rfl (fun ls hl => ?_)
            refine lv_iload hx hb d_Search_siftVersions_149 (lv_at hl 6 rfl) ?_
            refine lv_iload hx hb d_Search_siftVersions_151 (lv_at hl 1 rfl) ?_
            refine lv_isub hx hb d_Search_siftVersions_153 ?_
            refine lv_topi (fun v153 e153 => ?_)
            have h153 : v153.toInt = BO - zyy := by rw [e153]; exact ti_sub g4 hyy (by omega) (by omega)
            refine lv_aload_n hx hb d_Search_siftVersions_154 rfl (lv_at hl 2 rfl) ?_
            refine va_get (D := (dC, dI)) (ci := 3) (v := .ref hp) (C := R_Search) (T := T_Search) (N := 14) hx hb hts i_Search hown hK hP 0 rfl rfl 0 (by decide) (hts _ wd_79) (fun _ h9 => h9) rfl d_Search_siftVersions_155 ?_
            refine va_get (D := (dC, dI)) (ci := 0) (v := .int ph) (C := R_Paper) (T := T_Paper) (N := 5) hx hb hts i_Paper hown hK hP 1 rfl rfl 1 (by decide) (hts _ wd_41) (fun _ h9 => h9) rfl d_Search_siftVersions_158 ?_
            refine lv_aload_n hx hb d_Search_siftVersions_161 rfl (lv_at hl 2 rfl) ?_
            refine va_get (D := (dC, dI)) (ci := 3) (v := .int v71) (C := R_Search) (T := T_Search) (N := 14) hx hb hts i_Search hown hK hP 0 rfl rfl 5 (by decide) (hts _ wd_86) (fun _ h9 => h9) rfl d_Search_siftVersions_162 ?_
            refine lv_aload_n hx hb d_Search_siftVersions_165 rfl (lv_at hl 2 rfl) ?_
            refine va_get (D := (dC, dI)) (ci := 3) (v := .int md) (C := R_Search) (T := T_Search) (N := 14) hx hb hts i_Search hown hK hP 0 rfl rfl 4 (by decide) (hts _ wd_85) (fun _ h9 => h9) rfl d_Search_siftVersions_166 ?_
            refine lv_imul hx hb d_Search_siftVersions_169 ?_
            refine lv_topi (fun v169 e169 => ?_)
            have h169 : v169.toInt = (17 + 4 * zvv) * M := by rw [e169]; exact ti_mul h71 hmd (by omega) (by omega)
            refine lv_isub hx hb d_Search_siftVersions_170 ?_
            refine lv_topi (fun v170 e170 => ?_)
            have h170 : v170.toInt = Ht - ((17 + 4 * zvv) * M) := by rw [e170]; exact ti_sub hph h169 (by omega) (by omega)
            refine va_mmin hx hb (by rw [hml]; exact hl.1.symm) hown (hts _ wd_396) (hts _ wd_151) (hts _ wd_11) (hts _ wd_152) (Nat.le_of_ble_eq_true rfl) (Nat.le_of_ble_eq_true rfl) (Nat.le_of_ble_eq_true rfl) (Nat.le_of_ble_eq_true rfl) d_Search_siftVersions_171 ?_
            refine lv_topi (fun v171 e171 => ?_)
            have h171 : v171.toInt = min (BO - zyy) (Ht - ((17 + 4 * zvv) * M)) := by rw [e171]; exact ti_min h153 h170
            obtain ⟨B2, kB2⟩ : ∃ c : Int, c = (min (BO - zyy) (Ht - ((17 + 4 * zvv) * M))) := ⟨_, rfl⟩
            have h171 : v171.toInt = B2 := by rw [h171, kB2]
            refine lv_istore (lv' := [(14, .int v171), (13, .int v144), (12, .int yy), (0, .ref hq), (1, .int a1), (2, .int a2), (3, .int a3), (4, .int a4), (5, .int v1), (6, .int cc), (7, .int v27), (8, .int vs), (9, .int vv), (10, .int v88), (11, .int xx)]) hx hb d_Search_siftVersions_174 hl (by decide) rfl (fun ls hl => ?_)
            refine lv_iload_n hx hb d_Search_siftVersions_176 rfl (lv_at hl 4 rfl) ?_
            refine lv_iload hx hb d_Search_siftVersions_177 (lv_at hl 14 rfl) ?_
            refine lv_isub hx hb d_Search_siftVersions_179 ?_
            refine lv_topi (fun v179 e179 => ?_)
            have h179 : v179.toInt = L - zxx := by rw [e179]; exact ti_sub g1 hxx (by omega) (by omega)
            refine lv_iconst (v := 0) hx hb d_Search_siftVersions_180 (by decide) ?_
            refine va_mmax hx hb (by rw [hml]; exact hl.1.symm) hown (hts _ wd_422) (hts _ wd_148) (hts _ wd_11) (hts _ wd_149) (Nat.le_of_ble_eq_true rfl) (Nat.le_of_ble_eq_true rfl) (Nat.le_of_ble_eq_true rfl) (Nat.le_of_ble_eq_true rfl) d_Search_siftVersions_181 ?_
            refine lv_topi (fun v181 e181 => ?_)
            have h181 : v181.toInt = max (L - zxx) 0 := by rw [e181]; exact ti_max h179 (ti_k (by decide))
            obtain ⟨L2, kL2⟩ : ∃ c : Int, c = (max (L - zxx) 0) := ⟨_, rfl⟩
            have h181 : v181.toInt = L2 := by rw [h181, kL2]
            refine lv_istore (lv' := [(15, .int v181), (14, .int v171), (13, .int v144), (12, .int yy), (0, .ref hq), (1, .int a1), (2, .int a2), (3, .int a3), (4, .int a4), (5, .int v1), (6, .int cc), (7, .int v27), (8, .int vs), (9, .int vv), (10, .int v88), (11, .int xx)]) hx hb d_Search_siftVersions_184 hl (by decide) rfl (fun ls hl => ?_)
            refine lv_iload_n hx hb d_Search_siftVersions_186 rfl (lv_at hl 6 rfl) ?_
            refine lv_iload hx hb d_Search_siftVersions_187 (lv_at hl 3 rfl) ?_
            refine lv_isub hx hb d_Search_siftVersions_189 ?_
            refine lv_topi (fun v189 e189 => ?_)
            have h189 : v189.toInt = T - zyy := by rw [e189]; exact ti_sub g2 hyy (by omega) (by omega)
            refine lv_iconst (v := 0) hx hb d_Search_siftVersions_190 (by decide) ?_
            refine va_mmax hx hb (by rw [hml]; exact hl.1.symm) hown (hts _ wd_422) (hts _ wd_148) (hts _ wd_11) (hts _ wd_149) (Nat.le_of_ble_eq_true rfl) (Nat.le_of_ble_eq_true rfl) (Nat.le_of_ble_eq_true rfl) (Nat.le_of_ble_eq_true rfl) d_Search_siftVersions_191 ?_
            refine lv_topi (fun v191 e191 => ?_)
            have h191 : v191.toInt = max (T - zyy) 0 := by rw [e191]; exact ti_max h189 (ti_k (by decide))
            obtain ⟨T2, kT2⟩ : ∃ c : Int, c = (max (T - zyy) 0) := ⟨_, rfl⟩
            have h191 : v191.toInt = T2 := by rw [h191, kT2]
            have bK : 0 ≤ L2 ∧ L - zxx ≤ L2 ∧ 0 ≤ T2 ∧ T - zyy ≤ T2 ∧ R2 ≤ RR - zxx ∧ R2 ≤ Wd - (17 + 4 * zvv) * M ∧ B2 ≤ BO - zyy ∧ B2 ≤ Ht - (17 + 4 * zvv) * M := by omega
            have KK : ∀ _ : Unit, L2 = max (L - zxx) 0 ∧ T2 = max (T - zyy) 0 ∧ R2 = min (RR - zxx) (Wd - (17 + 4 * zvv) * M) ∧ B2 = min (BO - zyy) (Ht - (17 + 4 * zvv) * M) := fun _ => ⟨kL2, kT2, kR2, kB2⟩
            clear kL2 kT2 kR2 kB2
            refine lv_istore (lv' := [(16, .int v191), (15, .int v181), (14, .int v171), (13, .int v144), (12, .int yy), (0, .ref hq), (1, .int a1), (2, .int a2), (3, .int a3), (4, .int a4), (5, .int v1), (6, .int cc), (7, .int v27), (8, .int vs), (9, .int vv), (10, .int v88), (11, .int xx)]) hx hb d_Search_siftVersions_194 hl (by decide) rfl (fun ls hl => ?_)
            refine lv_aload_n hx hb d_Search_siftVersions_196 rfl (lv_at hl 5 rfl) ?_
            refine lv_iload hx hb d_Search_siftVersions_197 (lv_at hl 11 rfl) ?_
            refine lv_iload hx hb d_Search_siftVersions_199 (lv_at hl 12 rfl) ?_
            refine lv_iload hx hb d_Search_siftVersions_201 (lv_at hl 1 rfl) ?_
            refine lv_iload hx hb d_Search_siftVersions_203 (lv_at hl 0 rfl) ?_
            refine lv_iload hx hb d_Search_siftVersions_205 (lv_at hl 3 rfl) ?_
            refine lv_iload hx hb d_Search_siftVersions_207 (lv_at hl 2 rfl) ?_
            refine lv_iconst (v := 0) hx hb d_Search_siftVersions_209 (by decide) ?_
            have hPc := hP.sub (ws' := [(hq, .inr (3, [.ref hp, .ref hst, .int lim, .int thd, .int md, .int v71, .int tmb, .int txb, .int tyb, .int sxb, .int syb, .ref hqf, .ref hkn, .int stp])), (hp, .inr (0, [.int pw, .int ph, .ref hw, .ref hs, .int psr])), (hs, .inl (kS, 263169, .inl fs)), (hst, .inr (2, [.ref ak, .ref ar, .int nnb])), (ak, .inl (cK, 300, .inl kfb)), (ar, .inl (cR, 300, .inl wfb)), (hqf, .inl (cQ, 4, .inl qfb)), (hkn, .inl (cN, 262144, .inr (.inl knb)))]) [0, 1, 2, 3, 4, 5, 6, 7] rfl
            have hKc := hK.sub (tys' := [(kS, .int), (cK, .int), (cR, .int), (cQ, .int), (cN, .long)]) [0, 1, 2, 3, 4] rfl
            have hDc := hD.sub (ws' := [(hq, .inr (3, [.ref hp, .ref hst, .int lim, .int thd, .int md, .int v71, .int tmb, .int txb, .int tyb, .int sxb, .int syb, .ref hqf, .ref hkn, .int stp])), (hp, .inr (0, [.int pw, .int ph, .ref hw, .ref hs, .int psr])), (hs, .inl (kS, 263169, .inl fs)), (hst, .inr (2, [.ref ak, .ref ar, .int nnb])), (ak, .inl (cK, 300, .inl kfb)), (ar, .inl (cR, 300, .inl wfb)), (hqf, .inl (cQ, 4, .inl qfb)), (hkn, .inl (cN, 262144, .inr (.inl knb)))]) [0, 1, 2, 3, 4, 5, 6, 7] (by decide) rfl
            have hFc := va_free (wc := [(hq, .inr (3, [.ref hp, .ref hst, .int lim, .int thd, .int md, .int v71, .int tmb, .int txb, .int tyb, .int sxb, .int syb, .ref hqf, .ref hkn, .int stp])), (hp, .inr (0, [.int pw, .int ph, .ref hw, .ref hs, .int psr])), (hs, .inl (kS, 263169, .inl fs)), (hst, .inr (2, [.ref ak, .ref ar, .int nnb])), (ak, .inl (cK, 300, .inl kfb)), (ar, .inl (cR, 300, .inl wfb)), (hqf, .inl (cQ, 4, .inl qfb)), (hkn, .inl (cN, 262144, .inr (.inl knb)))]) hD hS hA [0, 1, 2, 3, 4, 5, 6, 7] rfl
            refine va_callv (va_runV (As := [.int cc, .int v27, .int v181, .int v191, .int v144, .int v171, .int 0]) (rest := []) ⟨hx, hb, hml, hown, hts⟩ (c_siftPlaces 9 l dC dI H121.size hq hp hw hs hst hqf hkn kS pw ph psr lim thd md v71 tmb txb tyb sxb syb stp fs Wd Ht M (17 + 4 * zvv) D hpw hph hmd h71 hW1 hW2 hH1 hH2 hM1 hM2 hsum cN knb ST hst0 hst1 hst2 iKNb LIM hlim hL0 hL1 zvv rfl (by omega) (by omega) THD hthd hTHD ak ar cK cR nnb kfb wfb znb hnb AL (orF F (tvF D Wd Ht LIM THD M L T RR BO zcc zvv)) iSRb cQ qfb cc v27 v181 v191 v144 v171 0 zcc Qs L2 T2 R2 B2 0 hcc h27 h181 h191 h144 h171 (ti_k (by decide)) (by omega) (by omega) Q0 Q1 hQq (by omega) (by omega) (by omega) (by omega) (by omega) (by omega) (by omega) (by omega) (sv_al hAL hdis) (sv_dis hdis (fun x y m v q g => (tv_step (by omega) (by omega) (by omega) (by omega) (KX ()).1 (KX ()).2 (KK ()).1 (KK ()).2.1 (KK ()).2.2.1 (KK ()).2.2.2 Qb).mp (Or.inr g)) (fun _ _ _ _ _ => tv_new))) (aw_V 7 hts wd_445 wd_447 ws_15 wd_2 wd_448 rfl rfl (by decide +kernel) ⟨Nat.le_of_ble_eq_true rfl, Nat.le_of_ble_eq_true rfl⟩) ⟨rw_blind, va_recv hKc hPc (ci := 3) (q0 := 0) rfl rfl, rw_pre hPc hKc hDc⟩ rfl rfl hl.1 rfl (lv_room (Nat.le_of_ble_eq_true rfl)) d_Search_siftVersions_210 ⟨Nat.le_of_ble_eq_true rfl, Nat.le_of_ble_eq_true rfl⟩) hS (fun q _ h => hFc q h) hFc (fun u t9 H210 locs ht hvm h210 hB hz1 hk1 hS => ?_)
            obtain ⟨u210_tm, u210_tx, u210_ty, u210_sx, u210_sy, u210_cnt, u210_kf, u210_wf, u210_qf, u210_kn⟩ := u
            obtain ⟨hP1, _, hD1⟩ := hB
            rw [ht] at hP1
            try dsimp only at h210 hP1 hD1
            obtain ⟨hP, hD⟩ := va_join (wr := []) (w1 := [(hq, .inr (3, [.ref hp, .ref hst, .int lim, .int thd, .int md, .int v71, .int u210_tm, .int u210_tx, .int u210_ty, .int u210_sx, .int u210_sy, .ref hqf, .ref hkn, .int stp])), (hp, .inr (0, [.int pw, .int ph, .ref hw, .ref hs, .int psr])), (hs, .inl (kS, 263169, .inl fs)), (hst, .inr (2, [.ref ak, .ref ar, .int u210_cnt])), (ak, .inl (cK, 300, .inl u210_kf)), (ar, .inl (cR, 300, .inl u210_wf)), (hqf, .inl (cQ, 4, .inl u210_qf)), (hkn, .inl (cN, 262144, .inr (.inl u210_kn)))]) hP hD [0, 1, 2, 3, 4, 5, 6, 7] [] rfl rfl (by decide) (by decide) hk1 hFc hP1 hD1
            have hP := hP.sub (ws' := [(hq, .inr (3, [.ref hp, .ref hst, .int lim, .int thd, .int md, .int v71, .int u210_tm, .int u210_tx, .int u210_ty, .int u210_sx, .int u210_sy, .ref hqf, .ref hkn, .int stp])), (hp, .inr (0, [.int pw, .int ph, .ref hw, .ref hs, .int psr])), (hs, .inl (kS, 263169, .inl fs)), (hst, .inr (2, [.ref ak, .ref ar, .int u210_cnt])), (ak, .inl (cK, 300, .inl u210_kf)), (ar, .inl (cR, 300, .inl u210_wf)), (hqf, .inl (cQ, 4, .inl u210_qf)), (hkn, .inl (cN, 262144, .inr (.inl u210_kn)))]) [0, 1, 2, 3, 4, 5, 6, 7] rfl
            have hD := hD.sub (ws' := [(hq, .inr (3, [.ref hp, .ref hst, .int lim, .int thd, .int md, .int v71, .int u210_tm, .int u210_tx, .int u210_ty, .int u210_sx, .int u210_sy, .ref hqf, .ref hkn, .int stp])), (hp, .inr (0, [.int pw, .int ph, .ref hw, .ref hs, .int psr])), (hs, .inl (kS, 263169, .inl fs)), (hst, .inr (2, [.ref ak, .ref ar, .int u210_cnt])), (ak, .inl (cK, 300, .inl u210_kf)), (ar, .inl (cR, 300, .inl u210_wf)), (hqf, .inl (cQ, 4, .inl u210_qf)), (hkn, .inl (cN, 262144, .inr (.inl u210_kn)))]) [0, 1, 2, 3, 4, 5, 6, 7] (by decide) rfl
            clear hPc hKc hDc hFc ht hvm hz1 hk1 hP1 hD1
            obtain ⟨v213, e213⟩ : ∃ y : Int32, y = vv + 1 := ⟨_, rfl⟩
            have h213 : v213.toInt = zvv + 1 := by rw [e213]; exact ti_add hvv (ti_k (by decide)) (by omega) (by omega)
            refine lv_iinc (v := v213) (lv' := [(9, .int v213), (16, .int v191), (15, .int v181), (14, .int v171), (13, .int v144), (12, .int yy), (0, .ref hq), (1, .int a1), (2, .int a2), (3, .int a3), (4, .int a4), (5, .int v1), (6, .int cc), (7, .int v27), (8, .int vs), (10, .int v88), (11, .int xx)]) hx hb d_Search_siftVersions_213 hl (k := 14) rfl (by rw [e213]; rfl) (by decide) rfl (fun ls hl => ?_)
            refine lv_goto (tgt := 61) hx hb d_Search_siftVersions_216 (by decide) ?_
            exact ih61 _ (by omega) _ _ _ ⟨v213, (zvv + 1), u210_tm, v71, (17 + 4 * zvv), u210_tx, u210_ty, u210_sx, u210_sy, u210_cnt, (u210_cnt.toInt), u210_kf, u210_wf, u210_qf, u210_kn, ls, rfl, lv_sub hl [6, 7, 8, 9, 10, 11, 12, 13, 14, 0] rfl, rfl, h213, by omega, h71, by omega, rfl, SR_congr h210.1 (fun _ _ _ _ _ => or_or (fun _ _ _ _ _ => tv_step (by omega) (by omega) (by omega) (by omega) (KX ()).1 (KX ()).2 (KK ()).1 (KK ()).2.1 (KK ()).2.2.1 (KK ()).2.2.2 Qb)), h210.2, hP, hD, hS⟩
          · skip
            intro hj121
            refine lv_iload hx hb d_Search_siftVersions_107 (lv_at hl 7 rfl) ?_
            have hPc := hP.sub (ws' := []) [] rfl
            have hKc := hK.sub (tys' := []) [] rfl
            refine va_calli (va_runS (As := [.int cc]) (rest := []) ⟨hx, hb, hml, hown, hts⟩ (c_isLow l dC dI cc zcc hcc) (aw_S 1 hts wd_442 wd_443 wd_2 wd_444 rfl rfl (by decide +kernel) ⟨Nat.le_of_ble_eq_true rfl, Nat.le_of_ble_eq_true rfl⟩) ⟨ro_blind, ro_pre hPc hKc⟩ rfl rfl hl.1 rfl (lv_room (Nat.le_of_ble_eq_true rfl)) d_Search_siftVersions_109 ⟨Nat.le_of_ble_eq_true rfl, Nat.le_of_ble_eq_true rfl⟩) hS (fun q _ h => h.elim) (fun q h => h.elim) (fun v109 _ t9 H109 locs ht hvm h109 hB hz1 hk1 hS => ?_)
            have hP := ro_keep hP hk1
            clear hPc hKc ht hvm hB hz1 hk1
            refine lv_if_eq (tgt := 120) hx hb d_Search_siftVersions_112 (by decide) (fun c112 => ?_) (fun c112 => ?_)
            · skip
              have c112 : ¬ (2 ≤ zcc) := bi_z h109 c112
              refine lv_iconst (v := 0) hx hb d_Search_siftVersions_120 (by decide) ?_
              exact hj121 _ _ _ ⟨0, 0, ls, rfl, lv_sub hl [1, 2, 3, 4, 5, 6, 7, 8, 9, 10, 11, 0] rfl, (ti_k (by decide)), by first | rw [if_pos c112] | rw [if_neg c112], hP, hD, hS⟩
            · skip
              have c112 : 2 ≤ zcc := bi_nz h109 c112
              refine lv_iload hx hb d_Search_siftVersions_115 (lv_at hl 11 rfl) ?_
              refine lv_goto (tgt := 121) hx hb d_Search_siftVersions_117 (by decide) ?_
              exact hj121 _ _ _ ⟨v88, FA, ls, rfl, lv_sub hl [1, 2, 3, 4, 5, 6, 7, 8, 9, 10, 11, 0] rfl, h88, by first | rw [if_pos c112] | rw [if_neg c112], hP, hD, hS⟩
        · skip
          intro hj105
          refine lv_iload hx hb d_Search_siftVersions_91 (lv_at hl 7 rfl) ?_
          have hPc := hP.sub (ws' := []) [] rfl
          have hKc := hK.sub (tys' := []) [] rfl
          refine va_calli (va_runS (As := [.int cc]) (rest := []) ⟨hx, hb, hml, hown, hts⟩ (c_isRight l dC dI cc zcc hcc) (aw_S 1 hts wd_439 wd_440 wd_2 wd_441 rfl rfl (by decide +kernel) ⟨Nat.le_of_ble_eq_true rfl, Nat.le_of_ble_eq_true rfl⟩) ⟨ro_blind, ro_pre hPc hKc⟩ rfl rfl hl.1 rfl (lv_room (Nat.le_of_ble_eq_true rfl)) d_Search_siftVersions_93 ⟨Nat.le_of_ble_eq_true rfl, Nat.le_of_ble_eq_true rfl⟩) hS (fun q _ h => h.elim) (fun q h => h.elim) (fun v93 _ t9 H93 locs ht hvm h93 hB hz1 hk1 hS => ?_)
          have hP := ro_keep hP hk1
          clear hPc hKc ht hvm hB hz1 hk1
          refine lv_if_eq (tgt := 104) hx hb d_Search_siftVersions_96 (by decide) (fun c96 => ?_) (fun c96 => ?_)
          · skip
            have c96 : ¬ (zcc = 1 ∨ zcc = 2) := bi_z h93 c96
            refine lv_iconst (v := 0) hx hb d_Search_siftVersions_104 (by decide) ?_
            exact hj105 _ _ _ ⟨0, 0, ls, rfl, lv_sub hl [1, 2, 3, 4, 5, 6, 7, 8, 9, 10, 0] rfl, (ti_k (by decide)), by first | rw [if_pos c96] | rw [if_neg c96], hP, hD, hS⟩
          · skip
            have c96 : zcc = 1 ∨ zcc = 2 := bi_nz h93 c96
            refine lv_iload hx hb d_Search_siftVersions_99 (lv_at hl 0 rfl) ?_
            refine lv_goto (tgt := 105) hx hb d_Search_siftVersions_101 (by decide) ?_
            exact hj105 _ _ _ ⟨v88, FA, ls, rfl, lv_sub hl [1, 2, 3, 4, 5, 6, 7, 8, 9, 10, 0] rfl, h88, by first | rw [if_pos c96] | rw [if_neg c96], hP, hD, hS⟩
    · skip
      intro hj56
      refine lv_iload hx hb d_Search_siftVersions_30 (lv_at hl 6 rfl) ?_
      refine lv_if_eq (tgt := 54) hx hb d_Search_siftVersions_32 (by decide) (fun c32 => ?_) (fun c32 => ?_)
      · skip
        have c32 : ¬ (RR - L = 0 ∧ BO - T = 0) := bi_z h1 c32
        refine lv_bipush (v := 40) hx hb d_Search_siftVersions_54 (by decide) ?_
        exact hj56 _ _ _ ⟨40, 40, kna, ls, rfl, lv_sub hl [1, 2, 3, 4, 5, 6, 7, 0] rfl, (ti_k (by decide)), Or.inl rfl, iKNa, hP, hD, hS⟩
      · skip
        have c32 : RR - L = 0 ∧ BO - T = 0 := bi_nz h1 c32
        refine lv_aload_n hx hb d_Search_siftVersions_35 rfl (lv_at hl 1 rfl) ?_
        refine lv_iload hx hb d_Search_siftVersions_36 (lv_at hl 7 rfl) ?_
        refine lv_iload_n hx hb d_Search_siftVersions_38 rfl (lv_at hl 2 rfl) ?_
        refine lv_iload_n hx hb d_Search_siftVersions_39 rfl (lv_at hl 3 rfl) ?_
        have hPc := hP.sub (ws' := [(hq, .inr (3, [.ref hp, .ref hst, .int lim, .int thd, .int md, .int sza, .int tma, .int txa, .int tya, .int sxa, .int sya, .ref hqf, .ref hkn, .int stp])), (hp, .inr (0, [.int pw, .int ph, .ref hw, .ref hs, .int psr])), (hs, .inl (kS, 263169, .inl fs)), (hkn, .inl (cN, 262144, .inr (.inl kna)))]) [0, 1, 2, 7] rfl
        have hKc := hK.sub (tys' := [(kS, .int), (cN, .long)]) [0, 4] rfl
        have hDc := hD.sub (ws' := [(hq, .inr (3, [.ref hp, .ref hst, .int lim, .int thd, .int md, .int sza, .int tma, .int txa, .int tya, .int sxa, .int sya, .ref hqf, .ref hkn, .int stp])), (hp, .inr (0, [.int pw, .int ph, .ref hw, .ref hs, .int psr])), (hs, .inl (kS, 263169, .inl fs)), (hkn, .inl (cN, 262144, .inr (.inl kna)))]) [0, 1, 2, 7] (by decide) rfl
        have hFc := va_free (wc := [(hq, .inr (3, [.ref hp, .ref hst, .int lim, .int thd, .int md, .int sza, .int tma, .int txa, .int tya, .int sxa, .int sya, .ref hqf, .ref hkn, .int stp])), (hp, .inr (0, [.int pw, .int ph, .ref hw, .ref hs, .int psr])), (hs, .inl (kS, 263169, .inl fs)), (hkn, .inl (cN, 262144, .inr (.inl kna)))]) hD hS hA [0, 1, 2, 7] rfl
        refine va_calli (va_runV (As := [.int cc, .int a1, .int a2]) (rest := []) ⟨hx, hb, hml, hown, hts⟩ (c_cornerWrong l dC dI H9.size hq hp hw hs hst hqf hkn kS pw ph psr lim thd md sza tma txa tya sxa sya stp fs Wd Ht M zsza D hpw hph hmd hsza hW1 hW2 hH1 hH2 hM1 hM2 hsum cN kna ST hst0 hst1 hst2 iKNa cc a1 a2 zcc L T hcc g1 g2 (by omega) (by omega) (by omega) (by omega) (by omega) (by omega)) (aw_V 3 hts wd_435 wd_437 ws_14 wd_2 wd_438 rfl rfl (by decide +kernel) ⟨Nat.le_of_ble_eq_true rfl, Nat.le_of_ble_eq_true rfl⟩) ⟨rw_blind, va_recv hKc hPc (ci := 3) (q0 := 0) rfl rfl, rw_pre hPc hKc hDc⟩ rfl rfl hl.1 rfl (lv_room (Nat.le_of_ble_eq_true rfl)) d_Search_siftVersions_40 ⟨Nat.le_of_ble_eq_true rfl, Nat.le_of_ble_eq_true rfl⟩) hS (fun q _ h => hFc q h) hFc (fun v40 u40_kn t9 H40 locs ht hvm h40 hB hz1 hk1 hS => ?_)
        obtain ⟨hP1, _, hD1⟩ := hB
        rw [ht] at hP1
        try dsimp only at h40 hP1 hD1
        obtain ⟨hP, hD⟩ := va_join (wr := [(hst, .inr (2, [.ref ak, .ref ar, .int nna])), (ak, .inl (cK, 300, .inl kfa)), (ar, .inl (cR, 300, .inl wfa)), (hqf, .inl (cQ, 4, .inl qfa))]) (w1 := [(hq, .inr (3, [.ref hp, .ref hst, .int lim, .int thd, .int md, .int sza, .int tma, .int txa, .int tya, .int sxa, .int sya, .ref hqf, .ref hkn, .int stp])), (hp, .inr (0, [.int pw, .int ph, .ref hw, .ref hs, .int psr])), (hs, .inl (kS, 263169, .inl fs)), (hkn, .inl (cN, 262144, .inr (.inl u40_kn)))]) hP hD [0, 1, 2, 7] [3, 4, 5, 6] rfl rfl (by decide) (by decide) hk1 hFc hP1 hD1
        have hP := hP.sub (ws' := [(hq, .inr (3, [.ref hp, .ref hst, .int lim, .int thd, .int md, .int sza, .int tma, .int txa, .int tya, .int sxa, .int sya, .ref hqf, .ref hkn, .int stp])), (hp, .inr (0, [.int pw, .int ph, .ref hw, .ref hs, .int psr])), (hs, .inl (kS, 263169, .inl fs)), (hst, .inr (2, [.ref ak, .ref ar, .int nna])), (ak, .inl (cK, 300, .inl kfa)), (ar, .inl (cR, 300, .inl wfa)), (hqf, .inl (cQ, 4, .inl qfa)), (hkn, .inl (cN, 262144, .inr (.inl u40_kn)))]) [4, 5, 6, 0, 1, 2, 3, 7] rfl
        have hD := hD.sub (ws' := [(hq, .inr (3, [.ref hp, .ref hst, .int lim, .int thd, .int md, .int sza, .int tma, .int txa, .int tya, .int sxa, .int sya, .ref hqf, .ref hkn, .int stp])), (hp, .inr (0, [.int pw, .int ph, .ref hw, .ref hs, .int psr])), (hs, .inl (kS, 263169, .inl fs)), (hst, .inr (2, [.ref ak, .ref ar, .int nna])), (ak, .inl (cK, 300, .inl kfa)), (ar, .inl (cR, 300, .inl wfa)), (hqf, .inl (cQ, 4, .inl qfa)), (hkn, .inl (cN, 262144, .inr (.inl u40_kn)))]) [4, 5, 6, 0, 1, 2, 3, 7] (by decide) rfl
        clear hPc hKc hDc hFc ht hvm hz1 hk1 hP1 hD1
        refine lv_aload_n hx hb d_Search_siftVersions_43 rfl (lv_at hl 1 rfl) ?_
        refine va_get (D := (dC, dI)) (ci := 3) (v := .int thd) (C := R_Search) (T := T_Search) (N := 14) hx hb hts i_Search hown hK hP 0 rfl rfl 3 (by decide) (hts _ wd_84) (fun _ h9 => h9) rfl d_Search_siftVersions_44 ?_
        refine lv_icmp_le (tgt := 54) hx hb d_Search_siftVersions_47 (by decide) (fun c47 => ?_) (fun c47 => ?_)
        · skip
          have c47 : (cwR D Wd Ht M zcc L T) ≤ THD := (ti_le h40.1 hthd).mp c47
          refine lv_bipush (v := 40) hx hb d_Search_siftVersions_54 (by decide) ?_
          exact hj56 _ _ _ ⟨40, 40, u40_kn, ls, rfl, lv_sub hl [1, 2, 3, 4, 5, 6, 7, 0] rfl, (ti_k (by decide)), Or.inl rfl, h40.2, hP, hD, hS⟩
        · skip
          have c47 : ¬ ((cwR D Wd Ht M zcc L T) ≤ THD) := fun q => c47 ((ti_le h40.1 hthd).mpr q)
          refine lv_iconst (v := 0) hx hb d_Search_siftVersions_50 (by decide) ?_
          refine lv_goto (tgt := 56) hx hb d_Search_siftVersions_51 (by decide) ?_
          exact hj56 _ _ _ ⟨0, 0, u40_kn, ls, rfl, lv_sub hl [1, 2, 3, 4, 5, 6, 7, 0] rfl, (ti_k (by decide)), Or.inr ⟨rfl, by
              have e1 : RR = L := by omega
              have e2 : BO = T := by omega
              rw [e1, e2]; exact tv_far (by omega) (by omega) (by omega) (by omega) (by omega)⟩, h40.2, hP, hD, hS⟩
