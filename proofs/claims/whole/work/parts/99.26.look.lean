set_option maxHeartbeats 4000000 in
set_option maxRecDepth 100000 in
theorem c_look (l : Launch) (dC : Nat → ClassId) (dI : Nat → Nat → Nat) (sz : Nat) (hq hp hw hs hst hqf hkn : Nat) (kS : ClassId) (pw ph psr lim thd md sz0 tm tx ty sx sy stp : Int32) (fs : Nat → Int32) (Wd Ht S : Int) (D : Int → Int → Bool) (hpw : pw.toInt = Wd) (hph : ph.toInt = Ht) (hsz0 : sz0.toInt = S) (hW1 : 1 ≤ Wd) (hW2 : Wd ≤ 512) (hH1 : 1 ≤ Ht) (hH2 : Ht ≤ 512) (hsum : ∀ x y, 0 ≤ x → x ≤ Wd → 0 ≤ y → y ≤ Ht → (fs (y * 513 + x).toNat).toInt = cI D 0 0 x y) (hS0 : 0 ≤ S) (hS1 : S ≤ 177) (cN : ClassId) (kn : Nat → Int64) (ST M0 : Int) (D0 : Int → Int → Bool) (hst0 : stp.toInt = ST) (hst1 : 0 ≤ ST) (hst2 : ST < 8000000) (hkn0 : KN D0 M0 ST kn) (ak ar : Nat) (cK cR : ClassId) (cnt : Int32) (kf wf : Nat → Int32) (cQ : ClassId) (qf : Nat → Int32) (a1 a2 a3 : Int32) (le mo LIM : Int) (g1 : a1.toInt = le) (g2 : a2.toInt = mo) (g3 : a3.toInt = LIM) (l1 : 1 ≤ le) (lm : le ≤ mo) (m16 : mo ≤ 16) (hL0 : 0 ≤ LIM) (hL1 : LIM ≤ 500) : Met l y_Search_look (.code y_Search_look b_Search_look 6 (some .boolean) :: allw) ({ frames := 24, cells := 0, slots := 0, locals := 758 }) (va_Pc [.ref hq, .int a1, .int a2, .int a3] (rw_B (dC, dI) vwCl [(hq, .inr (3, [.ref hp, .ref hst, .int lim, .int thd, .int md, .int sz0, .int tm, .int tx, .int ty, .int sx, .int sy, .ref hqf, .ref hkn, .int stp])), (hp, .inr (0, [.int pw, .int ph, .ref hw, .ref hs, .int psr])), (hs, .inl (kS, 263169, .inl fs)), (hst, .inr (2, [.ref ak, .ref ar, .int cnt])), (ak, .inl (cK, 300, .inl kf)), (ar, .inl (cR, 300, .inl wf)), (hqf, .inl (cQ, 4, .inl qf)), (hkn, .inl (cN, 262144, .inr (.inl kn)))] [(kS, .int), (cK, .int), (cR, .int), (cQ, .int), (cN, .long)] sz)) (va_Qi (fun (r : Int32) (u : Int32 × Int32 × Int32 × Int32 × Int32 × Int32 × Int32 × Int32 × Int32 × Int32 × Int32 × (Nat → Int32) × (Nat → Int32) × (Nat → Int32) × (Nat → Int64)) => ((r = 1 ∧ clOK D u.2.2.2.2.2.2.2.2.2.2.2.1 u.2.2.2.2.2.2.2.2.2.2.2.2.1 (u.2.2.2.2.2.2.2.2.2.2.1 : Int32).toInt (alF D Wd Ht LIM le mo)) ∨ (r = 0 ∧ over D (alF D Wd Ht LIM le mo))) ∧ 0 ≤ (u.2.2.2.2.2.2.2.2.2.2.1 : Int32).toInt ∧ (u.2.2.2.2.2.2.2.2.2.2.1 : Int32).toInt ≤ 300 ∧ 0 ≤ (u.2.2.2.1 : Int32).toInt ∧ (u.2.2.2.1 : Int32).toInt ≤ 177 ∧ ST ≤ (u.2.2.2.2.2.2.2.2.2.1 : Int32).toInt ∧ (u.2.2.2.2.2.2.2.2.2.1 : Int32).toInt ≤ ST + 16 ∧ ∃ D9 M9, KN D9 M9 (u.2.2.2.2.2.2.2.2.2.1 : Int32).toInt u.2.2.2.2.2.2.2.2.2.2.2.2.2.2) (fun u t => rw_E (dC, dI) vwCl [(hq, .inr (3, [.ref hp, .ref hst, .int u.1, .int u.2.1, .int u.2.2.1, .int u.2.2.2.1, .int u.2.2.2.2.1, .int u.2.2.2.2.2.1, .int u.2.2.2.2.2.2.1, .int u.2.2.2.2.2.2.2.1, .int u.2.2.2.2.2.2.2.2.1, .ref hqf, .ref hkn, .int u.2.2.2.2.2.2.2.2.2.1])), (hp, .inr (0, [.int pw, .int ph, .ref hw, .ref hs, .int psr])), (hs, .inl (kS, 263169, .inl fs)), (hst, .inr (2, [.ref ak, .ref ar, .int u.2.2.2.2.2.2.2.2.2.2.1])), (ak, .inl (cK, 300, .inl u.2.2.2.2.2.2.2.2.2.2.2.1)), (ar, .inl (cR, 300, .inl u.2.2.2.2.2.2.2.2.2.2.2.2.1)), (hqf, .inl (cQ, 4, .inl u.2.2.2.2.2.2.2.2.2.2.2.2.2.1)), (hkn, .inl (cN, 262144, .inr (.inl u.2.2.2.2.2.2.2.2.2.2.2.2.2.2)))] [(kS, .int), (cK, .int), (cR, .int), (cQ, .int), (cN, .long)] (va_A [(hq, .inr (3, [.ref hp, .ref hst, .int lim, .int thd, .int md, .int sz0, .int tm, .int tx, .int ty, .int sx, .int sy, .ref hqf, .ref hkn, .int stp])), (hp, .inr (0, [.int pw, .int ph, .ref hw, .ref hs, .int psr])), (hs, .inl (kS, 263169, .inl fs)), (hst, .inr (2, [.ref ak, .ref ar, .int cnt])), (ak, .inl (cK, 300, .inl kf)), (ar, .inl (cR, 300, .inl wf)), (hqf, .inl (cQ, 4, .inl qf)), (hkn, .inl (cN, 262144, .inr (.inl kn)))] sz) t) (va_A [(hq, .inr (3, [.ref hp, .ref hst, .int lim, .int thd, .int md, .int sz0, .int tm, .int tx, .int ty, .int sx, .int sy, .ref hqf, .ref hkn, .int stp])), (hp, .inr (0, [.int pw, .int ph, .ref hw, .ref hs, .int psr])), (hs, .inl (kS, 263169, .inl fs)), (hst, .inr (2, [.ref ak, .ref ar, .int cnt])), (ak, .inl (cK, 300, .inl kf)), (ar, .inl (cR, 300, .inl wf)), (hqf, .inl (cQ, 4, .inl qf)), (hkn, .inl (cN, 262144, .inr (.inl kn)))] sz)) 0 0 (va_A [(hq, .inr (3, [.ref hp, .ref hst, .int lim, .int thd, .int md, .int sz0, .int tm, .int tx, .int ty, .int sx, .int sy, .ref hqf, .ref hkn, .int stp])), (hp, .inr (0, [.int pw, .int ph, .ref hw, .ref hs, .int psr])), (hs, .inl (kS, 263169, .inl fs)), (hst, .inr (2, [.ref ak, .ref ar, .int cnt])), (ak, .inl (cK, 300, .inl kf)), (ar, .inl (cR, 300, .inl wf)), (hqf, .inl (cQ, 4, .inl qf)), (hkn, .inl (cN, 262144, .inr (.inl kn)))] sz) := by
  refine Met.ofW (cc := b_Search_look) (maxL := 6) (ret := (some .boolean)) (by decide) rfl ?_
  intro p e s m args below meth c s₁ B hml hv
  obtain ⟨rfl, hsz, hP, hK, hD0⟩ := hv
  have hx := B.exec
  have hb := B.bytes
  have hr := B.returns
  have hts : ∀ w ∈ allw, w.before _ s = true := fun w h => atoms_spec (ws := .code y_Search_look b_Search_look 6 (some .boolean) :: allw) B.pre w (List.mem_cons_of_mem _ h)
  have hown : s.vm.findClass R_Search = some m.cls := findClass_of_methodNamed B.named
  have hlocks := B.notSynchronized
  subst hsz
  have hD := hD0.self (sz := s.heap.size)
  generalize hAe : va_A [(hq, .inr (3, [.ref hp, .ref hst, .int lim, .int thd, .int md, .int sz0, .int tm, .int tx, .int ty, .int sx, .int sy, .ref hqf, .ref hkn, .int stp])), (hp, .inr (0, [.int pw, .int ph, .ref hw, .ref hs, .int psr])), (hs, .inl (kS, 263169, .inl fs)), (hst, .inr (2, [.ref ak, .ref ar, .int cnt])), (ak, .inl (cK, 300, .inl kf)), (ar, .inl (cR, 300, .inl wf)), (hqf, .inl (cQ, 4, .inl qf)), (hkn, .inl (cN, 262144, .inr (.inl kn)))] s.heap.size = A at hD ⊢
  have hA : ∀ q : Nat, s.heap.size ≤ q → A q := fun q h => by rw [← hAe]; exact Or.inr h
  have hS : va_S A s.heap s.heap [] := va_S.rf
  have hP : va_P (dC, dI) vwCl [(hq, .inr (3, [.ref hp, .ref hst, .int lim, .int thd, .int md, .int sz0, .int tm, .int tx, .int ty, .int sx, .int sy, .ref hqf, .ref hkn, .int stp])), (hp, .inr (0, [.int pw, .int ph, .ref hw, .ref hs, .int psr])), (hs, .inl (kS, 263169, .inl fs)), (hst, .inr (2, [.ref ak, .ref ar, .int cnt])), (ak, .inl (cK, 300, .inl kf)), (ar, .inl (cR, 300, .inl wf)), (hqf, .inl (cQ, 4, .inl qf)), (hkn, .inl (cN, 262144, .inr (.inl kn)))] s.heap := hP
  have hl := lv_entry ([.ref hq, .int a1, .int a2, .int a3]) (n := 6) (Nat.le_of_ble_eq_true rfl)
  rw [lg_entry_eq]
  generalize (lg_sl ([.ref hq, .int a1, .int a2, .int a3]) ++ List.replicate (6 - (lg_sl ([.ref hq, .int a1, .int a2, .int a3])).length) Slot.unset).toArray = ls at hl ⊢
  have hl : lv_has ls 6 [(0, .ref hq), (1, .int a1), (2, .int a2), (3, .int a3)] := hl
  refine lv_aload_n hx hb d_Search_look_0 rfl (lv_at hl 0 rfl) ?_
  refine va_get (D := (dC, dI)) (ci := 3) (v := .ref hst) (C := R_Search) (T := T_Search) (N := 14) hx hb hts i_Search hown hK hP 0 rfl rfl 1 (by decide) (hts _ wd_81) (fun _ h9 => h9) rfl d_Search_look_1 ?_
  have hPc := hP.sub (ws' := [(hst, .inr (2, [.ref ak, .ref ar, .int cnt]))]) [3] rfl
  have hKc := hK.sub (tys' := []) [] rfl
  have hDc := hD.sub (ws' := [(hst, .inr (2, [.ref ak, .ref ar, .int cnt]))]) [3] (by decide) rfl
  have hFc := va_free (wc := [(hst, .inr (2, [.ref ak, .ref ar, .int cnt]))]) hD hS hA [3] rfl
  refine va_callv (va_runV (As := []) (rest := []) ⟨hx, hb, hml, hown, hts⟩ (c_clear l dC dI s.heap.size hst ak ar cnt) (aw_V 0 hts wd_395 wd_257 wd_258 wd_4 wd_259 rfl rfl (by decide +kernel) ⟨Nat.le_of_ble_eq_true rfl, Nat.le_of_ble_eq_true rfl⟩) ⟨rw_blind, va_recv hKc hPc (ci := 2) (q0 := 0) rfl rfl, rw_pre hPc hKc hDc⟩ rfl rfl hl.1 rfl (lv_room (Nat.le_of_ble_eq_true rfl)) d_Search_look_4 ⟨Nat.le_of_ble_eq_true rfl, Nat.le_of_ble_eq_true rfl⟩) hS (fun q _ h => hFc q h) hFc (fun u4_w t9 H4 locs ht hvm h4 hB hz1 hk1 hS => ?_)
  obtain ⟨hP1, _, hD1⟩ := hB
  rw [ht] at hP1
  try dsimp only at h4 hP1 hD1
  obtain ⟨hP, hD⟩ := va_join (wr := [(hq, .inr (3, [.ref hp, .ref hst, .int lim, .int thd, .int md, .int sz0, .int tm, .int tx, .int ty, .int sx, .int sy, .ref hqf, .ref hkn, .int stp])), (hp, .inr (0, [.int pw, .int ph, .ref hw, .ref hs, .int psr])), (hs, .inl (kS, 263169, .inl fs)), (ak, .inl (cK, 300, .inl kf)), (ar, .inl (cR, 300, .inl wf)), (hqf, .inl (cQ, 4, .inl qf)), (hkn, .inl (cN, 262144, .inr (.inl kn)))]) (w1 := [(hst, .inr (2, [.ref ak, .ref ar, .int 0]))]) hP hD [3] [0, 1, 2, 4, 5, 6, 7] rfl rfl (by decide) (by decide) hk1 hFc hP1 hD1
  have hP := hP.sub (ws' := [(hq, .inr (3, [.ref hp, .ref hst, .int lim, .int thd, .int md, .int sz0, .int tm, .int tx, .int ty, .int sx, .int sy, .ref hqf, .ref hkn, .int stp])), (hp, .inr (0, [.int pw, .int ph, .ref hw, .ref hs, .int psr])), (hs, .inl (kS, 263169, .inl fs)), (hst, .inr (2, [.ref ak, .ref ar, .int 0])), (ak, .inl (cK, 300, .inl kf)), (ar, .inl (cR, 300, .inl wf)), (hqf, .inl (cQ, 4, .inl qf)), (hkn, .inl (cN, 262144, .inr (.inl kn)))]) [0, 1, 2, 7, 3, 4, 5, 6] rfl
  have hD := hD.sub (ws' := [(hq, .inr (3, [.ref hp, .ref hst, .int lim, .int thd, .int md, .int sz0, .int tm, .int tx, .int ty, .int sx, .int sy, .ref hqf, .ref hkn, .int stp])), (hp, .inr (0, [.int pw, .int ph, .ref hw, .ref hs, .int psr])), (hs, .inl (kS, 263169, .inl fs)), (hst, .inr (2, [.ref ak, .ref ar, .int 0])), (ak, .inl (cK, 300, .inl kf)), (ar, .inl (cR, 300, .inl wf)), (hqf, .inl (cQ, 4, .inl qf)), (hkn, .inl (cN, 262144, .inr (.inl kn)))]) [0, 1, 2, 7, 3, 4, 5, 6] (by decide) rfl
  clear hPc hKc hDc hFc ht hvm hz1 hk1 hP1 hD1
  refine lv_aload_n hx hb d_Search_look_7 rfl (lv_at hl 0 rfl) ?_
  refine lv_iload_n hx hb d_Search_look_8 rfl (lv_at hl 3 rfl) ?_
  refine va_put (D := (dC, dI)) (ci := 3) (v := .int a3) (ty := .int) (C := R_Search) (T := T_Search) (N := 14) hx hb hts i_Search t_Search t_Search_ok n_Search hown hK hP hD hS 0 rfl rfl 2 (by decide) (hts _ wd_83) (fun _ h9 => h9) rfl (by decide +kernel) rfl rfl (Nat.le_of_ble_eq_true rfl) d_Search_look_9 (fun H9 locs hP hD hS => ?_)
  have hP : va_P (dC, dI) vwCl [(hq, .inr (3, [.ref hp, .ref hst, .int a3, .int thd, .int md, .int sz0, .int tm, .int tx, .int ty, .int sx, .int sy, .ref hqf, .ref hkn, .int stp])), (hp, .inr (0, [.int pw, .int ph, .ref hw, .ref hs, .int psr])), (hs, .inl (kS, 263169, .inl fs)), (hst, .inr (2, [.ref ak, .ref ar, .int 0])), (ak, .inl (cK, 300, .inl kf)), (ar, .inl (cR, 300, .inl wf)), (hqf, .inl (cQ, 4, .inl qf)), (hkn, .inl (cN, 262144, .inr (.inl kn)))] H9 := hP
  have hD : va_D A [(hq, .inr (3, [.ref hp, .ref hst, .int a3, .int thd, .int md, .int sz0, .int tm, .int tx, .int ty, .int sx, .int sy, .ref hqf, .ref hkn, .int stp])), (hp, .inr (0, [.int pw, .int ph, .ref hw, .ref hs, .int psr])), (hs, .inl (kS, 263169, .inl fs)), (hst, .inr (2, [.ref ak, .ref ar, .int 0])), (ak, .inl (cK, 300, .inl kf)), (ar, .inl (cR, 300, .inl wf)), (hqf, .inl (cQ, 4, .inl qf)), (hkn, .inl (cN, 262144, .inr (.inl kn)))] := hD
  refine lv_aload_n hx hb d_Search_look_12 rfl (lv_at hl 0 rfl) ?_
  refine lv_iload_n hx hb d_Search_look_13 rfl (lv_at hl 3 rfl) ?_
  refine lv_iconst (v := 3) hx hb d_Search_look_14 (by decide) ?_
  refine lv_idiv hx hb d_Search_look_15 (by decide) ?_
  refine lv_topi (fun v15 e15 => ?_)
  have h15 : v15.toInt = LIM / 3 := by rw [e15]; exact ti_div g3 (ti_k (by decide)) (by omega) (by omega)
  refine va_put (D := (dC, dI)) (ci := 3) (v := .int v15) (ty := .int) (C := R_Search) (T := T_Search) (N := 14) hx hb hts i_Search t_Search t_Search_ok n_Search hown hK hP hD hS 0 rfl rfl 3 (by decide) (hts _ wd_84) (fun _ h9 => h9) rfl (by decide +kernel) rfl rfl (Nat.le_of_ble_eq_true rfl) d_Search_look_16 (fun H16 locs hP hD hS => ?_)
  have hP : va_P (dC, dI) vwCl [(hq, .inr (3, [.ref hp, .ref hst, .int a3, .int v15, .int md, .int sz0, .int tm, .int tx, .int ty, .int sx, .int sy, .ref hqf, .ref hkn, .int stp])), (hp, .inr (0, [.int pw, .int ph, .ref hw, .ref hs, .int psr])), (hs, .inl (kS, 263169, .inl fs)), (hst, .inr (2, [.ref ak, .ref ar, .int 0])), (ak, .inl (cK, 300, .inl kf)), (ar, .inl (cR, 300, .inl wf)), (hqf, .inl (cQ, 4, .inl qf)), (hkn, .inl (cN, 262144, .inr (.inl kn)))] H16 := hP
  have hD : va_D A [(hq, .inr (3, [.ref hp, .ref hst, .int a3, .int v15, .int md, .int sz0, .int tm, .int tx, .int ty, .int sx, .int sy, .ref hqf, .ref hkn, .int stp])), (hp, .inr (0, [.int pw, .int ph, .ref hw, .ref hs, .int psr])), (hs, .inl (kS, 263169, .inl fs)), (hst, .inr (2, [.ref ak, .ref ar, .int 0])), (ak, .inl (cK, 300, .inl kf)), (ar, .inl (cR, 300, .inl wf)), (hqf, .inl (cQ, 4, .inl qf)), (hkn, .inl (cN, 262144, .inr (.inl kn)))] := hD
  refine lv_aload_n hx hb d_Search_look_19 rfl (lv_at hl 0 rfl) ?_
  refine lv_iconst (v := 0) hx hb d_Search_look_20 (by decide) ?_
  refine va_put (D := (dC, dI)) (ci := 3) (v := .int 0) (ty := .boolean) (C := R_Search) (T := T_Search) (N := 14) hx hb hts i_Search t_Search t_Search_ok n_Search hown hK hP hD hS 0 rfl rfl 6 (by decide) (hts _ wd_87) (fun _ h9 => h9) rfl (by decide +kernel) rfl rfl (Nat.le_of_ble_eq_true rfl) d_Search_look_21 (fun H21 locs hP hD hS => ?_)
  have hP : va_P (dC, dI) vwCl [(hq, .inr (3, [.ref hp, .ref hst, .int a3, .int v15, .int md, .int sz0, .int 0, .int tx, .int ty, .int sx, .int sy, .ref hqf, .ref hkn, .int stp])), (hp, .inr (0, [.int pw, .int ph, .ref hw, .ref hs, .int psr])), (hs, .inl (kS, 263169, .inl fs)), (hst, .inr (2, [.ref ak, .ref ar, .int 0])), (ak, .inl (cK, 300, .inl kf)), (ar, .inl (cR, 300, .inl wf)), (hqf, .inl (cQ, 4, .inl qf)), (hkn, .inl (cN, 262144, .inr (.inl kn)))] H21 := hP
  have hD : va_D A [(hq, .inr (3, [.ref hp, .ref hst, .int a3, .int v15, .int md, .int sz0, .int 0, .int tx, .int ty, .int sx, .int sy, .ref hqf, .ref hkn, .int stp])), (hp, .inr (0, [.int pw, .int ph, .ref hw, .ref hs, .int psr])), (hs, .inl (kS, 263169, .inl fs)), (hst, .inr (2, [.ref ak, .ref ar, .int 0])), (ak, .inl (cK, 300, .inl kf)), (ar, .inl (cR, 300, .inl wf)), (hqf, .inl (cQ, 4, .inl qf)), (hkn, .inl (cN, 262144, .inr (.inl kn)))] := hD
  refine lv_aload_n hx hb d_Search_look_24 rfl (lv_at hl 0 rfl) ?_
  refine va_get (D := (dC, dI)) (ci := 3) (v := .ref hp) (C := R_Search) (T := T_Search) (N := 14) hx hb hts i_Search hown hK hP 0 rfl rfl 0 (by decide) (hts _ wd_79) (fun _ h9 => h9) rfl d_Search_look_25 ?_
  refine va_get (D := (dC, dI)) (ci := 0) (v := .int pw) (C := R_Paper) (T := T_Paper) (N := 5) hx hb hts i_Paper hown hK hP 1 rfl rfl 0 (by decide) (hts _ wd_38) (fun _ h9 => h9) rfl d_Search_look_28 ?_
  refine lv_aload_n hx hb d_Search_look_31 rfl (lv_at hl 0 rfl) ?_
  refine va_get (D := (dC, dI)) (ci := 3) (v := .ref hp) (C := R_Search) (T := T_Search) (N := 14) hx hb hts i_Search hown hK hP 0 rfl rfl 0 (by decide) (hts _ wd_79) (fun _ h9 => h9) rfl d_Search_look_32 ?_
  refine va_get (D := (dC, dI)) (ci := 0) (v := .int ph) (C := R_Paper) (T := T_Paper) (N := 5) hx hb hts i_Paper hown hK hP 1 rfl rfl 1 (by decide) (hts _ wd_41) (fun _ h9 => h9) rfl d_Search_look_35 ?_
  refine va_mmin hx hb (by rw [hml]; exact hl.1.symm) hown (hts _ wd_396) (hts _ wd_151) (hts _ wd_11) (hts _ wd_152) (Nat.le_of_ble_eq_true rfl) (Nat.le_of_ble_eq_true rfl) (Nat.le_of_ble_eq_true rfl) (Nat.le_of_ble_eq_true rfl) d_Search_look_38 ?_
  refine lv_topi (fun v38 e38 => ?_)
  have h38 : v38.toInt = min Wd Ht := by rw [e38]; exact ti_min hpw hph
  refine lv_istore (lv' := [(4, .int v38), (0, .ref hq), (1, .int a1), (2, .int a2), (3, .int a3)]) hx hb d_Search_look_41 hl (by decide) rfl (fun ls hl => ?_)
  have hTHD : LIM / 3 = LIM / 3 := rfl
  have e512 : ((2 ^ 9 : Nat) : Int) = 512 := rfl
  refine lv_iload_n hx hb d_Search_look_43 rfl (lv_at hl 2 rfl) ?_
  refine lv_istore (lv' := [(5, .int a1), (4, .int v38), (0, .ref hq), (1, .int a1), (2, .int a2), (3, .int a3)]) hx hb d_Search_look_44 hl (by decide) rfl (fun ls hl => ?_)
  refine w_loop (I := fun n H' locs' g' => ∃ (mm : Int32) (zmm : Int) (md1 : Int32) (zmd1 : Int) (tm1 : Int32) (sz1 : Int32) (zsz1 : Int) (tx1 : Int32) (ty1 : Int32) (sx1 : Int32) (sy1 : Int32) (st1 : Int32) (zst1 : Int) (nn1 : Int32) (zn1 : Int) (kf1 : Nat → Int32) (wf1 : Nat → Int32) (qf1 : Nat → Int32) (kn1 : Nat → Int64) (ls : Array Slot), g' = F0 m 46 ls [] ∧ lv_has ls 6 [(0, .ref hq), (1, .int a1), (2, .int a2), (3, .int a3), (4, .int v38), (5, .int mm)] ∧ n = (17 - zmm).toNat ∧ mm.toInt = zmm ∧ (le ≤ zmm ∧ zmm ≤ mo + 1) ∧ (md1.toInt = zmd1) ∧ (sz1.toInt = zsz1) ∧ (0 ≤ zsz1 ∧ zsz1 ≤ 177) ∧ (st1.toInt = zst1) ∧ (ST ≤ zst1 ∧ zst1 ≤ ST + (zmm - le)) ∧ (nn1.toInt = zn1) ∧ (SR D (alF D Wd Ht LIM le mo) (lmF D Wd Ht LIM le zmm) tm1 kf1 wf1 zn1) ∧ (∃ D9 M9, KN D9 M9 zst1 kn1) ∧ va_P (dC, dI) vwCl [(hq, .inr (3, [.ref hp, .ref hst, .int a3, .int v15, .int md1, .int sz1, .int tm1, .int tx1, .int ty1, .int sx1, .int sy1, .ref hqf, .ref hkn, .int st1])), (hp, .inr (0, [.int pw, .int ph, .ref hw, .ref hs, .int psr])), (hs, .inl (kS, 263169, .inl fs)), (hst, .inr (2, [.ref ak, .ref ar, .int nn1])), (ak, .inl (cK, 300, .inl kf1)), (ar, .inl (cR, 300, .inl wf1)), (hqf, .inl (cQ, 4, .inl qf1)), (hkn, .inl (cN, 262144, .inr (.inl kn1)))] H' ∧ va_D A [(hq, .inr (3, [.ref hp, .ref hst, .int a3, .int v15, .int md1, .int sz1, .int tm1, .int tx1, .int ty1, .int sx1, .int sy1, .ref hqf, .ref hkn, .int st1])), (hp, .inr (0, [.int pw, .int ph, .ref hw, .ref hs, .int psr])), (hs, .inl (kS, 263169, .inl fs)), (hst, .inr (2, [.ref ak, .ref ar, .int nn1])), (ak, .inl (cK, 300, .inl kf1)), (ar, .inl (cR, 300, .inl wf1)), (hqf, .inl (cQ, 4, .inl qf1)), (hkn, .inl (cN, 262144, .inr (.inl kn1)))] ∧ va_S A s.heap H' locs') ?_ ⟨a1, le, md, md.toInt, 0, sz0, S, tx, ty, sx, sy, stp, ST, 0, 0, kf, wf, qf, kn, ls, rfl, lv_sub hl [2, 3, 4, 5, 1, 0] rfl, rfl, g1, by omega, rfl, hsz0, ⟨hS0, hS1⟩, hst0, by omega, rfl, ⟨by decide, Or.inl ⟨rfl, cl_congr cl_0 (fun _ _ _ _ _ => ⟨fun f => f.elim, fun f => absurd f lm_0⟩)⟩⟩, ⟨D0, M0, hkn0⟩, hP, hD, hS⟩
  intro n46 H46 locs g' hI ih46
  obtain ⟨mm, zmm, md1, zmd1, tm1, sz1, zsz1, tx1, ty1, sx1, sy1, st1, zst1, nn1, zn1, kf1, wf1, qf1, kn1, ls, rfl, hl, hn, hmm, i1, hmd1, hsz1, hszb, hst9, hstb, hn1, iSR, iKN, hP, hD, hS⟩ := hI
  refine lv_iload hx hb d_Search_look_46 (lv_at hl 5 rfl) ?_
  refine lv_iload_n hx hb d_Search_look_48 rfl (lv_at hl 2 rfl) ?_
  refine lv_icmp_gt (tgt := 119) hx hb d_Search_look_49 (by decide) (fun c49 => ?_) (fun c49 => ?_)
  · skip
    have c49 : mo < zmm := (ti_lt g2 hmm).mp c49
    refine lv_aload_n hx hb d_Search_look_119 rfl (lv_at hl 0 rfl) ?_
    refine va_get (D := (dC, dI)) (ci := 3) (v := .int tm1) (C := R_Search) (T := T_Search) (N := 14) hx hb hts i_Search hown hK hP 0 rfl rfl 6 (by decide) (hts _ wd_87) (fun _ h9 => h9) rfl d_Search_look_120 ?_
    refine lv_if_ne (tgt := 130) hx hb d_Search_look_123 (by decide) (fun c123 => ?_) (fun c123 => ?_)
    · skip
      refine lv_iconst (v := 0) hx hb d_Search_look_130 (by decide) ?_
      have hpost : (((0 : Int32) = 1 ∧ clOK D kf1 wf1 (nn1 : Int32).toInt (alF D Wd Ht LIM le mo)) ∨ ((0 : Int32) = 0 ∧ over D (alF D Wd Ht LIM le mo))) ∧ 0 ≤ (nn1 : Int32).toInt ∧ (nn1 : Int32).toInt ≤ 300 ∧ 0 ≤ (sz1 : Int32).toInt ∧ (sz1 : Int32).toInt ≤ 177 ∧ ST ≤ (st1 : Int32).toInt ∧ (st1 : Int32).toInt ≤ ST + 16 ∧ ∃ D9 M9, KN D9 M9 (st1 : Int32).toInt kn1 := by
        have en : ∀ x y m v q, lmF D Wd Ht LIM le zmm x y m v q ↔ alF D Wd Ht LIM le mo x y m v q := fun _ _ _ _ _ => lm_end l1 (by omega) (by omega) (by omega)
        have b := iSR.1
        refine ⟨?_, by omega, by omega, by omega, by omega, by omega, by omega, ?_⟩
        · rcases iSR.2 with ⟨t, q⟩ | ⟨t, q⟩
          · exact absurd t c123
          · right; exact ⟨rfl, q⟩
        · rw [hst9]; exact iKN
      have hP9 := hP.sub (ws' := [(hq, .inr (3, [.ref hp, .ref hst, .int a3, .int v15, .int md1, .int sz1, .int tm1, .int tx1, .int ty1, .int sx1, .int sy1, .ref hqf, .ref hkn, .int st1])), (hp, .inr (0, [.int pw, .int ph, .ref hw, .ref hs, .int psr])), (hs, .inl (kS, 263169, .inl fs)), (hst, .inr (2, [.ref ak, .ref ar, .int nn1])), (ak, .inl (cK, 300, .inl kf1)), (ar, .inl (cR, 300, .inl wf1)), (hqf, .inl (cQ, 4, .inl qf1)), (hkn, .inl (cN, 262144, .inr (.inl kn1)))]) [0, 1, 2, 3, 4, 5, 6, 7] rfl
      have hD9 := hD.sub (ws' := [(hq, .inr (3, [.ref hp, .ref hst, .int a3, .int v15, .int md1, .int sz1, .int tm1, .int tx1, .int ty1, .int sx1, .int sy1, .ref hqf, .ref hkn, .int st1])), (hp, .inr (0, [.int pw, .int ph, .ref hw, .ref hs, .int psr])), (hs, .inl (kS, 263169, .inl fs)), (hst, .inr (2, [.ref ak, .ref ar, .int nn1])), (ak, .inl (cK, 300, .inl kf1)), (ar, .inl (cR, 300, .inl wf1)), (hqf, .inl (cQ, 4, .inl qf1)), (hkn, .inl (cN, 262144, .inr (.inl kn1)))]) [0, 1, 2, 3, 4, 5, 6, 7] (by decide) rfl
      have hK9 := hK.sub (tys' := [(kS, .int), (cK, .int), (cR, .int), (cQ, .int), (cN, .long)]) [0, 1, 2, 3, 4] rfl
      exact W.zret (v := 0) hx hb hr (by decide) (fun t ht hW => ⟨⟨0, (a3, v15, md1, sz1, tm1, tx1, ty1, sx1, sy1, st1, nn1, kf1, wf1, qf1, kn1), rfl, hpost, by rw [ht]; exact hP9, va_K.moved hW.alike hK9, hD9⟩, hS.F ht⟩) hS.2.2 d_Search_look_131
    · skip
      refine lv_iconst (v := 1) hx hb d_Search_look_126 (by decide) ?_
      refine lv_goto (tgt := 131) hx hb d_Search_look_127 (by decide) ?_
      have hpost : (((1 : Int32) = 1 ∧ clOK D kf1 wf1 (nn1 : Int32).toInt (alF D Wd Ht LIM le mo)) ∨ ((1 : Int32) = 0 ∧ over D (alF D Wd Ht LIM le mo))) ∧ 0 ≤ (nn1 : Int32).toInt ∧ (nn1 : Int32).toInt ≤ 300 ∧ 0 ≤ (sz1 : Int32).toInt ∧ (sz1 : Int32).toInt ≤ 177 ∧ ST ≤ (st1 : Int32).toInt ∧ (st1 : Int32).toInt ≤ ST + 16 ∧ ∃ D9 M9, KN D9 M9 (st1 : Int32).toInt kn1 := by
        have en : ∀ x y m v q, lmF D Wd Ht LIM le zmm x y m v q ↔ alF D Wd Ht LIM le mo x y m v q := fun _ _ _ _ _ => lm_end l1 (by omega) (by omega) (by omega)
        have b := iSR.1
        refine ⟨?_, by omega, by omega, by omega, by omega, by omega, by omega, ?_⟩
        · rcases iSR.2 with ⟨t, q⟩ | ⟨t, q⟩
          · left; rw [hn1]; exact ⟨rfl, cl_congr q en⟩
          · exact absurd c123 (by rw [t]; decide)
        · rw [hst9]; exact iKN
      have hP9 := hP.sub (ws' := [(hq, .inr (3, [.ref hp, .ref hst, .int a3, .int v15, .int md1, .int sz1, .int tm1, .int tx1, .int ty1, .int sx1, .int sy1, .ref hqf, .ref hkn, .int st1])), (hp, .inr (0, [.int pw, .int ph, .ref hw, .ref hs, .int psr])), (hs, .inl (kS, 263169, .inl fs)), (hst, .inr (2, [.ref ak, .ref ar, .int nn1])), (ak, .inl (cK, 300, .inl kf1)), (ar, .inl (cR, 300, .inl wf1)), (hqf, .inl (cQ, 4, .inl qf1)), (hkn, .inl (cN, 262144, .inr (.inl kn1)))]) [0, 1, 2, 3, 4, 5, 6, 7] rfl
      have hD9 := hD.sub (ws' := [(hq, .inr (3, [.ref hp, .ref hst, .int a3, .int v15, .int md1, .int sz1, .int tm1, .int tx1, .int ty1, .int sx1, .int sy1, .ref hqf, .ref hkn, .int st1])), (hp, .inr (0, [.int pw, .int ph, .ref hw, .ref hs, .int psr])), (hs, .inl (kS, 263169, .inl fs)), (hst, .inr (2, [.ref ak, .ref ar, .int nn1])), (ak, .inl (cK, 300, .inl kf1)), (ar, .inl (cR, 300, .inl wf1)), (hqf, .inl (cQ, 4, .inl qf1)), (hkn, .inl (cN, 262144, .inr (.inl kn1)))]) [0, 1, 2, 3, 4, 5, 6, 7] (by decide) rfl
      have hK9 := hK.sub (tys' := [(kS, .int), (cK, .int), (cR, .int), (cQ, .int), (cN, .long)]) [0, 1, 2, 3, 4] rfl
      exact W.zret (v := 1) hx hb hr (by decide) (fun t ht hW => ⟨⟨1, (a3, v15, md1, sz1, tm1, tx1, ty1, sx1, sy1, st1, nn1, kf1, wf1, qf1, kn1), rfl, hpost, by rw [ht]; exact hP9, va_K.moved hW.alike hK9, hD9⟩, hS.F ht⟩) hS.2.2 d_Search_look_131
  · skip
    have c49 : ¬ (mo < zmm) := fun q => c49 ((ti_lt g2 hmm).mpr q)
    refine lv_iload hx hb d_Search_look_52 (lv_at hl 5 rfl) ?_
    refine lv_iconst (v := 1) hx hb d_Search_look_54 (by decide) ?_
    have hPc := hP.sub (ws' := []) [] rfl
    have hKc := hK.sub (tys' := []) [] rfl
    refine va_calli (va_runS (As := [.int 1]) (rest := [.int mm]) ⟨hx, hb, hml, hown, hts⟩ (c_sizeOf l dC dI 1 1 (ti_k (by decide)) (by omega) (by omega)) (aw_S 1 hts wd_397 wd_297 wd_13 wd_298 rfl rfl (by decide +kernel) ⟨Nat.le_of_ble_eq_true rfl, Nat.le_of_ble_eq_true rfl⟩) ⟨ro_blind, ro_pre hPc hKc⟩ rfl rfl hl.1 rfl (lv_room (Nat.le_of_ble_eq_true rfl)) d_Search_look_55 ⟨Nat.le_of_ble_eq_true rfl, Nat.le_of_ble_eq_true rfl⟩) hS (fun q _ h => h.elim) (fun q h => h.elim) (fun v55 _ t9 H55 locs ht hvm h55 hB hz1 hk1 hS => ?_)
    have hP := ro_keep hP hk1
    clear hPc hKc ht hvm hB hz1 hk1
    refine lv_imul hx hb d_Search_look_58 ?_
    refine lv_topi (fun v58 e58 => ?_)
    have h58 : v58.toInt = zmm * (17 + 4 * 1) := by rw [e58]; exact ti_mul hmm h55 (by omega) (by omega)
    refine lv_iload hx hb d_Search_look_59 (lv_at hl 4 rfl) ?_
    refine lv_icmp_gt (tgt := 119) hx hb d_Search_look_61 (by decide) (fun c61 => ?_) (fun c61 => ?_)
    · skip
      have c61 : (min Wd Ht) < (zmm * (17 + 4 * 1)) := (ti_lt h38 h58).mp c61
      refine lv_aload_n hx hb d_Search_look_119 rfl (lv_at hl 0 rfl) ?_
      refine va_get (D := (dC, dI)) (ci := 3) (v := .int tm1) (C := R_Search) (T := T_Search) (N := 14) hx hb hts i_Search hown hK hP 0 rfl rfl 6 (by decide) (hts _ wd_87) (fun _ h9 => h9) rfl d_Search_look_120 ?_
      refine lv_if_ne (tgt := 130) hx hb d_Search_look_123 (by decide) (fun c123 => ?_) (fun c123 => ?_)
      · skip
        refine lv_iconst (v := 0) hx hb d_Search_look_130 (by decide) ?_
        have hpost : (((0 : Int32) = 1 ∧ clOK D kf1 wf1 (nn1 : Int32).toInt (alF D Wd Ht LIM le mo)) ∨ ((0 : Int32) = 0 ∧ over D (alF D Wd Ht LIM le mo))) ∧ 0 ≤ (nn1 : Int32).toInt ∧ (nn1 : Int32).toInt ≤ 300 ∧ 0 ≤ (sz1 : Int32).toInt ∧ (sz1 : Int32).toInt ≤ 177 ∧ ST ≤ (st1 : Int32).toInt ∧ (st1 : Int32).toInt ≤ ST + 16 ∧ ∃ D9 M9, KN D9 M9 (st1 : Int32).toInt kn1 := by
          have en : ∀ x y m v q, lmF D Wd Ht LIM le zmm x y m v q ↔ alF D Wd Ht LIM le mo x y m v q := fun _ _ _ _ _ => lm_end l1 (by omega) (by omega) (by omega)
          have b := iSR.1
          refine ⟨?_, by omega, by omega, by omega, by omega, by omega, by omega, ?_⟩
          · rcases iSR.2 with ⟨t, q⟩ | ⟨t, q⟩
            · exact absurd t c123
            · right; exact ⟨rfl, q⟩
          · rw [hst9]; exact iKN
        have hP9 := hP.sub (ws' := [(hq, .inr (3, [.ref hp, .ref hst, .int a3, .int v15, .int md1, .int sz1, .int tm1, .int tx1, .int ty1, .int sx1, .int sy1, .ref hqf, .ref hkn, .int st1])), (hp, .inr (0, [.int pw, .int ph, .ref hw, .ref hs, .int psr])), (hs, .inl (kS, 263169, .inl fs)), (hst, .inr (2, [.ref ak, .ref ar, .int nn1])), (ak, .inl (cK, 300, .inl kf1)), (ar, .inl (cR, 300, .inl wf1)), (hqf, .inl (cQ, 4, .inl qf1)), (hkn, .inl (cN, 262144, .inr (.inl kn1)))]) [0, 1, 2, 3, 4, 5, 6, 7] rfl
        have hD9 := hD.sub (ws' := [(hq, .inr (3, [.ref hp, .ref hst, .int a3, .int v15, .int md1, .int sz1, .int tm1, .int tx1, .int ty1, .int sx1, .int sy1, .ref hqf, .ref hkn, .int st1])), (hp, .inr (0, [.int pw, .int ph, .ref hw, .ref hs, .int psr])), (hs, .inl (kS, 263169, .inl fs)), (hst, .inr (2, [.ref ak, .ref ar, .int nn1])), (ak, .inl (cK, 300, .inl kf1)), (ar, .inl (cR, 300, .inl wf1)), (hqf, .inl (cQ, 4, .inl qf1)), (hkn, .inl (cN, 262144, .inr (.inl kn1)))]) [0, 1, 2, 3, 4, 5, 6, 7] (by decide) rfl
        have hK9 := hK.sub (tys' := [(kS, .int), (cK, .int), (cR, .int), (cQ, .int), (cN, .long)]) [0, 1, 2, 3, 4] rfl
        exact W.zret (v := 0) hx hb hr (by decide) (fun t ht hW => ⟨⟨0, (a3, v15, md1, sz1, tm1, tx1, ty1, sx1, sy1, st1, nn1, kf1, wf1, qf1, kn1), rfl, hpost, by rw [ht]; exact hP9, va_K.moved hW.alike hK9, hD9⟩, hS.F ht⟩) hS.2.2 d_Search_look_131
      · skip
        refine lv_iconst (v := 1) hx hb d_Search_look_126 (by decide) ?_
        refine lv_goto (tgt := 131) hx hb d_Search_look_127 (by decide) ?_
        have hpost : (((1 : Int32) = 1 ∧ clOK D kf1 wf1 (nn1 : Int32).toInt (alF D Wd Ht LIM le mo)) ∨ ((1 : Int32) = 0 ∧ over D (alF D Wd Ht LIM le mo))) ∧ 0 ≤ (nn1 : Int32).toInt ∧ (nn1 : Int32).toInt ≤ 300 ∧ 0 ≤ (sz1 : Int32).toInt ∧ (sz1 : Int32).toInt ≤ 177 ∧ ST ≤ (st1 : Int32).toInt ∧ (st1 : Int32).toInt ≤ ST + 16 ∧ ∃ D9 M9, KN D9 M9 (st1 : Int32).toInt kn1 := by
          have en : ∀ x y m v q, lmF D Wd Ht LIM le zmm x y m v q ↔ alF D Wd Ht LIM le mo x y m v q := fun _ _ _ _ _ => lm_end l1 (by omega) (by omega) (by omega)
          have b := iSR.1
          refine ⟨?_, by omega, by omega, by omega, by omega, by omega, by omega, ?_⟩
          · rcases iSR.2 with ⟨t, q⟩ | ⟨t, q⟩
            · left; rw [hn1]; exact ⟨rfl, cl_congr q en⟩
            · exact absurd c123 (by rw [t]; decide)
          · rw [hst9]; exact iKN
        have hP9 := hP.sub (ws' := [(hq, .inr (3, [.ref hp, .ref hst, .int a3, .int v15, .int md1, .int sz1, .int tm1, .int tx1, .int ty1, .int sx1, .int sy1, .ref hqf, .ref hkn, .int st1])), (hp, .inr (0, [.int pw, .int ph, .ref hw, .ref hs, .int psr])), (hs, .inl (kS, 263169, .inl fs)), (hst, .inr (2, [.ref ak, .ref ar, .int nn1])), (ak, .inl (cK, 300, .inl kf1)), (ar, .inl (cR, 300, .inl wf1)), (hqf, .inl (cQ, 4, .inl qf1)), (hkn, .inl (cN, 262144, .inr (.inl kn1)))]) [0, 1, 2, 3, 4, 5, 6, 7] rfl
        have hD9 := hD.sub (ws' := [(hq, .inr (3, [.ref hp, .ref hst, .int a3, .int v15, .int md1, .int sz1, .int tm1, .int tx1, .int ty1, .int sx1, .int sy1, .ref hqf, .ref hkn, .int st1])), (hp, .inr (0, [.int pw, .int ph, .ref hw, .ref hs, .int psr])), (hs, .inl (kS, 263169, .inl fs)), (hst, .inr (2, [.ref ak, .ref ar, .int nn1])), (ak, .inl (cK, 300, .inl kf1)), (ar, .inl (cR, 300, .inl wf1)), (hqf, .inl (cQ, 4, .inl qf1)), (hkn, .inl (cN, 262144, .inr (.inl kn1)))]) [0, 1, 2, 3, 4, 5, 6, 7] (by decide) rfl
        have hK9 := hK.sub (tys' := [(kS, .int), (cK, .int), (cR, .int), (cQ, .int), (cN, .long)]) [0, 1, 2, 3, 4] rfl
        exact W.zret (v := 1) hx hb hr (by decide) (fun t ht hW => ⟨⟨1, (a3, v15, md1, sz1, tm1, tx1, ty1, sx1, sy1, st1, nn1, kf1, wf1, qf1, kn1), rfl, hpost, by rw [ht]; exact hP9, va_K.moved hW.alike hK9, hD9⟩, hS.F ht⟩) hS.2.2 d_Search_look_131
    · skip
      have c61 : ¬ ((min Wd Ht) < (zmm * (17 + 4 * 1))) := fun q => c61 ((ti_lt h38 h58).mpr q)
      refine lv_aload_n hx hb d_Search_look_64 rfl (lv_at hl 0 rfl) ?_
      refine lv_iload hx hb d_Search_look_65 (lv_at hl 5 rfl) ?_
      refine va_put (D := (dC, dI)) (ci := 3) (v := .int mm) (ty := .int) (C := R_Search) (T := T_Search) (N := 14) hx hb hts i_Search t_Search t_Search_ok n_Search hown hK hP hD hS 0 rfl rfl 4 (by decide) (hts _ wd_85) (fun _ h9 => h9) rfl (by decide +kernel) rfl rfl (Nat.le_of_ble_eq_true rfl) d_Search_look_67 (fun H67 locs hP hD hS => ?_)
      have hP : va_P (dC, dI) vwCl [(hq, .inr (3, [.ref hp, .ref hst, .int a3, .int v15, .int mm, .int sz1, .int tm1, .int tx1, .int ty1, .int sx1, .int sy1, .ref hqf, .ref hkn, .int st1])), (hp, .inr (0, [.int pw, .int ph, .ref hw, .ref hs, .int psr])), (hs, .inl (kS, 263169, .inl fs)), (hst, .inr (2, [.ref ak, .ref ar, .int nn1])), (ak, .inl (cK, 300, .inl kf1)), (ar, .inl (cR, 300, .inl wf1)), (hqf, .inl (cQ, 4, .inl qf1)), (hkn, .inl (cN, 262144, .inr (.inl kn1)))] H67 := hP
      have hD : va_D A [(hq, .inr (3, [.ref hp, .ref hst, .int a3, .int v15, .int mm, .int sz1, .int tm1, .int tx1, .int ty1, .int sx1, .int sy1, .ref hqf, .ref hkn, .int st1])), (hp, .inr (0, [.int pw, .int ph, .ref hw, .ref hs, .int psr])), (hs, .inl (kS, 263169, .inl fs)), (hst, .inr (2, [.ref ak, .ref ar, .int nn1])), (ak, .inl (cK, 300, .inl kf1)), (ar, .inl (cR, 300, .inl wf1)), (hqf, .inl (cQ, 4, .inl qf1)), (hkn, .inl (cN, 262144, .inr (.inl kn1)))] := hD
      refine lv_aload_n hx hb d_Search_look_70 rfl (lv_at hl 0 rfl) ?_
      refine lv_dup hx hb d_Search_look_71 rfl ?_
      refine va_get (D := (dC, dI)) (ci := 3) (v := .int st1) (C := R_Search) (T := T_Search) (N := 14) hx hb hts i_Search hown hK hP 0 rfl rfl 13 (by decide) (hts _ wd_94) (fun _ h9 => h9) rfl d_Search_look_72 ?_
      refine lv_iconst (v := 1) hx hb d_Search_look_75 (by decide) ?_
      refine lv_iadd hx hb d_Search_look_76 ?_
      refine lv_topi (fun v76 e76 => ?_)
      have h76 : v76.toInt = zst1 + 1 := by rw [e76]; exact ti_add hst9 (ti_k (by decide)) (by omega) (by omega)
      refine va_put (D := (dC, dI)) (ci := 3) (v := .int v76) (ty := .int) (C := R_Search) (T := T_Search) (N := 14) hx hb hts i_Search t_Search t_Search_ok n_Search hown hK hP hD hS 0 rfl rfl 13 (by decide) (hts _ wd_94) (fun _ h9 => h9) rfl (by decide +kernel) rfl rfl (Nat.le_of_ble_eq_true rfl) d_Search_look_77 (fun H77 locs hP hD hS => ?_)
      have hP : va_P (dC, dI) vwCl [(hq, .inr (3, [.ref hp, .ref hst, .int a3, .int v15, .int mm, .int sz1, .int tm1, .int tx1, .int ty1, .int sx1, .int sy1, .ref hqf, .ref hkn, .int v76])), (hp, .inr (0, [.int pw, .int ph, .ref hw, .ref hs, .int psr])), (hs, .inl (kS, 263169, .inl fs)), (hst, .inr (2, [.ref ak, .ref ar, .int nn1])), (ak, .inl (cK, 300, .inl kf1)), (ar, .inl (cR, 300, .inl wf1)), (hqf, .inl (cQ, 4, .inl qf1)), (hkn, .inl (cN, 262144, .inr (.inl kn1)))] H77 := hP
      have hD : va_D A [(hq, .inr (3, [.ref hp, .ref hst, .int a3, .int v15, .int mm, .int sz1, .int tm1, .int tx1, .int ty1, .int sx1, .int sy1, .ref hqf, .ref hkn, .int v76])), (hp, .inr (0, [.int pw, .int ph, .ref hw, .ref hs, .int psr])), (hs, .inl (kS, 263169, .inl fs)), (hst, .inr (2, [.ref ak, .ref ar, .int nn1])), (ak, .inl (cK, 300, .inl kf1)), (ar, .inl (cR, 300, .inl wf1)), (hqf, .inl (cQ, 4, .inl qf1)), (hkn, .inl (cN, 262144, .inr (.inl kn1)))] := hD
      have kn77 : KN D zmm (zst1 + 1) kn1 := by
        obtain ⟨D9, M9, q9⟩ := iKN
        exact kn_new q9 D
      have al77 := al_lm (D := D) (W := Wd) (H := Ht) (LIM := LIM) (THD := LIM / 3) (le := le) (mo := mo) (zm := zmm) l1 (by omega) (by omega)
      refine lv_aload_n hx hb d_Search_look_80 rfl (lv_at hl 0 rfl) ?_
      refine lv_iconst (v := 0) hx hb d_Search_look_81 (by decide) ?_
      refine lv_iconst (v := 0) hx hb d_Search_look_82 (by decide) ?_
      refine lv_aload_n hx hb d_Search_look_83 rfl (lv_at hl 0 rfl) ?_
      refine va_get (D := (dC, dI)) (ci := 3) (v := .ref hp) (C := R_Search) (T := T_Search) (N := 14) hx hb hts i_Search hown hK hP 0 rfl rfl 0 (by decide) (hts _ wd_79) (fun _ h9 => h9) rfl d_Search_look_84 ?_
      refine va_get (D := (dC, dI)) (ci := 0) (v := .int pw) (C := R_Paper) (T := T_Paper) (N := 5) hx hb hts i_Paper hown hK hP 1 rfl rfl 0 (by decide) (hts _ wd_38) (fun _ h9 => h9) rfl d_Search_look_87 ?_
      refine lv_bipush (v := 7) hx hb d_Search_look_90 (by decide) ?_
      refine lv_iload hx hb d_Search_look_92 (lv_at hl 5 rfl) ?_
      refine lv_imul hx hb d_Search_look_94 ?_
      refine lv_topi (fun v94 e94 => ?_)
      have h94 : v94.toInt = 7 * zmm := by rw [e94]; exact ti_mul (ti_k (by decide)) hmm (by omega) (by omega)
      refine lv_isub hx hb d_Search_look_95 ?_
      refine lv_topi (fun v95 e95 => ?_)
      have h95 : v95.toInt = Wd - (7 * zmm) := by rw [e95]; exact ti_sub hpw h94 (by omega) (by omega)
      refine lv_aload_n hx hb d_Search_look_96 rfl (lv_at hl 0 rfl) ?_
      refine va_get (D := (dC, dI)) (ci := 3) (v := .ref hp) (C := R_Search) (T := T_Search) (N := 14) hx hb hts i_Search hown hK hP 0 rfl rfl 0 (by decide) (hts _ wd_79) (fun _ h9 => h9) rfl d_Search_look_97 ?_
      refine va_get (D := (dC, dI)) (ci := 0) (v := .int ph) (C := R_Paper) (T := T_Paper) (N := 5) hx hb hts i_Paper hown hK hP 1 rfl rfl 1 (by decide) (hts _ wd_41) (fun _ h9 => h9) rfl d_Search_look_100 ?_
      refine lv_bipush (v := 7) hx hb d_Search_look_103 (by decide) ?_
      refine lv_iload hx hb d_Search_look_105 (lv_at hl 5 rfl) ?_
      refine lv_imul hx hb d_Search_look_107 ?_
      refine lv_topi (fun v107 e107 => ?_)
      have h107 : v107.toInt = 7 * zmm := by rw [e107]; exact ti_mul (ti_k (by decide)) hmm (by omega) (by omega)
      refine lv_isub hx hb d_Search_look_108 ?_
      refine lv_topi (fun v108 e108 => ?_)
      have h108 : v108.toInt = Ht - (7 * zmm) := by rw [e108]; exact ti_sub hph h107 (by omega) (by omega)
      refine lv_iconst (v := 0) hx hb d_Search_look_109 (by decide) ?_
      have hPc := hP.sub (ws' := [(hq, .inr (3, [.ref hp, .ref hst, .int a3, .int v15, .int mm, .int sz1, .int tm1, .int tx1, .int ty1, .int sx1, .int sy1, .ref hqf, .ref hkn, .int v76])), (hp, .inr (0, [.int pw, .int ph, .ref hw, .ref hs, .int psr])), (hs, .inl (kS, 263169, .inl fs)), (hst, .inr (2, [.ref ak, .ref ar, .int nn1])), (ak, .inl (cK, 300, .inl kf1)), (ar, .inl (cR, 300, .inl wf1)), (hqf, .inl (cQ, 4, .inl qf1)), (hkn, .inl (cN, 262144, .inr (.inl kn1)))]) [0, 1, 2, 3, 4, 5, 6, 7] rfl
      have hKc := hK.sub (tys' := [(kS, .int), (cK, .int), (cR, .int), (cQ, .int), (cN, .long)]) [0, 1, 2, 3, 4] rfl
      have hDc := hD.sub (ws' := [(hq, .inr (3, [.ref hp, .ref hst, .int a3, .int v15, .int mm, .int sz1, .int tm1, .int tx1, .int ty1, .int sx1, .int sy1, .ref hqf, .ref hkn, .int v76])), (hp, .inr (0, [.int pw, .int ph, .ref hw, .ref hs, .int psr])), (hs, .inl (kS, 263169, .inl fs)), (hst, .inr (2, [.ref ak, .ref ar, .int nn1])), (ak, .inl (cK, 300, .inl kf1)), (ar, .inl (cR, 300, .inl wf1)), (hqf, .inl (cQ, 4, .inl qf1)), (hkn, .inl (cN, 262144, .inr (.inl kn1)))]) [0, 1, 2, 3, 4, 5, 6, 7] (by decide) rfl
      have hFc := va_free (wc := [(hq, .inr (3, [.ref hp, .ref hst, .int a3, .int v15, .int mm, .int sz1, .int tm1, .int tx1, .int ty1, .int sx1, .int sy1, .ref hqf, .ref hkn, .int v76])), (hp, .inr (0, [.int pw, .int ph, .ref hw, .ref hs, .int psr])), (hs, .inl (kS, 263169, .inl fs)), (hst, .inr (2, [.ref ak, .ref ar, .int nn1])), (ak, .inl (cK, 300, .inl kf1)), (ar, .inl (cR, 300, .inl wf1)), (hqf, .inl (cQ, 4, .inl qf1)), (hkn, .inl (cN, 262144, .inr (.inl kn1)))]) hD hS hA [0, 1, 2, 3, 4, 5, 6, 7] rfl
      refine va_callv (va_runV (As := [.int 0, .int 0, .int v95, .int v108, .int 0]) (rest := []) ⟨hx, hb, hml, hown, hts⟩ (c_siftFinders 9 l dC dI H77.size hq hp hw hs hst hqf hkn kS pw ph psr a3 v15 mm sz1 tm1 tx1 ty1 sx1 sy1 v76 fs Wd Ht zmm zsz1 D hpw hph hmm hsz1 hW1 hW2 hH1 hH2 (by omega) (by omega) hsum (by omega) (by omega) cN kn1 (zst1 + 1) h76 (by omega) (by omega) kn77 LIM g3 hL0 hL1 (LIM / 3) h15 hTHD ak ar cK cR nn1 kf1 wf1 zn1 hn1 (alF D Wd Ht LIM le mo) (lmF D Wd Ht LIM le zmm) iSR cQ qf1 0 0 v95 v108 0 0 0 (Wd - (7 * zmm)) (Ht - (7 * zmm)) 0 (ti_k (by decide)) (ti_k (by decide)) h95 h108 (ti_k (by decide)) (by omega) (by omega) (by omega) (by omega) (by omega) (by omega) (by omega) (by omega) al77.1 al77.2) (aw_V 5 hts wd_398 wd_400 ws_6 wd_2 wd_401 rfl rfl (by decide +kernel) ⟨Nat.le_of_ble_eq_true rfl, Nat.le_of_ble_eq_true rfl⟩) ⟨rw_blind, va_recv hKc hPc (ci := 3) (q0 := 0) rfl rfl, rw_pre hPc hKc hDc⟩ rfl rfl hl.1 rfl (lv_room (Nat.le_of_ble_eq_true rfl)) d_Search_look_110 ⟨Nat.le_of_ble_eq_true rfl, Nat.le_of_ble_eq_true rfl⟩) hS (fun q _ h => hFc q h) hFc (fun u t9 H110 locs ht hvm h110 hB hz1 hk1 hS => ?_)
      obtain ⟨u110_tm, u110_sz, u110_tx, u110_ty, u110_sx, u110_sy, u110_cnt, u110_kf, u110_wf, u110_qf, u110_kn⟩ := u
      obtain ⟨hP1, _, hD1⟩ := hB
      rw [ht] at hP1
      try dsimp only at h110 hP1 hD1
      obtain ⟨hP, hD⟩ := va_join (wr := []) (w1 := [(hq, .inr (3, [.ref hp, .ref hst, .int a3, .int v15, .int mm, .int u110_sz, .int u110_tm, .int u110_tx, .int u110_ty, .int u110_sx, .int u110_sy, .ref hqf, .ref hkn, .int v76])), (hp, .inr (0, [.int pw, .int ph, .ref hw, .ref hs, .int psr])), (hs, .inl (kS, 263169, .inl fs)), (hst, .inr (2, [.ref ak, .ref ar, .int u110_cnt])), (ak, .inl (cK, 300, .inl u110_kf)), (ar, .inl (cR, 300, .inl u110_wf)), (hqf, .inl (cQ, 4, .inl u110_qf)), (hkn, .inl (cN, 262144, .inr (.inl u110_kn)))]) hP hD [0, 1, 2, 3, 4, 5, 6, 7] [] rfl rfl (by decide) (by decide) hk1 hFc hP1 hD1
      have hP := hP.sub (ws' := [(hq, .inr (3, [.ref hp, .ref hst, .int a3, .int v15, .int mm, .int u110_sz, .int u110_tm, .int u110_tx, .int u110_ty, .int u110_sx, .int u110_sy, .ref hqf, .ref hkn, .int v76])), (hp, .inr (0, [.int pw, .int ph, .ref hw, .ref hs, .int psr])), (hs, .inl (kS, 263169, .inl fs)), (hst, .inr (2, [.ref ak, .ref ar, .int u110_cnt])), (ak, .inl (cK, 300, .inl u110_kf)), (ar, .inl (cR, 300, .inl u110_wf)), (hqf, .inl (cQ, 4, .inl u110_qf)), (hkn, .inl (cN, 262144, .inr (.inl u110_kn)))]) [0, 1, 2, 3, 4, 5, 6, 7] rfl
      have hD := hD.sub (ws' := [(hq, .inr (3, [.ref hp, .ref hst, .int a3, .int v15, .int mm, .int u110_sz, .int u110_tm, .int u110_tx, .int u110_ty, .int u110_sx, .int u110_sy, .ref hqf, .ref hkn, .int v76])), (hp, .inr (0, [.int pw, .int ph, .ref hw, .ref hs, .int psr])), (hs, .inl (kS, 263169, .inl fs)), (hst, .inr (2, [.ref ak, .ref ar, .int u110_cnt])), (ak, .inl (cK, 300, .inl u110_kf)), (ar, .inl (cR, 300, .inl u110_wf)), (hqf, .inl (cQ, 4, .inl u110_qf)), (hkn, .inl (cN, 262144, .inr (.inl u110_kn)))]) [0, 1, 2, 3, 4, 5, 6, 7] (by decide) rfl
      clear hPc hKc hDc hFc ht hvm hz1 hk1 hP1 hD1
      obtain ⟨v113, e113⟩ : ∃ y : Int32, y = mm + 1 := ⟨_, rfl⟩
      have h113 : v113.toInt = zmm + 1 := by rw [e113]; exact ti_add hmm (ti_k (by decide)) (by omega) (by omega)
      refine lv_iinc (v := v113) (lv' := [(5, .int v113), (0, .ref hq), (1, .int a1), (2, .int a2), (3, .int a3), (4, .int v38)]) hx hb d_Search_look_113 hl (k := 5) rfl (by rw [e113]; rfl) (by decide) rfl (fun ls hl => ?_)
      refine lv_goto (tgt := 46) hx hb d_Search_look_116 (by decide) ?_
      exact ih46 _ (by omega) _ _ _ ⟨v113, (zmm + 1), mm, zmm, u110_tm, u110_sz, (u110_sz.toInt), u110_tx, u110_ty, u110_sx, u110_sy, v76, (zst1 + 1), u110_cnt, (u110_cnt.toInt), u110_kf, u110_wf, u110_qf, u110_kn, ls, rfl, lv_sub hl [1, 2, 3, 4, 5, 0] rfl, rfl, h113, by omega, hmm, rfl, h110.2.2, h76, by omega, rfl, SR_congr h110.1 (fun _ _ _ _ _ => lm_step rfl (by omega) (by omega)), ⟨D, zmm, h110.2.1⟩, hP, hD, hS⟩
