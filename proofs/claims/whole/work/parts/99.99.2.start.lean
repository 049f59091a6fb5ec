theorem tr_of {args : Array Value} {s : State} {k : Nat} {tx : String} (h1 : (Cond.stringRef R_PF k tx).before args s = true) (h2 : (Cond.exactly (.string R_PF k) "java/lang/String").before args s = true) : ∃ sa, vk_R R_PF k tx sa s := by
  obtain ⟨a, _, _, _, q1, -⟩ := Cond.exactly_spec h2
  exact ⟨a, vk_R.of h1 q1⟩
set_option maxHeartbeats 4000000 in
set_option maxRecDepth 100000 in
theorem whole_start {p : Program} {e : Env} {s : State} {m : MethodId} {below : List Frame} {meth : Method} {c : Code} (l : Launch) (hl9 : l.stackTraces = false) {b L : Nat} {xs : Nat → Int32} (hL : L ≤ 3072) (C0 : lw_At p s m meth c b L xs) : W p l e room_1 s m #[Value.ref b] below meth c s.heap [] 0 0 (lw_Z below #[Value.ref b] s) (entryFrame m ([Value.ref b] : List Value).toArray 8) := by
  obtain ⟨hx, hb, hr, hml, hown, hts0, hX, hbl, hlocks, hgv⟩ := id C0
  have hts : ∀ w ∈ allw, w.before #[Value.ref b] s = true := fun w h => hts0 w (List.mem_filter.mp h).1
  have hfl := flat_of_before _ hgv
  have hown : s.vm.findClass R_Law = some m.cls := hown
  obtain ⟨A, hAe⟩ : ∃ A : Nat → Prop, A = fun q : Nat => s.heap.size ≤ q := ⟨_, rfl⟩
  have hA : ∀ q : Nat, s.heap.size ≤ q → A q := fun q h => by rw [hAe]; exact h
  have hA2 : ∀ q : Nat, A q → s.heap.size ≤ q := fun q h => by rw [hAe] at h; exact h
  have hbA : ¬ A b := fun h => absurd (hA2 b h) (Nat.not_le.mpr hbl)
  have hnA : ∀ a : Nat, a < s.heap.size → ¬ A a := fun a h q => absurd (hA2 a q) (Nat.not_le.mpr h)
  obtain ⟨c0, iS0, hKn0⟩ := u_known (C := R_Paper) (T := T_Paper) (N := 5) (n := 5) hts i_Paper (hts _ wd_31)
  obtain ⟨c1, iS1, hKn1⟩ := u_known (C := R_Place) (T := T_Place) (N := 5) (n := 5) hts i_Place (hts _ wd_301)
  obtain ⟨c2, iS2, hKn2⟩ := u_known (C := R_List) (T := T_List) (N := 3) (n := 3) hts i_List (hts _ wd_60)
  obtain ⟨c3, iS3, hKn3⟩ := u_known (C := R_Search) (T := T_Search) (N := 14) (n := 14) hts i_Search (hts _ wd_25)
  obtain ⟨c4, iS4, hKn4⟩ := u_known (C := R_PF) (T := T_PF) (N := 4) (n := 4) hts i_PF (hts _ wd_17)
  obtain ⟨c5, iS5, hKn5⟩ := u_known (C := R_Model) (T := T_Model) (N := 11) (n := 11) hts i_Model (hts _ wd_558)
  obtain ⟨dC, dI, hKc⟩ : ∃ (dC : Nat → ClassId) (dI : Nat → Nat → Nat), ∀ (k : Nat) (q : vw_C), vwCl[k]? = some q → u_Kn s q.1 q.2.1 q.2.2 (dC k) (dI k) := by
    refine ⟨fun k => if k = 0 then c0 else if k = 1 then c1 else if k = 2 then c2 else if k = 3 then c3 else if k = 4 then c4 else c5, fun k => if k = 0 then iS0 else if k = 1 then iS1 else if k = 2 then iS2 else if k = 3 then iS3 else if k = 4 then iS4 else iS5, ?_⟩
    intro k q hq
    match k, hq with
    | 0, hq => cases hq; exact hKn0
    | 1, hq => cases hq; exact hKn1
    | 2, hq => cases hq; exact hKn2
    | 3, hq => cases hq; exact hKn3
    | 4, hq => cases hq; exact hKn4
    | 5, hq => cases hq; exact hKn5
    | k + 6, hq => simp [vwCl] at hq
  have hS : va_S A s.heap s.heap [] := va_S.rf
  have hK : va_K (dC, dI) vwCl [] s := ⟨hKc, fun k q h => by simp at h⟩
  have hP : va_P (dC, dI) vwCl [] s.heap := fun k q h => by simp at h
  have hD : va_D A [] := ⟨fun i j p q h => by simp at h, fun k q h => by simp at h⟩
  have hTxa : tX R_IAE s := ⟨va_Nw.of rfl (hts0 (.castable R_IAE R_IAE) (by decide +kernel)), va_Nw.of rfl (hts0 (.declares (Bundle.initS "java/lang/RuntimeException")) (by decide +kernel)), va_Nw.of rfl (hts0 (.declares (Bundle.initS "java/lang/Exception")) (by decide +kernel)), va_Nw.of rfl (hts0 (.declares (Bundle.initS Bundle.tN)) (by decide +kernel))⟩
  have hTxb : tX R_IOB s := ⟨va_Nw.of rfl (hts0 (.castable R_IOB R_IOB) (by decide +kernel)), va_Nw.of rfl (hts0 (.declares (Bundle.initS "java/lang/RuntimeException")) (by decide +kernel)), va_Nw.of rfl (hts0 (.declares (Bundle.initS "java/lang/Exception")) (by decide +kernel)), va_Nw.of rfl (hts0 (.declares (Bundle.initS Bundle.tN)) (by decide +kernel))⟩
  have hTr0 : tR [(38, "width and height are 1 .. 512")] s := by
    intro q hq
    simp only [List.mem_cons, List.not_mem_nil, or_false] at hq
    rcases hq with rfl
    · exact tr_of (hts0 (.stringRef R_PF 38 "width and height are 1 .. 512") (by decide +kernel)) (hfl (.exactly (.string R_PF 38) "java/lang/String") (by decide +kernel))
  have hTr2 : tR [(56, "w and h are 1 .. 512")] s := by
    intro q hq
    simp only [List.mem_cons, List.not_mem_nil, or_false] at hq
    rcases hq with rfl
    · exact tr_of (hts0 (.stringRef R_PF 56 "w and h are 1 .. 512") (by decide +kernel)) (hfl (.exactly (.string R_PF 56) "java/lang/String") (by decide +kernel))
  have hTr3 : tR [(62, "place has bits above those of m"), (73, "m is 1 .. 16 and v 1 .. 40"), (85, "the place lies not on the sheet")] s := by
    intro q hq
    simp only [List.mem_cons, List.not_mem_nil, or_false] at hq
    rcases hq with rfl | rfl | rfl
    · exact tr_of (hts0 (.stringRef R_PF 62 "place has bits above those of m") (by decide +kernel)) (hfl (.exactly (.string R_PF 62) "java/lang/String") (by decide +kernel))
    · exact tr_of (hts0 (.stringRef R_PF 73 "m is 1 .. 16 and v 1 .. 40") (by decide +kernel)) (hfl (.exactly (.string R_PF 73) "java/lang/String") (by decide +kernel))
    · exact tr_of (hts0 (.stringRef R_PF 85 "the place lies not on the sheet") (by decide +kernel)) (hfl (.exactly (.string R_PF 85) "java/lang/String") (by decide +kernel))
  have hTr5 : tR [(102, "least is 1 .. 16 and most least .. 16"), (104, "limit is 0 .. 500")] s := by
    intro q hq
    simp only [List.mem_cons, List.not_mem_nil, or_false] at hq
    rcases hq with rfl | rfl
    · exact tr_of (hts0 (.stringRef R_PF 102 "least is 1 .. 16 and most least .. 16") (by decide +kernel)) (hfl (.exactly (.string R_PF 102) "java/lang/String") (by decide +kernel))
    · exact tr_of (hts0 (.stringRef R_PF 104 "limit is 0 .. 500") (by decide +kernel)) (hfl (.exactly (.string R_PF 104) "java/lang/String") (by decide +kernel))
  have hTr7 : tR [(119, "what is 0 .. 5")] s := by
    intro q hq
    simp only [List.mem_cons, List.not_mem_nil, or_false] at hq
    rcases hq with rfl
    · exact tr_of (hts0 (.stringRef R_PF 119 "what is 0 .. 5") (by decide +kernel)) (hfl (.exactly (.string R_PF 119) "java/lang/String") (by decide +kernel))
  have hTr8 : tR [(139, "there is no such place")] s := by
    intro q hq
    simp only [List.mem_cons, List.not_mem_nil, or_false] at hq
    rcases hq with rfl
    · exact tr_of (hts0 (.stringRef R_PF 139 "there is no such place") (by decide +kernel)) (hfl (.exactly (.string R_PF 139) "java/lang/String") (by decide +kernel))
  have hTz : tZ A s s.heap := ⟨vx_Zqof (hts0 (.laysStatic Bundle.tN "UNASSIGNED_STACK" Bundle.steD) (by decide +kernel)) (hts0 (.initialized Bundle.tN) (by decide +kernel)) (hfl (.isRef (.static Bundle.tN "UNASSIGNED_STACK" Bundle.steD)) (by decide +kernel)) hnA, vx_Zqof (hts0 (.laysStatic Bundle.tN "SUPPRESSED_SENTINEL" Bundle.listD) (by decide +kernel)) (hts0 (.initialized Bundle.tN) (by decide +kernel)) (hfl (.isRef (.static Bundle.tN "SUPPRESSED_SENTINEL" Bundle.listD)) (by decide +kernel)) hnA⟩
  have hl := lv_entry ([.ref b]) (n := 8) (Nat.le_of_ble_eq_true rfl)
  rw [lg_entry_eq]
  generalize (lg_sl ([.ref b]) ++ List.replicate (8 - (lg_sl ([.ref b])).length) Slot.unset).toArray = ls at hl ⊢
  have hl : lv_has ls 8 [(0, .ref b)] := hl
  refine va_new (ci := 4) (fs := [.null, .null, .null, .null]) (C := R_PF) (T := T_PF) (N := 4) hx hb hts i_PF t_PF t_PF_ok hown (hts _ wd_16) (hts _ wd_17) (hts _ wd_1) hK hP hD hS hA rfl (fun j hj => by rcases (show j = 0 ∨ j = 1 ∨ j = 2 ∨ j = 3 by omega) with rfl | rfl | rfl | rfl <;> rfl) (Nat.le_of_ble_eq_true rfl) (Nat.le_of_ble_eq_true rfl) d_law_0 (fun q0 H0 hP hD hS => ?_)
  have hP : va_P (dC, dI) vwCl [(q0, .inr (4, [.null, .null, .null, .null]))] H0 := hP
  have hD : va_D A [(q0, .inr (4, [.null, .null, .null, .null]))] := hD
  refine W.widen (k := 1) (n := 4) (by decide) (by decide) ?_
  refine lv_dup hx hb d_law_3 rfl ?_
  have hPc := hP.sub (ws' := [(q0, .inr (4, [.null, .null, .null, .null]))]) [0] rfl
  have hKc := hK.sub (tys' := []) [] rfl
  have hDc := hD.sub (ws' := [(q0, .inr (4, [.null, .null, .null, .null]))]) [0] (by decide) rfl
  have hFc := va_free (wc := [(q0, .inr (4, [.null, .null, .null, .null]))]) hD hS hA [0] rfl
  refine va_callv (va_runI (As := []) (rest := [.ref q0]) ⟨hx, hb, hml, hown, hts⟩ (c_initPF l dC dI H0.size q0) (cwI 0 hts (aw_ws wd_20) rfl rfl rfl (hts _ wd_1) (hts _ wd_18) (hts _ wd_19) rfl (by decide +kernel) ⟨Nat.le_of_ble_eq_true rfl, Nat.le_of_ble_eq_true rfl⟩) ⟨rw_blind, rw_pre hPc hKc hDc⟩ rfl rfl hl.1 rfl (lv_room (Nat.le_of_ble_eq_true rfl)) d_law_4 ⟨Nat.le_of_ble_eq_true rfl, Nat.le_of_ble_eq_true rfl⟩) hS (fun q _ h => hFc q h) hFc (fun u t9 H4 locs ht hvm h4 hB hz1 hk1 hS => ?_)
  obtain ⟨u4_hq, u4_hp, u4_hw, u4_hs, u4_hst, u4_ak, u4_ar, u4_hqf, u4_hkn, u4_kW, u4_kS, u4_cK, u4_cR, u4_cQ, u4_cN, u4_hld, u4_bk, u4_br, u4_dK, u4_dR⟩ := u
  obtain ⟨hP1, hK1, hD1⟩ := hB
  rw [ht] at hP1
  have hK1 := va_K.moved hvm.symm hK1
  try dsimp only at h4 hP1 hD1
  obtain ⟨hP, hD⟩ := va_join (wr := []) (w1 := [(q0, .inr (4, [.ref u4_hq, .ref u4_hp, .ref u4_hst, .ref u4_hld])), (u4_hq, .inr (3, [.ref u4_hp, .ref u4_hst, .int 0, .int 0, .int 0, .int 0, .int 0, .int 0, .int 0, .int 0, .int 0, .ref u4_hqf, .ref u4_hkn, .int 0])), (u4_hp, .inr (0, [.int 64, .int 64, .ref u4_hw, .ref u4_hs, .int 0])), (u4_hw, .inl (u4_kW, 4096, .inr (.inl (fun _ => 0)))), (u4_hs, .inl (u4_kS, 263169, .inl (fun _ => 0))), (u4_hst, .inr (2, [.ref u4_ak, .ref u4_ar, .int 0])), (u4_ak, .inl (u4_cK, 300, .inl (fun _ => 0))), (u4_ar, .inl (u4_cR, 300, .inl (fun _ => 0))), (u4_hqf, .inl (u4_cQ, 4, .inl (fun _ => 0))), (u4_hkn, .inl (u4_cN, 262144, .inr (.inl (fun _ => 0)))), (u4_hld, .inr (2, [.ref u4_bk, .ref u4_br, .int 0])), (u4_bk, .inl (u4_dK, 300, .inl (fun _ => 0))), (u4_br, .inl (u4_dR, 300, .inl (fun _ => 0)))]) hP hD [0] [] rfl rfl (by decide) (by decide) hk1 hFc hP1 hD1
  have hP := hP.sub (ws' := [(q0, .inr (4, [.ref u4_hq, .ref u4_hp, .ref u4_hst, .ref u4_hld])), (u4_hq, .inr (3, [.ref u4_hp, .ref u4_hst, .int 0, .int 0, .int 0, .int 0, .int 0, .int 0, .int 0, .int 0, .int 0, .ref u4_hqf, .ref u4_hkn, .int 0])), (u4_hp, .inr (0, [.int 64, .int 64, .ref u4_hw, .ref u4_hs, .int 0])), (u4_hw, .inl (u4_kW, 4096, .inr (.inl (fun _ => 0)))), (u4_hs, .inl (u4_kS, 263169, .inl (fun _ => 0))), (u4_hst, .inr (2, [.ref u4_ak, .ref u4_ar, .int 0])), (u4_ak, .inl (u4_cK, 300, .inl (fun _ => 0))), (u4_ar, .inl (u4_cR, 300, .inl (fun _ => 0))), (u4_hqf, .inl (u4_cQ, 4, .inl (fun _ => 0))), (u4_hkn, .inl (u4_cN, 262144, .inr (.inl (fun _ => 0)))), (u4_hld, .inr (2, [.ref u4_bk, .ref u4_br, .int 0])), (u4_bk, .inl (u4_dK, 300, .inl (fun _ => 0))), (u4_br, .inl (u4_dR, 300, .inl (fun _ => 0)))]) [0, 1, 2, 3, 4, 5, 6, 7, 8, 9, 10, 11, 12] rfl
  have hD := hD.sub (ws' := [(q0, .inr (4, [.ref u4_hq, .ref u4_hp, .ref u4_hst, .ref u4_hld])), (u4_hq, .inr (3, [.ref u4_hp, .ref u4_hst, .int 0, .int 0, .int 0, .int 0, .int 0, .int 0, .int 0, .int 0, .int 0, .ref u4_hqf, .ref u4_hkn, .int 0])), (u4_hp, .inr (0, [.int 64, .int 64, .ref u4_hw, .ref u4_hs, .int 0])), (u4_hw, .inl (u4_kW, 4096, .inr (.inl (fun _ => 0)))), (u4_hs, .inl (u4_kS, 263169, .inl (fun _ => 0))), (u4_hst, .inr (2, [.ref u4_ak, .ref u4_ar, .int 0])), (u4_ak, .inl (u4_cK, 300, .inl (fun _ => 0))), (u4_ar, .inl (u4_cR, 300, .inl (fun _ => 0))), (u4_hqf, .inl (u4_cQ, 4, .inl (fun _ => 0))), (u4_hkn, .inl (u4_cN, 262144, .inr (.inl (fun _ => 0)))), (u4_hld, .inr (2, [.ref u4_bk, .ref u4_br, .int 0])), (u4_bk, .inl (u4_dK, 300, .inl (fun _ => 0))), (u4_br, .inl (u4_dR, 300, .inl (fun _ => 0)))]) [0, 1, 2, 3, 4, 5, 6, 7, 8, 9, 10, 11, 12] (by decide) rfl
  have hK := hK.app hK1
  have hK : va_K (dC, dI) vwCl [(u4_kW, .long), (u4_kS, .int), (u4_cK, .int), (u4_cR, .int), (u4_cQ, .int), (u4_cN, .long), (u4_dK, .int), (u4_dR, .int)] s := hK
  clear hPc hKc hDc hFc ht hvm hz1 hk1 hP1 hD1 hK1
  refine W.widen (k := 13) (n := 530642) (by decide) (by decide) ?_
  refine lv_astore_n (lv' := [(1, .ref q0), (0, .ref b)]) hx hb d_law_7 rfl hl (by decide) rfl (fun ls hl => ?_)
  refine va_new (ci := 5) (fs := [.int 0, .int 0, .int 0, .null, .null, .null, .int 0, .null, .int 0, .null, .int 0]) (C := R_Model) (T := T_Model) (N := 11) hx hb hts i_Model t_Model t_Model_ok hown (hts _ wd_557) (hts _ wd_558) (hts _ wd_5) hK hP hD hS hA rfl (fun j hj => by rcases (show j = 0 ∨ j = 1 ∨ j = 2 ∨ j = 3 ∨ j = 4 ∨ j = 5 ∨ j = 6 ∨ j = 7 ∨ j = 8 ∨ j = 9 ∨ j = 10 by omega) with rfl | rfl | rfl | rfl | rfl | rfl | rfl | rfl | rfl | rfl | rfl <;> rfl) (Nat.le_of_ble_eq_true rfl) (Nat.le_of_ble_eq_true rfl) d_law_8 (fun q8 H8 hP hD hS => ?_)
  have hP : va_P (dC, dI) vwCl [(q0, .inr (4, [.ref u4_hq, .ref u4_hp, .ref u4_hst, .ref u4_hld])), (u4_hq, .inr (3, [.ref u4_hp, .ref u4_hst, .int 0, .int 0, .int 0, .int 0, .int 0, .int 0, .int 0, .int 0, .int 0, .ref u4_hqf, .ref u4_hkn, .int 0])), (u4_hp, .inr (0, [.int 64, .int 64, .ref u4_hw, .ref u4_hs, .int 0])), (u4_hw, .inl (u4_kW, 4096, .inr (.inl (fun _ => 0)))), (u4_hs, .inl (u4_kS, 263169, .inl (fun _ => 0))), (u4_hst, .inr (2, [.ref u4_ak, .ref u4_ar, .int 0])), (u4_ak, .inl (u4_cK, 300, .inl (fun _ => 0))), (u4_ar, .inl (u4_cR, 300, .inl (fun _ => 0))), (u4_hqf, .inl (u4_cQ, 4, .inl (fun _ => 0))), (u4_hkn, .inl (u4_cN, 262144, .inr (.inl (fun _ => 0)))), (u4_hld, .inr (2, [.ref u4_bk, .ref u4_br, .int 0])), (u4_bk, .inl (u4_dK, 300, .inl (fun _ => 0))), (u4_br, .inl (u4_dR, 300, .inl (fun _ => 0))), (q8, .inr (5, [.int 0, .int 0, .int 0, .null, .null, .null, .int 0, .null, .int 0, .null, .int 0]))] H8 := hP
  have hD : va_D A [(q0, .inr (4, [.ref u4_hq, .ref u4_hp, .ref u4_hst, .ref u4_hld])), (u4_hq, .inr (3, [.ref u4_hp, .ref u4_hst, .int 0, .int 0, .int 0, .int 0, .int 0, .int 0, .int 0, .int 0, .int 0, .ref u4_hqf, .ref u4_hkn, .int 0])), (u4_hp, .inr (0, [.int 64, .int 64, .ref u4_hw, .ref u4_hs, .int 0])), (u4_hw, .inl (u4_kW, 4096, .inr (.inl (fun _ => 0)))), (u4_hs, .inl (u4_kS, 263169, .inl (fun _ => 0))), (u4_hst, .inr (2, [.ref u4_ak, .ref u4_ar, .int 0])), (u4_ak, .inl (u4_cK, 300, .inl (fun _ => 0))), (u4_ar, .inl (u4_cR, 300, .inl (fun _ => 0))), (u4_hqf, .inl (u4_cQ, 4, .inl (fun _ => 0))), (u4_hkn, .inl (u4_cN, 262144, .inr (.inl (fun _ => 0)))), (u4_hld, .inr (2, [.ref u4_bk, .ref u4_br, .int 0])), (u4_bk, .inl (u4_dK, 300, .inl (fun _ => 0))), (u4_br, .inl (u4_dR, 300, .inl (fun _ => 0))), (q8, .inr (5, [.int 0, .int 0, .int 0, .null, .null, .null, .int 0, .null, .int 0, .null, .int 0]))] := hD
  refine W.widen (k := 14) (n := 530653) (by decide) (by decide) ?_
  refine lv_dup hx hb d_law_11 rfl ?_
  have hPc := hP.sub (ws' := [(q8, .inr (5, [.int 0, .int 0, .int 0, .null, .null, .null, .int 0, .null, .int 0, .null, .int 0]))]) [13] rfl
  have hKc := hK.sub (tys' := []) [] rfl
  have hDc := hD.sub (ws' := [(q8, .inr (5, [.int 0, .int 0, .int 0, .null, .null, .null, .int 0, .null, .int 0, .null, .int 0]))]) [13] (by decide) rfl
  have hFc := va_free (wc := [(q8, .inr (5, [.int 0, .int 0, .int 0, .null, .null, .null, .int 0, .null, .int 0, .null, .int 0]))]) hD hS hA [13] rfl
  refine va_callv (va_runI (As := []) (rest := [.ref q8]) ⟨hx, hb, hml, hown, hts⟩ (m_init l dC dI H8.size q8) (cwI 0 hts (aw_ws wd_561) rfl rfl rfl (hts _ wd_5) (hts _ wd_559) (hts _ wd_560) rfl (by decide +kernel) ⟨Nat.le_of_ble_eq_true rfl, Nat.le_of_ble_eq_true rfl⟩) ⟨rw_blind, rw_pre hPc hKc hDc⟩ rfl rfl hl.1 rfl (lv_room (Nat.le_of_ble_eq_true rfl)) d_law_12 ⟨Nat.le_of_ble_eq_true rfl, Nat.le_of_ble_eq_true rfl⟩) hS (fun q _ h => hFc q h) hFc (fun u t9 H12 locs ht hvm h12 hB hz1 hk1 hS => ?_)
  obtain ⟨u12_ad, u12_asu, u12_aru, u12_ast, u12_afo, u12_kD, u12_kS, u12_kR, u12_kT, u12_kF⟩ := u
  obtain ⟨hP1, hK1, hD1⟩ := hB
  rw [ht] at hP1
  have hK1 := va_K.moved hvm.symm hK1
  try dsimp only at h12 hP1 hD1
  obtain ⟨hP, hD⟩ := va_join (wr := [(q0, .inr (4, [.ref u4_hq, .ref u4_hp, .ref u4_hst, .ref u4_hld])), (u4_hq, .inr (3, [.ref u4_hp, .ref u4_hst, .int 0, .int 0, .int 0, .int 0, .int 0, .int 0, .int 0, .int 0, .int 0, .ref u4_hqf, .ref u4_hkn, .int 0])), (u4_hp, .inr (0, [.int 64, .int 64, .ref u4_hw, .ref u4_hs, .int 0])), (u4_hw, .inl (u4_kW, 4096, .inr (.inl (fun _ => 0)))), (u4_hs, .inl (u4_kS, 263169, .inl (fun _ => 0))), (u4_hst, .inr (2, [.ref u4_ak, .ref u4_ar, .int 0])), (u4_ak, .inl (u4_cK, 300, .inl (fun _ => 0))), (u4_ar, .inl (u4_cR, 300, .inl (fun _ => 0))), (u4_hqf, .inl (u4_cQ, 4, .inl (fun _ => 0))), (u4_hkn, .inl (u4_cN, 262144, .inr (.inl (fun _ => 0)))), (u4_hld, .inr (2, [.ref u4_bk, .ref u4_br, .int 0])), (u4_bk, .inl (u4_dK, 300, .inl (fun _ => 0))), (u4_br, .inl (u4_dR, 300, .inl (fun _ => 0)))]) (w1 := [(q8, .inr (5, [.int 0, .int 64, .int 64, .ref u12_ad, .ref u12_asu, .ref u12_aru, .int 0, .ref u12_ast, .int 0, .ref u12_afo, .int 0])), (u12_ad, .inl (u12_kD, 262144, .inl (fun _ => 0))), (u12_asu, .inl (u12_kS, 263169, .inl (fun _ => 0))), (u12_aru, .inl (u12_kR, 2100, .inl (fun _ => 0))), (u12_ast, .inl (u12_kT, 1800, .inl (fun _ => 0))), (u12_afo, .inl (u12_kF, 1800, .inl (fun _ => 0)))]) hP hD [13] [0, 1, 2, 3, 4, 5, 6, 7, 8, 9, 10, 11, 12] rfl rfl (by decide) (by decide) hk1 hFc hP1 hD1
  have hP := hP.sub (ws' := [(q0, .inr (4, [.ref u4_hq, .ref u4_hp, .ref u4_hst, .ref u4_hld])), (u4_hq, .inr (3, [.ref u4_hp, .ref u4_hst, .int 0, .int 0, .int 0, .int 0, .int 0, .int 0, .int 0, .int 0, .int 0, .ref u4_hqf, .ref u4_hkn, .int 0])), (u4_hp, .inr (0, [.int 64, .int 64, .ref u4_hw, .ref u4_hs, .int 0])), (u4_hw, .inl (u4_kW, 4096, .inr (.inl (fun _ => 0)))), (u4_hs, .inl (u4_kS, 263169, .inl (fun _ => 0))), (u4_hst, .inr (2, [.ref u4_ak, .ref u4_ar, .int 0])), (u4_ak, .inl (u4_cK, 300, .inl (fun _ => 0))), (u4_ar, .inl (u4_cR, 300, .inl (fun _ => 0))), (u4_hqf, .inl (u4_cQ, 4, .inl (fun _ => 0))), (u4_hkn, .inl (u4_cN, 262144, .inr (.inl (fun _ => 0)))), (u4_hld, .inr (2, [.ref u4_bk, .ref u4_br, .int 0])), (u4_bk, .inl (u4_dK, 300, .inl (fun _ => 0))), (u4_br, .inl (u4_dR, 300, .inl (fun _ => 0))), (q8, .inr (5, [.int 0, .int 64, .int 64, .ref u12_ad, .ref u12_asu, .ref u12_aru, .int 0, .ref u12_ast, .int 0, .ref u12_afo, .int 0])), (u12_ad, .inl (u12_kD, 262144, .inl (fun _ => 0))), (u12_asu, .inl (u12_kS, 263169, .inl (fun _ => 0))), (u12_aru, .inl (u12_kR, 2100, .inl (fun _ => 0))), (u12_ast, .inl (u12_kT, 1800, .inl (fun _ => 0))), (u12_afo, .inl (u12_kF, 1800, .inl (fun _ => 0)))]) [0, 1, 2, 3, 4, 5, 6, 7, 8, 9, 10, 11, 12, 13, 14, 15, 16, 17, 18] rfl
  have hD := hD.sub (ws' := [(q0, .inr (4, [.ref u4_hq, .ref u4_hp, .ref u4_hst, .ref u4_hld])), (u4_hq, .inr (3, [.ref u4_hp, .ref u4_hst, .int 0, .int 0, .int 0, .int 0, .int 0, .int 0, .int 0, .int 0, .int 0, .ref u4_hqf, .ref u4_hkn, .int 0])), (u4_hp, .inr (0, [.int 64, .int 64, .ref u4_hw, .ref u4_hs, .int 0])), (u4_hw, .inl (u4_kW, 4096, .inr (.inl (fun _ => 0)))), (u4_hs, .inl (u4_kS, 263169, .inl (fun _ => 0))), (u4_hst, .inr (2, [.ref u4_ak, .ref u4_ar, .int 0])), (u4_ak, .inl (u4_cK, 300, .inl (fun _ => 0))), (u4_ar, .inl (u4_cR, 300, .inl (fun _ => 0))), (u4_hqf, .inl (u4_cQ, 4, .inl (fun _ => 0))), (u4_hkn, .inl (u4_cN, 262144, .inr (.inl (fun _ => 0)))), (u4_hld, .inr (2, [.ref u4_bk, .ref u4_br, .int 0])), (u4_bk, .inl (u4_dK, 300, .inl (fun _ => 0))), (u4_br, .inl (u4_dR, 300, .inl (fun _ => 0))), (q8, .inr (5, [.int 0, .int 64, .int 64, .ref u12_ad, .ref u12_asu, .ref u12_aru, .int 0, .ref u12_ast, .int 0, .ref u12_afo, .int 0])), (u12_ad, .inl (u12_kD, 262144, .inl (fun _ => 0))), (u12_asu, .inl (u12_kS, 263169, .inl (fun _ => 0))), (u12_aru, .inl (u12_kR, 2100, .inl (fun _ => 0))), (u12_ast, .inl (u12_kT, 1800, .inl (fun _ => 0))), (u12_afo, .inl (u12_kF, 1800, .inl (fun _ => 0)))]) [0, 1, 2, 3, 4, 5, 6, 7, 8, 9, 10, 11, 12, 13, 14, 15, 16, 17, 18] (by decide) rfl
  have hK := hK.app hK1
  have hK : va_K (dC, dI) vwCl [(u4_kW, .long), (u4_kS, .int), (u4_cK, .int), (u4_cR, .int), (u4_cQ, .int), (u4_cN, .long), (u4_dK, .int), (u4_dR, .int), (u12_kD, .boolean), (u12_kS, .int), (u12_kR, .int), (u12_kT, .int), (u12_kF, .int)] s := hK
  clear hPc hKc hDc hFc ht hvm hz1 hk1 hP1 hD1 hK1
  refine W.widen (k := 19) (n := 1061666) (by decide) (by decide) ?_
  refine lv_astore_n (lv' := [(2, .ref q8), (1, .ref q0), (0, .ref b)]) hx hb d_law_15 rfl hl (by decide) rfl (fun ls hl => ?_)
  refine lv_iconst (v := 1) hx hb d_law_16 (by decide) ?_
  refine va_newa (atype := .long) (N' := 1) (a0 := (1, .inr (.inl (fun _ => 0)))) (ty := .long) hx hb (hts _ wd_57) rfl hK hP hD hS hA (fun _ => rfl) (by decide) (by decide) (by decide) (Nat.le_of_ble_eq_true rfl) (Nat.le_of_ble_eq_true rfl) d_law_17 (fun q17 cA17 H17 hK hP hD hS => ?_)
  have hK : va_K (dC, dI) vwCl [(u4_kW, .long), (u4_kS, .int), (u4_cK, .int), (u4_cR, .int), (u4_cQ, .int), (u4_cN, .long), (u4_dK, .int), (u4_dR, .int), (u12_kD, .boolean), (u12_kS, .int), (u12_kR, .int), (u12_kT, .int), (u12_kF, .int), (cA17, .long)] s := hK
  have hP : va_P (dC, dI) vwCl [(q0, .inr (4, [.ref u4_hq, .ref u4_hp, .ref u4_hst, .ref u4_hld])), (u4_hq, .inr (3, [.ref u4_hp, .ref u4_hst, .int 0, .int 0, .int 0, .int 0, .int 0, .int 0, .int 0, .int 0, .int 0, .ref u4_hqf, .ref u4_hkn, .int 0])), (u4_hp, .inr (0, [.int 64, .int 64, .ref u4_hw, .ref u4_hs, .int 0])), (u4_hw, .inl (u4_kW, 4096, .inr (.inl (fun _ => 0)))), (u4_hs, .inl (u4_kS, 263169, .inl (fun _ => 0))), (u4_hst, .inr (2, [.ref u4_ak, .ref u4_ar, .int 0])), (u4_ak, .inl (u4_cK, 300, .inl (fun _ => 0))), (u4_ar, .inl (u4_cR, 300, .inl (fun _ => 0))), (u4_hqf, .inl (u4_cQ, 4, .inl (fun _ => 0))), (u4_hkn, .inl (u4_cN, 262144, .inr (.inl (fun _ => 0)))), (u4_hld, .inr (2, [.ref u4_bk, .ref u4_br, .int 0])), (u4_bk, .inl (u4_dK, 300, .inl (fun _ => 0))), (u4_br, .inl (u4_dR, 300, .inl (fun _ => 0))), (q8, .inr (5, [.int 0, .int 64, .int 64, .ref u12_ad, .ref u12_asu, .ref u12_aru, .int 0, .ref u12_ast, .int 0, .ref u12_afo, .int 0])), (u12_ad, .inl (u12_kD, 262144, .inl (fun _ => 0))), (u12_asu, .inl (u12_kS, 263169, .inl (fun _ => 0))), (u12_aru, .inl (u12_kR, 2100, .inl (fun _ => 0))), (u12_ast, .inl (u12_kT, 1800, .inl (fun _ => 0))), (u12_afo, .inl (u12_kF, 1800, .inl (fun _ => 0))), (q17, .inl (cA17, 1, .inr (.inl (fun _ => 0))))] H17 := hP
  have hD : va_D A [(q0, .inr (4, [.ref u4_hq, .ref u4_hp, .ref u4_hst, .ref u4_hld])), (u4_hq, .inr (3, [.ref u4_hp, .ref u4_hst, .int 0, .int 0, .int 0, .int 0, .int 0, .int 0, .int 0, .int 0, .int 0, .ref u4_hqf, .ref u4_hkn, .int 0])), (u4_hp, .inr (0, [.int 64, .int 64, .ref u4_hw, .ref u4_hs, .int 0])), (u4_hw, .inl (u4_kW, 4096, .inr (.inl (fun _ => 0)))), (u4_hs, .inl (u4_kS, 263169, .inl (fun _ => 0))), (u4_hst, .inr (2, [.ref u4_ak, .ref u4_ar, .int 0])), (u4_ak, .inl (u4_cK, 300, .inl (fun _ => 0))), (u4_ar, .inl (u4_cR, 300, .inl (fun _ => 0))), (u4_hqf, .inl (u4_cQ, 4, .inl (fun _ => 0))), (u4_hkn, .inl (u4_cN, 262144, .inr (.inl (fun _ => 0)))), (u4_hld, .inr (2, [.ref u4_bk, .ref u4_br, .int 0])), (u4_bk, .inl (u4_dK, 300, .inl (fun _ => 0))), (u4_br, .inl (u4_dR, 300, .inl (fun _ => 0))), (q8, .inr (5, [.int 0, .int 64, .int 64, .ref u12_ad, .ref u12_asu, .ref u12_aru, .int 0, .ref u12_ast, .int 0, .ref u12_afo, .int 0])), (u12_ad, .inl (u12_kD, 262144, .inl (fun _ => 0))), (u12_asu, .inl (u12_kS, 263169, .inl (fun _ => 0))), (u12_aru, .inl (u12_kR, 2100, .inl (fun _ => 0))), (u12_ast, .inl (u12_kT, 1800, .inl (fun _ => 0))), (u12_afo, .inl (u12_kF, 1800, .inl (fun _ => 0))), (q17, .inl (cA17, 1, .inr (.inl (fun _ => 0))))] := hD
  refine W.widen (k := 20) (n := 1061667) (by decide) (by decide) ?_
  refine lv_astore_n (lv' := [(3, .ref q17), (2, .ref q8), (1, .ref q0), (0, .ref b)]) hx hb d_law_19 rfl hl (by decide) rfl (fun ls hl => ?_)
  refine lv_iconst (v := 0) hx hb d_law_20 (by decide) ?_
  refine lv_istore (lv' := [(4, .int 0), (3, .ref q17), (2, .ref q8), (1, .ref q0), (0, .ref b)]) hx hb d_law_21 hl (by decide) rfl (fun ls hl => ?_)
  exact law_loop l dC dI hl9 u4_kW u4_kS u4_cK u4_cR u4_cQ u4_cN u4_dK u4_dR u12_kD u12_kS u12_kR u12_kT u12_kF cA17 ⟨hx, hb, hml, hown, hts⟩ (hK.sub [0, 1, 2, 3, 4, 5, 6, 7, 8, 9, 10, 11, 12, 13] rfl) hA hX hbl hbA hTz hTxa hTxb hTr0 hTr2 hTr3 hTr5 hTr7 hTr8 q0 u4_hq u4_hp u4_hw u4_hs u4_hst u4_ak u4_ar u4_hqf u4_hkn u4_hld u4_bk u4_br q8 u12_ad u12_asu u12_aru u12_ast u12_afo q17 hL (fun H9 locs9 ls9 kc9 ns9 h1 h2 hS9 => by
    refine lv_iconst (v := 1) hx hb d_law_705 (by decide) ?_
    refine va_forget (fun q hq => hA2 _ (hS9.2.2 q hq)) ?_
    refine W.widen (k := 601024) (n := 7293034) h1 h2 ?_
    exact lw_ret hx hb hr hlocks d_law_706) 512 64 64 0 (fun _ _ => false) (64 : Int32) (64 : Int32) (0 : Int32) (0 : Int32) (0 : Int32) (0 : Int32) (0 : Int32) (0 : Int32) (0 : Int32) (0 : Int32) (0 : Int32) (0 : Int32) (0 : Int32) (0 : Int32) (0 : Int32) (0 : Int32) (64 : Int32) (64 : Int32) (0 : Int32) (0 : Int32) (0 : Int32) (fun _ => 0) (fun _ => 0) (fun _ => 0) (fun _ => 0) (fun _ => 0) (fun _ => 0) (fun _ => 0) (fun _ => 0) (fun _ => 0) (fun _ => 0) (fun _ => 0) (fun _ => 0) (fun _ => 0) (fun _ => 0) 20 1061667 (by decide) (by decide) 0 0 (by decide) (by decide) (by decide) (by decide) (iS_0 (w := 64) (h := 64) (by decide) (by decide) ⟨by decide, by decide, by decide, by decide⟩ (fun _ _ => rfl) (fun _ _ => rfl) ⟨fun _ _ _ => rfl, fun _ _ _ => rfl⟩ ⟨fun _ _ _ => rfl, fun _ _ _ => rfl⟩) (iN_0 (fun _ _ => rfl)) iV_0 _ _ ls (lv_sub hl [4, 3, 2, 1, 0] rfl) (hP.sub [0, 1, 2, 3, 4, 5, 6, 7, 8, 9, 10, 11, 12, 13, 14, 15, 16, 17, 18, 19] rfl) (hD.sub [0, 1, 2, 3, 4, 5, 6, 7, 8, 9, 10, 11, 12, 13, 14, 15, 16, 17, 18, 19] (by decide) rfl) hS
