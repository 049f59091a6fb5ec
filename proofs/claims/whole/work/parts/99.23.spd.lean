set_option maxHeartbeats 4000000 in
set_option maxRecDepth 100000 in
theorem c_siftPlaces_s (d : Nat) (ih : ∀ d' : Nat, d = d' + 1 → ∀ (l : Launch) (dC : Nat → ClassId) (dI : Nat → Nat → Nat) (sz : Nat) (hq hp hw hs hst hqf hkn : Nat) (kS : ClassId) (pw ph psr lim thd md sz0 tm tx ty sx sy stp : Int32) (fs : Nat → Int32) (Wd Ht M S : Int) (D : Int → Int → Bool) (hpw : pw.toInt = Wd) (hph : ph.toInt = Ht) (hmd : md.toInt = M) (hsz0 : sz0.toInt = S) (hW1 : 1 ≤ Wd) (hW2 : Wd ≤ 512) (hH1 : 1 ≤ Ht) (hH2 : Ht ≤ 512) (hM1 : 1 ≤ M) (hM2 : M ≤ 16) (hsum : ∀ x y, 0 ≤ x → x ≤ Wd → 0 ≤ y → y ≤ Ht → (fs (y * 513 + x).toNat).toInt = cI D 0 0 x y) (cN : ClassId) (kn : Nat → Int64) (ST : Int) (hst0 : stp.toInt = ST) (hst1 : 0 ≤ ST) (hst2 : ST < 8388608) (hkn0 : KN D M ST kn) (LIM : Int) (hlim : lim.toInt = LIM) (hL0 : 0 ≤ LIM) (hL1 : LIM ≤ 500) (V : Int) (hV : S = 17 + 4 * V) (V1 : 1 ≤ V) (V2 : V ≤ 40) (THD : Int) (hthd : thd.toInt = THD) (hTHD : THD = LIM / 3) (ak ar : Nat) (cK cR : ClassId) (cnt : Int32) (kf wf : Nat → Int32) (nc : Int) (hcnt : cnt.toInt = nc) (AL F : Int → Int → Int → Int → Int → Prop) (hSR : SR D AL F tm kf wf nc) (cQ : ClassId) (qf : Nat → Int32) (a1 a2 a3 a4 a5 a6 a7 : Int32) (k Qs L T RR BO DEP : Int) (g1 : a1.toInt = k) (g2 : a2.toInt = Qs) (g3 : a3.toInt = L) (g4 : a4.toInt = T) (g5 : a5.toInt = RR) (g6 : a6.toInt = BO) (g7 : a7.toInt = DEP) (hk0 : 0 ≤ k) (hk3 : k ≤ 3) (Q0 : 0 ≤ Qs) (Q1 : Qs < 16) (hQ : bt Qs ((k + 2) % 4) = false) (hl0 : 0 ≤ L) (ht0 : 0 ≤ T) (hr0 : RR + S * M ≤ Wd) (hb0 : BO + S * M ≤ Ht) (d0 : 0 ≤ DEP) (d1 : DEP + (d' : Nat) ≤ 10) (dx : RR - L < ((2 ^ d' : Nat) : Int)) (dy : BO - T < ((2 ^ d' : Nat) : Int)) (hAL : ∀ x y m v q, F x y m v q → AL x y m v q) (hdis : ∀ x y m v q, tgP D LIM THD M V k Qs L T RR BO x y m v q → AL x y m v q ∧ ¬ F x y m v q),  Met l y_Search_siftPlaces (.code y_Search_siftPlaces b_Search_siftPlaces 18 none :: allw) ({ frames := 3 + d', cells := 0, slots := 0, locals := 82 + d' * 37 }) (va_Pc [.ref hq, .int a1, .int a2, .int a3, .int a4, .int a5, .int a6, .int a7] (rw_B (dC, dI) vwCl [(hq, .inr (3, [.ref hp, .ref hst, .int lim, .int thd, .int md, .int sz0, .int tm, .int tx, .int ty, .int sx, .int sy, .ref hqf, .ref hkn, .int stp])), (hp, .inr (0, [.int pw, .int ph, .ref hw, .ref hs, .int psr])), (hs, .inl (kS, 263169, .inl fs)), (hst, .inr (2, [.ref ak, .ref ar, .int cnt])), (ak, .inl (cK, 300, .inl kf)), (ar, .inl (cR, 300, .inl wf)), (hqf, .inl (cQ, 4, .inl qf)), (hkn, .inl (cN, 262144, .inr (.inl kn)))] [(kS, .int), (cK, .int), (cR, .int), (cQ, .int), (cN, .long)] sz)) (va_Qv (fun (u : Int32 × Int32 × Int32 × Int32 × Int32 × Int32 × (Nat → Int32) × (Nat → Int32) × (Nat → Int32) × (Nat → Int64)) => SR D AL (orF F (tgP D LIM THD M V k Qs L T RR BO)) u.1 u.2.2.2.2.2.2.1 u.2.2.2.2.2.2.2.1 (u.2.2.2.2.2.1 : Int32).toInt ∧ KN D M ST u.2.2.2.2.2.2.2.2.2) (fun u t => rw_E (dC, dI) vwCl [(hq, .inr (3, [.ref hp, .ref hst, .int lim, .int thd, .int md, .int sz0, .int u.1, .int u.2.1, .int u.2.2.1, .int u.2.2.2.1, .int u.2.2.2.2.1, .ref hqf, .ref hkn, .int stp])), (hp, .inr (0, [.int pw, .int ph, .ref hw, .ref hs, .int psr])), (hs, .inl (kS, 263169, .inl fs)), (hst, .inr (2, [.ref ak, .ref ar, .int u.2.2.2.2.2.1])), (ak, .inl (cK, 300, .inl u.2.2.2.2.2.2.1)), (ar, .inl (cR, 300, .inl u.2.2.2.2.2.2.2.1)), (hqf, .inl (cQ, 4, .inl u.2.2.2.2.2.2.2.2.1)), (hkn, .inl (cN, 262144, .inr (.inl u.2.2.2.2.2.2.2.2.2)))] [(kS, .int), (cK, .int), (cR, .int), (cQ, .int), (cN, .long)] (va_A [(hq, .inr (3, [.ref hp, .ref hst, .int lim, .int thd, .int md, .int sz0, .int tm, .int tx, .int ty, .int sx, .int sy, .ref hqf, .ref hkn, .int stp])), (hp, .inr (0, [.int pw, .int ph, .ref hw, .ref hs, .int psr])), (hs, .inl (kS, 263169, .inl fs)), (hst, .inr (2, [.ref ak, .ref ar, .int cnt])), (ak, .inl (cK, 300, .inl kf)), (ar, .inl (cR, 300, .inl wf)), (hqf, .inl (cQ, 4, .inl qf)), (hkn, .inl (cN, 262144, .inr (.inl kn)))] sz) t) (va_A [(hq, .inr (3, [.ref hp, .ref hst, .int lim, .int thd, .int md, .int sz0, .int tm, .int tx, .int ty, .int sx, .int sy, .ref hqf, .ref hkn, .int stp])), (hp, .inr (0, [.int pw, .int ph, .ref hw, .ref hs, .int psr])), (hs, .inl (kS, 263169, .inl fs)), (hst, .inr (2, [.ref ak, .ref ar, .int cnt])), (ak, .inl (cK, 300, .inl kf)), (ar, .inl (cR, 300, .inl wf)), (hqf, .inl (cQ, 4, .inl qf)), (hkn, .inl (cN, 262144, .inr (.inl kn)))] sz)) 0 0 (va_A [(hq, .inr (3, [.ref hp, .ref hst, .int lim, .int thd, .int md, .int sz0, .int tm, .int tx, .int ty, .int sx, .int sy, .ref hqf, .ref hkn, .int stp])), (hp, .inr (0, [.int pw, .int ph, .ref hw, .ref hs, .int psr])), (hs, .inl (kS, 263169, .inl fs)), (hst, .inr (2, [.ref ak, .ref ar, .int cnt])), (ak, .inl (cK, 300, .inl kf)), (ar, .inl (cR, 300, .inl wf)), (hqf, .inl (cQ, 4, .inl qf)), (hkn, .inl (cN, 262144, .inr (.inl kn)))] sz)) (l : Launch) (dC : Nat → ClassId) (dI : Nat → Nat → Nat) (sz : Nat) (hq hp hw hs hst hqf hkn : Nat) (kS : ClassId) (pw ph psr lim thd md sz0 tm tx ty sx sy stp : Int32) (fs : Nat → Int32) (Wd Ht M S : Int) (D : Int → Int → Bool) (hpw : pw.toInt = Wd) (hph : ph.toInt = Ht) (hmd : md.toInt = M) (hsz0 : sz0.toInt = S) (hW1 : 1 ≤ Wd) (hW2 : Wd ≤ 512) (hH1 : 1 ≤ Ht) (hH2 : Ht ≤ 512) (hM1 : 1 ≤ M) (hM2 : M ≤ 16) (hsum : ∀ x y, 0 ≤ x → x ≤ Wd → 0 ≤ y → y ≤ Ht → (fs (y * 513 + x).toNat).toInt = cI D 0 0 x y) (cN : ClassId) (kn : Nat → Int64) (ST : Int) (hst0 : stp.toInt = ST) (hst1 : 0 ≤ ST) (hst2 : ST < 8388608) (hkn0 : KN D M ST kn) (LIM : Int) (hlim : lim.toInt = LIM) (hL0 : 0 ≤ LIM) (hL1 : LIM ≤ 500) (V : Int) (hV : S = 17 + 4 * V) (V1 : 1 ≤ V) (V2 : V ≤ 40) (THD : Int) (hthd : thd.toInt = THD) (hTHD : THD = LIM / 3) (ak ar : Nat) (cK cR : ClassId) (cnt : Int32) (kf wf : Nat → Int32) (nc : Int) (hcnt : cnt.toInt = nc) (AL F : Int → Int → Int → Int → Int → Prop) (hSR : SR D AL F tm kf wf nc) (cQ : ClassId) (qf : Nat → Int32) (a1 a2 a3 a4 a5 a6 a7 : Int32) (k Qs L T RR BO DEP : Int) (g1 : a1.toInt = k) (g2 : a2.toInt = Qs) (g3 : a3.toInt = L) (g4 : a4.toInt = T) (g5 : a5.toInt = RR) (g6 : a6.toInt = BO) (g7 : a7.toInt = DEP) (hk0 : 0 ≤ k) (hk3 : k ≤ 3) (Q0 : 0 ≤ Qs) (Q1 : Qs < 16) (hQ : bt Qs ((k + 2) % 4) = false) (hl0 : 0 ≤ L) (ht0 : 0 ≤ T) (hr0 : RR + S * M ≤ Wd) (hb0 : BO + S * M ≤ Ht) (d0 : 0 ≤ DEP) (d1 : DEP + (d : Nat) ≤ 10) (dx : RR - L < ((2 ^ d : Nat) : Int)) (dy : BO - T < ((2 ^ d : Nat) : Int)) (hAL : ∀ x y m v q, F x y m v q → AL x y m v q) (hdis : ∀ x y m v q, tgP D LIM THD M V k Qs L T RR BO x y m v q → AL x y m v q ∧ ¬ F x y m v q) : Met l y_Search_siftPlaces (.code y_Search_siftPlaces b_Search_siftPlaces 18 none :: allw) ({ frames := 3 + d, cells := 0, slots := 0, locals := 82 + d * 37 }) (va_Pc [.ref hq, .int a1, .int a2, .int a3, .int a4, .int a5, .int a6, .int a7] (rw_B (dC, dI) vwCl [(hq, .inr (3, [.ref hp, .ref hst, .int lim, .int thd, .int md, .int sz0, .int tm, .int tx, .int ty, .int sx, .int sy, .ref hqf, .ref hkn, .int stp])), (hp, .inr (0, [.int pw, .int ph, .ref hw, .ref hs, .int psr])), (hs, .inl (kS, 263169, .inl fs)), (hst, .inr (2, [.ref ak, .ref ar, .int cnt])), (ak, .inl (cK, 300, .inl kf)), (ar, .inl (cR, 300, .inl wf)), (hqf, .inl (cQ, 4, .inl qf)), (hkn, .inl (cN, 262144, .inr (.inl kn)))] [(kS, .int), (cK, .int), (cR, .int), (cQ, .int), (cN, .long)] sz)) (va_Qv (fun (u : Int32 × Int32 × Int32 × Int32 × Int32 × Int32 × (Nat → Int32) × (Nat → Int32) × (Nat → Int32) × (Nat → Int64)) => SR D AL (orF F (tgP D LIM THD M V k Qs L T RR BO)) u.1 u.2.2.2.2.2.2.1 u.2.2.2.2.2.2.2.1 (u.2.2.2.2.2.1 : Int32).toInt ∧ KN D M ST u.2.2.2.2.2.2.2.2.2) (fun u t => rw_E (dC, dI) vwCl [(hq, .inr (3, [.ref hp, .ref hst, .int lim, .int thd, .int md, .int sz0, .int u.1, .int u.2.1, .int u.2.2.1, .int u.2.2.2.1, .int u.2.2.2.2.1, .ref hqf, .ref hkn, .int stp])), (hp, .inr (0, [.int pw, .int ph, .ref hw, .ref hs, .int psr])), (hs, .inl (kS, 263169, .inl fs)), (hst, .inr (2, [.ref ak, .ref ar, .int u.2.2.2.2.2.1])), (ak, .inl (cK, 300, .inl u.2.2.2.2.2.2.1)), (ar, .inl (cR, 300, .inl u.2.2.2.2.2.2.2.1)), (hqf, .inl (cQ, 4, .inl u.2.2.2.2.2.2.2.2.1)), (hkn, .inl (cN, 262144, .inr (.inl u.2.2.2.2.2.2.2.2.2)))] [(kS, .int), (cK, .int), (cR, .int), (cQ, .int), (cN, .long)] (va_A [(hq, .inr (3, [.ref hp, .ref hst, .int lim, .int thd, .int md, .int sz0, .int tm, .int tx, .int ty, .int sx, .int sy, .ref hqf, .ref hkn, .int stp])), (hp, .inr (0, [.int pw, .int ph, .ref hw, .ref hs, .int psr])), (hs, .inl (kS, 263169, .inl fs)), (hst, .inr (2, [.ref ak, .ref ar, .int cnt])), (ak, .inl (cK, 300, .inl kf)), (ar, .inl (cR, 300, .inl wf)), (hqf, .inl (cQ, 4, .inl qf)), (hkn, .inl (cN, 262144, .inr (.inl kn)))] sz) t) (va_A [(hq, .inr (3, [.ref hp, .ref hst, .int lim, .int thd, .int md, .int sz0, .int tm, .int tx, .int ty, .int sx, .int sy, .ref hqf, .ref hkn, .int stp])), (hp, .inr (0, [.int pw, .int ph, .ref hw, .ref hs, .int psr])), (hs, .inl (kS, 263169, .inl fs)), (hst, .inr (2, [.ref ak, .ref ar, .int cnt])), (ak, .inl (cK, 300, .inl kf)), (ar, .inl (cR, 300, .inl wf)), (hqf, .inl (cQ, 4, .inl qf)), (hkn, .inl (cN, 262144, .inr (.inl kn)))] sz)) 0 0 (va_A [(hq, .inr (3, [.ref hp, .ref hst, .int lim, .int thd, .int md, .int sz0, .int tm, .int tx, .int ty, .int sx, .int sy, .ref hqf, .ref hkn, .int stp])), (hp, .inr (0, [.int pw, .int ph, .ref hw, .ref hs, .int psr])), (hs, .inl (kS, 263169, .inl fs)), (hst, .inr (2, [.ref ak, .ref ar, .int cnt])), (ak, .inl (cK, 300, .inl kf)), (ar, .inl (cR, 300, .inl wf)), (hqf, .inl (cQ, 4, .inl qf)), (hkn, .inl (cN, 262144, .inr (.inl kn)))] sz) := by
  refine Met.ofW (cc := b_Search_siftPlaces) (maxL := 18) (ret := none) (by decide) rfl ?_
  intro p e s m args below meth c s₁ B hml hv
  obtain ⟨rfl, hsz, hP, hK, hD0⟩ := hv
  have hx := B.exec
  have hb := B.bytes
  have hr := B.returns
  have hts : ∀ w ∈ allw, w.before _ s = true := fun w h => atoms_spec (ws := .code y_Search_siftPlaces b_Search_siftPlaces 18 none :: allw) B.pre w (List.mem_cons_of_mem _ h)
  have hown : s.vm.findClass R_Search = some m.cls := findClass_of_methodNamed B.named
  have hlocks := B.notSynchronized
  subst hsz
  have hD := hD0.self (sz := s.heap.size)
  generalize hAe : va_A [(hq, .inr (3, [.ref hp, .ref hst, .int lim, .int thd, .int md, .int sz0, .int tm, .int tx, .int ty, .int sx, .int sy, .ref hqf, .ref hkn, .int stp])), (hp, .inr (0, [.int pw, .int ph, .ref hw, .ref hs, .int psr])), (hs, .inl (kS, 263169, .inl fs)), (hst, .inr (2, [.ref ak, .ref ar, .int cnt])), (ak, .inl (cK, 300, .inl kf)), (ar, .inl (cR, 300, .inl wf)), (hqf, .inl (cQ, 4, .inl qf)), (hkn, .inl (cN, 262144, .inr (.inl kn)))] s.heap.size = A at hD ⊢
  have hA : ∀ q : Nat, s.heap.size ≤ q → A q := fun q h => by rw [← hAe]; exact Or.inr h
  have hS : va_S A s.heap s.heap [] := va_S.rf
  have hP : va_P (dC, dI) vwCl [(hq, .inr (3, [.ref hp, .ref hst, .int lim, .int thd, .int md, .int sz0, .int tm, .int tx, .int ty, .int sx, .int sy, .ref hqf, .ref hkn, .int stp])), (hp, .inr (0, [.int pw, .int ph, .ref hw, .ref hs, .int psr])), (hs, .inl (kS, 263169, .inl fs)), (hst, .inr (2, [.ref ak, .ref ar, .int cnt])), (ak, .inl (cK, 300, .inl kf)), (ar, .inl (cR, 300, .inl wf)), (hqf, .inl (cQ, 4, .inl qf)), (hkn, .inl (cN, 262144, .inr (.inl kn)))] s.heap := hP
  have hl := lv_entry ([.ref hq, .int a1, .int a2, .int a3, .int a4, .int a5, .int a6, .int a7]) (n := 18) (Nat.le_of_ble_eq_true rfl)
  rw [lg_entry_eq]
  generalize (lg_sl ([.ref hq, .int a1, .int a2, .int a3, .int a4, .int a5, .int a6, .int a7]) ++ List.replicate (18 - (lg_sl ([.ref hq, .int a1, .int a2, .int a3, .int a4, .int a5, .int a6, .int a7])).length) Slot.unset).toArray = ls at hl ⊢
  have hl : lv_has ls 18 [(0, .ref hq), (1, .int a1), (2, .int a2), (3, .int a3), (4, .int a4), (5, .int a5), (6, .int a6), (7, .int a7)] := hl
  change W p l e ({ frames := 3 + d, cells := 0, slots := 0, locals := 82 + d * 37 }) s m _ below meth c s.heap [] 0 0 _ _
  have m2 := mul_b (a := M) (b := M) (n := 16) (by omega) (by omega) (by omega) (by omega)
  have m1 := Int.mul_le_mul (show 1 ≤ M by omega) (show 1 ≤ M by omega) (by omega) (by omega)
  have mS := Int.mul_le_mul (show 21 ≤ S by omega) (show 1 ≤ M by omega) (by omega) (by omega)
  have mS1 : 21 * M ≤ S * M := Int.mul_le_mul_of_nonneg_right (by omega) (by omega)
  have mc : M * S = S * M := Int.mul_comm _ _
  have e7 : (S - 7) * M = S * M - 7 * M := Int.sub_mul _ _ _
  have q5 := ti_rng a5
  have q6 := ti_rng a6
  refine lv_aload_n hx hb d_Search_siftPlaces_0 rfl (lv_at hl 0 rfl) ?_
  refine va_get (D := (dC, dI)) (ci := 3) (v := .int tm) (C := R_Search) (T := T_Search) (N := 14) hx hb hts i_Search hown hK hP 0 rfl rfl 6 (by decide) (hts _ wd_87) (fun _ h9 => h9) rfl d_Search_siftPlaces_1 ?_
  refine lv_if_ne (tgt := 27) hx hb d_Search_siftPlaces_4 (by decide) (fun c4 => ?_) (fun c4 => ?_)
  · skip
    have hpost : SR D AL (orF F (tgP D LIM THD M V k Qs L T RR BO)) tm kf wf (cnt : Int32).toInt ∧ KN D M ST kn := by
      refine ⟨?_, hkn0⟩
      rw [hcnt]
      first | exact SR_done hSR c4 | exact SR_congr hSR (fun _ _ _ _ _ => or_out (by omega)) | exact absurd c11 (by omega)
    have hP9 := hP.sub (ws' := [(hq, .inr (3, [.ref hp, .ref hst, .int lim, .int thd, .int md, .int sz0, .int tm, .int tx, .int ty, .int sx, .int sy, .ref hqf, .ref hkn, .int stp])), (hp, .inr (0, [.int pw, .int ph, .ref hw, .ref hs, .int psr])), (hs, .inl (kS, 263169, .inl fs)), (hst, .inr (2, [.ref ak, .ref ar, .int cnt])), (ak, .inl (cK, 300, .inl kf)), (ar, .inl (cR, 300, .inl wf)), (hqf, .inl (cQ, 4, .inl qf)), (hkn, .inl (cN, 262144, .inr (.inl kn)))]) [0, 1, 2, 3, 4, 5, 6, 7] rfl
    have hD9 := hD.sub (ws' := [(hq, .inr (3, [.ref hp, .ref hst, .int lim, .int thd, .int md, .int sz0, .int tm, .int tx, .int ty, .int sx, .int sy, .ref hqf, .ref hkn, .int stp])), (hp, .inr (0, [.int pw, .int ph, .ref hw, .ref hs, .int psr])), (hs, .inl (kS, 263169, .inl fs)), (hst, .inr (2, [.ref ak, .ref ar, .int cnt])), (ak, .inl (cK, 300, .inl kf)), (ar, .inl (cR, 300, .inl wf)), (hqf, .inl (cQ, 4, .inl qf)), (hkn, .inl (cN, 262144, .inr (.inl kn)))]) [0, 1, 2, 3, 4, 5, 6, 7] (by decide) rfl
    have hK9 := hK.sub (tys' := [(kS, .int), (cK, .int), (cR, .int), (cQ, .int), (cN, .long)]) [0, 1, 2, 3, 4] rfl
    exact W.vret hx hb hr (fun t ht hW => ⟨⟨(tm, tx, ty, sx, sy, cnt, kf, wf, qf, kn), rfl, hpost, by rw [ht]; exact hP9, va_K.moved hW.alike hK9, hD9⟩, hS.F ht⟩) hS.2.2 d_Search_siftPlaces_27
  · skip
    refine lv_iload hx hb d_Search_siftPlaces_7 (lv_at hl 7 rfl) ?_
    refine lv_bipush (v := 10) hx hb d_Search_siftPlaces_9 (by decide) ?_
    refine lv_icmp_gt (tgt := 27) hx hb d_Search_siftPlaces_11 (by decide) (fun c11 => ?_) (fun c11 => ?_)
    · skip
      have c11 : (10 : Int) < DEP := (ti_lt (ti_k (by decide)) g7).mp c11
      have hpost : SR D AL (orF F (tgP D LIM THD M V k Qs L T RR BO)) tm kf wf (cnt : Int32).toInt ∧ KN D M ST kn := by
        refine ⟨?_, hkn0⟩
        rw [hcnt]
        first | exact SR_done hSR c4 | exact SR_congr hSR (fun _ _ _ _ _ => or_out (by omega)) | exact absurd c11 (by omega)
      have hP9 := hP.sub (ws' := [(hq, .inr (3, [.ref hp, .ref hst, .int lim, .int thd, .int md, .int sz0, .int tm, .int tx, .int ty, .int sx, .int sy, .ref hqf, .ref hkn, .int stp])), (hp, .inr (0, [.int pw, .int ph, .ref hw, .ref hs, .int psr])), (hs, .inl (kS, 263169, .inl fs)), (hst, .inr (2, [.ref ak, .ref ar, .int cnt])), (ak, .inl (cK, 300, .inl kf)), (ar, .inl (cR, 300, .inl wf)), (hqf, .inl (cQ, 4, .inl qf)), (hkn, .inl (cN, 262144, .inr (.inl kn)))]) [0, 1, 2, 3, 4, 5, 6, 7] rfl
      have hD9 := hD.sub (ws' := [(hq, .inr (3, [.ref hp, .ref hst, .int lim, .int thd, .int md, .int sz0, .int tm, .int tx, .int ty, .int sx, .int sy, .ref hqf, .ref hkn, .int stp])), (hp, .inr (0, [.int pw, .int ph, .ref hw, .ref hs, .int psr])), (hs, .inl (kS, 263169, .inl fs)), (hst, .inr (2, [.ref ak, .ref ar, .int cnt])), (ak, .inl (cK, 300, .inl kf)), (ar, .inl (cR, 300, .inl wf)), (hqf, .inl (cQ, 4, .inl qf)), (hkn, .inl (cN, 262144, .inr (.inl kn)))]) [0, 1, 2, 3, 4, 5, 6, 7] (by decide) rfl
      have hK9 := hK.sub (tys' := [(kS, .int), (cK, .int), (cR, .int), (cQ, .int), (cN, .long)]) [0, 1, 2, 3, 4] rfl
      exact W.vret hx hb hr (fun t ht hW => ⟨⟨(tm, tx, ty, sx, sy, cnt, kf, wf, qf, kn), rfl, hpost, by rw [ht]; exact hP9, va_K.moved hW.alike hK9, hD9⟩, hS.F ht⟩) hS.2.2 d_Search_siftPlaces_27
    · skip
      have c11 : ¬ ((10 : Int) < DEP) := fun q => c11 ((ti_lt (ti_k (by decide)) g7).mpr q)
      refine lv_iload_n hx hb d_Search_siftPlaces_14 rfl (lv_at hl 3 rfl) ?_
      refine lv_iload hx hb d_Search_siftPlaces_15 (lv_at hl 5 rfl) ?_
      refine lv_icmp_gt (tgt := 27) hx hb d_Search_siftPlaces_17 (by decide) (fun c17 => ?_) (fun c17 => ?_)
      · skip
        have c17 : RR < L := (ti_lt g5 g3).mp c17
        have hpost : SR D AL (orF F (tgP D LIM THD M V k Qs L T RR BO)) tm kf wf (cnt : Int32).toInt ∧ KN D M ST kn := by
          refine ⟨?_, hkn0⟩
          rw [hcnt]
          first | exact SR_done hSR c4 | exact SR_congr hSR (fun _ _ _ _ _ => or_out (by omega)) | exact absurd c11 (by omega)
        have hP9 := hP.sub (ws' := [(hq, .inr (3, [.ref hp, .ref hst, .int lim, .int thd, .int md, .int sz0, .int tm, .int tx, .int ty, .int sx, .int sy, .ref hqf, .ref hkn, .int stp])), (hp, .inr (0, [.int pw, .int ph, .ref hw, .ref hs, .int psr])), (hs, .inl (kS, 263169, .inl fs)), (hst, .inr (2, [.ref ak, .ref ar, .int cnt])), (ak, .inl (cK, 300, .inl kf)), (ar, .inl (cR, 300, .inl wf)), (hqf, .inl (cQ, 4, .inl qf)), (hkn, .inl (cN, 262144, .inr (.inl kn)))]) [0, 1, 2, 3, 4, 5, 6, 7] rfl
        have hD9 := hD.sub (ws' := [(hq, .inr (3, [.ref hp, .ref hst, .int lim, .int thd, .int md, .int sz0, .int tm, .int tx, .int ty, .int sx, .int sy, .ref hqf, .ref hkn, .int stp])), (hp, .inr (0, [.int pw, .int ph, .ref hw, .ref hs, .int psr])), (hs, .inl (kS, 263169, .inl fs)), (hst, .inr (2, [.ref ak, .ref ar, .int cnt])), (ak, .inl (cK, 300, .inl kf)), (ar, .inl (cR, 300, .inl wf)), (hqf, .inl (cQ, 4, .inl qf)), (hkn, .inl (cN, 262144, .inr (.inl kn)))]) [0, 1, 2, 3, 4, 5, 6, 7] (by decide) rfl
        have hK9 := hK.sub (tys' := [(kS, .int), (cK, .int), (cR, .int), (cQ, .int), (cN, .long)]) [0, 1, 2, 3, 4] rfl
        exact W.vret hx hb hr (fun t ht hW => ⟨⟨(tm, tx, ty, sx, sy, cnt, kf, wf, qf, kn), rfl, hpost, by rw [ht]; exact hP9, va_K.moved hW.alike hK9, hD9⟩, hS.F ht⟩) hS.2.2 d_Search_siftPlaces_27
      · skip
        have c17 : ¬ (RR < L) := fun q => c17 ((ti_lt g5 g3).mpr q)
        refine lv_iload hx hb d_Search_siftPlaces_20 (lv_at hl 4 rfl) ?_
        refine lv_iload hx hb d_Search_siftPlaces_22 (lv_at hl 6 rfl) ?_
        refine lv_icmp_le (tgt := 28) hx hb d_Search_siftPlaces_24 (by decide) (fun c24 => ?_) (fun c24 => ?_)
        · skip
          have c24 : T ≤ BO := (ti_le g4 g6).mp c24
          refine lv_aload_n hx hb d_Search_siftPlaces_28 rfl (lv_at hl 0 rfl) ?_
          refine lv_iload_n hx hb d_Search_siftPlaces_29 rfl (lv_at hl 3 rfl) ?_
          refine lv_iload hx hb d_Search_siftPlaces_30 (lv_at hl 4 rfl) ?_
          refine lv_iload hx hb d_Search_siftPlaces_32 (lv_at hl 5 rfl) ?_
          refine lv_iload hx hb d_Search_siftPlaces_34 (lv_at hl 6 rfl) ?_
          obtain ⟨SX, eSX⟩ : ∃ c : Int, c = RR - L := ⟨_, rfl⟩
          obtain ⟨SY, eSY⟩ : ∃ c : Int, c = BO - T := ⟨_, rfl⟩
          have hPc := hP.sub (ws' := [(hq, .inr (3, [.ref hp, .ref hst, .int lim, .int thd, .int md, .int sz0, .int tm, .int tx, .int ty, .int sx, .int sy, .ref hqf, .ref hkn, .int stp]))]) [0] rfl
          have hKc := hK.sub (tys' := []) [] rfl
          have hDc := hD.sub (ws' := [(hq, .inr (3, [.ref hp, .ref hst, .int lim, .int thd, .int md, .int sz0, .int tm, .int tx, .int ty, .int sx, .int sy, .ref hqf, .ref hkn, .int stp]))]) [0] (by decide) rfl
          have hFc := va_free (wc := [(hq, .inr (3, [.ref hp, .ref hst, .int lim, .int thd, .int md, .int sz0, .int tm, .int tx, .int ty, .int sx, .int sy, .ref hqf, .ref hkn, .int stp]))]) hD hS hA [0] rfl
          refine va_callv (va_runV (As := [.int a3, .int a4, .int a5, .int a6]) (rest := []) ⟨hx, hb, hml, hown, hts⟩ (c_takeTile l dC dI s.heap.size hq hp hst hqf hkn lim thd md sz0 tm tx ty sx sy stp a3 a4 a5 a6 L T RR BO g3 g4 g5 g6 (by omega) (by omega) (by omega) (by omega)) (aw_V 4 hts wd_402 wd_404 ws_7 wd_2 wd_405 rfl rfl (by decide +kernel) ⟨by dsimp only; omega, by dsimp only; omega⟩) ⟨rw_blind, va_recv hKc hPc (ci := 3) (q0 := 0) rfl rfl, rw_pre hPc hKc hDc⟩ rfl rfl hl.1 rfl (lv_room (Nat.le_of_ble_eq_true rfl)) d_Search_siftPlaces_36 ⟨by dsimp only; omega, by dsimp only; omega⟩) hS (fun q _ h => hFc q h) hFc (fun u t9 H36 locs ht hvm h36 hB hz1 hk1 hS => ?_)
          obtain ⟨u36_sx, u36_sy⟩ := u
          obtain ⟨hP1, _, hD1⟩ := hB
          rw [ht] at hP1
          try dsimp only at h36 hP1 hD1
          obtain ⟨hP, hD⟩ := va_join (wr := [(hp, .inr (0, [.int pw, .int ph, .ref hw, .ref hs, .int psr])), (hs, .inl (kS, 263169, .inl fs)), (hst, .inr (2, [.ref ak, .ref ar, .int cnt])), (ak, .inl (cK, 300, .inl kf)), (ar, .inl (cR, 300, .inl wf)), (hqf, .inl (cQ, 4, .inl qf)), (hkn, .inl (cN, 262144, .inr (.inl kn)))]) (w1 := [(hq, .inr (3, [.ref hp, .ref hst, .int lim, .int thd, .int md, .int sz0, .int tm, .int a3, .int a4, .int u36_sx, .int u36_sy, .ref hqf, .ref hkn, .int stp]))]) hP hD [0] [1, 2, 3, 4, 5, 6, 7] rfl rfl (by decide) (by decide) hk1 hFc hP1 hD1
          have hP := hP.sub (ws' := [(hq, .inr (3, [.ref hp, .ref hst, .int lim, .int thd, .int md, .int sz0, .int tm, .int a3, .int a4, .int u36_sx, .int u36_sy, .ref hqf, .ref hkn, .int stp])), (hp, .inr (0, [.int pw, .int ph, .ref hw, .ref hs, .int psr])), (hs, .inl (kS, 263169, .inl fs)), (hst, .inr (2, [.ref ak, .ref ar, .int cnt])), (ak, .inl (cK, 300, .inl kf)), (ar, .inl (cR, 300, .inl wf)), (hqf, .inl (cQ, 4, .inl qf)), (hkn, .inl (cN, 262144, .inr (.inl kn)))]) [7, 0, 1, 2, 3, 4, 5, 6] rfl
          have hD := hD.sub (ws' := [(hq, .inr (3, [.ref hp, .ref hst, .int lim, .int thd, .int md, .int sz0, .int tm, .int a3, .int a4, .int u36_sx, .int u36_sy, .ref hqf, .ref hkn, .int stp])), (hp, .inr (0, [.int pw, .int ph, .ref hw, .ref hs, .int psr])), (hs, .inl (kS, 263169, .inl fs)), (hst, .inr (2, [.ref ak, .ref ar, .int cnt])), (ak, .inl (cK, 300, .inl kf)), (ar, .inl (cR, 300, .inl wf)), (hqf, .inl (cQ, 4, .inl qf)), (hkn, .inl (cN, 262144, .inr (.inl kn)))]) [7, 0, 1, 2, 3, 4, 5, 6] (by decide) rfl
          clear hPc hKc hDc hFc ht hvm hz1 hk1 hP1 hD1
          have hsx : u36_sx.toInt = SX := by rw [h36.1, eSX]
          have hsy : u36_sy.toInt = SY := by rw [h36.2, eSY]
          have hB : sBnd Wd Ht M S L T SX SY := by unfold sBnd; omega
          have cLR : L ≤ RR := by omega
          have cTB : T ≤ BO := by omega
          refine lv_aload_n hx hb d_Search_siftPlaces_39 rfl (lv_at hl 0 rfl) ?_
          have hPc := hP.sub (ws' := [(hq, .inr (3, [.ref hp, .ref hst, .int lim, .int thd, .int md, .int sz0, .int tm, .int a3, .int a4, .int u36_sx, .int u36_sy, .ref hqf, .ref hkn, .int stp])), (hp, .inr (0, [.int pw, .int ph, .ref hw, .ref hs, .int psr])), (hs, .inl (kS, 263169, .inl fs))]) [0, 1, 2] rfl
          have hKc := hK.sub (tys' := [(kS, .int)]) [0] rfl
          refine va_calli (va_runV (As := []) (rest := []) ⟨hx, hb, hml, hown, hts⟩ (c_isSingle l dC dI hq hp hw hs hst hqf hkn kS pw ph psr lim thd md sz0 tm a3 a4 u36_sx u36_sy stp fs Wd Ht M S L T SX SY D hpw hph hmd hsz0 g3 g4 hsx hsy hB hsum) (aw_V 0 hts wd_418 wd_420 ws_10 wd_2 wd_421 rfl rfl (by decide +kernel) ⟨by dsimp only; omega, by dsimp only; omega⟩) ⟨ro_blind, va_recv hKc hPc (ci := 3) (q0 := 0) rfl rfl, ro_pre hPc hKc⟩ rfl rfl hl.1 rfl (lv_room (Nat.le_of_ble_eq_true rfl)) d_Search_siftPlaces_40 ⟨Nat.le_of_ble_eq_true rfl, Nat.le_of_ble_eq_true rfl⟩) hS (fun q _ h => h.elim) (fun q h => h.elim) (fun v40 _ t9 H40 locs ht hvm h40 hB hz1 hk1 hS => ?_)
          have hP := ro_keep hP hk1
          clear hPc hKc ht hvm hB hz1 hk1
          refine lv_istore (lv' := [(8, .int v40), (0, .ref hq), (1, .int a1), (2, .int a2), (3, .int a3), (4, .int a4), (5, .int a5), (6, .int a6), (7, .int a7)]) hx hb d_Search_siftPlaces_43 hl (by decide) rfl (fun ls hl => ?_)
          refine lv_iload_n hx hb d_Search_siftPlaces_45 rfl (lv_at hl 3 rfl) ?_
          refine lv_istore (lv' := [(9, .int a2), (8, .int v40), (0, .ref hq), (1, .int a1), (2, .int a2), (3, .int a3), (4, .int a4), (5, .int a5), (6, .int a6), (7, .int a7)]) hx hb d_Search_siftPlaces_46 hl (by decide) rfl (fun ls hl => ?_)
          refine lv_aload_n hx hb d_Search_siftPlaces_48 rfl (lv_at hl 2 rfl) ?_
          refine va_get (D := (dC, dI)) (ci := 3) (v := .ref hqf) (C := R_Search) (T := T_Search) (N := 14) hx hb hts i_Search hown hK hP 0 rfl rfl 11 (by decide) (hts _ wd_92) (fun _ h9 => h9) rfl d_Search_siftPlaces_49 ?_
          refine lv_iconst (v := 0) hx hb d_Search_siftPlaces_52 (by decide) ?_
          have hPc := hP.sub (ws' := [(hqf, .inl (cQ, 4, .inl qf))]) [6] rfl
          have hKc := hK.sub (tys' := [(cQ, .int)]) [3] rfl
          have hDc := hD.sub (ws' := [(hqf, .inl (cQ, 4, .inl qf))]) [6] (by decide) rfl
          have hFc := va_free (wc := [(hqf, .inl (cQ, 4, .inl qf))]) hD hS hA [6] rfl
          refine va_callv (va_runS (As := [.ref hqf, .int 0]) (rest := []) ⟨hx, hb, hml, hown, hts⟩ (c_fillI l dC dI H40.size hqf cQ 4 (by decide) qf 0) (aw_S 2 hts wd_449 wd_450 wd_10 wd_451 rfl rfl (by decide +kernel) ⟨by dsimp only; omega, by dsimp only; omega⟩) ⟨rw_blind, rw_pre hPc hKc hDc⟩ rfl rfl hl.1 rfl (lv_room (Nat.le_of_ble_eq_true rfl)) d_Search_siftPlaces_53 ⟨by dsimp only; omega, by dsimp only; omega⟩) hS (fun q _ h => hFc q h) hFc (fun u53_f t9 H53 locs ht hvm h53 hB hz1 hk1 hS => ?_)
          obtain ⟨hP1, _, hD1⟩ := hB
          rw [ht] at hP1
          try dsimp only at h53 hP1 hD1
          obtain ⟨hP, hD⟩ := va_join (wr := [(hq, .inr (3, [.ref hp, .ref hst, .int lim, .int thd, .int md, .int sz0, .int tm, .int a3, .int a4, .int u36_sx, .int u36_sy, .ref hqf, .ref hkn, .int stp])), (hp, .inr (0, [.int pw, .int ph, .ref hw, .ref hs, .int psr])), (hs, .inl (kS, 263169, .inl fs)), (hst, .inr (2, [.ref ak, .ref ar, .int cnt])), (ak, .inl (cK, 300, .inl kf)), (ar, .inl (cR, 300, .inl wf)), (hkn, .inl (cN, 262144, .inr (.inl kn)))]) (w1 := [(hqf, .inl (cQ, 4, .inl u53_f))]) hP hD [6] [0, 1, 2, 3, 4, 5, 7] rfl rfl (by decide) (by decide) hk1 hFc hP1 hD1
          have hP := hP.sub (ws' := [(hq, .inr (3, [.ref hp, .ref hst, .int lim, .int thd, .int md, .int sz0, .int tm, .int a3, .int a4, .int u36_sx, .int u36_sy, .ref hqf, .ref hkn, .int stp])), (hp, .inr (0, [.int pw, .int ph, .ref hw, .ref hs, .int psr])), (hs, .inl (kS, 263169, .inl fs)), (hst, .inr (2, [.ref ak, .ref ar, .int cnt])), (ak, .inl (cK, 300, .inl kf)), (ar, .inl (cR, 300, .inl wf)), (hqf, .inl (cQ, 4, .inl u53_f)), (hkn, .inl (cN, 262144, .inr (.inl kn)))]) [0, 1, 2, 3, 4, 5, 7, 6] rfl
          have hD := hD.sub (ws' := [(hq, .inr (3, [.ref hp, .ref hst, .int lim, .int thd, .int md, .int sz0, .int tm, .int a3, .int a4, .int u36_sx, .int u36_sy, .ref hqf, .ref hkn, .int stp])), (hp, .inr (0, [.int pw, .int ph, .ref hw, .ref hs, .int psr])), (hs, .inl (kS, 263169, .inl fs)), (hst, .inr (2, [.ref ak, .ref ar, .int cnt])), (ak, .inl (cK, 300, .inl kf)), (ar, .inl (cR, 300, .inl wf)), (hqf, .inl (cQ, 4, .inl u53_f)), (hkn, .inl (cN, 262144, .inr (.inl kn)))]) [0, 1, 2, 3, 4, 5, 7, 6] (by decide) rfl
          clear hPc hKc hDc hFc ht hvm hz1 hk1 hP1 hD1
          refine w_cut (I := fun H' locs' g' => ∃ (lx : Int32) (zlx : Int) (qx : Nat → Int32) (kx : Nat → Int64) (ls : Array Slot), g' = F0 m 232 ls [] ∧ lv_has ls 18 [(0, .ref hq), (1, .int a1), (2, .int a2), (3, .int a3), (4, .int a4), (5, .int a5), (6, .int a6), (7, .int a7), (8, .int v40), (9, .int lx)] ∧ lx.toInt = zlx ∧ (siI D LIM THD M V L T SX SY k Qs zlx qx 4) ∧ (KN D M ST kx) ∧ va_P (dC, dI) vwCl [(hq, .inr (3, [.ref hp, .ref hst, .int lim, .int thd, .int md, .int sz0, .int tm, .int a3, .int a4, .int u36_sx, .int u36_sy, .ref hqf, .ref hkn, .int stp])), (hp, .inr (0, [.int pw, .int ph, .ref hw, .ref hs, .int psr])), (hs, .inl (kS, 263169, .inl fs)), (hst, .inr (2, [.ref ak, .ref ar, .int cnt])), (ak, .inl (cK, 300, .inl kf)), (ar, .inl (cR, 300, .inl wf)), (hqf, .inl (cQ, 4, .inl qx)), (hkn, .inl (cN, 262144, .inr (.inl kx)))] H' ∧ va_D A [(hq, .inr (3, [.ref hp, .ref hst, .int lim, .int thd, .int md, .int sz0, .int tm, .int a3, .int a4, .int u36_sx, .int u36_sy, .ref hqf, .ref hkn, .int stp])), (hp, .inr (0, [.int pw, .int ph, .ref hw, .ref hs, .int psr])), (hs, .inl (kS, 263169, .inl fs)), (hst, .inr (2, [.ref ak, .ref ar, .int cnt])), (ak, .inl (cK, 300, .inl kf)), (ar, .inl (cR, 300, .inl wf)), (hqf, .inl (cQ, 4, .inl qx)), (hkn, .inl (cN, 262144, .inr (.inl kx)))] ∧ va_S A s.heap H' locs') (c_siftPlaces_t232 d ih l dC dI hq hp hw hs hst hqf hkn kS pw ph psr lim thd md sz0 tm tx ty sx sy stp fs Wd Ht M S D hpw hph hmd hsz0 hW1 hW2 hH1 hH2 hM1 hM2 hsum cN kn ST hst0 hst1 hst2 hkn0 LIM hlim hL0 hL1 V hV V1 V2 THD hthd hTHD ak ar cK cR cnt kf wf nc hcnt AL F hSR cQ qf a1 a2 a3 a4 a5 a6 a7 k Qs L T RR BO DEP g1 g2 g3 g4 g5 g6 g7 hk0 hk3 Q0 Q1 hQ hl0 ht0 hr0 hb0 d0 d1 dx dy hAL hdis ⟨hx, hb, hml, hown, hts⟩ hK hA SX SY eSX eSY u36_sx u36_sy hsx hsy hB v40 h40 cLR cTB (fun pc H9 locs9 ls9 u hpc hpo hP9 hD9 hS9 => by
          rcases hpc with rfl | rfl | rfl
          · exact (have hK9 := hK.sub (tys' := [(kS, .int), (cK, .int), (cR, .int), (cQ, .int), (cN, .long)]) [0, 1, 2, 3, 4] rfl; W.vret hx hb hr (fun t ht hW => ⟨⟨u, rfl, hpo, by rw [ht]; exact hP9, va_K.moved hW.alike hK9, hD9⟩, hS9.F ht⟩) hS9.2.2 d_Search_siftPlaces_321)
          · exact (have hK9 := hK.sub (tys' := [(kS, .int), (cK, .int), (cR, .int), (cQ, .int), (cN, .long)]) [0, 1, 2, 3, 4] rfl; W.vret hx hb hr (fun t ht hW => ⟨⟨u, rfl, hpo, by rw [ht]; exact hP9, va_K.moved hW.alike hK9, hD9⟩, hS9.F ht⟩) hS9.2.2 d_Search_siftPlaces_333)
          · exact (have hK9 := hK.sub (tys' := [(kS, .int), (cK, .int), (cR, .int), (cQ, .int), (cN, .long)]) [0, 1, 2, 3, 4] rfl; W.vret hx hb hr (fun t ht hW => ⟨⟨u, rfl, hpo, by rw [ht]; exact hP9, va_K.moved hW.alike hK9, hD9⟩, hS9.F ht⟩) hS9.2.2 d_Search_siftPlaces_433))) ?_
          intro hj232
          refine lv_iconst (v := 0) hx hb d_Search_siftPlaces_56 (by decide) ?_
          refine lv_istore (lv' := [(10, .int 0), (9, .int a2), (8, .int v40), (0, .ref hq), (1, .int a1), (2, .int a2), (3, .int a3), (4, .int a4), (5, .int a5), (6, .int a6), (7, .int a7)]) hx hb d_Search_siftPlaces_57 hl (by decide) rfl (fun ls hl => ?_)
          refine w_loop (I := fun n H' locs' g' => ∃ (lv : Int32) (zlv : Int) (ss : Int32) (zss : Int) (qc : Nat → Int32) (kc : Nat → Int64) (ls : Array Slot), g' = F0 m 59 ls [] ∧ lv_has ls 18 [(0, .ref hq), (1, .int a1), (2, .int a2), (3, .int a3), (4, .int a4), (5, .int a5), (6, .int a6), (7, .int a7), (8, .int v40), (9, .int lv), (10, .int ss)] ∧ n = (4 - zss).toNat ∧ lv.toInt = zlv ∧ ss.toInt = zss ∧ (0 ≤ zss ∧ zss ≤ 4) ∧ (siI D LIM THD M V L T SX SY k Qs zlv qc zss.toNat) ∧ (KN D M ST kc) ∧ va_P (dC, dI) vwCl [(hq, .inr (3, [.ref hp, .ref hst, .int lim, .int thd, .int md, .int sz0, .int tm, .int a3, .int a4, .int u36_sx, .int u36_sy, .ref hqf, .ref hkn, .int stp])), (hp, .inr (0, [.int pw, .int ph, .ref hw, .ref hs, .int psr])), (hs, .inl (kS, 263169, .inl fs)), (hst, .inr (2, [.ref ak, .ref ar, .int cnt])), (ak, .inl (cK, 300, .inl kf)), (ar, .inl (cR, 300, .inl wf)), (hqf, .inl (cQ, 4, .inl qc)), (hkn, .inl (cN, 262144, .inr (.inl kc)))] H' ∧ va_D A [(hq, .inr (3, [.ref hp, .ref hst, .int lim, .int thd, .int md, .int sz0, .int tm, .int a3, .int a4, .int u36_sx, .int u36_sy, .ref hqf, .ref hkn, .int stp])), (hp, .inr (0, [.int pw, .int ph, .ref hw, .ref hs, .int psr])), (hs, .inl (kS, 263169, .inl fs)), (hst, .inr (2, [.ref ak, .ref ar, .int cnt])), (ak, .inl (cK, 300, .inl kf)), (ar, .inl (cR, 300, .inl wf)), (hqf, .inl (cQ, 4, .inl qc)), (hkn, .inl (cN, 262144, .inr (.inl kc)))] ∧ va_S A s.heap H' locs') ?_ ⟨a2, Qs, 0, 0, u53_f, kn, ls, rfl, lv_sub hl [3, 4, 5, 6, 7, 8, 9, 10, 2, 1, 0] rfl, rfl, g2, (ti_k (by decide)), by omega, si_0 Q0 Q1 (fun i hi => h53 i hi), hkn0, hP, hD, hS⟩
          intro n59 H59 locs g' hI ih59
          obtain ⟨lv, zlv, ss, zss, qc, kc, ls, rfl, hl, hn, hlv, hss, i1, i2, i3, hP, hD, hS⟩ := hI
          have i2l := i2.1
          refine lv_iload hx hb d_Search_siftPlaces_59 (lv_at hl 10 rfl) ?_
          refine lv_iconst (v := 4) hx hb d_Search_siftPlaces_61 (by decide) ?_
          refine lv_icmp_ge (tgt := 232) hx hb d_Search_siftPlaces_62 (by decide) (fun c62 => ?_) (fun c62 => ?_)
          · skip
            have c62 : (4 : Int) ≤ zss := (ti_le (ti_k (by decide)) hss).mp c62
            exact hj232 _ _ _ ⟨lv, zlv, qc, kc, ls, rfl, lv_sub hl [0, 1, 2, 3, 4, 5, 6, 7, 8, 9] rfl, hlv, by
                have e4 : zss.toNat = 4 := by omega
                rw [e4] at i2; exact i2, i3, hP, hD, hS⟩
          · skip
            have c62 : ¬ ((4 : Int) ≤ zss) := fun q => c62 ((ti_le (ti_k (by decide)) hss).mpr q)
            refine lv_iload_n hx hb d_Search_siftPlaces_65 rfl (lv_at hl 1 rfl) ?_
            refine lv_iload hx hb d_Search_siftPlaces_66 (lv_at hl 10 rfl) ?_
            refine lv_iadd hx hb d_Search_siftPlaces_68 ?_
            refine lv_topi (fun v68 e68 => ?_)
            have h68 : v68.toInt = k + zss := by rw [e68]; exact ti_add g1 hss (by omega) (by omega)
            refine lv_iconst (v := 3) hx hb d_Search_siftPlaces_69 (by decide) ?_
            refine lv_iand hx hb d_Search_siftPlaces_70 ?_
            refine lv_topi (fun v70 e70 => ?_)
            have h70 : v70.toInt = (k + zss) % 4 := by rw [e70]; exact bt_and3 h68 (by omega) (by omega)
            obtain ⟨C, kC⟩ : ∃ c : Int, c = ((k + zss) % 4) := ⟨_, rfl⟩
            have h70 : v70.toInt = C := by rw [h70, kC]
            refine lv_istore (lv' := [(11, .int v70), (0, .ref hq), (1, .int a1), (2, .int a2), (3, .int a3), (4, .int a4), (5, .int a5), (6, .int a6), (7, .int a7), (8, .int v40), (9, .int lv), (10, .int ss)]) hx hb d_Search_siftPlaces_71 hl (by decide) rfl (fun ls hl => ?_)
            refine lv_iconst (v := 1) hx hb d_Search_siftPlaces_73 (by decide) ?_
            refine lv_iload hx hb d_Search_siftPlaces_74 (lv_at hl 0 rfl) ?_
            refine lv_iconst (v := 2) hx hb d_Search_siftPlaces_76 (by decide) ?_
            refine lv_iadd hx hb d_Search_siftPlaces_77 ?_
            refine lv_topi (fun v77 e77 => ?_)
            have h77 : v77.toInt = C + 2 := by rw [e77]; exact ti_add h70 (ti_k (by decide)) (by omega) (by omega)
            refine lv_iconst (v := 3) hx hb d_Search_siftPlaces_78 (by decide) ?_
            refine lv_iand hx hb d_Search_siftPlaces_79 ?_
            refine lv_topi (fun v79 e79 => ?_)
            have h79 : v79.toInt = (C + 2) % 4 := by rw [e79]; exact bt_and3 h77 (by omega) (by omega)
            obtain ⟨Wq, kWq⟩ : ∃ c : Int, c = ((C + 2) % 4) := ⟨_, rfl⟩
            have h79 : v79.toInt = Wq := by rw [h79, kWq]
            refine lv_ishl hx hb d_Search_siftPlaces_80 ?_
            refine lv_topi (fun v80 e80 => ?_)
            refine lv_istore (lv' := [(12, .int v80), (11, .int v70), (0, .ref hq), (1, .int a1), (2, .int a2), (3, .int a3), (4, .int a4), (5, .int a5), (6, .int a6), (7, .int a7), (8, .int v40), (9, .int lv), (10, .int ss)]) hx hb d_Search_siftPlaces_81 hl (by decide) rfl (fun ls hl => ?_)
            refine w_cut (I := fun H' locs' g' => ∃ (nl : Int32) (znl : Int) (qe : Nat → Int32) (kf9 : Nat → Int64) (ls : Array Slot), g' = F0 m 226 ls [] ∧ lv_has ls 18 [(0, .ref hq), (1, .int a1), (2, .int a2), (3, .int a3), (4, .int a4), (5, .int a5), (6, .int a6), (7, .int a7), (8, .int v40), (9, .int nl), (10, .int ss)] ∧ nl.toInt = znl ∧ (siI D LIM THD M V L T SX SY k Qs znl qe (zss.toNat + 1)) ∧ (KN D M ST kf9) ∧ va_P (dC, dI) vwCl [(hq, .inr (3, [.ref hp, .ref hst, .int lim, .int thd, .int md, .int sz0, .int tm, .int a3, .int a4, .int u36_sx, .int u36_sy, .ref hqf, .ref hkn, .int stp])), (hp, .inr (0, [.int pw, .int ph, .ref hw, .ref hs, .int psr])), (hs, .inl (kS, 263169, .inl fs)), (hst, .inr (2, [.ref ak, .ref ar, .int cnt])), (ak, .inl (cK, 300, .inl kf)), (ar, .inl (cR, 300, .inl wf)), (hqf, .inl (cQ, 4, .inl qe)), (hkn, .inl (cN, 262144, .inr (.inl kf9)))] H' ∧ va_D A [(hq, .inr (3, [.ref hp, .ref hst, .int lim, .int thd, .int md, .int sz0, .int tm, .int a3, .int a4, .int u36_sx, .int u36_sy, .ref hqf, .ref hkn, .int stp])), (hp, .inr (0, [.int pw, .int ph, .ref hw, .ref hs, .int psr])), (hs, .inl (kS, 263169, .inl fs)), (hst, .inr (2, [.ref ak, .ref ar, .int cnt])), (ak, .inl (cK, 300, .inl kf)), (ar, .inl (cR, 300, .inl wf)), (hqf, .inl (cQ, 4, .inl qe)), (hkn, .inl (cN, 262144, .inr (.inl kf9)))] ∧ va_S A s.heap H' locs') ?_ ?_
            · skip
              intro H226 locs g' hI
              obtain ⟨nl, znl, qe, kf9, ls, rfl, hl, hnl, inl, jk9, hP, hD, hS⟩ := hI
              obtain ⟨v226, e226⟩ : ∃ y : Int32, y = ss + 1 := ⟨_, rfl⟩
              have h226 : v226.toInt = zss + 1 := by rw [e226]; exact ti_add hss (ti_k (by decide)) (by omega) (by omega)
              refine lv_iinc (v := v226) (lv' := [(10, .int v226), (0, .ref hq), (1, .int a1), (2, .int a2), (3, .int a3), (4, .int a4), (5, .int a5), (6, .int a6), (7, .int a7), (8, .int v40), (9, .int nl)]) hx hb d_Search_siftPlaces_226 hl (k := 10) rfl (by rw [e226]; rfl) (by decide) rfl (fun ls hl => ?_)
              refine lv_goto (tgt := 59) hx hb d_Search_siftPlaces_229 (by decide) ?_
              have et : (zss + 1).toNat = zss.toNat + 1 := by omega
              exact ih59 _ (by omega) _ _ _ ⟨nl, znl, v226, (zss + 1), qe, kf9, ls, rfl, lv_sub hl [1, 2, 3, 4, 5, 6, 7, 8, 9, 10, 0] rfl, rfl, hnl, h226, by omega, by rw [et]; exact inl, jk9, hP, hD, hS⟩
            · skip
              intro hj226
              have kCt : C = (k + ((zss.toNat : Nat) : Int)) % 4 := by omega
              refine lv_iload hx hb d_Search_siftPlaces_83 (lv_at hl 11 rfl) ?_
              refine lv_iload hx hb d_Search_siftPlaces_85 (lv_at hl 0 rfl) ?_
              refine lv_iconst (v := (-1)) hx hb d_Search_siftPlaces_87 (by decide) ?_
              refine lv_ixor hx hb d_Search_siftPlaces_88 ?_
              refine lv_topi (fun v88 e88 => ?_)
              refine lv_iand hx hb d_Search_siftPlaces_89 ?_
              refine lv_topi (fun v89 e89 => ?_)
              refine lv_if_eq (tgt := 226) hx hb d_Search_siftPlaces_90 (by decide) (fun c90 => ?_) (fun c90 => ?_)
              · skip
                have no90 : ∀ z, 0 ≤ z → z < 4 → z ≠ Wq → bt zlv z = false := (bt_any hlv h79 (by omega) (by omega) (by omega) (by omega)).mp (by rw [← e80, ← e88, ← e89]; exact c90)
                exact hj226 _ _ _ ⟨lv, zlv, qc, kc, ls, rfl, lv_sub hl [2, 3, 4, 5, 6, 7, 8, 9, 10, 11, 12] rfl, hlv, si_skip i2 hk0 hk3 hQ kCt kWq no90, i3, hP, hD, hS⟩
              · skip
                refine lv_aload_n hx hb d_Search_siftPlaces_93 rfl (lv_at hl 2 rfl) ?_
                refine lv_iload hx hb d_Search_siftPlaces_94 (lv_at hl 1 rfl) ?_
                have hPc := hP.sub (ws' := [(hq, .inr (3, [.ref hp, .ref hst, .int lim, .int thd, .int md, .int sz0, .int tm, .int a3, .int a4, .int u36_sx, .int u36_sy, .ref hqf, .ref hkn, .int stp])), (hp, .inr (0, [.int pw, .int ph, .ref hw, .ref hs, .int psr])), (hs, .inl (kS, 263169, .inl fs))]) [0, 1, 2] rfl
                have hKc := hK.sub (tys' := [(kS, .int)]) [0] rfl
                refine va_calli (va_runV (As := [.int v70]) (rest := []) ⟨hx, hb, hml, hown, hts⟩ (c_finderX l dC dI hq hp hw hs hst hqf hkn kS pw ph psr lim thd md sz0 tm a3 a4 u36_sx u36_sy stp fs Wd Ht M S L T SX SY D hpw hph hmd hsz0 g3 g4 hsx hsy hB hsum v70 C h70 (by omega) (by omega) (by omega)) (aw_V 1 hts wd_452 wd_454 ws_16 wd_2 wd_455 rfl rfl (by decide +kernel) ⟨by dsimp only; omega, by dsimp only; omega⟩) ⟨ro_blind, va_recv hKc hPc (ci := 3) (q0 := 0) rfl rfl, ro_pre hPc hKc⟩ rfl rfl hl.1 rfl (lv_room (Nat.le_of_ble_eq_true rfl)) d_Search_siftPlaces_96 ⟨Nat.le_of_ble_eq_true rfl, Nat.le_of_ble_eq_true rfl⟩) hS (fun q _ h => h.elim) (fun q h => h.elim) (fun v96 _ t9 H96 locs ht hvm h96 hB hz1 hk1 hS => ?_)
                have hP := ro_keep hP hk1
                clear hPc hKc ht hvm hB hz1 hk1
                have f96 : (C = 1 ∨ C = 2) → fX L M S C = L + (S - 7) * M := fun q => by unfold fX; rw [if_pos q]
                have n96 : ¬ (C = 1 ∨ C = 2) → fX L M S C = L := fun q => by unfold fX; rw [if_neg q, Int.add_zero]
                have b96 := fX_b (x := L) (M := M) (S := S) (k := C) (by omega) (by omega)
                refine lv_istore (lv' := [(13, .int v96), (12, .int v80), (11, .int v70), (0, .ref hq), (1, .int a1), (2, .int a2), (3, .int a3), (4, .int a4), (5, .int a5), (6, .int a6), (7, .int a7), (8, .int v40), (9, .int lv), (10, .int ss)]) hx hb d_Search_siftPlaces_99 hl (by decide) rfl (fun ls hl => ?_)
                refine lv_aload_n hx hb d_Search_siftPlaces_101 rfl (lv_at hl 3 rfl) ?_
                refine lv_iload hx hb d_Search_siftPlaces_102 (lv_at hl 2 rfl) ?_
                have hPc := hP.sub (ws' := [(hq, .inr (3, [.ref hp, .ref hst, .int lim, .int thd, .int md, .int sz0, .int tm, .int a3, .int a4, .int u36_sx, .int u36_sy, .ref hqf, .ref hkn, .int stp])), (hp, .inr (0, [.int pw, .int ph, .ref hw, .ref hs, .int psr])), (hs, .inl (kS, 263169, .inl fs))]) [0, 1, 2] rfl
                have hKc := hK.sub (tys' := [(kS, .int)]) [0] rfl
                refine va_calli (va_runV (As := [.int v70]) (rest := []) ⟨hx, hb, hml, hown, hts⟩ (c_finderY l dC dI hq hp hw hs hst hqf hkn kS pw ph psr lim thd md sz0 tm a3 a4 u36_sx u36_sy stp fs Wd Ht M S L T SX SY D hpw hph hmd hsz0 g3 g4 hsx hsy hB hsum v70 C h70 (by omega) (by omega) (by omega)) (aw_V 1 hts wd_456 wd_458 ws_17 wd_2 wd_459 rfl rfl (by decide +kernel) ⟨by dsimp only; omega, by dsimp only; omega⟩) ⟨ro_blind, va_recv hKc hPc (ci := 3) (q0 := 0) rfl rfl, ro_pre hPc hKc⟩ rfl rfl hl.1 rfl (lv_room (Nat.le_of_ble_eq_true rfl)) d_Search_siftPlaces_104 ⟨Nat.le_of_ble_eq_true rfl, Nat.le_of_ble_eq_true rfl⟩) hS (fun q _ h => h.elim) (fun q h => h.elim) (fun v104 _ t9 H104 locs ht hvm h104 hB hz1 hk1 hS => ?_)
                have hP := ro_keep hP hk1
                clear hPc hKc ht hvm hB hz1 hk1
                have f104 : 2 ≤ C → fY T M S C = T + (S - 7) * M := fun q => by unfold fY; rw [if_pos q]
                have n104 : ¬ 2 ≤ C → fY T M S C = T := fun q => by unfold fY; rw [if_neg q, Int.add_zero]
                have b104 := fY_b (y := T) (M := M) (S := S) (k := C) (by omega) (by omega)
                refine lv_istore (lv' := [(14, .int v104), (13, .int v96), (12, .int v80), (11, .int v70), (0, .ref hq), (1, .int a1), (2, .int a2), (3, .int a3), (4, .int a4), (5, .int a5), (6, .int a6), (7, .int a7), (8, .int v40), (9, .int lv), (10, .int ss)]) hx hb d_Search_siftPlaces_107 hl (by decide) rfl (fun ls hl => ?_)
                refine w_cut (I := fun H' locs' g' => ∃ (fl : Int32) (zfl : Int) (ke : Nat → Int64) (ls : Array Slot), g' = F0 m 146 ls [.int fl] ∧ lv_has ls 18 [(0, .ref hq), (1, .int a1), (2, .int a2), (3, .int a3), (4, .int a4), (5, .int a5), (6, .int a6), (7, .int a7), (8, .int v40), (9, .int lv), (10, .int ss), (11, .int v70), (12, .int v80)] ∧ fl.toInt = zfl ∧ (∀ dx dy, inT SX SY dx dy → zfl ≤ cWk D (L + dx) (T + dy) M (17 + 4 * V) C) ∧ (SX = 0 → SY = 0 → zfl = min (cWk D L T M (17 + 4 * V) C) 501) ∧ (-10000000 ≤ zfl ∧ zfl ≤ 10000000) ∧ (KN D M ST ke) ∧ va_P (dC, dI) vwCl [(hq, .inr (3, [.ref hp, .ref hst, .int lim, .int thd, .int md, .int sz0, .int tm, .int a3, .int a4, .int u36_sx, .int u36_sy, .ref hqf, .ref hkn, .int stp])), (hp, .inr (0, [.int pw, .int ph, .ref hw, .ref hs, .int psr])), (hs, .inl (kS, 263169, .inl fs)), (hst, .inr (2, [.ref ak, .ref ar, .int cnt])), (ak, .inl (cK, 300, .inl kf)), (ar, .inl (cR, 300, .inl wf)), (hqf, .inl (cQ, 4, .inl qc)), (hkn, .inl (cN, 262144, .inr (.inl ke)))] H' ∧ va_D A [(hq, .inr (3, [.ref hp, .ref hst, .int lim, .int thd, .int md, .int sz0, .int tm, .int a3, .int a4, .int u36_sx, .int u36_sy, .ref hqf, .ref hkn, .int stp])), (hp, .inr (0, [.int pw, .int ph, .ref hw, .ref hs, .int psr])), (hs, .inl (kS, 263169, .inl fs)), (hst, .inr (2, [.ref ak, .ref ar, .int cnt])), (ak, .inl (cK, 300, .inl kf)), (ar, .inl (cR, 300, .inl wf)), (hqf, .inl (cQ, 4, .inl qc)), (hkn, .inl (cN, 262144, .inr (.inl ke)))] ∧ va_S A s.heap H' locs') (c_siftPlaces_t146 d ih l dC dI hq hp hw hs hst hqf hkn kS pw ph psr lim thd md sz0 tm tx ty sx sy stp fs Wd Ht M S D hpw hph hmd hsz0 hW1 hW2 hH1 hH2 hM1 hM2 hsum cN kn ST hst0 hst1 hst2 hkn0 LIM hlim hL0 hL1 V hV V1 V2 THD hthd hTHD ak ar cK cR cnt kf wf nc hcnt AL F hSR cQ qf a1 a2 a3 a4 a5 a6 a7 k Qs L T RR BO DEP g1 g2 g3 g4 g5 g6 g7 hk0 hk3 Q0 Q1 hQ hl0 ht0 hr0 hb0 d0 d1 dx dy hAL hdis ⟨hx, hb, hml, hown, hts⟩ hK hA SX SY eSX eSY u36_sx u36_sy hsx hsy hB v40 h40 cLR cTB lv zlv hlv ss zss hss qc kc i1 i2 C v70 h70 kC Wq v79 h79 kWq v80 e80 kCt c62  hj226) ?_
                intro hj146
                refine lv_iload hx hb d_Search_siftPlaces_109 (lv_at hl 12 rfl) ?_
                refine lv_if_eq (tgt := 127) hx hb d_Search_siftPlaces_111 (by decide) (fun c111 => ?_) (fun c111 => ?_)
                · skip
                  have c111 : ¬ (SX = 0 ∧ SY = 0) := bi_z h40 c111
                  refine lv_aload_n hx hb d_Search_siftPlaces_127 rfl (lv_at hl 4 rfl) ?_
                  refine lv_iload hx hb d_Search_siftPlaces_128 (lv_at hl 1 rfl) ?_
                  refine lv_iload hx hb d_Search_siftPlaces_130 (lv_at hl 0 rfl) ?_
                  have hPc := hP.sub (ws' := [(hq, .inr (3, [.ref hp, .ref hst, .int lim, .int thd, .int md, .int sz0, .int tm, .int a3, .int a4, .int u36_sx, .int u36_sy, .ref hqf, .ref hkn, .int stp])), (hp, .inr (0, [.int pw, .int ph, .ref hw, .ref hs, .int psr])), (hs, .inl (kS, 263169, .inl fs))]) [0, 1, 2] rfl
                  have hKc := hK.sub (tys' := [(kS, .int)]) [0] rfl
                  refine va_calli (va_runV (As := [.int v96, .int v104]) (rest := []) ⟨hx, hb, hml, hown, hts⟩ (c_finderFloor l dC dI hq hp hw hs hst hqf hkn kS pw ph psr lim thd md sz0 tm a3 a4 u36_sx u36_sy stp fs Wd Ht M S L T SX SY D hpw hph hmd hsz0 g3 g4 hsx hsy hB hsum v96 v104 (fX L M S C) (fY T M S C) h96 h104 (by omega) (by omega) (by omega) (by omega)) (aw_V 2 hts wd_406 wd_408 ws_8 wd_2 wd_409 rfl rfl (by decide +kernel) ⟨by dsimp only; omega, by dsimp only; omega⟩) ⟨ro_blind, va_recv hKc hPc (ci := 3) (q0 := 0) rfl rfl, ro_pre hPc hKc⟩ rfl rfl hl.1 rfl (lv_room (Nat.le_of_ble_eq_true rfl)) d_Search_siftPlaces_132 ⟨Nat.le_of_ble_eq_true rfl, Nat.le_of_ble_eq_true rfl⟩) hS (fun q _ h => h.elim) (fun q h => h.elim) (fun v132 _ t9 H132 locs ht hvm h132 hB hz1 hk1 hS => ?_)
                  have hP := ro_keep hP hk1
                  clear hPc hKc ht hvm hB hz1 hk1
                  refine lv_aload_n hx hb d_Search_siftPlaces_135 rfl (lv_at hl 4 rfl) ?_
                  refine lv_iload hx hb d_Search_siftPlaces_136 (lv_at hl 3 rfl) ?_
                  refine lv_iload hx hb d_Search_siftPlaces_138 (lv_at hl 1 rfl) ?_
                  refine lv_iload hx hb d_Search_siftPlaces_140 (lv_at hl 0 rfl) ?_
                  have hPc := hP.sub (ws' := [(hq, .inr (3, [.ref hp, .ref hst, .int lim, .int thd, .int md, .int sz0, .int tm, .int a3, .int a4, .int u36_sx, .int u36_sy, .ref hqf, .ref hkn, .int stp])), (hp, .inr (0, [.int pw, .int ph, .ref hw, .ref hs, .int psr])), (hs, .inl (kS, 263169, .inl fs))]) [0, 1, 2] rfl
                  have hKc := hK.sub (tys' := [(kS, .int)]) [0] rfl
                  refine va_calli (va_runV (As := [.int v70, .int v96, .int v104]) (rest := [.int v132]) ⟨hx, hb, hml, hown, hts⟩ (c_borderFloor l dC dI hq hp hw hs hst hqf hkn kS pw ph psr lim thd md sz0 tm a3 a4 u36_sx u36_sy stp fs Wd Ht M S L T SX SY D hpw hph hmd hsz0 g3 g4 hsx hsy hB hsum v70 C h70 (by omega) (by omega) (by omega) v96 v104 (fX L M S C) (fY T M S C) h96 h104 (by omega) (by omega) (fun q => by have := f96 q; omega) (fun q => by have := f104 q; omega) (by omega) (by omega) (fun q => by have := n96 q; omega) (fun q => by have := n104 q; omega)) (aw_V 3 hts wd_460 wd_462 ws_18 wd_2 wd_463 rfl rfl (by decide +kernel) ⟨by dsimp only; omega, by dsimp only; omega⟩) ⟨ro_blind, va_recv hKc hPc (ci := 3) (q0 := 0) rfl rfl, ro_pre hPc hKc⟩ rfl rfl hl.1 rfl (lv_room (Nat.le_of_ble_eq_true rfl)) d_Search_siftPlaces_142 ⟨Nat.le_of_ble_eq_true rfl, Nat.le_of_ble_eq_true rfl⟩) hS (fun q _ h => h.elim) (fun q h => h.elim) (fun v142 _ t9 H142 locs ht hvm h142 hB hz1 hk1 hS => ?_)
                  have hP := ro_keep hP hk1
                  clear hPc hKc ht hvm hB hz1 hk1
                  have w142 := fl_low (S := S) (by omega) h132.1 h142.1
                  have x132 := h132.2
                  have x142 := h142.2
                  rw [hV] at w142
                  refine lv_iadd hx hb d_Search_siftPlaces_145 ?_
                  refine lv_topi (fun v145 e145 => ?_)
                  have h145 : v145.toInt = v132.toInt + v142.toInt := by rw [e145]; exact ti_add rfl rfl (by omega) (by omega)
                  exact hj146 _ _ _ ⟨v145, (v132.toInt + v142.toInt), kc, ls, rfl, lv_sub hl [4, 5, 6, 7, 8, 9, 10, 11, 12, 13, 14, 3, 2] rfl, h145, w142, fun q1 q2 => absurd ⟨q1, q2⟩ c111, by omega, i3, hP, hD, hS⟩
                · skip
                  have c111 : SX = 0 ∧ SY = 0 := bi_nz h40 c111
                  refine lv_aload_n hx hb d_Search_siftPlaces_114 rfl (lv_at hl 4 rfl) ?_
                  refine lv_iload hx hb d_Search_siftPlaces_115 (lv_at hl 3 rfl) ?_
                  refine lv_iload hx hb d_Search_siftPlaces_117 (lv_at hl 1 rfl) ?_
                  refine lv_iload hx hb d_Search_siftPlaces_119 (lv_at hl 0 rfl) ?_
                  have hPc := hP.sub (ws' := [(hq, .inr (3, [.ref hp, .ref hst, .int lim, .int thd, .int md, .int sz0, .int tm, .int a3, .int a4, .int u36_sx, .int u36_sy, .ref hqf, .ref hkn, .int stp])), (hp, .inr (0, [.int pw, .int ph, .ref hw, .ref hs, .int psr])), (hs, .inl (kS, 263169, .inl fs)), (hkn, .inl (cN, 262144, .inr (.inl kc)))]) [0, 1, 2, 7] rfl
                  have hKc := hK.sub (tys' := [(kS, .int), (cN, .long)]) [0, 4] rfl
                  have hDc := hD.sub (ws' := [(hq, .inr (3, [.ref hp, .ref hst, .int lim, .int thd, .int md, .int sz0, .int tm, .int a3, .int a4, .int u36_sx, .int u36_sy, .ref hqf, .ref hkn, .int stp])), (hp, .inr (0, [.int pw, .int ph, .ref hw, .ref hs, .int psr])), (hs, .inl (kS, 263169, .inl fs)), (hkn, .inl (cN, 262144, .inr (.inl kc)))]) [0, 1, 2, 7] (by decide) rfl
                  have hFc := va_free (wc := [(hq, .inr (3, [.ref hp, .ref hst, .int lim, .int thd, .int md, .int sz0, .int tm, .int a3, .int a4, .int u36_sx, .int u36_sy, .ref hqf, .ref hkn, .int stp])), (hp, .inr (0, [.int pw, .int ph, .ref hw, .ref hs, .int psr])), (hs, .inl (kS, 263169, .inl fs)), (hkn, .inl (cN, 262144, .inr (.inl kc)))]) hD hS hA [0, 1, 2, 7] rfl
                  refine va_calli (va_runV (As := [.int v70, .int v96, .int v104]) (rest := []) ⟨hx, hb, hml, hown, hts⟩ (c_cornerWrong l dC dI H104.size hq hp hw hs hst hqf hkn kS pw ph psr lim thd md sz0 tm a3 a4 u36_sx u36_sy stp fs Wd Ht M S D hpw hph hmd hsz0 hW1 hW2 hH1 hH2 hM1 hM2 hsum cN kc ST hst0 hst1 hst2 i3 v70 v96 v104 C (fX L M S C) (fY T M S C) h70 h96 h104 (by omega) (by omega) (by omega) (by omega) (by omega) (by omega)) (aw_V 3 hts wd_435 wd_437 ws_14 wd_2 wd_438 rfl rfl (by decide +kernel) ⟨by dsimp only; omega, by dsimp only; omega⟩) ⟨rw_blind, va_recv hKc hPc (ci := 3) (q0 := 0) rfl rfl, rw_pre hPc hKc hDc⟩ rfl rfl hl.1 rfl (lv_room (Nat.le_of_ble_eq_true rfl)) d_Search_siftPlaces_121 ⟨by dsimp only; omega, by dsimp only; omega⟩) hS (fun q _ h => hFc q h) hFc (fun v121 u121_kn t9 H121 locs ht hvm h121 hB hz1 hk1 hS => ?_)
                  obtain ⟨hP1, _, hD1⟩ := hB
                  rw [ht] at hP1
                  try dsimp only at h121 hP1 hD1
                  obtain ⟨hP, hD⟩ := va_join (wr := [(hst, .inr (2, [.ref ak, .ref ar, .int cnt])), (ak, .inl (cK, 300, .inl kf)), (ar, .inl (cR, 300, .inl wf)), (hqf, .inl (cQ, 4, .inl qc))]) (w1 := [(hq, .inr (3, [.ref hp, .ref hst, .int lim, .int thd, .int md, .int sz0, .int tm, .int a3, .int a4, .int u36_sx, .int u36_sy, .ref hqf, .ref hkn, .int stp])), (hp, .inr (0, [.int pw, .int ph, .ref hw, .ref hs, .int psr])), (hs, .inl (kS, 263169, .inl fs)), (hkn, .inl (cN, 262144, .inr (.inl u121_kn)))]) hP hD [0, 1, 2, 7] [3, 4, 5, 6] rfl rfl (by decide) (by decide) hk1 hFc hP1 hD1
                  have hP := hP.sub (ws' := [(hq, .inr (3, [.ref hp, .ref hst, .int lim, .int thd, .int md, .int sz0, .int tm, .int a3, .int a4, .int u36_sx, .int u36_sy, .ref hqf, .ref hkn, .int stp])), (hp, .inr (0, [.int pw, .int ph, .ref hw, .ref hs, .int psr])), (hs, .inl (kS, 263169, .inl fs)), (hst, .inr (2, [.ref ak, .ref ar, .int cnt])), (ak, .inl (cK, 300, .inl kf)), (ar, .inl (cR, 300, .inl wf)), (hqf, .inl (cQ, 4, .inl qc)), (hkn, .inl (cN, 262144, .inr (.inl u121_kn)))]) [4, 5, 6, 0, 1, 2, 3, 7] rfl
                  have hD := hD.sub (ws' := [(hq, .inr (3, [.ref hp, .ref hst, .int lim, .int thd, .int md, .int sz0, .int tm, .int a3, .int a4, .int u36_sx, .int u36_sy, .ref hqf, .ref hkn, .int stp])), (hp, .inr (0, [.int pw, .int ph, .ref hw, .ref hs, .int psr])), (hs, .inl (kS, 263169, .inl fs)), (hst, .inr (2, [.ref ak, .ref ar, .int cnt])), (ak, .inl (cK, 300, .inl kf)), (ar, .inl (cR, 300, .inl wf)), (hqf, .inl (cQ, 4, .inl qc)), (hkn, .inl (cN, 262144, .inr (.inl u121_kn)))]) [4, 5, 6, 0, 1, 2, 3, 7] (by decide) rfl
                  clear hPc hKc hDc hFc ht hvm hz1 hk1 hP1 hD1
                  have w121 : (∀ dx dy, inT SX SY dx dy → cwR D Wd Ht M C (fX L M S C) (fY T M S C) ≤ cWk D (L + dx) (T + dy) M (17 + 4 * V) C) ∧ cwR D Wd Ht M C (fX L M S C) (fY T M S C) = min (cWk D L T M (17 + 4 * V) C) 501 := by rw [← hV]; exact cw_low (SX := SX) (SY := SY) (by omega) (show 21 ≤ S by omega) (by omega) (by omega) hl0 ht0 (by omega) (by omega) c111.1 c111.2 rfl
                  have x121 := cwR_b (D := D) (W := Wd) (H := Ht) (M := M) (c := C) (x := fX L M S C) (y := fY T M S C) (by omega)
                  refine lv_goto (tgt := 146) hx hb d_Search_siftPlaces_124 (by decide) ?_
                  exact hj146 _ _ _ ⟨v121, (cwR D Wd Ht M C (fX L M S C) (fY T M S C)), u121_kn, ls, rfl, lv_sub hl [4, 5, 6, 7, 8, 9, 10, 11, 12, 13, 14, 3, 2] rfl, h121.1, w121.1, fun _ _ => w121.2, by omega, h121.2, hP, hD, hS⟩
        · skip
          have c24 : ¬ (T ≤ BO) := fun q => c24 ((ti_le g4 g6).mpr q)
          have hpost : SR D AL (orF F (tgP D LIM THD M V k Qs L T RR BO)) tm kf wf (cnt : Int32).toInt ∧ KN D M ST kn := by
            refine ⟨?_, hkn0⟩
            rw [hcnt]
            first | exact SR_done hSR c4 | exact SR_congr hSR (fun _ _ _ _ _ => or_out (by omega)) | exact absurd c11 (by omega)
          have hP9 := hP.sub (ws' := [(hq, .inr (3, [.ref hp, .ref hst, .int lim, .int thd, .int md, .int sz0, .int tm, .int tx, .int ty, .int sx, .int sy, .ref hqf, .ref hkn, .int stp])), (hp, .inr (0, [.int pw, .int ph, .ref hw, .ref hs, .int psr])), (hs, .inl (kS, 263169, .inl fs)), (hst, .inr (2, [.ref ak, .ref ar, .int cnt])), (ak, .inl (cK, 300, .inl kf)), (ar, .inl (cR, 300, .inl wf)), (hqf, .inl (cQ, 4, .inl qf)), (hkn, .inl (cN, 262144, .inr (.inl kn)))]) [0, 1, 2, 3, 4, 5, 6, 7] rfl
          have hD9 := hD.sub (ws' := [(hq, .inr (3, [.ref hp, .ref hst, .int lim, .int thd, .int md, .int sz0, .int tm, .int tx, .int ty, .int sx, .int sy, .ref hqf, .ref hkn, .int stp])), (hp, .inr (0, [.int pw, .int ph, .ref hw, .ref hs, .int psr])), (hs, .inl (kS, 263169, .inl fs)), (hst, .inr (2, [.ref ak, .ref ar, .int cnt])), (ak, .inl (cK, 300, .inl kf)), (ar, .inl (cR, 300, .inl wf)), (hqf, .inl (cQ, 4, .inl qf)), (hkn, .inl (cN, 262144, .inr (.inl kn)))]) [0, 1, 2, 3, 4, 5, 6, 7] (by decide) rfl
          have hK9 := hK.sub (tys' := [(kS, .int), (cK, .int), (cR, .int), (cQ, .int), (cN, .long)]) [0, 1, 2, 3, 4] rfl
          exact W.vret hx hb hr (fun t ht hW => ⟨⟨(tm, tx, ty, sx, sy, cnt, kf, wf, qf, kn), rfl, hpost, by rw [ht]; exact hP9, va_K.moved hW.alike hK9, hD9⟩, hS.F ht⟩) hS.2.2 d_Search_siftPlaces_27
