set_option maxHeartbeats 4000000 in
set_option maxRecDepth 100000 in
theorem c_siftPlaces_s (d : Nat) (ih : ∀ d' : Nat, d = d' + 1 → ∀ (l : Launch) (dC : Nat → ClassId) (dI : Nat → Nat → Nat) (sz : Nat) (hq hp hw hs hst hqf hkn : Nat) (kS : ClassId) (pw ph psr lim thd md sz0 tm tx ty sx sy stp : Int32) (fs : Nat → Int32) (Wd Ht M S : Int) (D : Int → Int → Bool) (hpw : pw.toInt = Wd) (hph : ph.toInt = Ht) (hmd : md.toInt = M) (hsz0 : sz0.toInt = S) (hW1 : 1 ≤ Wd) (hW2 : Wd ≤ 512) (hH1 : 1 ≤ Ht) (hH2 : Ht ≤ 512) (hM1 : 1 ≤ M) (hM2 : M ≤ 16) (hsum : ∀ x y, 0 ≤ x → x ≤ Wd → 0 ≤ y → y ≤ Ht → (fs (y * 513 + x).toNat).toInt = cI D 0 0 x y) (cN : ClassId) (kn : Nat → Int64) (ST : Int) (hst0 : stp.toInt = ST) (hst1 : 0 ≤ ST) (hst2 : ST < 8388608) (hkn0 : KN D M ST kn) (LIM : Int) (hlim : lim.toInt = LIM) (hL0 : 0 ≤ LIM) (hL1 : LIM ≤ 500) (V : Int) (hV : S = 17 + 4 * V) (V1 : 1 ≤ V) (V2 : V ≤ 40) (THD : Int) (hthd : thd.toInt = THD) (hTHD : THD = LIM / 3) (ak ar : Nat) (cK cR : ClassId) (cnt : Int32) (kf wf : Nat → Int32) (nc : Int) (hcnt : cnt.toInt = nc) (AL F : Int → Int → Int → Int → Int → Prop) (hSR : SR D AL F tm kf wf nc) (cQ : ClassId) (qf : Nat → Int32) (a1 a2 a3 a4 a5 a6 a7 : Int32) (k Qs L T RR BO DEP : Int) (g1 : a1.toInt = k) (g2 : a2.toInt = Qs) (g3 : a3.toInt = L) (g4 : a4.toInt = T) (g5 : a5.toInt = RR) (g6 : a6.toInt = BO) (g7 : a7.toInt = DEP) (hk0 : 0 ≤ k) (hk3 : k ≤ 3) (Q0 : 0 ≤ Qs) (Q1 : Qs < 16) (hQ : bt Qs ((k + 2) % 4) = false) (hl0 : 0 ≤ L) (ht0 : 0 ≤ T) (hr0 : RR + S * M ≤ Wd) (hb0 : BO + S * M ≤ Ht) (d0 : 0 ≤ DEP) (d1 : DEP + (d' : Nat) ≤ 10) (dx : RR - L < ((2 ^ d' : Nat) : Int)) (dy : BO - T < ((2 ^ d' : Nat) : Int)) (hAL : ∀ x y m v q, F x y m v q → AL x y m v q) (hdis : ∀ x y m v q, tgP D LIM THD M V k Qs L T RR BO x y m v q → AL x y m v q ∧ ¬ F x y m v q),  Met l y_Search_siftPlaces (.code y_Search_siftPlaces b_Search_siftPlaces 18 none :: allw) ({ frames := 3 + d', cells := 0, slots := 0, locals := 82 + d' * 37 }) (va_Pc [.ref hq, .int a1, .int a2, .int a3, .int a4, .int a5, .int a6, .int a7] (rw_B (dC, dI) vwCl [(hq, .inr (3, [.ref hp, .ref hst, .int lim, .int thd, .int md, .int sz0, .int tm, .int tx, .int ty, .int sx, .int sy, .ref hqf, .ref hkn, .int stp])), (hp, .inr (0, [.int pw, .int ph, .ref hw, .ref hs, .int psr])), (hs, .inl (kS, 263169, .inl fs)), (hst, .inr (2, [.ref ak, .ref ar, .int cnt])), (ak, .inl (cK, 300, .inl kf)), (ar, .inl (cR, 300, .inl wf)), (hqf, .inl (cQ, 4, .inl qf)), (hkn, .inl (cN, 262144, .inr (.inl kn)))] [(kS, .int), (cK, .int), (cR, .int), (cQ, .int), (cN, .long)] sz)) (va_Qv (fun (u : Int32 × Int32 × Int32 × Int32 × Int32 × Int32 × (Nat → Int32) × (Nat → Int32) × (Nat → Int32) × (Nat → Int64)) => SR D AL (orF F (tgP D LIM THD M V k Qs L T RR BO)) u.1 u.2.2.2.2.2.2.1 u.2.2.2.2.2.2.2.1 (u.2.2.2.2.2.1 : Int32).toInt ∧ KN D M ST u.2.2.2.2.2.2.2.2.2) (fun u t => rw_E (dC, dI) vwCl [(hq, .inr (3, [.ref hp, .ref hst, .int lim, .int thd, .int md, .int sz0, .int u.1, .int u.2.1, .int u.2.2.1, .int u.2.2.2.1, .int u.2.2.2.2.1, .ref hqf, .ref hkn, .int stp])), (hp, .inr (0, [.int pw, .int ph, .ref hw, .ref hs, .int psr])), (hs, .inl (kS, 263169, .inl fs)), (hst, .inr (2, [.ref ak, .ref ar, .int u.2.2.2.2.2.1])), (ak, .inl (cK, 300, .inl u.2.2.2.2.2.2.1)), (ar, .inl (cR, 300, .inl u.2.2.2.2.2.2.2.1)), (hqf, .inl (cQ, 4, .inl u.2.2.2.2.2.2.2.2.1)), (hkn, .inl (cN, 262144, .inr (.inl u.2.2.2.2.2.2.2.2.2)))] [(kS, .int), (cK, .int), (cR, .int), (cQ, .int), (cN, .long)] (va_A [(hq, .inr (3, [.ref hp, .ref hst, .int lim, .int thd, .int md, .int sz0, .int tm, .int tx, .int ty, .int sx, .int sy, .ref hqf, .ref hkn, .int stp])), (hp, .inr (0, [.int pw, .int ph, .ref hw, .ref hs, .int psr])), (hs, .inl (kS, 263169, .inl fs)), (hst, .inr (2, [.ref ak, .ref ar, .int cnt])), (ak, .inl (cK, 300, .inl kf)), (ar, .inl (cR, 300, .inl wf)), (hqf, .inl (cQ, 4, .inl qf)), (hkn, .inl (cN, 262144, .inr (.inl kn)))] sz) t) (va_A [(hq, .inr (3, [.ref hp, .ref hst, .int lim, .int thd, .int md, .int sz0, .int tm, .int tx, .int ty, .int sx, .int sy, .ref hqf, .ref hkn, .int stp])), (hp, .inr (0, [.int pw, .int ph, .ref hw, .ref hs, .int psr])), (hs, .inl (kS, 263169, .inl fs)), (hst, .inr (2, [.ref ak, .ref ar, .int cnt])), (ak, .inl (cK, 300, .inl kf)), (ar, .inl (cR, 300, .inl wf)), (hqf, .inl (cQ, 4, .inl qf)), (hkn, .inl (cN, 262144, .inr (.inl kn)))] sz)) 0 0 (va_A [(hq, .inr (3, [.ref hp, .ref hst, .int lim, .int thd, .int md, .int sz0, .int tm, .int tx, .int ty, .int sx, .int sy, .ref hqf, .ref hkn, .int stp])), (hp, .inr (0, [.int pw, .int ph, .ref hw, .ref hs, .int psr])), (hs, .inl (kS, 263169, .inl fs)), (hst, .inr (2, [.ref ak, .ref ar, .int cnt])), (ak, .inl (cK, 300, .inl kf)), (ar, .inl (cR, 300, .inl wf)), (hqf, .inl (cQ, 4, .inl qf)), (hkn, .inl (cN, 262144, .inr (.inl kn)))] sz)) (l : Launch) (dC : Nat → ClassId) (dI : Nat → Nat → Nat) (sz : Nat) (hq hp hw hs hst hqf hkn : Nat) (kS : ClassId) (pw ph psr lim thd md sz0 tm tx ty sx sy stp : Int32) (fs : Nat → Int32) (Wd Ht M S : Int) (D : Int → Int → Bool) (hpw : pw.toInt = Wd) (hph : ph.toInt = Ht) (hmd : md.toInt = M) (hsz0 : sz0.toInt = S) (hW1 : 1 ≤ Wd) (hW2 : Wd ≤ 512) (hH1 : 1 ≤ Ht) (hH2 : Ht ≤ 512) (hM1 : 1 ≤ M) (hM2 : M ≤ 16) (hsum : ∀ x y, 0 ≤ x → x ≤ Wd → 0 ≤ y → y ≤ Ht → (fs (y * 513 + x).toNat).toInt = cI D 0 0 x y) (cN : ClassId) (kn : Nat → Int64) (ST : Int) (hst0 : stp.toInt = ST) (hst1 : 0 ≤ ST) (hst2 : ST < 8388608) (hkn0 : KN D M ST kn) (LIM : Int) (hlim : lim.toInt = LIM) (hL0 : 0 ≤ LIM) (hL1 : LIM ≤ 500) (V : Int) (hV : S = 17 + 4 * V) (V1 : 1 ≤ V) (V2 : V ≤ 40) (THD : Int) (hthd : thd.toInt = THD) (hTHD : THD = LIM / 3) (ak ar : Nat) (cK cR : ClassId) (cnt : Int32) (kf wf : Nat → Int32) (nc : Int) (hcnt : cnt.toInt = nc) (AL F : Int → Int → Int → Int → Int → Prop) (hSR : SR D AL F tm kf wf nc) (cQ : ClassId) (qf : Nat → Int32) (a1 a2 a3 a4 a5 a6 a7 : Int32) (k Qs L T RR BO DEP : Int) (g1 : a1.toInt = k) (g2 : a2.toInt = Qs) (g3 : a3.toInt = L) (g4 : a4.toInt = T) (g5 : a5.toInt = RR) (g6 : a6.toInt = BO) (g7 : a7.toInt = DEP) (hk0 : 0 ≤ k) (hk3 : k ≤ 3) (Q0 : 0 ≤ Qs) (Q1 : Qs < 16) (hQ : bt Qs ((k + 2) % 4) = false) (hl0 : 0 ≤ L) (ht0 : 0 ≤ T) (hr0 : RR + S * M ≤ Wd) (hb0 : BO + S * M ≤ Ht) (d0 : 0 ≤ DEP) (d1 : DEP + (d : Nat) ≤ 10) (dx : RR - L < ((2 ^ d : Nat) : Int)) (dy : BO - T < ((2 ^ d : Nat) : Int)) (hAL : ∀ x y m v q, F x y m v q → AL x y m v q) (hdis : ∀ x y m v q, tgP D LIM THD M V k Qs L T RR BO x y m v q → AL x y m v q ∧ ¬ F x y m v q) : Met l y_Search_siftPlaces (.code y_Search_siftPlaces b_Search_siftPlaces 18 none :: allw) ({ frames := 3 + d, cells := 0, slots := 0, locals := 82 + d * 37 }) (va_Pc [.ref hq, .int a1, .int a2, .int a3, .int a4, .int a5, .int a6, .int a7] (rw_B (dC, dI) vwCl [(hq, .inr (3, [.ref hp, .ref hst, .int lim, .int thd, .int md, .int sz0, .int tm, .int tx, .int ty, .int sx, .int sy, .ref hqf, .ref hkn, .int stp])), (hp, .inr (0, [.int pw, .int ph, .ref hw, .ref hs, .int psr])), (hs, .inl (kS, 263169, .inl fs)), (hst, .inr (2, [.ref ak, .ref ar, .int cnt])), (ak, .inl (cK, 300, .inl kf)), (ar, .inl (cR, 300, .inl wf)), (hqf, .inl (cQ, 4, .inl qf)), (hkn, .inl (cN, 262144, .inr (.inl kn)))] [(kS, .int), (cK, .int), (cR, .int), (cQ, .int), (cN, .long)] sz)) (va_Qv (fun (u : Int32 × Int32 × Int32 × Int32 × Int32 × Int32 × (Nat → Int32) × (Nat → Int32) × (Nat → Int32) × (Nat → Int64)) => SR D AL (orF F (tgP D LIM THD M V k Qs L T RR BO)) u.1 u.2.2.2.2.2.2.1 u.2.2.2.2.2.2.2.1 (u.2.2.2.2.2.1 : Int32).toInt ∧ KN D M ST u.2.2.2.2.2.2.2.2.2) (fun u t => rw_E (dC, dI) vwCl [(hq, .inr (3, [.ref hp, .ref hst, .int lim, .int thd, .int md, .int sz0, .int u.1, .int u.2.1, .int u.2.2.1, .int u.2.2.2.1, .int u.2.2.2.2.1, .ref hqf, .ref hkn, .int stp])), (hp, .inr (0, [.int pw, .int ph, .ref hw, .ref hs, .int psr])), (hs, .inl (kS, 263169, .inl fs)), (hst, .inr (2, [.ref ak, .ref ar, .int u.2.2.2.2.2.1])), (ak, .inl (cK, 300, .inl u.2.2.2.2.2.2.1)), (ar, .inl (cR, 300, .inl u.2.2.2.2.2.2.2.1)), (hqf, .inl (cQ, 4, .inl u.2.2.2.2.2.2.2.2.1)), (hkn, .inl (cN, 262144, .inr (.inl u.2.2.2.2.2.2.2.2.2)))] [(kS, .int), (cK, .int), (cR, .int), (cQ, .int), (cN, .long)] (va_A [(hq, .inr (3, [.ref hp, .ref hst, .int lim, .int thd, .int md, .int sz0, .int tm, .int tx, .int ty, .int sx, .int sy, .ref hqf, .ref hkn, .int stp])), (hp, .inr (0, [.int pw, .int ph, .ref hw, .ref hs, .int psr])), (hs, .inl (kS, 263169, .inl fs)), (hst, .inr (2, [.ref ak, .ref ar, .int cnt])), (ak, .inl (cK, 300, .inl kf)), (ar, .inl (cR, 300, .inl wf)), (hqf, .inl (cQ, 4, .inl qf)), (hkn, .inl (cN, 262144, .inr (.inl kn)))] sz) t) (va_A [(hq, .inr (3, [.ref hp, .ref hst, .int lim, .int thd, .int md, .int sz0, .int tm, .int tx, .int ty, .int sx, .int sy, .ref hqf, .ref hkn, .int stp])), (hp, .inr (0, [.int pw, .int ph, .ref hw, .ref hs, .int psr])), (hs, .inl (kS, 263169, .inl fs)), (hst, .inr (2, [.ref ak, .ref ar, .int cnt])), (ak, .inl (cK, 300, .inl kf)), (ar, .inl (cR, 300, .inl wf)), (hqf, .inl (cQ, 4, .inl qf)), (hkn, .inl (cN, 262144, .inr (.inl kn)))] sz)) 0 0 (va_A [(hq, .inr (3, [.ref hp, .ref hst, .int lim, .int thd, .int md, .int sz0, .int tm, .int tx, .int ty, .int sx, .int sy, .ref hqf, .ref hkn, .int stp])), (hp, .inr (0, [.int pw, .int ph, .ref hw, .ref hs, .int psr])), (hs, .inl (kS, 263169, .inl fs)), (hst, .inr (2, [.ref ak, .ref ar, .int cnt])), (ak, .inl (cK, 300, .inl kf)), (ar, .inl (cR, 300, .inl wf)), (hqf, .inl (cQ, 4, .inl qf)), (hkn, .inl (cN, 262144, .inr (.inl kn)))] sz) := by
  refine Met.ofW (cc := b_Search_siftPlaces) (maxL := 18) (ret := none) (by decide) rfl ?_
  intro p e s m args below meth c s₁ B hml hv
  obtain ⟨rfl, hsz, hP, hK, hD0⟩ := hv
  have hx := B.exec
  have hb := B.bytes
  have hr := B.returns
  have hts : ∀ w ∈ allw, w.before _ s = true := fun w h => atoms_spec (ws := .code y_Search_siftPlaces b_Search_siftPlaces 18 none :: allw) B.pre w (List.mem_cons_of_mem _ h)
  have hown : s.vm.findClass R_Search = some m.cls := findClass_of_methodNamed B.named
  have hlocks := B.notSynchronized
  subst hsz
  have hD := hD0.self (sz := s.heap.size)
  generalize hAe : va_A [(hq, .inr (3, [.ref hp, .ref hst, .int lim, .int thd, .int md, .int sz0, .int tm, .int tx, .int ty, .int sx, .int sy, .ref hqf, .ref hkn, .int stp])), (hp, .inr (0, [.int pw, .int ph, .ref hw, .ref hs, .int psr])), (hs, .inl (kS, 263169, .inl fs)), (hst, .inr (2, [.ref ak, .ref ar, .int cnt])), (ak, .inl (cK, 300, .inl kf)), (ar, .inl (cR, 300, .inl wf)), (hqf, .inl (cQ, 4, .inl qf)), (hkn, .inl (cN, 262144, .inr (.inl kn)))] s.heap.size = A at hD ⊢
  have hA : ∀ q : Nat, s.heap.size ≤ q → A q := fun q h => by rw [← hAe]; exact Or.inr h
  have hS : va_S A s.heap s.heap [] := va_S.rf
  have hP : va_P (dC, dI) vwCl [(hq, .inr (3, [.ref hp, .ref hst, .int lim, .int thd, .int md, .int sz0, .int tm, .int tx, .int ty, .int sx, .int sy, .ref hqf, .ref hkn, .int stp])), (hp, .inr (0, [.int pw, .int ph, .ref hw, .ref hs, .int psr])), (hs, .inl (kS, 263169, .inl fs)), (hst, .inr (2, [.ref ak, .ref ar, .int cnt])), (ak, .inl (cK, 300, .inl kf)), (ar, .inl (cR, 300, .inl wf)), (hqf, .inl (cQ, 4, .inl qf)), (hkn, .inl (cN, 262144, .inr (.inl kn)))] s.heap := hP
  have hl := lv_entry ([.ref hq, .int a1, .int a2, .int a3, .int a4, .int a5, .int a6, .int a7]) (n := 18) (Nat.le_of_ble_eq_true rfl)
  rw [lg_entry_eq]
  generalize (lg_sl ([.ref hq, .int a1, .int a2, .int a3, .int a4, .int a5, .int a6, .int a7]) ++ List.replicate (18 - (lg_sl ([.ref hq, .int a1, .int a2, .int a3, .int a4, .int a5, .int a6, .int a7])).length) Slot.unset).toArray = ls at hl ⊢
  have hl : lv_has ls 18 [(0, .ref hq), (1, .int a1), (2, .int a2), (3, .int a3), (4, .int a4), (5, .int a5), (6, .int a6), (7, .int a7)] := hl
  have m2 := mul_b (a := M) (b := M) (n := 16) (by omega) (by omega) (by omega) (by omega)
  have m1 := Int.mul_le_mul (show 1 ≤ M by omega) (show 1 ≤ M by omega) (by omega) (by omega)
  have mS := Int.mul_le_mul (show 21 ≤ S by omega) (show 1 ≤ M by omega) (by omega) (by omega)
  have mS1 : 21 * M ≤ S * M := Int.mul_le_mul_of_nonneg_right (by omega) (by omega)
  have mc : M * S = S * M := Int.mul_comm _ _
  have e7 : (S - 7) * M = S * M - 7 * M := Int.sub_mul _ _ _
  have q5 := ti_rng a5
  have q6 := ti_rng a6
  refine lv_aload_n hx hb d_Search_siftPlaces_0 rfl (lv_at hl 0 rfl) ?_
  refine va_get (D := (dC, dI)) (ci := 3) (v := .int tm) (C := R_Search) (T := T_Search) (N := 14) hx hb hts i_Search hown hK hP 0 rfl rfl 6 (by decide) (hts _ wd_87) (fun _ h9 => h9) rfl d_Search_siftPlaces_1 ?_
  refine lv_if_ne (tgt := 27) hx hb d_Search_siftPlaces_4 (by decide) (fun c4 => ?_) (fun c4 => ?_)
  · skip
    have hpost : SR D AL (orF F (tgP D LIM THD M V k Qs L T RR BO)) tm kf wf (cnt : Int32).toInt ∧ KN D M ST kn := by
      refine ⟨?_, hkn0⟩
      rw [hcnt]
      first | exact SR_done hSR c4 | exact SR_congr hSR (fun _ _ _ _ _ => or_out (by omega)) | exact absurd c11 (by omega)
    have hP9 := hP.sub (ws' := [(hq, .inr (3, [.ref hp, .ref hst, .int lim, .int thd, .int md, .int sz0, .int tm, .int tx, .int ty, .int sx, .int sy, .ref hqf, .ref hkn, .int stp])), (hp, .inr (0, [.int pw, .int ph, .ref hw, .ref hs, .int psr])), (hs, .inl (kS, 263169, .inl fs)), (hst, .inr (2, [.ref ak, .ref ar, .int cnt])), (ak, .inl (cK, 300, .inl kf)), (ar, .inl (cR, 300, .inl wf)), (hqf, .inl (cQ, 4, .inl qf)), (hkn, .inl (cN, 262144, .inr (.inl kn)))]) [0, 1, 2, 3, 4, 5, 6, 7] rfl
    have hD9 := hD.sub (ws' := [(hq, .inr (3, [.ref hp, .ref hst, .int lim, .int thd, .int md, .int sz0, .int tm, .int tx, .int ty, .int sx, .int sy, .ref hqf, .ref hkn, .int stp])), (hp, .inr (0, [.int pw, .int ph, .ref hw, .ref hs, .int psr])), (hs, .inl (kS, 263169, .inl fs)), (hst, .inr (2, [.ref ak, .ref ar, .int cnt])), (ak, .inl (cK, 300, .inl kf)), (ar, .inl (cR, 300, .inl wf)), (hqf, .inl (cQ, 4, .inl qf)), (hkn, .inl (cN, 262144, .inr (.inl kn)))]) [0, 1, 2, 3, 4, 5, 6, 7] (by decide) rfl
    have hK9 := hK.sub (tys' := [(kS, .int), (cK, .int), (cR, .int), (cQ, .int), (cN, .long)]) [0, 1, 2, 3, 4] rfl
    exact W.vret hx hb hr (fun t ht hW => ⟨⟨(tm, tx, ty, sx, sy, cnt, kf, wf, qf, kn), rfl, hpost, by rw [ht]; exact hP9, va_K.moved hW.alike hK9, hD9⟩, hS.F ht⟩) hS.2.2 d_Search_siftPlaces_27
  · skip
    refine lv_iload hx hb d_Search_siftPlaces_7 (lv_at hl 7 rfl) ?_
    refine lv_bipush (v := 10) hx hb d_Search_siftPlaces_9 (by decide) ?_
    refine lv_icmp_gt (tgt := 27) hx hb d_Search_siftPlaces_11 (by decide) (fun c11 => ?_) (fun c11 => ?_)
    · skip
      have c11 : (10 : Int) < DEP := (ti_lt (ti_k (by decide)) g7).mp c11
      have hpost : SR D AL (orF F (tgP D LIM THD M V k Qs L T RR BO)) tm kf wf (cnt : Int32).toInt ∧ KN D M ST kn := by
        refine ⟨?_, hkn0⟩
        rw [hcnt]
        first | exact SR_done hSR c4 | exact SR_congr hSR (fun _ _ _ _ _ => or_out (by omega)) | exact absurd c11 (by omega)
      have hP9 := hP.sub (ws' := [(hq, .inr (3, [.ref hp, .ref hst, .int lim, .int thd, .int md, .int sz0, .int tm, .int tx, .int ty, .int sx, .int sy, .ref hqf, .ref hkn, .int stp])), (hp, .inr (0, [.int pw, .int ph, .ref hw, .ref hs, .int psr])), (hs, .inl (kS, 263169, .inl fs)), (hst, .inr (2, [.ref ak, .ref ar, .int cnt])), (ak, .inl (cK, 300, .inl kf)), (ar, .inl (cR, 300, .inl wf)), (hqf, .inl (cQ, 4, .inl qf)), (hkn, .inl (cN, 262144, .inr (.inl kn)))]) [0, 1, 2, 3, 4, 5, 6, 7] rfl
      have hD9 := hD.sub (ws' := [(hq, .inr (3, [.ref hp, .ref hst, .int lim, .int thd, .int md, .int sz0, .int tm, .int tx, .int ty, .int sx, .int sy, .ref hqf, .ref hkn, .int stp])), (hp, .inr (0, [.int pw, .int ph, .ref hw, .ref hs, .int psr])), (hs, .inl (kS, 263169, .inl fs)), (hst, .inr (2, [.ref ak, .ref ar, .int cnt])), (ak, .inl (cK, 300, .inl kf)), (ar, .inl (cR, 300, .inl wf)), (hqf, .inl (cQ, 4, .inl qf)), (hkn, .inl (cN, 262144, .inr (.inl kn)))]) [0, 1, 2, 3, 4, 5, 6, 7] (by decide) rfl
      have hK9 := hK.sub (tys' := [(kS, .int), (cK, .int), (cR, .int), (cQ, .int), (cN, .long)]) [0, 1, 2, 3, 4] rfl
      exact W.vret hx hb hr (fun t ht hW => ⟨⟨(tm, tx, ty, sx, sy, cnt, kf, wf, qf, kn), rfl, hpost, by rw [ht]; exact hP9, va_K.moved hW.alike hK9, hD9⟩, hS.F ht⟩) hS.2.2 d_Search_siftPlaces_27
    · skip
      have c11 : ¬ ((10 : Int) < DEP) := fun q => c11 ((ti_lt (ti_k (by decide)) g7).mpr q)
      refine lv_iload_n hx hb d_Search_siftPlaces_14 rfl (lv_at hl 3 rfl) ?_
      refine lv_iload hx hb d_Search_siftPlaces_15 (lv_at hl 5 rfl) ?_
      refine lv_icmp_gt (tgt := 27) hx hb d_Search_siftPlaces_17 (by decide) (fun c17 => ?_) (fun c17 => ?_)
      · skip
        have c17 : RR < L := (ti_lt g5 g3).mp c17
        have hpost : SR D AL (orF F (tgP D LIM THD M V k Qs L T RR BO)) tm kf wf (cnt : Int32).toInt ∧ KN D M ST kn := by
          refine ⟨?_, hkn0⟩
          rw [hcnt]
          first | exact SR_done hSR c4 | exact SR_congr hSR (fun _ _ _ _ _ => or_out (by omega)) | exact absurd c11 (by omega)
        have hP9 := hP.sub (ws' := [(hq, .inr (3, [.ref hp, .ref hst, .int lim, .int thd, .int md, .int sz0, .int tm, .int tx, .int ty, .int sx, .int sy, .ref hqf, .ref hkn, .int stp])), (hp, .inr (0, [.int pw, .int ph, .ref hw, .ref hs, .int psr])), (hs, .inl (kS, 263169, .inl fs)), (hst, .inr (2, [.ref ak, .ref ar, .int cnt])), (ak, .inl (cK, 300, .inl kf)), (ar, .inl (cR, 300, .inl wf)), (hqf, .inl (cQ, 4, .inl qf)), (hkn, .inl (cN, 262144, .inr (.inl kn)))]) [0, 1, 2, 3, 4, 5, 6, 7] rfl
        have hD9 := hD.sub (ws' := [(hq, .inr (3, [.ref hp, .ref hst, .int lim, .int thd, .int md, .int sz0, .int tm, .int tx, .int ty, .int sx, .int sy, .ref hqf, .ref hkn, .int stp])), (hp, .inr (0, [.int pw, .int ph, .ref hw, .ref hs, .int psr])), (hs, .inl (kS, 263169, .inl fs)), (hst, .inr (2, [.ref ak, .ref ar, .int cnt])), (ak, .inl (cK, 300, .inl kf)), (ar, .inl (cR, 300, .inl wf)), (hqf, .inl (cQ, 4, .inl qf)), (hkn, .inl (cN, 262144, .inr (.inl kn)))]) [0, 1, 2, 3, 4, 5, 6, 7] (by decide) rfl
        have hK9 := hK.sub (tys' := [(kS, .int), (cK, .int), (cR, .int), (cQ, .int), (cN, .long)]) [0, 1, 2, 3, 4] rfl
        exact W.vret hx hb hr (fun t ht hW => ⟨⟨(tm, tx, ty, sx, sy, cnt, kf, wf, qf, kn), rfl, hpost, by rw [ht]; exact hP9, va_K.moved hW.alike hK9, hD9⟩, hS.F ht⟩) hS.2.2 d_Search_siftPlaces_27
      · skip
        have c17 : ¬ (RR < L) := fun q => c17 ((ti_lt g5 g3).mpr q)
        refine lv_iload hx hb d_Search_siftPlaces_20 (lv_at hl 4 rfl) ?_
        refine lv_iload hx hb d_Search_siftPlaces_22 (lv_at hl 6 rfl) ?_
        refine lv_icmp_le (tgt := 28) hx hb d_Search_siftPlaces_24 (by decide) (fun c24 => ?_) (fun c24 => ?_)
        · skip
          have c24 : T ≤ BO := (ti_le g4 g6).mp c24
          refine lv_aload_n hx hb d_Search_siftPlaces_28 rfl (lv_at hl 0 rfl) ?_
          refine lv_iload_n hx hb d_Search_siftPlaces_29 rfl (lv_at hl 3 rfl) ?_
          refine lv_iload hx hb d_Search_siftPlaces_30 (lv_at hl 4 rfl) ?_
          refine lv_iload hx hb d_Search_siftPlaces_32 (lv_at hl 5 rfl) ?_
          refine lv_iload hx hb d_Search_siftPlaces_34 (lv_at hl 6 rfl) ?_
          obtain ⟨SX, eSX⟩ : ∃ c : Int, c = RR - L := ⟨_, rfl⟩
          obtain ⟨SY, eSY⟩ : ∃ c : Int, c = BO - T := ⟨_, rfl⟩
          have hPc := hP.sub (ws' := [(hq, .inr (3, [.ref hp, .ref hst, .int lim, .int thd, .int md, .int sz0, .int tm, .int tx, .int ty, .int sx, .int sy, .ref hqf, .ref hkn, .int stp]))]) [0] rfl
          have hKc := hK.sub (tys' := []) [] rfl
          have hDc := hD.sub (ws' := [(hq, .inr (3, [.ref hp, .ref hst, .int lim, .int thd, .int md, .int sz0, .int tm, .int tx, .int ty, .int sx, .int sy, .ref hqf, .ref hkn, .int stp]))]) [0] (by decide) rfl
          have hFc := va_free (wc := [(hq, .inr (3, [.ref hp, .ref hst, .int lim, .int thd, .int md, .int sz0, .int tm, .int tx, .int ty, .int sx, .int sy, .ref hqf, .ref hkn, .int stp]))]) hD hS hA [0] rfl
          refine va_callv (va_runV (As := [.int a3, .int a4, .int a5, .int a6]) (rest := []) ⟨hx, hb, hml, hown, hts⟩ (c_takeTile l dC dI s.heap.size hq hp hst hqf hkn lim thd md sz0 tm tx ty sx sy stp a3 a4 a5 a6 L T RR BO g3 g4 g5 g6 (by omega) (by omega) (by omega) (by omega)) (aw_V 4 hts wd_402 wd_404 ws_7 wd_2 wd_405 rfl rfl (by decide +kernel) ⟨by dsimp only; omega, by dsimp only; omega⟩) ⟨rw_blind, va_recv hKc hPc (ci := 3) (q0 := 0) rfl rfl, rw_pre hPc hKc hDc⟩ rfl rfl hl.1 rfl (lv_room (Nat.le_of_ble_eq_true rfl)) d_Search_siftPlaces_36 ⟨by dsimp only; omega, by dsimp only; omega⟩) hS (fun q _ h => hFc q h) hFc (fun u t9 H36 locs ht hvm h36 hB hz1 hk1 hS => ?_)
          obtain ⟨u36_sx, u36_sy⟩ := u
          obtain ⟨hP1, _, hD1⟩ := hB
          rw [ht] at hP1
          try dsimp only at h36 hP1 hD1
          obtain ⟨hP, hD⟩ := va_join (wr := [(hp, .inr (0, [.int pw, .int ph, .ref hw, .ref hs, .int psr])), (hs, .inl (kS, 263169, .inl fs)), (hst, .inr (2, [.ref ak, .ref ar, .int cnt])), (ak, .inl (cK, 300, .inl kf)), (ar, .inl (cR, 300, .inl wf)), (hqf, .inl (cQ, 4, .inl qf)), (hkn, .inl (cN, 262144, .inr (.inl kn)))]) (w1 := [(hq, .inr (3, [.ref hp, .ref hst, .int lim, .int thd, .int md, .int sz0, .int tm, .int a3, .int a4, .int u36_sx, .int u36_sy, .ref hqf, .ref hkn, .int stp]))]) hP hD [0] [1, 2, 3, 4, 5, 6, 7] rfl rfl (by decide) (by decide) hk1 hFc hP1 hD1
          have hP := hP.sub (ws' := [(hq, .inr (3, [.ref hp, .ref hst, .int lim, .int thd, .int md, .int sz0, .int tm, .int a3, .int a4, .int u36_sx, .int u36_sy, .ref hqf, .ref hkn, .int stp])), (hp, .inr (0, [.int pw, .int ph, .ref hw, .ref hs, .int psr])), (hs, .inl (kS, 263169, .inl fs)), (hst, .inr (2, [.ref ak, .ref ar, .int cnt])), (ak, .inl (cK, 300, .inl kf)), (ar, .inl (cR, 300, .inl wf)), (hqf, .inl (cQ, 4, .inl qf)), (hkn, .inl (cN, 262144, .inr (.inl kn)))]) [7, 0, 1, 2, 3, 4, 5, 6] rfl
          have hD := hD.sub (ws' := [(hq, .inr (3, [.ref hp, .ref hst, .int lim, .int thd, .int md, .int sz0, .int tm, .int a3, .int a4, .int u36_sx, .int u36_sy, .ref hqf, .ref hkn, .int stp])), (hp, .inr (0, [.int pw, .int ph, .ref hw, .ref hs, .int psr])), (hs, .inl (kS, 263169, .inl fs)), (hst, .inr (2, [.ref ak, .ref ar, .int cnt])), (ak, .inl (cK, 300, .inl kf)), (ar, .inl (cR, 300, .inl wf)), (hqf, .inl (cQ, 4, .inl qf)), (hkn, .inl (cN, 262144, .inr (.inl kn)))]) [7, 0, 1, 2, 3, 4, 5, 6] (by decide) rfl
          clear hPc hKc hDc hFc ht hvm hz1 hk1 hP1 hD1
          have hsx : u36_sx.toInt = SX := by rw [h36.1, eSX]
          have hsy : u36_sy.toInt = SY := by rw [h36.2, eSY]
          have hB : sBnd Wd Ht M S L T SX SY := by unfold sBnd; omega
          refine lv_aload_n hx hb d_Search_siftPlaces_39 rfl (lv_at hl 0 rfl) ?_
          have hPc := hP.sub (ws' := [(hq, .inr (3, [.ref hp, .ref hst, .int lim, .int thd, .int md, .int sz0, .int tm, .int a3, .int a4, .int u36_sx, .int u36_sy, .ref hqf, .ref hkn, .int stp])), (hp, .inr (0, [.int pw, .int ph, .ref hw, .ref hs, .int psr])), (hs, .inl (kS, 263169, .inl fs))]) [0, 1, 2] rfl
          have hKc := hK.sub (tys' := [(kS, .int)]) [0] rfl
          refine va_calli (va_runV (As := []) (rest := []) ⟨hx, hb, hml, hown, hts⟩ (c_isSingle l dC dI hq hp hw hs hst hqf hkn kS pw ph psr lim thd md sz0 tm a3 a4 u36_sx u36_sy stp fs Wd Ht M S L T SX SY D hpw hph hmd hsz0 g3 g4 hsx hsy hB hsum) (aw_V 0 hts wd_418 wd_420 ws_10 wd_2 wd_421 rfl rfl (by decide +kernel) ⟨by dsimp only; omega, by dsimp only; omega⟩) ⟨ro_blind, va_recv hKc hPc (ci := 3) (q0 := 0) rfl rfl, ro_pre hPc hKc⟩ rfl rfl hl.1 rfl (lv_room (Nat.le_of_ble_eq_true rfl)) d_Search_siftPlaces_40 ⟨Nat.le_of_ble_eq_true rfl, Nat.le_of_ble_eq_true rfl⟩) hS (fun q _ h => h.elim) (fun q h => h.elim) (fun v40 _ t9 H40 locs ht hvm h40 hB hz1 hk1 hS => ?_)
          have hP := ro_keep hP hk1
          clear hPc hKc ht hvm hB hz1 hk1
          refine lv_istore (lv' := [(8, .int v40), (0, .ref hq), (1, .int a1), (2, .int a2), (3, .int a3), (4, .int a4), (5, .int a5), (6, .int a6), (7, .int a7)]) hx hb d_Search_siftPlaces_43 hl (by decide) rfl (fun ls hl => ?_)
          refine lv_iload_n hx hb d_Search_siftPlaces_45 rfl (lv_at hl 3 rfl) ?_
          refine lv_istore (lv' := [(9, .int a2), (8, .int v40), (0, .ref hq), (1, .int a1), (2, .int a2), (3, .int a3), (4, .int a4), (5, .int a5), (6, .int a6), (7, .int a7)]) hx hb d_Search_siftPlaces_46 hl (by decide) rfl (fun ls hl => ?_)
          refine lv_aload_n hx hb d_Search_siftPlaces_48 rfl (lv_at hl 2 rfl) ?_
          refine va_get (D := (dC, dI)) (ci := 3) (v := .ref hqf) (C := R_Search) (T := T_Search) (N := 14) hx hb hts i_Search hown hK hP 0 rfl rfl 11 (by decide) (hts _ wd_92) (fun _ h9 => h9) rfl d_Search_siftPlaces_49 ?_
          refine lv_iconst (v := 0) hx hb d_Search_siftPlaces_52 (by decide) ?_
          have hPc := hP.sub (ws' := [(hqf, .inl (cQ, 4, .inl qf))]) [6] rfl
          have hKc := hK.sub (tys' := [(cQ, .int)]) [3] rfl
          have hDc := hD.sub (ws' := [(hqf, .inl (cQ, 4, .inl qf))]) [6] (by decide) rfl
          have hFc := va_free (wc := [(hqf, .inl (cQ, 4, .inl qf))]) hD hS hA [6] rfl
          refine va_callv (va_runS (As := [.ref hqf, .int 0]) (rest := []) ⟨hx, hb, hml, hown, hts⟩ (c_fillI l dC dI H40.size hqf cQ 4 (by decide) qf 0) (aw_S 2 hts wd_449 wd_450 wd_10 wd_451 rfl rfl (by decide +kernel) ⟨by dsimp only; omega, by dsimp only; omega⟩) ⟨rw_blind, rw_pre hPc hKc hDc⟩ rfl rfl hl.1 rfl (lv_room (Nat.le_of_ble_eq_true rfl)) d_Search_siftPlaces_53 ⟨by dsimp only; omega, by dsimp only; omega⟩) hS (fun q _ h => hFc q h) hFc (fun u53_f t9 H53 locs ht hvm h53 hB hz1 hk1 hS => ?_)
          obtain ⟨hP1, _, hD1⟩ := hB
          rw [ht] at hP1
          try dsimp only at h53 hP1 hD1
          obtain ⟨hP, hD⟩ := va_join (wr := [(hq, .inr (3, [.ref hp, .ref hst, .int lim, .int thd, .int md, .int sz0, .int tm, .int a3, .int a4, .int u36_sx, .int u36_sy, .ref hqf, .ref hkn, .int stp])), (hp, .inr (0, [.int pw, .int ph, .ref hw, .ref hs, .int psr])), (hs, .inl (kS, 263169, .inl fs)), (hst, .inr (2, [.ref ak, .ref ar, .int cnt])), (ak, .inl (cK, 300, .inl kf)), (ar, .inl (cR, 300, .inl wf)), (hkn, .inl (cN, 262144, .inr (.inl kn)))]) (w1 := [(hqf, .inl (cQ, 4, .inl u53_f))]) hP hD [6] [0, 1, 2, 3, 4, 5, 7] rfl rfl (by decide) (by decide) hk1 hFc hP1 hD1
          have hP := hP.sub (ws' := [(hq, .inr (3, [.ref hp, .ref hst, .int lim, .int thd, .int md, .int sz0, .int tm, .int a3, .int a4, .int u36_sx, .int u36_sy, .ref hqf, .ref hkn, .int stp])), (hp, .inr (0, [.int pw, .int ph, .ref hw, .ref hs, .int psr])), (hs, .inl (kS, 263169, .inl fs)), (hst, .inr (2, [.ref ak, .ref ar, .int cnt])), (ak, .inl (cK, 300, .inl kf)), (ar, .inl (cR, 300, .inl wf)), (hqf, .inl (cQ, 4, .inl u53_f)), (hkn, .inl (cN, 262144, .inr (.inl kn)))]) [0, 1, 2, 3, 4, 5, 7, 6] rfl
          have hD := hD.sub (ws' := [(hq, .inr (3, [.ref hp, .ref hst, .int lim, .int thd, .int md, .int sz0, .int tm, .int a3, .int a4, .int u36_sx, .int u36_sy, .ref hqf, .ref hkn, .int stp])), (hp, .inr (0, [.int pw, .int ph, .ref hw, .ref hs, .int psr])), (hs, .inl (kS, 263169, .inl fs)), (hst, .inr (2, [.ref ak, .ref ar, .int cnt])), (ak, .inl (cK, 300, .inl kf)), (ar, .inl (cR, 300, .inl wf)), (hqf, .inl (cQ, 4, .inl u53_f)), (hkn, .inl (cN, 262144, .inr (.inl kn)))]) [0, 1, 2, 3, 4, 5, 7, 6] (by decide) rfl
          clear hPc hKc hDc hFc ht hvm hz1 hk1 hP1 hD1
          refine lv_iconst (v := 0) hx hb d_Search_siftPlaces_56 (by decide) ?_
          refine lv_istore (lv' := [(10, .int 0), (9, .int a2), (8, .int v40), (0, .ref hq), (1, .int a1), (2, .int a2), (3, .int a3), (4, .int a4), (5, .int a5), (6, .int a6), (7, .int a7)]) hx hb d_Search_siftPlaces_57 hl (by decide) rfl (fun ls hl => ?_)
          refine w_loop (I := fun n H' locs' g' => ∃ (lv : Int32) (zlv : Int) (ss : Int32) (zss : Int) (qc : Nat → Int32) (kc : Nat → Int64) (ls : Array Slot), g' = F0 m 59 ls [] ∧ lv_has ls 18 [(0, .ref hq), (1, .int a1), (2, .int a2), (3, .int a3), (4, .int a4), (5, .int a5), (6, .int a6), (7, .int a7), (8, .int v40), (9, .int lv), (10, .int ss)] ∧ n = (4 - zss).toNat ∧ lv.toInt = zlv ∧ ss.toInt = zss ∧ (0 ≤ zss ∧ zss ≤ 4) ∧ (siI D LIM THD M V L T SX SY k Qs zlv qc zss.toNat) ∧ (KN D M ST kc) ∧ va_P (dC, dI) vwCl [(hq, .inr (3, [.ref hp, .ref hst, .int lim, .int thd, .int md, .int sz0, .int tm, .int a3, .int a4, .int u36_sx, .int u36_sy, .ref hqf, .ref hkn, .int stp])), (hp, .inr (0, [.int pw, .int ph, .ref hw, .ref hs, .int psr])), (hs, .inl (kS, 263169, .inl fs)), (hst, .inr (2, [.ref ak, .ref ar, .int cnt])), (ak, .inl (cK, 300, .inl kf)), (ar, .inl (cR, 300, .inl wf)), (hqf, .inl (cQ, 4, .inl qc)), (hkn, .inl (cN, 262144, .inr (.inl kc)))] H' ∧ va_D A [(hq, .inr (3, [.ref hp, .ref hst, .int lim, .int thd, .int md, .int sz0, .int tm, .int a3, .int a4, .int u36_sx, .int u36_sy, .ref hqf, .ref hkn, .int stp])), (hp, .inr (0, [.int pw, .int ph, .ref hw, .ref hs, .int psr])), (hs, .inl (kS, 263169, .inl fs)), (hst, .inr (2, [.ref ak, .ref ar, .int cnt])), (ak, .inl (cK, 300, .inl kf)), (ar, .inl (cR, 300, .inl wf)), (hqf, .inl (cQ, 4, .inl qc)), (hkn, .inl (cN, 262144, .inr (.inl kc)))] ∧ va_S A s.heap H' locs') ?_ ⟨a2, Qs, 0, 0, u53_f, kn, ls, rfl, lv_sub hl [3, 4, 5, 6, 7, 8, 9, 10, 2, 1, 0] rfl, rfl, g2, (ti_k (by decide)), by omega, si_0 Q0 Q1 (fun i hi => h53 i hi), hkn0, hP, hD, hS⟩
          intro n59 H59 locs g' hI ih59
          obtain ⟨lv, zlv, ss, zss, qc, kc, ls, rfl, hl, hn, hlv, hss, i1, i2, i3, hP, hD, hS⟩ := hI
          have i2l := i2.1
          refine lv_iload hx hb d_Search_siftPlaces_59 (lv_at hl 10 rfl) ?_
          refine lv_iconst (v := 4) hx hb d_Search_siftPlaces_61 (by decide) ?_
          refine lv_icmp_ge (tgt := 232) hx hb d_Search_siftPlaces_62 (by decide) (fun c62 => ?_) (fun c62 => ?_)
          · skip
            have c62 : (4 : Int) ≤ zss := (ti_le (ti_k (by decide)) hss).mp c62
            refine lv_iconst (v := 0) hx hb d_Search_siftPlaces_232 (by decide) ?_
            refine lv_istore (lv' := [(10, .int 0), (0, .ref hq), (1, .int a1), (2, .int a2), (3, .int a3), (4, .int a4), (5, .int a5), (6, .int a6), (7, .int a7), (8, .int v40), (9, .int lv)]) hx hb d_Search_siftPlaces_233 hl (by decide) rfl (fun ls hl => ?_)
            refine w_loop (I := fun n H' locs' g' => ∃ (lw : Int32) (zlw : Int) (qq : Int32) (zqq : Int) (qd : Nat → Int32) (ls : Array Slot), g' = F0 m 235 ls [] ∧ lv_has ls 18 [(0, .ref hq), (1, .int a1), (2, .int a2), (3, .int a3), (4, .int a4), (5, .int a5), (6, .int a6), (7, .int a7), (8, .int v40), (9, .int lw), (10, .int qq)] ∧ n = (4 - zqq).toNat ∧ lw.toInt = zlw ∧ qq.toInt = zqq ∧ (0 ≤ zqq ∧ zqq ≤ 4) ∧ (siJ D LIM THD M V L T SX SY k Qs zlw qd zqq) ∧ va_P (dC, dI) vwCl [(hq, .inr (3, [.ref hp, .ref hst, .int lim, .int thd, .int md, .int sz0, .int tm, .int a3, .int a4, .int u36_sx, .int u36_sy, .ref hqf, .ref hkn, .int stp])), (hp, .inr (0, [.int pw, .int ph, .ref hw, .ref hs, .int psr])), (hs, .inl (kS, 263169, .inl fs)), (hst, .inr (2, [.ref ak, .ref ar, .int cnt])), (ak, .inl (cK, 300, .inl kf)), (ar, .inl (cR, 300, .inl wf)), (hqf, .inl (cQ, 4, .inl qd)), (hkn, .inl (cN, 262144, .inr (.inl kc)))] H' ∧ va_D A [(hq, .inr (3, [.ref hp, .ref hst, .int lim, .int thd, .int md, .int sz0, .int tm, .int a3, .int a4, .int u36_sx, .int u36_sy, .ref hqf, .ref hkn, .int stp])), (hp, .inr (0, [.int pw, .int ph, .ref hw, .ref hs, .int psr])), (hs, .inl (kS, 263169, .inl fs)), (hst, .inr (2, [.ref ak, .ref ar, .int cnt])), (ak, .inl (cK, 300, .inl kf)), (ar, .inl (cR, 300, .inl wf)), (hqf, .inl (cQ, 4, .inl qd)), (hkn, .inl (cN, 262144, .inr (.inl kc)))] ∧ va_S A s.heap H' locs') ?_ ⟨lv, zlv, 0, 0, qc, ls, rfl, lv_sub hl [1, 2, 3, 4, 5, 6, 7, 8, 9, 10, 0] rfl, rfl, hlv, (ti_k (by decide)), by omega, by
                have e4 : zss.toNat = 4 := by omega
                rw [e4] at i2; exact sj_0 i2 hk0 hk3 hQ, hP, hD, hS⟩
            intro n235 H235 locs g' hI ih235
            obtain ⟨lw, zlw, qq, zqq, qd, ls, rfl, hl, hn, hlw, hqq, j1, j2, hP, hD, hS⟩ := hI
            have j2l := j2.1
            refine lv_iload hx hb d_Search_siftPlaces_235 (lv_at hl 10 rfl) ?_
            refine lv_iconst (v := 4) hx hb d_Search_siftPlaces_237 (by decide) ?_
            refine lv_icmp_ge (tgt := 316) hx hb d_Search_siftPlaces_238 (by decide) (fun c238 => ?_) (fun c238 => ?_)
            · skip
              have c238 : (4 : Int) ≤ zqq := (ti_le (ti_k (by decide)) hqq).mp c238
              refine lv_iload hx hb d_Search_siftPlaces_316 (lv_at hl 9 rfl) ?_
              refine lv_if_ne (tgt := 322) hx hb d_Search_siftPlaces_318 (by decide) (fun c318 => ?_) (fun c318 => ?_)
              · skip
                have c318 : ¬ (zlw = 0) := fun q => c318 ((ti_eq hlw (ti_k (by decide))).mpr q)
                refine lv_iload hx hb d_Search_siftPlaces_322 (lv_at hl 8 rfl) ?_
                refine lv_if_eq (tgt := 334) hx hb d_Search_siftPlaces_324 (by decide) (fun c324 => ?_) (fun c324 => ?_)
                · skip
                  have c324 : ¬ (SX = 0 ∧ SY = 0) := bi_z h40 c324
                  refine lv_iload_n hx hb d_Search_siftPlaces_334 rfl (lv_at hl 3 rfl) ?_
                  refine lv_iload hx hb d_Search_siftPlaces_335 (lv_at hl 5 rfl) ?_
                  refine lv_iadd hx hb d_Search_siftPlaces_337 ?_
                  refine lv_topi (fun v337 e337 => ?_)
                  have h337 : v337.toInt = L + RR := by rw [e337]; exact ti_add g3 g5 (by omega) (by omega)
                  refine lv_iconst (v := 2) hx hb d_Search_siftPlaces_338 (by decide) ?_
                  refine lv_idiv hx hb d_Search_siftPlaces_339 (by decide) ?_
                  refine lv_topi (fun v339 e339 => ?_)
                  have h339 : v339.toInt = (L + RR) / 2 := by rw [e339]; exact ti_div h337 (ti_k (by decide)) (by omega) (by omega)
                  obtain ⟨mx, kmx⟩ : ∃ c : Int, c = ((L + RR) / 2) := ⟨_, rfl⟩
                  have h339 : v339.toInt = mx := by rw [h339, kmx]
                  refine lv_istore (lv' := [(10, .int v339), (0, .ref hq), (1, .int a1), (2, .int a2), (3, .int a3), (4, .int a4), (5, .int a5), (6, .int a6), (7, .int a7), (8, .int v40), (9, .int lw)]) hx hb d_Search_siftPlaces_340 hl (by decide) rfl (fun ls hl => ?_)
                  refine lv_iload hx hb d_Search_siftPlaces_342 (lv_at hl 5 rfl) ?_
                  refine lv_iload hx hb d_Search_siftPlaces_344 (lv_at hl 7 rfl) ?_
                  refine lv_iadd hx hb d_Search_siftPlaces_346 ?_
                  refine lv_topi (fun v346 e346 => ?_)
                  have h346 : v346.toInt = T + BO := by rw [e346]; exact ti_add g4 g6 (by omega) (by omega)
                  refine lv_iconst (v := 2) hx hb d_Search_siftPlaces_347 (by decide) ?_
                  refine lv_idiv hx hb d_Search_siftPlaces_348 (by decide) ?_
                  refine lv_topi (fun v348 e348 => ?_)
                  have h348 : v348.toInt = (T + BO) / 2 := by rw [e348]; exact ti_div h346 (ti_k (by decide)) (by omega) (by omega)
                  obtain ⟨my, kmy⟩ : ∃ c : Int, c = ((T + BO) / 2) := ⟨_, rfl⟩
                  have h348 : v348.toInt = my := by rw [h348, kmy]
                  obtain ⟨d9, hd9⟩ : ∃ d9 : Nat, d = d9 + 1 := by
                    cases d with
                    | zero => exact absurd ⟨by omega, by omega⟩ c324
                    | succ d => exact ⟨d, rfl⟩
                  subst hd9
                  have hx9 := half_2 (L := L) (R := RR) (by omega) dx
                  have hy9 := half_2 (L := T) (R := BO) (by omega) dy
                  rw [← kmx] at hx9
                  rw [← kmy] at hy9
                  have hQl : bt zlw ((k + 2) % 4) = false := by
                    cases hb : bt zlw ((k + 2) % 4) with
                    | false => rfl
                    | true => rw [j2.2.1 _ (by omega) (by omega) hb] at hQ; exact absurd hQ (by decide)
                  have jl := j2.1
                  have p1 : ∀ x y m v q, tgP D LIM THD M V k zlw L T mx my x y m v q → AL x y m v q ∧ ¬ F x y m v q := si_part j2 hdis (by omega) (by omega) (by omega) (by omega)
                  have p2 : ∀ x y m v q, tgP D LIM THD M V k zlw (mx + 1) T RR my x y m v q → AL x y m v q ∧ ¬ F x y m v q := si_part j2 hdis (by omega) (by omega) (by omega) (by omega)
                  have p3 : ∀ x y m v q, tgP D LIM THD M V k zlw L (my + 1) mx BO x y m v q → AL x y m v q ∧ ¬ F x y m v q := si_part j2 hdis (by omega) (by omega) (by omega) (by omega)
                  have p4 : ∀ x y m v q, tgP D LIM THD M V k zlw (mx + 1) (my + 1) RR BO x y m v q → AL x y m v q ∧ ¬ F x y m v q := si_part j2 hdis (by omega) (by omega) (by omega) (by omega)
                  have r2 := or_new p2 (K := tgP D LIM THD M V k zlw L T mx my) (fun _ _ _ _ _ => tg_apart (by omega))
                  have r3 := or_new (or_new p3 (K := tgP D LIM THD M V k zlw L T mx my) (fun _ _ _ _ _ => tg_apart (by omega))) (K := tgP D LIM THD M V k zlw (mx + 1) T RR my) (fun _ _ _ _ _ => tg_apart (by omega))
                  have r4 := or_new (or_new (or_new p4 (K := tgP D LIM THD M V k zlw L T mx my) (fun _ _ _ _ _ => tg_apart (by omega))) (K := tgP D LIM THD M V k zlw (mx + 1) T RR my) (fun _ _ _ _ _ => tg_apart (by omega))) (K := tgP D LIM THD M V k zlw L (my + 1) mx BO) (fun _ _ _ _ _ => tg_apart (by omega))
                  refine lv_istore (lv' := [(11, .int v348), (10, .int v339), (0, .ref hq), (1, .int a1), (2, .int a2), (3, .int a3), (4, .int a4), (5, .int a5), (6, .int a6), (7, .int a7), (8, .int v40), (9, .int lw)]) hx hb d_Search_siftPlaces_349 hl (by decide) rfl (fun ls hl => ?_)
                  refine lv_aload_n hx hb d_Search_siftPlaces_351 rfl (lv_at hl 2 rfl) ?_
                  refine lv_iload_n hx hb d_Search_siftPlaces_352 rfl (lv_at hl 3 rfl) ?_
                  refine lv_iload hx hb d_Search_siftPlaces_353 (lv_at hl 11 rfl) ?_
                  refine lv_iload_n hx hb d_Search_siftPlaces_355 rfl (lv_at hl 5 rfl) ?_
                  refine lv_iload hx hb d_Search_siftPlaces_356 (lv_at hl 6 rfl) ?_
                  refine lv_iload hx hb d_Search_siftPlaces_358 (lv_at hl 1 rfl) ?_
                  refine lv_iload hx hb d_Search_siftPlaces_360 (lv_at hl 0 rfl) ?_
                  refine lv_iload hx hb d_Search_siftPlaces_362 (lv_at hl 9 rfl) ?_
                  refine lv_iconst (v := 1) hx hb d_Search_siftPlaces_364 (by decide) ?_
                  refine lv_iadd hx hb d_Search_siftPlaces_365 ?_
                  refine lv_topi (fun v365 e365 => ?_)
                  have h365 : v365.toInt = DEP + 1 := by rw [e365]; exact ti_add g7 (ti_k (by decide)) (by omega) (by omega)
                  have hPc := hP.sub (ws' := [(hq, .inr (3, [.ref hp, .ref hst, .int lim, .int thd, .int md, .int sz0, .int tm, .int a3, .int a4, .int u36_sx, .int u36_sy, .ref hqf, .ref hkn, .int stp])), (hp, .inr (0, [.int pw, .int ph, .ref hw, .ref hs, .int psr])), (hs, .inl (kS, 263169, .inl fs)), (hst, .inr (2, [.ref ak, .ref ar, .int cnt])), (ak, .inl (cK, 300, .inl kf)), (ar, .inl (cR, 300, .inl wf)), (hqf, .inl (cQ, 4, .inl qd)), (hkn, .inl (cN, 262144, .inr (.inl kc)))]) [0, 1, 2, 3, 4, 5, 6, 7] rfl
                  have hKc := hK.sub (tys' := [(kS, .int), (cK, .int), (cR, .int), (cQ, .int), (cN, .long)]) [0, 1, 2, 3, 4] rfl
                  have hDc := hD.sub (ws' := [(hq, .inr (3, [.ref hp, .ref hst, .int lim, .int thd, .int md, .int sz0, .int tm, .int a3, .int a4, .int u36_sx, .int u36_sy, .ref hqf, .ref hkn, .int stp])), (hp, .inr (0, [.int pw, .int ph, .ref hw, .ref hs, .int psr])), (hs, .inl (kS, 263169, .inl fs)), (hst, .inr (2, [.ref ak, .ref ar, .int cnt])), (ak, .inl (cK, 300, .inl kf)), (ar, .inl (cR, 300, .inl wf)), (hqf, .inl (cQ, 4, .inl qd)), (hkn, .inl (cN, 262144, .inr (.inl kc)))]) [0, 1, 2, 3, 4, 5, 6, 7] (by decide) rfl
                  have hFc := va_free (wc := [(hq, .inr (3, [.ref hp, .ref hst, .int lim, .int thd, .int md, .int sz0, .int tm, .int a3, .int a4, .int u36_sx, .int u36_sy, .ref hqf, .ref hkn, .int stp])), (hp, .inr (0, [.int pw, .int ph, .ref hw, .ref hs, .int psr])), (hs, .inl (kS, 263169, .inl fs)), (hst, .inr (2, [.ref ak, .ref ar, .int cnt])), (ak, .inl (cK, 300, .inl kf)), (ar, .inl (cR, 300, .inl wf)), (hqf, .inl (cQ, 4, .inl qd)), (hkn, .inl (cN, 262144, .inr (.inl kc)))]) hD hS hA [0, 1, 2, 3, 4, 5, 6, 7] rfl
                  refine va_callv (va_runV (As := [.int a1, .int lw, .int a3, .int a4, .int v339, .int v348, .int v365]) (rest := []) ⟨hx, hb, hml, hown, hts⟩ ((ih d9 rfl) l dC dI H235.size hq hp hw hs hst hqf hkn kS pw ph psr lim thd md sz0 tm a3 a4 u36_sx u36_sy stp fs Wd Ht M S D hpw hph hmd hsz0 hW1 hW2 hH1 hH2 hM1 hM2 hsum cN kc ST hst0 hst1 hst2 i3 LIM hlim hL0 hL1 V hV V1 V2 THD hthd hTHD ak ar cK cR cnt kf wf nc hcnt AL (F) hSR cQ qd a1 lw a3 a4 v339 v348 v365 k zlw L T mx my (DEP + 1) g1 hlw g3 g4 h339 h348 h365 hk0 hk3 (by omega) (by omega) hQl (by omega) (by omega) (by omega) (by omega) (by omega) (by omega) (by omega) (by omega) hAL (si_part j2 hdis (by omega) (by omega) (by omega) (by omega))) (aw_V 7 hts wd_445 wd_447 ws_15 wd_2 wd_448 rfl rfl (by decide +kernel) ⟨by dsimp only; omega, by dsimp only; omega⟩) ⟨rw_blind, va_recv hKc hPc (ci := 3) (q0 := 0) rfl rfl, rw_pre hPc hKc hDc⟩ rfl rfl hl.1 rfl (lv_room (Nat.le_of_ble_eq_true rfl)) d_Search_siftPlaces_366 ⟨by dsimp only; omega, by dsimp only; omega⟩) hS (fun q _ h => hFc q h) hFc (fun u t9 H366 locs ht hvm h366 hB hz1 hk1 hS => ?_)
                  obtain ⟨u366_tm, u366_tx, u366_ty, u366_sx, u366_sy, u366_cnt, u366_kf, u366_wf, u366_qf, u366_kn⟩ := u
                  obtain ⟨hP1, _, hD1⟩ := hB
                  rw [ht] at hP1
                  try dsimp only at h366 hP1 hD1
                  obtain ⟨hP, hD⟩ := va_join (wr := []) (w1 := [(hq, .inr (3, [.ref hp, .ref hst, .int lim, .int thd, .int md, .int sz0, .int u366_tm, .int u366_tx, .int u366_ty, .int u366_sx, .int u366_sy, .ref hqf, .ref hkn, .int stp])), (hp, .inr (0, [.int pw, .int ph, .ref hw, .ref hs, .int psr])), (hs, .inl (kS, 263169, .inl fs)), (hst, .inr (2, [.ref ak, .ref ar, .int u366_cnt])), (ak, .inl (cK, 300, .inl u366_kf)), (ar, .inl (cR, 300, .inl u366_wf)), (hqf, .inl (cQ, 4, .inl u366_qf)), (hkn, .inl (cN, 262144, .inr (.inl u366_kn)))]) hP hD [0, 1, 2, 3, 4, 5, 6, 7] [] rfl rfl (by decide) (by decide) hk1 hFc hP1 hD1
                  have hP := hP.sub (ws' := [(hq, .inr (3, [.ref hp, .ref hst, .int lim, .int thd, .int md, .int sz0, .int u366_tm, .int u366_tx, .int u366_ty, .int u366_sx, .int u366_sy, .ref hqf, .ref hkn, .int stp])), (hp, .inr (0, [.int pw, .int ph, .ref hw, .ref hs, .int psr])), (hs, .inl (kS, 263169, .inl fs)), (hst, .inr (2, [.ref ak, .ref ar, .int u366_cnt])), (ak, .inl (cK, 300, .inl u366_kf)), (ar, .inl (cR, 300, .inl u366_wf)), (hqf, .inl (cQ, 4, .inl u366_qf)), (hkn, .inl (cN, 262144, .inr (.inl u366_kn)))]) [0, 1, 2, 3, 4, 5, 6, 7] rfl
                  have hD := hD.sub (ws' := [(hq, .inr (3, [.ref hp, .ref hst, .int lim, .int thd, .int md, .int sz0, .int u366_tm, .int u366_tx, .int u366_ty, .int u366_sx, .int u366_sy, .ref hqf, .ref hkn, .int stp])), (hp, .inr (0, [.int pw, .int ph, .ref hw, .ref hs, .int psr])), (hs, .inl (kS, 263169, .inl fs)), (hst, .inr (2, [.ref ak, .ref ar, .int u366_cnt])), (ak, .inl (cK, 300, .inl u366_kf)), (ar, .inl (cR, 300, .inl u366_wf)), (hqf, .inl (cQ, 4, .inl u366_qf)), (hkn, .inl (cN, 262144, .inr (.inl u366_kn)))]) [0, 1, 2, 3, 4, 5, 6, 7] (by decide) rfl
                  clear hPc hKc hDc hFc ht hvm hz1 hk1 hP1 hD1
                  refine lv_aload_n hx hb d_Search_siftPlaces_369 rfl (lv_at hl 2 rfl) ?_
                  refine lv_iload_n hx hb d_Search_siftPlaces_370 rfl (lv_at hl 3 rfl) ?_
                  refine lv_iload hx hb d_Search_siftPlaces_371 (lv_at hl 11 rfl) ?_
                  refine lv_iload hx hb d_Search_siftPlaces_373 (lv_at hl 1 rfl) ?_
                  refine lv_iconst (v := 1) hx hb d_Search_siftPlaces_375 (by decide) ?_
                  refine lv_iadd hx hb d_Search_siftPlaces_376 ?_
                  refine lv_topi (fun v376 e376 => ?_)
                  have h376 : v376.toInt = mx + 1 := by rw [e376]; exact ti_add h339 (ti_k (by decide)) (by omega) (by omega)
                  refine lv_iload hx hb d_Search_siftPlaces_377 (lv_at hl 6 rfl) ?_
                  refine lv_iload hx hb d_Search_siftPlaces_379 (lv_at hl 7 rfl) ?_
                  refine lv_iload hx hb d_Search_siftPlaces_381 (lv_at hl 0 rfl) ?_
                  refine lv_iload hx hb d_Search_siftPlaces_383 (lv_at hl 9 rfl) ?_
                  refine lv_iconst (v := 1) hx hb d_Search_siftPlaces_385 (by decide) ?_
                  refine lv_iadd hx hb d_Search_siftPlaces_386 ?_
                  refine lv_topi (fun v386 e386 => ?_)
                  have h386 : v386.toInt = DEP + 1 := by rw [e386]; exact ti_add g7 (ti_k (by decide)) (by omega) (by omega)
                  have hPc := hP.sub (ws' := [(hq, .inr (3, [.ref hp, .ref hst, .int lim, .int thd, .int md, .int sz0, .int u366_tm, .int u366_tx, .int u366_ty, .int u366_sx, .int u366_sy, .ref hqf, .ref hkn, .int stp])), (hp, .inr (0, [.int pw, .int ph, .ref hw, .ref hs, .int psr])), (hs, .inl (kS, 263169, .inl fs)), (hst, .inr (2, [.ref ak, .ref ar, .int u366_cnt])), (ak, .inl (cK, 300, .inl u366_kf)), (ar, .inl (cR, 300, .inl u366_wf)), (hqf, .inl (cQ, 4, .inl u366_qf)), (hkn, .inl (cN, 262144, .inr (.inl u366_kn)))]) [0, 1, 2, 3, 4, 5, 6, 7] rfl
                  have hKc := hK.sub (tys' := [(kS, .int), (cK, .int), (cR, .int), (cQ, .int), (cN, .long)]) [0, 1, 2, 3, 4] rfl
                  have hDc := hD.sub (ws' := [(hq, .inr (3, [.ref hp, .ref hst, .int lim, .int thd, .int md, .int sz0, .int u366_tm, .int u366_tx, .int u366_ty, .int u366_sx, .int u366_sy, .ref hqf, .ref hkn, .int stp])), (hp, .inr (0, [.int pw, .int ph, .ref hw, .ref hs, .int psr])), (hs, .inl (kS, 263169, .inl fs)), (hst, .inr (2, [.ref ak, .ref ar, .int u366_cnt])), (ak, .inl (cK, 300, .inl u366_kf)), (ar, .inl (cR, 300, .inl u366_wf)), (hqf, .inl (cQ, 4, .inl u366_qf)), (hkn, .inl (cN, 262144, .inr (.inl u366_kn)))]) [0, 1, 2, 3, 4, 5, 6, 7] (by decide) rfl
                  have hFc := va_free (wc := [(hq, .inr (3, [.ref hp, .ref hst, .int lim, .int thd, .int md, .int sz0, .int u366_tm, .int u366_tx, .int u366_ty, .int u366_sx, .int u366_sy, .ref hqf, .ref hkn, .int stp])), (hp, .inr (0, [.int pw, .int ph, .ref hw, .ref hs, .int psr])), (hs, .inl (kS, 263169, .inl fs)), (hst, .inr (2, [.ref ak, .ref ar, .int u366_cnt])), (ak, .inl (cK, 300, .inl u366_kf)), (ar, .inl (cR, 300, .inl u366_wf)), (hqf, .inl (cQ, 4, .inl u366_qf)), (hkn, .inl (cN, 262144, .inr (.inl u366_kn)))]) hD hS hA [0, 1, 2, 3, 4, 5, 6, 7] rfl
                  refine va_callv (va_runV (As := [.int a1, .int lw, .int v376, .int a4, .int a5, .int v348, .int v386]) (rest := []) ⟨hx, hb, hml, hown, hts⟩ ((ih d9 rfl) l dC dI H366.size hq hp hw hs hst hqf hkn kS pw ph psr lim thd md sz0 u366_tm u366_tx u366_ty u366_sx u366_sy stp fs Wd Ht M S D hpw hph hmd hsz0 hW1 hW2 hH1 hH2 hM1 hM2 hsum cN u366_kn ST hst0 hst1 hst2 h366.2 LIM hlim hL0 hL1 V hV V1 V2 THD hthd hTHD ak ar cK cR u366_cnt u366_kf u366_wf (u366_cnt.toInt) rfl AL (orF F (tgP D LIM THD M V k zlw L T mx my)) h366.1 cQ u366_qf a1 lw v376 a4 a5 v348 v386 k zlw (mx + 1) T RR my (DEP + 1) g1 hlw h376 g4 g5 h348 h386 hk0 hk3 (by omega) (by omega) hQl (by omega) (by omega) (by omega) (by omega) (by omega) (by omega) (by omega) (by omega) (or_al hAL p1) r2) (aw_V 7 hts wd_445 wd_447 ws_15 wd_2 wd_448 rfl rfl (by decide +kernel) ⟨by dsimp only; omega, by dsimp only; omega⟩) ⟨rw_blind, va_recv hKc hPc (ci := 3) (q0 := 0) rfl rfl, rw_pre hPc hKc hDc⟩ rfl rfl hl.1 rfl (lv_room (Nat.le_of_ble_eq_true rfl)) d_Search_siftPlaces_387 ⟨by dsimp only; omega, by dsimp only; omega⟩) hS (fun q _ h => hFc q h) hFc (fun u t9 H387 locs ht hvm h387 hB hz1 hk1 hS => ?_)
                  obtain ⟨u387_tm, u387_tx, u387_ty, u387_sx, u387_sy, u387_cnt, u387_kf, u387_wf, u387_qf, u387_kn⟩ := u
                  obtain ⟨hP1, _, hD1⟩ := hB
                  rw [ht] at hP1
                  try dsimp only at h387 hP1 hD1
                  obtain ⟨hP, hD⟩ := va_join (wr := []) (w1 := [(hq, .inr (3, [.ref hp, .ref hst, .int lim, .int thd, .int md, .int sz0, .int u387_tm, .int u387_tx, .int u387_ty, .int u387_sx, .int u387_sy, .ref hqf, .ref hkn, .int stp])), (hp, .inr (0, [.int pw, .int ph, .ref hw, .ref hs, .int psr])), (hs, .inl (kS, 263169, .inl fs)), (hst, .inr (2, [.ref ak, .ref ar, .int u387_cnt])), (ak, .inl (cK, 300, .inl u387_kf)), (ar, .inl (cR, 300, .inl u387_wf)), (hqf, .inl (cQ, 4, .inl u387_qf)), (hkn, .inl (cN, 262144, .inr (.inl u387_kn)))]) hP hD [0, 1, 2, 3, 4, 5, 6, 7] [] rfl rfl (by decide) (by decide) hk1 hFc hP1 hD1
                  have hP := hP.sub (ws' := [(hq, .inr (3, [.ref hp, .ref hst, .int lim, .int thd, .int md, .int sz0, .int u387_tm, .int u387_tx, .int u387_ty, .int u387_sx, .int u387_sy, .ref hqf, .ref hkn, .int stp])), (hp, .inr (0, [.int pw, .int ph, .ref hw, .ref hs, .int psr])), (hs, .inl (kS, 263169, .inl fs)), (hst, .inr (2, [.ref ak, .ref ar, .int u387_cnt])), (ak, .inl (cK, 300, .inl u387_kf)), (ar, .inl (cR, 300, .inl u387_wf)), (hqf, .inl (cQ, 4, .inl u387_qf)), (hkn, .inl (cN, 262144, .inr (.inl u387_kn)))]) [0, 1, 2, 3, 4, 5, 6, 7] rfl
                  have hD := hD.sub (ws' := [(hq, .inr (3, [.ref hp, .ref hst, .int lim, .int thd, .int md, .int sz0, .int u387_tm, .int u387_tx, .int u387_ty, .int u387_sx, .int u387_sy, .ref hqf, .ref hkn, .int stp])), (hp, .inr (0, [.int pw, .int ph, .ref hw, .ref hs, .int psr])), (hs, .inl (kS, 263169, .inl fs)), (hst, .inr (2, [.ref ak, .ref ar, .int u387_cnt])), (ak, .inl (cK, 300, .inl u387_kf)), (ar, .inl (cR, 300, .inl u387_wf)), (hqf, .inl (cQ, 4, .inl u387_qf)), (hkn, .inl (cN, 262144, .inr (.inl u387_kn)))]) [0, 1, 2, 3, 4, 5, 6, 7] (by decide) rfl
                  clear hPc hKc hDc hFc ht hvm hz1 hk1 hP1 hD1
                  refine lv_aload_n hx hb d_Search_siftPlaces_390 rfl (lv_at hl 2 rfl) ?_
                  refine lv_iload_n hx hb d_Search_siftPlaces_391 rfl (lv_at hl 3 rfl) ?_
                  refine lv_iload hx hb d_Search_siftPlaces_392 (lv_at hl 11 rfl) ?_
                  refine lv_iload_n hx hb d_Search_siftPlaces_394 rfl (lv_at hl 5 rfl) ?_
                  refine lv_iload hx hb d_Search_siftPlaces_395 (lv_at hl 0 rfl) ?_
                  refine lv_iconst (v := 1) hx hb d_Search_siftPlaces_397 (by decide) ?_
                  refine lv_iadd hx hb d_Search_siftPlaces_398 ?_
                  refine lv_topi (fun v398 e398 => ?_)
                  have h398 : v398.toInt = my + 1 := by rw [e398]; exact ti_add h348 (ti_k (by decide)) (by omega) (by omega)
                  refine lv_iload hx hb d_Search_siftPlaces_399 (lv_at hl 1 rfl) ?_
                  refine lv_iload hx hb d_Search_siftPlaces_401 (lv_at hl 8 rfl) ?_
                  refine lv_iload hx hb d_Search_siftPlaces_403 (lv_at hl 9 rfl) ?_
                  refine lv_iconst (v := 1) hx hb d_Search_siftPlaces_405 (by decide) ?_
                  refine lv_iadd hx hb d_Search_siftPlaces_406 ?_
                  refine lv_topi (fun v406 e406 => ?_)
                  have h406 : v406.toInt = DEP + 1 := by rw [e406]; exact ti_add g7 (ti_k (by decide)) (by omega) (by omega)
                  have hPc := hP.sub (ws' := [(hq, .inr (3, [.ref hp, .ref hst, .int lim, .int thd, .int md, .int sz0, .int u387_tm, .int u387_tx, .int u387_ty, .int u387_sx, .int u387_sy, .ref hqf, .ref hkn, .int stp])), (hp, .inr (0, [.int pw, .int ph, .ref hw, .ref hs, .int psr])), (hs, .inl (kS, 263169, .inl fs)), (hst, .inr (2, [.ref ak, .ref ar, .int u387_cnt])), (ak, .inl (cK, 300, .inl u387_kf)), (ar, .inl (cR, 300, .inl u387_wf)), (hqf, .inl (cQ, 4, .inl u387_qf)), (hkn, .inl (cN, 262144, .inr (.inl u387_kn)))]) [0, 1, 2, 3, 4, 5, 6, 7] rfl
                  have hKc := hK.sub (tys' := [(kS, .int), (cK, .int), (cR, .int), (cQ, .int), (cN, .long)]) [0, 1, 2, 3, 4] rfl
                  have hDc := hD.sub (ws' := [(hq, .inr (3, [.ref hp, .ref hst, .int lim, .int thd, .int md, .int sz0, .int u387_tm, .int u387_tx, .int u387_ty, .int u387_sx, .int u387_sy, .ref hqf, .ref hkn, .int stp])), (hp, .inr (0, [.int pw, .int ph, .ref hw, .ref hs, .int psr])), (hs, .inl (kS, 263169, .inl fs)), (hst, .inr (2, [.ref ak, .ref ar, .int u387_cnt])), (ak, .inl (cK, 300, .inl u387_kf)), (ar, .inl (cR, 300, .inl u387_wf)), (hqf, .inl (cQ, 4, .inl u387_qf)), (hkn, .inl (cN, 262144, .inr (.inl u387_kn)))]) [0, 1, 2, 3, 4, 5, 6, 7] (by decide) rfl
                  have hFc := va_free (wc := [(hq, .inr (3, [.ref hp, .ref hst, .int lim, .int thd, .int md, .int sz0, .int u387_tm, .int u387_tx, .int u387_ty, .int u387_sx, .int u387_sy, .ref hqf, .ref hkn, .int stp])), (hp, .inr (0, [.int pw, .int ph, .ref hw, .ref hs, .int psr])), (hs, .inl (kS, 263169, .inl fs)), (hst, .inr (2, [.ref ak, .ref ar, .int u387_cnt])), (ak, .inl (cK, 300, .inl u387_kf)), (ar, .inl (cR, 300, .inl u387_wf)), (hqf, .inl (cQ, 4, .inl u387_qf)), (hkn, .inl (cN, 262144, .inr (.inl u387_kn)))]) hD hS hA [0, 1, 2, 3, 4, 5, 6, 7] rfl
                  refine va_callv (va_runV (As := [.int a1, .int lw, .int a3, .int v398, .int v339, .int a6, .int v406]) (rest := []) ⟨hx, hb, hml, hown, hts⟩ ((ih d9 rfl) l dC dI H387.size hq hp hw hs hst hqf hkn kS pw ph psr lim thd md sz0 u387_tm u387_tx u387_ty u387_sx u387_sy stp fs Wd Ht M S D hpw hph hmd hsz0 hW1 hW2 hH1 hH2 hM1 hM2 hsum cN u387_kn ST hst0 hst1 hst2 h387.2 LIM hlim hL0 hL1 V hV V1 V2 THD hthd hTHD ak ar cK cR u387_cnt u387_kf u387_wf (u387_cnt.toInt) rfl AL (orF (orF F (tgP D LIM THD M V k zlw L T mx my)) (tgP D LIM THD M V k zlw (mx + 1) T RR my)) h387.1 cQ u387_qf a1 lw a3 v398 v339 a6 v406 k zlw L (my + 1) mx BO (DEP + 1) g1 hlw g3 h398 h339 g6 h406 hk0 hk3 (by omega) (by omega) hQl (by omega) (by omega) (by omega) (by omega) (by omega) (by omega) (by omega) (by omega) (or_al (or_al hAL p1) r2) r3) (aw_V 7 hts wd_445 wd_447 ws_15 wd_2 wd_448 rfl rfl (by decide +kernel) ⟨by dsimp only; omega, by dsimp only; omega⟩) ⟨rw_blind, va_recv hKc hPc (ci := 3) (q0 := 0) rfl rfl, rw_pre hPc hKc hDc⟩ rfl rfl hl.1 rfl (lv_room (Nat.le_of_ble_eq_true rfl)) d_Search_siftPlaces_407 ⟨by dsimp only; omega, by dsimp only; omega⟩) hS (fun q _ h => hFc q h) hFc (fun u t9 H407 locs ht hvm h407 hB hz1 hk1 hS => ?_)
                  obtain ⟨u407_tm, u407_tx, u407_ty, u407_sx, u407_sy, u407_cnt, u407_kf, u407_wf, u407_qf, u407_kn⟩ := u
                  obtain ⟨hP1, _, hD1⟩ := hB
                  rw [ht] at hP1
                  try dsimp only at h407 hP1 hD1
                  obtain ⟨hP, hD⟩ := va_join (wr := []) (w1 := [(hq, .inr (3, [.ref hp, .ref hst, .int lim, .int thd, .int md, .int sz0, .int u407_tm, .int u407_tx, .int u407_ty, .int u407_sx, .int u407_sy, .ref hqf, .ref hkn, .int stp])), (hp, .inr (0, [.int pw, .int ph, .ref hw, .ref hs, .int psr])), (hs, .inl (kS, 263169, .inl fs)), (hst, .inr (2, [.ref ak, .ref ar, .int u407_cnt])), (ak, .inl (cK, 300, .inl u407_kf)), (ar, .inl (cR, 300, .inl u407_wf)), (hqf, .inl (cQ, 4, .inl u407_qf)), (hkn, .inl (cN, 262144, .inr (.inl u407_kn)))]) hP hD [0, 1, 2, 3, 4, 5, 6, 7] [] rfl rfl (by decide) (by decide) hk1 hFc hP1 hD1
                  have hP := hP.sub (ws' := [(hq, .inr (3, [.ref hp, .ref hst, .int lim, .int thd, .int md, .int sz0, .int u407_tm, .int u407_tx, .int u407_ty, .int u407_sx, .int u407_sy, .ref hqf, .ref hkn, .int stp])), (hp, .inr (0, [.int pw, .int ph, .ref hw, .ref hs, .int psr])), (hs, .inl (kS, 263169, .inl fs)), (hst, .inr (2, [.ref ak, .ref ar, .int u407_cnt])), (ak, .inl (cK, 300, .inl u407_kf)), (ar, .inl (cR, 300, .inl u407_wf)), (hqf, .inl (cQ, 4, .inl u407_qf)), (hkn, .inl (cN, 262144, .inr (.inl u407_kn)))]) [0, 1, 2, 3, 4, 5, 6, 7] rfl
                  have hD := hD.sub (ws' := [(hq, .inr (3, [.ref hp, .ref hst, .int lim, .int thd, .int md, .int sz0, .int u407_tm, .int u407_tx, .int u407_ty, .int u407_sx, .int u407_sy, .ref hqf, .ref hkn, .int stp])), (hp, .inr (0, [.int pw, .int ph, .ref hw, .ref hs, .int psr])), (hs, .inl (kS, 263169, .inl fs)), (hst, .inr (2, [.ref ak, .ref ar, .int u407_cnt])), (ak, .inl (cK, 300, .inl u407_kf)), (ar, .inl (cR, 300, .inl u407_wf)), (hqf, .inl (cQ, 4, .inl u407_qf)), (hkn, .inl (cN, 262144, .inr (.inl u407_kn)))]) [0, 1, 2, 3, 4, 5, 6, 7] (by decide) rfl
                  clear hPc hKc hDc hFc ht hvm hz1 hk1 hP1 hD1
                  refine lv_aload_n hx hb d_Search_siftPlaces_410 rfl (lv_at hl 2 rfl) ?_
                  refine lv_iload_n hx hb d_Search_siftPlaces_411 rfl (lv_at hl 3 rfl) ?_
                  refine lv_iload hx hb d_Search_siftPlaces_412 (lv_at hl 11 rfl) ?_
                  refine lv_iload hx hb d_Search_siftPlaces_414 (lv_at hl 1 rfl) ?_
                  refine lv_iconst (v := 1) hx hb d_Search_siftPlaces_416 (by decide) ?_
                  refine lv_iadd hx hb d_Search_siftPlaces_417 ?_
                  refine lv_topi (fun v417 e417 => ?_)
                  have h417 : v417.toInt = mx + 1 := by rw [e417]; exact ti_add h339 (ti_k (by decide)) (by omega) (by omega)
                  refine lv_iload hx hb d_Search_siftPlaces_418 (lv_at hl 0 rfl) ?_
                  refine lv_iconst (v := 1) hx hb d_Search_siftPlaces_420 (by decide) ?_
                  refine lv_iadd hx hb d_Search_siftPlaces_421 ?_
                  refine lv_topi (fun v421 e421 => ?_)
                  have h421 : v421.toInt = my + 1 := by rw [e421]; exact ti_add h348 (ti_k (by decide)) (by omega) (by omega)
                  refine lv_iload hx hb d_Search_siftPlaces_422 (lv_at hl 7 rfl) ?_
                  refine lv_iload hx hb d_Search_siftPlaces_424 (lv_at hl 8 rfl) ?_
                  refine lv_iload hx hb d_Search_siftPlaces_426 (lv_at hl 9 rfl) ?_
                  refine lv_iconst (v := 1) hx hb d_Search_siftPlaces_428 (by decide) ?_
                  refine lv_iadd hx hb d_Search_siftPlaces_429 ?_
                  refine lv_topi (fun v429 e429 => ?_)
                  have h429 : v429.toInt = DEP + 1 := by rw [e429]; exact ti_add g7 (ti_k (by decide)) (by omega) (by omega)
                  have hPc := hP.sub (ws' := [(hq, .inr (3, [.ref hp, .ref hst, .int lim, .int thd, .int md, .int sz0, .int u407_tm, .int u407_tx, .int u407_ty, .int u407_sx, .int u407_sy, .ref hqf, .ref hkn, .int stp])), (hp, .inr (0, [.int pw, .int ph, .ref hw, .ref hs, .int psr])), (hs, .inl (kS, 263169, .inl fs)), (hst, .inr (2, [.ref ak, .ref ar, .int u407_cnt])), (ak, .inl (cK, 300, .inl u407_kf)), (ar, .inl (cR, 300, .inl u407_wf)), (hqf, .inl (cQ, 4, .inl u407_qf)), (hkn, .inl (cN, 262144, .inr (.inl u407_kn)))]) [0, 1, 2, 3, 4, 5, 6, 7] rfl
                  have hKc := hK.sub (tys' := [(kS, .int), (cK, .int), (cR, .int), (cQ, .int), (cN, .long)]) [0, 1, 2, 3, 4] rfl
                  have hDc := hD.sub (ws' := [(hq, .inr (3, [.ref hp, .ref hst, .int lim, .int thd, .int md, .int sz0, .int u407_tm, .int u407_tx, .int u407_ty, .int u407_sx, .int u407_sy, .ref hqf, .ref hkn, .int stp])), (hp, .inr (0, [.int pw, .int ph, .ref hw, .ref hs, .int psr])), (hs, .inl (kS, 263169, .inl fs)), (hst, .inr (2, [.ref ak, .ref ar, .int u407_cnt])), (ak, .inl (cK, 300, .inl u407_kf)), (ar, .inl (cR, 300, .inl u407_wf)), (hqf, .inl (cQ, 4, .inl u407_qf)), (hkn, .inl (cN, 262144, .inr (.inl u407_kn)))]) [0, 1, 2, 3, 4, 5, 6, 7] (by decide) rfl
                  have hFc := va_free (wc := [(hq, .inr (3, [.ref hp, .ref hst, .int lim, .int thd, .int md, .int sz0, .int u407_tm, .int u407_tx, .int u407_ty, .int u407_sx, .int u407_sy, .ref hqf, .ref hkn, .int stp])), (hp, .inr (0, [.int pw, .int ph, .ref hw, .ref hs, .int psr])), (hs, .inl (kS, 263169, .inl fs)), (hst, .inr (2, [.ref ak, .ref ar, .int u407_cnt])), (ak, .inl (cK, 300, .inl u407_kf)), (ar, .inl (cR, 300, .inl u407_wf)), (hqf, .inl (cQ, 4, .inl u407_qf)), (hkn, .inl (cN, 262144, .inr (.inl u407_kn)))]) hD hS hA [0, 1, 2, 3, 4, 5, 6, 7] rfl
                  refine va_callv (va_runV (As := [.int a1, .int lw, .int v417, .int v421, .int a5, .int a6, .int v429]) (rest := []) ⟨hx, hb, hml, hown, hts⟩ ((ih d9 rfl) l dC dI H407.size hq hp hw hs hst hqf hkn kS pw ph psr lim thd md sz0 u407_tm u407_tx u407_ty u407_sx u407_sy stp fs Wd Ht M S D hpw hph hmd hsz0 hW1 hW2 hH1 hH2 hM1 hM2 hsum cN u407_kn ST hst0 hst1 hst2 h407.2 LIM hlim hL0 hL1 V hV V1 V2 THD hthd hTHD ak ar cK cR u407_cnt u407_kf u407_wf (u407_cnt.toInt) rfl AL (orF (orF (orF F (tgP D LIM THD M V k zlw L T mx my)) (tgP D LIM THD M V k zlw (mx + 1) T RR my)) (tgP D LIM THD M V k zlw L (my + 1) mx BO)) h407.1 cQ u407_qf a1 lw v417 v421 a5 a6 v429 k zlw (mx + 1) (my + 1) RR BO (DEP + 1) g1 hlw h417 h421 g5 g6 h429 hk0 hk3 (by omega) (by omega) hQl (by omega) (by omega) (by omega) (by omega) (by omega) (by omega) (by omega) (by omega) (or_al (or_al (or_al hAL p1) r2) r3) r4) (aw_V 7 hts wd_445 wd_447 ws_15 wd_2 wd_448 rfl rfl (by decide +kernel) ⟨by dsimp only; omega, by dsimp only; omega⟩) ⟨rw_blind, va_recv hKc hPc (ci := 3) (q0 := 0) rfl rfl, rw_pre hPc hKc hDc⟩ rfl rfl hl.1 rfl (lv_room (Nat.le_of_ble_eq_true rfl)) d_Search_siftPlaces_430 ⟨by dsimp only; omega, by dsimp only; omega⟩) hS (fun q _ h => hFc q h) hFc (fun u t9 H430 locs ht hvm h430 hB hz1 hk1 hS => ?_)
                  obtain ⟨u430_tm, u430_tx, u430_ty, u430_sx, u430_sy, u430_cnt, u430_kf, u430_wf, u430_qf, u430_kn⟩ := u
                  obtain ⟨hP1, _, hD1⟩ := hB
                  rw [ht] at hP1
                  try dsimp only at h430 hP1 hD1
                  obtain ⟨hP, hD⟩ := va_join (wr := []) (w1 := [(hq, .inr (3, [.ref hp, .ref hst, .int lim, .int thd, .int md, .int sz0, .int u430_tm, .int u430_tx, .int u430_ty, .int u430_sx, .int u430_sy, .ref hqf, .ref hkn, .int stp])), (hp, .inr (0, [.int pw, .int ph, .ref hw, .ref hs, .int psr])), (hs, .inl (kS, 263169, .inl fs)), (hst, .inr (2, [.ref ak, .ref ar, .int u430_cnt])), (ak, .inl (cK, 300, .inl u430_kf)), (ar, .inl (cR, 300, .inl u430_wf)), (hqf, .inl (cQ, 4, .inl u430_qf)), (hkn, .inl (cN, 262144, .inr (.inl u430_kn)))]) hP hD [0, 1, 2, 3, 4, 5, 6, 7] [] rfl rfl (by decide) (by decide) hk1 hFc hP1 hD1
                  have hP := hP.sub (ws' := [(hq, .inr (3, [.ref hp, .ref hst, .int lim, .int thd, .int md, .int sz0, .int u430_tm, .int u430_tx, .int u430_ty, .int u430_sx, .int u430_sy, .ref hqf, .ref hkn, .int stp])), (hp, .inr (0, [.int pw, .int ph, .ref hw, .ref hs, .int psr])), (hs, .inl (kS, 263169, .inl fs)), (hst, .inr (2, [.ref ak, .ref ar, .int u430_cnt])), (ak, .inl (cK, 300, .inl u430_kf)), (ar, .inl (cR, 300, .inl u430_wf)), (hqf, .inl (cQ, 4, .inl u430_qf)), (hkn, .inl (cN, 262144, .inr (.inl u430_kn)))]) [0, 1, 2, 3, 4, 5, 6, 7] rfl
                  have hD := hD.sub (ws' := [(hq, .inr (3, [.ref hp, .ref hst, .int lim, .int thd, .int md, .int sz0, .int u430_tm, .int u430_tx, .int u430_ty, .int u430_sx, .int u430_sy, .ref hqf, .ref hkn, .int stp])), (hp, .inr (0, [.int pw, .int ph, .ref hw, .ref hs, .int psr])), (hs, .inl (kS, 263169, .inl fs)), (hst, .inr (2, [.ref ak, .ref ar, .int u430_cnt])), (ak, .inl (cK, 300, .inl u430_kf)), (ar, .inl (cR, 300, .inl u430_wf)), (hqf, .inl (cQ, 4, .inl u430_qf)), (hkn, .inl (cN, 262144, .inr (.inl u430_kn)))]) [0, 1, 2, 3, 4, 5, 6, 7] (by decide) rfl
                  clear hPc hKc hDc hFc ht hvm hz1 hk1 hP1 hD1
                  have hpost : SR D AL (orF F (tgP D LIM THD M V k Qs L T RR BO)) u430_tm u430_kf u430_wf (u430_cnt : Int32).toInt ∧ KN D M ST u430_kn := by
                    refine ⟨?_, h430.2⟩
                    exact SR_congr h430.1 (fun _ _ _ _ _ => si_four j2 eSX eSY (by omega) (by omega) (by omega) (by omega))
                  have hP9 := hP.sub (ws' := [(hq, .inr (3, [.ref hp, .ref hst, .int lim, .int thd, .int md, .int sz0, .int u430_tm, .int u430_tx, .int u430_ty, .int u430_sx, .int u430_sy, .ref hqf, .ref hkn, .int stp])), (hp, .inr (0, [.int pw, .int ph, .ref hw, .ref hs, .int psr])), (hs, .inl (kS, 263169, .inl fs)), (hst, .inr (2, [.ref ak, .ref ar, .int u430_cnt])), (ak, .inl (cK, 300, .inl u430_kf)), (ar, .inl (cR, 300, .inl u430_wf)), (hqf, .inl (cQ, 4, .inl u430_qf)), (hkn, .inl (cN, 262144, .inr (.inl u430_kn)))]) [0, 1, 2, 3, 4, 5, 6, 7] rfl
                  have hD9 := hD.sub (ws' := [(hq, .inr (3, [.ref hp, .ref hst, .int lim, .int thd, .int md, .int sz0, .int u430_tm, .int u430_tx, .int u430_ty, .int u430_sx, .int u430_sy, .ref hqf, .ref hkn, .int stp])), (hp, .inr (0, [.int pw, .int ph, .ref hw, .ref hs, .int psr])), (hs, .inl (kS, 263169, .inl fs)), (hst, .inr (2, [.ref ak, .ref ar, .int u430_cnt])), (ak, .inl (cK, 300, .inl u430_kf)), (ar, .inl (cR, 300, .inl u430_wf)), (hqf, .inl (cQ, 4, .inl u430_qf)), (hkn, .inl (cN, 262144, .inr (.inl u430_kn)))]) [0, 1, 2, 3, 4, 5, 6, 7] (by decide) rfl
                  have hK9 := hK.sub (tys' := [(kS, .int), (cK, .int), (cR, .int), (cQ, .int), (cN, .long)]) [0, 1, 2, 3, 4] rfl
                  exact W.vret hx hb hr (fun t ht hW => ⟨⟨(u430_tm, u430_tx, u430_ty, u430_sx, u430_sy, u430_cnt, u430_kf, u430_wf, u430_qf, u430_kn), rfl, hpost, by rw [ht]; exact hP9, va_K.moved hW.alike hK9, hD9⟩, hS.F ht⟩) hS.2.2 d_Search_siftPlaces_433
                · skip
                  have c324 : SX = 0 ∧ SY = 0 := bi_nz h40 c324
                  refine lv_aload_n hx hb d_Search_siftPlaces_327 rfl (lv_at hl 0 rfl) ?_
                  refine lv_iload hx hb d_Search_siftPlaces_328 (lv_at hl 9 rfl) ?_
                  have hPc := hP.sub (ws' := [(hq, .inr (3, [.ref hp, .ref hst, .int lim, .int thd, .int md, .int sz0, .int tm, .int a3, .int a4, .int u36_sx, .int u36_sy, .ref hqf, .ref hkn, .int stp])), (hp, .inr (0, [.int pw, .int ph, .ref hw, .ref hs, .int psr])), (hs, .inl (kS, 263169, .inl fs)), (hst, .inr (2, [.ref ak, .ref ar, .int cnt])), (ak, .inl (cK, 300, .inl kf)), (ar, .inl (cR, 300, .inl wf)), (hqf, .inl (cQ, 4, .inl qd))]) [0, 1, 2, 3, 4, 5, 6] rfl
                  have hKc := hK.sub (tys' := [(kS, .int), (cK, .int), (cR, .int), (cQ, .int)]) [0, 1, 2, 3] rfl
                  have hDc := hD.sub (ws' := [(hq, .inr (3, [.ref hp, .ref hst, .int lim, .int thd, .int md, .int sz0, .int tm, .int a3, .int a4, .int u36_sx, .int u36_sy, .ref hqf, .ref hkn, .int stp])), (hp, .inr (0, [.int pw, .int ph, .ref hw, .ref hs, .int psr])), (hs, .inl (kS, 263169, .inl fs)), (hst, .inr (2, [.ref ak, .ref ar, .int cnt])), (ak, .inl (cK, 300, .inl kf)), (ar, .inl (cR, 300, .inl wf)), (hqf, .inl (cQ, 4, .inl qd))]) [0, 1, 2, 3, 4, 5, 6] (by decide) rfl
                  have hFc := va_free (wc := [(hq, .inr (3, [.ref hp, .ref hst, .int lim, .int thd, .int md, .int sz0, .int tm, .int a3, .int a4, .int u36_sx, .int u36_sy, .ref hqf, .ref hkn, .int stp])), (hp, .inr (0, [.int pw, .int ph, .ref hw, .ref hs, .int psr])), (hs, .inl (kS, 263169, .inl fs)), (hst, .inr (2, [.ref ak, .ref ar, .int cnt])), (ak, .inl (cK, 300, .inl kf)), (ar, .inl (cR, 300, .inl wf)), (hqf, .inl (cQ, 4, .inl qd))]) hD hS hA [0, 1, 2, 3, 4, 5, 6] rfl
                  refine va_callv (va_runV (As := [.int lw]) (rest := []) ⟨hx, hb, hml, hown, hts⟩ (c_judge l dC dI H235.size hq hp hw hs hst hqf hkn kS pw ph psr lim thd md sz0 tm a3 a4 u36_sx u36_sy stp fs Wd Ht M S L T SX SY D hpw hph hmd hsz0 g3 g4 hsx hsy hB hsum LIM hlim hL0 hL1 V hV V1 V2 ak ar cK cR cnt kf wf nc hcnt AL F hSR cQ qd lw zlw hlw (by omega) (by omega) (by omega) (by omega) (fun q q0 q1 => by have := j2.2.2.2.2.2.2.2 q q0 q1; omega) (fun q q0 q1 b => j2.2.2.2.2.2.1 c324.1 c324.2 q q0 (by omega) q1 b) hAL (si_hnew j2 eSX eSY c324.1 c324.2 hdis)) (aw_V 1 hts wd_484 wd_486 ws_24 wd_2 wd_487 rfl rfl (by decide +kernel) ⟨by dsimp only; omega, by dsimp only; omega⟩) ⟨rw_blind, va_recv hKc hPc (ci := 3) (q0 := 0) rfl rfl, rw_pre hPc hKc hDc⟩ rfl rfl hl.1 rfl (lv_room (Nat.le_of_ble_eq_true rfl)) d_Search_siftPlaces_330 ⟨by dsimp only; omega, by dsimp only; omega⟩) hS (fun q _ h => hFc q h) hFc (fun u t9 H330 locs ht hvm h330 hB hz1 hk1 hS => ?_)
                  obtain ⟨u330_tm, u330_cnt, u330_kf, u330_wf⟩ := u
                  obtain ⟨hP1, _, hD1⟩ := hB
                  rw [ht] at hP1
                  try dsimp only at h330 hP1 hD1
                  obtain ⟨hP, hD⟩ := va_join (wr := [(hkn, .inl (cN, 262144, .inr (.inl kc)))]) (w1 := [(hq, .inr (3, [.ref hp, .ref hst, .int lim, .int thd, .int md, .int sz0, .int u330_tm, .int a3, .int a4, .int u36_sx, .int u36_sy, .ref hqf, .ref hkn, .int stp])), (hp, .inr (0, [.int pw, .int ph, .ref hw, .ref hs, .int psr])), (hs, .inl (kS, 263169, .inl fs)), (hst, .inr (2, [.ref ak, .ref ar, .int u330_cnt])), (ak, .inl (cK, 300, .inl u330_kf)), (ar, .inl (cR, 300, .inl u330_wf)), (hqf, .inl (cQ, 4, .inl qd))]) hP hD [0, 1, 2, 3, 4, 5, 6] [7] rfl rfl (by decide) (by decide) hk1 hFc hP1 hD1
                  have hP := hP.sub (ws' := [(hq, .inr (3, [.ref hp, .ref hst, .int lim, .int thd, .int md, .int sz0, .int u330_tm, .int a3, .int a4, .int u36_sx, .int u36_sy, .ref hqf, .ref hkn, .int stp])), (hp, .inr (0, [.int pw, .int ph, .ref hw, .ref hs, .int psr])), (hs, .inl (kS, 263169, .inl fs)), (hst, .inr (2, [.ref ak, .ref ar, .int u330_cnt])), (ak, .inl (cK, 300, .inl u330_kf)), (ar, .inl (cR, 300, .inl u330_wf)), (hqf, .inl (cQ, 4, .inl qd)), (hkn, .inl (cN, 262144, .inr (.inl kc)))]) [1, 2, 3, 4, 5, 6, 7, 0] rfl
                  have hD := hD.sub (ws' := [(hq, .inr (3, [.ref hp, .ref hst, .int lim, .int thd, .int md, .int sz0, .int u330_tm, .int a3, .int a4, .int u36_sx, .int u36_sy, .ref hqf, .ref hkn, .int stp])), (hp, .inr (0, [.int pw, .int ph, .ref hw, .ref hs, .int psr])), (hs, .inl (kS, 263169, .inl fs)), (hst, .inr (2, [.ref ak, .ref ar, .int u330_cnt])), (ak, .inl (cK, 300, .inl u330_kf)), (ar, .inl (cR, 300, .inl u330_wf)), (hqf, .inl (cQ, 4, .inl qd)), (hkn, .inl (cN, 262144, .inr (.inl kc)))]) [1, 2, 3, 4, 5, 6, 7, 0] (by decide) rfl
                  clear hPc hKc hDc hFc ht hvm hz1 hk1 hP1 hD1
                  have hpost : SR D AL (orF F (tgP D LIM THD M V k Qs L T RR BO)) u330_tm u330_kf u330_wf (u330_cnt : Int32).toInt ∧ KN D M ST kc := by
                    refine ⟨?_, i3⟩
                    exact SR_congr h330 (fun _ _ _ _ _ => si_one j2 eSX eSY c324.1 c324.2)
                  have hP9 := hP.sub (ws' := [(hq, .inr (3, [.ref hp, .ref hst, .int lim, .int thd, .int md, .int sz0, .int u330_tm, .int a3, .int a4, .int u36_sx, .int u36_sy, .ref hqf, .ref hkn, .int stp])), (hp, .inr (0, [.int pw, .int ph, .ref hw, .ref hs, .int psr])), (hs, .inl (kS, 263169, .inl fs)), (hst, .inr (2, [.ref ak, .ref ar, .int u330_cnt])), (ak, .inl (cK, 300, .inl u330_kf)), (ar, .inl (cR, 300, .inl u330_wf)), (hqf, .inl (cQ, 4, .inl qd)), (hkn, .inl (cN, 262144, .inr (.inl kc)))]) [0, 1, 2, 3, 4, 5, 6, 7] rfl
                  have hD9 := hD.sub (ws' := [(hq, .inr (3, [.ref hp, .ref hst, .int lim, .int thd, .int md, .int sz0, .int u330_tm, .int a3, .int a4, .int u36_sx, .int u36_sy, .ref hqf, .ref hkn, .int stp])), (hp, .inr (0, [.int pw, .int ph, .ref hw, .ref hs, .int psr])), (hs, .inl (kS, 263169, .inl fs)), (hst, .inr (2, [.ref ak, .ref ar, .int u330_cnt])), (ak, .inl (cK, 300, .inl u330_kf)), (ar, .inl (cR, 300, .inl u330_wf)), (hqf, .inl (cQ, 4, .inl qd)), (hkn, .inl (cN, 262144, .inr (.inl kc)))]) [0, 1, 2, 3, 4, 5, 6, 7] (by decide) rfl
                  have hK9 := hK.sub (tys' := [(kS, .int), (cK, .int), (cR, .int), (cQ, .int), (cN, .long)]) [0, 1, 2, 3, 4] rfl
                  exact W.vret hx hb hr (fun t ht hW => ⟨⟨(u330_tm, a3, a4, u36_sx, u36_sy, u330_cnt, u330_kf, u330_wf, qd, kc), rfl, hpost, by rw [ht]; exact hP9, va_K.moved hW.alike hK9, hD9⟩, hS.F ht⟩) hS.2.2 d_Search_siftPlaces_333
              · skip
                have c318 : zlw = 0 := (ti_eq hlw (ti_k (by decide))).mp c318
                have hpost : SR D AL (orF F (tgP D LIM THD M V k Qs L T RR BO)) tm kf wf (cnt : Int32).toInt ∧ KN D M ST kc := by
                  refine ⟨?_, i3⟩
                  rw [hcnt]
                  have e4 : zqq = 4 := by omega
                  exact SR_congr hSR (fun _ _ _ _ _ => si_none j2 (by omega) eSX eSY)
                have hP9 := hP.sub (ws' := [(hq, .inr (3, [.ref hp, .ref hst, .int lim, .int thd, .int md, .int sz0, .int tm, .int a3, .int a4, .int u36_sx, .int u36_sy, .ref hqf, .ref hkn, .int stp])), (hp, .inr (0, [.int pw, .int ph, .ref hw, .ref hs, .int psr])), (hs, .inl (kS, 263169, .inl fs)), (hst, .inr (2, [.ref ak, .ref ar, .int cnt])), (ak, .inl (cK, 300, .inl kf)), (ar, .inl (cR, 300, .inl wf)), (hqf, .inl (cQ, 4, .inl qd)), (hkn, .inl (cN, 262144, .inr (.inl kc)))]) [0, 1, 2, 3, 4, 5, 6, 7] rfl
                have hD9 := hD.sub (ws' := [(hq, .inr (3, [.ref hp, .ref hst, .int lim, .int thd, .int md, .int sz0, .int tm, .int a3, .int a4, .int u36_sx, .int u36_sy, .ref hqf, .ref hkn, .int stp])), (hp, .inr (0, [.int pw, .int ph, .ref hw, .ref hs, .int psr])), (hs, .inl (kS, 263169, .inl fs)), (hst, .inr (2, [.ref ak, .ref ar, .int cnt])), (ak, .inl (cK, 300, .inl kf)), (ar, .inl (cR, 300, .inl wf)), (hqf, .inl (cQ, 4, .inl qd)), (hkn, .inl (cN, 262144, .inr (.inl kc)))]) [0, 1, 2, 3, 4, 5, 6, 7] (by decide) rfl
                have hK9 := hK.sub (tys' := [(kS, .int), (cK, .int), (cR, .int), (cQ, .int), (cN, .long)]) [0, 1, 2, 3, 4] rfl
                exact W.vret hx hb hr (fun t ht hW => ⟨⟨(tm, a3, a4, u36_sx, u36_sy, cnt, kf, wf, qd, kc), rfl, hpost, by rw [ht]; exact hP9, va_K.moved hW.alike hK9, hD9⟩, hS.F ht⟩) hS.2.2 d_Search_siftPlaces_321
            · skip
              have c238 : ¬ ((4 : Int) ≤ zqq) := fun q => c238 ((ti_le (ti_k (by decide)) hqq).mpr q)
              refine lv_iload hx hb d_Search_siftPlaces_241 (lv_at hl 9 rfl) ?_
              refine lv_iload hx hb d_Search_siftPlaces_243 (lv_at hl 10 rfl) ?_
              refine lv_ishr hx hb d_Search_siftPlaces_245 ?_
              refine lv_topi (fun v245 e245 => ?_)
              refine lv_iconst (v := 1) hx hb d_Search_siftPlaces_246 (by decide) ?_
              refine lv_iand hx hb d_Search_siftPlaces_247 ?_
              refine lv_topi (fun v247 e247 => ?_)
              refine lv_if_eq (tgt := 310) hx hb d_Search_siftPlaces_248 (by decide) (fun c248 => ?_) (fun c248 => ?_)
              · skip
                have b248 : bt zlw zqq = false := (bt_test hlw hqq (by omega) (by omega) (by omega) (by omega)).mp (by rw [← e245, ← e247]; exact c248)
                obtain ⟨v310, e310⟩ : ∃ y : Int32, y = qq + 1 := ⟨_, rfl⟩
                have h310 : v310.toInt = zqq + 1 := by rw [e310]; exact ti_add hqq (ti_k (by decide)) (by omega) (by omega)
                refine lv_iinc (v := v310) (lv' := [(10, .int v310), (0, .ref hq), (1, .int a1), (2, .int a2), (3, .int a3), (4, .int a4), (5, .int a5), (6, .int a6), (7, .int a7), (8, .int v40), (9, .int lw)]) hx hb d_Search_siftPlaces_310 hl (k := 10) rfl (by rw [e310]; rfl) (by decide) rfl (fun ls hl => ?_)
                refine lv_goto (tgt := 235) hx hb d_Search_siftPlaces_313 (by decide) ?_
                exact ih235 _ (by omega) _ _ _ ⟨lw, zlw, v310, (zqq + 1), qd, ls, rfl, lv_sub hl [1, 2, 3, 4, 5, 6, 7, 8, 9, 10, 0] rfl, rfl, hlw, h310, by omega, by first | exact sj_no j2 b248 | exact sj_step j2 (by omega) (by omega) V1 hL1 hk0 hk3 (by omega) (by omega) b248 w262.1 w262.2.1 ⟨w262.2.2.1, by omega⟩ w277.1 w288.1 w277.2 w288.2 (qg_upd (by omega) ef266 h265) l307a l307b (hl_clr (by omega) l307c) | exact sj_step j2 (by omega) (by omega) V1 hL1 hk0 hk3 (by omega) (by omega) b248 w262.1 w262.2.1 ⟨w262.2.2.1, by omega⟩ w277.1 w288.1 w277.2 w288.2 (qg_upd (by omega) ef266 h265) (by omega) (by omega) (hl_keep (by omega)), hP, hD, hS⟩
              · skip
                have b248 : bt zlw zqq = true := by
                  cases hb : bt zlw zqq with
                  | true => rfl
                  | false => exact absurd (by rw [e247, e245]; exact (bt_test hlw hqq (by omega) (by omega) (by omega) (by omega)).mpr hb) c248
                refine lv_aload_n hx hb d_Search_siftPlaces_251 rfl (lv_at hl 0 rfl) ?_
                refine va_get (D := (dC, dI)) (ci := 3) (v := .ref hqf) (C := R_Search) (T := T_Search) (N := 14) hx hb hts i_Search hown hK hP 0 rfl rfl 11 (by decide) (hts _ wd_92) (fun _ h9 => h9) rfl d_Search_siftPlaces_252 ?_
                refine lv_iload hx hb d_Search_siftPlaces_255 (lv_at hl 10 rfl) ?_
                refine lv_dup2_11 hx hb d_Search_siftPlaces_257 rfl rfl ?_
                have in258 : vp_in qq 4 := vi_in hqq (by omega) (by omega)
                refine va_iald hx hb hK hP 6 3 rfl rfl in258 d_Search_siftPlaces_258 ?_
                refine lv_topi (fun v258 e258 => ?_)
                have e258 : v258 = qd (zqq).toNat := by rw [e258, vi_cl hqq]
                have b258 := j2.2.2.2.2.2.2.2 zqq (by omega) (by omega)
                refine lv_aload_n hx hb d_Search_siftPlaces_259 rfl (lv_at hl 0 rfl) ?_
                refine lv_iload hx hb d_Search_siftPlaces_260 (lv_at hl 10 rfl) ?_
                have hPc := hP.sub (ws' := [(hq, .inr (3, [.ref hp, .ref hst, .int lim, .int thd, .int md, .int sz0, .int tm, .int a3, .int a4, .int u36_sx, .int u36_sy, .ref hqf, .ref hkn, .int stp])), (hp, .inr (0, [.int pw, .int ph, .ref hw, .ref hs, .int psr])), (hs, .inl (kS, 263169, .inl fs))]) [0, 1, 2] rfl
                have hKc := hK.sub (tys' := [(kS, .int)]) [0] rfl
                refine va_calli (va_runV (As := [.int qq]) (rest := [.int v258, .int qq, .ref hqf]) ⟨hx, hb, hml, hown, hts⟩ (c_spotFloor l dC dI hq hp hw hs hst hqf hkn kS pw ph psr lim thd md sz0 tm a3 a4 u36_sx u36_sy stp fs Wd Ht M S L T SX SY D hpw hph hmd hsz0 g3 g4 hsx hsy hB hsum qq zqq hqq (by omega) (by omega) (by omega) (by omega) (by omega)) (aw_V 1 hts wd_468 wd_470 ws_20 wd_2 wd_471 rfl rfl (by decide +kernel) ⟨by dsimp only; omega, by dsimp only; omega⟩) ⟨ro_blind, va_recv hKc hPc (ci := 3) (q0 := 0) rfl rfl, ro_pre hPc hKc⟩ rfl rfl hl.1 rfl (lv_room (Nat.le_of_ble_eq_true rfl)) d_Search_siftPlaces_262 ⟨Nat.le_of_ble_eq_true rfl, Nat.le_of_ble_eq_true rfl⟩) hS (fun q _ h => h.elim) (fun q h => h.elim) (fun v262 _ t9 H262 locs ht hvm h262 hB hz1 hk1 hS => ?_)
                have hP := ro_keep hP hk1
                clear hPc hKc ht hvm hB hz1 hk1
                have w262 := sp_floor h262
                rw [hV] at w262
                refine lv_iadd hx hb d_Search_siftPlaces_265 ?_
                refine lv_topi (fun v265 e265 => ?_)
                have h265 : v265.toInt = (qd zqq.toNat).toInt + v262.toInt := by rw [e265]; exact ti_add (congrArg Int32.toInt e258) rfl (by omega) (by omega)
                have in266 : vp_in qq 4 := vi_in hqq (by omega) (by omega)
                refine va_iast hx hb hK hP hD hS 6 3 rfl rfl in266 d_Search_siftPlaces_266 (fun H266 locs hP hD hS => ?_)
                obtain ⟨f266, ef266⟩ : ∃ g, g = upd qd (qq).toNatClampNeg v265 := ⟨_, rfl⟩
                have hP : va_P (dC, dI) vwCl [(hq, .inr (3, [.ref hp, .ref hst, .int lim, .int thd, .int md, .int sz0, .int tm, .int a3, .int a4, .int u36_sx, .int u36_sy, .ref hqf, .ref hkn, .int stp])), (hp, .inr (0, [.int pw, .int ph, .ref hw, .ref hs, .int psr])), (hs, .inl (kS, 263169, .inl fs)), (hst, .inr (2, [.ref ak, .ref ar, .int cnt])), (ak, .inl (cK, 300, .inl kf)), (ar, .inl (cR, 300, .inl wf)), (hqf, .inl (cQ, 4, .inl f266)), (hkn, .inl (cN, 262144, .inr (.inl kc)))] H266 := by rw [ef266]; exact hP
                have hD : va_D A [(hq, .inr (3, [.ref hp, .ref hst, .int lim, .int thd, .int md, .int sz0, .int tm, .int a3, .int a4, .int u36_sx, .int u36_sy, .ref hqf, .ref hkn, .int stp])), (hp, .inr (0, [.int pw, .int ph, .ref hw, .ref hs, .int psr])), (hs, .inl (kS, 263169, .inl fs)), (hst, .inr (2, [.ref ak, .ref ar, .int cnt])), (ak, .inl (cK, 300, .inl kf)), (ar, .inl (cR, 300, .inl wf)), (hqf, .inl (cQ, 4, .inl f266)), (hkn, .inl (cN, 262144, .inr (.inl kc)))] := by rw [ef266]; exact hD
                have ef266 : f266 = upd qd (zqq).toNat v265 := by rw [ef266, vi_cl hqq]
                refine lv_aload_n hx hb d_Search_siftPlaces_267 rfl (lv_at hl 0 rfl) ?_
                refine va_get (D := (dC, dI)) (ci := 3) (v := .ref hqf) (C := R_Search) (T := T_Search) (N := 14) hx hb hts i_Search hown hK hP 0 rfl rfl 11 (by decide) (hts _ wd_92) (fun _ h9 => h9) rfl d_Search_siftPlaces_268 ?_
                refine lv_iload hx hb d_Search_siftPlaces_271 (lv_at hl 10 rfl) ?_
                have in273 : vp_in qq 4 := vi_in hqq (by omega) (by omega)
                refine va_iald hx hb hK hP 6 3 rfl rfl in273 d_Search_siftPlaces_273 ?_
                refine lv_topi (fun v273 e273 => ?_)
                have e273 : v273 = f266 (zqq).toNat := by rw [e273, vi_cl hqq]
                have h273 : v273.toInt = (qd zqq.toNat).toInt + v262.toInt := by rw [e273, ef266, pk_us]; exact h265
                refine lv_aload_n hx hb d_Search_siftPlaces_274 rfl (lv_at hl 0 rfl) ?_
                refine lv_iload hx hb d_Search_siftPlaces_275 (lv_at hl 10 rfl) ?_
                have hPc := hP.sub (ws' := [(hq, .inr (3, [.ref hp, .ref hst, .int lim, .int thd, .int md, .int sz0, .int tm, .int a3, .int a4, .int u36_sx, .int u36_sy, .ref hqf, .ref hkn, .int stp])), (hp, .inr (0, [.int pw, .int ph, .ref hw, .ref hs, .int psr])), (hs, .inl (kS, 263169, .inl fs))]) [0, 1, 2] rfl
                have hKc := hK.sub (tys' := [(kS, .int)]) [0] rfl
                refine va_calli (va_runV (As := [.int qq]) (rest := [.int v273]) ⟨hx, hb, hml, hown, hts⟩ (c_lineFloor l dC dI hq hp hw hs hst hqf hkn kS pw ph psr lim thd md sz0 tm a3 a4 u36_sx u36_sy stp fs Wd Ht M S L T SX SY D hpw hph hmd hsz0 g3 g4 hsx hsy hB hsum qq zqq hqq (by omega) (by omega) (by omega) (by omega) (by omega)) (aw_V 1 hts wd_472 wd_474 ws_21 wd_2 wd_475 rfl rfl (by decide +kernel) ⟨by dsimp only; omega, by dsimp only; omega⟩) ⟨ro_blind, va_recv hKc hPc (ci := 3) (q0 := 0) rfl rfl, ro_pre hPc hKc⟩ rfl rfl hl.1 rfl (lv_room (Nat.le_of_ble_eq_true rfl)) d_Search_siftPlaces_277 ⟨Nat.le_of_ble_eq_true rfl, Nat.le_of_ble_eq_true rfl⟩) hS (fun q _ h => h.elim) (fun q h => h.elim) (fun v277 _ t9 H277 locs ht hvm h277 hB hz1 hk1 hS => ?_)
                have hP := ro_keep hP hk1
                clear hPc hKc ht hvm hB hz1 hk1
                have w277 := lf_low (by omega) (show 21 ≤ S by omega) (by omega) (by omega) (by omega) h277
                rw [hV] at w277
                have x277 := lfb h277 (by omega) (by omega) (by omega) (by omega)
                refine lv_iadd hx hb d_Search_siftPlaces_280 ?_
                refine lv_topi (fun v280 e280 => ?_)
                have h280 : v280.toInt = (qd zqq.toNat).toInt + v262.toInt + v277.toInt := by rw [e280]; exact ti_add h273 rfl (by omega) (by omega)
                refine lv_aload_n hx hb d_Search_siftPlaces_281 rfl (lv_at hl 0 rfl) ?_
                refine lv_iload hx hb d_Search_siftPlaces_282 (lv_at hl 10 rfl) ?_
                refine lv_iconst (v := 3) hx hb d_Search_siftPlaces_284 (by decide) ?_
                refine lv_iadd hx hb d_Search_siftPlaces_285 ?_
                refine lv_topi (fun v285 e285 => ?_)
                have h285 : v285.toInt = zqq + 3 := by rw [e285]; exact ti_add hqq (ti_k (by decide)) (by omega) (by omega)
                refine lv_iconst (v := 3) hx hb d_Search_siftPlaces_286 (by decide) ?_
                refine lv_iand hx hb d_Search_siftPlaces_287 ?_
                refine lv_topi (fun v287 e287 => ?_)
                have h287 : v287.toInt = (zqq + 3) % 4 := by rw [e287]; exact bt_and3 h285 (by omega) (by omega)
                have hPc := hP.sub (ws' := [(hq, .inr (3, [.ref hp, .ref hst, .int lim, .int thd, .int md, .int sz0, .int tm, .int a3, .int a4, .int u36_sx, .int u36_sy, .ref hqf, .ref hkn, .int stp])), (hp, .inr (0, [.int pw, .int ph, .ref hw, .ref hs, .int psr])), (hs, .inl (kS, 263169, .inl fs))]) [0, 1, 2] rfl
                have hKc := hK.sub (tys' := [(kS, .int)]) [0] rfl
                refine va_calli (va_runV (As := [.int v287]) (rest := [.int v280]) ⟨hx, hb, hml, hown, hts⟩ (c_lineFloor l dC dI hq hp hw hs hst hqf hkn kS pw ph psr lim thd md sz0 tm a3 a4 u36_sx u36_sy stp fs Wd Ht M S L T SX SY D hpw hph hmd hsz0 g3 g4 hsx hsy hB hsum v287 ((zqq + 3) % 4) h287 (by omega) (by omega) (by omega) (by omega) (by omega)) (aw_V 1 hts wd_472 wd_474 ws_21 wd_2 wd_475 rfl rfl (by decide +kernel) ⟨by dsimp only; omega, by dsimp only; omega⟩) ⟨ro_blind, va_recv hKc hPc (ci := 3) (q0 := 0) rfl rfl, ro_pre hPc hKc⟩ rfl rfl hl.1 rfl (lv_room (Nat.le_of_ble_eq_true rfl)) d_Search_siftPlaces_288 ⟨Nat.le_of_ble_eq_true rfl, Nat.le_of_ble_eq_true rfl⟩) hS (fun q _ h => h.elim) (fun q h => h.elim) (fun v288 _ t9 H288 locs ht hvm h288 hB hz1 hk1 hS => ?_)
                have hP := ro_keep hP hk1
                clear hPc hKc ht hvm hB hz1 hk1
                have w288 := lf_low (by omega) (show 21 ≤ S by omega) (by omega) (by omega) (by omega) h288
                rw [hV] at w288
                have x288 := lfb h288 (by omega) (by omega) (by omega) (by omega)
                refine lv_iadd hx hb d_Search_siftPlaces_291 ?_
                refine lv_topi (fun v291 e291 => ?_)
                have h291 : v291.toInt = ((qd zqq.toNat).toInt + v262.toInt + v277.toInt) + v288.toInt := by rw [e291]; exact ti_add h280 rfl (by omega) (by omega)
                refine lv_aload_n hx hb d_Search_siftPlaces_292 rfl (lv_at hl 0 rfl) ?_
                refine va_get (D := (dC, dI)) (ci := 3) (v := .int lim) (C := R_Search) (T := T_Search) (N := 14) hx hb hts i_Search hown hK hP 0 rfl rfl 2 (by decide) (hts _ wd_83) (fun _ h9 => h9) rfl d_Search_siftPlaces_293 ?_
                refine lv_icmp_le (tgt := 310) hx hb d_Search_siftPlaces_296 (by decide) (fun c296 => ?_) (fun c296 => ?_)
                · skip
                  have c296 : (((qd zqq.toNat).toInt + v262.toInt + v277.toInt) + v288.toInt) ≤ LIM := (ti_le h291 hlim).mp c296
                  obtain ⟨v310, e310⟩ : ∃ y : Int32, y = qq + 1 := ⟨_, rfl⟩
                  have h310 : v310.toInt = zqq + 1 := by rw [e310]; exact ti_add hqq (ti_k (by decide)) (by omega) (by omega)
                  refine lv_iinc (v := v310) (lv' := [(10, .int v310), (0, .ref hq), (1, .int a1), (2, .int a2), (3, .int a3), (4, .int a4), (5, .int a5), (6, .int a6), (7, .int a7), (8, .int v40), (9, .int lw)]) hx hb d_Search_siftPlaces_310 hl (k := 10) rfl (by rw [e310]; rfl) (by decide) rfl (fun ls hl => ?_)
                  refine lv_goto (tgt := 235) hx hb d_Search_siftPlaces_313 (by decide) ?_
                  exact ih235 _ (by omega) _ _ _ ⟨lw, zlw, v310, (zqq + 1), f266, ls, rfl, lv_sub hl [1, 2, 3, 4, 5, 6, 7, 8, 9, 10, 0] rfl, rfl, hlw, h310, by omega, by first | exact sj_no j2 b248 | exact sj_step j2 (by omega) (by omega) V1 hL1 hk0 hk3 (by omega) (by omega) b248 w262.1 w262.2.1 ⟨w262.2.2.1, by omega⟩ w277.1 w288.1 w277.2 w288.2 (qg_upd (by omega) ef266 h265) l307a l307b (hl_clr (by omega) l307c) | exact sj_step j2 (by omega) (by omega) V1 hL1 hk0 hk3 (by omega) (by omega) b248 w262.1 w262.2.1 ⟨w262.2.2.1, by omega⟩ w277.1 w288.1 w277.2 w288.2 (qg_upd (by omega) ef266 h265) (by omega) (by omega) (hl_keep (by omega)), hP, hD, hS⟩
                · skip
                  have c296 : ¬ ((((qd zqq.toNat).toInt + v262.toInt + v277.toInt) + v288.toInt) ≤ LIM) := fun q => c296 ((ti_le h291 hlim).mpr q)
                  refine lv_iload hx hb d_Search_siftPlaces_299 (lv_at hl 9 rfl) ?_
                  refine lv_iconst (v := 1) hx hb d_Search_siftPlaces_301 (by decide) ?_
                  refine lv_iload hx hb d_Search_siftPlaces_302 (lv_at hl 10 rfl) ?_
                  refine lv_ishl hx hb d_Search_siftPlaces_304 ?_
                  refine lv_topi (fun v304 e304 => ?_)
                  refine lv_iconst (v := (-1)) hx hb d_Search_siftPlaces_305 (by decide) ?_
                  refine lv_ixor hx hb d_Search_siftPlaces_306 ?_
                  refine lv_topi (fun v306 e306 => ?_)
                  refine lv_iand hx hb d_Search_siftPlaces_307 ?_
                  refine lv_topi (fun v307 e307 => ?_)
                  obtain ⟨l307, h307, l307a, l307b, l307c⟩ := bt_clr hlw hqq (by omega) (by omega) (by omega) (by omega)
                  rw [← e304, ← e306, ← e307] at h307
                  refine lv_istore (lv' := [(9, .int v307), (0, .ref hq), (1, .int a1), (2, .int a2), (3, .int a3), (4, .int a4), (5, .int a5), (6, .int a6), (7, .int a7), (8, .int v40), (10, .int qq)]) hx hb d_Search_siftPlaces_308 hl (by decide) rfl (fun ls hl => ?_)
                  obtain ⟨v310, e310⟩ : ∃ y : Int32, y = qq + 1 := ⟨_, rfl⟩
                  have h310 : v310.toInt = zqq + 1 := by rw [e310]; exact ti_add hqq (ti_k (by decide)) (by omega) (by omega)
                  refine lv_iinc (v := v310) (lv' := [(10, .int v310), (9, .int v307), (0, .ref hq), (1, .int a1), (2, .int a2), (3, .int a3), (4, .int a4), (5, .int a5), (6, .int a6), (7, .int a7), (8, .int v40)]) hx hb d_Search_siftPlaces_310 hl (k := 10) rfl (by rw [e310]; rfl) (by decide) rfl (fun ls hl => ?_)
                  refine lv_goto (tgt := 235) hx hb d_Search_siftPlaces_313 (by decide) ?_
                  exact ih235 _ (by omega) _ _ _ ⟨v307, l307, v310, (zqq + 1), f266, ls, rfl, lv_sub hl [2, 3, 4, 5, 6, 7, 8, 9, 10, 1, 0] rfl, rfl, h307, h310, by omega, by first | exact sj_no j2 b248 | exact sj_step j2 (by omega) (by omega) V1 hL1 hk0 hk3 (by omega) (by omega) b248 w262.1 w262.2.1 ⟨w262.2.2.1, by omega⟩ w277.1 w288.1 w277.2 w288.2 (qg_upd (by omega) ef266 h265) l307a l307b (hl_clr (by omega) l307c) | exact sj_step j2 (by omega) (by omega) V1 hL1 hk0 hk3 (by omega) (by omega) b248 w262.1 w262.2.1 ⟨w262.2.2.1, by omega⟩ w277.1 w288.1 w277.2 w288.2 (qg_upd (by omega) ef266 h265) (by omega) (by omega) (hl_keep (by omega)), hP, hD, hS⟩
          · skip
            have c62 : ¬ ((4 : Int) ≤ zss) := fun q => c62 ((ti_le (ti_k (by decide)) hss).mpr q)
            refine lv_iload_n hx hb d_Search_siftPlaces_65 rfl (lv_at hl 1 rfl) ?_
            refine lv_iload hx hb d_Search_siftPlaces_66 (lv_at hl 10 rfl) ?_
            refine lv_iadd hx hb d_Search_siftPlaces_68 ?_
            refine lv_topi (fun v68 e68 => ?_)
            have h68 : v68.toInt = k + zss := by rw [e68]; exact ti_add g1 hss (by omega) (by omega)
            refine lv_iconst (v := 3) hx hb d_Search_siftPlaces_69 (by decide) ?_
            refine lv_iand hx hb d_Search_siftPlaces_70 ?_
            refine lv_topi (fun v70 e70 => ?_)
            have h70 : v70.toInt = (k + zss) % 4 := by rw [e70]; exact bt_and3 h68 (by omega) (by omega)
            obtain ⟨C, kC⟩ : ∃ c : Int, c = ((k + zss) % 4) := ⟨_, rfl⟩
            have h70 : v70.toInt = C := by rw [h70, kC]
            refine lv_istore (lv' := [(11, .int v70), (0, .ref hq), (1, .int a1), (2, .int a2), (3, .int a3), (4, .int a4), (5, .int a5), (6, .int a6), (7, .int a7), (8, .int v40), (9, .int lv), (10, .int ss)]) hx hb d_Search_siftPlaces_71 hl (by decide) rfl (fun ls hl => ?_)
            refine lv_iconst (v := 1) hx hb d_Search_siftPlaces_73 (by decide) ?_
            refine lv_iload hx hb d_Search_siftPlaces_74 (lv_at hl 0 rfl) ?_
            refine lv_iconst (v := 2) hx hb d_Search_siftPlaces_76 (by decide) ?_
            refine lv_iadd hx hb d_Search_siftPlaces_77 ?_
            refine lv_topi (fun v77 e77 => ?_)
            have h77 : v77.toInt = C + 2 := by rw [e77]; exact ti_add h70 (ti_k (by decide)) (by omega) (by omega)
            refine lv_iconst (v := 3) hx hb d_Search_siftPlaces_78 (by decide) ?_
            refine lv_iand hx hb d_Search_siftPlaces_79 ?_
            refine lv_topi (fun v79 e79 => ?_)
            have h79 : v79.toInt = (C + 2) % 4 := by rw [e79]; exact bt_and3 h77 (by omega) (by omega)
            obtain ⟨Wq, kWq⟩ : ∃ c : Int, c = ((C + 2) % 4) := ⟨_, rfl⟩
            have h79 : v79.toInt = Wq := by rw [h79, kWq]
            refine lv_ishl hx hb d_Search_siftPlaces_80 ?_
            refine lv_topi (fun v80 e80 => ?_)
            refine lv_istore (lv' := [(12, .int v80), (11, .int v70), (0, .ref hq), (1, .int a1), (2, .int a2), (3, .int a3), (4, .int a4), (5, .int a5), (6, .int a6), (7, .int a7), (8, .int v40), (9, .int lv), (10, .int ss)]) hx hb d_Search_siftPlaces_81 hl (by decide) rfl (fun ls hl => ?_)
            refine lv_iload hx hb d_Search_siftPlaces_83 (lv_at hl 11 rfl) ?_
            refine lv_iload hx hb d_Search_siftPlaces_85 (lv_at hl 0 rfl) ?_
            refine lv_iconst (v := (-1)) hx hb d_Search_siftPlaces_87 (by decide) ?_
            refine lv_ixor hx hb d_Search_siftPlaces_88 ?_
            refine lv_topi (fun v88 e88 => ?_)
            refine lv_iand hx hb d_Search_siftPlaces_89 ?_
            refine lv_topi (fun v89 e89 => ?_)
            refine lv_if_eq (tgt := 226) hx hb d_Search_siftPlaces_90 (by decide) (fun c90 => ?_) (fun c90 => ?_)
            · skip
              have kCt : C = (k + ((zss.toNat : Nat) : Int)) % 4 := by omega
              have no90 : ∀ z, 0 ≤ z → z < 4 → z ≠ Wq → bt zlv z = false := (bt_any hlv h79 (by omega) (by omega) (by omega) (by omega)).mp (by rw [← e80, ← e88, ← e89]; exact c90)
              obtain ⟨v226, e226⟩ : ∃ y : Int32, y = ss + 1 := ⟨_, rfl⟩
              have h226 : v226.toInt = zss + 1 := by rw [e226]; exact ti_add hss (ti_k (by decide)) (by omega) (by omega)
              refine lv_iinc (v := v226) (lv' := [(10, .int v226), (12, .int v80), (11, .int v70), (0, .ref hq), (1, .int a1), (2, .int a2), (3, .int a3), (4, .int a4), (5, .int a5), (6, .int a6), (7, .int a7), (8, .int v40), (9, .int lv)]) hx hb d_Search_siftPlaces_226 hl (k := 12) rfl (by rw [e226]; rfl) (by decide) rfl (fun ls hl => ?_)
              refine lv_goto (tgt := 59) hx hb d_Search_siftPlaces_229 (by decide) ?_
              have et : (zss + 1).toNat = zss.toNat + 1 := by omega
              exact ih59 _ (by omega) _ _ _ ⟨lv, zlv, v226, (zss + 1), qc, kc, ls, rfl, lv_sub hl [3, 4, 5, 6, 7, 8, 9, 10, 11, 12, 0] rfl, rfl, hlv, h226, by omega, by first | (rw [et]; exact si_skip i2 hk0 hk3 hQ kCt kWq no90) | (rw [et]; exact inl), by first | exact jkn | exact i3, hP, hD, hS⟩
            · skip
              have kCt : C = (k + ((zss.toNat : Nat) : Int)) % 4 := by omega
              refine lv_aload_n hx hb d_Search_siftPlaces_93 rfl (lv_at hl 2 rfl) ?_
              refine lv_iload hx hb d_Search_siftPlaces_94 (lv_at hl 1 rfl) ?_
              have hPc := hP.sub (ws' := [(hq, .inr (3, [.ref hp, .ref hst, .int lim, .int thd, .int md, .int sz0, .int tm, .int a3, .int a4, .int u36_sx, .int u36_sy, .ref hqf, .ref hkn, .int stp])), (hp, .inr (0, [.int pw, .int ph, .ref hw, .ref hs, .int psr])), (hs, .inl (kS, 263169, .inl fs))]) [0, 1, 2] rfl
              have hKc := hK.sub (tys' := [(kS, .int)]) [0] rfl
              refine va_calli (va_runV (As := [.int v70]) (rest := []) ⟨hx, hb, hml, hown, hts⟩ (c_finderX l dC dI hq hp hw hs hst hqf hkn kS pw ph psr lim thd md sz0 tm a3 a4 u36_sx u36_sy stp fs Wd Ht M S L T SX SY D hpw hph hmd hsz0 g3 g4 hsx hsy hB hsum v70 C h70 (by omega) (by omega) (by omega)) (aw_V 1 hts wd_452 wd_454 ws_16 wd_2 wd_455 rfl rfl (by decide +kernel) ⟨by dsimp only; omega, by dsimp only; omega⟩) ⟨ro_blind, va_recv hKc hPc (ci := 3) (q0 := 0) rfl rfl, ro_pre hPc hKc⟩ rfl rfl hl.1 rfl (lv_room (Nat.le_of_ble_eq_true rfl)) d_Search_siftPlaces_96 ⟨Nat.le_of_ble_eq_true rfl, Nat.le_of_ble_eq_true rfl⟩) hS (fun q _ h => h.elim) (fun q h => h.elim) (fun v96 _ t9 H96 locs ht hvm h96 hB hz1 hk1 hS => ?_)
              have hP := ro_keep hP hk1
              clear hPc hKc ht hvm hB hz1 hk1
              have f96 : (C = 1 ∨ C = 2) → fX L M S C = L + (S - 7) * M := fun q => by unfold fX; rw [if_pos q]
              have n96 : ¬ (C = 1 ∨ C = 2) → fX L M S C = L := fun q => by unfold fX; rw [if_neg q, Int.add_zero]
              have b96 := fX_b (x := L) (M := M) (S := S) (k := C) (by omega) (by omega)
              refine lv_istore (lv' := [(13, .int v96), (12, .int v80), (11, .int v70), (0, .ref hq), (1, .int a1), (2, .int a2), (3, .int a3), (4, .int a4), (5, .int a5), (6, .int a6), (7, .int a7), (8, .int v40), (9, .int lv), (10, .int ss)]) hx hb d_Search_siftPlaces_99 hl (by decide) rfl (fun ls hl => ?_)
              refine lv_aload_n hx hb d_Search_siftPlaces_101 rfl (lv_at hl 3 rfl) ?_
              refine lv_iload hx hb d_Search_siftPlaces_102 (lv_at hl 2 rfl) ?_
              have hPc := hP.sub (ws' := [(hq, .inr (3, [.ref hp, .ref hst, .int lim, .int thd, .int md, .int sz0, .int tm, .int a3, .int a4, .int u36_sx, .int u36_sy, .ref hqf, .ref hkn, .int stp])), (hp, .inr (0, [.int pw, .int ph, .ref hw, .ref hs, .int psr])), (hs, .inl (kS, 263169, .inl fs))]) [0, 1, 2] rfl
              have hKc := hK.sub (tys' := [(kS, .int)]) [0] rfl
              refine va_calli (va_runV (As := [.int v70]) (rest := []) ⟨hx, hb, hml, hown, hts⟩ (c_finderY l dC dI hq hp hw hs hst hqf hkn kS pw ph psr lim thd md sz0 tm a3 a4 u36_sx u36_sy stp fs Wd Ht M S L T SX SY D hpw hph hmd hsz0 g3 g4 hsx hsy hB hsum v70 C h70 (by omega) (by omega) (by omega)) (aw_V 1 hts wd_456 wd_458 ws_17 wd_2 wd_459 rfl rfl (by decide +kernel) ⟨by dsimp only; omega, by dsimp only; omega⟩) ⟨ro_blind, va_recv hKc hPc (ci := 3) (q0 := 0) rfl rfl, ro_pre hPc hKc⟩ rfl rfl hl.1 rfl (lv_room (Nat.le_of_ble_eq_true rfl)) d_Search_siftPlaces_104 ⟨Nat.le_of_ble_eq_true rfl, Nat.le_of_ble_eq_true rfl⟩) hS (fun q _ h => h.elim) (fun q h => h.elim) (fun v104 _ t9 H104 locs ht hvm h104 hB hz1 hk1 hS => ?_)
              have hP := ro_keep hP hk1
              clear hPc hKc ht hvm hB hz1 hk1
              have f104 : 2 ≤ C → fY T M S C = T + (S - 7) * M := fun q => by unfold fY; rw [if_pos q]
              have n104 : ¬ 2 ≤ C → fY T M S C = T := fun q => by unfold fY; rw [if_neg q, Int.add_zero]
              have b104 := fY_b (y := T) (M := M) (S := S) (k := C) (by omega) (by omega)
              refine lv_istore (lv' := [(14, .int v104), (13, .int v96), (12, .int v80), (11, .int v70), (0, .ref hq), (1, .int a1), (2, .int a2), (3, .int a3), (4, .int a4), (5, .int a5), (6, .int a6), (7, .int a7), (8, .int v40), (9, .int lv), (10, .int ss)]) hx hb d_Search_siftPlaces_107 hl (by decide) rfl (fun ls hl => ?_)
              refine w_cut (I := fun H' locs' g' => ∃ (fl : Int32) (zfl : Int) (ke : Nat → Int64) (ls : Array Slot), g' = F0 m 146 ls [.int fl] ∧ lv_has ls 18 [(0, .ref hq), (1, .int a1), (2, .int a2), (3, .int a3), (4, .int a4), (5, .int a5), (6, .int a6), (7, .int a7), (8, .int v40), (9, .int lv), (10, .int ss), (11, .int v70), (12, .int v80), (13, .int v96), (14, .int v104)] ∧ fl.toInt = zfl ∧ (∀ dx dy, inT SX SY dx dy → zfl ≤ cWk D (L + dx) (T + dy) M (17 + 4 * V) C) ∧ (SX = 0 → SY = 0 → zfl = min (cWk D L T M (17 + 4 * V) C) 501) ∧ (-10000000 ≤ zfl ∧ zfl ≤ 10000000) ∧ (KN D M ST ke) ∧ va_P (dC, dI) vwCl [(hq, .inr (3, [.ref hp, .ref hst, .int lim, .int thd, .int md, .int sz0, .int tm, .int a3, .int a4, .int u36_sx, .int u36_sy, .ref hqf, .ref hkn, .int stp])), (hp, .inr (0, [.int pw, .int ph, .ref hw, .ref hs, .int psr])), (hs, .inl (kS, 263169, .inl fs)), (hst, .inr (2, [.ref ak, .ref ar, .int cnt])), (ak, .inl (cK, 300, .inl kf)), (ar, .inl (cR, 300, .inl wf)), (hqf, .inl (cQ, 4, .inl qc)), (hkn, .inl (cN, 262144, .inr (.inl ke)))] H' ∧ va_D A [(hq, .inr (3, [.ref hp, .ref hst, .int lim, .int thd, .int md, .int sz0, .int tm, .int a3, .int a4, .int u36_sx, .int u36_sy, .ref hqf, .ref hkn, .int stp])), (hp, .inr (0, [.int pw, .int ph, .ref hw, .ref hs, .int psr])), (hs, .inl (kS, 263169, .inl fs)), (hst, .inr (2, [.ref ak, .ref ar, .int cnt])), (ak, .inl (cK, 300, .inl kf)), (ar, .inl (cR, 300, .inl wf)), (hqf, .inl (cQ, 4, .inl qc)), (hkn, .inl (cN, 262144, .inr (.inl ke)))] ∧ va_S A s.heap H' locs') ?_ ?_
              · skip
                intro H146 locs g' hI
                obtain ⟨fl, zfl, ke, ls, rfl, hl, hfl, jlow, jex, jfb, jkn, hP, hD, hS⟩ := hI
                refine lv_istore (lv' := [(15, .int fl), (0, .ref hq), (1, .int a1), (2, .int a2), (3, .int a3), (4, .int a4), (5, .int a5), (6, .int a6), (7, .int a7), (8, .int v40), (9, .int lv), (10, .int ss), (11, .int v70), (12, .int v80), (13, .int v96), (14, .int v104)]) hx hb d_Search_siftPlaces_146 hl (by decide) rfl (fun ls hl => ?_)
                refine w_cut (I := fun H' locs' g' => ∃ (nf : Int32) (znf : Int) (ls : Array Slot), g' = F0 m 167 ls [.int nf] ∧ lv_has ls 18 [(0, .ref hq), (1, .int a1), (2, .int a2), (3, .int a3), (4, .int a4), (5, .int a5), (6, .int a6), (7, .int a7), (8, .int v40), (9, .int lv), (10, .int ss), (11, .int v70), (12, .int v80), (13, .int v96), (14, .int v104), (15, .int fl)] ∧ nf.toInt = znf ∧ (znf = 1 ∧ (zss = 0 ∧ THD < zfl) ∨ znf = 0 ∧ ¬ (zss = 0 ∧ THD < zfl)) ∧ va_P (dC, dI) vwCl [(hq, .inr (3, [.ref hp, .ref hst, .int lim, .int thd, .int md, .int sz0, .int tm, .int a3, .int a4, .int u36_sx, .int u36_sy, .ref hqf, .ref hkn, .int stp])), (hp, .inr (0, [.int pw, .int ph, .ref hw, .ref hs, .int psr])), (hs, .inl (kS, 263169, .inl fs)), (hst, .inr (2, [.ref ak, .ref ar, .int cnt])), (ak, .inl (cK, 300, .inl kf)), (ar, .inl (cR, 300, .inl wf)), (hqf, .inl (cQ, 4, .inl qc)), (hkn, .inl (cN, 262144, .inr (.inl ke)))] H' ∧ va_D A [(hq, .inr (3, [.ref hp, .ref hst, .int lim, .int thd, .int md, .int sz0, .int tm, .int a3, .int a4, .int u36_sx, .int u36_sy, .ref hqf, .ref hkn, .int stp])), (hp, .inr (0, [.int pw, .int ph, .ref hw, .ref hs, .int psr])), (hs, .inl (kS, 263169, .inl fs)), (hst, .inr (2, [.ref ak, .ref ar, .int cnt])), (ak, .inl (cK, 300, .inl kf)), (ar, .inl (cR, 300, .inl wf)), (hqf, .inl (cQ, 4, .inl qc)), (hkn, .inl (cN, 262144, .inr (.inl ke)))] ∧ va_S A s.heap H' locs') ?_ ?_
                · skip
                  intro H167 locs g' hI
                  obtain ⟨nf, znf, ls, rfl, hl, hnf, jnf, hP, hD, hS⟩ := hI
                  refine lv_istore (lv' := [(16, .int nf), (0, .ref hq), (1, .int a1), (2, .int a2), (3, .int a3), (4, .int a4), (5, .int a5), (6, .int a6), (7, .int a7), (8, .int v40), (9, .int lv), (10, .int ss), (11, .int v70), (12, .int v80), (13, .int v96), (14, .int v104), (15, .int fl)]) hx hb d_Search_siftPlaces_167 hl (by decide) rfl (fun ls hl => ?_)
                  refine w_cut (I := fun H' locs' g' => ∃ (fb : Int32) (zfb : Int) (ls : Array Slot), g' = F0 m 194 ls [.int fb] ∧ lv_has ls 18 [(0, .ref hq), (1, .int a1), (2, .int a2), (3, .int a3), (4, .int a4), (5, .int a5), (6, .int a6), (7, .int a7), (8, .int v40), (9, .int lv), (10, .int ss), (11, .int v70), (12, .int v80), (13, .int v96), (14, .int v104), (15, .int fl), (16, .int nf)] ∧ fb.toInt = zfb ∧ (zfb = 1 ∧ ((SX = 0 ∧ SY = 0) ∧ C < k ∧ zfl ≤ THD) ∨ zfb = 0 ∧ ¬ ((SX = 0 ∧ SY = 0) ∧ C < k ∧ zfl ≤ THD)) ∧ va_P (dC, dI) vwCl [(hq, .inr (3, [.ref hp, .ref hst, .int lim, .int thd, .int md, .int sz0, .int tm, .int a3, .int a4, .int u36_sx, .int u36_sy, .ref hqf, .ref hkn, .int stp])), (hp, .inr (0, [.int pw, .int ph, .ref hw, .ref hs, .int psr])), (hs, .inl (kS, 263169, .inl fs)), (hst, .inr (2, [.ref ak, .ref ar, .int cnt])), (ak, .inl (cK, 300, .inl kf)), (ar, .inl (cR, 300, .inl wf)), (hqf, .inl (cQ, 4, .inl qc)), (hkn, .inl (cN, 262144, .inr (.inl ke)))] H' ∧ va_D A [(hq, .inr (3, [.ref hp, .ref hst, .int lim, .int thd, .int md, .int sz0, .int tm, .int a3, .int a4, .int u36_sx, .int u36_sy, .ref hqf, .ref hkn, .int stp])), (hp, .inr (0, [.int pw, .int ph, .ref hw, .ref hs, .int psr])), (hs, .inl (kS, 263169, .inl fs)), (hst, .inr (2, [.ref ak, .ref ar, .int cnt])), (ak, .inl (cK, 300, .inl kf)), (ar, .inl (cR, 300, .inl wf)), (hqf, .inl (cQ, 4, .inl qc)), (hkn, .inl (cN, 262144, .inr (.inl ke)))] ∧ va_S A s.heap H' locs') ?_ ?_
                  · skip
                    intro H194 locs g' hI
                    obtain ⟨fb, zfb, ls, rfl, hl, hfb, jfo, hP, hD, hS⟩ := hI
                    refine lv_istore (lv' := [(17, .int fb), (0, .ref hq), (1, .int a1), (2, .int a2), (3, .int a3), (4, .int a4), (5, .int a5), (6, .int a6), (7, .int a7), (8, .int v40), (9, .int lv), (10, .int ss), (11, .int v70), (12, .int v80), (13, .int v96), (14, .int v104), (15, .int fl), (16, .int nf)]) hx hb d_Search_siftPlaces_194 hl (by decide) rfl (fun ls hl => ?_)
                    refine w_cut (I := fun H' locs' g' => ∃ (nl : Int32) (znl : Int) (qe : Nat → Int32) (ls : Array Slot), g' = F0 m 224 ls [.int nl] ∧ lv_has ls 18 [(0, .ref hq), (1, .int a1), (2, .int a2), (3, .int a3), (4, .int a4), (5, .int a5), (6, .int a6), (7, .int a7), (8, .int v40), (9, .int lv), (10, .int ss), (11, .int v70), (12, .int v80), (13, .int v96), (14, .int v104), (15, .int fl), (16, .int nf), (17, .int fb)] ∧ nl.toInt = znl ∧ (siI D LIM THD M V L T SX SY k Qs znl qe (zss.toNat + 1)) ∧ va_P (dC, dI) vwCl [(hq, .inr (3, [.ref hp, .ref hst, .int lim, .int thd, .int md, .int sz0, .int tm, .int a3, .int a4, .int u36_sx, .int u36_sy, .ref hqf, .ref hkn, .int stp])), (hp, .inr (0, [.int pw, .int ph, .ref hw, .ref hs, .int psr])), (hs, .inl (kS, 263169, .inl fs)), (hst, .inr (2, [.ref ak, .ref ar, .int cnt])), (ak, .inl (cK, 300, .inl kf)), (ar, .inl (cR, 300, .inl wf)), (hqf, .inl (cQ, 4, .inl qe)), (hkn, .inl (cN, 262144, .inr (.inl ke)))] H' ∧ va_D A [(hq, .inr (3, [.ref hp, .ref hst, .int lim, .int thd, .int md, .int sz0, .int tm, .int a3, .int a4, .int u36_sx, .int u36_sy, .ref hqf, .ref hkn, .int stp])), (hp, .inr (0, [.int pw, .int ph, .ref hw, .ref hs, .int psr])), (hs, .inl (kS, 263169, .inl fs)), (hst, .inr (2, [.ref ak, .ref ar, .int cnt])), (ak, .inl (cK, 300, .inl kf)), (ar, .inl (cR, 300, .inl wf)), (hqf, .inl (cQ, 4, .inl qe)), (hkn, .inl (cN, 262144, .inr (.inl ke)))] ∧ va_S A s.heap H' locs') ?_ ?_
                    · skip
                      intro H224 locs g' hI
                      obtain ⟨nl, znl, qe, ls, rfl, hl, hnl, inl, hP, hD, hS⟩ := hI
                      refine lv_istore (lv' := [(9, .int nl), (0, .ref hq), (1, .int a1), (2, .int a2), (3, .int a3), (4, .int a4), (5, .int a5), (6, .int a6), (7, .int a7), (8, .int v40), (10, .int ss), (11, .int v70), (12, .int v80), (13, .int v96), (14, .int v104), (15, .int fl), (16, .int nf), (17, .int fb)]) hx hb d_Search_siftPlaces_224 hl (by decide) rfl (fun ls hl => ?_)
                      obtain ⟨v226, e226⟩ : ∃ y : Int32, y = ss + 1 := ⟨_, rfl⟩
                      have h226 : v226.toInt = zss + 1 := by rw [e226]; exact ti_add hss (ti_k (by decide)) (by omega) (by omega)
                      refine lv_iinc (v := v226) (lv' := [(10, .int v226), (9, .int nl), (0, .ref hq), (1, .int a1), (2, .int a2), (3, .int a3), (4, .int a4), (5, .int a5), (6, .int a6), (7, .int a7), (8, .int v40), (11, .int v70), (12, .int v80), (13, .int v96), (14, .int v104), (15, .int fl), (16, .int nf), (17, .int fb)]) hx hb d_Search_siftPlaces_226 hl (k := 10) rfl (by rw [e226]; rfl) (by decide) rfl (fun ls hl => ?_)
                      refine lv_goto (tgt := 59) hx hb d_Search_siftPlaces_229 (by decide) ?_
                      have et : (zss + 1).toNat = zss.toNat + 1 := by omega
                      exact ih59 _ (by omega) _ _ _ ⟨nl, znl, v226, (zss + 1), qe, ke, ls, rfl, lv_sub hl [2, 3, 4, 5, 6, 7, 8, 9, 10, 1, 0] rfl, rfl, hnl, h226, by omega, by first | (rw [et]; exact si_skip i2 hk0 hk3 hQ kCt kWq no90) | (rw [et]; exact inl), by first | exact jkn | exact i3, hP, hD, hS⟩
                    · skip
                      intro hj224
                      refine lv_iload hx hb d_Search_siftPlaces_196 (lv_at hl 17 rfl) ?_
                      refine lv_if_ne (tgt := 206) hx hb d_Search_siftPlaces_198 (by decide) (fun c198 => ?_) (fun c198 => ?_)
                      · skip
                        have c198 : ¬ (znf = 0) := fun q => c198 ((ti_eq hnf (ti_k (by decide))).mpr q)
                        refine lv_iload hx hb d_Search_siftPlaces_206 (lv_at hl 10 rfl) ?_
                        refine lv_iload hx hb d_Search_siftPlaces_208 (lv_at hl 13 rfl) ?_
                        refine lv_iand hx hb d_Search_siftPlaces_210 ?_
                        refine lv_topi (fun v210 e210 => ?_)
                        obtain ⟨l210, h210, l210a, l210b, l210c⟩ := bt_only hlv h79 (by omega) (by omega) (by omega) (by omega)
                        rw [← e80, ← e210] at h210
                        refine lv_goto (tgt := 224) hx hb d_Search_siftPlaces_211 (by decide) ?_
                        exact hj224 _ _ _ ⟨v210, l210, qc, ls, rfl, lv_sub hl [1, 2, 3, 4, 5, 6, 7, 8, 9, 10, 11, 12, 13, 14, 15, 16, 17, 0] rfl, h210, si_drop i2 hk0 hk3 hQ kCt kWq l210a l210b l210c (why_no kWq (by omega) (by omega) jlow jex (by omega) (by omega)), hP, hD, hS⟩
                      · skip
                        have c198 : znf = 0 := (ti_eq hnf (ti_k (by decide))).mp c198
                        refine lv_iload hx hb d_Search_siftPlaces_201 (lv_at hl 0 rfl) ?_
                        refine lv_if_eq (tgt := 214) hx hb d_Search_siftPlaces_203 (by decide) (fun c203 => ?_) (fun c203 => ?_)
                        · skip
                          have c203 : zfb = 0 := (ti_eq hfb (ti_k (by decide))).mp c203
                          refine lv_aload_n hx hb d_Search_siftPlaces_214 rfl (lv_at hl 1 rfl) ?_
                          refine lv_iload hx hb d_Search_siftPlaces_215 (lv_at hl 12 rfl) ?_
                          refine lv_iload hx hb d_Search_siftPlaces_217 (lv_at hl 16 rfl) ?_
                          refine lv_iload hx hb d_Search_siftPlaces_219 (lv_at hl 10 rfl) ?_
                          have hPc := hP.sub (ws' := [(hq, .inr (3, [.ref hp, .ref hst, .int lim, .int thd, .int md, .int sz0, .int tm, .int a3, .int a4, .int u36_sx, .int u36_sy, .ref hqf, .ref hkn, .int stp])), (hqf, .inl (cQ, 4, .inl qc))]) [0, 6] rfl
                          have hKc := hK.sub (tys' := [(cQ, .int)]) [3] rfl
                          have hDc := hD.sub (ws' := [(hq, .inr (3, [.ref hp, .ref hst, .int lim, .int thd, .int md, .int sz0, .int tm, .int a3, .int a4, .int u36_sx, .int u36_sy, .ref hqf, .ref hkn, .int stp])), (hqf, .inl (cQ, 4, .inl qc))]) [0, 6] (by decide) rfl
                          have hFc := va_free (wc := [(hq, .inr (3, [.ref hp, .ref hst, .int lim, .int thd, .int md, .int sz0, .int tm, .int a3, .int a4, .int u36_sx, .int u36_sy, .ref hqf, .ref hkn, .int stp])), (hqf, .inl (cQ, 4, .inl qc))]) hD hS hA [0, 6] rfl
                          refine va_calli (va_runV (As := [.int v70, .int fl, .int lv]) (rest := []) ⟨hx, hb, hml, hown, hts⟩ (c_withCorner l dC dI H194.size hq hp hst hqf hkn lim thd md sz0 tm a3 a4 u36_sx u36_sy stp LIM hlim cQ qc v70 fl lv C zfl zlv h70 hfl hlv (by omega) (by omega) (by omega) (by omega) (by omega) (by omega) (fun q q0 q1 => by have := i2.2.2.2.2.2 q q0 q1; omega)) (aw_V 3 hts wd_464 wd_466 ws_19 wd_2 wd_467 rfl rfl (by decide +kernel) ⟨by dsimp only; omega, by dsimp only; omega⟩) ⟨rw_blind, va_recv hKc hPc (ci := 3) (q0 := 0) rfl rfl, rw_pre hPc hKc hDc⟩ rfl rfl hl.1 rfl (lv_room (Nat.le_of_ble_eq_true rfl)) d_Search_siftPlaces_221 ⟨by dsimp only; omega, by dsimp only; omega⟩) hS (fun q _ h => hFc q h) hFc (fun v221 u221_qf t9 H221 locs ht hvm h221 hB hz1 hk1 hS => ?_)
                          obtain ⟨hP1, _, hD1⟩ := hB
                          rw [ht] at hP1
                          try dsimp only at h221 hP1 hD1
                          obtain ⟨hP, hD⟩ := va_join (wr := [(hp, .inr (0, [.int pw, .int ph, .ref hw, .ref hs, .int psr])), (hs, .inl (kS, 263169, .inl fs)), (hst, .inr (2, [.ref ak, .ref ar, .int cnt])), (ak, .inl (cK, 300, .inl kf)), (ar, .inl (cR, 300, .inl wf)), (hkn, .inl (cN, 262144, .inr (.inl ke)))]) (w1 := [(hq, .inr (3, [.ref hp, .ref hst, .int lim, .int thd, .int md, .int sz0, .int tm, .int a3, .int a4, .int u36_sx, .int u36_sy, .ref hqf, .ref hkn, .int stp])), (hqf, .inl (cQ, 4, .inl u221_qf))]) hP hD [0, 6] [1, 2, 3, 4, 5, 7] rfl rfl (by decide) (by decide) hk1 hFc hP1 hD1
                          have hP := hP.sub (ws' := [(hq, .inr (3, [.ref hp, .ref hst, .int lim, .int thd, .int md, .int sz0, .int tm, .int a3, .int a4, .int u36_sx, .int u36_sy, .ref hqf, .ref hkn, .int stp])), (hp, .inr (0, [.int pw, .int ph, .ref hw, .ref hs, .int psr])), (hs, .inl (kS, 263169, .inl fs)), (hst, .inr (2, [.ref ak, .ref ar, .int cnt])), (ak, .inl (cK, 300, .inl kf)), (ar, .inl (cR, 300, .inl wf)), (hqf, .inl (cQ, 4, .inl u221_qf)), (hkn, .inl (cN, 262144, .inr (.inl ke)))]) [6, 0, 1, 2, 3, 4, 7, 5] rfl
                          have hD := hD.sub (ws' := [(hq, .inr (3, [.ref hp, .ref hst, .int lim, .int thd, .int md, .int sz0, .int tm, .int a3, .int a4, .int u36_sx, .int u36_sy, .ref hqf, .ref hkn, .int stp])), (hp, .inr (0, [.int pw, .int ph, .ref hw, .ref hs, .int psr])), (hs, .inl (kS, 263169, .inl fs)), (hst, .inr (2, [.ref ak, .ref ar, .int cnt])), (ak, .inl (cK, 300, .inl kf)), (ar, .inl (cR, 300, .inl wf)), (hqf, .inl (cQ, 4, .inl u221_qf)), (hkn, .inl (cN, 262144, .inr (.inl ke)))]) [6, 0, 1, 2, 3, 4, 7, 5] (by decide) rfl
                          clear hPc hKc hDc hFc ht hvm hz1 hk1 hP1 hD1
                          exact hj224 _ _ _ ⟨v221, v221.toInt, u221_qf, ls, rfl, lv_sub hl [1, 2, 3, 4, 5, 6, 7, 8, 9, 10, 11, 12, 13, 14, 15, 16, 17, 0] rfl, rfl, si_add i2 (by omega) V1 hk0 hk3 (by omega) kCt kWq (by omega) jlow jex (by omega) (by omega) (fun q1 q2 q3 => by omega) (fun q1 q2 q3 => by omega) (by rw [kWq]; exact h221.2.2.1) h221.1 h221.2.1 (by rw [kWq]; exact h221.2.2.2), hP, hD, hS⟩
                        · skip
                          have c203 : ¬ (zfb = 0) := fun q => c203 ((ti_eq hfb (ti_k (by decide))).mpr q)
                          refine lv_iload hx hb d_Search_siftPlaces_206 (lv_at hl 10 rfl) ?_
                          refine lv_iload hx hb d_Search_siftPlaces_208 (lv_at hl 13 rfl) ?_
                          refine lv_iand hx hb d_Search_siftPlaces_210 ?_
                          refine lv_topi (fun v210 e210 => ?_)
                          obtain ⟨l210, h210, l210a, l210b, l210c⟩ := bt_only hlv h79 (by omega) (by omega) (by omega) (by omega)
                          rw [← e80, ← e210] at h210
                          refine lv_goto (tgt := 224) hx hb d_Search_siftPlaces_211 (by decide) ?_
                          exact hj224 _ _ _ ⟨v210, l210, qc, ls, rfl, lv_sub hl [1, 2, 3, 4, 5, 6, 7, 8, 9, 10, 11, 12, 13, 14, 15, 16, 17, 0] rfl, h210, si_drop i2 hk0 hk3 hQ kCt kWq l210a l210b l210c (why_no kWq (by omega) (by omega) jlow jex (by omega) (by omega)), hP, hD, hS⟩
                  · skip
                    intro hj194
                    refine lv_iload hx hb d_Search_siftPlaces_169 (lv_at hl 9 rfl) ?_
                    refine lv_if_eq (tgt := 193) hx hb d_Search_siftPlaces_171 (by decide) (fun c171 => ?_) (fun c171 => ?_)
                    · skip
                      have c171 : ¬ (SX = 0 ∧ SY = 0) := bi_z h40 c171
                      refine lv_iconst (v := 0) hx hb d_Search_siftPlaces_193 (by decide) ?_
                      exact hj194 _ _ _ ⟨0, 0, ls, rfl, lv_sub hl [1, 2, 3, 4, 5, 6, 7, 8, 9, 10, 11, 12, 13, 14, 15, 16, 0] rfl, (ti_k (by decide)), by omega, hP, hD, hS⟩
                    · skip
                      have c171 : SX = 0 ∧ SY = 0 := bi_nz h40 c171
                      refine lv_iload hx hb d_Search_siftPlaces_174 (lv_at hl 12 rfl) ?_
                      refine lv_iload_n hx hb d_Search_siftPlaces_176 rfl (lv_at hl 2 rfl) ?_
                      refine lv_icmp_ge (tgt := 193) hx hb d_Search_siftPlaces_177 (by decide) (fun c177 => ?_) (fun c177 => ?_)
                      · skip
                        have c177 : k ≤ C := (ti_le g1 h70).mp c177
                        refine lv_iconst (v := 0) hx hb d_Search_siftPlaces_193 (by decide) ?_
                        exact hj194 _ _ _ ⟨0, 0, ls, rfl, lv_sub hl [1, 2, 3, 4, 5, 6, 7, 8, 9, 10, 11, 12, 13, 14, 15, 16, 0] rfl, (ti_k (by decide)), by omega, hP, hD, hS⟩
                      · skip
                        have c177 : ¬ (k ≤ C) := fun q => c177 ((ti_le g1 h70).mpr q)
                        refine lv_iload hx hb d_Search_siftPlaces_180 (lv_at hl 16 rfl) ?_
                        refine lv_aload_n hx hb d_Search_siftPlaces_182 rfl (lv_at hl 1 rfl) ?_
                        refine va_get (D := (dC, dI)) (ci := 3) (v := .int thd) (C := R_Search) (T := T_Search) (N := 14) hx hb hts i_Search hown hK hP 0 rfl rfl 3 (by decide) (hts _ wd_84) (fun _ h9 => h9) rfl d_Search_siftPlaces_183 ?_
                        refine lv_icmp_gt (tgt := 193) hx hb d_Search_siftPlaces_186 (by decide) (fun c186 => ?_) (fun c186 => ?_)
                        · skip
                          have c186 : THD < zfl := (ti_lt hthd hfl).mp c186
                          refine lv_iconst (v := 0) hx hb d_Search_siftPlaces_193 (by decide) ?_
                          exact hj194 _ _ _ ⟨0, 0, ls, rfl, lv_sub hl [1, 2, 3, 4, 5, 6, 7, 8, 9, 10, 11, 12, 13, 14, 15, 16, 0] rfl, (ti_k (by decide)), by omega, hP, hD, hS⟩
                        · skip
                          have c186 : ¬ (THD < zfl) := fun q => c186 ((ti_lt hthd hfl).mpr q)
                          refine lv_iconst (v := 1) hx hb d_Search_siftPlaces_189 (by decide) ?_
                          refine lv_goto (tgt := 194) hx hb d_Search_siftPlaces_190 (by decide) ?_
                          exact hj194 _ _ _ ⟨1, 1, ls, rfl, lv_sub hl [1, 2, 3, 4, 5, 6, 7, 8, 9, 10, 11, 12, 13, 14, 15, 16, 0] rfl, (ti_k (by decide)), by omega, hP, hD, hS⟩
                · skip
                  intro hj167
                  refine lv_iload hx hb d_Search_siftPlaces_148 (lv_at hl 11 rfl) ?_
                  refine lv_if_ne (tgt := 166) hx hb d_Search_siftPlaces_150 (by decide) (fun c150 => ?_) (fun c150 => ?_)
                  · skip
                    have c150 : ¬ (zss = 0) := fun q => c150 ((ti_eq hss (ti_k (by decide))).mpr q)
                    refine lv_iconst (v := 0) hx hb d_Search_siftPlaces_166 (by decide) ?_
                    exact hj167 _ _ _ ⟨0, 0, ls, rfl, lv_sub hl [1, 2, 3, 4, 5, 6, 7, 8, 9, 10, 11, 12, 13, 14, 15, 0] rfl, (ti_k (by decide)), by omega, hP, hD, hS⟩
                  · skip
                    have c150 : zss = 0 := (ti_eq hss (ti_k (by decide))).mp c150
                    refine lv_iload hx hb d_Search_siftPlaces_153 (lv_at hl 0 rfl) ?_
                    refine lv_aload_n hx hb d_Search_siftPlaces_155 rfl (lv_at hl 1 rfl) ?_
                    refine va_get (D := (dC, dI)) (ci := 3) (v := .int thd) (C := R_Search) (T := T_Search) (N := 14) hx hb hts i_Search hown hK hP 0 rfl rfl 3 (by decide) (hts _ wd_84) (fun _ h9 => h9) rfl d_Search_siftPlaces_156 ?_
                    refine lv_icmp_le (tgt := 166) hx hb d_Search_siftPlaces_159 (by decide) (fun c159 => ?_) (fun c159 => ?_)
                    · skip
                      have c159 : zfl ≤ THD := (ti_le hfl hthd).mp c159
                      refine lv_iconst (v := 0) hx hb d_Search_siftPlaces_166 (by decide) ?_
                      exact hj167 _ _ _ ⟨0, 0, ls, rfl, lv_sub hl [1, 2, 3, 4, 5, 6, 7, 8, 9, 10, 11, 12, 13, 14, 15, 0] rfl, (ti_k (by decide)), by omega, hP, hD, hS⟩
                    · skip
                      have c159 : ¬ (zfl ≤ THD) := fun q => c159 ((ti_le hfl hthd).mpr q)
                      refine lv_iconst (v := 1) hx hb d_Search_siftPlaces_162 (by decide) ?_
                      refine lv_goto (tgt := 167) hx hb d_Search_siftPlaces_163 (by decide) ?_
                      exact hj167 _ _ _ ⟨1, 1, ls, rfl, lv_sub hl [1, 2, 3, 4, 5, 6, 7, 8, 9, 10, 11, 12, 13, 14, 15, 0] rfl, (ti_k (by decide)), by omega, hP, hD, hS⟩
              · skip
                intro hj146
                refine lv_iload hx hb d_Search_siftPlaces_109 (lv_at hl 12 rfl) ?_
                refine lv_if_eq (tgt := 127) hx hb d_Search_siftPlaces_111 (by decide) (fun c111 => ?_) (fun c111 => ?_)
                · skip
                  have c111 : ¬ (SX = 0 ∧ SY = 0) := bi_z h40 c111
                  refine lv_aload_n hx hb d_Search_siftPlaces_127 rfl (lv_at hl 4 rfl) ?_
                  refine lv_iload hx hb d_Search_siftPlaces_128 (lv_at hl 1 rfl) ?_
                  refine lv_iload hx hb d_Search_siftPlaces_130 (lv_at hl 0 rfl) ?_
                  have hPc := hP.sub (ws' := [(hq, .inr (3, [.ref hp, .ref hst, .int lim, .int thd, .int md, .int sz0, .int tm, .int a3, .int a4, .int u36_sx, .int u36_sy, .ref hqf, .ref hkn, .int stp])), (hp, .inr (0, [.int pw, .int ph, .ref hw, .ref hs, .int psr])), (hs, .inl (kS, 263169, .inl fs))]) [0, 1, 2] rfl
                  have hKc := hK.sub (tys' := [(kS, .int)]) [0] rfl
                  refine va_calli (va_runV (As := [.int v96, .int v104]) (rest := []) ⟨hx, hb, hml, hown, hts⟩ (c_finderFloor l dC dI hq hp hw hs hst hqf hkn kS pw ph psr lim thd md sz0 tm a3 a4 u36_sx u36_sy stp fs Wd Ht M S L T SX SY D hpw hph hmd hsz0 g3 g4 hsx hsy hB hsum v96 v104 (fX L M S C) (fY T M S C) h96 h104 (by omega) (by omega) (by omega) (by omega)) (aw_V 2 hts wd_406 wd_408 ws_8 wd_2 wd_409 rfl rfl (by decide +kernel) ⟨by dsimp only; omega, by dsimp only; omega⟩) ⟨ro_blind, va_recv hKc hPc (ci := 3) (q0 := 0) rfl rfl, ro_pre hPc hKc⟩ rfl rfl hl.1 rfl (lv_room (Nat.le_of_ble_eq_true rfl)) d_Search_siftPlaces_132 ⟨Nat.le_of_ble_eq_true rfl, Nat.le_of_ble_eq_true rfl⟩) hS (fun q _ h => h.elim) (fun q h => h.elim) (fun v132 _ t9 H132 locs ht hvm h132 hB hz1 hk1 hS => ?_)
                  have hP := ro_keep hP hk1
                  clear hPc hKc ht hvm hB hz1 hk1
                  refine lv_aload_n hx hb d_Search_siftPlaces_135 rfl (lv_at hl 4 rfl) ?_
                  refine lv_iload hx hb d_Search_siftPlaces_136 (lv_at hl 3 rfl) ?_
                  refine lv_iload hx hb d_Search_siftPlaces_138 (lv_at hl 1 rfl) ?_
                  refine lv_iload hx hb d_Search_siftPlaces_140 (lv_at hl 0 rfl) ?_
                  have hPc := hP.sub (ws' := [(hq, .inr (3, [.ref hp, .ref hst, .int lim, .int thd, .int md, .int sz0, .int tm, .int a3, .int a4, .int u36_sx, .int u36_sy, .ref hqf, .ref hkn, .int stp])), (hp, .inr (0, [.int pw, .int ph, .ref hw, .ref hs, .int psr])), (hs, .inl (kS, 263169, .inl fs))]) [0, 1, 2] rfl
                  have hKc := hK.sub (tys' := [(kS, .int)]) [0] rfl
                  refine va_calli (va_runV (As := [.int v70, .int v96, .int v104]) (rest := [.int v132]) ⟨hx, hb, hml, hown, hts⟩ (c_borderFloor l dC dI hq hp hw hs hst hqf hkn kS pw ph psr lim thd md sz0 tm a3 a4 u36_sx u36_sy stp fs Wd Ht M S L T SX SY D hpw hph hmd hsz0 g3 g4 hsx hsy hB hsum v70 C h70 (by omega) (by omega) (by omega) v96 v104 (fX L M S C) (fY T M S C) h96 h104 (by omega) (by omega) (fun q => by have := f96 q; omega) (fun q => by have := f104 q; omega) (by omega) (by omega) (fun q => by have := n96 q; omega) (fun q => by have := n104 q; omega)) (aw_V 3 hts wd_460 wd_462 ws_18 wd_2 wd_463 rfl rfl (by decide +kernel) ⟨by dsimp only; omega, by dsimp only; omega⟩) ⟨ro_blind, va_recv hKc hPc (ci := 3) (q0 := 0) rfl rfl, ro_pre hPc hKc⟩ rfl rfl hl.1 rfl (lv_room (Nat.le_of_ble_eq_true rfl)) d_Search_siftPlaces_142 ⟨Nat.le_of_ble_eq_true rfl, Nat.le_of_ble_eq_true rfl⟩) hS (fun q _ h => h.elim) (fun q h => h.elim) (fun v142 _ t9 H142 locs ht hvm h142 hB hz1 hk1 hS => ?_)
                  have hP := ro_keep hP hk1
                  clear hPc hKc ht hvm hB hz1 hk1
                  have w142 := fl_low (S := S) (by omega) h132.1 h142.1
                  have x132 := h132.2
                  have x142 := h142.2
                  rw [hV] at w142
                  refine lv_iadd hx hb d_Search_siftPlaces_145 ?_
                  refine lv_topi (fun v145 e145 => ?_)
                  have h145 : v145.toInt = v132.toInt + v142.toInt := by rw [e145]; exact ti_add rfl rfl (by omega) (by omega)
                  exact hj146 _ _ _ ⟨v145, (v132.toInt + v142.toInt), kc, ls, rfl, lv_sub hl [4, 5, 6, 7, 8, 9, 10, 11, 12, 13, 14, 3, 2, 1, 0] rfl, h145, w142, fun q1 q2 => absurd ⟨q1, q2⟩ c111, by omega, i3, hP, hD, hS⟩
                · skip
                  have c111 : SX = 0 ∧ SY = 0 := bi_nz h40 c111
                  refine lv_aload_n hx hb d_Search_siftPlaces_114 rfl (lv_at hl 4 rfl) ?_
                  refine lv_iload hx hb d_Search_siftPlaces_115 (lv_at hl 3 rfl) ?_
                  refine lv_iload hx hb d_Search_siftPlaces_117 (lv_at hl 1 rfl) ?_
                  refine lv_iload hx hb d_Search_siftPlaces_119 (lv_at hl 0 rfl) ?_
                  have hPc := hP.sub (ws' := [(hq, .inr (3, [.ref hp, .ref hst, .int lim, .int thd, .int md, .int sz0, .int tm, .int a3, .int a4, .int u36_sx, .int u36_sy, .ref hqf, .ref hkn, .int stp])), (hp, .inr (0, [.int pw, .int ph, .ref hw, .ref hs, .int psr])), (hs, .inl (kS, 263169, .inl fs)), (hkn, .inl (cN, 262144, .inr (.inl kc)))]) [0, 1, 2, 7] rfl
                  have hKc := hK.sub (tys' := [(kS, .int), (cN, .long)]) [0, 4] rfl
                  have hDc := hD.sub (ws' := [(hq, .inr (3, [.ref hp, .ref hst, .int lim, .int thd, .int md, .int sz0, .int tm, .int a3, .int a4, .int u36_sx, .int u36_sy, .ref hqf, .ref hkn, .int stp])), (hp, .inr (0, [.int pw, .int ph, .ref hw, .ref hs, .int psr])), (hs, .inl (kS, 263169, .inl fs)), (hkn, .inl (cN, 262144, .inr (.inl kc)))]) [0, 1, 2, 7] (by decide) rfl
                  have hFc := va_free (wc := [(hq, .inr (3, [.ref hp, .ref hst, .int lim, .int thd, .int md, .int sz0, .int tm, .int a3, .int a4, .int u36_sx, .int u36_sy, .ref hqf, .ref hkn, .int stp])), (hp, .inr (0, [.int pw, .int ph, .ref hw, .ref hs, .int psr])), (hs, .inl (kS, 263169, .inl fs)), (hkn, .inl (cN, 262144, .inr (.inl kc)))]) hD hS hA [0, 1, 2, 7] rfl
                  refine va_calli (va_runV (As := [.int v70, .int v96, .int v104]) (rest := []) ⟨hx, hb, hml, hown, hts⟩ (c_cornerWrong l dC dI H104.size hq hp hw hs hst hqf hkn kS pw ph psr lim thd md sz0 tm a3 a4 u36_sx u36_sy stp fs Wd Ht M S D hpw hph hmd hsz0 hW1 hW2 hH1 hH2 hM1 hM2 hsum cN kc ST hst0 hst1 hst2 i3 v70 v96 v104 C (fX L M S C) (fY T M S C) h70 h96 h104 (by omega) (by omega) (by omega) (by omega) (by omega) (by omega)) (aw_V 3 hts wd_435 wd_437 ws_14 wd_2 wd_438 rfl rfl (by decide +kernel) ⟨by dsimp only; omega, by dsimp only; omega⟩) ⟨rw_blind, va_recv hKc hPc (ci := 3) (q0 := 0) rfl rfl, rw_pre hPc hKc hDc⟩ rfl rfl hl.1 rfl (lv_room (Nat.le_of_ble_eq_true rfl)) d_Search_siftPlaces_121 ⟨by dsimp only; omega, by dsimp only; omega⟩) hS (fun q _ h => hFc q h) hFc (fun v121 u121_kn t9 H121 locs ht hvm h121 hB hz1 hk1 hS => ?_)
                  obtain ⟨hP1, _, hD1⟩ := hB
                  rw [ht] at hP1
                  try dsimp only at h121 hP1 hD1
                  obtain ⟨hP, hD⟩ := va_join (wr := [(hst, .inr (2, [.ref ak, .ref ar, .int cnt])), (ak, .inl (cK, 300, .inl kf)), (ar, .inl (cR, 300, .inl wf)), (hqf, .inl (cQ, 4, .inl qc))]) (w1 := [(hq, .inr (3, [.ref hp, .ref hst, .int lim, .int thd, .int md, .int sz0, .int tm, .int a3, .int a4, .int u36_sx, .int u36_sy, .ref hqf, .ref hkn, .int stp])), (hp, .inr (0, [.int pw, .int ph, .ref hw, .ref hs, .int psr])), (hs, .inl (kS, 263169, .inl fs)), (hkn, .inl (cN, 262144, .inr (.inl u121_kn)))]) hP hD [0, 1, 2, 7] [3, 4, 5, 6] rfl rfl (by decide) (by decide) hk1 hFc hP1 hD1
                  have hP := hP.sub (ws' := [(hq, .inr (3, [.ref hp, .ref hst, .int lim, .int thd, .int md, .int sz0, .int tm, .int a3, .int a4, .int u36_sx, .int u36_sy, .ref hqf, .ref hkn, .int stp])), (hp, .inr (0, [.int pw, .int ph, .ref hw, .ref hs, .int psr])), (hs, .inl (kS, 263169, .inl fs)), (hst, .inr (2, [.ref ak, .ref ar, .int cnt])), (ak, .inl (cK, 300, .inl kf)), (ar, .inl (cR, 300, .inl wf)), (hqf, .inl (cQ, 4, .inl qc)), (hkn, .inl (cN, 262144, .inr (.inl u121_kn)))]) [4, 5, 6, 0, 1, 2, 3, 7] rfl
                  have hD := hD.sub (ws' := [(hq, .inr (3, [.ref hp, .ref hst, .int lim, .int thd, .int md, .int sz0, .int tm, .int a3, .int a4, .int u36_sx, .int u36_sy, .ref hqf, .ref hkn, .int stp])), (hp, .inr (0, [.int pw, .int ph, .ref hw, .ref hs, .int psr])), (hs, .inl (kS, 263169, .inl fs)), (hst, .inr (2, [.ref ak, .ref ar, .int cnt])), (ak, .inl (cK, 300, .inl kf)), (ar, .inl (cR, 300, .inl wf)), (hqf, .inl (cQ, 4, .inl qc)), (hkn, .inl (cN, 262144, .inr (.inl u121_kn)))]) [4, 5, 6, 0, 1, 2, 3, 7] (by decide) rfl
                  clear hPc hKc hDc hFc ht hvm hz1 hk1 hP1 hD1
                  have w121 := cw_low (SX := SX) (SY := SY) (by omega) (show 21 ≤ S by omega) (by omega) (by omega) hl0 ht0 (by omega) (by omega) c111.1 c111.2 h121.1
                  have x121 := cwR_b (D := D) (W := Wd) (H := Ht) (M := M) (c := C) (x := fX L M S C) (y := fY T M S C) (by omega)
                  rw [hV] at w121
                  refine lv_goto (tgt := 146) hx hb d_Search_siftPlaces_124 (by decide) ?_
                  exact hj146 _ _ _ ⟨v121, (cwR D Wd Ht M C (fX L M S C) (fY T M S C)), u121_kn, ls, rfl, lv_sub hl [4, 5, 6, 7, 8, 9, 10, 11, 12, 13, 14, 3, 2, 1, 0] rfl, h121.1, w121.1, fun _ _ => w121.2, by omega, h121.2, hP, hD, hS⟩
        · skip
          have c24 : ¬ (T ≤ BO) := fun q => c24 ((ti_le g4 g6).mpr q)
          have hpost : SR D AL (orF F (tgP D LIM THD M V k Qs L T RR BO)) tm kf wf (cnt : Int32).toInt ∧ KN D M ST kn := by
            refine ⟨?_, hkn0⟩
            rw [hcnt]
            first | exact SR_done hSR c4 | exact SR_congr hSR (fun _ _ _ _ _ => or_out (by omega)) | exact absurd c11 (by omega)
          have hP9 := hP.sub (ws' := [(hq, .inr (3, [.ref hp, .ref hst, .int lim, .int thd, .int md, .int sz0, .int tm, .int tx, .int ty, .int sx, .int sy, .ref hqf, .ref hkn, .int stp])), (hp, .inr (0, [.int pw, .int ph, .ref hw, .ref hs, .int psr])), (hs, .inl (kS, 263169, .inl fs)), (hst, .inr (2, [.ref ak, .ref ar, .int cnt])), (ak, .inl (cK, 300, .inl kf)), (ar, .inl (cR, 300, .inl wf)), (hqf, .inl (cQ, 4, .inl qf)), (hkn, .inl (cN, 262144, .inr (.inl kn)))]) [0, 1, 2, 3, 4, 5, 6, 7] rfl
          have hD9 := hD.sub (ws' := [(hq, .inr (3, [.ref hp, .ref hst, .int lim, .int thd, .int md, .int sz0, .int tm, .int tx, .int ty, .int sx, .int sy, .ref hqf, .ref hkn, .int stp])), (hp, .inr (0, [.int pw, .int ph, .ref hw, .ref hs, .int psr])), (hs, .inl (kS, 263169, .inl fs)), (hst, .inr (2, [.ref ak, .ref ar, .int cnt])), (ak, .inl (cK, 300, .inl kf)), (ar, .inl (cR, 300, .inl wf)), (hqf, .inl (cQ, 4, .inl qf)), (hkn, .inl (cN, 262144, .inr (.inl kn)))]) [0, 1, 2, 3, 4, 5, 6, 7] (by decide) rfl
          have hK9 := hK.sub (tys' := [(kS, .int), (cK, .int), (cR, .int), (cQ, .int), (cN, .long)]) [0, 1, 2, 3, 4] rfl
          exact W.vret hx hb hr (fun t ht hW => ⟨⟨(tm, tx, ty, sx, sy, cnt, kf, wf, qf, kn), rfl, hpost, by rw [ht]; exact hP9, va_K.moved hW.alike hK9, hD9⟩, hS.F ht⟩) hS.2.2 d_Search_siftPlaces_27
set_option maxHeartbeats 4000000 in
set_option maxRecDepth 100000 in
theorem c_siftPlaces : ∀ (d : Nat) (l : Launch) (dC : Nat → ClassId) (dI : Nat → Nat → Nat) (sz : Nat) (hq hp hw hs hst hqf hkn : Nat) (kS : ClassId) (pw ph psr lim thd md sz0 tm tx ty sx sy stp : Int32) (fs : Nat → Int32) (Wd Ht M S : Int) (D : Int → Int → Bool) (hpw : pw.toInt = Wd) (hph : ph.toInt = Ht) (hmd : md.toInt = M) (hsz0 : sz0.toInt = S) (hW1 : 1 ≤ Wd) (hW2 : Wd ≤ 512) (hH1 : 1 ≤ Ht) (hH2 : Ht ≤ 512) (hM1 : 1 ≤ M) (hM2 : M ≤ 16) (hsum : ∀ x y, 0 ≤ x → x ≤ Wd → 0 ≤ y → y ≤ Ht → (fs (y * 513 + x).toNat).toInt = cI D 0 0 x y) (cN : ClassId) (kn : Nat → Int64) (ST : Int) (hst0 : stp.toInt = ST) (hst1 : 0 ≤ ST) (hst2 : ST < 8388608) (hkn0 : KN D M ST kn) (LIM : Int) (hlim : lim.toInt = LIM) (hL0 : 0 ≤ LIM) (hL1 : LIM ≤ 500) (V : Int) (hV : S = 17 + 4 * V) (V1 : 1 ≤ V) (V2 : V ≤ 40) (THD : Int) (hthd : thd.toInt = THD) (hTHD : THD = LIM / 3) (ak ar : Nat) (cK cR : ClassId) (cnt : Int32) (kf wf : Nat → Int32) (nc : Int) (hcnt : cnt.toInt = nc) (AL F : Int → Int → Int → Int → Int → Prop) (hSR : SR D AL F tm kf wf nc) (cQ : ClassId) (qf : Nat → Int32) (a1 a2 a3 a4 a5 a6 a7 : Int32) (k Qs L T RR BO DEP : Int) (g1 : a1.toInt = k) (g2 : a2.toInt = Qs) (g3 : a3.toInt = L) (g4 : a4.toInt = T) (g5 : a5.toInt = RR) (g6 : a6.toInt = BO) (g7 : a7.toInt = DEP) (hk0 : 0 ≤ k) (hk3 : k ≤ 3) (Q0 : 0 ≤ Qs) (Q1 : Qs < 16) (hQ : bt Qs ((k + 2) % 4) = false) (hl0 : 0 ≤ L) (ht0 : 0 ≤ T) (hr0 : RR + S * M ≤ Wd) (hb0 : BO + S * M ≤ Ht) (d0 : 0 ≤ DEP) (d1 : DEP + (d : Nat) ≤ 10) (dx : RR - L < ((2 ^ d : Nat) : Int)) (dy : BO - T < ((2 ^ d : Nat) : Int)) (hAL : ∀ x y m v q, F x y m v q → AL x y m v q) (hdis : ∀ x y m v q, tgP D LIM THD M V k Qs L T RR BO x y m v q → AL x y m v q ∧ ¬ F x y m v q),  Met l y_Search_siftPlaces (.code y_Search_siftPlaces b_Search_siftPlaces 18 none :: allw) ({ frames := 3 + d, cells := 0, slots := 0, locals := 82 + d * 37 }) (va_Pc [.ref hq, .int a1, .int a2, .int a3, .int a4, .int a5, .int a6, .int a7] (rw_B (dC, dI) vwCl [(hq, .inr (3, [.ref hp, .ref hst, .int lim, .int thd, .int md, .int sz0, .int tm, .int tx, .int ty, .int sx, .int sy, .ref hqf, .ref hkn, .int stp])), (hp, .inr (0, [.int pw, .int ph, .ref hw, .ref hs, .int psr])), (hs, .inl (kS, 263169, .inl fs)), (hst, .inr (2, [.ref ak, .ref ar, .int cnt])), (ak, .inl (cK, 300, .inl kf)), (ar, .inl (cR, 300, .inl wf)), (hqf, .inl (cQ, 4, .inl qf)), (hkn, .inl (cN, 262144, .inr (.inl kn)))] [(kS, .int), (cK, .int), (cR, .int), (cQ, .int), (cN, .long)] sz)) (va_Qv (fun (u : Int32 × Int32 × Int32 × Int32 × Int32 × Int32 × (Nat → Int32) × (Nat → Int32) × (Nat → Int32) × (Nat → Int64)) => SR D AL (orF F (tgP D LIM THD M V k Qs L T RR BO)) u.1 u.2.2.2.2.2.2.1 u.2.2.2.2.2.2.2.1 (u.2.2.2.2.2.1 : Int32).toInt ∧ KN D M ST u.2.2.2.2.2.2.2.2.2) (fun u t => rw_E (dC, dI) vwCl [(hq, .inr (3, [.ref hp, .ref hst, .int lim, .int thd, .int md, .int sz0, .int u.1, .int u.2.1, .int u.2.2.1, .int u.2.2.2.1, .int u.2.2.2.2.1, .ref hqf, .ref hkn, .int stp])), (hp, .inr (0, [.int pw, .int ph, .ref hw, .ref hs, .int psr])), (hs, .inl (kS, 263169, .inl fs)), (hst, .inr (2, [.ref ak, .ref ar, .int u.2.2.2.2.2.1])), (ak, .inl (cK, 300, .inl u.2.2.2.2.2.2.1)), (ar, .inl (cR, 300, .inl u.2.2.2.2.2.2.2.1)), (hqf, .inl (cQ, 4, .inl u.2.2.2.2.2.2.2.2.1)), (hkn, .inl (cN, 262144, .inr (.inl u.2.2.2.2.2.2.2.2.2)))] [(kS, .int), (cK, .int), (cR, .int), (cQ, .int), (cN, .long)] (va_A [(hq, .inr (3, [.ref hp, .ref hst, .int lim, .int thd, .int md, .int sz0, .int tm, .int tx, .int ty, .int sx, .int sy, .ref hqf, .ref hkn, .int stp])), (hp, .inr (0, [.int pw, .int ph, .ref hw, .ref hs, .int psr])), (hs, .inl (kS, 263169, .inl fs)), (hst, .inr (2, [.ref ak, .ref ar, .int cnt])), (ak, .inl (cK, 300, .inl kf)), (ar, .inl (cR, 300, .inl wf)), (hqf, .inl (cQ, 4, .inl qf)), (hkn, .inl (cN, 262144, .inr (.inl kn)))] sz) t) (va_A [(hq, .inr (3, [.ref hp, .ref hst, .int lim, .int thd, .int md, .int sz0, .int tm, .int tx, .int ty, .int sx, .int sy, .ref hqf, .ref hkn, .int stp])), (hp, .inr (0, [.int pw, .int ph, .ref hw, .ref hs, .int psr])), (hs, .inl (kS, 263169, .inl fs)), (hst, .inr (2, [.ref ak, .ref ar, .int cnt])), (ak, .inl (cK, 300, .inl kf)), (ar, .inl (cR, 300, .inl wf)), (hqf, .inl (cQ, 4, .inl qf)), (hkn, .inl (cN, 262144, .inr (.inl kn)))] sz)) 0 0 (va_A [(hq, .inr (3, [.ref hp, .ref hst, .int lim, .int thd, .int md, .int sz0, .int tm, .int tx, .int ty, .int sx, .int sy, .ref hqf, .ref hkn, .int stp])), (hp, .inr (0, [.int pw, .int ph, .ref hw, .ref hs, .int psr])), (hs, .inl (kS, 263169, .inl fs)), (hst, .inr (2, [.ref ak, .ref ar, .int cnt])), (ak, .inl (cK, 300, .inl kf)), (ar, .inl (cR, 300, .inl wf)), (hqf, .inl (cQ, 4, .inl qf)), (hkn, .inl (cN, 262144, .inr (.inl kn)))] sz) := by
  intro d
  induction d with
  | zero => exact c_siftPlaces_s 0 (fun _ h => absurd h (by omega))
  | succ d h => exact c_siftPlaces_s (d + 1) (fun d2 e => by
      have e2 : d = d2 := by omega
      subst e2; exact h)
