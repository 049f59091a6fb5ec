/-! one call on both sides: the same answer, and both sides agree behind it -/
theorem iS_mv {Wd Ht : Int} {D D' : Int → Int → Bool} {pw ph psr psr' mw mh : Int32} {fw fw' : Nat → Int64} {fs fd fd' fu : Nat → Int32} (h : iS Wd Ht D pw ph psr mw mh fw fs fd fu) (hb : bOK fw' D') (hd : dOK fd' D') (hs : ∀ x y, D' x y = true → 0 ≤ x ∧ x < Wd ∧ 0 ≤ y ∧ y < Ht) (h0 : 0 ≤ psr'.toInt) (h1 : psr'.toInt ≤ psr.toInt) (hk : sK fs D' Wd psr'.toInt) : iS Wd Ht D' pw ph psr' mw mh fw' fs fd' fu :=
  ⟨h.1, h.2.1, hb, hd, hs, ⟨h0, Int.le_trans h1 h.2.2.2.2.2.1.2⟩, hk, h.2.2.2.2.2.2.2.1, h.2.2.2.2.2.2.2.2⟩
theorem iS_fd {Wd Ht : Int} {D : Int → Int → Bool} {pw ph psr mw mh : Int32} {fw : Nat → Int64} {fs fd fd' fu : Nat → Int32} (h : iS Wd Ht D pw ph psr mw mh fw fs fd fu) (hd : dOK fd' D) : iS Wd Ht D pw ph psr mw mh fw fs fd' fu :=
  ⟨h.1, h.2.1, h.2.2.1, hd, h.2.2.2.2⟩
theorem st_sheet {Wd Ht : Int} {D : Int → Int → Bool} {pw ph psr mw mh : Int32} {fw fw' : Nat → Int64} {fs fd fd' fu kg wg ff : Nat → Int32} {cnt cnt2 msd mmn a1 a2 r pw' ph' psr' cnt' cnt2' mth' mw' mh' msd' mmn' : Int32}
    (hS : iS Wd Ht D pw ph psr mw mh fw fs fd fu) (hV : iV Wd Ht cnt cnt2 msd mmn kg wg ff)
    (h1 : (r = (1 : Int32) ∧ ¬ (1 ≤ a1.toInt ∧ a1.toInt ≤ 512 ∧ 1 ≤ a2.toInt ∧ a2.toInt ≤ 512) ∧ pw' = pw ∧ ph' = ph ∧ psr' = psr ∧ fw' = fw ∧ cnt' = cnt ∧ cnt2' = cnt2) ∨ (r = (0 : Int32) ∧ (1 ≤ a1.toInt ∧ a1.toInt ≤ 512 ∧ 1 ≤ a2.toInt ∧ a2.toInt ≤ 512) ∧ pw' = a1 ∧ ph' = a2 ∧ psr' = (0 : Int32) ∧ (∀ i : Nat, i < 4096 → fw' i = 0) ∧ cnt' = (0 : Int32) ∧ cnt2' = (0 : Int32)))
    (h2 : (¬ (1 ≤ a1.toInt ∧ a1.toInt ≤ 512 ∧ 1 ≤ a2.toInt ∧ a2.toInt ≤ 512) ∧ (mth', mw', mh', fd', msd', mmn') = ((1 : Int32), mw, mh, fd, msd, mmn)) ∨ ((1 ≤ a1.toInt ∧ a1.toInt ≤ 512 ∧ 1 ≤ a2.toInt ∧ a2.toInt ≤ 512) ∧ mth' = 0 ∧ mw' = a1 ∧ mh' = a2 ∧ (∀ i, i < 262144 → fd' i = 0) ∧ msd' = 0 ∧ mmn' = 0)) :
    mth' = r ∧ ∃ Wd' Ht' D', iS Wd' Ht' D' pw' ph' psr' mw' mh' fw' fs fd' fu ∧ iV Wd' Ht' cnt' cnt2' msd' mmn' kg wg ff := by
  rcases h1 with ⟨rfl, no, rfl, rfl, rfl, rfl, rfl, rfl⟩ | ⟨rfl, ok, rfl, rfl, rfl, z1, rfl, rfl⟩
  · rcases h2 with ⟨-, e⟩ | ⟨ok, -⟩
    · simp only [Prod.mk.injEq] at e
      obtain ⟨rfl, rfl, rfl, rfl, rfl, rfl⟩ := e
      exact ⟨rfl, Wd, Ht, D, hS, hV⟩
    · exact absurd ok no
  · rcases h2 with ⟨no, -⟩ | ⟨-, rfl, rfl, rfl, z2, rfl, rfl⟩
    · exact absurd ok no
    · exact ⟨rfl, _, _, _, iS_0 rfl rfl ok z1 z2 hS.2.2.2.2.2.2.2.1 hS.2.2.2.2.2.2.2.2, iV_0⟩
theorem st_turn {Wd Ht x y : Int} {a3 : Int64} {D : Int → Int → Bool} {pw ph psr psr' mw mh r rb : Int32} {fw fw' : Nat → Int64} {fs fd fd' fu : Nat → Int32} (hS : iS Wd Ht D pw ph psr mw mh fw fs fd fu)
    (h1 : r.toInt = nb (flF Wd Ht x y a3) 64 ∧ bOK fw' (flD D Wd Ht x y a3 64) ∧ 0 ≤ (psr' : Int32).toInt ∧ (psr' : Int32).toInt ≤ psr.toInt ∧ sK fs (flD D Wd Ht x y a3 64) Wd (psr' : Int32).toInt)
    (h2 : rb.toInt = nb (flF Wd Ht x y a3) 64 ∧ dOK fd' (flD D Wd Ht x y a3 64)) : r = rb ∧ iS Wd Ht (flD D Wd Ht x y a3 64) pw ph psr' mw mh fw' fs fd' fu :=
  ⟨(ti_eq h1.1 h2.1).mpr rfl, iS_mv hS h1.2.1 h2.2 (fl_sup hS.2.2.2.2.1) h1.2.2.1 h1.2.2.2.1 h1.2.2.2.2⟩
theorem st_fill {Wd Ht x y w h : Int} {ib : Bool} {D : Int → Int → Bool} {pw ph psr psr' mw mh mth' r rb : Int32} {fw fw' fo fo' : Nat → Int64} {fs fd fd' fu : Nat → Int32} (hS : iS Wd Ht D pw ph psr mw mh fw fs fd fu)
    (h1 : (r = (1 : Int32) ∧ (¬ (1 ≤ w ∧ w ≤ 512 ∧ 1 ≤ h ∧ h ≤ 512)) ∧ fw' = fw ∧ psr' = psr ∧ fo' = fo) ∨ (r = (0 : Int32) ∧ ∃ v : Int32, fo' 0 = v.toInt64 ∧ (1 ≤ w ∧ w ≤ 512 ∧ 1 ≤ h ∧ h ≤ 512) ∧ v.toInt = cI (fiN D x y w h ib) 0 0 Wd Ht ∧ bOK fw' (pF D (fiE D x y w h ib) 0 0 Wd Ht 0) ∧ 0 ≤ (psr' : Int32).toInt ∧ (psr' : Int32).toInt ≤ psr.toInt ∧ sK fs (pF D (fiE D x y w h ib) 0 0 Wd Ht 0) Wd (psr' : Int32).toInt))
    (h2 : (¬ (1 ≤ w ∧ w ≤ 512 ∧ 1 ≤ h ∧ h ≤ 512) ∧ rb.toInt = 0 ∧ mth' = 1 ∧ dOK fd' D) ∨ ((1 ≤ w ∧ w ≤ 512 ∧ 1 ≤ h ∧ h ≤ 512) ∧ rb.toInt = cI (fiN D x y w h ib) 0 0 Wd Ht ∧ mth' = 0 ∧ dOK fd' (pF D (fiE D x y w h ib) 0 0 Wd Ht 0))) :
    mth' = r ∧ (r = 0 → fo' 0 = rb.toInt64) ∧ ∃ D', iS Wd Ht D' pw ph psr' mw mh fw' fs fd' fu := by
  rcases h1 with ⟨rfl, no, rfl, rfl, rfl⟩ | ⟨rfl, v, e, ok, ev, b, s0, s1, sk⟩
  · rcases h2 with ⟨-, -, rfl, d⟩ | ⟨ok, -⟩
    · exact ⟨rfl, fun q => absurd q (by decide), D, iS_fd hS d⟩
    · exact absurd ok no
  · rcases h2 with ⟨no, -⟩ | ⟨-, er, rfl, d⟩
    · exact absurd ok no
    · have ee : v = rb := (ti_eq ev er).mpr rfl
      subst ee
      exact ⟨rfl, fun _ => e, _, iS_mv hS b d (fi_sup hS.2.2.2.2.1) s0 s1 sk⟩
theorem st_draw {Wd Ht x y PL : Int} {D : Int → Int → Bool} {pw ph psr psr' mw mh mth' r rb : Int32} {fw fw' fo fo' : Nat → Int64} {fs fd fd' fu : Nat → Int32} (hS : iS Wd Ht D pw ph psr mw mh fw fs fd fu)
    (h1 : (r = (1 : Int32) ∧ (¬ drOK Wd Ht x y PL) ∧ fw' = fw ∧ psr' = psr ∧ fo' = fo) ∨ (r = (0 : Int32) ∧ ∃ v : Int32, fo' 0 = v.toInt64 ∧ (drOK Wd Ht x y PL) ∧ v.toInt = DW D x y (PL / 256 % 32) (17 + 4 * (PL / 4 % 64)) (PL % 4) ∧ bOK fw' (dP D x y (PL / 256 % 32) (17 + 4 * (PL / 4 % 64)) (PL % 4) (fxd (17 + 4 * (PL / 4 % 64)))) ∧ 0 ≤ (psr' : Int32).toInt ∧ (psr' : Int32).toInt ≤ psr.toInt ∧ sK fs (dP D x y (PL / 256 % 32) (17 + 4 * (PL / 4 % 64)) (PL % 4) (fxd (17 + 4 * (PL / 4 % 64)))) Wd (psr' : Int32).toInt))
    (h2 : (¬ (drOK Wd Ht x y PL) ∧ rb = 0 ∧ mth' = 1 ∧ dOK fd' D) ∨ ((drOK Wd Ht x y PL) ∧ rb.toInt = DW D x y (PL / 256 % 32) (17 + 4 * (PL / 4 % 64)) (PL % 4) ∧ mth' = 0 ∧ dOK fd' (dP D x y (PL / 256 % 32) (17 + 4 * (PL / 4 % 64)) (PL % 4) (fxd (17 + 4 * (PL / 4 % 64)))))) :
    mth' = r ∧ (r = 0 → fo' 0 = rb.toInt64) ∧ ∃ D', iS Wd Ht D' pw ph psr' mw mh fw' fs fd' fu := by
  rcases h1 with ⟨rfl, no, rfl, rfl, rfl⟩ | ⟨rfl, v, e, ok, ev, b, s0, s1, sk⟩
  · rcases h2 with ⟨-, -, rfl, d⟩ | ⟨ok, -⟩
    · exact ⟨rfl, fun q => absurd q (by decide), D, iS_fd hS d⟩
    · exact absurd ok no
  · rcases h2 with ⟨no, -⟩ | ⟨-, er, rfl, d⟩
    · exact absurd ok no
    · have ee : v = rb := (ti_eq ev er).mpr rfl
      subst ee
      unfold drOK at ok
      exact ⟨rfl, fun _ => e, _, iS_mv hS b d (dp_sup hS.2.2.2.2.1 ok.2.1 ok.2.2.2.1 (by omega) (by omega)) s0 s1 sk⟩
theorem st_find {Wd Ht le mo LIM n : Int} {D : Int → Int → Bool} {pw ph psr psr' mw mh mth' r rb cnt cnt' cnt2 cnt2' msd msd' mmn mmn' sz0 sz0' stp stp' : Int32} {fw fo fo' kn kn' : Nat → Int64} {fs fs' fd fu fu' kf kf' wf wf' kg kg' wg wg' ft ft' ff ff' : Nat → Int32}
    (hS : iS Wd Ht D pw ph psr mw mh fw fs fd fu) (hN : iN n sz0 stp kn) (hV : iV Wd Ht cnt cnt2 msd mmn kg wg ff)
    (h1 : (r = (1 : Int32) ∧ (¬ ((1 ≤ le ∧ le ≤ 16) ∧ (le ≤ mo ∧ mo ≤ 16) ∧ 0 ≤ LIM ∧ LIM ≤ 500)) ∧ fs' = fs ∧ psr' = psr ∧ sz0' = sz0 ∧ stp' = stp ∧ cnt' = cnt ∧ kn' = kn ∧ cnt2' = cnt2 ∧ kg' = kg ∧ wg' = wg) ∨
      (r = (0 : Int32) ∧ ∃ v : Int32, fo' 0 = v.toInt64 ∧ ((1 ≤ le ∧ le ≤ 16) ∧ (le ≤ mo ∧ mo ≤ 16) ∧ 0 ≤ LIM ∧ LIM ≤ 500) ∧ ((v = -1 ∧ over D (alF D Wd Ht LIM le mo) ∧ cnt' = (0 : Int32) ∧ cnt2' = (0 : Int32)) ∨ (v = cnt2' ∧ clOK D kf' wf' (cnt' : Int32).toInt (alF D Wd Ht LIM le mo) ∧ ldI kf' wf' (cnt' : Int32).toInt kg' wg' (cnt2' : Int32).toInt (cnt' : Int32).toInt)) ∧ sK fs' D Wd Ht ∧ fst0 fs' ∧ (psr' : Int32).toInt = Ht ∧ (0 ≤ (sz0' : Int32).toInt ∧ (sz0' : Int32).toInt ≤ 177) ∧ (stp.toInt ≤ (stp' : Int32).toInt ∧ (stp' : Int32).toInt ≤ stp.toInt + 16) ∧ ∃ D9 M9, KN D9 M9 (stp' : Int32).toInt kn'))
    (h2 : (¬ (1 ≤ le ∧ le ≤ 16 ∧ le ≤ mo ∧ mo ≤ 16 ∧ 0 ≤ LIM ∧ LIM ≤ 500) ∧ (mth' : Int32) = 1 ∧ (msd' : Int32) = msd ∧ (mmn' : Int32) = mmn ∧ fu' = fu ∧ ft' = ft ∧ ff' = ff) ∨ ((1 ≤ le ∧ le ≤ 16 ∧ le ≤ mo ∧ mo ≤ 16 ∧ 0 ≤ LIM ∧ LIM ≤ 500) ∧ (mth' : Int32) = 0 ∧ (rb : Int32) = -1 ∧ (msd' : Int32) = 0 ∧ (mmn' : Int32) = 0 ∧ z0 fu' ∧ many D Wd Ht LIM le mo) ∨ ((1 ≤ le ∧ le ≤ 16 ∧ le ≤ mo ∧ mo ≤ 16 ∧ 0 ≤ LIM ∧ LIM ≤ 500) ∧ (mth' : Int32) = 0 ∧ (rb : Int32) = (mmn' : Int32) ∧ z0 fu' ∧ 0 ≤ (msd' : Int32).toInt ∧ (msd' : Int32).toInt ≤ 300 ∧ stOK D ft' (msd' : Int32).toInt (alF D Wd Ht LIM le mo) ∧ 0 ≤ (mmn' : Int32).toInt ∧ (mmn' : Int32).toInt ≤ 300 ∧ foAll ft' (msd' : Int32).toInt ff' (mmn' : Int32).toInt)) :
    mth' = r ∧ (r = 0 → fo' 0 = rb.toInt64) ∧ iS Wd Ht D pw ph psr' mw mh fw fs' fd fu' ∧ iN (n + 1) sz0' stp' kn' ∧ iV Wd Ht cnt' cnt2' msd' mmn' kg' wg' ff' := by
  rcases h1 with ⟨rfl, no, rfl, rfl, rfl, rfl, rfl, rfl, rfl, rfl, rfl⟩ | ⟨rfl, v, e, ok, tw, sk, f0, ep, ez, es, kk⟩
  · rcases h2 with ⟨-, rfl, rfl, rfl, rfl, rfl, rfl⟩ | ⟨ok, -⟩ | ⟨ok, -⟩
    · exact ⟨rfl, fun q => absurd q (by decide), hS, iN_s hN, hV⟩
    · exact absurd (by omega) no
    · exact absurd (by omega) no
  · have hW := hS.2.1
    have hb := alF_b (D := D) (W := Wd) (H := Ht) (LIM := LIM) (le := le) (mo := mo) hW.2.1 hW.2.2.2 ok.1.1 ok.2.1.2
    have hN' : iN (n + 1) sz0' stp' kn' := ⟨ez, ⟨by have := hN.2.1.1; omega, by have := hN.2.1.2; omega⟩, kk⟩
    have hS' : ∀ g, z0 g → iS Wd Ht D pw ph psr' mw mh fw fs' fd g := fun g hg => ⟨hS.1, hS.2.1, hS.2.2.1, hS.2.2.2.1, hS.2.2.2.2.1, ⟨by omega, by omega⟩, by rw [ep]; exact sk, f0, hg⟩
    rcases h2 with ⟨no, -⟩ | ⟨-, rfl, er, rfl, rfl, zz, mm⟩ | ⟨-, rfl, er, zz, s0, s1, so, m0, m1, fo9⟩
    · exact absurd (by omega) no
    · rcases tw with ⟨ev, -, rfl, rfl⟩ | ⟨ev, cl, ld⟩
      · exact ⟨rfl, fun _ => by rw [e, ev, er], hS' _ zz, hN', iV_0⟩
      · exact (cl_few cl mm hb).elim
    · rcases tw with ⟨ev, ov, -, -⟩ | ⟨ev, cl, ld⟩
      · exact (st_few so s1 ov).elim
      · have iv := iV_find s0 m0 m1 so cl fo9 ld
        exact ⟨rfl, fun _ => by rw [e, ev, er, iv.2.1], hS' _ zz, hN', iv⟩
theorem st_place {Wd Ht k wt : Int} {mth' r rb cnt cnt2 msd mmn : Int32} {fo fo' : Nat → Int64} {kg wg ff : Nat → Int32} (hV : iV Wd Ht cnt cnt2 msd mmn kg wg ff)
    (h1 : (r = (1 : Int32) ∧ (¬ (0 ≤ wt ∧ wt ≤ 5)) ∧ fo' = fo) ∨ (r = (0 : Int32) ∧ ∃ v : Int32, fo' 0 = v.toInt64 ∧ (0 ≤ wt ∧ wt ≤ 5) ∧ ((¬ (0 ≤ k ∧ k < cnt2.toInt) ∧ v.toInt = -1) ∨ ((0 ≤ k ∧ k < cnt2.toInt) ∧ v.toInt = plV (kg k.toNat).toInt (wg k.toNat).toInt wt))))
    (h2 : (¬ (0 ≤ wt ∧ wt ≤ 5) ∧ mth' = 1) ∨ ((0 ≤ wt ∧ wt ≤ 5) ∧ mth' = 0 ∧ ((0 ≤ k ∧ k < mmn.toInt) ∧ rb = ff (6 * k + wt).toNat ∨ ¬ (0 ≤ k ∧ k < mmn.toInt) ∧ rb = -1))) :
    mth' = r ∧ (r = 0 → fo' 0 = rb.toInt64) := by
  have e2 := hV.2.1
  rcases h1 with ⟨rfl, no, rfl⟩ | ⟨rfl, v, e, ok, tw⟩
  · rcases h2 with ⟨-, rfl⟩ | ⟨ok, -⟩
    · exact ⟨rfl, fun q => absurd q (by decide)⟩
    · exact absurd ok no
  · rcases h2 with ⟨no, -⟩ | ⟨-, rfl, tv⟩
    · exact absurd ok no
    · rw [e2] at tw
      rcases tw with ⟨n1, ev⟩ | ⟨k1, ev⟩
      · rcases tv with ⟨k2, -⟩ | ⟨-, er⟩
        · exact absurd k2 n1
        · exact ⟨rfl, fun _ => by rw [e, er, show v = -1 from (ti_eq ev (show (-1 : Int32).toInt = -1 by decide)).mpr rfl]⟩
      · rcases tv with ⟨k2, er⟩ | ⟨n2, -⟩
        · exact ⟨rfl, fun _ => by rw [e, iV_place hV k2 ok ev er]⟩
        · exact absurd k1 n2
theorem st_modules {Wd Ht k i j : Int} {D : Int → Int → Bool} {pw ph psr mw mh mth' r cnt cnt2 msd mmn : Int32} {rb : Int64} {fw fo fo' : Nat → Int64} {fs fd fd' fu kg wg ff : Nat → Int32} (hS : iS Wd Ht D pw ph psr mw mh fw fs fd fu) (hV : iV Wd Ht cnt cnt2 msd mmn kg wg ff)
    (h1 : (r = (1 : Int32) ∧ (¬ (0 ≤ k ∧ k < cnt2.toInt)) ∧ fo' = fo) ∨ (r = (0 : Int32) ∧ (0 ≤ k ∧ k < cnt2.toInt) ∧ ∃ X Y MM VV QQ, bnd5 X Y MM VV QQ ∧ (kg k.toNat).toInt = keyI X Y MM VV QQ ∧ ∀ t : Nat, t < 64 → lb (fo' 0) t = mcF D X Y MM (17 + 4 * VV) QQ j (i + t) 0))
    (h2 : (¬ (0 ≤ k ∧ k < mmn.toInt) ∧ mth' = 1 ∧ dOK fd' D) ∨ ((0 ≤ k ∧ k < mmn.toInt) ∧ mth' = 0 ∧ dOK fd' D ∧ ∀ t : Nat, t < 64 → lb rb t = modF D ff j k (i + t) 0)) :
    mth' = r ∧ (r = 0 → fo' 0 = rb) ∧ iS Wd Ht D pw ph psr mw mh fw fs fd' fu := by
  have e2 := hV.2.1
  rw [e2] at h1
  rcases h1 with ⟨rfl, no, rfl⟩ | ⟨rfl, ok, X, Y, MM, VV, QQ, b, ek, bits⟩
  · rcases h2 with ⟨-, rfl, d⟩ | ⟨ok, -⟩
    · exact ⟨rfl, fun q => absurd q (by decide), iS_fd hS d⟩
    · exact absurd ok no
  · rcases h2 with ⟨no, -⟩ | ⟨-, rfl, d, bits2⟩
    · exact absurd ok no
    · exact ⟨rfl, fun _ => lb_ext (fun t ht => by rw [bits t ht, bits2 t ht, iV_mod hV ok b ek]), iS_fd hS d⟩
theorem st_dots {D : Int → Int → Bool} {x y : Int} {r rb : Int64} (h1 : ∀ i : Nat, i < 64 → lb r i = D (x + i) y) (h2 : ∀ i : Nat, i < 64 → lb rb i = D (x + i) y) : r = rb := lb_ext (fun i hi => by rw [h1 i hi, h2 i hi])
theorem lc0 {x y : Int} (h : x = y) : (if y < x then (1 : Int) else if x = y then 0 else -1) = 0 := by
  rw [if_neg (by omega), if_pos h]
