/-- what both sides have of the last find -/
def iV (Wd Ht : Int) (cnt cnt2 msd mmn : Int32) (kg wg ff : Nat → Int32) : Prop :=
  cnt = msd ∧ cnt2 = mmn ∧ (0 ≤ mmn.toInt ∧ mmn.toInt ≤ 300) ∧
  ∀ a : Nat, (a : Int) < mmn.toInt → kE ff a = (kg a).toInt ∧ sE ff a 5 = (wg a).toInt ∧ bE ff a ∧ sE ff a 0 + lE ff a ≤ Wd ∧ sE ff a 1 + lE ff a ≤ Ht
theorem iV_0 {Wd Ht : Int} {kg wg ff : Nat → Int32} : iV Wd Ht 0 0 0 0 kg wg ff := by
  have z : (0 : Int32).toInt = 0 := by decide
  refine ⟨rfl, rfl, ⟨by rw [z]; exact Int.le_refl 0, by rw [z]; decide⟩, fun a h => ?_⟩
  rw [z] at h; omega
theorem iV_find {D : Int → Int → Bool} {Wd Ht LIM le mo : Int} {cnt cnt2 msd mmn : Int32} {kf wf kg wg ft ff : Nat → Int32} (s0 : 0 ≤ msd.toInt) (f0 : 0 ≤ mmn.toInt) (f1 : mmn.toInt ≤ 300) (hs : stOK D ft msd.toInt (alF D Wd Ht LIM le mo)) (hc : clOK D kf wf cnt.toInt (alF D Wd Ht LIM le mo)) (hf : foAll ft msd.toInt ff mmn.toInt) (hl : ldI kf wf cnt.toInt kg wg cnt2.toInt cnt.toInt) : iV Wd Ht cnt cnt2 msd mmn kg wg ff := by
  obtain ⟨e1, e2⟩ := leaders_eq s0 f0 hs hc hf hl
  have e3 := (st_cl_n s0 hs hc).1
  refine ⟨(ti_eq rfl rfl).mpr e3.symm, (ti_eq rfl rfl).mpr e1.symm, ⟨f0, f1⟩, fun a ha => ?_⟩
  obtain ⟨k1, k2, k3⟩ := e2 a (by rw [← e1]; exact ha)
  obtain ⟨b, b0, b1, -, cp⟩ := hf.1 a (by omega) ha
  obtain ⟨-, ⟨-, -, -, -, st⟩, -⟩ := hs.1 b b0 b1
  unfold St at st
  refine ⟨k1, k2, k3, ?_, ?_⟩
  · unfold lE; rw [cp 0 (by omega) (by omega), cp 2 (by omega) (by omega), cp 3 (by omega) (by omega)]; exact st.2.2.1
  · unfold lE; rw [cp 1 (by omega) (by omega), cp 2 (by omega) (by omega), cp 3 (by omega) (by omega)]; exact st.2.2.2.1
section IV
variable {Wd Ht : Int} {cnt cnt2 msd mmn : Int32} {kg wg ff : Nat → Int32}
theorem iV_key (h : iV Wd Ht cnt cnt2 msd mmn kg wg ff) : ∀ i : Nat, (i : Int) < cnt2.toInt → ∃ X Y MM VV QQ, bnd5 X Y MM VV QQ ∧ (kg i).toInt = keyI X Y MM VV QQ ∧ X + MM * (17 + 4 * VV) ≤ Wd ∧ Y + MM * (17 + 4 * VV) ≤ Ht := by
  obtain ⟨-, e2, -, h⟩ := h
  intro i hi
  rw [e2] at hi
  obtain ⟨k1, k2, k3, k4, k5⟩ := h i hi
  unfold bE at k3
  exact ⟨sE ff i 0, sE ff i 1, sE ff i 2, sE ff i 3, sE ff i 4, by unfold bnd5; omega, k1.symm, k4, k5⟩
theorem iV_kp (h : iV Wd Ht cnt cnt2 msd mmn kg wg ff) : ∀ i : Nat, (i : Int) < cnt2.toInt → 0 ≤ (kg i).toInt := by
  intro i hi
  obtain ⟨X, Y, MM, VV, QQ, b, e, -, -⟩ := iV_key h i hi
  rw [e]; exact (key_b b).1
theorem iV_n (h : iV Wd Ht cnt cnt2 msd mmn kg wg ff) : 0 ≤ cnt2.toInt ∧ cnt2.toInt ≤ 300 := by
  rw [h.2.1]; exact h.2.2.1
theorem iV_F (h : iV Wd Ht cnt cnt2 msd mmn kg wg ff) (hW : Wd ≤ 512) (hH : Ht ≤ 512) : ∀ a, 0 ≤ a → a < mmn.toInt → bE ff a ∧ sE ff a 0 + lE ff a ≤ 512 ∧ sE ff a 1 + lE ff a ≤ 512 := by
  intro a a0 a1
  obtain ⟨n, rfl⟩ := Int.eq_ofNat_of_zero_le a0
  obtain ⟨k1, k2, k3, k4, k5⟩ := h.2.2.2 n a1
  exact ⟨k3, by omega, by omega⟩
theorem iV_place (h : iV Wd Ht cnt cnt2 msd mmn kg wg ff) {k wt : Int} {v r : Int32} (k0 : 0 ≤ k ∧ k < mmn.toInt) (w0 : 0 ≤ wt ∧ wt ≤ 5) (hv : v.toInt = plV (kg k.toNat).toInt (wg k.toNat).toInt wt) (hr : r = ff (6 * k + wt).toNat) : v = r := by
  obtain ⟨n, rfl⟩ := Int.eq_ofNat_of_zero_le k0.1
  obtain ⟨k1, k2, k3, -, -⟩ := h.2.2.2 n k0.2
  rw [Int.toNat_natCast] at hv
  have b : bnd5 (sE ff n 0) (sE ff n 1) (sE ff n 2) (sE ff n 3) (sE ff n 4) := by unfold bnd5; unfold bE at k3; omega
  obtain ⟨p0, p1, p2, p3, p4⟩ := key_parts (K := (kg n).toInt) b k1.symm
  refine (ti_eq rfl rfl).mpr ?_
  rw [hv, hr]
  show plV _ _ _ = sE ff n wt
  rcases (show wt = 0 ∨ wt = 1 ∨ wt = 2 ∨ wt = 3 ∨ wt = 4 ∨ wt = 5 by omega) with rfl | rfl | rfl | rfl | rfl | rfl
  · exact p0
  · exact p1
  · exact p2
  · exact p3
  · exact p4
  · exact k2.symm
theorem iV_mod (h : iV Wd Ht cnt cnt2 msd mmn kg wg ff) {D : Int → Int → Bool} {k j X Y MM VV QQ : Int} (k0 : 0 ≤ k ∧ k < mmn.toInt) (b : bnd5 X Y MM VV QQ) (e : (kg k.toNat).toInt = keyI X Y MM VV QQ) : mcF D X Y MM (17 + 4 * VV) QQ j = modF D ff j k := by
  obtain ⟨n, rfl⟩ := Int.eq_ofNat_of_zero_le k0.1
  obtain ⟨k1, k2, k3, -, -⟩ := h.2.2.2 n k0.2
  rw [Int.toNat_natCast] at e
  have b' : bnd5 (sE ff n 0) (sE ff n 1) (sE ff n 2) (sE ff n 3) (sE ff n 4) := by unfold bnd5; unfold bE at k3; omega
  obtain ⟨e0, e1, e2, e3, e4⟩ := key_inj b' b ((show keyI (sE ff n 0) (sE ff n 1) (sE ff n 2) (sE ff n 3) (sE ff n 4) = (kg n).toInt from k1).trans e)
  rw [mc_ref, e0, e1, e2, e3, e4]
end IV
/-- both sides have the same sheet; the sums are right as far as they go -/
def iS (Wd Ht : Int) (D : Int → Int → Bool) (pw ph psr mw mh : Int32) (fw : Nat → Int64) (fs fd fu : Nat → Int32) : Prop :=
  (pw.toInt = Wd ∧ ph.toInt = Ht ∧ mw.toInt = Wd ∧ mh.toInt = Ht) ∧ (1 ≤ Wd ∧ Wd ≤ 512 ∧ 1 ≤ Ht ∧ Ht ≤ 512) ∧ bOK fw D ∧ dOK fd D ∧ (∀ x y, D x y = true → 0 ≤ x ∧ x < Wd ∧ 0 ≤ y ∧ y < Ht) ∧ (0 ≤ psr.toInt ∧ psr.toInt ≤ Ht) ∧ sK fs D Wd psr.toInt ∧ fst0 fs ∧ z0 fu
/-- an empty sheet -/
theorem iS_0 {w h : Int} {a1 a2 : Int32} {fw : Nat → Int64} {fs fd fu : Nat → Int32} (g1 : a1.toInt = w) (g2 : a2.toInt = h) (ok : 1 ≤ w ∧ w ≤ 512 ∧ 1 ≤ h ∧ h ≤ 512) (h1 : ∀ i : Nat, i < 4096 → fw i = 0) (h2 : ∀ i : Nat, i < 262144 → fd i = 0) (h3 : fst0 fs) (h4 : z0 fu) : iS w h (fun _ _ => false) a1 a2 0 a1 a2 fw fs fd fu := by
  have z : (0 : Int32).toInt = 0 := by decide
  refine ⟨⟨g1, g2, g1, g2⟩, ok, ?_, ?_, fun x y q => (Bool.false_ne_true q).elim, ⟨by rw [z]; exact Int.le_refl 0, by rw [z]; omega⟩, ?_, h3, h4⟩
  · intro x y x0 x1 y0 y1
    rw [h1 _ (by omega), lb_0]
  · intro x y x0 x1 y0 y1
    rw [h2 _ (by omega)]; rfl
  · rw [z]; exact sk_0 h3 (by omega)
def iN (n : Int) (sz0 stp : Int32) (kn : Nat → Int64) : Prop := (0 ≤ sz0.toInt ∧ sz0.toInt ≤ 177) ∧ (0 ≤ stp.toInt ∧ stp.toInt ≤ 16 * n) ∧ ∃ D0 M0, KN D0 M0 stp.toInt kn
theorem iN_0 {kn : Nat → Int64} (h : ∀ i : Nat, i < 262144 → kn i = 0) : iN 0 0 0 kn := by
  have z : (0 : Int32).toInt = 0 := by decide
  unfold iN; rw [z]
  exact ⟨by omega, by omega, fun _ _ => false, 1, kn_0 h (Int.le_refl 0)⟩
theorem iN_s {n : Int} {sz0 stp : Int32} {kn : Nat → Int64} (h : iN n sz0 stp kn) : iN (n + 1) sz0 stp kn := ⟨h.1, ⟨h.2.1.1, by have := h.2.1.2; omega⟩, h.2.2⟩
