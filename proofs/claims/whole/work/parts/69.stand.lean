/-! the places at which a symbol can stand, as the reference keeps them -/
def TW (D : Int → Int → Bool) (x y M v Q : Int) : Int := sI (gG (gW D x y M (17 + 4 * v) Q) (17 + 4 * v)) 0 0 (17 + 4 * v) (17 + 4 * v)
def St (D : Int → Int → Bool) (W H LIM x y m v q : Int) : Prop := 0 ≤ x ∧ 0 ≤ y ∧ x + m * (17 + 4 * v) ≤ W ∧ y + m * (17 + 4 * v) ≤ H ∧ 0 ≤ q ∧ q ≤ 3 ∧ TW D x y m v q ≤ LIM
def stOK (D : Int → Int → Bool) (ft : Nat → Int32) (n : Int) (F : Int → Int → Int → Int → Int → Prop) : Prop :=
  (∀ a, 0 ≤ a → a < n → bE ft a ∧ F (sE ft a 0) (sE ft a 1) (sE ft a 2) (sE ft a 3) (sE ft a 4) ∧ sE ft a 5 = TW D (sE ft a 0) (sE ft a 1) (sE ft a 2) (sE ft a 3) (sE ft a 4)) ∧
  (∀ a b, 0 ≤ a → a < n → 0 ≤ b → b < n → kE ft a = kE ft b → a = b) ∧
  (∀ x y m v q, F x y m v q → ∃ a, 0 ≤ a ∧ a < n ∧ sE ft a 0 = x ∧ sE ft a 1 = y ∧ sE ft a 2 = m ∧ sE ft a 3 = v ∧ sE ft a 4 = q)
theorem st_congr {D : Int → Int → Bool} {ft : Nat → Int32} {n : Int} {F G : Int → Int → Int → Int → Int → Prop} (h : stOK D ft n F) (e : ∀ x y m v q, F x y m v q ↔ G x y m v q) : stOK D ft n G :=
  ⟨fun a a0 a1 => ⟨(h.1 a a0 a1).1, (e _ _ _ _ _).mp (h.1 a a0 a1).2.1, (h.1 a a0 a1).2.2⟩, h.2.1, fun x y m v q g => h.2.2 x y m v q ((e _ _ _ _ _).mpr g)⟩
theorem TW_nn {D : Int → Int → Bool} {x y M v Q : Int} (hM : 0 ≤ M) : 0 ≤ TW D x y M v Q := by
  unfold TW sI
  have q : ∀ i j, 0 ≤ gG (gW D x y M (17 + 4 * v) Q) (17 + 4 * v) i j := by
    intro i j; unfold gG
    by_cases m : mdl (17 + 4 * v) i j = -1
    · rw [if_pos m]; exact Int.le_refl _
    · rw [if_neg m]; exact gW_nn hM
  have : ∀ n w : Nat, 0 ≤ s2 (gG (gW D x y M (17 + 4 * v) Q) (17 + 4 * v)) 0 0 w n := by
    intro n w
    induction n with
    | zero => simp [s2]
    | succ n ih => simp only [s2]; have := s1_nn (g := fun i => gG (gW D x y M (17 + 4 * v) Q) (17 + 4 * v) i (0 + n)) (x := 0) (n := w) (fun i => q i (0 + n)); omega
  exact this _ _
theorem st_add {D : Int → Int → Bool} {ft f2 : Nat → Int32} {n : Int} {F : Int → Int → Int → Int → Int → Prop} {a1 a2 a3 a4 a5 a6 : Int32} {x y m v q : Int} (h : stOK D ft n F) (hn : 0 ≤ n) (he : entD n a1 a2 a3 a4 a5 a6 ft f2)
    (g1 : a1.toInt = x) (g2 : a2.toInt = y) (g3 : a3.toInt = m) (g4 : a4.toInt = v) (g5 : a5.toInt = q) (g6 : a6.toInt = TW D x y m v q) (x0 : 0 ≤ x) (x1 : x ≤ 511) (y0 : 0 ≤ y) (y1 : y ≤ 511) (m0 : 1 ≤ m) (m1 : m ≤ 16) (v0 : 1 ≤ v) (v1 : v ≤ 40) (q0 : 0 ≤ q) (q1 : q ≤ 3) (t1 : TW D x y m v q ≤ 500) (hF : ¬ F x y m v q) :
    stOK D f2 (n + 1) (fun x' y' m' v' q' => F x' y' m' v' q' ∨ (x' = x ∧ y' = y ∧ m' = m ∧ v' = v ∧ q' = q)) := by
  obtain ⟨e, e0, e1, e2, e3, e4, e5⟩ := he
  have t0 := TW_nn (D := D) (x := x) (y := y) (M := m) (v := v) (Q := q) (by omega)
  have k0 : sE f2 n 0 = x := by unfold sE; rw [show (6 * n + 0).toNat = (6 * n).toNat by omega, e0, g1]
  have k1 : sE f2 n 1 = y := by unfold sE; rw [e1, g2]
  have k2 : sE f2 n 2 = m := by unfold sE; rw [e2, g3]
  have k3 : sE f2 n 3 = v := by unfold sE; rw [e3, g4]
  have k4 : sE f2 n 4 = q := by unfold sE; rw [e4, g5]
  have k5 : sE f2 n 5 = TW D x y m v q := by unfold sE; rw [e5, g6]
  have old : ∀ a k : Int, 0 ≤ a → a < n → 0 ≤ k → k ≤ 5 → sE f2 a k = sE ft a k := fun a k a0 a1 k0 k1 => by unfold sE; rw [e _ (by omega)]
  have oldk : ∀ a : Int, 0 ≤ a → a < n → kE f2 a = kE ft a := fun a a0 a1 => by
    unfold kE; rw [old a 0 a0 a1 (by omega) (by omega), old a 1 a0 a1 (by omega) (by omega), old a 2 a0 a1 (by omega) (by omega), old a 3 a0 a1 (by omega) (by omega), old a 4 a0 a1 (by omega) (by omega)]
  have nk : ∀ a : Int, 0 ≤ a → a < n → kE ft a ≠ kE f2 n := by
    intro a a0 a1 c
    have ha := h.1 a a0 a1
    have hb := ha.1
    unfold bE at hb
    unfold kE at c
    rw [k0, k1, k2, k3, k4] at c
    have c1 : sE ft a 1 = y := by omega
    have c0 : sE ft a 0 = x := by omega
    have c2 : sE ft a 2 = m := by omega
    have c3 : sE ft a 3 = v := by omega
    have c4 : sE ft a 4 = q := by omega
    have f := ha.2.1
    rw [c0, c1, c2, c3, c4] at f
    exact hF f
  refine ⟨?_, ?_, ?_⟩
  · intro a a0 a1
    by_cases c : a = n
    · rw [c]
      refine ⟨?_, Or.inr ⟨k0, k1, k2, k3, k4⟩, by rw [k0, k1, k2, k3, k4, k5]⟩
      unfold bE; rw [k0, k1, k2, k3, k4, k5]; omega
    · have ha := h.1 a a0 (by omega)
      unfold bE at ha ⊢
      rw [old a 0 a0 (by omega) (by omega) (by omega), old a 1 a0 (by omega) (by omega) (by omega), old a 2 a0 (by omega) (by omega) (by omega), old a 3 a0 (by omega) (by omega) (by omega), old a 4 a0 (by omega) (by omega) (by omega), old a 5 a0 (by omega) (by omega) (by omega)]
      exact ⟨ha.1, Or.inl ha.2.1, ha.2.2⟩
  · intro a b a0 a1 b0 b1 c
    by_cases ca : a = n
    · by_cases cb : b = n
      · omega
      · rw [ca, oldk b b0 (by omega)] at c; exact absurd c.symm (nk b b0 (by omega))
    · by_cases cb : b = n
      · rw [cb, oldk a a0 (by omega)] at c; exact absurd c (nk a a0 (by omega))
      · rw [oldk a a0 (by omega), oldk b b0 (by omega)] at c; exact h.2.1 a b a0 (by omega) b0 (by omega) c
  · intro x' y' m' v' q' g
    rcases g with g | ⟨r0, r1, r2, r3, r4⟩
    · obtain ⟨a, a0, a1, c0, c1, c2, c3, c4⟩ := h.2.2 x' y' m' v' q' g
      exact ⟨a, a0, by omega, by rw [old a 0 a0 a1 (by omega) (by omega), c0], by rw [old a 1 a0 a1 (by omega) (by omega), c1], by rw [old a 2 a0 a1 (by omega) (by omega), c2], by rw [old a 3 a0 a1 (by omega) (by omega), c3], by rw [old a 4 a0 a1 (by omega) (by omega), c4]⟩
    · exact ⟨n, hn, by omega, by rw [k0, r0], by rw [k1, r1], by rw [k2, r2], by rw [k3, r3], by rw [k4, r4]⟩
/-- what has been looked at before (y, x, q) -/
def lkF (D : Int → Int → Bool) (W H LIM M v : Int) (F : Int → Int → Int → Int → Int → Prop) (zy zx zq : Int) : Int → Int → Int → Int → Int → Prop := fun x' y' m' v' q' => F x' y' m' v' q' ∨ (m' = M ∧ v' = v ∧ St D W H LIM x' y' M v q' ∧ (y' < zy ∨ y' = zy ∧ (x' < zx ∨ x' = zx ∧ q' < zq)))
