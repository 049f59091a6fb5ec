theorem us13 {a v : Int32} {k : Int} (ha : a.toInt = k) (hv : v = (a.toUInt32 >>> ((13 : Int32).toUInt32 &&& Int32.toUInt32 31)).toInt32) : v = 0 ↔ 0 ≤ k ∧ k ≤ 8191 := by
  have n : (a.toUInt32 >>> ((13 : Int32).toUInt32 &&& Int32.toUInt32 31)).toNat = a.toUInt32.toNat / 8192 := by
    rw [UInt32.toNat_shiftRight]
    have : ((13 : Int32).toUInt32 &&& Int32.toUInt32 31).toNat % 32 = 13 := by decide
    rw [this, Nat.shiftRight_eq_div_pow]
  have t : a.toBitVec.toInt = k := ha
  rw [BitVec.toInt_eq_toNat_cond] at t
  have l := a.toBitVec.isLt
  have un : a.toUInt32.toNat = a.toBitVec.toNat := rfl
  generalize a.toUInt32 >>> ((13 : Int32).toUInt32 &&& Int32.toUInt32 31) = w at n hv
  have zz : v = 0 ↔ w.toNat = 0 := by
    rw [hv]
    constructor
    · intro h
      have e : w.toInt32.toUInt32 = (0 : Int32).toUInt32 := by rw [h]
      have e2 : w = 0 := e
      rw [e2]; rfl
    · intro h
      have e : w = 0 := UInt32.toNat_inj.mp (by rw [h]; rfl)
      rw [e]; rfl
  rw [zz, n, un]
  split at t <;> omega
/-- a sum that may come round -/
theorem ti_addw {a b : Int32} {x y : Int} (ha : a.toInt = x) (hb : b.toInt = y) (h0 : 0 ≤ y) : (x + y < 2147483648 ∧ (a + b).toInt = x + y) ∨ (2147483648 ≤ x + y ∧ (a + b).toInt = x + y - 4294967296) := by
  have ra := ti_rng a
  have rb := ti_rng b
  rw [ha] at ra; rw [hb] at rb
  by_cases c : x + y < 2147483648
  · exact Or.inl ⟨c, ti_add ha hb (by omega) c⟩
  · refine Or.inr ⟨by omega, ?_⟩
    rw [Int32.toInt_add, ha, hb]
    have e : x + y = (x + y - 4294967296) + ((2 ^ 32 : Nat) : Int) := by omega
    rw [e, Int.add_bmod_right, ti_bm (by omega) (by omega)]; omega
/-- a module of a place, by the majority of its dots -/
def mcF (D : Int → Int → Bool) (X Y MM S QQ j : Int) : Int → Int → Bool := fun c _ => decide (0 ≤ c ∧ c < S ∧ 0 ≤ j ∧ j < S) && decide (MM * MM < 2 * cI D (X + MM * bA S QQ c j) (Y + MM * bB S QQ c j) MM MM)
theorem mc_out {D : Int → Int → Bool} {X Y MM S QQ j c z : Int} (h : ¬ (0 ≤ c ∧ c < S ∧ 0 ≤ j ∧ j < S)) : mcF D X Y MM S QQ j c z = false := by
  unfold mcF; rw [decide_eq_false h, Bool.false_and]
theorem mc_in {D : Int → Int → Bool} {X Y MM S QQ j c z : Int} (h : 0 ≤ c ∧ c < S ∧ 0 ≤ j ∧ j < S) : mcF D X Y MM S QQ j c z = decide (MM * MM < 2 * cI D (X + MM * bA S QQ c j) (Y + MM * bB S QQ c j) MM MM) := by
  unfold mcF; rw [decide_eq_true h, Bool.true_and]
theorem mc_ref {D : Int → Int → Bool} {ff : Nat → Int32} {j k : Int} : modF D ff j k = mcF D (sE ff k 0) (sE ff k 1) (sE ff k 2) (17 + 4 * sE ff k 3) (sE ff k 4) j := rfl
