/-! the reference's sheet -/
theorem zb_isB {v : Int32} {b : Bool} (h : v = zb b) : isB v (b = true) := by
  cases b
  · exact Or.inr ⟨h, by decide⟩
  · exact Or.inl ⟨h, rfl⟩
theorem nar0 : vp_nar .boolean 0 = 0 := by decide
theorem nar1 : vp_nar .boolean 1 = 1 := by decide
theorem bf {b : Bool} (h : ¬ b = true) : b = false := by cases b <;> simp_all
theorem lb_one {v : Int32} {k : Int} (hv : v.toInt = k) (h0 : 0 ≤ k) (h1 : k < 64) {i : Nat} (hi : i < 64) : lb ((1 : Int64) <<< (v.toInt64 &&& 63)) i = decide ((i : Int) = k) := by
  rw [lb_shl hv h0 h1 hi]
  have e : (1 : Int64) = lN 1 := rfl
  rw [e, lb_lN (by omega)]
  by_cases q : (i : Int) = k
  · have z : i - k.toNat = 0 := by omega
    have y : k.toNat ≤ i := by omega
    rw [z, decide_eq_true q, decide_eq_true y]; rfl
  · rw [decide_eq_false q]
    by_cases r : k.toNat ≤ i
    · have z : (1 : Nat).testBit (i - k.toNat) = false := by
        have : ∃ j, i - k.toNat = j + 1 := ⟨i - k.toNat - 1, by omega⟩
        obtain ⟨j, hj⟩ := this
        rw [hj, Nat.testBit_succ]; simp
      rw [z, Bool.and_false]
    · rw [decide_eq_false r, Bool.false_and]
/-- one more bit -/
theorem dot_same {b : Int64} {D : Int → Int → Bool} {x y k : Int} (h : ∀ i : Nat, i < 64 → lb b i = (decide ((i : Int) < k) && D (x + i) y)) (q : D (x + k) y = false) : ∀ i : Nat, i < 64 → lb b i = (decide ((i : Int) < k + 1) && D (x + i) y) := by
  intro i hi
  rw [h i hi]
  by_cases e : (i : Int) = k
  · rw [e, q, Bool.and_false, Bool.and_false]
  · have t : decide ((i : Int) < k) = decide ((i : Int) < k + 1) := by
      apply decide_eq_decide.mpr; omega
    rw [t]
theorem dot_more {b c : Int64} {D : Int → Int → Bool} {x y k : Int} (h : ∀ i : Nat, i < 64 → lb b i = (decide ((i : Int) < k) && D (x + i) y)) (q : D (x + k) y = true) (hc : ∀ i : Nat, i < 64 → lb c i = (lb b i || decide ((i : Int) = k))) : ∀ i : Nat, i < 64 → lb c i = (decide ((i : Int) < k + 1) && D (x + i) y) := by
  intro i hi
  rw [hc i hi, h i hi]
  by_cases e : (i : Int) = k
  · rw [e, q, decide_eq_true (show k < k + 1 by omega)]; simp
  · have t : decide ((i : Int) < k) = decide ((i : Int) < k + 1) := by
      apply decide_eq_decide.mpr; omega
    rw [t, decide_eq_false e, Bool.or_false]
