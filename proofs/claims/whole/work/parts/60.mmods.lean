/-! modules by the majority of their dots -/
theorem bA_b {S Q i j : Int} (i0 : 0 ≤ i) (i1 : i < S) (j0 : 0 ≤ j) (j1 : j < S) : 0 ≤ bA S Q i j ∧ bA S Q i j < S := by unfold bA; (repeat' split) <;> omega
theorem bB_b {S Q i j : Int} (i0 : 0 ≤ i) (i1 : i < S) (j0 : 0 ≤ j) (j1 : j < S) : 0 ≤ bB S Q i j ∧ bB S Q i j < S := by unfold bB; (repeat' split) <;> omega
theorem blk_b {m b S : Int} (hm : 0 ≤ m) (b0 : 0 ≤ b) (b1 : b < S) : 0 ≤ m * b ∧ m * b + m ≤ m * S := by
  refine ⟨Int.mul_nonneg hm b0, ?_⟩
  have : m * (b + 1) ≤ m * S := Int.mul_le_mul_of_nonneg_left (by omega) hm
  rw [Int.mul_add, Int.mul_one] at this
  exact this
theorem pf_same {D : Int → Int → Bool} {ib : Bool} {x y m py px : Int} : pF D (fun a c => if false = true then ib else D a c) x y m py px = D := by
  funext a c
  unfold pF
  split <;> simp
theorem neB_f (D : Int → Int → Bool) : neB D false = D := by
  funext a c; unfold neB; cases D a c <;> rfl
def modF (D : Int → Int → Bool) (ff : Nat → Int32) (j k : Int) : Int → Int → Bool := fun c _ => decide (0 ≤ c ∧ c < 17 + 4 * sE ff k 3 ∧ 0 ≤ j ∧ j < 17 + 4 * sE ff k 3) && decide (sE ff k 2 * sE ff k 2 < 2 * cI D (sE ff k 0 + sE ff k 2 * bA (17 + 4 * sE ff k 3) (sE ff k 4) c j) (sE ff k 1 + sE ff k 2 * bB (17 + 4 * sE ff k 3) (sE ff k 4) c j) (sE ff k 2) (sE ff k 2))
theorem modF_out {D : Int → Int → Bool} {ff : Nat → Int32} {j k c z : Int} (h : ¬ (0 ≤ c ∧ c < 17 + 4 * sE ff k 3 ∧ 0 ≤ j ∧ j < 17 + 4 * sE ff k 3)) : modF D ff j k c z = false := by
  unfold modF; rw [decide_eq_false h, Bool.false_and]
theorem modF_in {D : Int → Int → Bool} {ff : Nat → Int32} {j k c z S n : Int} (kS : S = 17 + 4 * sE ff k 3) (h : 0 ≤ c ∧ c < S ∧ 0 ≤ j ∧ j < S) (hn : n = cI D (sE ff k 0 + sE ff k 2 * bA S (sE ff k 4) c j) (sE ff k 1 + sE ff k 2 * bB S (sE ff k 4) c j) (sE ff k 2) (sE ff k 2)) : modF D ff j k c z = decide (sE ff k 2 * sE ff k 2 < 2 * n) := by
  unfold modF
  rw [← kS, decide_eq_true h, Bool.true_and, hn]
