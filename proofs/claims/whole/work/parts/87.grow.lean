/-! a sum of numbers that are not negative only grows -/
theorem s1_grow {g : Int → Int} (x : Int) {a : Nat} : ∀ b : Nat, a ≤ b → (∀ t : Nat, t < b → 0 ≤ g (x + t)) → s1 g x a ≤ s1 g x b
  | 0, h, _ => by
    have e : a = 0 := by omega
    rw [e]; exact Int.le_refl _
  | b + 1, h, hg => by
    by_cases q : a = b + 1
    · rw [q]; exact Int.le_refl _
    · have i := s1_grow x (a := a) b (by omega) (fun t ht => hg t (by omega))
      have n := hg b (by omega)
      have e : s1 g x (b + 1) = s1 g x b + g (x + (b : Int)) := rfl
      omega
theorem lw_nn {D : Int → Int → Bool} {M lx ly st : Int} (hM : 0 ≤ M) (i : Int) : 0 ≤ lwF D M lx ly st i := by
  have n1 := cI_nn D (lx + i * st) (ly + i * (M - st)) M M
  have n2 := cI_le D (lx + i * st) (ly + i * (M - st)) (w := M) (h := M) hM hM
  unfold lwF
  by_cases q : i % 2 = 0
  · rw [if_pos q]; omega
  · rw [if_neg q]; exact n1
theorem lw_end {D : Int → Int → Bool} {M lx ly st n LIM WB r : Int} (hM : 0 ≤ M) (h : ∃ j : Int, 0 ≤ j ∧ j ≤ n ∧ r = WB + s1 (lwF D M lx ly st) 0 j.toNat ∧ (j = n ∨ LIM < r)) :
    (r ≤ LIM ↔ WB + s1 (lwF D M lx ly st) 0 n.toNat ≤ LIM) ∧ (r ≤ LIM → r = WB + s1 (lwF D M lx ly st) 0 n.toNat) := by
  obtain ⟨j, a, b, d, f⟩ := h
  have g := s1_grow (g := lwF D M lx ly st) 0 (a := j.toNat) n.toNat (by omega) (fun t _ => lw_nn hM _)
  rcases f with f | f
  · rw [f] at d; exact ⟨by rw [d], fun _ => d⟩
  · exact ⟨by omega, fun q => by omega⟩
