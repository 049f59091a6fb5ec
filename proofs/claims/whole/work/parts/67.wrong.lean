/-! the wrong dots of a place, run by run -/
def gW (D : Int → Int → Bool) (x y M S Q : Int) : Int → Int → Int → Int := fun is i j => if is = 1 then M * M - cB D x y M S Q i j else cB D x y M S Q i j
theorem cB_b {D : Int → Int → Bool} {x y M S Q i j : Int} (hM : 0 ≤ M) : 0 ≤ cB D x y M S Q i j ∧ cB D x y M S Q i j ≤ M * M := ⟨cI_nn _ _ _ _ _, cI_le _ _ _ hM hM⟩
theorem gW_nn {D : Int → Int → Bool} {x y M S Q is i j : Int} (hM : 0 ≤ M) : 0 ≤ gW D x y M S Q is i j := by
  have := cB_b (D := D) (x := x) (y := y) (S := S) (Q := Q) (i := i) (j := j) hM
  unfold gW; split <;> omega
theorem s1_nn {g : Int → Int} {x : Int} {n : Nat} (h : ∀ i, 0 ≤ g i) : 0 ≤ s1 g x n := by
  induction n with
  | zero => simp [s1]
  | succ n ih => simp only [s1]; have := h (x + n); omega
theorem s1_sub {g : Int → Int} {c x : Int} {n : Nat} : s1 (fun a => c - g a) x n = c * n - s1 g x n := by
  induction n with
  | zero => simp [s1]
  | succ n ih =>
    simp only [s1]; rw [ih]
    have e : c * ((n + 1 : Nat) : Int) = c * n + c := by rw [Int.natCast_add, Int.mul_add]; simp
    omega
theorem s1_up {g : Int → Int} {c x : Int} {n : Nat} (h : ∀ i, g i ≤ c) : s1 g x n ≤ c * n := by
  induction n with
  | zero => simp [s1]
  | succ n ih =>
    simp only [s1]
    have e : c * ((n + 1 : Nat) : Int) = c * n + c := by rw [Int.natCast_add, Int.mul_add]; simp
    have := h (x + n)
    omega
theorem run_w1 {D : Int → Int → Bool} {x y M S Q i j n : Int} (hn : 0 ≤ n) : s1 (fun a => gW D x y M S Q 1 a j) i n.toNat = M * M * n - s1 (fun a => cB D x y M S Q a j) i n.toNat := by
  have f : (fun a => gW D x y M S Q 1 a j) = (fun a => M * M - cB D x y M S Q a j) := by funext a; unfold gW; simp
  have e : ((n.toNat : Nat) : Int) = n := by omega
  rw [f, s1_sub, e]
theorem run_w0 {D : Int → Int → Bool} {x y M S Q i j n is : Int} (h : ¬ is = 1) : s1 (fun a => gW D x y M S Q is a j) i n.toNat = s1 (fun a => cB D x y M S Q a j) i n.toNat := by
  have f : (fun a => gW D x y M S Q is a j) = (fun a => cB D x y M S Q a j) := by funext a; unfold gW; exact if_neg h
  rw [f]
theorem rS_next {G : Int → Int → Int → Int} {fr : Nat → Int32} {k : Int} (hk : 0 ≤ k) : rS G fr (k + 1).toNat = rS G fr k.toNat + s1 (fun i => G (rI fr k 3) i (rI fr k 1)) (rI fr k 0) (rI fr k 2).toNat := by
  have e : (k + 1).toNat = k.toNat + 1 := by omega
  have z : ((k.toNat : Nat) : Int) = k := by omega
  rw [e]; simp only [rS]; rw [z]
theorem rS_mono {G : Int → Int → Int → Int} {fr : Nat → Int32} (h : ∀ a b c, 0 ≤ G a b c) {a b : Nat} (q : a ≤ b) : rS G fr a ≤ rS G fr b := by
  induction b with
  | zero => have e : a = 0 := by omega
            subst e; exact Int.le_refl _
  | succ b ih =>
    by_cases e : a = b + 1
    · subst e; exact Int.le_refl _
    · have := ih (by omega)
      simp only [rS]
      have := s1_nn (g := fun i => G (rI fr b 3) i (rI fr b 1)) (x := rI fr b 0) (n := (rI fr b 2).toNat) (fun i => h _ _ _)
      omega
