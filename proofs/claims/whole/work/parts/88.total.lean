/-! a place's wrong dots: three corners, two lines, one module that stands alone -/
theorem stack_d {D : Int → Int → Bool} {X Y M W : Int} (hM : 0 ≤ M) (i : Int) : ∀ n : Nat, s1 (fun a => cI D X (Y + M * a) W M) i n = cI D X (Y + M * i) W (M * n)
  | 0 => by simp only [s1]; rw [cI_0h D _ _ _ (by simp)]
  | n + 1 => by
    simp only [s1]
    rw [stack_d hM i n]
    have e : M * ((n + 1 : Nat) : Int) = M * n + M := by rw [Int.natCast_add, Int.mul_add]; simp
    have z : Y + M * (i + n) = Y + M * i + M * n := by rw [Int.mul_add]; omega
    rw [e, cI_h (M * n) M (Int.mul_nonneg hM (by omega)) hM, z]
theorem stack_r {D : Int → Int → Bool} {X Y M H : Int} (hM : 0 ≤ M) (i : Int) : ∀ n : Nat, s1 (fun a => cI D (X + M * a) Y M H) i n = cI D (X + M * i) Y (M * n) H
  | 0 => by simp only [s1]; rw [cI_0w D _ _ _ (by simp)]
  | n + 1 => by
    simp only [s1]
    rw [stack_r hM i n]
    have e : M * ((n + 1 : Nat) : Int) = M * n + M := by rw [Int.natCast_add, Int.mul_add]; simp
    have z : X + M * (i + n) = X + M * i + M * n := by rw [Int.mul_add]; omega
    rw [e, cI_w (M * n) M (Int.mul_nonneg hM (by omega)) hM, z]
theorem s1_rev (g : Int → Int) (T : Int) : ∀ (n : Nat) (i : Int), s1 (fun a => g (T - a)) i n = s1 g (T - i - n + 1) n
  | 0, i => rfl
  | n + 1, i => by
    have h := s1_rev g T n i
    have e : s1 (fun a => g (T - a)) i (n + 1) = s1 (fun a => g (T - a)) i n + g (T - (i + n)) := rfl
    have sp := s1_split g (T - i - ((n + 1 : Nat) : Int) + 1) 1 n
    have z1 : (1 : Nat) + n = n + 1 := by omega
    have z2 : T - i - ((n + 1 : Nat) : Int) + 1 + ((1 : Nat) : Int) = T - i - n + 1 := by omega
    have z3 : s1 g (T - i - ((n + 1 : Nat) : Int) + 1) 1 = g (T - (i + n)) := by
      show (0 : Int) + g (T - i - ((n + 1 : Nat) : Int) + 1 + ((0 : Nat) : Int)) = _
      rw [Int.zero_add]; congr 1; omega
    rw [z1, z2, z3] at sp
    rw [e, h, sp]; omega
theorem s2_s1 (g : Int → Int → Int) (x y : Int) (w : Nat) : ∀ n : Nat, s2 g x y w n = s1 (fun j => s1 (fun i => g i j) x w) y n
  | 0 => rfl
  | n + 1 => by simp only [s2, s1]; rw [s2_s1 g x y w n]
/-- the blocks of a box of modules, wherever the quarter lays them -/
def qX (S Q a b n m : Int) : Int := if Q = 0 then a else if Q = 1 then S - b - m else if Q = 2 then S - a - n else b
def qY (S Q a b n m : Int) : Int := if Q = 0 then b else if Q = 1 then a else if Q = 2 then S - b - m else S - a - n
def qW (Q n m : Int) : Int := if Q % 2 = 0 then n else m
theorem sI_cB {D : Int → Int → Bool} {x y M S Q a b : Int} (n m : Int) (hM : 0 ≤ M) (q0 : 0 ≤ Q) (q3 : Q ≤ 3) (n1 : 0 ≤ n) (m1 : 0 ≤ m) :
    sI (cB D x y M S Q) a b n m = cI D (x + M * qX S Q a b n m) (y + M * qY S Q a b n m) (M * qW Q n m) (M * qW Q m n) := by
  unfold sI
  rw [s2_s1]
  have en : ((n.toNat : Nat) : Int) = n := by omega
  have em : ((m.toNat : Nat) : Int) = m := by omega
  rcases (show Q = 0 ∨ Q = 1 ∨ Q = 2 ∨ Q = 3 by omega) with r | r | r | r
  · subst r
    have f : (fun j => s1 (fun i => cB D x y M S 0 i j) a n.toNat) = (fun j => cI D (x + M * a) (y + M * j) (M * n) M) := by
      funext j
      have f : (fun i => cB D x y M S 0 i j) = (fun i => cI D (x + M * i) (y + M * j) M M) := by funext i; unfold cB bA bB; simp
      rw [f, stack_r hM, en]
    rw [f, stack_d hM, em]; rfl
  · subst r
    have f : (fun j => s1 (fun i => cB D x y M S 1 i j) a n.toNat) = (fun j => (fun k => cI D (x + M * k) (y + M * a) M (M * n)) (S - 1 - j)) := by
      funext j
      have f : (fun i => cB D x y M S 1 i j) = (fun i => cI D (x + M * (S - 1 - j)) (y + M * i) M M) := by funext i; unfold cB bA bB; simp
      rw [f, stack_d hM, en]
    rw [f, s1_rev (fun k => cI D (x + M * k) (y + M * a) M (M * n)) (S - 1), stack_r hM, em]
    have e : S - 1 - b - m + 1 = S - b - m := by omega
    rw [e]; rfl
  · subst r
    have f : (fun j => s1 (fun i => cB D x y M S 2 i j) a n.toNat) = (fun j => (fun k => cI D (x + M * (S - a - n)) (y + M * k) (M * n) M) (S - 1 - j)) := by
      funext j
      have f : (fun i => cB D x y M S 2 i j) = (fun i => (fun k => cI D (x + M * k) (y + M * (S - 1 - j)) M M) (S - 1 - i)) := by funext i; unfold cB bA bB; simp
      rw [f, s1_rev (fun k => cI D (x + M * k) (y + M * (S - 1 - j)) M M) (S - 1), stack_r hM, en]
      have e : S - 1 - a - n + 1 = S - a - n := by omega
      rw [e]
    rw [f, s1_rev (fun k => cI D (x + M * (S - a - n)) (y + M * k) (M * n) M) (S - 1), stack_d hM, em]
    have e : S - 1 - b - m + 1 = S - b - m := by omega
    rw [e]; rfl
  · subst r
    have f : (fun j => s1 (fun i => cB D x y M S 3 i j) a n.toNat) = (fun j => cI D (x + M * j) (y + M * (S - a - n)) M (M * n)) := by
      funext j
      have f : (fun i => cB D x y M S 3 i j) = (fun i => (fun k => cI D (x + M * j) (y + M * k) M M) (S - 1 - i)) := by funext i; unfold cB bA bB; simp
      rw [f, s1_rev (fun k => cI D (x + M * j) (y + M * k) M M) (S - 1), stack_d hM, en]
      have e : S - 1 - a - n + 1 = S - a - n := by omega
      rw [e]
    rw [f, stack_r hM, em]; rfl

/-- eight times eight modules of a corner: the light ones count their dark dots, the dark ones the rest -/
def dk (p q : Int) : Bool := decide (dst p q 3 3 ≠ 2 ∧ dst p q 3 3 ≠ 4)
set_option maxHeartbeats 4000000 in
theorem corner8 {g f : Int → Int → Int} {MM a b ox oy : Int} (o : ox = 0 ∧ oy = 0 ∨ ox = 1 ∧ oy = 0 ∨ ox = 0 ∧ oy = 1)
    (h : ∀ k l : Int, 0 ≤ k → k < 8 → 0 ≤ l → l < 8 → g (a + k) (b + l) = if dk (k - ox) (l - oy) = true then MM - f (a + k) (b + l) else f (a + k) (b + l)) :
    sI g a b 8 8 = 33 * MM + sI f a b 8 8 - 2 * sI f (a + ox) (b + oy) 7 7 + 2 * sI f (a + ox + 1) (b + oy + 1) 5 5 - 2 * sI f (a + ox + 2) (b + oy + 2) 3 3 := by
  have G : ∀ (c : Bool) (k l : Int), 0 ≤ k → k < 8 → 0 ≤ l → l < 8 → dk (k - ox) (l - oy) = c → g (a + k) (b + l) = if c = true then MM - f (a + k) (b + l) else f (a + k) (b + l) := fun c k l h1 h2 h3 h4 e => by rw [h k l h1 h2 h3 h4, e]
  have U : ∀ (u : Int → Int → Int) (x y w n : Int) (w' n' : Nat), w.toNat = w' → n.toNat = n' → sI u x y w n = s1 (fun j => s1 (fun i => u i j) x w') y n' := fun u x y w n w' n' e1 e2 => by unfold sI; rw [s2_s1, e1, e2]
  have S8 : ∀ (u : Int → Int) (x : Int), s1 u x 8 = u x + u (x + 1) + u (x + 2) + u (x + 3) + u (x + 4) + u (x + 5) + u (x + 6) + u (x + 7) := fun u x => by simp [s1]
  have S7 : ∀ (u : Int → Int) (x : Int), s1 u x 7 = u x + u (x + 1) + u (x + 2) + u (x + 3) + u (x + 4) + u (x + 5) + u (x + 6) := fun u x => by simp [s1]
  have S5 : ∀ (u : Int → Int) (x : Int), s1 u x 5 = u x + u (x + 1) + u (x + 2) + u (x + 3) + u (x + 4) := fun u x => by simp [s1]
  have S3 : ∀ (u : Int → Int) (x : Int), s1 u x 3 = u x + u (x + 1) + u (x + 2) := fun u x => by simp [s1]
  have z : ∀ t : Int, t + 0 = t := fun t => by omega
  have A : ∀ t p q r : Int, p + q = r → t + p + q = t + r := fun t p q r e => by omega
  rw [U g a b 8 8 8 8 rfl rfl, U f a b 8 8 8 8 rfl rfl, U f _ _ 7 7 7 7 rfl rfl, U f _ _ 5 5 5 5 rfl rfl, U f _ _ 3 3 3 3 rfl rfl]
  simp only [S8, S7, S5, S3]
  rcases o with ⟨rfl, rfl⟩ | ⟨rfl, rfl⟩ | ⟨rfl, rfl⟩
  · skip
    have q00 : g a b = MM - f a b := by have t := G true 0 0 (by decide) (by decide) (by decide) (by decide) (by decide); simp only [Int.add_zero] at t; exact t
    have q10 : g (a + 1) b = MM - f (a + 1) b := by have t := G true 1 0 (by decide) (by decide) (by decide) (by decide) (by decide); simp only [Int.add_zero] at t; exact t
    have q20 : g (a + 2) b = MM - f (a + 2) b := by have t := G true 2 0 (by decide) (by decide) (by decide) (by decide) (by decide); simp only [Int.add_zero] at t; exact t
    have q30 : g (a + 3) b = MM - f (a + 3) b := by have t := G true 3 0 (by decide) (by decide) (by decide) (by decide) (by decide); simp only [Int.add_zero] at t; exact t
    have q40 : g (a + 4) b = MM - f (a + 4) b := by have t := G true 4 0 (by decide) (by decide) (by decide) (by decide) (by decide); simp only [Int.add_zero] at t; exact t
    have q50 : g (a + 5) b = MM - f (a + 5) b := by have t := G true 5 0 (by decide) (by decide) (by decide) (by decide) (by decide); simp only [Int.add_zero] at t; exact t
    have q60 : g (a + 6) b = MM - f (a + 6) b := by have t := G true 6 0 (by decide) (by decide) (by decide) (by decide) (by decide); simp only [Int.add_zero] at t; exact t
    have q70 : g (a + 7) b = f (a + 7) b := by have t := G false 7 0 (by decide) (by decide) (by decide) (by decide) (by decide); simp only [Int.add_zero] at t; exact t
    have q01 : g a (b + 1) = MM - f a (b + 1) := by have t := G true 0 1 (by decide) (by decide) (by decide) (by decide) (by decide); simp only [Int.add_zero] at t; exact t
    have q11 : g (a + 1) (b + 1) = f (a + 1) (b + 1) := by have t := G false 1 1 (by decide) (by decide) (by decide) (by decide) (by decide); exact t
    have q21 : g (a + 2) (b + 1) = f (a + 2) (b + 1) := by have t := G false 2 1 (by decide) (by decide) (by decide) (by decide) (by decide); exact t
    have q31 : g (a + 3) (b + 1) = f (a + 3) (b + 1) := by have t := G false 3 1 (by decide) (by decide) (by decide) (by decide) (by decide); exact t
    have q41 : g (a + 4) (b + 1) = f (a + 4) (b + 1) := by have t := G false 4 1 (by decide) (by decide) (by decide) (by decide) (by decide); exact t
    have q51 : g (a + 5) (b + 1) = f (a + 5) (b + 1) := by have t := G false 5 1 (by decide) (by decide) (by decide) (by decide) (by decide); exact t
    have q61 : g (a + 6) (b + 1) = MM - f (a + 6) (b + 1) := by have t := G true 6 1 (by decide) (by decide) (by decide) (by decide) (by decide); exact t
    have q71 : g (a + 7) (b + 1) = f (a + 7) (b + 1) := by have t := G false 7 1 (by decide) (by decide) (by decide) (by decide) (by decide); exact t
    have q02 : g a (b + 2) = MM - f a (b + 2) := by have t := G true 0 2 (by decide) (by decide) (by decide) (by decide) (by decide); simp only [Int.add_zero] at t; exact t
    have q12 : g (a + 1) (b + 2) = f (a + 1) (b + 2) := by have t := G false 1 2 (by decide) (by decide) (by decide) (by decide) (by decide); exact t
    have q22 : g (a + 2) (b + 2) = MM - f (a + 2) (b + 2) := by have t := G true 2 2 (by decide) (by decide) (by decide) (by decide) (by decide); exact t
    have q32 : g (a + 3) (b + 2) = MM - f (a + 3) (b + 2) := by have t := G true 3 2 (by decide) (by decide) (by decide) (by decide) (by decide); exact t
    have q42 : g (a + 4) (b + 2) = MM - f (a + 4) (b + 2) := by have t := G true 4 2 (by decide) (by decide) (by decide) (by decide) (by decide); exact t
    have q52 : g (a + 5) (b + 2) = f (a + 5) (b + 2) := by have t := G false 5 2 (by decide) (by decide) (by decide) (by decide) (by decide); exact t
    have q62 : g (a + 6) (b + 2) = MM - f (a + 6) (b + 2) := by have t := G true 6 2 (by decide) (by decide) (by decide) (by decide) (by decide); exact t
    have q72 : g (a + 7) (b + 2) = f (a + 7) (b + 2) := by have t := G false 7 2 (by decide) (by decide) (by decide) (by decide) (by decide); exact t
    have q03 : g a (b + 3) = MM - f a (b + 3) := by have t := G true 0 3 (by decide) (by decide) (by decide) (by decide) (by decide); simp only [Int.add_zero] at t; exact t
    have q13 : g (a + 1) (b + 3) = f (a + 1) (b + 3) := by have t := G false 1 3 (by decide) (by decide) (by decide) (by decide) (by decide); exact t
    have q23 : g (a + 2) (b + 3) = MM - f (a + 2) (b + 3) := by have t := G true 2 3 (by decide) (by decide) (by decide) (by decide) (by decide); exact t
    have q33 : g (a + 3) (b + 3) = MM - f (a + 3) (b + 3) := by have t := G true 3 3 (by decide) (by decide) (by decide) (by decide) (by decide); exact t
    have q43 : g (a + 4) (b + 3) = MM - f (a + 4) (b + 3) := by have t := G true 4 3 (by decide) (by decide) (by decide) (by decide) (by decide); exact t
    have q53 : g (a + 5) (b + 3) = f (a + 5) (b + 3) := by have t := G false 5 3 (by decide) (by decide) (by decide) (by decide) (by decide); exact t
    have q63 : g (a + 6) (b + 3) = MM - f (a + 6) (b + 3) := by have t := G true 6 3 (by decide) (by decide) (by decide) (by decide) (by decide); exact t
    have q73 : g (a + 7) (b + 3) = f (a + 7) (b + 3) := by have t := G false 7 3 (by decide) (by decide) (by decide) (by decide) (by decide); exact t
    have q04 : g a (b + 4) = MM - f a (b + 4) := by have t := G true 0 4 (by decide) (by decide) (by decide) (by decide) (by decide); simp only [Int.add_zero] at t; exact t
    have q14 : g (a + 1) (b + 4) = f (a + 1) (b + 4) := by have t := G false 1 4 (by decide) (by decide) (by decide) (by decide) (by decide); exact t
    have q24 : g (a + 2) (b + 4) = MM - f (a + 2) (b + 4) := by have t := G true 2 4 (by decide) (by decide) (by decide) (by decide) (by decide); exact t
    have q34 : g (a + 3) (b + 4) = MM - f (a + 3) (b + 4) := by have t := G true 3 4 (by decide) (by decide) (by decide) (by decide) (by decide); exact t
    have q44 : g (a + 4) (b + 4) = MM - f (a + 4) (b + 4) := by have t := G true 4 4 (by decide) (by decide) (by decide) (by decide) (by decide); exact t
    have q54 : g (a + 5) (b + 4) = f (a + 5) (b + 4) := by have t := G false 5 4 (by decide) (by decide) (by decide) (by decide) (by decide); exact t
    have q64 : g (a + 6) (b + 4) = MM - f (a + 6) (b + 4) := by have t := G true 6 4 (by decide) (by decide) (by decide) (by decide) (by decide); exact t
    have q74 : g (a + 7) (b + 4) = f (a + 7) (b + 4) := by have t := G false 7 4 (by decide) (by decide) (by decide) (by decide) (by decide); exact t
    have q05 : g a (b + 5) = MM - f a (b + 5) := by have t := G true 0 5 (by decide) (by decide) (by decide) (by decide) (by decide); simp only [Int.add_zero] at t; exact t
    have q15 : g (a + 1) (b + 5) = f (a + 1) (b + 5) := by have t := G false 1 5 (by decide) (by decide) (by decide) (by decide) (by decide); exact t
    have q25 : g (a + 2) (b + 5) = f (a + 2) (b + 5) := by have t := G false 2 5 (by decide) (by decide) (by decide) (by decide) (by decide); exact t
    have q35 : g (a + 3) (b + 5) = f (a + 3) (b + 5) := by have t := G false 3 5 (by decide) (by decide) (by decide) (by decide) (by decide); exact t
    have q45 : g (a + 4) (b + 5) = f (a + 4) (b + 5) := by have t := G false 4 5 (by decide) (by decide) (by decide) (by decide) (by decide); exact t
    have q55 : g (a + 5) (b + 5) = f (a + 5) (b + 5) := by have t := G false 5 5 (by decide) (by decide) (by decide) (by decide) (by decide); exact t
    have q65 : g (a + 6) (b + 5) = MM - f (a + 6) (b + 5) := by have t := G true 6 5 (by decide) (by decide) (by decide) (by decide) (by decide); exact t
    have q75 : g (a + 7) (b + 5) = f (a + 7) (b + 5) := by have t := G false 7 5 (by decide) (by decide) (by decide) (by decide) (by decide); exact t
    have q06 : g a (b + 6) = MM - f a (b + 6) := by have t := G true 0 6 (by decide) (by decide) (by decide) (by decide) (by decide); simp only [Int.add_zero] at t; exact t
    have q16 : g (a + 1) (b + 6) = MM - f (a + 1) (b + 6) := by have t := G true 1 6 (by decide) (by decide) (by decide) (by decide) (by decide); exact t
    have q26 : g (a + 2) (b + 6) = MM - f (a + 2) (b + 6) := by have t := G true 2 6 (by decide) (by decide) (by decide) (by decide) (by decide); exact t
    have q36 : g (a + 3) (b + 6) = MM - f (a + 3) (b + 6) := by have t := G true 3 6 (by decide) (by decide) (by decide) (by decide) (by decide); exact t
    have q46 : g (a + 4) (b + 6) = MM - f (a + 4) (b + 6) := by have t := G true 4 6 (by decide) (by decide) (by decide) (by decide) (by decide); exact t
    have q56 : g (a + 5) (b + 6) = MM - f (a + 5) (b + 6) := by have t := G true 5 6 (by decide) (by decide) (by decide) (by decide) (by decide); exact t
    have q66 : g (a + 6) (b + 6) = MM - f (a + 6) (b + 6) := by have t := G true 6 6 (by decide) (by decide) (by decide) (by decide) (by decide); exact t
    have q76 : g (a + 7) (b + 6) = f (a + 7) (b + 6) := by have t := G false 7 6 (by decide) (by decide) (by decide) (by decide) (by decide); exact t
    have q07 : g a (b + 7) = f a (b + 7) := by have t := G false 0 7 (by decide) (by decide) (by decide) (by decide) (by decide); simp only [Int.add_zero] at t; exact t
    have q17 : g (a + 1) (b + 7) = f (a + 1) (b + 7) := by have t := G false 1 7 (by decide) (by decide) (by decide) (by decide) (by decide); exact t
    have q27 : g (a + 2) (b + 7) = f (a + 2) (b + 7) := by have t := G false 2 7 (by decide) (by decide) (by decide) (by decide) (by decide); exact t
    have q37 : g (a + 3) (b + 7) = f (a + 3) (b + 7) := by have t := G false 3 7 (by decide) (by decide) (by decide) (by decide) (by decide); exact t
    have q47 : g (a + 4) (b + 7) = f (a + 4) (b + 7) := by have t := G false 4 7 (by decide) (by decide) (by decide) (by decide) (by decide); exact t
    have q57 : g (a + 5) (b + 7) = f (a + 5) (b + 7) := by have t := G false 5 7 (by decide) (by decide) (by decide) (by decide) (by decide); exact t
    have q67 : g (a + 6) (b + 7) = f (a + 6) (b + 7) := by have t := G false 6 7 (by decide) (by decide) (by decide) (by decide) (by decide); exact t
    have q77 : g (a + 7) (b + 7) = f (a + 7) (b + 7) := by have t := G false 7 7 (by decide) (by decide) (by decide) (by decide) (by decide); exact t
    clear h G U S8 S7 S5 S3 A
    simp only [Int.add_assoc, Int.reduceAdd, Int.add_zero]
    rw [q00, q10, q20, q30, q40, q50, q60, q70, q01, q11, q21, q31, q41, q51, q61, q71, q02, q12, q22, q32, q42, q52, q62, q72, q03, q13, q23, q33, q43, q53, q63, q73, q04, q14, q24, q34, q44, q54, q64, q74, q05, q15, q25, q35, q45, q55, q65, q75, q06, q16, q26, q36, q46, q56, q66, q76, q07, q17, q27, q37, q47, q57, q67, q77]
    clear q00 q10 q20 q30 q40 q50 q60 q70 q01 q11 q21 q31 q41 q51 q61 q71 q02 q12 q22 q32 q42 q52 q62 q72 q03 q13 q23 q33 q43 q53 q63 q73 q04 q14 q24 q34 q44 q54 q64 q74 q05 q15 q25 q35 q45 q55 q65 q75 q06 q16 q26 q36 q46 q56 q66 q76 q07 q17 q27 q37 q47 q57 q67 q77
    omega
  · skip
    have q00 : g a b = f a b := by have t := G false 0 0 (by decide) (by decide) (by decide) (by decide) (by decide); simp only [Int.add_zero] at t; exact t
    have q10 : g (a + 1) b = MM - f (a + 1) b := by have t := G true 1 0 (by decide) (by decide) (by decide) (by decide) (by decide); simp only [Int.add_zero] at t; exact t
    have q20 : g (a + 2) b = MM - f (a + 2) b := by have t := G true 2 0 (by decide) (by decide) (by decide) (by decide) (by decide); simp only [Int.add_zero] at t; exact t
    have q30 : g (a + 3) b = MM - f (a + 3) b := by have t := G true 3 0 (by decide) (by decide) (by decide) (by decide) (by decide); simp only [Int.add_zero] at t; exact t
    have q40 : g (a + 4) b = MM - f (a + 4) b := by have t := G true 4 0 (by decide) (by decide) (by decide) (by decide) (by decide); simp only [Int.add_zero] at t; exact t
    have q50 : g (a + 5) b = MM - f (a + 5) b := by have t := G true 5 0 (by decide) (by decide) (by decide) (by decide) (by decide); simp only [Int.add_zero] at t; exact t
    have q60 : g (a + 6) b = MM - f (a + 6) b := by have t := G true 6 0 (by decide) (by decide) (by decide) (by decide) (by decide); simp only [Int.add_zero] at t; exact t
    have q70 : g (a + 7) b = MM - f (a + 7) b := by have t := G true 7 0 (by decide) (by decide) (by decide) (by decide) (by decide); simp only [Int.add_zero] at t; exact t
    have q01 : g a (b + 1) = f a (b + 1) := by have t := G false 0 1 (by decide) (by decide) (by decide) (by decide) (by decide); simp only [Int.add_zero] at t; exact t
    have q11 : g (a + 1) (b + 1) = MM - f (a + 1) (b + 1) := by have t := G true 1 1 (by decide) (by decide) (by decide) (by decide) (by decide); exact t
    have q21 : g (a + 2) (b + 1) = f (a + 2) (b + 1) := by have t := G false 2 1 (by decide) (by decide) (by decide) (by decide) (by decide); exact t
    have q31 : g (a + 3) (b + 1) = f (a + 3) (b + 1) := by have t := G false 3 1 (by decide) (by decide) (by decide) (by decide) (by decide); exact t
    have q41 : g (a + 4) (b + 1) = f (a + 4) (b + 1) := by have t := G false 4 1 (by decide) (by decide) (by decide) (by decide) (by decide); exact t
    have q51 : g (a + 5) (b + 1) = f (a + 5) (b + 1) := by have t := G false 5 1 (by decide) (by decide) (by decide) (by decide) (by decide); exact t
    have q61 : g (a + 6) (b + 1) = f (a + 6) (b + 1) := by have t := G false 6 1 (by decide) (by decide) (by decide) (by decide) (by decide); exact t
    have q71 : g (a + 7) (b + 1) = MM - f (a + 7) (b + 1) := by have t := G true 7 1 (by decide) (by decide) (by decide) (by decide) (by decide); exact t
    have q02 : g a (b + 2) = f a (b + 2) := by have t := G false 0 2 (by decide) (by decide) (by decide) (by decide) (by decide); simp only [Int.add_zero] at t; exact t
    have q12 : g (a + 1) (b + 2) = MM - f (a + 1) (b + 2) := by have t := G true 1 2 (by decide) (by decide) (by decide) (by decide) (by decide); exact t
    have q22 : g (a + 2) (b + 2) = f (a + 2) (b + 2) := by have t := G false 2 2 (by decide) (by decide) (by decide) (by decide) (by decide); exact t
    have q32 : g (a + 3) (b + 2) = MM - f (a + 3) (b + 2) := by have t := G true 3 2 (by decide) (by decide) (by decide) (by decide) (by decide); exact t
    have q42 : g (a + 4) (b + 2) = MM - f (a + 4) (b + 2) := by have t := G true 4 2 (by decide) (by decide) (by decide) (by decide) (by decide); exact t
    have q52 : g (a + 5) (b + 2) = MM - f (a + 5) (b + 2) := by have t := G true 5 2 (by decide) (by decide) (by decide) (by decide) (by decide); exact t
    have q62 : g (a + 6) (b + 2) = f (a + 6) (b + 2) := by have t := G false 6 2 (by decide) (by decide) (by decide) (by decide) (by decide); exact t
    have q72 : g (a + 7) (b + 2) = MM - f (a + 7) (b + 2) := by have t := G true 7 2 (by decide) (by decide) (by decide) (by decide) (by decide); exact t
    have q03 : g a (b + 3) = f a (b + 3) := by have t := G false 0 3 (by decide) (by decide) (by decide) (by decide) (by decide); simp only [Int.add_zero] at t; exact t
    have q13 : g (a + 1) (b + 3) = MM - f (a + 1) (b + 3) := by have t := G true 1 3 (by decide) (by decide) (by decide) (by decide) (by decide); exact t
    have q23 : g (a + 2) (b + 3) = f (a + 2) (b + 3) := by have t := G false 2 3 (by decide) (by decide) (by decide) (by decide) (by decide); exact t
    have q33 : g (a + 3) (b + 3) = MM - f (a + 3) (b + 3) := by have t := G true 3 3 (by decide) (by decide) (by decide) (by decide) (by decide); exact t
    have q43 : g (a + 4) (b + 3) = MM - f (a + 4) (b + 3) := by have t := G true 4 3 (by decide) (by decide) (by decide) (by decide) (by decide); exact t
    have q53 : g (a + 5) (b + 3) = MM - f (a + 5) (b + 3) := by have t := G true 5 3 (by decide) (by decide) (by decide) (by decide) (by decide); exact t
    have q63 : g (a + 6) (b + 3) = f (a + 6) (b + 3) := by have t := G false 6 3 (by decide) (by decide) (by decide) (by decide) (by decide); exact t
    have q73 : g (a + 7) (b + 3) = MM - f (a + 7) (b + 3) := by have t := G true 7 3 (by decide) (by decide) (by decide) (by decide) (by decide); exact t
    have q04 : g a (b + 4) = f a (b + 4) := by have t := G false 0 4 (by decide) (by decide) (by decide) (by decide) (by decide); simp only [Int.add_zero] at t; exact t
    have q14 : g (a + 1) (b + 4) = MM - f (a + 1) (b + 4) := by have t := G true 1 4 (by decide) (by decide) (by decide) (by decide) (by decide); exact t
    have q24 : g (a + 2) (b + 4) = f (a + 2) (b + 4) := by have t := G false 2 4 (by decide) (by decide) (by decide) (by decide) (by decide); exact t
    have q34 : g (a + 3) (b + 4) = MM - f (a + 3) (b + 4) := by have t := G true 3 4 (by decide) (by decide) (by decide) (by decide) (by decide); exact t
    have q44 : g (a + 4) (b + 4) = MM - f (a + 4) (b + 4) := by have t := G true 4 4 (by decide) (by decide) (by decide) (by decide) (by decide); exact t
    have q54 : g (a + 5) (b + 4) = MM - f (a + 5) (b + 4) := by have t := G true 5 4 (by decide) (by decide) (by decide) (by decide) (by decide); exact t
    have q64 : g (a + 6) (b + 4) = f (a + 6) (b + 4) := by have t := G false 6 4 (by decide) (by decide) (by decide) (by decide) (by decide); exact t
    have q74 : g (a + 7) (b + 4) = MM - f (a + 7) (b + 4) := by have t := G true 7 4 (by decide) (by decide) (by decide) (by decide) (by decide); exact t
    have q05 : g a (b + 5) = f a (b + 5) := by have t := G false 0 5 (by decide) (by decide) (by decide) (by decide) (by decide); simp only [Int.add_zero] at t; exact t
    have q15 : g (a + 1) (b + 5) = MM - f (a + 1) (b + 5) := by have t := G true 1 5 (by decide) (by decide) (by decide) (by decide) (by decide); exact t
    have q25 : g (a + 2) (b + 5) = f (a + 2) (b + 5) := by have t := G false 2 5 (by decide) (by decide) (by decide) (by decide) (by decide); exact t
    have q35 : g (a + 3) (b + 5) = f (a + 3) (b + 5) := by have t := G false 3 5 (by decide) (by decide) (by decide) (by decide) (by decide); exact t
    have q45 : g (a + 4) (b + 5) = f (a + 4) (b + 5) := by have t := G false 4 5 (by decide) (by decide) (by decide) (by decide) (by decide); exact t
    have q55 : g (a + 5) (b + 5) = f (a + 5) (b + 5) := by have t := G false 5 5 (by decide) (by decide) (by decide) (by decide) (by decide); exact t
    have q65 : g (a + 6) (b + 5) = f (a + 6) (b + 5) := by have t := G false 6 5 (by decide) (by decide) (by decide) (by decide) (by decide); exact t
    have q75 : g (a + 7) (b + 5) = MM - f (a + 7) (b + 5) := by have t := G true 7 5 (by decide) (by decide) (by decide) (by decide) (by decide); exact t
    have q06 : g a (b + 6) = f a (b + 6) := by have t := G false 0 6 (by decide) (by decide) (by decide) (by decide) (by decide); simp only [Int.add_zero] at t; exact t
    have q16 : g (a + 1) (b + 6) = MM - f (a + 1) (b + 6) := by have t := G true 1 6 (by decide) (by decide) (by decide) (by decide) (by decide); exact t
    have q26 : g (a + 2) (b + 6) = MM - f (a + 2) (b + 6) := by have t := G true 2 6 (by decide) (by decide) (by decide) (by decide) (by decide); exact t
    have q36 : g (a + 3) (b + 6) = MM - f (a + 3) (b + 6) := by have t := G true 3 6 (by decide) (by decide) (by decide) (by decide) (by decide); exact t
    have q46 : g (a + 4) (b + 6) = MM - f (a + 4) (b + 6) := by have t := G true 4 6 (by decide) (by decide) (by decide) (by decide) (by decide); exact t
    have q56 : g (a + 5) (b + 6) = MM - f (a + 5) (b + 6) := by have t := G true 5 6 (by decide) (by decide) (by decide) (by decide) (by decide); exact t
    have q66 : g (a + 6) (b + 6) = MM - f (a + 6) (b + 6) := by have t := G true 6 6 (by decide) (by decide) (by decide) (by decide) (by decide); exact t
    have q76 : g (a + 7) (b + 6) = MM - f (a + 7) (b + 6) := by have t := G true 7 6 (by decide) (by decide) (by decide) (by decide) (by decide); exact t
    have q07 : g a (b + 7) = f a (b + 7) := by have t := G false 0 7 (by decide) (by decide) (by decide) (by decide) (by decide); simp only [Int.add_zero] at t; exact t
    have q17 : g (a + 1) (b + 7) = f (a + 1) (b + 7) := by have t := G false 1 7 (by decide) (by decide) (by decide) (by decide) (by decide); exact t
    have q27 : g (a + 2) (b + 7) = f (a + 2) (b + 7) := by have t := G false 2 7 (by decide) (by decide) (by decide) (by decide) (by decide); exact t
    have q37 : g (a + 3) (b + 7) = f (a + 3) (b + 7) := by have t := G false 3 7 (by decide) (by decide) (by decide) (by decide) (by decide); exact t
    have q47 : g (a + 4) (b + 7) = f (a + 4) (b + 7) := by have t := G false 4 7 (by decide) (by decide) (by decide) (by decide) (by decide); exact t
    have q57 : g (a + 5) (b + 7) = f (a + 5) (b + 7) := by have t := G false 5 7 (by decide) (by decide) (by decide) (by decide) (by decide); exact t
    have q67 : g (a + 6) (b + 7) = f (a + 6) (b + 7) := by have t := G false 6 7 (by decide) (by decide) (by decide) (by decide) (by decide); exact t
    have q77 : g (a + 7) (b + 7) = f (a + 7) (b + 7) := by have t := G false 7 7 (by decide) (by decide) (by decide) (by decide) (by decide); exact t
    clear h G U S8 S7 S5 S3 A
    simp only [Int.add_assoc, Int.reduceAdd, Int.add_zero]
    rw [q00, q10, q20, q30, q40, q50, q60, q70, q01, q11, q21, q31, q41, q51, q61, q71, q02, q12, q22, q32, q42, q52, q62, q72, q03, q13, q23, q33, q43, q53, q63, q73, q04, q14, q24, q34, q44, q54, q64, q74, q05, q15, q25, q35, q45, q55, q65, q75, q06, q16, q26, q36, q46, q56, q66, q76, q07, q17, q27, q37, q47, q57, q67, q77]
    clear q00 q10 q20 q30 q40 q50 q60 q70 q01 q11 q21 q31 q41 q51 q61 q71 q02 q12 q22 q32 q42 q52 q62 q72 q03 q13 q23 q33 q43 q53 q63 q73 q04 q14 q24 q34 q44 q54 q64 q74 q05 q15 q25 q35 q45 q55 q65 q75 q06 q16 q26 q36 q46 q56 q66 q76 q07 q17 q27 q37 q47 q57 q67 q77
    omega
  · skip
    have q00 : g a b = f a b := by have t := G false 0 0 (by decide) (by decide) (by decide) (by decide) (by decide); simp only [Int.add_zero] at t; exact t
    have q10 : g (a + 1) b = f (a + 1) b := by have t := G false 1 0 (by decide) (by decide) (by decide) (by decide) (by decide); simp only [Int.add_zero] at t; exact t
    have q20 : g (a + 2) b = f (a + 2) b := by have t := G false 2 0 (by decide) (by decide) (by decide) (by decide) (by decide); simp only [Int.add_zero] at t; exact t
    have q30 : g (a + 3) b = f (a + 3) b := by have t := G false 3 0 (by decide) (by decide) (by decide) (by decide) (by decide); simp only [Int.add_zero] at t; exact t
    have q40 : g (a + 4) b = f (a + 4) b := by have t := G false 4 0 (by decide) (by decide) (by decide) (by decide) (by decide); simp only [Int.add_zero] at t; exact t
    have q50 : g (a + 5) b = f (a + 5) b := by have t := G false 5 0 (by decide) (by decide) (by decide) (by decide) (by decide); simp only [Int.add_zero] at t; exact t
    have q60 : g (a + 6) b = f (a + 6) b := by have t := G false 6 0 (by decide) (by decide) (by decide) (by decide) (by decide); simp only [Int.add_zero] at t; exact t
    have q70 : g (a + 7) b = f (a + 7) b := by have t := G false 7 0 (by decide) (by decide) (by decide) (by decide) (by decide); simp only [Int.add_zero] at t; exact t
    have q01 : g a (b + 1) = MM - f a (b + 1) := by have t := G true 0 1 (by decide) (by decide) (by decide) (by decide) (by decide); simp only [Int.add_zero] at t; exact t
    have q11 : g (a + 1) (b + 1) = MM - f (a + 1) (b + 1) := by have t := G true 1 1 (by decide) (by decide) (by decide) (by decide) (by decide); exact t
    have q21 : g (a + 2) (b + 1) = MM - f (a + 2) (b + 1) := by have t := G true 2 1 (by decide) (by decide) (by decide) (by decide) (by decide); exact t
    have q31 : g (a + 3) (b + 1) = MM - f (a + 3) (b + 1) := by have t := G true 3 1 (by decide) (by decide) (by decide) (by decide) (by decide); exact t
    have q41 : g (a + 4) (b + 1) = MM - f (a + 4) (b + 1) := by have t := G true 4 1 (by decide) (by decide) (by decide) (by decide) (by decide); exact t
    have q51 : g (a + 5) (b + 1) = MM - f (a + 5) (b + 1) := by have t := G true 5 1 (by decide) (by decide) (by decide) (by decide) (by decide); exact t
    have q61 : g (a + 6) (b + 1) = MM - f (a + 6) (b + 1) := by have t := G true 6 1 (by decide) (by decide) (by decide) (by decide) (by decide); exact t
    have q71 : g (a + 7) (b + 1) = f (a + 7) (b + 1) := by have t := G false 7 1 (by decide) (by decide) (by decide) (by decide) (by decide); exact t
    have q02 : g a (b + 2) = MM - f a (b + 2) := by have t := G true 0 2 (by decide) (by decide) (by decide) (by decide) (by decide); simp only [Int.add_zero] at t; exact t
    have q12 : g (a + 1) (b + 2) = f (a + 1) (b + 2) := by have t := G false 1 2 (by decide) (by decide) (by decide) (by decide) (by decide); exact t
    have q22 : g (a + 2) (b + 2) = f (a + 2) (b + 2) := by have t := G false 2 2 (by decide) (by decide) (by decide) (by decide) (by decide); exact t
    have q32 : g (a + 3) (b + 2) = f (a + 3) (b + 2) := by have t := G false 3 2 (by decide) (by decide) (by decide) (by decide) (by decide); exact t
    have q42 : g (a + 4) (b + 2) = f (a + 4) (b + 2) := by have t := G false 4 2 (by decide) (by decide) (by decide) (by decide) (by decide); exact t
    have q52 : g (a + 5) (b + 2) = f (a + 5) (b + 2) := by have t := G false 5 2 (by decide) (by decide) (by decide) (by decide) (by decide); exact t
    have q62 : g (a + 6) (b + 2) = MM - f (a + 6) (b + 2) := by have t := G true 6 2 (by decide) (by decide) (by decide) (by decide) (by decide); exact t
    have q72 : g (a + 7) (b + 2) = f (a + 7) (b + 2) := by have t := G false 7 2 (by decide) (by decide) (by decide) (by decide) (by decide); exact t
    have q03 : g a (b + 3) = MM - f a (b + 3) := by have t := G true 0 3 (by decide) (by decide) (by decide) (by decide) (by decide); simp only [Int.add_zero] at t; exact t
    have q13 : g (a + 1) (b + 3) = f (a + 1) (b + 3) := by have t := G false 1 3 (by decide) (by decide) (by decide) (by decide) (by decide); exact t
    have q23 : g (a + 2) (b + 3) = MM - f (a + 2) (b + 3) := by have t := G true 2 3 (by decide) (by decide) (by decide) (by decide) (by decide); exact t
    have q33 : g (a + 3) (b + 3) = MM - f (a + 3) (b + 3) := by have t := G true 3 3 (by decide) (by decide) (by decide) (by decide) (by decide); exact t
    have q43 : g (a + 4) (b + 3) = MM - f (a + 4) (b + 3) := by have t := G true 4 3 (by decide) (by decide) (by decide) (by decide) (by decide); exact t
    have q53 : g (a + 5) (b + 3) = f (a + 5) (b + 3) := by have t := G false 5 3 (by decide) (by decide) (by decide) (by decide) (by decide); exact t
    have q63 : g (a + 6) (b + 3) = MM - f (a + 6) (b + 3) := by have t := G true 6 3 (by decide) (by decide) (by decide) (by decide) (by decide); exact t
    have q73 : g (a + 7) (b + 3) = f (a + 7) (b + 3) := by have t := G false 7 3 (by decide) (by decide) (by decide) (by decide) (by decide); exact t
    have q04 : g a (b + 4) = MM - f a (b + 4) := by have t := G true 0 4 (by decide) (by decide) (by decide) (by decide) (by decide); simp only [Int.add_zero] at t; exact t
    have q14 : g (a + 1) (b + 4) = f (a + 1) (b + 4) := by have t := G false 1 4 (by decide) (by decide) (by decide) (by decide) (by decide); exact t
    have q24 : g (a + 2) (b + 4) = MM - f (a + 2) (b + 4) := by have t := G true 2 4 (by decide) (by decide) (by decide) (by decide) (by decide); exact t
    have q34 : g (a + 3) (b + 4) = MM - f (a + 3) (b + 4) := by have t := G true 3 4 (by decide) (by decide) (by decide) (by decide) (by decide); exact t
    have q44 : g (a + 4) (b + 4) = MM - f (a + 4) (b + 4) := by have t := G true 4 4 (by decide) (by decide) (by decide) (by decide) (by decide); exact t
    have q54 : g (a + 5) (b + 4) = f (a + 5) (b + 4) := by have t := G false 5 4 (by decide) (by decide) (by decide) (by decide) (by decide); exact t
    have q64 : g (a + 6) (b + 4) = MM - f (a + 6) (b + 4) := by have t := G true 6 4 (by decide) (by decide) (by decide) (by decide) (by decide); exact t
    have q74 : g (a + 7) (b + 4) = f (a + 7) (b + 4) := by have t := G false 7 4 (by decide) (by decide) (by decide) (by decide) (by decide); exact t
    have q05 : g a (b + 5) = MM - f a (b + 5) := by have t := G true 0 5 (by decide) (by decide) (by decide) (by decide) (by decide); simp only [Int.add_zero] at t; exact t
    have q15 : g (a + 1) (b + 5) = f (a + 1) (b + 5) := by have t := G false 1 5 (by decide) (by decide) (by decide) (by decide) (by decide); exact t
    have q25 : g (a + 2) (b + 5) = MM - f (a + 2) (b + 5) := by have t := G true 2 5 (by decide) (by decide) (by decide) (by decide) (by decide); exact t
    have q35 : g (a + 3) (b + 5) = MM - f (a + 3) (b + 5) := by have t := G true 3 5 (by decide) (by decide) (by decide) (by decide) (by decide); exact t
    have q45 : g (a + 4) (b + 5) = MM - f (a + 4) (b + 5) := by have t := G true 4 5 (by decide) (by decide) (by decide) (by decide) (by decide); exact t
    have q55 : g (a + 5) (b + 5) = f (a + 5) (b + 5) := by have t := G false 5 5 (by decide) (by decide) (by decide) (by decide) (by decide); exact t
    have q65 : g (a + 6) (b + 5) = MM - f (a + 6) (b + 5) := by have t := G true 6 5 (by decide) (by decide) (by decide) (by decide) (by decide); exact t
    have q75 : g (a + 7) (b + 5) = f (a + 7) (b + 5) := by have t := G false 7 5 (by decide) (by decide) (by decide) (by decide) (by decide); exact t
    have q06 : g a (b + 6) = MM - f a (b + 6) := by have t := G true 0 6 (by decide) (by decide) (by decide) (by decide) (by decide); simp only [Int.add_zero] at t; exact t
    have q16 : g (a + 1) (b + 6) = f (a + 1) (b + 6) := by have t := G false 1 6 (by decide) (by decide) (by decide) (by decide) (by decide); exact t
    have q26 : g (a + 2) (b + 6) = f (a + 2) (b + 6) := by have t := G false 2 6 (by decide) (by decide) (by decide) (by decide) (by decide); exact t
    have q36 : g (a + 3) (b + 6) = f (a + 3) (b + 6) := by have t := G false 3 6 (by decide) (by decide) (by decide) (by decide) (by decide); exact t
    have q46 : g (a + 4) (b + 6) = f (a + 4) (b + 6) := by have t := G false 4 6 (by decide) (by decide) (by decide) (by decide) (by decide); exact t
    have q56 : g (a + 5) (b + 6) = f (a + 5) (b + 6) := by have t := G false 5 6 (by decide) (by decide) (by decide) (by decide) (by decide); exact t
    have q66 : g (a + 6) (b + 6) = MM - f (a + 6) (b + 6) := by have t := G true 6 6 (by decide) (by decide) (by decide) (by decide) (by decide); exact t
    have q76 : g (a + 7) (b + 6) = f (a + 7) (b + 6) := by have t := G false 7 6 (by decide) (by decide) (by decide) (by decide) (by decide); exact t
    have q07 : g a (b + 7) = MM - f a (b + 7) := by have t := G true 0 7 (by decide) (by decide) (by decide) (by decide) (by decide); simp only [Int.add_zero] at t; exact t
    have q17 : g (a + 1) (b + 7) = MM - f (a + 1) (b + 7) := by have t := G true 1 7 (by decide) (by decide) (by decide) (by decide) (by decide); exact t
    have q27 : g (a + 2) (b + 7) = MM - f (a + 2) (b + 7) := by have t := G true 2 7 (by decide) (by decide) (by decide) (by decide) (by decide); exact t
    have q37 : g (a + 3) (b + 7) = MM - f (a + 3) (b + 7) := by have t := G true 3 7 (by decide) (by decide) (by decide) (by decide) (by decide); exact t
    have q47 : g (a + 4) (b + 7) = MM - f (a + 4) (b + 7) := by have t := G true 4 7 (by decide) (by decide) (by decide) (by decide) (by decide); exact t
    have q57 : g (a + 5) (b + 7) = MM - f (a + 5) (b + 7) := by have t := G true 5 7 (by decide) (by decide) (by decide) (by decide) (by decide); exact t
    have q67 : g (a + 6) (b + 7) = MM - f (a + 6) (b + 7) := by have t := G true 6 7 (by decide) (by decide) (by decide) (by decide) (by decide); exact t
    have q77 : g (a + 7) (b + 7) = f (a + 7) (b + 7) := by have t := G false 7 7 (by decide) (by decide) (by decide) (by decide) (by decide); exact t
    clear h G U S8 S7 S5 S3 A
    simp only [Int.add_assoc, Int.reduceAdd, Int.add_zero]
    rw [q00, q10, q20, q30, q40, q50, q60, q70, q01, q11, q21, q31, q41, q51, q61, q71, q02, q12, q22, q32, q42, q52, q62, q72, q03, q13, q23, q33, q43, q53, q63, q73, q04, q14, q24, q34, q44, q54, q64, q74, q05, q15, q25, q35, q45, q55, q65, q75, q06, q16, q26, q36, q46, q56, q66, q76, q07, q17, q27, q37, q47, q57, q67, q77]
    clear q00 q10 q20 q30 q40 q50 q60 q70 q01 q11 q21 q31 q41 q51 q61 q71 q02 q12 q22 q32 q42 q52 q62 q72 q03 q13 q23 q33 q43 q53 q63 q73 q04 q14 q24 q34 q44 q54 q64 q74 q05 q15 q25 q35 q45 q55 q65 q75 q06 q16 q26 q36 q46 q56 q66 q76 q07 q17 q27 q37 q47 q57 q67 q77
    omega
theorem mdl_c0 {S i j : Int} (i0 : 0 ≤ i) (i1 : i < 8) (j0 : 0 ≤ j) (j1 : j < 8) : mdl S i j = cC (dst i j 3 3) := by
  unfold mdl
  exact if_pos (by unfold dst ap; (repeat' split) <;> omega)
theorem mdl_c1 {S k j : Int} (hS : 21 ≤ S) (i0 : 0 ≤ k) (i1 : k < 8) (j0 : 0 ≤ j) (j1 : j < 8) : mdl S (S - 8 + k) j = cC (dst (k - 1) j 3 3) := by
  have e : dst (S - 8 + k) j (S - 4) 3 = dst (k - 1) j 3 3 := by unfold dst ap; (repeat' split) <;> omega
  unfold mdl
  rw [if_neg (dst_far (by omega)), e]
  exact if_pos (by unfold dst ap; (repeat' split) <;> omega)
theorem mdl_c2 {S k i : Int} (hS : 21 ≤ S) (i0 : 0 ≤ i) (i1 : i < 8) (j0 : 0 ≤ k) (j1 : k < 8) : mdl S i (S - 8 + k) = cC (dst i (k - 1) 3 3) := by
  have e : dst i (S - 8 + k) 3 (S - 4) = dst i (k - 1) 3 3 := by unfold dst ap; (repeat' split) <;> omega
  unfold mdl
  rw [if_neg (dst_far (by omega)), if_neg (dst_far (by omega)), e]
  exact if_pos (by unfold dst ap; (repeat' split) <;> omega)
theorem mdl_r {S i : Int} (hS : 21 ≤ S) (i0 : 8 ≤ i) (i1 : i ≤ S - 9) : mdl S i 6 = if i % 2 = 0 then 1 else 0 := by
  unfold mdl
  rw [if_neg (dst_far (by omega)), if_neg (dst_far (by omega)), if_neg (dst_far (by omega)), if_pos (by omega)]
theorem mdl_d {S j : Int} (hS : 21 ≤ S) (i0 : 8 ≤ j) (i1 : j ≤ S - 9) : mdl S 6 j = if j % 2 = 0 then 1 else 0 := by
  unfold mdl
  rw [if_neg (dst_far (by omega)), if_neg (dst_far (by omega)), if_neg (dst_far (by omega)), if_neg (by omega), if_pos (by omega)]
theorem mdl_s {S : Int} (hS : 21 ≤ S) : mdl S 8 (S - 8) = 1 := by
  unfold mdl
  rw [if_neg (dst_far (by omega)), if_neg (dst_far (by omega)), if_neg (dst_far (by omega)), if_neg (by omega), if_neg (by omega), if_pos (by omega)]
theorem gG_c {D : Int → Int → Bool} {x y M S Q i j p q : Int} (h : mdl S i j = cC (dst p q 3 3)) : gG (gW D x y M S Q) S i j = if dk p q = true then M * M - cB D x y M S Q i j else cB D x y M S Q i j := by
  unfold gG gW dk
  rw [h]; unfold cC
  by_cases c : dst p q 3 3 = 2 ∨ dst p q 3 3 = 4
  · rw [if_pos c, if_neg (by decide), if_neg (by decide), if_neg]
    rw [decide_eq_true_iff]; omega
  · rw [if_neg c, if_neg (by decide), if_pos rfl, if_pos]
    rw [decide_eq_true_iff]; omega
theorem gG_1 {D : Int → Int → Bool} {x y M S Q i j : Int} (h : mdl S i j = 1) : gG (gW D x y M S Q) S i j = M * M - cB D x y M S Q i j := by
  unfold gG gW; rw [h, if_neg (by decide), if_pos rfl]
theorem gG_0 {D : Int → Int → Bool} {x y M S Q i j : Int} (h : mdl S i j = 0) : gG (gW D x y M S Q) S i j = cB D x y M S Q i j := by
  unfold gG gW; rw [h, if_neg (by decide), if_neg (by decide)]
/-- where a corner's seven times seven modules begin -/
abbrev fX (x M S k : Int) : Int := x + (if k = 1 ∨ k = 2 then (S - 7) * M else 0)
abbrev fY (y M S k : Int) : Int := y + (if 2 ≤ k then (S - 7) * M else 0)
abbrev LXk (x M S k : Int) : Int := x + M * (if k = 1 then S - 7 else if k = 3 then 6 else 8)
abbrev LYk (y M S k : Int) : Int := y + M * (if k = 0 then 6 else if k = 2 then S - 7 else 8)
/-- the wrong dots of a side's changing modules, and of the one that stands alone -/
def LSk (D : Int → Int → Bool) (x y M S k : Int) : Int := s1 (lwF D M (LXk x M S k) (LYk y M S k) (if k % 2 = 0 then M else 0)) 0 (S - 16).toNat
def spA (S q : Int) : Int := if q = 0 then 8 else if q = 1 then 7 else if q = 2 then S - 9 else S - 8
def spB (S q : Int) : Int := if q = 0 then S - 8 else if q = 1 then 8 else if q = 2 then 7 else S - 9
def spW (D : Int → Int → Bool) (x y M S q : Int) : Int := M * M - cI D (x + M * spA S q) (y + M * spB S q) M M
/-- a corner of the sheet's symbol -/
abbrev cWk (D : Int → Int → Bool) (x y M S k : Int) : Int := cW D M k (fX x M S k) (fY y M S k)
theorem cI_eq {D : Int → Int → Bool} {x y w h x' y' w' h' : Int} (a : x = x') (b : y = y') (c : w = w') (d : h = h') : cI D x y w h = cI D x' y' w' h' := by rw [a, b, c, d]
set_option maxHeartbeats 4000000 in
theorem corner_q {D : Int → Int → Bool} {x y M S Q : Int} (hM : 1 ≤ M) (hS : 21 ≤ S) (q0 : 0 ≤ Q) (q3 : Q ≤ 3) :
    sI (gG (gW D x y M S Q) S) 0 0 8 8 = cWk D x y M S Q ∧ sI (gG (gW D x y M S Q) S) (S - 8) 0 8 8 = cWk D x y M S ((Q + 1) % 4) ∧ sI (gG (gW D x y M S Q) S) 0 (S - 8) 8 8 = cWk D x y M S ((Q + 3) % 4) := by
  have c0 := corner8 (g := gG (gW D x y M S Q) S) (f := cB D x y M S Q) (MM := M * M) (a := 0) (b := 0) (ox := 0) (oy := 0) (Or.inl ⟨rfl, rfl⟩) (fun k l k0 k1 l0 l1 => by
    rw [Int.zero_add, Int.zero_add, Int.sub_zero, Int.sub_zero]; exact gG_c (mdl_c0 k0 k1 l0 l1))
  have c1 := corner8 (g := gG (gW D x y M S Q) S) (f := cB D x y M S Q) (MM := M * M) (a := S - 8) (b := 0) (ox := 1) (oy := 0) (Or.inr (Or.inl ⟨rfl, rfl⟩)) (fun k l k0 k1 l0 l1 => by
    rw [Int.zero_add, Int.sub_zero]; exact gG_c (mdl_c1 hS k0 k1 l0 l1))
  have c2 := corner8 (g := gG (gW D x y M S Q) S) (f := cB D x y M S Q) (MM := M * M) (a := 0) (b := S - 8) (ox := 0) (oy := 1) (Or.inr (Or.inr ⟨rfl, rfl⟩)) (fun k l k0 k1 l0 l1 => by
    rw [Int.zero_add, Int.sub_zero]; exact gG_c (mdl_c2 hS k0 k1 l0 l1))
  have m8 : ∀ a b n : Int, 0 ≤ n → sI (cB D x y M S Q) a b n n = cI D (x + M * qX S Q a b n n) (y + M * qY S Q a b n n) (M * qW Q n n) (M * qW Q n n) := fun a b n hn => sI_cB n n (by omega) q0 q3 hn hn
  rw [m8 _ _ 8 (by decide), m8 _ _ 7 (by decide), m8 _ _ 5 (by decide), m8 _ _ 3 (by decide)] at c0 c1 c2
  rw [c0, c1, c2]
  clear c0 c1 c2 m8
  have e7 : (S - 7) * M = M * S - 7 * M := by rw [Int.sub_mul, Int.mul_comm S M]
  have em : ∀ a b : Int, M * (a - b) = M * a - M * b := fun a b => Int.mul_sub _ _ _
  have ea : ∀ a b : Int, M * (a + b) = M * a + M * b := fun a b => Int.mul_add _ _ _
  rcases (show Q = 0 ∨ Q = 1 ∨ Q = 2 ∨ Q = 3 by omega) with r | r | r | r <;> subst r <;> refine ⟨?_, ?_, ?_⟩ <;> unfold cWk cW fX fY qX qY qW <;> simp only [Int.reduceAdd, Int.reduceMod, reduceIte, Int.reduceEq, Int.reduceLE, or_true, true_or, or_false, or_self, Int.reduceNeg, Int.zero_add, Int.add_zero, Int.sub_zero, e7, Int.mul_zero] <;> skip
  all_goals
    refine congr (congrArg HSub.hSub (congr (congrArg HAdd.hAdd (congr (congrArg HSub.hSub (congrArg (fun t => 33 * (M * M) + t) (cI_eq ?_ ?_ ?_ ?_))) (congrArg (fun t => 2 * t) (cI_eq ?_ ?_ ?_ ?_)))) (congrArg (fun t => 2 * t) (cI_eq ?_ ?_ ?_ ?_)))) (congrArg (fun t => 2 * t) (cI_eq ?_ ?_ ?_ ?_)) <;> (try simp only [em, ea]) <;> omega
/-- the lines -/
theorem lin_f {D : Int → Int → Bool} {x y M S Q : Int} (hS : 21 ≤ S) {n : Nat} (hn : (n : Int) ≤ S - 16) (lx ly st : Int) (h : ∀ t : Int, 0 ≤ t → t < S - 16 → cB D x y M S Q (8 + t) 6 = cI D (lx + t * st) (ly + t * (M - st)) M M) :
    s1 (fun i => gG (gW D x y M S Q) S i 6) 8 n = s1 (lwF D M lx ly st) 0 n := by
  induction n with
  | zero => rfl
  | succ n ih =>
    simp only [s1]
    rw [ih (by omega)]
    congr 1
    have m := mdl_r (S := S) (i := 8 + n) hS (by omega) (by omega)
    rw [Int.zero_add]
    unfold lwF
    by_cases c : (n : Int) % 2 = 0
    · rw [if_pos (by omega)] at m
      rw [gG_1 m, if_pos c, h n (by omega) (by omega)]
    · rw [if_neg (by omega)] at m
      rw [gG_0 m, if_neg c, h n (by omega) (by omega)]
theorem lin_b {D : Int → Int → Bool} {x y M S Q : Int} (hS : 21 ≤ S) (hS4 : S % 2 = 1) (lx ly st : Int) (h : ∀ t : Int, 0 ≤ t → t < S - 16 → cB D x y M S Q (8 + t) 6 = cI D (lx + (S - 17 - t) * st) (ly + (S - 17 - t) * (M - st)) M M) :
    s1 (fun i => gG (gW D x y M S Q) S i 6) 8 (S - 16).toNat = s1 (lwF D M lx ly st) 0 (S - 16).toNat := by
  have r := s1_rev (lwF D M lx ly st) (S - 9) (S - 16).toNat 8
  have e : S - 9 - 8 - (((S - 16).toNat : Nat) : Int) + 1 = 0 := by omega
  rw [e] at r
  rw [← r]
  apply s1_congr
  intro i i0 i1
  have m := mdl_r (S := S) (i := i) hS (by omega) (by omega)
  have t := h (i - 8) (by omega) (by omega)
  have z1 : 8 + (i - 8) = i := by omega
  have z2 : S - 17 - (i - 8) = S - 9 - i := by omega
  rw [z1, z2] at t
  show gG (gW D x y M S Q) S i 6 = lwF D M lx ly st (S - 9 - i)
  unfold lwF
  by_cases c : (S - 9 - i) % 2 = 0
  · rw [if_pos (by omega)] at m
    rw [gG_1 m, if_pos c, t]
  · rw [if_neg (by omega)] at m
    rw [gG_0 m, if_neg c, t]
theorem col_f {D : Int → Int → Bool} {x y M S Q : Int} (hS : 21 ≤ S) {n : Nat} (hn : (n : Int) ≤ S - 16) (lx ly st : Int) (h : ∀ t : Int, 0 ≤ t → t < S - 16 → cB D x y M S Q 6 (8 + t) = cI D (lx + t * st) (ly + t * (M - st)) M M) :
    s1 (fun j => gG (gW D x y M S Q) S 6 j) 8 n = s1 (lwF D M lx ly st) 0 n := by
  induction n with
  | zero => rfl
  | succ n ih =>
    simp only [s1]
    rw [ih (by omega)]
    congr 1
    have m := mdl_d (S := S) (j := 8 + n) hS (by omega) (by omega)
    rw [Int.zero_add]
    unfold lwF
    by_cases c : (n : Int) % 2 = 0
    · rw [if_pos (by omega)] at m
      rw [gG_1 m, if_pos c, h n (by omega) (by omega)]
    · rw [if_neg (by omega)] at m
      rw [gG_0 m, if_neg c, h n (by omega) (by omega)]
theorem col_b {D : Int → Int → Bool} {x y M S Q : Int} (hS : 21 ≤ S) (hS4 : S % 2 = 1) (lx ly st : Int) (h : ∀ t : Int, 0 ≤ t → t < S - 16 → cB D x y M S Q 6 (8 + t) = cI D (lx + (S - 17 - t) * st) (ly + (S - 17 - t) * (M - st)) M M) :
    s1 (fun j => gG (gW D x y M S Q) S 6 j) 8 (S - 16).toNat = s1 (lwF D M lx ly st) 0 (S - 16).toNat := by
  have r := s1_rev (lwF D M lx ly st) (S - 9) (S - 16).toNat 8
  have e : S - 9 - 8 - (((S - 16).toNat : Nat) : Int) + 1 = 0 := by omega
  rw [e] at r
  rw [← r]
  apply s1_congr
  intro i i0 i1
  have m := mdl_d (S := S) (j := i) hS (by omega) (by omega)
  have t := h (i - 8) (by omega) (by omega)
  have z1 : 8 + (i - 8) = i := by omega
  have z2 : S - 17 - (i - 8) = S - 9 - i := by omega
  rw [z1, z2] at t
  show gG (gW D x y M S Q) S 6 i = lwF D M lx ly st (S - 9 - i)
  unfold lwF
  by_cases c : (S - 9 - i) % 2 = 0
  · rw [if_pos (by omega)] at m
    rw [gG_1 m, if_pos c, t]
  · rw [if_neg (by omega)] at m
    rw [gG_0 m, if_neg c, t]
theorem sI_row1 {g : Int → Int → Int} {x y w : Int} : sI g x y w 1 = s1 (fun i => g i y) x w.toNat := by
  unfold sI
  have e : (1 : Int).toNat = 0 + 1 := rfl
  rw [e]; simp only [s2]
  have z : y + ((0 : Nat) : Int) = y := by omega
  rw [z]; omega
theorem sI_col1 {g : Int → Int → Int} {x y h : Int} : sI g x y 1 h = s1 (fun j => g x j) y h.toNat := by
  unfold sI
  rw [s2_s1]
  have e : (1 : Int).toNat = 0 + 1 := rfl
  rw [e]
  have f : (fun j => s1 (fun i => g i j) x (0 + 1)) = (fun j => g x j) := by
    funext j
    show (0 : Int) + g (x + ((0 : Nat) : Int)) j = g x j
    have z : x + ((0 : Nat) : Int) = x := by omega
    rw [z]; omega
  rw [f]
set_option maxHeartbeats 4000000 in
theorem lines_q {D : Int → Int → Bool} {x y M S Q : Int} (hS : 21 ≤ S) (hS4 : S % 2 = 1) (q0 : 0 ≤ Q) (q3 : Q ≤ 3) :
    sI (gG (gW D x y M S Q) S) 8 6 (S - 16) 1 = LSk D x y M S Q ∧ sI (gG (gW D x y M S Q) S) 6 8 1 (S - 16) = LSk D x y M S ((Q + 3) % 4) := by
  have en : (((S - 16).toNat : Nat) : Int) ≤ S - 16 := by omega
  have em : ∀ a b : Int, M * (a - b) = M * a - M * b := fun a b => Int.mul_sub _ _ _
  have ea : ∀ a b : Int, M * (a + b) = M * a + M * b := fun a b => Int.mul_add _ _ _
  have cm : ∀ t : Int, t * M = M * t := fun t => Int.mul_comm _ _
  rw [sI_row1, sI_col1]
  rcases (show Q = 0 ∨ Q = 1 ∨ Q = 2 ∨ Q = 3 by omega) with r | r | r | r <;> subst r <;> unfold LSk LXk LYk
  · exact ⟨lin_f hS en _ _ _ (fun t t0 t1 => cI_eq (by unfold bA; simp [ea, cm]; try omega) (by unfold bB; simp) rfl rfl), col_f hS en _ _ _ (fun t t0 t1 => cI_eq (by unfold bA; simp) (by unfold bB; simp [ea, cm]; try omega) rfl rfl)⟩
  · exact ⟨lin_f hS en _ _ _ (fun t t0 t1 => cI_eq (by unfold bA; simp [em]; try omega) (by unfold bB; simp [ea, cm]; try omega) rfl rfl), col_b hS hS4 _ _ _ (fun t t0 t1 => cI_eq (by unfold bA; simp [ea, em, cm]; try omega) (by unfold bB; simp) rfl rfl)⟩
  · exact ⟨lin_b hS hS4 _ _ _ (fun t t0 t1 => cI_eq (by unfold bA; simp [ea, em, cm]; try omega) (by unfold bB; simp [em]; try omega) rfl rfl), col_b hS hS4 _ _ _ (fun t t0 t1 => cI_eq (by unfold bA; simp [em]; try omega) (by unfold bB; simp [ea, em, cm]; try omega) rfl rfl)⟩
  · exact ⟨lin_b hS hS4 _ _ _ (fun t t0 t1 => cI_eq (by unfold bA; simp) (by unfold bB; simp [ea, em, cm]; try omega) rfl rfl), col_f hS en _ _ _ (fun t t0 t1 => cI_eq (by unfold bA; simp [ea, cm]; try omega) (by unfold bB; simp [em]; try omega) rfl rfl)⟩
theorem spot_q {D : Int → Int → Bool} {x y M S Q : Int} (hS : 21 ≤ S) (q0 : 0 ≤ Q) (q3 : Q ≤ 3) : gG (gW D x y M S Q) S 8 (S - 8) = spW D x y M S Q := by
  rw [gG_1 (mdl_s hS)]
  unfold spW cB
  have a : bA S Q 8 (S - 8) = spA S Q := by unfold bA spA; (repeat' split) <;> omega
  have b : bB S Q 8 (S - 8) = spB S Q := by unfold bB spB; (repeat' split) <;> omega
  rw [a, b]
theorem TW_parts {D : Int → Int → Bool} {x y M v Q S : Int} (hM : 1 ≤ M) (hv : 1 ≤ v) (eS : S = 17 + 4 * v) (q0 : 0 ≤ Q) (q3 : Q ≤ 3) :
    TW D x y M v Q = cWk D x y M S Q + cWk D x y M S ((Q + 1) % 4) + cWk D x y M S ((Q + 3) % 4) + LSk D x y M S Q + LSk D x y M S ((Q + 3) % 4) + spW D x y M S Q := by
  unfold TW
  rw [← eS, sI_parts (g := gG (gW D x y M S Q) S) (S := S) (by omega) (fun i j _ _ _ _ m => if_pos m)]
  obtain ⟨a, b, c⟩ := corner_q (D := D) (x := x) (y := y) hM (show 21 ≤ S by omega) q0 q3
  obtain ⟨d, e⟩ := lines_q (D := D) (x := x) (y := y) (M := M) (show 21 ≤ S by omega) (by omega) q0 q3
  rw [a, b, c, d, e, spot_q (by omega) q0 q3]
