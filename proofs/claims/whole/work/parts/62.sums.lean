/-! sums over a box of whole numbers, and the fixed modules' parts -/
def s1 (g : Int → Int) (x : Int) : Nat → Int
  | 0 => 0
  | n + 1 => s1 g x n + g (x + n)
def s2 (g : Int → Int → Int) (x y : Int) (w : Nat) : Nat → Int
  | 0 => 0
  | n + 1 => s2 g x y w n + s1 (fun i => g i (y + n)) x w
def sI (g : Int → Int → Int) (x y w h : Int) : Int := s2 g x y w.toNat h.toNat
theorem s1_split (g : Int → Int) (x : Int) (a b : Nat) : s1 g x (a + b) = s1 g x a + s1 g (x + a) b := by
  induction b with
  | zero => simp [s1]
  | succ b ih =>
    show s1 g x (a + b) + g (x + ((a + b : Nat) : Int)) = s1 g x a + (s1 g (x + a) b + g (x + a + b))
    have e : x + ((a + b : Nat) : Int) = x + a + b := by omega
    rw [ih, e]; omega
theorem s1_congr {g k : Int → Int} {x : Int} {n : Nat} (h : ∀ i : Int, x ≤ i → i < x + n → g i = k i) : s1 g x n = s1 k x n := by
  induction n with
  | zero => rfl
  | succ n ih =>
    simp only [s1]
    rw [ih (fun i h1 h2 => h i h1 (by omega)), h (x + n) (by omega) (by omega)]
theorem s1_zero {g : Int → Int} {x : Int} {n : Nat} (h : ∀ i : Int, x ≤ i → i < x + n → g i = 0) : s1 g x n = 0 := by
  induction n with
  | zero => rfl
  | succ n ih =>
    simp only [s1]
    rw [ih (fun i h1 h2 => h i h1 (by omega)), h (x + n) (by omega) (by omega)]; rfl
theorem s2_h (g : Int → Int → Int) (x y : Int) (w a b : Nat) : s2 g x y w (a + b) = s2 g x y w a + s2 g x (y + a) w b := by
  induction b with
  | zero => simp [s2]
  | succ b ih =>
    show s2 g x y w (a + b) + s1 (fun i => g i (y + ((a + b : Nat) : Int))) x w = s2 g x y w a + (s2 g x (y + a) w b + s1 (fun i => g i (y + a + b)) x w)
    have e : y + ((a + b : Nat) : Int) = y + a + b := by omega
    rw [ih, e]; omega
theorem s2_w (g : Int → Int → Int) (x y : Int) (a b h : Nat) : s2 g x y (a + b) h = s2 g x y a h + s2 g (x + a) y b h := by
  induction h with
  | zero => simp [s2]
  | succ h ih => simp only [s2]; rw [ih, s1_split]; omega
theorem sI_w {g : Int → Int → Int} {x y h : Int} (a b : Int) (ha : 0 ≤ a) (hb : 0 ≤ b) : sI g x y (a + b) h = sI g x y a h + sI g (x + a) y b h := by
  unfold sI
  have e : (a + b).toNat = a.toNat + b.toNat := by omega
  have e2 : ((a.toNat : Nat) : Int) = a := by omega
  rw [e, s2_w, e2]
theorem sI_h {g : Int → Int → Int} {x y w : Int} (a b : Int) (ha : 0 ≤ a) (hb : 0 ≤ b) : sI g x y w (a + b) = sI g x y w a + sI g x (y + a) w b := by
  unfold sI
  have e : (a + b).toNat = a.toNat + b.toNat := by omega
  have e2 : ((a.toNat : Nat) : Int) = a := by omega
  rw [e, s2_h, e2]
theorem s2_congr {g k : Int → Int → Int} {x y : Int} {w n : Nat} (h : ∀ i j : Int, x ≤ i → i < x + w → y ≤ j → j < y + n → g i j = k i j) : s2 g x y w n = s2 k x y w n := by
  induction n with
  | zero => rfl
  | succ n ih =>
    simp only [s2]
    rw [ih (fun i j h1 h2 h3 h4 => h i j h1 h2 h3 (by omega)), s1_congr (fun i h1 h2 => h i (y + n) h1 h2 (by omega) (by omega))]
theorem sI_congr {g k : Int → Int → Int} {x y w h : Int} (q : ∀ i j : Int, x ≤ i → i < x + w → y ≤ j → j < y + h → g i j = k i j) : sI g x y w h = sI k x y w h := by
  unfold sI
  exact s2_congr (fun i j h1 h2 h3 h4 => q i j h1 (by omega) h3 (by omega))
theorem s2_zero {g : Int → Int → Int} {x y : Int} {w n : Nat} (h : ∀ i j : Int, x ≤ i → i < x + w → y ≤ j → j < y + n → g i j = 0) : s2 g x y w n = 0 := by
  induction n with
  | zero => rfl
  | succ n ih =>
    simp only [s2]
    rw [ih (fun i j h1 h2 h3 h4 => h i j h1 h2 h3 (by omega)), s1_zero (fun i h1 h2 => h i (y + n) h1 h2 (by omega) (by omega))]; rfl
theorem sI_zero {g : Int → Int → Int} {x y w h : Int} (q : ∀ i j : Int, x ≤ i → i < x + w → y ≤ j → j < y + h → g i j = 0) : sI g x y w h = 0 := by
  unfold sI
  exact s2_zero (fun i j h1 h2 h3 h4 => q i j h1 (by omega) h3 (by omega))
theorem sI_one (g : Int → Int → Int) (x y : Int) : sI g x y 1 1 = g x y := by
  unfold sI
  simp [s2, s1]
/-- where no module is fixed -/
theorem dst_far {i j a b : Int} (h : a + 4 < i ∨ i < a - 4 ∨ b + 4 < j ∨ j < b - 4) : ¬ dst i j a b ≤ 4 := by
  unfold dst ap
  (repeat' split) <;> omega
theorem mdl_free {S i j : Int} (hS : 21 ≤ S) (i0 : 0 ≤ i) (i1 : i < S) (j0 : 0 ≤ j) (j1 : j < S) (q1 : ¬ (i < 8 ∧ j < 8)) (q2 : ¬ (S - 8 ≤ i ∧ j < 8)) (q3 : ¬ (i < 8 ∧ S - 8 ≤ j)) (q4 : ¬ (j = 6 ∧ 8 ≤ i ∧ i ≤ S - 9)) (q5 : ¬ (i = 6 ∧ 8 ≤ j ∧ j ≤ S - 9)) (q6 : ¬ (i = 8 ∧ j = S - 8)) : mdl S i j = -1 := by
  unfold mdl
  rw [if_neg (dst_far (by omega)), if_neg (dst_far (by omega)), if_neg (dst_far (by omega)), if_neg q4, if_neg q5, if_neg q6]
/-- what is 0 where no module is fixed: its sum over the symbol, by the six parts -/
theorem sI_parts {g : Int → Int → Int} {S : Int} (hS : 21 ≤ S) (hg : ∀ i j : Int, 0 ≤ i → i < S → 0 ≤ j → j < S → mdl S i j = -1 → g i j = 0) :
    sI g 0 0 S S = sI g 0 0 8 8 + sI g (S - 8) 0 8 8 + sI g 0 (S - 8) 8 8 + sI g 8 6 (S - 16) 1 + sI g 6 8 1 (S - 16) + g 8 (S - 8) := by
  have z : ∀ i j : Int, 0 ≤ i → i < S → 0 ≤ j → j < S → ¬ (i < 8 ∧ j < 8) → ¬ (S - 8 ≤ i ∧ j < 8) → ¬ (i < 8 ∧ S - 8 ≤ j) → ¬ (j = 6 ∧ 8 ≤ i ∧ i ≤ S - 9) → ¬ (i = 6 ∧ 8 ≤ j ∧ j ≤ S - 9) → ¬ (i = 8 ∧ j = S - 8) → g i j = 0 :=
    fun i j a b c d q1 q2 q3 q4 q5 q6 => hg i j a b c d (mdl_free hS a b c d q1 q2 q3 q4 q5 q6)
  have r0 : sI g 0 0 S (8 + (S - 16 + 8)) = sI g 0 0 S 8 + sI g 0 (0 + 8) S (S - 16 + 8) := sI_h _ _ (by omega) (by omega)
  have r1 : sI g 0 (0 + 8) S (S - 16 + 8) = sI g 0 (0 + 8) S (S - 16) + sI g 0 (0 + 8 + (S - 16)) S 8 := sI_h _ _ (by omega) (by omega)
  have c0 : ∀ y h : Int, sI g 0 y (8 + (S - 16 + 8)) h = sI g 0 y 8 h + (sI g (0 + 8) y (S - 16) h + sI g (0 + 8 + (S - 16)) y 8 h) := by
    intro y h
    rw [sI_w 8 (S - 16 + 8) (by omega) (by omega), sI_w (S - 16) 8 (by omega) (by omega)]
  have eS : 8 + (S - 16 + 8) = S := by omega
  have e8 : (0 : Int) + 8 = 8 := by omega
  have eT : 8 + (S - 16) = S - 8 := by omega
  rw [eS] at r0 c0
  simp only [e8, eT] at r0 r1 c0
  have t1 : sI g 8 0 (S - 16) 8 = sI g 8 6 (S - 16) 1 := by
    have a : sI g 8 0 (S - 16) (6 + (1 + 1)) = sI g 8 0 (S - 16) 6 + sI g 8 (0 + 6) (S - 16) (1 + 1) := sI_h _ _ (by omega) (by omega)
    have b : sI g 8 (0 + 6) (S - 16) (1 + 1) = sI g 8 (0 + 6) (S - 16) 1 + sI g 8 (0 + 6 + 1) (S - 16) 1 := sI_h _ _ (by omega) (by omega)
    have u : sI g 8 0 (S - 16) 6 = 0 := sI_zero (fun i j h1 h2 h3 h4 => z i j (by omega) (by omega) (by omega) (by omega) (by omega) (by omega) (by omega) (by omega) (by omega) (by omega))
    have v : sI g 8 (0 + 6 + 1) (S - 16) 1 = 0 := sI_zero (fun i j h1 h2 h3 h4 => z i j (by omega) (by omega) (by omega) (by omega) (by omega) (by omega) (by omega) (by omega) (by omega) (by omega))
    have e : (6 : Int) + (1 + 1) = 8 := by omega
    rw [e] at a
    rw [a, b, u, v]
    simp
  have t2 : sI g 0 8 8 (S - 16) = sI g 6 8 1 (S - 16) := by
    have a : sI g 0 8 (6 + (1 + 1)) (S - 16) = sI g 0 8 6 (S - 16) + sI g (0 + 6) 8 (1 + 1) (S - 16) := sI_w _ _ (by omega) (by omega)
    have b : sI g (0 + 6) 8 (1 + 1) (S - 16) = sI g (0 + 6) 8 1 (S - 16) + sI g (0 + 6 + 1) 8 1 (S - 16) := sI_w _ _ (by omega) (by omega)
    have u : sI g 0 8 6 (S - 16) = 0 := sI_zero (fun i j h1 h2 h3 h4 => z i j (by omega) (by omega) (by omega) (by omega) (by omega) (by omega) (by omega) (by omega) (by omega) (by omega))
    have v : sI g (0 + 6 + 1) 8 1 (S - 16) = 0 := sI_zero (fun i j h1 h2 h3 h4 => z i j (by omega) (by omega) (by omega) (by omega) (by omega) (by omega) (by omega) (by omega) (by omega) (by omega))
    have e : (6 : Int) + (1 + 1) = 8 := by omega
    rw [e] at a
    rw [a, b, u, v]
    simp
  have t3 : sI g 8 8 (S - 16) (S - 16) = 0 := sI_zero (fun i j h1 h2 h3 h4 => z i j (by omega) (by omega) (by omega) (by omega) (by omega) (by omega) (by omega) (by omega) (by omega) (by omega))
  have t4 : sI g (S - 8) 8 8 (S - 16) = 0 := sI_zero (fun i j h1 h2 h3 h4 => z i j (by omega) (by omega) (by omega) (by omega) (by omega) (by omega) (by omega) (by omega) (by omega) (by omega))
  have t5 : sI g (S - 8) (S - 8) 8 8 = 0 := sI_zero (fun i j h1 h2 h3 h4 => z i j (by omega) (by omega) (by omega) (by omega) (by omega) (by omega) (by omega) (by omega) (by omega) (by omega))
  have t6 : sI g 8 (S - 8) (S - 16) 8 = g 8 (S - 8) := by
    have a : sI g 8 (S - 8) (1 + (S - 17)) 8 = sI g 8 (S - 8) 1 8 + sI g (8 + 1) (S - 8) (S - 17) 8 := sI_w _ _ (by omega) (by omega)
    have b : sI g 8 (S - 8) 1 (1 + 7) = sI g 8 (S - 8) 1 1 + sI g 8 (S - 8 + 1) 1 7 := sI_h _ _ (by omega) (by omega)
    have u : sI g (8 + 1) (S - 8) (S - 17) 8 = 0 := sI_zero (fun i j h1 h2 h3 h4 => z i j (by omega) (by omega) (by omega) (by omega) (by omega) (by omega) (by omega) (by omega) (by omega) (by omega))
    have v : sI g 8 (S - 8 + 1) 1 7 = 0 := sI_zero (fun i j h1 h2 h3 h4 => z i j (by omega) (by omega) (by omega) (by omega) (by omega) (by omega) (by omega) (by omega) (by omega) (by omega))
    have e : (1 : Int) + (S - 17) = S - 16 := by omega
    have f : (1 : Int) + 7 = 8 := by omega
    rw [e] at a
    rw [f] at b
    rw [a, b, u, v, sI_one]; simp
  rw [r0, r1, c0 0 8, c0 8 (S - 16), c0 (S - 8) 8, t1, t2, t3, t4, t5, t6]
  omega
