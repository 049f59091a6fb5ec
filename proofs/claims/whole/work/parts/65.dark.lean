/-! a run's dark dots are those of its modules' blocks -/
def cB (D : Int → Int → Bool) (x y M S Q : Int) : Int → Int → Int := fun i j => cI D (x + M * bA S Q i j) (y + M * bB S Q i j) M M
theorem strip_r {D : Int → Int → Bool} {X Y M : Int} (hM : 0 ≤ M) (i : Int) : ∀ n : Nat, s1 (fun a => cI D (X + M * a) Y M M) i n = cI D (X + M * i) Y (M * n) M
  | 0 => by simp only [s1]; rw [cI_0w D _ _ _ (by simp)]
  | n + 1 => by
    simp only [s1]
    rw [strip_r hM i n]
    have e : M * ((n + 1 : Nat) : Int) = M * n + M := by rw [Int.natCast_add, Int.mul_add]; simp
    have z : X + M * (i + n) = X + M * i + M * n := by rw [Int.mul_add]; omega
    rw [e, cI_w (M * n) M (Int.mul_nonneg hM (by omega)) hM, z]
theorem strip_l {D : Int → Int → Bool} {X Y M T : Int} (hM : 0 ≤ M) (i : Int) : ∀ n : Nat, s1 (fun a => cI D (X + M * (T - a)) Y M M) i n = cI D (X + M * (T - i - n + 1)) Y (M * n) M
  | 0 => by simp only [s1]; rw [cI_0w D _ _ _ (by simp)]
  | n + 1 => by
    simp only [s1]
    rw [strip_l hM i n]
    have e : M * ((n + 1 : Nat) : Int) = M + M * n := by rw [Int.natCast_add, Int.mul_add]; simp; omega
    have z : T - i - ((n + 1 : Nat) : Int) + 1 = T - (i + n) := by omega
    have y : X + M * (T - (i + n)) + M = X + M * (T - i - n + 1) := by
      have : M * (T - i - n + 1) = M * (T - (i + n)) + M := by rw [show T - i - n + 1 = T - (i + n) + 1 by omega, Int.mul_add]; simp
      omega
    rw [e, z, cI_w M (M * n) hM (Int.mul_nonneg hM (by omega)), y]; omega
theorem strip_d {D : Int → Int → Bool} {X Y M : Int} (hM : 0 ≤ M) (i : Int) : ∀ n : Nat, s1 (fun a => cI D X (Y + M * a) M M) i n = cI D X (Y + M * i) M (M * n)
  | 0 => by simp only [s1]; rw [cI_0h D _ _ _ (by simp)]
  | n + 1 => by
    simp only [s1]
    rw [strip_d hM i n]
    have e : M * ((n + 1 : Nat) : Int) = M * n + M := by rw [Int.natCast_add, Int.mul_add]; simp
    have z : Y + M * (i + n) = Y + M * i + M * n := by rw [Int.mul_add]; omega
    rw [e, cI_h (M * n) M (Int.mul_nonneg hM (by omega)) hM, z]
theorem strip_u {D : Int → Int → Bool} {X Y M T : Int} (hM : 0 ≤ M) (i : Int) : ∀ n : Nat, s1 (fun a => cI D X (Y + M * (T - a)) M M) i n = cI D X (Y + M * (T - i - n + 1)) M (M * n)
  | 0 => by simp only [s1]; rw [cI_0h D _ _ _ (by simp)]
  | n + 1 => by
    simp only [s1]
    rw [strip_u hM i n]
    have e : M * ((n + 1 : Nat) : Int) = M + M * n := by rw [Int.natCast_add, Int.mul_add]; simp; omega
    have z : T - i - ((n + 1 : Nat) : Int) + 1 = T - (i + n) := by omega
    have y : Y + M * (T - (i + n)) + M = Y + M * (T - i - n + 1) := by
      have : M * (T - i - n + 1) = M * (T - (i + n)) + M := by rw [show T - i - n + 1 = T - (i + n) + 1 by omega, Int.mul_add]; simp
      omega
    rw [e, z, cI_h M (M * n) hM (Int.mul_nonneg hM (by omega)), y]; omega
theorem dark_run {D : Int → Int → Bool} {x y M S Q i j n LF AB WI HI : Int} (hM : 0 ≤ M) (q0 : 0 ≤ Q) (q3 : Q ≤ 3) (n1 : 1 ≤ n) (eL : LF = min (bA S Q i j) (bA S Q (i + n - 1) j)) (eA : AB = min (bB S Q i j) (bB S Q (i + n - 1) j)) (eW : WI = if Q % 2 = 0 then n else 1) (eH : HI = if Q % 2 = 0 then 1 else n) :
    cI D (x + M * LF) (y + M * AB) (M * WI) (M * HI) = s1 (fun a => cB D x y M S Q a j) i n.toNat := by
  have en : ((n.toNat : Nat) : Int) = n := by omega
  rcases (show Q = 0 ∨ Q = 1 ∨ Q = 2 ∨ Q = 3 by omega) with r | r | r | r
  · subst r
    have l : LF = i := by rw [eL]; unfold bA; simp; omega
    have a : AB = j := by rw [eA]; unfold bB; simp
    have w : WI = n := by rw [eW]; rfl
    have h : HI = 1 := by rw [eH]; rfl
    have f : (fun a => cB D x y M S 0 a j) = (fun a => cI D (x + M * a) (y + M * j) M M) := by funext a; unfold cB bA bB; simp
    rw [f, strip_r hM i n.toNat, en, l, a, w, h, Int.mul_one]
  · subst r
    have l : LF = S - 1 - j := by rw [eL]; unfold bA; simp
    have a : AB = i := by rw [eA]; unfold bB; simp; omega
    have w : WI = 1 := by rw [eW]; rfl
    have h : HI = n := by rw [eH]; rfl
    have f : (fun a => cB D x y M S 1 a j) = (fun a => cI D (x + M * (S - 1 - j)) (y + M * a) M M) := by funext a; unfold cB bA bB; simp
    rw [f, strip_d hM i n.toNat, en, l, a, w, h, Int.mul_one]
  · subst r
    have l : LF = S - 1 - i - n + 1 := by rw [eL]; unfold bA; simp; omega
    have a : AB = S - 1 - j := by rw [eA]; unfold bB; simp
    have w : WI = n := by rw [eW]; rfl
    have h : HI = 1 := by rw [eH]; rfl
    have f : (fun a => cB D x y M S 2 a j) = (fun a => cI D (x + M * (S - 1 - a)) (y + M * (S - 1 - j)) M M) := by funext a; unfold cB bA bB; simp
    rw [f, strip_l hM i n.toNat, en, l, a, w, h, Int.mul_one]
  · subst r
    have l : LF = j := by rw [eL]; unfold bA; simp
    have a : AB = S - 1 - i - n + 1 := by rw [eA]; unfold bB; simp; omega
    have w : WI = 1 := by rw [eW]; rfl
    have h : HI = n := by rw [eH]; rfl
    have f : (fun a => cB D x y M S 3 a j) = (fun a => cI D (x + M * j) (y + M * (S - 1 - a)) M M) := by funext a; unfold cB bA bB; simp
    rw [f, strip_u hM i n.toNat, en, l, a, w, h, Int.mul_one]
theorem dark_geo {S Q i j n LF AB WI HI : Int} (q0 : 0 ≤ Q) (q3 : Q ≤ 3) (i0 : 0 ≤ i) (n1 : 1 ≤ n) (i1 : i + n ≤ S) (j0 : 0 ≤ j) (j1 : j < S) (eL : LF = min (bA S Q i j) (bA S Q (i + n - 1) j)) (eA : AB = min (bB S Q i j) (bB S Q (i + n - 1) j)) (eW : WI = if Q % 2 = 0 then n else 1) (eH : HI = if Q % 2 = 0 then 1 else n) :
    0 ≤ LF ∧ 1 ≤ WI ∧ LF + WI ≤ S ∧ 0 ≤ AB ∧ 1 ≤ HI ∧ AB + HI ≤ S := by
  rcases (show Q = 0 ∨ Q = 1 ∨ Q = 2 ∨ Q = 3 by omega) with r | r | r | r <;> subst r <;> unfold bA at eL <;> unfold bB at eA <;> simp at eL eA eW eH <;> omega
