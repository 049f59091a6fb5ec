/-! how many dots are dark in a box -/
def rc (D : Int → Int → Bool) (x y : Int) : Nat → Int
  | 0 => 0
  | n + 1 => rc D x y n + (if D (x + n) y = true then 1 else 0)
def cn (D : Int → Int → Bool) (x y : Int) (w : Nat) : Nat → Int
  | 0 => 0
  | n + 1 => cn D x y w n + rc D x (y + n) w
def cI (D : Int → Int → Bool) (x y w h : Int) : Int := cn D x y w.toNat h.toNat
theorem rc_split (D : Int → Int → Bool) (x y : Int) (a b : Nat) : rc D x y (a + b) = rc D x y a + rc D (x + a) y b := by
  induction b with
  | zero => simp [rc]
  | succ b ih =>
    show rc D x y (a + b) + (if D (x + ((a + b : Nat) : Int)) y = true then 1 else 0) = rc D x y a + (rc D (x + a) y b + (if D (x + a + b) y = true then 1 else 0))
    rw [ih]
    have e : x + ((a + b : Nat) : Int) = x + a + b := by omega
    rw [e]; omega
theorem rc_nn (D : Int → Int → Bool) (x y : Int) (n : Nat) : 0 ≤ rc D x y n := by
  induction n with
  | zero => simp [rc]
  | succ n ih => simp only [rc]; split <;> omega
theorem rc_le (D : Int → Int → Bool) (x y : Int) (n : Nat) : rc D x y n ≤ n := by
  induction n with
  | zero => simp [rc]
  | succ n ih => simp only [rc]; split <;> omega
theorem cn_h (D : Int → Int → Bool) (x y : Int) (w a b : Nat) : cn D x y w (a + b) = cn D x y w a + cn D x (y + a) w b := by
  induction b with
  | zero => simp [cn]
  | succ b ih =>
    show cn D x y w (a + b) + rc D x (y + ((a + b : Nat) : Int)) w = cn D x y w a + (cn D x (y + a) w b + rc D x (y + a + b) w)
    rw [ih]
    have e : y + ((a + b : Nat) : Int) = y + a + b := by omega
    rw [e]; omega
theorem cn_w (D : Int → Int → Bool) (x y : Int) (a b h : Nat) : cn D x y (a + b) h = cn D x y a h + cn D (x + a) y b h := by
  induction h with
  | zero => simp [cn]
  | succ h ih => simp only [cn]; rw [ih, rc_split]; omega
theorem cn_nn (D : Int → Int → Bool) (x y : Int) (w h : Nat) : 0 ≤ cn D x y w h := by
  induction h with
  | zero => simp [cn]
  | succ h ih => simp only [cn]; have := rc_nn D x (y + h) w; omega
theorem cn_le (D : Int → Int → Bool) (x y : Int) (w h : Nat) : cn D x y w h ≤ w * h := by
  induction h with
  | zero => simp [cn]
  | succ h ih =>
    simp only [cn]; have := rc_le D x (y + h) w
    have e : (w : Int) * ((h + 1 : Nat) : Int) = w * h + w := by rw [Int.natCast_add, Int.mul_add]; simp
    omega
theorem cI_nn (D : Int → Int → Bool) (x y w h : Int) : 0 ≤ cI D x y w h := cn_nn _ _ _ _ _
theorem cI_w {D : Int → Int → Bool} {x y h : Int} (a b : Int) (ha : 0 ≤ a) (hb : 0 ≤ b) : cI D x y (a + b) h = cI D x y a h + cI D (x + a) y b h := by
  unfold cI
  have e : (a + b).toNat = a.toNat + b.toNat := by omega
  have e2 : ((a.toNat : Nat) : Int) = a := by omega
  rw [e, cn_w, e2]
theorem cI_h {D : Int → Int → Bool} {x y w : Int} (a b : Int) (ha : 0 ≤ a) (hb : 0 ≤ b) : cI D x y w (a + b) = cI D x y w a + cI D x (y + a) w b := by
  unfold cI
  have e : (a + b).toNat = a.toNat + b.toNat := by omega
  have e2 : ((a.toNat : Nat) : Int) = a := by omega
  rw [e, cn_h, e2]
theorem cI_le (D : Int → Int → Bool) (x y : Int) {w h : Int} (hw : 0 ≤ w) (hh : 0 ≤ h) : cI D x y w h ≤ w * h := by
  have := cn_le D x y w.toNat h.toNat
  have e1 : ((w.toNat : Nat) : Int) = w := by omega
  have e2 : ((h.toNat : Nat) : Int) = h := by omega
  rw [e1, e2] at this; exact this
theorem cI_0w (D : Int → Int → Bool) (x y : Int) {w : Int} (h : Int) (hw : w ≤ 0) : cI D x y w h = 0 := by
  have e1 : w.toNat = 0 := by omega
  unfold cI; rw [e1]
  have : ∀ n, cn D x y 0 n = 0 := by
    intro n; induction n with
    | zero => rfl
    | succ n ih => simp only [cn, ih, rc]; rfl
  exact this _
theorem cI_0h (D : Int → Int → Bool) (x y : Int) (w : Int) {h : Int} (hh : h ≤ 0) : cI D x y w h = 0 := by
  have e1 : h.toNat = 0 := by omega
  unfold cI; rw [e1]; rfl
/-- the four sums -/
theorem cI_four {D : Int → Int → Bool} {x y w h : Int} (hx : 0 ≤ x) (hy : 0 ≤ y) (hw : 0 ≤ w) (hh : 0 ≤ h) :
    cI D x y w h = cI D 0 0 (x + w) (y + h) - cI D 0 0 x (y + h) - cI D 0 0 (x + w) y + cI D 0 0 x y := by
  have h1 : cI D 0 0 (x + w) (y + h) = cI D 0 0 x (y + h) + cI D (0 + x) 0 w (y + h) := cI_w x w hx hw
  have h2 : cI D (0 + x) 0 w (y + h) = cI D (0 + x) 0 w y + cI D (0 + x) (0 + y) w h := cI_h y h hy hh
  have h3 : cI D 0 0 (x + w) y = cI D 0 0 x y + cI D (0 + x) 0 w y := cI_w x w hx hw
  have e1 : (0 : Int) + x = x := by omega
  have e2 : (0 : Int) + y = y := by omega
  rw [e1] at h1 h2 h3; rw [e2] at h2
  omega
/-- a box in a box: no more are dark in it, and no more light -/
theorem cI_in {D : Int → Int → Bool} {x y w h x' y' w' h' : Int} (a1 : x ≤ x') (a2 : x' + w' ≤ x + w) (a3 : 0 ≤ w') (b1 : y ≤ y') (b2 : y' + h' ≤ y + h) (b3 : 0 ≤ h') :
    cI D x' y' w' h' ≤ cI D x y w h ∧ cI D x y w h - cI D x' y' w' h' ≤ w * h - w' * h' := by
  have e1 : w = (x' - x) + (w' + (x + w - x' - w')) := by omega
  have e2 : h = (y' - y) + (h' + (y + h - y' - h')) := by omega
  have s1 : cI D x y w h = cI D x y (x' - x) h + cI D (x + (x' - x)) y (w' + (x + w - x' - w')) h := by
    conv => lhs; rw [e1]
    exact cI_w _ _ (by omega) (by omega)
  have s2 : cI D (x + (x' - x)) y (w' + (x + w - x' - w')) h = cI D (x + (x' - x)) y w' h + cI D (x + (x' - x) + w') y (x + w - x' - w') h := cI_w _ _ (by omega) (by omega)
  have s3 : cI D (x + (x' - x)) y w' h = cI D (x + (x' - x)) y w' (y' - y) + cI D (x + (x' - x)) (y + (y' - y)) w' (h' + (y + h - y' - h')) := by
    conv => lhs; rw [e2]
    exact cI_h _ _ (by omega) (by omega)
  have s4 : cI D (x + (x' - x)) (y + (y' - y)) w' (h' + (y + h - y' - h')) = cI D (x + (x' - x)) (y + (y' - y)) w' h' + cI D (x + (x' - x)) (y + (y' - y) + h') w' (y + h - y' - h') := cI_h _ _ (by omega) (by omega)
  have ex : x + (x' - x) = x' := by omega
  have ey : y + (y' - y) = y' := by omega
  rw [ex] at s1 s2 s3 s4; rw [ey] at s3 s4
  have n1 := cI_nn D x y (x' - x) h
  have n2 := cI_nn D (x' + w') y (x + w - x' - w') h
  have n3 := cI_nn D x' y w' (y' - y)
  have n4 := cI_nn D x' (y' + h') w' (y + h - y' - h')
  have hh : 0 ≤ h := by omega
  have l1 := cI_le D x y (w := x' - x) (h := h) (by omega) hh
  have l2 := cI_le D (x' + w') y (w := x + w - x' - w') (h := h) (by omega) hh
  have l3 := cI_le D x' y (w := w') (h := y' - y) (by omega) (by omega)
  have l4 := cI_le D x' (y' + h') (w := w') (h := y + h - y' - h') (by omega) (by omega)
  refine ⟨by omega, ?_⟩
  have m1 : (x' - x) * h + (x + w - x' - w') * h = w * h - w' * h := by
    rw [← Int.add_mul, ← Int.sub_mul]; congr 1; omega
  have m2 : w' * (y' - y) + w' * (y + h - y' - h') = w' * h - w' * h' := by
    rw [← Int.mul_add, ← Int.mul_sub]; congr 1; omega
  omega
theorem mul_b {a b n : Int} (h1 : 0 ≤ a) (h2 : a ≤ n) (h3 : 0 ≤ b) (h4 : b ≤ n) : a * b ≤ n * n := Int.mul_le_mul h2 h4 h3 (by omega)
/-- what countSummed answers -/
def cS (D : Int → Int → Bool) (W H x y w h : Int) : Int := if w ≤ 0 ∨ h ≤ 0 ∨ x < 0 ∨ y < 0 ∨ W - w < x ∨ H - h < y then 0 else cI D x y w h
theorem cS_out {D : Int → Int → Bool} {W H x y w h : Int} (q : w ≤ 0 ∨ h ≤ 0 ∨ x < 0 ∨ y < 0 ∨ W - w < x ∨ H - h < y) : cS D W H x y w h = 0 := if_pos q
theorem cS_in {D : Int → Int → Bool} {W H x y w h : Int} (q : ¬ (w ≤ 0 ∨ h ≤ 0 ∨ x < 0 ∨ y < 0 ∨ W - w < x ∨ H - h < y)) : cS D W H x y w h = cI D x y w h := if_neg q
theorem mul_b2 {a b p q : Int} (h1 : 0 ≤ a) (h2 : a ≤ p) (h3 : 0 ≤ b) (h4 : b ≤ q) : a * b ≤ p * q := Int.mul_le_mul h2 h4 h3 (by omega)
