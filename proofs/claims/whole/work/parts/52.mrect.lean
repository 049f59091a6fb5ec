/-! dots that are gone through row by row: behind (px, py) they are as in E, ahead as in D -/
def pF (D E : Int → Int → Bool) (x y m py px : Int) : Int → Int → Bool := fun a c => if (x ≤ a ∧ a < x + m ∧ y ≤ c ∧ c < py) ∨ (c = py ∧ x ≤ a ∧ a < px) then E a c else D a c
theorem pf_0 (D E : Int → Int → Bool) (x y m : Int) : pF D E x y m y x = D := by
  funext a c; unfold pF; exact if_neg (by omega)
theorem pf_row {D E : Int → Int → Bool} {x y m py : Int} (h : y ≤ py) : pF D E x y m py (x + m) = pF D E x y m (py + 1) x := by
  funext a c
  unfold pF
  by_cases q : (x ≤ a ∧ a < x + m ∧ y ≤ c ∧ c < py) ∨ (c = py ∧ x ≤ a ∧ a < x + m)
  · rw [if_pos q, if_pos (by omega)]
  · rw [if_neg q, if_neg (by omega)]
theorem pf_at {D E : Int → Int → Bool} {x y m py px : Int} : pF D E x y m py px px py = D px py := by
  unfold pF; exact if_neg (by omega)
theorem pf_set {D E : Int → Int → Bool} {x y m py px : Int} {fc : Nat → Int32} {v : Int32} (h : dOK fc (pF D E x y m py px)) (h1 : x ≤ px) (h2 : 0 ≤ px) (h3 : px < 512) (h4 : 0 ≤ py) (h5 : py < 512) (hv : v = zb (E px py)) : dOK (upd fc (512 * py + px).toNat v) (pF D E x y m py (px + 1)) := by
  intro a c a0 a1 c0 c1
  by_cases e : a = px ∧ c = py
  · obtain ⟨rfl, rfl⟩ := e
    rw [pk_us, hv]
    congr 1
    unfold pF
    exact (if_pos (by omega)).symm
  · rw [pk_un (by omega), h a c a0 a1 c0 c1]
    congr 1
    unfold pF
    by_cases q : (x ≤ a ∧ a < x + m ∧ y ≤ c ∧ c < py) ∨ (c = py ∧ x ≤ a ∧ a < px)
    · rw [if_pos q, if_pos (by omega)]
    · rw [if_neg q, if_neg (by omega)]
theorem pf_keep {D E : Int → Int → Bool} {x y m py px : Int} (h : E px py = D px py) : pF D E x y m py (px + 1) = pF D E x y m py px := by
  funext a c
  unfold pF
  by_cases e : a = px ∧ c = py
  · obtain ⟨rfl, rfl⟩ := e
    rw [h]; split <;> split <;> rfl
  · by_cases q : (x ≤ a ∧ a < x + m ∧ y ≤ c ∧ c < py) ∨ (c = py ∧ x ≤ a ∧ a < px)
    · rw [if_pos q, if_pos (by omega)]
    · rw [if_neg q, if_neg (by omega)]
theorem rcn_y {f : Int → Int → Bool} {x y px : Int} (h : x ≤ px) (q : f px y = true) : rc f x y (px + 1 - x).toNat = rc f x y (px - x).toNat + 1 := by
  have e : (px + 1 - x).toNat = (px - x).toNat + 1 := by omega
  have z : x + (((px - x).toNat : Nat) : Int) = px := by omega
  rw [e]; simp only [rc]; rw [z, if_pos q]
theorem rcn_n {f : Int → Int → Bool} {x y px : Int} (h : x ≤ px) (q : f px y = false) : rc f x y (px + 1 - x).toNat = rc f x y (px - x).toNat := by
  have e : (px + 1 - x).toNat = (px - x).toNat + 1 := by omega
  have z : x + (((px - x).toNat : Nat) : Int) = px := by omega
  rw [e]; simp only [rc]; rw [z, q]; simp
theorem cIn_row {f : Int → Int → Bool} {x y m py : Int} (h : y ≤ py) (hm : 0 ≤ m) : cI f x y m (py + 1 - y) = cI f x y m (py - y) + rc f x py (x + m - x).toNat := by
  unfold cI
  have e : (py + 1 - y).toNat = (py - y).toNat + 1 := by omega
  have z : y + (((py - y).toNat : Nat) : Int) = py := by omega
  have w : (x + m - x).toNat = m.toNat := by omega
  rw [e, w]; simp only [cn]; rw [z]
theorem cI_none (f : Int → Int → Bool) (x y m : Int) : cI f x y m (y - y) + rc f x y (x - x).toNat = 0 := by
  have e : y - y = 0 := by omega
  have z : (x - x).toNat = 0 := by omega
  rw [cI_0h f x y m (by omega), z]; rfl
theorem rc_0 (f : Int → Int → Bool) (x y : Int) : rc f x y (x - x).toNat = 0 := by
  have z : (x - x).toNat = 0 := by omega
  rw [z]; rfl
def neB (D : Int → Int → Bool) (v : Bool) : Int → Int → Bool := fun a c => D a c != v
theorem zb_eq {a b : Bool} : zb a = zb b ↔ a = b := by cases a <;> cases b <;> decide
