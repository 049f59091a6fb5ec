/-! a rectangle that is filled -/
def fiE (D : Int → Int → Bool) (x y w h : Int) (v : Bool) : Int → Int → Bool := fun a c => if x ≤ a ∧ a < x + w ∧ y ≤ c ∧ c < y + h then v else D a c
def fiN (D : Int → Int → Bool) (x y w h : Int) (v : Bool) : Int → Int → Bool := fun a c => decide (x ≤ a ∧ a < x + w ∧ y ≤ c ∧ c < y + h) && (D a c != v)
theorem fiE_in {D : Int → Int → Bool} {x y w h a c : Int} {v : Bool} (q : x ≤ a ∧ a < x + w ∧ y ≤ c ∧ c < y + h) : fiE D x y w h v a c = v := if_pos q
theorem fiE_out {D : Int → Int → Bool} {x y w h a c : Int} {v : Bool} (q : ¬ (x ≤ a ∧ a < x + w ∧ y ≤ c ∧ c < y + h)) : fiE D x y w h v a c = D a c := if_neg q
theorem fiN_out {D : Int → Int → Bool} {x y w h a c : Int} {v : Bool} (q : ¬ (x ≤ a ∧ a < x + w ∧ y ≤ c ∧ c < y + h)) : fiN D x y w h v a c = false := by unfold fiN; rw [decide_eq_false q, Bool.false_and]
theorem fiN_same {D : Int → Int → Bool} {x y w h a c : Int} {v : Bool} (q : D a c = v) : fiN D x y w h v a c = false := by unfold fiN; rw [q]; simp
theorem fiN_in {D : Int → Int → Bool} {x y w h a c : Int} {v : Bool} (q : x ≤ a ∧ a < x + w ∧ y ≤ c ∧ c < y + h) (r : ¬ D a c = v) : fiN D x y w h v a c = true := by unfold fiN; rw [decide_eq_true q, Bool.true_and]; simpa using r
