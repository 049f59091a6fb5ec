/-! drawing: modules painted so far -/
def iA (S Q u w : Int) : Int := if Q = 0 then u else if Q = 1 then w else if Q = 2 then S - 1 - u else S - 1 - w
def iB (S Q u w : Int) : Int := if Q = 0 then w else if Q = 1 then S - 1 - u else if Q = 2 then S - 1 - w else u
theorem inv_q {S Q u w i j : Int} (q0 : 0 ≤ Q) (q3 : Q ≤ 3) : (iA S Q u w = i ∧ iB S Q u w = j) ↔ (u = bA S Q i j ∧ w = bB S Q i j) := by
  unfold iA iB bA bB
  rcases (show Q = 0 ∨ Q = 1 ∨ Q = 2 ∨ Q = 3 by omega) with r | r | r | r <;> subst r <;> simp <;> omega
theorem inv_b {S Q u w : Int} (u0 : 0 ≤ u) (u1 : u < S) (w0 : 0 ≤ w) (w1 : w < S) : 0 ≤ iA S Q u w ∧ iA S Q u w < S ∧ 0 ≤ iB S Q u w ∧ iB S Q u w < S := by
  unfold iA iB; (repeat' split) <;> omega
def dP (D : Int → Int → Bool) (x y M S Q : Int) (P : Int → Int → Bool) : Int → Int → Bool := fun a c =>
  if (x ≤ a ∧ a < x + M * S ∧ y ≤ c ∧ c < y + M * S) ∧ P (iA S Q ((a - x) / M) ((c - y) / M)) (iB S Q ((a - x) / M) ((c - y) / M)) = true then decide (mdl S (iA S Q ((a - x) / M) ((c - y) / M)) (iB S Q ((a - x) / M) ((c - y) / M)) = 1) else D a c
theorem div_blk {M a b : Int} (hM : 1 ≤ M) : (M * b ≤ a ∧ a < M * b + M) ↔ a / M = b := by
  constructor
  · rintro ⟨h1, h2⟩
    have e : a = (a - M * b) + M * b := by omega
    rw [e, Int.add_mul_ediv_left _ _ (by omega), Int.ediv_eq_zero_of_lt (by omega) (by omega)]; omega
  · intro h
    have := Int.emod_add_mul_ediv a M
    have p := Int.emod_nonneg a (show M ≠ 0 by omega)
    have q := Int.emod_lt_of_pos a (show 0 < M by omega)
    rw [h] at this; omega
theorem in_blk {x y M S Q i j a c : Int} (hM : 1 ≤ M) (q0 : 0 ≤ Q) (q3 : Q ≤ 3) (i0 : 0 ≤ i) (i1 : i < S) (j0 : 0 ≤ j) (j1 : j < S) :
    (x + M * bA S Q i j ≤ a ∧ a < x + M * bA S Q i j + M ∧ y + M * bB S Q i j ≤ c ∧ c < y + M * bB S Q i j + M) ↔ ((x ≤ a ∧ a < x + M * S ∧ y ≤ c ∧ c < y + M * S) ∧ iA S Q ((a - x) / M) ((c - y) / M) = i ∧ iB S Q ((a - x) / M) ((c - y) / M) = j) := by
  rw [inv_q q0 q3, ← div_blk hM, ← div_blk hM]
  have pa := bA_b (Q := Q) i0 i1 j0 j1
  have pb := bB_b (Q := Q) i0 i1 j0 j1
  have pA := blk_b (m := M) (S := S) (by omega) pa.1 pa.2
  have pB := blk_b (m := M) (S := S) (by omega) pb.1 pb.2
  omega
theorem dp_step {D E : Int → Int → Bool} {x y M S Q i j : Int} {P P' : Int → Int → Bool} {v : Bool} (hM : 1 ≤ M) (q0 : 0 ≤ Q) (q3 : Q ≤ 3) (i0 : 0 ≤ i) (i1 : i < S) (j0 : 0 ≤ j) (j1 : j < S) (hv : v = decide (mdl S i j = 1)) (hP : ∀ i' j', P' i' j' = (P i' j' || (decide (i' = i) && decide (j' = j))))
    (hE : ∀ a c, E a c = if x + M * bA S Q i j ≤ a ∧ a < x + M * bA S Q i j + M ∧ y + M * bB S Q i j ≤ c ∧ c < y + M * bB S Q i j + M then v else dP D x y M S Q P a c) : E = dP D x y M S Q P' := by
  funext a c
  rw [hE]
  by_cases q : x + M * bA S Q i j ≤ a ∧ a < x + M * bA S Q i j + M ∧ y + M * bB S Q i j ≤ c ∧ c < y + M * bB S Q i j + M
  · rw [if_pos q]
    obtain ⟨ar, e1, e2⟩ := (in_blk hM q0 q3 i0 i1 j0 j1).mp q
    unfold dP
    rw [e1, e2, if_pos ⟨ar, by rw [hP]; simp⟩, hv]
  · rw [if_neg q]
    unfold dP
    by_cases ar : x ≤ a ∧ a < x + M * S ∧ y ≤ c ∧ c < y + M * S
    · have ne : ¬ (iA S Q ((a - x) / M) ((c - y) / M) = i ∧ iB S Q ((a - x) / M) ((c - y) / M) = j) := fun e => q ((in_blk hM q0 q3 i0 i1 j0 j1).mpr ⟨ar, e⟩)
      have e : P' (iA S Q ((a - x) / M) ((c - y) / M)) (iB S Q ((a - x) / M) ((c - y) / M)) = P (iA S Q ((a - x) / M) ((c - y) / M)) (iB S Q ((a - x) / M) ((c - y) / M)) := by
        rw [hP]
        have : (decide (iA S Q ((a - x) / M) ((c - y) / M) = i) && decide (iB S Q ((a - x) / M) ((c - y) / M) = j)) = false := by
          rw [← Bool.decide_and]; exact decide_eq_false ne
        rw [this, Bool.or_false]
      rw [e]
    · rw [if_neg (fun h => ar h.1), if_neg (fun h => ar h.1)]
theorem dp_count {D : Int → Int → Bool} {x y M S Q i j : Int} {P : Int → Int → Bool} {v : Bool} (hM : 1 ≤ M) (q0 : 0 ≤ Q) (q3 : Q ≤ 3) (i0 : 0 ≤ i) (i1 : i < S) (j0 : 0 ≤ j) (j1 : j < S) (hP : P i j = false) :
    cI (neB (dP D x y M S Q P) v) (x + M * bA S Q i j) (y + M * bB S Q i j) M M = cI (neB D v) (x + M * bA S Q i j) (y + M * bB S Q i j) M M := by
  apply cI_congr
  intro a c a0 a1 c0 c1
  obtain ⟨ar, e1, e2⟩ := (in_blk (x := x) (y := y) (a := a) (c := c) hM q0 q3 i0 i1 j0 j1).mp ⟨a0, a1, c0, c1⟩
  unfold neB dP
  rw [e1, e2, if_neg (by rw [hP]; simp)]
theorem dp_0 {D : Int → Int → Bool} {x y M S Q : Int} : dP D x y M S Q (fun _ _ => false) = D := by
  funext a c; unfold dP; rw [if_neg (by simp)]
theorem dp_congr {D : Int → Int → Bool} {x y M S Q : Int} {P P' : Int → Int → Bool} (hM : 1 ≤ M) (h : ∀ i j, 0 ≤ i → i < S → 0 ≤ j → j < S → P i j = P' i j) : dP D x y M S Q P = dP D x y M S Q P' := by
  funext a c
  unfold dP
  by_cases ar : x ≤ a ∧ a < x + M * S ∧ y ≤ c ∧ c < y + M * S
  · have u0 : 0 ≤ (a - x) / M := Int.ediv_nonneg (by omega) (by omega)
    have w0 : 0 ≤ (c - y) / M := Int.ediv_nonneg (by omega) (by omega)
    have u1 : (a - x) / M < S := Int.ediv_lt_of_lt_mul (by omega) (by rw [Int.mul_comm]; omega)
    have w1 : (c - y) / M < S := Int.ediv_lt_of_lt_mul (by omega) (by rw [Int.mul_comm]; omega)
    have b := inv_b (Q := Q) u0 u1 w0 w1
    rw [h _ _ b.1 b.2.1 b.2.2.1 b.2.2.2]
  · rw [if_neg (fun h => ar h.1), if_neg (fun h => ar h.1)]
/-- all fixed modules -/
def fxd (S i j : Int) : Bool := decide (mdl S i j ≠ -1)
/-- the dots of a module's block that are not as they are to be -/
def gN (D : Int → Int → Bool) (x y M S Q : Int) : Int → Int → Int → Int := fun is i j => cI (neB D (decide (is = 1))) (x + M * bA S Q i j) (y + M * bB S Q i j) M M
def DW (D : Int → Int → Bool) (x y M S Q : Int) : Int := sI (gG (gN D x y M S Q) S) 0 0 S S
theorem dp_sup {D : Int → Int → Bool} {W H x y M S Q : Int} {P : Int → Int → Bool} (hsup : ∀ a c, D a c = true → 0 ≤ a ∧ a < W ∧ 0 ≤ c ∧ c < H) (x0 : 0 ≤ x) (y0 : 0 ≤ y) (x1 : x + M * S ≤ W) (y1 : y + M * S ≤ H) : ∀ a c, dP D x y M S Q P a c = true → 0 ≤ a ∧ a < W ∧ 0 ≤ c ∧ c < H := by
  intro a c h
  unfold dP at h
  by_cases ar : x ≤ a ∧ a < x + M * S ∧ y ≤ c ∧ c < y + M * S
  · omega
  · rw [if_neg (fun h => ar h.1)] at h; exact hsup a c h
/-- going through rows of modules, the fixed ones painted -/
def rowP (S zj zi : Int) : Int → Int → Bool := fun i j => fxd S i j && (decide (j < zj) || (decide (j = zj) && decide (i < zi)))
theorem rp_skip {S zi zj : Int} (h : mdl S zi zj = -1) : rowP S zj (zi + 1) = rowP S zj zi := by
  funext i j
  unfold rowP fxd
  by_cases e : i = zi ∧ j = zj
  · obtain ⟨rfl, rfl⟩ := e
    rw [decide_eq_false (p := mdl S i j ≠ -1) (by simp [h]), Bool.false_and, Bool.false_and]
  · congr 2
    rw [← Bool.decide_and, ← Bool.decide_and]
    apply decide_eq_decide.mpr; omega
theorem rp_add {S zi zj : Int} (h : mdl S zi zj ≠ -1) : ∀ i j, rowP S zj (zi + 1) i j = (rowP S zj zi i j || (decide (i = zi) && decide (j = zj))) := by
  intro i j
  unfold rowP fxd
  by_cases e : i = zi ∧ j = zj
  · obtain ⟨rfl, rfl⟩ := e
    rw [decide_eq_true h]; simp <;> omega
  · have z : (decide (i = zi) && decide (j = zj)) = false := by rw [← Bool.decide_and]; exact decide_eq_false e
    rw [z, Bool.or_false]
    congr 2
    rw [← Bool.decide_and, ← Bool.decide_and]
    apply decide_eq_decide.mpr; omega
theorem rp_row {D : Int → Int → Bool} {x y M S Q zj : Int} (hM : 1 ≤ M) : dP D x y M S Q (rowP S zj S) = dP D x y M S Q (rowP S (zj + 1) 0) := by
  apply dp_congr hM
  intro i j i0 i1 j0 j1
  unfold rowP
  congr 1
  rw [← Bool.decide_and, ← Bool.decide_or, ← Bool.decide_and, ← Bool.decide_or]
  apply decide_eq_decide.mpr; omega
theorem rp_end {D : Int → Int → Bool} {x y M S Q : Int} (hM : 1 ≤ M) : dP D x y M S Q (rowP S S 0) = dP D x y M S Q (fxd S) := by
  apply dp_congr hM
  intro i j i0 i1 j0 j1
  unfold rowP
  rw [decide_eq_true (p := j < S) j1, Bool.true_or, Bool.and_true]
theorem rp_new {S zi zj : Int} : rowP S zj zi zi zj = false := by
  unfold rowP; simp
theorem pf_blk {D : Int → Int → Bool} {v : Bool} {x y m : Int} (a c : Int) (hm : 1 ≤ m) : pF D (fun a c => if true = true then v else D a c) x y m (y + m) x a c = if x ≤ a ∧ a < x + m ∧ y ≤ c ∧ c < y + m then v else D a c := by
  unfold pF
  by_cases q : x ≤ a ∧ a < x + m ∧ y ≤ c ∧ c < y + m
  · rw [if_pos (Or.inl q), if_pos q]; exact if_pos rfl
  · rw [if_neg (by omega), if_neg q]
