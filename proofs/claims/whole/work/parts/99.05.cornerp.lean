/-! drawing a corner: nine times nine modules, those that the symbol has -/
def cz (g : Int → Int → Int) (S : Int) : Int → Int → Int := fun i j => if 0 ≤ i ∧ i < S ∧ 0 ≤ j ∧ j < S then g i j else 0
theorem cz_in {g : Int → Int → Int} {S i j : Int} (h : 0 ≤ i ∧ i < S ∧ 0 ≤ j ∧ j < S) : cz g S i j = g i j := if_pos h
theorem cz_out {g : Int → Int → Int} {S i j : Int} (h : ¬ (0 ≤ i ∧ i < S ∧ 0 ≤ j ∧ j < S)) : cz g S i j = 0 := if_neg h
def crP (P : Int → Int → Bool) (mi mj zj zi : Int) : Int → Int → Bool := fun i j => P i j || decide ((mi - 4 ≤ i ∧ i ≤ mi + 4) ∧ mj - 4 ≤ j ∧ (j < zj ∨ j = zj ∧ i < zi))
theorem cr_0 (P : Int → Int → Bool) (mi mj : Int) : crP P mi mj (mj - 4) (mi - 4) = P := by
  funext i j
  unfold crP
  rw [decide_eq_false (by omega), Bool.or_false]
theorem cr_add {P : Int → Int → Bool} {mi mj zj zi : Int} (h1 : mi - 4 ≤ zi) (h2 : zi ≤ mi + 4) (h3 : mj - 4 ≤ zj) : ∀ i j, crP P mi mj zj (zi + 1) i j = (crP P mi mj zj zi i j || (decide (i = zi) && decide (j = zj))) := by
  intro i j
  unfold crP
  rw [Bool.or_assoc, ← Bool.decide_and, ← Bool.decide_or]
  congr 1
  apply decide_eq_decide.mpr; omega
theorem cr_skip {D : Int → Int → Bool} {x y M S Q : Int} {P : Int → Int → Bool} {mi mj zj zi : Int} (hM : 1 ≤ M) (h : ¬ (0 ≤ zi ∧ zi < S ∧ 0 ≤ zj ∧ zj < S)) : dP D x y M S Q (crP P mi mj zj (zi + 1)) = dP D x y M S Q (crP P mi mj zj zi) := by
  apply dp_congr hM
  intro i j i0 i1 j0 j1
  unfold crP
  congr 1
  apply decide_eq_decide.mpr; omega
theorem cr_row {P : Int → Int → Bool} {mi mj zj : Int} : crP P mi mj zj (mi + 5) = crP P mi mj (zj + 1) (mi - 4) := by
  funext i j
  unfold crP
  congr 1
  apply decide_eq_decide.mpr; omega
theorem cr_new {P : Int → Int → Bool} {mi mj zj zi : Int} (h : P zi zj = false) : crP P mi mj zj zi zi zj = false := by
  unfold crP
  rw [h, decide_eq_false (by omega)]; rfl
theorem s1_st {g : Int → Int} {x z : Int} (h : x ≤ z) : s1 g x (z + 1 - x).toNat = s1 g x (z - x).toNat + g z := by
  have e : (z + 1 - x).toNat = (z - x).toNat + 1 := by omega
  have k : x + (((z - x).toNat : Nat) : Int) = z := by omega
  rw [e]; simp only [s1]; rw [k]
theorem sI_st {g : Int → Int → Int} {x y w z : Int} (h : y ≤ z) : sI g x y w (z + 1 - y) = sI g x y w (z - y) + s1 (fun i => g i z) x w.toNat := by
  unfold sI
  have e : (z + 1 - y).toNat = (z - y).toNat + 1 := by omega
  have k : y + (((z - y).toNat : Nat) : Int) = z := by omega
  rw [e]; simp only [s2]; rw [k]
theorem cz_9 {g : Int → Int → Int} {S mi mj : Int} (hS : 21 ≤ S) (hm : (mi = 3 ∧ mj = 3) ∨ (mi = S - 4 ∧ mj = 3) ∨ (mi = 3 ∧ mj = S - 4)) : sI (cz g S) (mi - 4) (mj - 4) 9 9 = sI g (max (mi - 4) 0) (max (mj - 4) 0) 8 8 := by
  rcases hm with ⟨rfl, rfl⟩ | ⟨rfl, rfl⟩ | ⟨rfl, rfl⟩
  · have a1 : sI (cz g S) (3 - 4) (3 - 4) 9 9 = sI (cz g S) (3 - 4) (3 - 4) 1 9 + sI (cz g S) (3 - 4 + 1) (3 - 4) 8 9 := sI_w 1 8 (by omega) (by omega)
    have a2 : sI (cz g S) (3 - 4 + 1) (3 - 4) 8 9 = sI (cz g S) (3 - 4 + 1) (3 - 4) 8 1 + sI (cz g S) (3 - 4 + 1) (3 - 4 + 1) 8 8 := sI_h 1 8 (by omega) (by omega)
    rw [a1, a2, sI_zero (fun i j h1 h2 h3 h4 => cz_out (by omega)), sI_zero (x := 3 - 4 + 1) (y := 3 - 4) (w := 8) (h := 1) (fun i j h1 h2 h3 h4 => cz_out (by omega)), Int.zero_add, Int.zero_add]
    have z : max ((3 : Int) - 4) 0 = 3 - 4 + 1 := by omega
    rw [z]
    exact sI_congr (fun i j h1 h2 h3 h4 => cz_in (by omega))
  · have a1 : sI (cz g S) (S - 4 - 4) (3 - 4) 9 9 = sI (cz g S) (S - 4 - 4) (3 - 4) 8 9 + sI (cz g S) (S - 4 - 4 + 8) (3 - 4) 1 9 := sI_w 8 1 (by omega) (by omega)
    have a2 : sI (cz g S) (S - 4 - 4) (3 - 4) 8 9 = sI (cz g S) (S - 4 - 4) (3 - 4) 8 1 + sI (cz g S) (S - 4 - 4) (3 - 4 + 1) 8 8 := sI_h 1 8 (by omega) (by omega)
    rw [a1, a2, sI_zero (x := S - 4 - 4 + 8) (fun i j h1 h2 h3 h4 => cz_out (by omega)), sI_zero (x := S - 4 - 4) (y := 3 - 4) (w := 8) (h := 1) (fun i j h1 h2 h3 h4 => cz_out (by omega)), Int.zero_add, Int.add_zero]
    have z1 : max (S - 4 - 4) 0 = S - 4 - 4 := by omega
    have z2 : max ((3 : Int) - 4) 0 = 3 - 4 + 1 := by omega
    rw [z1, z2]
    exact sI_congr (fun i j h1 h2 h3 h4 => cz_in (by omega))
  · have a1 : sI (cz g S) (3 - 4) (S - 4 - 4) 9 9 = sI (cz g S) (3 - 4) (S - 4 - 4) 1 9 + sI (cz g S) (3 - 4 + 1) (S - 4 - 4) 8 9 := sI_w 1 8 (by omega) (by omega)
    have a2 : sI (cz g S) (3 - 4 + 1) (S - 4 - 4) 8 9 = sI (cz g S) (3 - 4 + 1) (S - 4 - 4) 8 8 + sI (cz g S) (3 - 4 + 1) (S - 4 - 4 + 8) 8 1 := sI_h 8 1 (by omega) (by omega)
    rw [a1, a2, sI_zero (x := 3 - 4) (fun i j h1 h2 h3 h4 => cz_out (by omega)), sI_zero (y := S - 4 - 4 + 8) (fun i j h1 h2 h3 h4 => cz_out (by omega)), Int.zero_add, Int.add_zero]
    have z1 : max (S - 4 - 4) 0 = S - 4 - 4 := by omega
    have z2 : max ((3 : Int) - 4) 0 = 3 - 4 + 1 := by omega
    rw [z1, z2]
    exact sI_congr (fun i j h1 h2 h3 h4 => cz_in (by omega))
/-- a corner's module by its distance -/
theorem crn_col {S i j mi mj d : Int} (hS : 21 ≤ S) (hm : (mi = 3 ∧ mj = 3) ∨ (mi = S - 4 ∧ mj = 3) ∨ (mi = 3 ∧ mj = S - 4)) (i0 : 0 ≤ i) (i1 : i < S) (j0 : 0 ≤ j) (j1 : j < S) (ri : mi - 4 ≤ i ∧ i ≤ mi + 4) (rj : mj - 4 ≤ j ∧ j ≤ mj + 4) (hd : d = max (if 0 ≤ i - mi then i - mi else 0 - (i - mi)) (if 0 ≤ j - mj then j - mj else 0 - (j - mj))) : mdl S i j = if d = 2 ∨ d = 4 then 0 else 1 := by
  rcases hm with ⟨rfl, rfl⟩ | ⟨rfl, rfl⟩ | ⟨rfl, rfl⟩
  · rw [mdl_c0 i0 (by omega) j0 (by omega)]
    have e : dst i j 3 3 = d := by rw [hd]; unfold dst ap; (repeat' split) <;> omega
    unfold cC; rw [e]
  · have t := mdl_c1 (S := S) (k := i - (S - 8)) (j := j) hS (by omega) (by omega) j0 (by omega)
    have z : S - 8 + (i - (S - 8)) = i := by omega
    have e : dst (i - (S - 8) - 1) j 3 3 = d := by rw [hd]; unfold dst ap; (repeat' split) <;> omega
    rw [z, e] at t
    rw [t]; rfl
  · have t := mdl_c2 (S := S) (k := j - (S - 8)) (i := i) hS i0 (by omega) (by omega) (by omega)
    have z : S - 8 + (j - (S - 8)) = j := by omega
    have e : dst i (j - (S - 8) - 1) 3 3 = d := by rw [hd]; unfold dst ap; (repeat' split) <;> omega
    rw [z, e] at t
    rw [t]; rfl
theorem crn_ne {S i j : Int} {d : Int} (h : mdl S i j = if d = 2 ∨ d = 4 then 0 else 1) : ¬ mdl S i j = -1 := by
  rw [h]; split <;> decide
theorem gz_y {D : Int → Int → Bool} {x y M S Q i j : Int} (h : ¬ mdl S i j = -1) (o : 0 ≤ i ∧ i < S ∧ 0 ≤ j ∧ j < S) : cz (gG (gN D x y M S Q) S) S i j = cI (neB D (decide (mdl S i j = 1))) (x + M * bA S Q i j) (y + M * bB S Q i j) M M := by
  rw [cz_in o, gG_y h]; rfl
theorem cz_b {g : Int → Int → Int} {S c : Int} (hc : 0 ≤ c) (h : ∀ i j, 0 ≤ g i j ∧ g i j ≤ c) : ∀ i j, 0 ≤ cz g S i j ∧ cz g S i j ≤ c := by
  intro i j
  unfold cz
  have := h i j
  split <;> omega
/-! the lines and the lone module -/
def lnP (P : Int → Int → Bool) (z w : Int) : Int → Int → Bool := fun i j => P i j || decide ((j = 6 ∧ 8 ≤ i ∧ i < z) ∨ (i = 6 ∧ 8 ≤ j ∧ j < w))
theorem ln_0 (P : Int → Int → Bool) : lnP P 8 8 = P := by
  funext i j
  unfold lnP
  rw [decide_eq_false (by omega), Bool.or_false]
theorem ln_r {P : Int → Int → Bool} {z w : Int} (h : 8 ≤ z) : ∀ i j, lnP P (z + 1) w i j = (lnP P z w i j || (decide (i = z) && decide (j = 6))) := by
  intro i j
  unfold lnP
  rw [Bool.or_assoc, ← Bool.decide_and, ← Bool.decide_or]
  congr 1
  apply decide_eq_decide.mpr; omega
theorem ln_d {P : Int → Int → Bool} {z w : Int} (h : 8 ≤ w) : ∀ i j, lnP P z (w + 1) i j = (lnP P z w i j || (decide (i = 6) && decide (j = w))) := by
  intro i j
  unfold lnP
  rw [Bool.or_assoc, ← Bool.decide_and, ← Bool.decide_or]
  congr 1
  apply decide_eq_decide.mpr; omega
def allP (S : Int) : Int → Int → Bool := crP (crP (crP (fun _ _ => false) 3 3 8 (-1)) (S - 4) 3 8 (S - 8)) 3 (S - 4) (S + 1) (-1)
theorem al_ln {S i j z w : Int} (hS : 21 ≤ S) (z1 : z ≤ S - 8) (w1 : w ≤ S - 8) : lnP (allP S) z w i j = decide ((((-1 ≤ i ∧ i ≤ 7 ∧ -1 ≤ j ∧ j ≤ 7) ∨ (S - 8 ≤ i ∧ i ≤ S ∧ -1 ≤ j ∧ j ≤ 7)) ∨ (-1 ≤ i ∧ i ≤ 7 ∧ S - 8 ≤ j ∧ j ≤ S)) ∨ ((j = 6 ∧ 8 ≤ i ∧ i < z) ∨ (i = 6 ∧ 8 ≤ j ∧ j < w))) := by
  unfold lnP allP crP
  rw [Bool.false_or, ← Bool.decide_or, ← Bool.decide_or, ← Bool.decide_or]
  apply decide_eq_decide.mpr; omega
theorem all_fxd {D : Int → Int → Bool} {x y M S Q : Int} {P : Int → Int → Bool} (hM : 1 ≤ M) (hS : 21 ≤ S) (hP : ∀ i j, P i j = (lnP (allP S) (S - 8) (S - 8) i j || (decide (i = 8) && decide (j = S - 8)))) : dP D x y M S Q P = dP D x y M S Q (fxd S) := by
  apply dp_congr hM
  intro i j i0 i1 j0 j1
  rw [hP, al_ln hS (by omega) (by omega), ← Bool.decide_and, ← Bool.decide_or]
  unfold fxd
  apply decide_eq_decide.mpr
  constructor
  · rintro (((( h | h) | h) | (h | h)) | h)
    · exact crn_ne (crn_col (mi := 3) (mj := 3) hS (Or.inl ⟨rfl, rfl⟩) i0 i1 j0 j1 (by omega) (by omega) rfl)
    · exact crn_ne (crn_col (mi := S - 4) (mj := 3) hS (Or.inr (Or.inl ⟨rfl, rfl⟩)) i0 i1 j0 j1 (by omega) (by omega) rfl)
    · exact crn_ne (crn_col (mi := 3) (mj := S - 4) hS (Or.inr (Or.inr ⟨rfl, rfl⟩)) i0 i1 j0 j1 (by omega) (by omega) rfl)
    · rw [h.1, mdl_r hS h.2.1 (by omega)]; split <;> decide
    · rw [h.1, mdl_d hS h.2.1 (by omega)]; split <;> decide
    · rw [h.1, h.2, mdl_s hS]; decide
  · intro h
    by_cases q : (((-1 ≤ i ∧ i ≤ 7 ∧ -1 ≤ j ∧ j ≤ 7) ∨ (S - 8 ≤ i ∧ i ≤ S ∧ -1 ≤ j ∧ j ≤ 7)) ∨ (-1 ≤ i ∧ i ≤ 7 ∧ S - 8 ≤ j ∧ j ≤ S)) ∨ ((j = 6 ∧ 8 ≤ i ∧ i < S - 8) ∨ (i = 6 ∧ 8 ≤ j ∧ j < S - 8))
    · exact Or.inl q
    · by_cases r : i = 8 ∧ j = S - 8
      · exact Or.inr r
      · exact absurd (mdl_free hS i0 i1 j0 j1 (by omega) (by omega) (by omega) (by omega) (by omega) (by omega)) h
theorem DW_parts {D : Int → Int → Bool} {x y M S Q : Int} (hS : 21 ≤ S) : DW D x y M S Q = sI (gG (gN D x y M S Q) S) 0 0 8 8 + sI (gG (gN D x y M S Q) S) (S - 8) 0 8 8 + sI (gG (gN D x y M S Q) S) 0 (S - 8) 8 8 + s1 (fun i => gG (gN D x y M S Q) S i 6) 8 (S - 16).toNat + s1 (fun j => gG (gN D x y M S Q) S 6 j) 8 (S - 16).toNat + gG (gN D x y M S Q) S 8 (S - 8) := by
  unfold DW
  rw [sI_parts (g := gG (gN D x y M S Q) S) hS (fun i j _ _ _ _ m => if_pos m), sI_row1, sI_col1]
