/-! bounds over a tile -/
def sBnd (W H M S TX TY SX SY : Int) : Prop := 1 ≤ W ∧ W ≤ 512 ∧ 1 ≤ H ∧ H ≤ 512 ∧ 1 ≤ M ∧ M ≤ 16 ∧ 0 ≤ S ∧ S ≤ 177 ∧ 0 ≤ TX ∧ TX ≤ 512 ∧ 0 ≤ TY ∧ TY ≤ 512 ∧ 0 ≤ SX ∧ SX ≤ 512 ∧ 0 ≤ SY ∧ SY ≤ 512
theorem cS_max {D : Int → Int → Bool} {W H x y w h : Int} (a1 : 0 ≤ x) (a2 : 0 ≤ y) (a3 : 0 ≤ w) (a4 : 0 ≤ h) (a5 : w = 0 ∨ x + w ≤ W) (a6 : h = 0 ∨ y + h ≤ H) : cS D W H x y w h = cI D x y w h := by
  by_cases q : w ≤ 0
  · rw [cS_out (by omega), cI_0w D x y h q]
  · by_cases r : h ≤ 0
    · rw [cS_out (by omega), cI_0h D x y w r]
    · exact cS_in (by omega)
/-- r is no less than the dark dots of the box at any position of the tile; the number itself at a single one -/
def isMost (D : Int → Int → Bool) (SX SY x y w h r : Int) : Prop := (∀ dx dy, 0 ≤ dx → dx ≤ SX → 0 ≤ dy → dy ≤ SY → cI D (x + dx) (y + dy) w h ≤ r) ∧ (SX = 0 → SY = 0 → r = cI D x y w h) ∧ 0 ≤ r ∧ r ≤ w * h
def isLeast (D : Int → Int → Bool) (SX SY x y w h r : Int) : Prop := (∀ dx dy, 0 ≤ dx → dx ≤ SX → 0 ≤ dy → dy ≤ SY → r ≤ cI D (x + dx) (y + dy) w h) ∧ (SX = 0 → SY = 0 → r = cI D x y w h) ∧ -262144 ≤ r ∧ r ≤ w * h
theorem isMost_1 {D : Int → Int → Bool} {SX SY x y w h : Int} (q : SX = 0 ∧ SY = 0) (b : 1 ≤ w ∧ 1 ≤ h) : isMost D SX SY x y w h (cI D x y (w + SX) (h + SY)) := by
  obtain ⟨rfl, rfl⟩ := q
  rw [Int.add_zero, Int.add_zero]
  refine ⟨fun dx dy h1 h2 h3 h4 => ?_, fun _ _ => rfl, cI_nn _ _ _ _ _, cI_le _ _ _ (by omega) (by omega)⟩
  have e1 : dx = 0 := by omega
  have e2 : dy = 0 := by omega
  rw [e1, e2, Int.add_zero, Int.add_zero]; exact Int.le_refl _
theorem isMost_2 {D : Int → Int → Bool} {SX SY x y w h CW CH : Int} (a1 : 0 ≤ SX) (a2 : 0 ≤ SY) (b1 : 1 ≤ w) (b2 : 1 ≤ h) (kW : CW = max (w - SX) 0) (kH : CH = max (h - SY) 0) (q : ¬ (SX = 0 ∧ SY = 0)) :
    isMost D SX SY x y w h (min (cI D x y (w + SX) (h + SY)) (cI D (x + SX) (y + SY) CW CH + w * h - CW * CH)) := by
  have n1 := cI_nn D x y (w + SX) (h + SY)
  have n3 := cI_nn D (x + SX) (y + SY) CW CH
  have n4 := cI_le D (x + SX) (y + SY) (w := CW) (h := CH) (by omega) (by omega)
  have m5 : CW * CH ≤ w * h := Int.mul_le_mul (by omega) (by omega) (by omega) (by omega)
  refine ⟨fun dx dy h1 h2 h3 h4 => ?_, fun e1 e2 => absurd ⟨e1, e2⟩ q, by omega, by omega⟩
  have t := (cI_in (D := D) (x := x) (y := y) (w := w + SX) (h := h + SY) (x' := x + dx) (y' := y + dy) (w' := w) (h' := h) (by omega) (by omega) (by omega) (by omega) (by omega) (by omega)).1
  have u : cI D (x + dx) (y + dy) w h ≤ cI D (x + SX) (y + SY) CW CH + w * h - CW * CH := by
    by_cases c1 : SX < w
    · by_cases c2 : SY < h
      · have v := (cI_in (D := D) (x := x + dx) (y := y + dy) (w := w) (h := h) (x' := x + SX) (y' := y + SY) (w' := CW) (h' := CH) (by omega) (by omega) (by omega) (by omega) (by omega) (by omega)).2
        omega
      · have e : CH = 0 := by omega
        have v := cI_le D (x + dx) (y + dy) (w := w) (h := h) (by omega) (by omega)
        rw [e] at n3 ⊢; rw [Int.mul_zero]; omega
    · have e : CW = 0 := by omega
      have v := cI_le D (x + dx) (y + dy) (w := w) (h := h) (by omega) (by omega)
      rw [e] at n3 ⊢; rw [Int.zero_mul]; omega
  omega
theorem isLeast_1 {D : Int → Int → Bool} {SX SY x y w h : Int} (q : SX = 0 ∧ SY = 0) (b : 1 ≤ w ∧ 1 ≤ h) : isLeast D SX SY x y w h (cI D x y (w + SX) (h + SY)) := by
  obtain ⟨rfl, rfl⟩ := q
  rw [Int.add_zero, Int.add_zero]
  have n := cI_nn D x y w h
  refine ⟨fun dx dy h1 h2 h3 h4 => ?_, fun _ _ => rfl, by omega, cI_le _ _ _ (by omega) (by omega)⟩
  have e1 : dx = 0 := by omega
  have e2 : dy = 0 := by omega
  rw [e1, e2, Int.add_zero, Int.add_zero]; exact Int.le_refl _
theorem isLeast_2 {D : Int → Int → Bool} {SX SY x y w h C : Int} (a1 : 0 ≤ SX) (a2 : 0 ≤ SY) (b1 : 1 ≤ w) (b2 : 1 ≤ h) (b3 : w + SX ≤ 512) (b4 : h + SY ≤ 512) (hC : (w - SX ≤ 0 ∨ h - SY ≤ 0) ∧ C = 0 ∨ ¬ (w - SX ≤ 0 ∨ h - SY ≤ 0) ∧ C = cI D (x + SX) (y + SY) (w - SX) (h - SY)) (q : ¬ (SX = 0 ∧ SY = 0)) :
    isLeast D SX SY x y w h (max (cI D x y (w + SX) (h + SY) - ((w + SX) * (h + SY) - w * h)) C) := by
  have n1 := cI_nn D x y (w + SX) (h + SY)
  have l1 := cI_le D x y (w := w + SX) (h := h + SY) (by omega) (by omega)
  have m1 := mul_b (a := w + SX) (b := h + SY) (n := 512) (by omega) (by omega) (by omega) (by omega)
  have m2 := Int.mul_nonneg (show 0 ≤ w by omega) (show 0 ≤ h by omega)
  have hC2 : ∀ dx dy, 0 ≤ dx → dx ≤ SX → 0 ≤ dy → dy ≤ SY → C ≤ cI D (x + dx) (y + dy) w h := by
    intro dx dy h1 h2 h3 h4
    rcases hC with ⟨_, e⟩ | ⟨c, e⟩
    · rw [e]; exact cI_nn _ _ _ _ _
    · rw [e]; exact (cI_in (D := D) (x := x + dx) (y := y + dy) (w := w) (h := h) (x' := x + SX) (y' := y + SY) (w' := w - SX) (h' := h - SY) (by omega) (by omega) (by omega) (by omega) (by omega) (by omega)).1
  have c0 := hC2 0 0 (by omega) a1 (by omega) a2
  rw [Int.add_zero, Int.add_zero] at c0
  have l2 := cI_le D x y (w := w) (h := h) (by omega) (by omega)
  refine ⟨fun dx dy h1 h2 h3 h4 => ?_, fun e1 e2 => absurd ⟨e1, e2⟩ q, by omega, by omega⟩
  have t := (cI_in (D := D) (x := x) (y := y) (w := w + SX) (h := h + SY) (x' := x + dx) (y' := y + dy) (w' := w) (h' := h) (by omega) (by omega) (by omega) (by omega) (by omega) (by omega)).2
  have u := hC2 dx dy h1 h2 h3 h4
  omega
theorem sq_k (a M : Int) : a * M * (a * M) = a * a * (M * M) := by rw [Int.mul_assoc a M, Int.mul_left_comm M a M, Int.mul_assoc]
/-- the wrong dots of a corner's 7 times 7 modules -/
def w7 (D : Int → Int → Bool) (M x y : Int) : Int := 33 * (M * M) - cI D x y (7 * M) (7 * M) + 2 * cI D (x + M) (y + M) (5 * M) (5 * M) - 2 * cI D (x + 2 * M) (y + 2 * M) (3 * M) (3 * M)
theorem floor7 {D : Int → Int → Bool} {M SX SY x y a b c : Int} (h3 : isMost D SX SY (x + 2 * M) (y + 2 * M) (3 * M) (3 * M) a) (h5 : isLeast D SX SY (x + M) (y + M) (5 * M) (5 * M) b) (h7 : isMost D SX SY x y (7 * M) (7 * M) c) (hM : 1 ≤ M) :
    ∀ dx dy, 0 ≤ dx → dx ≤ SX → 0 ≤ dy → dy ≤ SY → 9 * M * M - a + max (b - a) 0 + max (24 * M * M - (c - b)) 0 ≤ w7 D M (x + dx) (y + dy) := by
  intro dx dy d1 d2 d3 d4
  have t3 := h3.1 dx dy d1 d2 d3 d4
  have t5 := h5.1 dx dy d1 d2 d3 d4
  have t7 := h7.1 dx dy d1 d2 d3 d4
  have x2 : x + 2 * M + dx = x + dx + 2 * M := by omega
  have y2 : y + 2 * M + dy = y + dy + 2 * M := by omega
  have x1 : x + M + dx = x + dx + M := by omega
  have y1 : y + M + dy = y + dy + M := by omega
  rw [x2, y2] at t3; rw [x1, y1] at t5
  have i3 := cI_in (D := D) (x := x + dx + M) (y := y + dy + M) (w := 5 * M) (h := 5 * M) (x' := x + dx + 2 * M) (y' := y + dy + 2 * M) (w' := 3 * M) (h' := 3 * M) (by omega) (by omega) (by omega) (by omega) (by omega) (by omega)
  have i5 := cI_in (D := D) (x := x + dx) (y := y + dy) (w := 7 * M) (h := 7 * M) (x' := x + dx + M) (y' := y + dy + M) (w' := 5 * M) (h' := 5 * M) (by omega) (by omega) (by omega) (by omega) (by omega) (by omega)
  have l3 := cI_le D (x + dx + 2 * M) (y + dy + 2 * M) (w := 3 * M) (h := 3 * M) (by omega) (by omega)
  have e3 : 3 * M * (3 * M) = 9 * (M * M) := sq_k 3 M
  have e5 : 5 * M * (5 * M) = 25 * (M * M) := sq_k 5 M
  have e7 : 7 * M * (7 * M) = 49 * (M * M) := sq_k 7 M
  have e9 : 9 * M * M = 9 * (M * M) := Int.mul_assoc _ _ _
  have e24 : 24 * M * M = 24 * (M * M) := Int.mul_assoc _ _ _
  unfold w7
  omega
/-- the dark dots of the light modules between a corner and the rest -/
def bd (D : Int → Int → Bool) (M k x y : Int) : Int := cI D (if k = 1 ∨ k = 2 then x - M else x + 7 * M) y M (7 * M) + cI D (if k = 1 ∨ k = 2 then x - M else x) (if 2 ≤ k then y - M else y + 7 * M) (8 * M) M
theorem bd_low {D : Int → Int → Bool} {M k SX SY x y a b zx mx zy : Int} (h1 : isLeast D SX SY zx y M (7 * M) a) (h2 : isLeast D SX SY mx zy (8 * M) M b) (ex : zx = if k = 1 ∨ k = 2 then x - M else x + 7 * M) (em : mx = if k = 1 ∨ k = 2 then x - M else x) (ey : zy = if 2 ≤ k then y - M else y + 7 * M) :
    ∀ dx dy, 0 ≤ dx → dx ≤ SX → 0 ≤ dy → dy ≤ SY → a + b ≤ bd D M k (x + dx) (y + dy) := by
  intro dx dy d1 d2 d3 d4
  have t1 := h1.1 dx dy d1 d2 d3 d4
  have t2 := h2.1 dx dy d1 d2 d3 d4
  unfold bd
  have f1 : zx + dx = if k = 1 ∨ k = 2 then x + dx - M else x + dx + 7 * M := by rw [ex]; split <;> omega
  have f2 : mx + dx = if k = 1 ∨ k = 2 then x + dx - M else x + dx := by rw [em]; split <;> omega
  have f3 : zy + dy = if 2 ≤ k then y + dy - M else y + dy + 7 * M := by rw [ey]; split <;> omega
  rw [f1] at t1; rw [f2, f3] at t2
  omega
/-- the wrong dots of a corner: 8 times 8 modules -/
def cW (D : Int → Int → Bool) (M k x y : Int) : Int := 33 * (M * M) + cI D (if k = 1 ∨ k = 2 then x - M else x) (if 2 ≤ k then y - M else y) (8 * M) (8 * M) - 2 * cI D x y (7 * M) (7 * M) + 2 * cI D (x + M) (y + M) (5 * M) (5 * M) - 2 * cI D (x + 2 * M) (y + 2 * M) (3 * M) (3 * M)
theorem cW_sum {D : Int → Int → Bool} {M k x y : Int} (hM : 1 ≤ M) : cW D M k x y = w7 D M x y + bd D M k x y := by
  unfold cW w7 bd
  by_cases r : k = 1 ∨ k = 2
  · rw [if_pos r, if_pos r]
    by_cases o : 2 ≤ k
    · rw [if_pos o, if_pos o]
      have s1 : cI D (x - M) (y - M) (8 * M) (M + 7 * M) = cI D (x - M) (y - M) (8 * M) M + cI D (x - M) (y - M + M) (8 * M) (7 * M) := cI_h _ _ (by omega) (by omega)
      have s2 : cI D (x - M) (y - M + M) (M + 7 * M) (7 * M) = cI D (x - M) (y - M + M) M (7 * M) + cI D (x - M + M) (y - M + M) (7 * M) (7 * M) := cI_w _ _ (by omega) (by omega)
      have e1 : M + 7 * M = 8 * M := by omega
      have e2 : y - M + M = y := by omega
      have e3 : x - M + M = x := by omega
      rw [e1] at s1 s2; rw [e2] at s1; rw [e2, e3] at s2
      omega
    · rw [if_neg o, if_neg o]
      have s1 : cI D (x - M) y (8 * M) (7 * M + M) = cI D (x - M) y (8 * M) (7 * M) + cI D (x - M) (y + 7 * M) (8 * M) M := cI_h _ _ (by omega) (by omega)
      have s2 : cI D (x - M) y (M + 7 * M) (7 * M) = cI D (x - M) y M (7 * M) + cI D (x - M + M) y (7 * M) (7 * M) := cI_w _ _ (by omega) (by omega)
      have e1 : M + 7 * M = 8 * M := by omega
      have e4 : 7 * M + M = 8 * M := by omega
      have e3 : x - M + M = x := by omega
      rw [e4] at s1; rw [e1, e3] at s2
      omega
  · rw [if_neg r, if_neg r]
    by_cases o : 2 ≤ k
    · rw [if_pos o, if_pos o]
      have s1 : cI D x (y - M) (8 * M) (M + 7 * M) = cI D x (y - M) (8 * M) M + cI D x (y - M + M) (8 * M) (7 * M) := cI_h _ _ (by omega) (by omega)
      have s2 : cI D x (y - M + M) (7 * M + M) (7 * M) = cI D x (y - M + M) (7 * M) (7 * M) + cI D (x + 7 * M) (y - M + M) M (7 * M) := cI_w _ _ (by omega) (by omega)
      have e1 : M + 7 * M = 8 * M := by omega
      have e4 : 7 * M + M = 8 * M := by omega
      have e2 : y - M + M = y := by omega
      rw [e1, e2] at s1; rw [e4, e2] at s2
      omega
    · rw [if_neg o, if_neg o]
      have s1 : cI D x y (8 * M) (7 * M + M) = cI D x y (8 * M) (7 * M) + cI D x (y + 7 * M) (8 * M) M := cI_h _ _ (by omega) (by omega)
      have s2 : cI D x y (7 * M + M) (7 * M) = cI D x y (7 * M) (7 * M) + cI D (x + 7 * M) y M (7 * M) := cI_w _ _ (by omega) (by omega)
      have e4 : 7 * M + M = 8 * M := by omega
      rw [e4] at s1; rw [e4] at s2
      omega
