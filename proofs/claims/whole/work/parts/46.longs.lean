/-! longs and the whole numbers that they stand for -/
theorem tl_k {a : Int64} {z : Int} (h : a.toInt = z) : a.toInt = z := h
theorem tl_bm {x : Int} (h1 : -9223372036854775808 ≤ x) (h2 : x < 9223372036854775808) : x.bmod (2 ^ 64) = x := by
  apply Int.bmod_eq_of_le_mul_two <;> omega
theorem tl_add {a b : Int64} {x y : Int} (ha : a.toInt = x) (hb : b.toInt = y) (h1 : -9223372036854775808 ≤ x + y) (h2 : x + y < 9223372036854775808) : (a + b).toInt = x + y := by
  rw [Int64.toInt_add, ha, hb, tl_bm h1 h2]
theorem tl_i2l {a : Int32} {x : Int} (ha : a.toInt = x) : a.toInt64.toInt = x := by
  rw [Int32.toInt_toInt64, ha]
theorem tl_l2i {a : Int64} {x : Int} (ha : a.toInt = x) (h1 : -2147483648 ≤ x) (h2 : x < 2147483648) : a.toInt32.toInt = x := by
  rw [Int64.toInt_toInt32, ha, ti_bm h1 h2]
theorem tl_cmp {a b : Int64} {x y : Int} (ha : a.toInt = x) (hb : b.toInt = y) : (lg_cmp a b).toInt = if y < x then 1 else if x = y then 0 else -1 := by
  unfold lg_cmp
  have e1 : a > b ↔ y < x := by show b < a ↔ _; rw [Int64.lt_iff_toInt_lt, ha, hb]
  have e2 : a = b ↔ x = y := by rw [← Int64.toInt_inj, ha, hb]
  by_cases c : a > b
  · rw [if_pos c, if_pos (e1.mp c)]; decide
  · rw [if_neg c, if_neg (fun q => c (e1.mpr q))]
    by_cases d : a = b
    · rw [if_pos d, if_pos (e2.mp d)]; decide
    · rw [if_neg d, if_neg (fun q => d (e2.mpr q))]; decide
theorem tl_min {a b : Int64} {x y : Int} (ha : a.toInt = x) (hb : b.toInt = y) : (if b < a then b else a).toInt = min x y := by
  have e1 : b < a ↔ y < x := by rw [Int64.lt_iff_toInt_lt, ha, hb]
  by_cases c : b < a
  · rw [if_pos c, hb]; have := e1.mp c; omega
  · rw [if_neg c, ha]; have q : ¬ y < x := fun q => c (e1.mpr q)
    omega
/-! the reference's own words: what a module is -/
def ap (a b : Int) : Int := if a < b then b - a else a - b
def dst (i j a b : Int) : Int := if ap j b < ap i a then ap i a else ap j b
def cC (d : Int) : Int := if d = 2 ∨ d = 4 then 0 else 1
def mdl (S i j : Int) : Int :=
  if dst i j 3 3 ≤ 4 then cC (dst i j 3 3) else if dst i j (S - 4) 3 ≤ 4 then cC (dst i j (S - 4) 3) else if dst i j 3 (S - 4) ≤ 4 then cC (dst i j 3 (S - 4)) else
  if j = 6 ∧ 8 ≤ i ∧ i ≤ S - 9 then (if i % 2 = 0 then 1 else 0) else if i = 6 ∧ 8 ≤ j ∧ j ≤ S - 9 then (if j % 2 = 0 then 1 else 0) else if i = 8 ∧ j = S - 8 then 1 else -1
theorem ap_b {a b : Int} (h1 : 0 ≤ a) (h2 : a ≤ 1000) (h3 : 0 ≤ b) (h4 : b ≤ 1000) : 0 ≤ ap a b ∧ ap a b ≤ 1000 := by unfold ap; split <;> omega
theorem dst_b {i j a b : Int} (h1 : 0 ≤ i) (h2 : i ≤ 1000) (h3 : 0 ≤ j) (h4 : j ≤ 1000) (h5 : 0 ≤ a) (h6 : a ≤ 1000) (h7 : 0 ≤ b) (h8 : b ≤ 1000) : 0 ≤ dst i j a b ∧ dst i j a b ≤ 1000 := by
  have := ap_b h1 h2 h5 h6
  have := ap_b h3 h4 h7 h8
  unfold dst; split <;> omega
def zb (b : Bool) : Int32 := if b = true then 1 else 0
theorem zb_nar (b : Bool) : narrow .boolean (.int (zb b)) = .int (zb b) := by cases b <;> decide
theorem zb_vn (b : Bool) : vp_nar .boolean (zb b) = zb b := by cases b <;> decide
def mdl2 (S i j : Int) : Int := if j = 6 ∧ 8 ≤ i ∧ i ≤ S - 9 then (if i % 2 = 0 then 1 else 0) else if i = 6 ∧ 8 ≤ j ∧ j ≤ S - 9 then (if j % 2 = 0 then 1 else 0) else if i = 8 ∧ j = S - 8 then 1 else -1
theorem mdl_w {S i j z : Int} (h : z = if dst i j 3 3 ≤ 4 then dst i j 3 3 else if dst i j (S - 4) 3 ≤ 4 then dst i j (S - 4) 3 else dst i j 3 (S - 4)) : mdl S i j = if z ≤ 4 then cC z else mdl2 S i j := by
  unfold mdl mdl2
  by_cases a : dst i j 3 3 ≤ 4
  · rw [if_pos a] at h ⊢; rw [h, if_pos a]
  · rw [if_neg a] at h ⊢
    by_cases b : dst i j (S - 4) 3 ≤ 4
    · rw [if_pos b] at h ⊢; rw [h, if_pos b]
    · rw [if_neg b] at h ⊢; rw [h]
