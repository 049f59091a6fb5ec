/-! quarters that are live: the low four bits of an int -/
def bt (l q : Int) : Bool := l.toNat.testBit q.toNat
theorem mk_test : ∀ l, l < 16 → ∀ q, q < 4 → ((nI l >>> (nI q &&& 31)) &&& 1 = 0 ↔ l.testBit q = false) := by decide +kernel
theorem mk_clr : ∀ l, l < 16 → ∀ q, q < 4 → (nI l &&& ((1 : Int32) <<< (nI q &&& 31) ^^^ (-1))).toInt.toNat < 16 ∧ 0 ≤ (nI l &&& ((1 : Int32) <<< (nI q &&& 31) ^^^ (-1))).toInt ∧ ∀ z, z < 4 → (nI l &&& ((1 : Int32) <<< (nI q &&& 31) ^^^ (-1))).toInt.toNat.testBit z = (l.testBit z && decide (z ≠ q)) := by decide +kernel
theorem mk_only : ∀ l, l < 16 → ∀ q, q < 4 → (nI l &&& ((1 : Int32) <<< (nI q &&& 31))).toInt.toNat < 16 ∧ 0 ≤ (nI l &&& ((1 : Int32) <<< (nI q &&& 31))).toInt ∧ ∀ z, z < 4 → (nI l &&& ((1 : Int32) <<< (nI q &&& 31))).toInt.toNat.testBit z = (l.testBit z && decide (z = q)) := by decide +kernel
theorem mk_any : ∀ l, l < 16 → ∀ q, q < 4 → (nI l &&& ((1 : Int32) <<< (nI q &&& 31) ^^^ (-1)) = 0 ↔ ∀ z, z < 4 → z ≠ q → l.testBit z = false) := by decide +kernel
theorem mk_0 : ∀ l, l < 16 → ((∀ z, z < 4 → l.testBit z = false) ↔ l = 0) := by decide +kernel
theorem bt_test {a v : Int32} {l q : Int} (ha : a.toInt = l) (hv : v.toInt = q) (l0 : 0 ≤ l) (l1 : l < 16) (q0 : 0 ≤ q) (q1 : q < 4) : (a >>> (v &&& 31)) &&& 1 = 0 ↔ bt l q = false := by
  rw [ti_nI ha l0, ti_nI hv q0]; exact mk_test l.toNat (by omega) q.toNat (by omega)
theorem bt_clr {a v : Int32} {l q : Int} (ha : a.toInt = l) (hv : v.toInt = q) (l0 : 0 ≤ l) (l1 : l < 16) (q0 : 0 ≤ q) (q1 : q < 4) : ∃ l', (a &&& ((1 : Int32) <<< (v &&& 31) ^^^ (-1))).toInt = l' ∧ 0 ≤ l' ∧ l' < 16 ∧ ∀ z, 0 ≤ z → z < 4 → bt l' z = (bt l z && decide (z ≠ q)) := by
  rw [ti_nI ha l0, ti_nI hv q0]
  have h := mk_clr l.toNat (by omega) q.toNat (by omega)
  refine ⟨_, rfl, h.2.1, by omega, fun z z0 z1 => ?_⟩
  unfold bt
  rw [h.2.2 z.toNat (by omega)]
  congr 1
  apply decide_eq_decide.mpr; omega
theorem bt_only {a v : Int32} {l q : Int} (ha : a.toInt = l) (hv : v.toInt = q) (l0 : 0 ≤ l) (l1 : l < 16) (q0 : 0 ≤ q) (q1 : q < 4) : ∃ l', (a &&& ((1 : Int32) <<< (v &&& 31))).toInt = l' ∧ 0 ≤ l' ∧ l' < 16 ∧ ∀ z, 0 ≤ z → z < 4 → bt l' z = (bt l z && decide (z = q)) := by
  rw [ti_nI ha l0, ti_nI hv q0]
  have h := mk_only l.toNat (by omega) q.toNat (by omega)
  refine ⟨_, rfl, h.2.1, by omega, fun z z0 z1 => ?_⟩
  unfold bt
  rw [h.2.2 z.toNat (by omega)]
  congr 1
  apply decide_eq_decide.mpr; omega
theorem bt_any {a v : Int32} {l q : Int} (ha : a.toInt = l) (hv : v.toInt = q) (l0 : 0 ≤ l) (l1 : l < 16) (q0 : 0 ≤ q) (q1 : q < 4) : a &&& ((1 : Int32) <<< (v &&& 31) ^^^ (-1)) = 0 ↔ ∀ z, 0 ≤ z → z < 4 → z ≠ q → bt l z = false := by
  rw [ti_nI ha l0, ti_nI hv q0, mk_any l.toNat (by omega) q.toNat (by omega)]
  constructor
  · intro h z z0 z1 ne; exact h z.toNat (by omega) (by omega)
  · intro h z z1 ne
    have := h z (by omega) (by omega) (by omega)
    unfold bt at this
    have e : ((z : Int)).toNat = z := by omega
    rw [e] at this; exact this
theorem bt_0 {l : Int} (l0 : 0 ≤ l) (l1 : l < 16) : (∀ z, 0 ≤ z → z < 4 → bt l z = false) ↔ l = 0 := by
  have h := mk_0 l.toNat (by omega)
  constructor
  · intro g
    have := h.mp (fun z z1 => by have := g z (by omega) (by omega); unfold bt at this; have e : ((z : Int)).toNat = z := by omega
                                 rw [e] at this; exact this)
    omega
  · intro g z z0 z1; subst g; unfold bt; simp
/-- 15 & ~(1 << (corner + 2 & 3)) -/
theorem mk_all : ∀ c, c < 4 → ((15 : Int32) &&& ((1 : Int32) <<< (((nI c + 2) &&& 3) &&& 31) ^^^ (-1))).toInt.toNat < 16 ∧ 0 ≤ ((15 : Int32) &&& ((1 : Int32) <<< (((nI c + 2) &&& 3) &&& 31) ^^^ (-1))).toInt ∧ ∀ z, z < 4 → ((15 : Int32) &&& ((1 : Int32) <<< (((nI c + 2) &&& 3) &&& 31) ^^^ (-1))).toInt.toNat.testBit z = decide (z ≠ (c + 2) % 4) := by decide +kernel
theorem bt_all {c : Int32} {k : Int} (hc : c.toInt = k) (k0 : 0 ≤ k) (k1 : k < 4) : ∃ l', ((15 : Int32) &&& ((1 : Int32) <<< (((c + 2) &&& 3) &&& 31) ^^^ (-1))).toInt = l' ∧ 0 ≤ l' ∧ l' < 16 ∧ ∀ z, 0 ≤ z → z < 4 → bt l' z = decide (z ≠ (k + 2) % 4) := by
  rw [ti_nI hc k0]
  have h := mk_all k.toNat (by omega)
  refine ⟨_, rfl, h.2.1, by omega, fun z z0 z1 => ?_⟩
  unfold bt
  rw [h.2.2 z.toNat (by omega)]
  apply decide_eq_decide.mpr; omega
/-- a number modulo 4 by its two low bits -/
theorem mk_and3 : ∀ c, c < 16 → (nI c &&& 3).toInt = ((c % 4 : Nat) : Int) := by decide +kernel
theorem bt_and3 {v : Int32} {k : Int} (hv : v.toInt = k) (k0 : 0 ≤ k) (k1 : k < 16) : (v &&& 3).toInt = k % 4 := by
  rw [ti_nI hv k0, mk_and3 k.toNat (by omega)]; omega
/-! the sides' changing modules: no fewer are wrong than dark dots are missing, or too many -/
theorem alt_low {c : Int → Int} {MM : Int} (h0 : ∀ i, 0 ≤ c i) (h1 : ∀ i, c i ≤ MM) (x : Int) (hx : x % 2 = 0) : ∀ n : Nat, ((n : Int) + 1) / 2 * MM - s1 c x n ≤ s1 (fun i => if i % 2 = 0 then MM - c i else c i) x n ∧ s1 c x n - ((n : Int) + 1) / 2 * MM ≤ s1 (fun i => if i % 2 = 0 then MM - c i else c i) x n
  | 0 => by simp [s1]
  | n + 1 => by
    have ih := alt_low h0 h1 x hx n
    simp only [s1]
    have a := h0 (x + n)
    have b := h1 (x + n)
    by_cases q : (n : Int) % 2 = 0
    · have e : (((n + 1 : Nat) : Int) + 1) / 2 = ((n : Int) + 1) / 2 + 1 := by omega
      rw [e, Int.add_mul, Int.one_mul, if_pos (by omega)]
      omega
    · have e : (((n + 1 : Nat) : Int) + 1) / 2 = ((n : Int) + 1) / 2 := by omega
      rw [e, if_neg (by omega)]
      omega
theorem ls_low {D : Int → Int → Bool} {x y M S k : Int} (hM : 1 ≤ M) (hS : 21 ≤ S) (hS2 : S % 2 = 1) (k0 : 0 ≤ k) (k3 : k ≤ 3) :
    (S - 15) / 2 * M * M - cI D (LXk x M S k) (LYk y M S k) (if k % 2 = 0 then (S - 16) * M else M) (if k % 2 = 0 then M else (S - 16) * M) ≤ LSk D x y M S k ∧
    cI D (LXk x M S k) (LYk y M S k) (if k % 2 = 0 then (S - 16) * M else M) (if k % 2 = 0 then M else (S - 16) * M) - (S - 15) / 2 * M * M ≤ LSk D x y M S k := by
  have en : (((S - 16).toNat : Nat) : Int) = S - 16 := by omega
  have e1 : ((S - 16) + 1) / 2 = (S - 15) / 2 := by congr 1; omega
  have cm : (S - 16) * M = M * (S - 16) := Int.mul_comm _ _
  have ma : (S - 15) / 2 * M * M = (S - 15) / 2 * (M * M) := Int.mul_assoc _ _ _
  unfold LSk
  by_cases q : k % 2 = 0
  · rw [if_pos q, if_pos q, if_pos q]
    have t := alt_low (c := fun i => cI D (LXk x M S k + M * i) (LYk y M S k) M M) (MM := M * M) (fun i => cI_nn _ _ _ _ _) (fun i => cI_le _ _ _ (by omega) (by omega)) 0 (by decide) (S - 16).toNat
    rw [stack_r (by omega), en, e1, Int.mul_zero, Int.add_zero] at t
    have f : (fun i : Int => if i % 2 = 0 then M * M - cI D (LXk x M S k + M * i) (LYk y M S k) M M else cI D (LXk x M S k + M * i) (LYk y M S k) M M) = lwF D M (LXk x M S k) (LYk y M S k) M := by
      funext i; unfold lwF; rw [Int.mul_comm i M, Int.sub_self, Int.mul_zero, Int.add_zero]
    simp only [f] at t
    rw [ma, cm]; exact t
  · rw [if_neg q, if_neg q, if_neg q]
    have t := alt_low (c := fun i => cI D (LXk x M S k) (LYk y M S k + M * i) M M) (MM := M * M) (fun i => cI_nn _ _ _ _ _) (fun i => cI_le _ _ _ (by omega) (by omega)) 0 (by decide) (S - 16).toNat
    rw [stack_d (by omega), en, e1, Int.mul_zero, Int.add_zero] at t
    have f : (fun i : Int => if i % 2 = 0 then M * M - cI D (LXk x M S k) (LYk y M S k + M * i) M M else cI D (LXk x M S k) (LYk y M S k + M * i) M M) = lwF D M (LXk x M S k) (LYk y M S k) 0 := by
      funext i; unfold lwF; rw [Int.sub_zero, Int.mul_zero, Int.add_zero, Int.mul_comm i M]
    simp only [f] at t
    rw [ma, cm]; exact t
theorem LS_nn {D : Int → Int → Bool} {x y M S k : Int} (hM : 0 ≤ M) : 0 ≤ LSk D x y M S k := s1_nn (fun i => lw_nn hM i)
theorem sp_nn {D : Int → Int → Bool} {x y M S k : Int} (hM : 0 ≤ M) : 0 ≤ spW D x y M S k := by
  have := cI_le D (x + M * spA S k) (y + M * spB S k) (w := M) (h := M) hM hM
  unfold spW; omega
theorem w7_nn {D : Int → Int → Bool} {M x y : Int} (hM : 1 ≤ M) : 0 ≤ w7 D M x y := by
  have i3 := cI_in (D := D) (x := x + M) (y := y + M) (w := 5 * M) (h := 5 * M) (x' := x + 2 * M) (y' := y + 2 * M) (w' := 3 * M) (h' := 3 * M) (by omega) (by omega) (by omega) (by omega) (by omega) (by omega)
  have i5 := cI_in (D := D) (x := x) (y := y) (w := 7 * M) (h := 7 * M) (x' := x + M) (y' := y + M) (w' := 5 * M) (h' := 5 * M) (by omega) (by omega) (by omega) (by omega) (by omega) (by omega)
  have l3 := cI_le D (x + 2 * M) (y + 2 * M) (w := 3 * M) (h := 3 * M) (by omega) (by omega)
  have e3 : 3 * M * (3 * M) = 9 * (M * M) := sq_k 3 M
  have e5 : 5 * M * (5 * M) = 25 * (M * M) := sq_k 5 M
  have e7 : 7 * M * (7 * M) = 49 * (M * M) := sq_k 7 M
  unfold w7; omega
theorem bd_nn {D : Int → Int → Bool} {M k x y : Int} : 0 ≤ bd D M k x y := by
  unfold bd
  have a := cI_nn D (if k = 1 ∨ k = 2 then x - M else x + 7 * M) y M (7 * M)
  have b := cI_nn D (if k = 1 ∨ k = 2 then x - M else x) (if 2 ≤ k then y - M else y + 7 * M) (8 * M) M
  omega
theorem cW_nn {D : Int → Int → Bool} {M k x y : Int} (hM : 1 ≤ M) : 0 ≤ cW D M k x y := by
  rw [cW_sum hM]; have := w7_nn (D := D) (x := x) (y := y) hM; have := bd_nn (D := D) (M := M) (k := k) (x := x) (y := y); omega
