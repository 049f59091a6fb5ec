/-! how many bits a long has: the way of the library, by bytes -/
def rep (c : Nat) : Nat → Nat
  | 0 => 0
  | k + 1 => 256 * rep c k + c
theorem and_b {y m b c : Nat} (hb : b < 256) (hc : c < 256) : (256 * y + b) &&& (256 * m + c) = 256 * (y &&& m) + (b &&& c) := by
  have hbc : b &&& c < 256 := Nat.lt_of_le_of_lt Nat.and_le_left hb
  apply Nat.eq_of_testBit_eq
  intro i
  have e : (256 : Nat) = 2 ^ 8 := rfl
  rw [Nat.testBit_and, e, Nat.testBit_two_pow_mul_add _ hb, Nat.testBit_two_pow_mul_add _ hc, Nat.testBit_two_pow_mul_add _ hbc]
  by_cases q : i < 8
  · rw [if_pos q, if_pos q, if_pos q, Nat.testBit_and]
  · rw [if_neg q, if_neg q, if_neg q, Nat.testBit_and]
def pq1 (b : Nat) : Nat := b - (b / 2 &&& 85)
def pq2 (b : Nat) : Nat := (b &&& 51) + (b / 4 &&& 51)
def pq3 (b : Nat) : Nat := (b + b / 16) &&& 15
def pf1 (k n : Nat) : Nat := n - (n / 2 &&& rep 85 k)
def pf2 (k n : Nat) : Nat := (n &&& rep 51 k) + (n / 4 &&& rep 51 k)
def pf3 (k n : Nat) : Nat := (n + n / 16) &&& rep 15 k
theorem dec_all {P : Nat → Prop} [DecidablePred P] {n : Nat} (h : (List.range n).all (fun i => decide (P i)) = true) {i : Nat} (hi : i < n) : P i :=
  of_decide_eq_true (List.all_eq_true.mp h i (List.mem_range.mpr hi))
theorem pa1 {b t : Nat} (hb : b < 256) (ht : t < 2) : (b / 2 + 128 * t) &&& 85 = b / 2 &&& 85 := by
  have h := dec_all (P := fun b => ((b / 2 + 128 * 0) &&& 85 = b / 2 &&& 85) ∧ ((b / 2 + 128 * 1) &&& 85 = b / 2 &&& 85)) (n := 256) (by decide +kernel) hb
  rcases (show t = 0 ∨ t = 1 by omega) with e | e <;> subst e
  · exact h.1
  · exact h.2
theorem pa2 {b t : Nat} (hb : b < 256) (ht : t < 4) : (b / 4 + 64 * t) &&& 51 = b / 4 &&& 51 := by
  have h := dec_all (P := fun b => ((b / 4 + 64 * 0) &&& 51 = b / 4 &&& 51) ∧ ((b / 4 + 64 * 1) &&& 51 = b / 4 &&& 51) ∧ ((b / 4 + 64 * 2) &&& 51 = b / 4 &&& 51) ∧ ((b / 4 + 64 * 3) &&& 51 = b / 4 &&& 51)) (n := 256) (by decide +kernel) hb
  rcases (show t = 0 ∨ t = 1 ∨ t = 2 ∨ t = 3 by omega) with e | e | e | e <;> subst e
  · exact h.1
  · exact h.2.1
  · exact h.2.2.1
  · exact h.2.2.2
theorem pa3 {b t : Nat} : (b + 16 * t) &&& 15 = b &&& 15 := by
  have e : (15 : Nat) = 2 ^ 4 - 1 := rfl
  rw [e, Nat.and_two_pow_sub_one_eq_mod, Nat.and_two_pow_sub_one_eq_mod]; omega
theorem pb1 {k y b : Nat} (hb : b < 256) : pf1 (k + 1) (256 * y + b) = 256 * pf1 k y + pq1 b := by
  unfold pf1 pq1
  have e : (256 * y + b) / 2 = 256 * (y / 2) + (b / 2 + 128 * (y % 2)) := by omega
  have r : rep 85 (k + 1) = 256 * rep 85 k + 85 := rfl
  rw [e, r, and_b (by omega) (by omega), pa1 hb (by omega)]
  have l1 : (y / 2 &&& rep 85 k) ≤ y / 2 := Nat.and_le_left
  have l2 : (b / 2 &&& 85) ≤ b / 2 := Nat.and_le_left
  omega
theorem pb2 {k y b : Nat} (hb : b < 256) : pf2 (k + 1) (256 * y + b) = 256 * pf2 k y + pq2 b := by
  unfold pf2 pq2
  have e : (256 * y + b) / 4 = 256 * (y / 4) + (b / 4 + 64 * (y % 4)) := by omega
  have r : rep 51 (k + 1) = 256 * rep 51 k + 51 := rfl
  rw [e, r, and_b (by omega) (by omega), and_b (by omega) (by omega), pa2 hb (by omega)]
  omega
theorem pb3 {k y b : Nat} (hb : b ≤ 68) (hy : y % 16 ≤ 4) : pf3 (k + 1) (256 * y + b) = 256 * pf3 k y + pq3 b := by
  unfold pf3 pq3
  have e : (256 * y + b) + (256 * y + b) / 16 = 256 * (y + y / 16) + ((b + b / 16) + 16 * (y % 16)) := by omega
  have r : rep 15 (k + 1) = 256 * rep 15 k + 15 := rfl
  rw [e, r, and_b (by omega) (by omega), pa3]
def pop (b : Nat) : Nat := pq3 (pq2 (pq1 b))
theorem pq_b {b : Nat} (hb : b < 256) : pq1 b < 256 ∧ pq2 (pq1 b) ≤ 68 ∧ pq2 (pq1 b) % 16 ≤ 4 ∧ pop b ≤ 8 :=
  dec_all (P := fun b => pq1 b < 256 ∧ pq2 (pq1 b) ≤ 68 ∧ pq2 (pq1 b) % 16 ≤ 4 ∧ pop b ≤ 8) (n := 256) (by decide +kernel) hb
def pF3 (k n : Nat) : Nat := pf3 k (pf2 k (pf1 k n))
theorem pf_low {k n : Nat} : pf2 k (pf1 k n) % 16 ≤ 4 := by
  cases k with
  | zero => unfold pf2; simp [rep]
  | succ k =>
    have e : n = 256 * (n / 256) + n % 256 := by omega
    have q := pq_b (b := n % 256) (by omega)
    rw [e, pb1 (by omega), pb2 q.1]; omega
theorem pF_step {k n : Nat} : pF3 (k + 1) n = 256 * pF3 k (n / 256) + pop (n % 256) := by
  unfold pF3
  have e : n = 256 * (n / 256) + n % 256 := by omega
  have q := pq_b (b := n % 256) (by omega)
  conv => lhs; rw [e]
  rw [pb1 (by omega), pb2 q.1, pb3 q.2.1 pf_low]; rfl
theorem nb_split (f : Nat → Bool) (a : Nat) : ∀ n : Nat, nb f (a + n) = nb f a + nb (fun i => f (a + i)) n
  | 0 => by simp [nb]
  | n + 1 => by
    show nb f (a + n) + (if f (a + n) = true then 1 else 0) = nb f a + (nb (fun i => f (a + i)) n + (if f (a + n) = true then 1 else 0))
    rw [nb_split f a n]; omega
theorem nb_congr {f g : Nat → Bool} : ∀ n : Nat, (∀ i, i < n → f i = g i) → nb f n = nb g n
  | 0, _ => rfl
  | n + 1, h => by
    simp only [nb]
    rw [nb_congr n (fun i hi => h i (by omega)), h n (by omega)]
theorem nb_byte {b : Nat} (hb : b < 256) : nb (fun i => b.testBit i) 8 = (pop b : Int) :=
  dec_all (P := fun b => nb (fun i => b.testBit i) 8 = (pop b : Int)) (n := 256) (by decide +kernel) hb
theorem nb_step {n m : Nat} : nb (fun i => n.testBit i) (8 + m) = (pop (n % 256) : Int) + nb (fun i => (n / 256).testBit i) m := by
  rw [nb_split, ← nb_byte (b := n % 256) (by omega)]
  have e : n = 2 ^ 8 * (n / 256) + n % 256 := by omega
  congr 1
  · apply nb_congr
    intro i hi
    conv => lhs; rw [e]
    rw [Nat.testBit_two_pow_mul_add _ (by omega), if_pos hi]
  · apply nb_congr
    intro i hi
    conv => lhs; rw [e]
    rw [Nat.testBit_two_pow_mul_add _ (by omega), if_neg (by omega)]
    congr 1; omega
theorem pop_sum (n : Nat) : ∃ z z1 z2 z3 z4 z5 z6 q0 q1 q2 q3 q4 q5 q6 q7 : Nat, pF3 8 n = z ∧ z = 256 * z1 + q0 ∧ z1 = 256 * z2 + q1 ∧ z2 = 256 * z3 + q2 ∧ z3 = 256 * z4 + q3 ∧ z4 = 256 * z5 + q4 ∧ z5 = 256 * z6 + q5 ∧ z6 = 256 * q7 + q6 ∧
    q0 ≤ 8 ∧ q1 ≤ 8 ∧ q2 ≤ 8 ∧ q3 ≤ 8 ∧ q4 ≤ 8 ∧ q5 ≤ 8 ∧ q6 ≤ 8 ∧ q7 ≤ 8 ∧ nb (fun i => n.testBit i) 64 = ((q0 + q1 + q2 + q3 + q4 + q5 + q6 + q7 : Nat) : Int) := by
  have b (m : Nat) : pop (m % 256) ≤ 8 := (pq_b (b := m % 256) (by omega)).2.2.2
  have z0 (m : Nat) : pF3 0 m = 0 := by unfold pF3 pf3; simp [rep]
  have s1 := nb_step (n := n) (m := 56)
  have s2 := nb_step (n := n / 256) (m := 48)
  have s3 := nb_step (n := n / 256 / 256) (m := 40)
  have s4 := nb_step (n := n / 256 / 256 / 256) (m := 32)
  have s5 := nb_step (n := n / 256 / 256 / 256 / 256) (m := 24)
  have s6 := nb_step (n := n / 256 / 256 / 256 / 256 / 256) (m := 16)
  have s7 := nb_step (n := n / 256 / 256 / 256 / 256 / 256 / 256) (m := 8)
  have s8 := nb_step (n := n / 256 / 256 / 256 / 256 / 256 / 256 / 256) (m := 0)
  have s9 : nb (fun i => (n / 256 / 256 / 256 / 256 / 256 / 256 / 256 / 256).testBit i) 0 = 0 := rfl
  simp only [Nat.reduceAdd] at s1 s2 s3 s4 s5 s6 s7 s8
  have t8 : pF3 1 (n / 256 / 256 / 256 / 256 / 256 / 256 / 256) = pop (n / 256 / 256 / 256 / 256 / 256 / 256 / 256 % 256) := by rw [pF_step, z0]; omega
  refine ⟨_, _, _, _, _, _, _, _, _, _, _, _, _, _, _, rfl, pF_step, pF_step, pF_step, pF_step, pF_step, pF_step, by rw [pF_step, t8], b _, b _, b _, b _, b _, b _, b _, b _, ?_⟩
  rw [s1, s2, s3, s4, s5, s6, s7, s8, s9]
  simp only [Int.natCast_add]
  omega
theorem pop_d {z4 z5 z6 q7 r a : Nat} (h : a = 4294967296 * (z4 + z5 + z6 + q7) + r) (hr : r < 4294967296) : a / 4294967296 = z4 + z5 + z6 + q7 := by
  rw [h, Nat.mul_add_div (by decide), Nat.div_eq_of_lt hr, Nat.add_zero]
theorem pop_d2 {t r a : Nat} (h : a = 65536 * t + r) (hr : r < 65536) : a / 65536 = t := by
  rw [h, Nat.mul_add_div (by decide), Nat.div_eq_of_lt hr, Nat.add_zero]
theorem pop_d1 {t r a : Nat} (h : a = 256 * t + r) (hr : r < 256) : a / 256 = t := by
  rw [h, Nat.mul_add_div (by decide), Nat.div_eq_of_lt hr, Nat.add_zero]
theorem pop_m {t r a : Nat} (h : a = 128 * t + r) (hr : r < 128) : a % 128 = r := by
  rw [h, Nat.mul_add_mod, Nat.mod_eq_of_lt hr]
theorem pop_end {n a1 a2 a3 a4 a5 a6 : Nat} (h1 : a1 = n - (n / 2 &&& 6148914691236517205)) (h2 : a2 = (a1 &&& 3689348814741910323) + (a1 / 4 &&& 3689348814741910323)) (h3 : a3 = (a2 + a2 / 16) &&& 1085102592571150095)
    (h4 : a4 = a3 + a3 / 256) (h5 : a5 = a4 + a4 / 65536) (h6 : a6 = a5 + a5 / 4294967296) : a3 < 1000000000000000000 ∧ a4 < 2000000000000000000 ∧ a5 < 3000000000000000000 ∧ a6 < 4000000000000000000 ∧ ((a6 % 128 : Nat) : Int) = nb (fun i => n.testBit i) 64 ∧ a6 % 128 ≤ 64 := by
  obtain ⟨z, z1, z2, z3, z4, z5, z6, q0, q1, q2, q3, q4, q5, q6, q7, e, e0, e1, e2, e3, e4, e5, e6, b0, b1, b2, b3, b4, b5, b6, b7, hn⟩ := pop_sum n
  have r5 : rep 85 8 = 6148914691236517205 := by decide
  have r3 : rep 51 8 = 3689348814741910323 := by decide
  have rf : rep 15 8 = 1085102592571150095 := by decide
  have k3 : a3 = z := by rw [← e, h3, h2, h1]; unfold pF3 pf3 pf2 pf1; rw [r5, r3, rf]
  clear r5 r3 rf h1 h2 h3 e
  rw [hn]; clear hn
  have k4 : a4 = z + z1 := by rw [h4, k3, pop_d1 e0 (by omega)]
  have d5 : a4 / 65536 = z2 + z3 := pop_d2 (r := 256 * (q1 + q2) + (q0 + q1)) (by rw [k4]; clear h4 h5 h6 k3; omega) (by clear h4 h5 h6 k3 k4; omega)
  have k5 : a5 = z + z1 + z2 + z3 := by rw [h5, d5, k4]; clear h4 h5 h6 k3 k4 d5; omega
  have d6 : a5 / 4294967296 = z4 + z5 + z6 + q7 := pop_d (r := 16777216 * (q3 + q4 + q5 + q6) + 65536 * (q2 + q3 + q4 + q5) + 256 * (q1 + q2 + q3 + q4) + (q0 + q1 + q2 + q3)) (by rw [k5]; clear h4 h5 h6 k3 k4 d5 k5; omega) (by clear h4 h5 h6 k3 k4 d5 k5; omega)
  have k6 : a6 = z + z1 + z2 + z3 + z4 + z5 + z6 + q7 := by rw [h6, d6, k5]; clear h4 h5 h6 k3 k4 d5 k5 d6; omega
  have m : a6 % 128 = q0 + q1 + q2 + q3 + q4 + q5 + q6 + q7 := pop_m (t := 2 * (z1 + z2 + z3 + z4 + z5 + z6 + q7)) (by rw [k6]; clear h4 h5 h6 k3 k4 d5 k5 d6 k6; omega) (by clear h4 h5 h6 k3 k4 d5 k5 d6 k6; omega)
  rw [m, k3, k4, k5, k6]
  clear h4 h5 h6 k3 k4 d5 k5 d6 k6 m
  refine ⟨by omega, by omega, by omega, by omega, rfl, by omega⟩
def lnN (x : Int64) : Nat := x.toBitVec.toNat
theorem ln_lt (x : Int64) : lnN x < 18446744073709551616 := x.toBitVec.isLt
theorem ln_lb (x : Int64) (i : Nat) : lb x i = (lnN x).testBit i := rfl
theorem ln_ushr {x : Int64} {v : Int32} {k : Int} (hv : v.toInt = k) (h0 : 0 ≤ k) (h1 : k < 64) : lnN (x.toUInt64 >>> (v.toInt64.toUInt64 &&& Int64.toUInt64 63)).toInt64 = lnN x / 2 ^ k.toNat := by
  apply Nat.eq_of_testBit_eq
  intro i
  rw [← Nat.shiftRight_eq_div_pow, Nat.testBit_shiftRight]
  exact lb_ushr hv h0 h1 i
theorem ln_and (x y : Int64) : lnN (x &&& y) = lnN x &&& lnN y := by unfold lnN; rw [Int64.toBitVec_and, BitVec.toNat_and]
theorem ln_add {x y : Int64} (h : lnN x + lnN y < 18446744073709551616) : lnN (x + y) = lnN x + lnN y := by
  unfold lnN at *; rw [Int64.toBitVec_add, BitVec.toNat_add, Nat.mod_eq_of_lt h]
theorem ln_sub {x y : Int64} (h : lnN y ≤ lnN x) : lnN (x - y) = lnN x - lnN y := by
  unfold lnN at *; rw [Int64.toBitVec_sub, BitVec.toNat_sub_of_le (BitVec.le_def.mpr h)]
theorem ln_low (x : Int64) : (x.toInt32 &&& 127).toInt = ((lnN x % 128 : Nat) : Int) := by
  have e : (x.toInt32 &&& 127).toBitVec.toNat = lnN x % 128 := by
    rw [Int32.toBitVec_and, BitVec.toNat_and, Int64.toBitVec_toInt32, BitVec.signExtend_eq_setWidth_of_le _ (by decide), BitVec.toNat_setWidth]
    have z : (127 : Int32).toBitVec.toNat = 2 ^ 7 - 1 := by decide
    rw [z, Nat.and_two_pow_sub_one_eq_mod]
    unfold lnN; omega
  show (x.toInt32 &&& 127).toBitVec.toInt = _
  rw [BitVec.toInt_eq_toNat_cond, e]
  have : lnN x % 128 < 128 := Nat.mod_lt _ (by decide)
  rw [if_pos (by omega)]
theorem bc_end {a v5 v9 v14 v20 v27 v34 : Int64} {s1 s2 s4 s8 s16 s32 : Int64} {r : Int32} (e1 : lnN s1 = lnN a / 2) (h1 : v5 = a - (s1 &&& 6148914691236517205)) (e2 : lnN s2 = lnN v5 / 4) (h2 : v9 = (v5 &&& 3689348814741910323) + (s2 &&& 3689348814741910323))
    (e3 : lnN s4 = lnN v9 / 16) (h3 : v14 = (v9 + s4) &&& 1085102592571150095) (e4 : lnN s8 = lnN v14 / 256) (h4 : v20 = v14 + s8) (e5 : lnN s16 = lnN v20 / 65536) (h5 : v27 = v20 + s16) (e6 : lnN s32 = lnN v27 / 4294967296) (h6 : v34 = v27 + s32) (hr : r = v34.toInt32 &&& 127) :
    r.toInt = nb (fun i => lb a i) 64 := by
  have c5 : lnN 6148914691236517205 = 6148914691236517205 := by decide
  have c3 : lnN 3689348814741910323 = 3689348814741910323 := by decide
  have cf : lnN 1085102592571150095 = 1085102592571150095 := by decide
  have k1 : lnN v5 = lnN a - (lnN a / 2 &&& 6148914691236517205) := by
    have l : (lnN a / 2 &&& 6148914691236517205) ≤ lnN a / 2 := Nat.and_le_left
    rw [h1, ln_sub (by rw [ln_and, e1, c5]; omega), ln_and, e1, c5]
  have k2 : lnN v9 = (lnN v5 &&& 3689348814741910323) + (lnN v5 / 4 &&& 3689348814741910323) := by
    have l1 : (lnN v5 &&& 3689348814741910323) ≤ 3689348814741910323 := Nat.and_le_right
    have l2 : (lnN v5 / 4 &&& 3689348814741910323) ≤ 3689348814741910323 := Nat.and_le_right
    rw [h2, ln_add (by rw [ln_and, ln_and, e2, c3]; omega), ln_and, ln_and, e2, c3]
  have b2 : lnN v9 ≤ 7378697629483820646 := by
    have l1 : (lnN v5 &&& 3689348814741910323) ≤ 3689348814741910323 := Nat.and_le_right
    have l2 : (lnN v5 / 4 &&& 3689348814741910323) ≤ 3689348814741910323 := Nat.and_le_right
    omega
  have k3 : lnN v14 = (lnN v9 + lnN v9 / 16) &&& 1085102592571150095 := by
    rw [h3, ln_and, ln_add (by rw [e3]; omega), e3, cf]
  have t := pop_end k1 k2 k3 rfl rfl rfl
  obtain ⟨t3, t4, t5, t6, t7, _⟩ := t
  have k4 : lnN v20 = lnN v14 + lnN v14 / 256 := by rw [h4, ln_add (by rw [e4]; omega), e4]
  rw [← k4] at t4 t5 t6 t7
  have k5 : lnN v27 = lnN v20 + lnN v20 / 65536 := by rw [h5, ln_add (by rw [e5]; omega), e5]
  rw [← k5] at t5 t6 t7
  have k6 : lnN v34 = lnN v27 + lnN v27 / 4294967296 := by rw [h6, ln_add (by rw [e6]; omega), e6]
  rw [← k6] at t6 t7
  rw [hr, ln_low, t7]; rfl
