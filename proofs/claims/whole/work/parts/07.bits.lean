/-! bits of a long -/
def lb (x : Int64) (i : Nat) : Bool := x.toBitVec.getLsbD i
theorem lb_ext {x y : Int64} (h : ∀ i, i < 64 → lb x i = lb y i) : x = y := Int64.toBitVec_inj.mp (BitVec.eq_of_getLsbD_eq (fun i hi => h i hi))
theorem lb_big {x : Int64} {i : Nat} (h : 64 ≤ i) : lb x i = false := BitVec.getLsbD_of_ge _ _ h
theorem lb_or (x y : Int64) (i : Nat) : lb (x ||| y) i = (lb x i || lb y i) := by unfold lb; rw [Int64.toBitVec_or, BitVec.getLsbD_or]
theorem lb_and (x y : Int64) (i : Nat) : lb (x &&& y) i = (lb x i && lb y i) := by unfold lb; rw [Int64.toBitVec_and, BitVec.getLsbD_and]
theorem lb_xor (x y : Int64) (i : Nat) : lb (x ^^^ y) i = (lb x i ^^ lb y i) := by unfold lb; rw [Int64.toBitVec_xor, BitVec.getLsbD_xor]
theorem lb_0 (i : Nat) : lb 0 i = false := by show (0#64).getLsbD i = false; simp
theorem lb_m1 {i : Nat} (h : i < 64) : lb (-1) i = true := by
  have ha : (-1 : Int64).toBitVec = BitVec.allOnes 64 := by decide
  unfold lb; rw [ha, BitVec.getLsbD_allOnes]; simp [h]
theorem ti_nI {v : Int32} {k : Int} (hv : v.toInt = k) (h0 : 0 ≤ k) : v = nI k.toNat := by
  have hr := ti_rng v
  apply Int32.toInt_inj.mp
  rw [nI_toInt (by omega), hv]; omega
theorem lb_cnt : ∀ k, k < 64 → ((nI k).toInt64 &&& 63).toBitVec.smod 64 = BitVec.ofNat 64 k := by decide +kernel
theorem lb_cntu : ∀ k, k < 64 → ((nI k).toInt64.toUInt64 &&& Int64.toUInt64 63) = UInt64.ofNat k := by decide +kernel
theorem lb_shl {x : Int64} {v : Int32} {k : Int} (hv : v.toInt = k) (h0 : 0 ≤ k) (h1 : k < 64) {i : Nat} (hi : i < 64) : lb (x <<< (v.toInt64 &&& 63)) i = (decide (k.toNat ≤ i) && lb x (i - k.toNat)) := by
  rw [ti_nI hv h0]
  unfold lb
  rw [Int64.toBitVec_shiftLeft, lb_cnt k.toNat (by omega)]
  have hk : (BitVec.ofNat 64 k.toNat).toNat = k.toNat := by rw [BitVec.toNat_ofNat]; exact Nat.mod_eq_of_lt (by omega)
  rw [BitVec.shiftLeft_eq', hk, BitVec.getLsbD_shiftLeft]
  by_cases q : i < k.toNat
  · have : ¬ k.toNat ≤ i := by omega
    simp [q, this]
  · have : k.toNat ≤ i := by omega
    simp [q, this, hi]
theorem lb_ushr {x : Int64} {v : Int32} {k : Int} (hv : v.toInt = k) (h0 : 0 ≤ k) (h1 : k < 64) (i : Nat) : lb (x.toUInt64 >>> (v.toInt64.toUInt64 &&& Int64.toUInt64 63)).toInt64 i = lb x (k.toNat + i) := by
  rw [ti_nI hv h0, lb_cntu k.toNat (by omega)]
  have e : (x.toUInt64 >>> UInt64.ofNat k.toNat).toInt64.toBitVec = x.toBitVec >>> k.toNat := by
    apply BitVec.eq_of_toNat_eq
    show (x.toUInt64 >>> UInt64.ofNat k.toNat).toNat = _
    have h2 : (UInt64.ofNat k.toNat).toNat = k.toNat := by
      show (BitVec.ofNat 64 k.toNat).toNat = k.toNat
      rw [BitVec.toNat_ofNat]; exact Nat.mod_eq_of_lt (by omega)
    rw [UInt64.toNat_shiftRight, h2, Nat.mod_eq_of_lt (by omega), BitVec.toNat_ushiftRight]
    rfl
  unfold lb; rw [e, BitVec.getLsbD_ushiftRight]
theorem ti_shr {a b : Int32} {x : Int} {k : Nat} (ha : a.toInt = x) (hk : ((b &&& 31).toBitVec.smod 32).toNat = k) : (a >>> (b &&& 31)).toInt = x >>> k := by
  rw [pk_shr a (b &&& 31) k hk, ha]
theorem ti_shr6 {a : Int32} {x : Int} (ha : a.toInt = x) : (a >>> ((6 : Int32) &&& 31)).toInt = x / 64 := by
  rw [ti_shr ha (k := 6) (by decide), Int.shiftRight_eq_div_pow]; rfl
theorem ti_and {a b : Int32} {x : Int} (k : Nat) (ha : a.toInt = x) (h0 : 0 ≤ x) (hb : b.toBitVec.toNat = 2 ^ k - 1) (hk : k < 31) : (a &&& b).toInt = x % (2 ^ k : Nat) := by
  have hr := ti_rng a
  rw [ti_nI ha h0, pk_andN (by omega) k hb]
  have hlt : x.toNat % 2 ^ k < 2 ^ k := Nat.mod_lt _ (Nat.two_pow_pos k)
  have hp : 2 ^ k ≤ 2 ^ 30 := Nat.pow_le_pow_right (by decide) (by omega)
  rw [nI_toInt (by omega), Int.natCast_emod, Int.toNat_of_nonneg h0]
theorem ti_and63 {a : Int32} {x : Int} (ha : a.toInt = x) (h0 : 0 ≤ x) : (a &&& 63).toInt = x % 64 := ti_and 6 ha h0 (by decide) (by decide)
/-! the words that hold the dots -/
theorem D_f {D : Int → Int → Bool} {W H x y : Int} (hsup : ∀ x y, D x y = true → 0 ≤ x ∧ x < W ∧ 0 ≤ y ∧ y < H) (h : x < 0 ∨ W ≤ x ∨ y < 0 ∨ H ≤ y) : D x y = false := by
  cases q : D x y with
  | false => rfl
  | true => have := hsup x y q; omega
theorem bt_row {fw : Nat → Int64} {D : Int → Int → Bool} (hbits : ∀ x y, 0 ≤ x → x < 512 → 0 ≤ y → y < 512 → lb (fw (y * 8 + x / 64).toNat) (x % 64).toNat = D x y) {y k : Int} {j : Nat} (hy : 0 ≤ y) (hy2 : y < 512) (hk : 0 ≤ k) (hk2 : k < 8) (hj : j < 64) : lb (fw (y * 8 + k).toNat) j = D (k * 64 + j) y := by
  have t := hbits (k * 64 + j) y (by omega) (by omega) hy hy2
  have e1 : (k * 64 + (j : Int)) / 64 = k := by omega
  have e2 : ((k * 64 + (j : Int)) % 64).toNat = j := by omega
  rw [e1, e2] at t; exact t
theorem bits_A {v w : Int64} {D : Int → Int → Bool} {W H x y : Int} (hsup : ∀ x y, D x y = true → 0 ≤ x ∧ x < W ∧ 0 ≤ y ∧ y < H) (hW : W ≤ 512) (hw : ∀ j, j < 64 → lb w j = D (x / 64 * 64 + j) y) (e : ∀ i, lb v i = lb w ((x % 64).toNat + i)) (hx : 0 ≤ x) (hc : x % 64 = 0 ∨ 8 ≤ x / 64 + 1) : ∀ i, i < 64 → lb v i = D (x + i) y := by
  intro i hi
  rw [e i]
  by_cases q : (x % 64).toNat + i < 64
  · rw [hw _ q]; congr 1; omega
  · rw [lb_big (by omega), D_f hsup (by omega)]
theorem bits_B {v w u r : Int64} {D : Int → Int → Bool} {W H x y : Int} (hw : ∀ j, j < 64 → lb w j = D (x / 64 * 64 + j) y) (hu : ∀ j, j < 64 → lb u j = D ((x / 64 + 1) * 64 + j) y) (e : ∀ i, lb v i = lb w ((x % 64).toNat + i)) (e2 : ∀ i, i < 64 → lb r i = (lb v i || (decide ((64 - x % 64).toNat ≤ i) && lb u (i - (64 - x % 64).toNat)))) (hx : 0 ≤ x) (hc : ¬ x % 64 = 0) : ∀ i, i < 64 → lb r i = D (x + i) y := by
  intro i hi
  rw [e2 i hi, e i]
  by_cases q : (x % 64).toNat + i < 64
  · have : ¬ (64 - x % 64).toNat ≤ i := by omega
    rw [hw _ q]; simp only [this, decide_false, Bool.false_and, Bool.or_false]; congr 1; omega
  · have : (64 - x % 64).toNat ≤ i := by omega
    rw [lb_big (by omega), hu _ (by omega)]; simp only [this, decide_true, Bool.true_and, Bool.false_or]; congr 1; omega
theorem lo_all {k : Int} {i : Nat} (h : ¬ k < 64) (hi : i < 64) : lb (-1) i = decide ((i : Int) < k) := by
  rw [lb_m1 hi]; exact (decide_eq_true (by omega)).symm
theorem lb_lN {n i : Nat} (hi : i < 64) : lb (lN n) i = n.testBit i := by
  show (BitVec.ofNat 64 n).getLsbD i = _
  rw [BitVec.getLsbD_ofNat]; simp [hi]
theorem lN_bv (n : Nat) : (lN n).toBitVec = BitVec.ofNat 64 n := rfl
theorem lN_shl {a : Int32} {k : Int} (n : Nat) (h0 : a.toInt = k) (hk : 0 ≤ k) (h : k < 64) : lN n <<< (a.toInt64 &&& 63) = lN (n * 2 ^ k.toNat) := by
  rw [ti_nI h0 hk]
  apply Int64.toBitVec_inj.mp
  rw [Int64.toBitVec_shiftLeft, lb_cnt k.toNat (by omega), lN_bv, lN_bv]
  apply BitVec.eq_of_toNat_eq
  rw [BitVec.shiftLeft_eq', BitVec.toNat_shiftLeft, BitVec.toNat_ofNat, BitVec.toNat_ofNat, BitVec.toNat_ofNat, Nat.mod_eq_of_lt (show k.toNat < 2 ^ 64 by omega), Nat.shiftLeft_eq, Nat.mul_mod, Nat.mod_mod, ← Nat.mul_mod]
theorem lo_some {a : Int32} {k : Int} {i : Nat} (h0 : a.toInt = k) (hk : 0 ≤ k) (h : k < 64) (hi : i < 64) : lb ((1 : Int64) <<< (a.toInt64 &&& 63) - 1) i = decide ((i : Int) < k) := by
  have e : (1 : Int64) <<< (a.toInt64 &&& 63) = lN (2 ^ k.toNat) := by
    have := lN_shl 1 h0 hk h
    rw [Nat.one_mul] at this; exact this
  have p : 1 ≤ 2 ^ k.toNat := Nat.two_pow_pos _
  have e2 : lN (2 ^ k.toNat) - 1 = lN (2 ^ k.toNat - 1) := lN_sub (b := 1) p
  rw [e, e2, lb_lN hi, Nat.testBit_two_pow_sub_one]
  by_cases q : i < k.toNat
  · rw [decide_eq_true q, decide_eq_true (by omega)]
  · rw [decide_eq_false q, decide_eq_false (by omega)]
theorem ti_shk {a b : Int32} {x : Int} (k : Nat) (n : Int) (hk : ((b &&& 31).toBitVec.smod 32).toNat = k) (hn : ((2 ^ k : Nat) : Int) = n) (ha : a.toInt = x) : (a >>> (b &&& 31)).toInt = x / n := by
  rw [ti_shr ha hk, Int.shiftRight_eq_div_pow, ← hn]
theorem ti_andk {a b : Int32} {x : Int} (k : Nat) (n : Int) (hn : ((2 ^ k : Nat) : Int) = n) (ha : a.toInt = x) (h0 : 0 ≤ x) (hb : b.toBitVec.toNat = 2 ^ k - 1) (hk : k < 31) : (a &&& b).toInt = x % n := by
  rw [ti_and k ha h0 hb hk, hn]
theorem or_nI {a b k : Nat} (hb : b < 2 ^ k) : nI (a * 2 ^ k) ||| nI b = nI (a * 2 ^ k + b) := by
  have e : a * 2 ^ k ||| b = a * 2 ^ k + b := by rw [Nat.mul_comm, Nat.two_pow_add_eq_or_of_lt hb]
  apply Int32.toBitVec_inj.mp
  rw [Int32.toBitVec_or]
  show BitVec.ofNat 32 _ ||| BitVec.ofNat 32 _ = BitVec.ofNat 32 _
  rw [← BitVec.ofNat_or, e]
theorem key_of {a0 a1 a2 : Int32} {x y p : Int} (h0 : a0.toInt = x) (h1 : a1.toInt = y) (h2 : a2.toInt = p) (x0 : 0 ≤ x) (x1 : x < 512) (y0 : 0 ≤ y) (y1 : y < 512) (p0 : 0 ≤ p) (p1 : p < 8192) :
    (a1 <<< ((22 : Int32) &&& 31) ||| a0 <<< ((13 : Int32) &&& 31) ||| a2).toInt = y * 4194304 + x * 8192 + p := by
  rw [ti_nI h0 x0, ti_nI h1 y0, ti_nI h2 p0]
  rw [pk_shlN (n := y.toNat) ((22 : Int32) &&& 31) 22 (by decide) (by omega), pk_shlN (n := x.toNat) ((13 : Int32) &&& 31) 13 (by decide) (by omega)]
  have e1 : nI (y.toNat * 2 ^ 22) ||| nI (x.toNat * 2 ^ 13) = nI ((y.toNat * 512 + x.toNat) * 2 ^ 13) := by
    rw [or_nI (a := y.toNat) (k := 22) (by omega)]
    exact congrArg nI (by omega)
  rw [e1, or_nI (by omega), nI_toInt (by omega)]
  omega
/-- how long a key's place is, and whether two have a dot in common -/
def klen (K : Int) : Int := (K / 256 % 32) * (17 + 4 * (K / 4 % 64))
abbrev comm (A B : Int) : Prop := A / 8192 % 512 < B / 8192 % 512 + klen B ∧ B / 8192 % 512 < A / 8192 % 512 + klen A ∧ A / 4194304 % 512 < B / 4194304 % 512 + klen B ∧ B / 4194304 % 512 < A / 4194304 % 512 + klen A
def bA (S Q i j : Int) : Int := if Q = 0 then i else if Q = 1 then S - 1 - j else if Q = 2 then S - 1 - i else j
def bB (S Q i j : Int) : Int := if Q = 0 then j else if Q = 1 then i else if Q = 2 then S - 1 - j else S - 1 - i
