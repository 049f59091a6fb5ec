/-! dots that are turned -/
def onB (W H a c : Int) : Bool := decide (0 ≤ a ∧ a < W ∧ 0 ≤ c ∧ c < H)
def dOK (fd : Nat → Int32) (D : Int → Int → Bool) : Prop := ∀ x y, 0 ≤ x → x < 512 → 0 ≤ y → y < 512 → fd (512 * y + x).toNat = zb (D x y)
def flD (D : Int → Int → Bool) (W H x y : Int) (b : Int64) (k : Int) : Int → Int → Bool := fun a c => D a c ^^ (decide (c = y ∧ 0 ≤ a - x ∧ a - x < k) && (onB W H a c && lb b (a - x).toNat))
theorem fl_0 (D : Int → Int → Bool) (W H x y : Int) (b : Int64) : flD D W H x y b 0 = D := by
  funext a c
  unfold flD
  rw [decide_eq_false (by omega), Bool.false_and, Bool.xor_false]
theorem fl_skip {D : Int → Int → Bool} {W H x y k : Int} {b : Int64} (hk : 0 ≤ k) (h : ¬ (0 ≤ x + k ∧ x + k < W ∧ 0 ≤ y ∧ y < H) ∨ lb b k.toNat = false) : flD D W H x y b (k + 1) = flD D W H x y b k := by
  funext a c
  unfold flD
  congr 1
  by_cases e : c = y ∧ a - x = k
  · have z : (onB W H a c && lb b (a - x).toNat) = false := by
      rcases h with h | h
      · have : onB W H a c = false := by unfold onB; exact decide_eq_false (by omega)
        rw [this, Bool.false_and]
      · rw [e.2, h, Bool.and_false]
    rw [z, Bool.and_false, Bool.and_false]
  · have t : decide (c = y ∧ 0 ≤ a - x ∧ a - x < k + 1) = decide (c = y ∧ 0 ≤ a - x ∧ a - x < k) := by
      apply decide_eq_decide.mpr; omega
    rw [t]
theorem fl_at {D : Int → Int → Bool} {W H x y k : Int} {b : Int64} : flD D W H x y b k (x + k) y = D (x + k) y := by
  unfold flD
  rw [decide_eq_false (by omega), Bool.false_and, Bool.xor_false]
theorem fl_set {D : Int → Int → Bool} {W H x y k : Int} {b : Int64} {fc : Nat → Int32} {v : Int32} (h : dOK fc (flD D W H x y b k)) (hon : 0 ≤ x + k ∧ x + k < W ∧ 0 ≤ y ∧ y < H) (hW : W ≤ 512) (hH : H ≤ 512) (hk : 0 ≤ k) (hb : lb b k.toNat = true) (hv : v = zb (!(flD D W H x y b k (x + k) y))) : dOK (upd fc (512 * y + x + k).toNat v) (flD D W H x y b (k + 1)) := by
  intro a c a0 a1 c0 c1
  by_cases e : a = x + k ∧ c = y
  · obtain ⟨rfl, rfl⟩ := e
    have z : (512 * c + (x + k)).toNat = (512 * c + x + k).toNat := by congr 1; omega
    rw [z, pk_us, hv, fl_at]
    have q : x + k - x = k := by omega
    unfold flD
    rw [q, decide_eq_true (by omega), Bool.true_and, hb, Bool.and_true]
    have o : onB W H (x + k) c = true := by unfold onB; exact decide_eq_true hon
    rw [o, Bool.xor_true]
  · rw [pk_un (by omega), h a c a0 a1 c0 c1]
    congr 1
    unfold flD
    have t : decide (c = y ∧ 0 ≤ a - x ∧ a - x < k + 1) = decide (c = y ∧ 0 ≤ a - x ∧ a - x < k) := by
      apply decide_eq_decide.mpr; omega
    rw [t]
theorem fl_sup {D : Int → Int → Bool} {W H x y k : Int} {b : Int64} (hsup : ∀ x y, D x y = true → 0 ≤ x ∧ x < W ∧ 0 ≤ y ∧ y < H) : ∀ a c, flD D W H x y b k a c = true → 0 ≤ a ∧ a < W ∧ 0 ≤ c ∧ c < H := by
  intro a c h
  by_cases q : 0 ≤ a ∧ a < W ∧ 0 ≤ c ∧ c < H
  · exact q
  · have o : onB W H a c = false := by unfold onB; exact decide_eq_false q
    unfold flD at h
    rw [o, Bool.false_and, Bool.and_false, Bool.xor_false] at h
    exact hsup a c h
theorem bit_t {a v21 v23 : Int64} {v25 kv : Int32} {k : Int} (hk : kv.toInt = k) (h0 : 0 ≤ k) (h1 : k < 64) (e21 : v21 = a >>> (kv.toInt64 &&& 63)) (e23 : v23 = v21 &&& 1) (e25 : v25 = lg_cmp v23 1) : v25 = 0 ↔ lb a k.toNat = true := by
  have s : lb v21 0 = lb a k.toNat := by
    rw [e21, ti_nI hk h0]
    unfold lb
    rw [Int64.toBitVec_shiftRight, lb_cnt k.toNat (by omega)]
    have hn : (BitVec.ofNat 64 k.toNat).toNat = k.toNat := by rw [BitVec.toNat_ofNat]; exact Nat.mod_eq_of_lt (by omega)
    rw [BitVec.sshiftRight_eq', hn, BitVec.getLsbD_sshiftRight]
    have : k.toNat < 64 := by omega
    simp [this]
  have t : v23 = 1 ↔ lb v21 0 = true := by
    constructor
    · intro q
      have : lb v23 0 = true := by rw [q]; rfl
      rw [e23, lb_and] at this
      exact (Bool.and_eq_true _ _ ▸ this).1
    · intro q
      rw [e23]
      apply lb_ext
      intro i hi
      rw [lb_and]
      have o : lb 1 i = decide (i = 0) := by
        have e : (1 : Int64) = lN 1 := rfl
        rw [e, lb_lN hi]
        cases i with
        | zero => rfl
        | succ i => rw [Nat.testBit_succ]; simp
      by_cases z : i = 0
      · rw [z, q]; rfl
      · rw [o, decide_eq_false z, Bool.and_false]
  rw [← s, ← t, e25]
  unfold lg_cmp
  constructor
  · intro q
    by_cases c : v23 > 1
    · rw [if_pos c] at q; exact absurd q (by decide)
    · rw [if_neg c] at q
      by_cases d : v23 = 1
      · exact d
      · rw [if_neg d] at q; exact absurd q (by decide)
  · intro q
    rw [q]; decide
/-- how many of the first n are true -/
def nb (f : Nat → Bool) : Nat → Int
  | 0 => 0
  | n + 1 => nb f n + (if f n = true then 1 else 0)
theorem nb_y {f : Nat → Bool} {k : Int} (hk : 0 ≤ k) (h : f k.toNat = true) : nb f (k + 1).toNat = nb f k.toNat + 1 := by
  have e : (k + 1).toNat = k.toNat + 1 := by omega
  rw [e]; simp only [nb]; rw [if_pos h]
theorem nb_n {f : Nat → Bool} {k : Int} (hk : 0 ≤ k) (h : f k.toNat = false) : nb f (k + 1).toNat = nb f k.toNat := by
  have e : (k + 1).toNat = k.toNat + 1 := by omega
  rw [e]; simp only [nb]; rw [h]; simp
theorem nb_b (f : Nat → Bool) (n : Nat) : 0 ≤ nb f n ∧ nb f n ≤ n := by
  induction n with
  | zero => simp [nb]
  | succ n ih => simp only [nb]; split <;> omega
/-- those of the 64 dots that are on the sheet and in the mask -/
def flF (W H x y : Int) (b : Int64) : Nat → Bool := fun i => onB W H (x + i) y && lb b i
theorem flF_t {W H x y k : Int} {b : Int64} (hk : 0 ≤ k) (hon : 0 ≤ x + k ∧ x + k < W ∧ 0 ≤ y ∧ y < H) (hb : lb b k.toNat = true) : flF W H x y b k.toNat = true := by
  unfold flF onB
  rw [hb, Bool.and_true, decide_eq_true]; omega
theorem flF_f {W H x y k : Int} {b : Int64} (hk : 0 ≤ k) (h : ¬ (0 ≤ x + k ∧ x + k < W ∧ 0 ≤ y ∧ y < H) ∨ lb b k.toNat = false) : flF W H x y b k.toNat = false := by
  unfold flF
  rcases h with h | h
  · have : onB W H (x + (k.toNat : Int)) y = false := by unfold onB; exact decide_eq_false (by omega)
    rw [this, Bool.false_and]
  · rw [h, Bool.and_false]
