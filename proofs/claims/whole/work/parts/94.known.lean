/-! what is kept of a corner's wrong dots -/
def cwv (D : Int → Int → Bool) (M c x y : Int) : Int := min (cW D M c x y) 501
def kfl (v : Nat) (c : Nat) : Nat := v / 2 ^ (10 * c) % 1024
def KN (D : Int → Int → Bool) (M st : Int) (kn : Nat → Int64) : Prop := ∀ i : Nat, i < 262144 → ((lnN (kn i) / 1099511627776 : Nat) : Int) ≤ st ∧ (((lnN (kn i) / 1099511627776 : Nat) : Int) = st → ∀ c : Nat, c < 4 → kfl (lnN (kn i)) c = 0 ∨ ((kfl (lnN (kn i)) c : Nat) : Int) = cwv D M c ((i : Int) % 512) ((i : Int) / 512) + 1)
/-- a new stamp: nothing is known -/
theorem kn_new {D : Int → Int → Bool} {M M' st : Int} {kn : Nat → Int64} (h : KN D M st kn) (D' : Int → Int → Bool) : KN D' M' (st + 1) kn := by
  intro i hi
  have t := (h i hi).1
  exact ⟨by omega, fun e => by omega⟩
theorem kn_0 {D : Int → Int → Bool} {M st : Int} {kn : Nat → Int64} (h : ∀ i : Nat, i < 262144 → kn i = 0) (hs : 0 ≤ st) : KN D M st kn := by
  intro i hi
  rw [h i hi]
  have z : lnN 0 = 0 := by decide
  rw [z]
  refine ⟨by simpa using hs, fun _ c _ => Or.inl ?_⟩
  unfold kfl; simp
theorem ln_shl {x : Int64} {v : Int32} {k : Int} {n : Nat} (hv : v.toInt = k) (h0 : 0 ≤ k) (h1 : k < 64) (hx : lnN x = n) (hb : n * 2 ^ k.toNat < 18446744073709551616) : lnN (x <<< (v.toInt64 &&& 63)) = n * 2 ^ k.toNat := by
  apply Nat.eq_of_testBit_eq
  intro i
  by_cases hi : i < 64
  · have t := lb_shl (x := x) hv h0 h1 hi
    rw [ln_lb, ln_lb, hx] at t
    rw [t, Nat.mul_comm, Nat.testBit_two_pow_mul]
  · have a : (lnN (x <<< (v.toInt64 &&& 63))).testBit i = false := Nat.testBit_lt_two_pow (Nat.lt_of_lt_of_le (ln_lt _) (by
      have : (18446744073709551616 : Nat) = 2 ^ 64 := by decide
      rw [this]; exact Nat.pow_le_pow_right (by decide) (by omega)))
    have b : (n * 2 ^ k.toNat).testBit i = false := Nat.testBit_lt_two_pow (Nat.lt_of_lt_of_le hb (by
      have : (18446744073709551616 : Nat) = 2 ^ 64 := by decide
      rw [this]; exact Nat.pow_le_pow_right (by decide) (by omega)))
    rw [a, b]
theorem ln_i2l {v : Int32} {k : Int} (hv : v.toInt = k) (h0 : 0 ≤ k) : lnN v.toInt64 = k.toNat := by
  have e : v.toInt64.toInt = k := by rw [Int32.toInt_toInt64, hv]
  have b := Int32.toInt_lt v
  unfold lnN
  have t : v.toInt64.toBitVec.toInt = k := e
  rw [BitVec.toInt_eq_toNat_cond] at t
  have l := v.toInt64.toBitVec.isLt
  split at t <;> omega
theorem ln_or (x y : Int64) : lnN (x ||| y) = lnN x ||| lnN y := by unfold lnN; rw [Int64.toBitVec_or, BitVec.toNat_or]
theorem ln_eq {x y : Int64} : x = y ↔ lnN x = lnN y := by
  constructor
  · intro h; rw [h]
  · intro h; exact Int64.toBitVec_inj.mp (BitVec.eq_of_toNat_eq h)
theorem ln_low10 (x : Int64) : (x.toInt32 &&& 1023).toInt = ((lnN x % 1024 : Nat) : Int) := by
  have e : (x.toInt32 &&& 1023).toBitVec.toNat = lnN x % 1024 := by
    rw [Int32.toBitVec_and, BitVec.toNat_and, Int64.toBitVec_toInt32, BitVec.signExtend_eq_setWidth_of_le _ (by decide), BitVec.toNat_setWidth]
    have z : (1023 : Int32).toBitVec.toNat = 2 ^ 10 - 1 := by decide
    rw [z, Nat.and_two_pow_sub_one_eq_mod]
    unfold lnN; omega
  show (x.toInt32 &&& 1023).toBitVec.toInt = _
  rw [BitVec.toInt_eq_toNat_cond, e]
  have : lnN x % 1024 < 1024 := Nat.mod_lt _ (by decide)
  rw [if_pos (by omega)]
/-- the kept numbers of one position, before and behind a change -/
theorem kfl_or (a b c : Nat) : kfl (a ||| b) c = kfl a c ||| kfl b c := by
  unfold kfl
  have e : (1024 : Nat) = 2 ^ 10 := rfl
  rw [← Nat.shiftRight_eq_div_pow, ← Nat.shiftRight_eq_div_pow, ← Nat.shiftRight_eq_div_pow, Nat.shiftRight_or_distrib, e, Nat.or_mod_two_pow]
theorem kfl_at {w c0 c : Nat} (hw : w < 1024) (h0 : c0 < 4) (h1 : c < 4) : kfl (w * 2 ^ (10 * c0)) c = if c = c0 then w else 0 := by
  unfold kfl
  rcases (show c0 = 0 ∨ c0 = 1 ∨ c0 = 2 ∨ c0 = 3 by omega) with a | a | a | a <;> rcases (show c = 0 ∨ c = 1 ∨ c = 2 ∨ c = 3 by omega) with b | b | b | b <;> subst a <;> subst b <;> simp <;> omega
theorem top_or {a b : Nat} (hb : b < 1099511627776) : (a ||| b) / 1099511627776 = a / 1099511627776 := by
  have e : (1099511627776 : Nat) = 2 ^ 40 := rfl
  rw [e, ← Nat.shiftRight_eq_div_pow, Nat.shiftRight_or_distrib, Nat.shiftRight_eq_div_pow, Nat.shiftRight_eq_div_pow, Nat.div_eq_of_lt hb, Nat.or_zero]
theorem kn_put {D : Int → Int → Bool} {M st : Int} {kn kg : Nat → Int64} {i : Nat} {v : Int64} (h : KN D M st kn) (same : ∀ j, j ≠ i → kg j = kn j) (hv : kg i = v) (top : ((lnN v / 1099511627776 : Nat) : Int) = st) (fl : ∀ c : Nat, c < 4 → kfl (lnN v) c = 0 ∨ ((kfl (lnN v) c : Nat) : Int) = cwv D M c ((i : Int) % 512) ((i : Int) / 512) + 1) : KN D M st kg := by
  intro j hj
  by_cases e : j = i
  · subst e; rw [hv]; exact ⟨by omega, fun _ => fl⟩
  · rw [same j e]; exact h j hj
theorem kn_wipe {st : Int} {v : Int64} (s0 : 0 ≤ st) (s1 : st < 8388608) (hv : lnN v = st.toNat * 1099511627776) : ((lnN v / 1099511627776 : Nat) : Int) = st ∧ ∀ c : Nat, c < 4 → kfl (lnN v) c = 0 := by
  rw [hv]
  refine ⟨by rw [Nat.mul_div_cancel _ (by decide)]; omega, fun c hc => ?_⟩
  unfold kfl
  rcases (show c = 0 ∨ c = 1 ∨ c = 2 ∨ c = 3 by omega) with b | b | b | b <;> subst b <;> simp <;> omega
theorem kn_set {D : Int → Int → Bool} {M st x y : Int} {u v : Int64} {c0 w : Nat} (top : ((lnN u / 1099511627776 : Nat) : Int) = st) (fl : ∀ c : Nat, c < 4 → kfl (lnN u) c = 0 ∨ ((kfl (lnN u) c : Nat) : Int) = cwv D M c x y + 1) (h0 : c0 < 4) (z : kfl (lnN u) c0 = 0) (hw : w < 1024) (ew : (w : Int) = cwv D M c0 x y + 1) (hv : lnN v = lnN u ||| w * 2 ^ (10 * c0)) :
    ((lnN v / 1099511627776 : Nat) : Int) = st ∧ ∀ c : Nat, c < 4 → kfl (lnN v) c = 0 ∨ ((kfl (lnN v) c : Nat) : Int) = cwv D M c x y + 1 := by
  have lt : w * 2 ^ (10 * c0) < 1099511627776 := by
    rcases (show c0 = 0 ∨ c0 = 1 ∨ c0 = 2 ∨ c0 = 3 by omega) with a | a | a | a <;> subst a <;> simp <;> omega
  rw [hv]
  refine ⟨by rw [top_or lt]; exact top, fun c hc => ?_⟩
  rw [kfl_or, kfl_at hw h0 hc]
  by_cases e : c = c0
  · subst e
    rw [z, if_pos rfl, Nat.zero_or]; exact Or.inr ew
  · rw [if_neg e, Nat.or_zero]; exact fl c hc
theorem cwv_b {D : Int → Int → Bool} {M c x y : Int} (hM : 1 ≤ M) : 0 ≤ cwv D M c x y ∧ cwv D M c x y ≤ 501 := by
  have := cW_nn (D := D) (M := M) (k := c) (x := x) (y := y) hM
  unfold cwv; omega
/-- what cornerWrong answers -/
def cwR (D : Int → Int → Bool) (W H M c x y : Int) : Int := if (if c = 1 ∨ c = 2 then x - M else x) < 0 ∨ (if 2 ≤ c then y - M else y) < 0 ∨ W - 8 * M < (if c = 1 ∨ c = 2 then x - M else x) ∨ H - 8 * M < (if 2 ≤ c then y - M else y) then 501 else cwv D M c x y
theorem cwR_on {D : Int → Int → Bool} {W H M S c x y : Int} (hM : 1 ≤ M) (hS : 21 ≤ S) (c0 : 0 ≤ c) (c3 : c ≤ 3) (x0 : 0 ≤ x) (y0 : 0 ≤ y) (x1 : x + M * S ≤ W) (y1 : y + M * S ≤ H) : cwR D W H M c (fX x M S c) (fY y M S c) = min (cWk D x y M S c) 501 := by
  have e : (S - 7) * M = M * S - 7 * M := by rw [Int.sub_mul, Int.mul_comm S M]
  have n := Int.mul_le_mul (show (1 : Int) ≤ M from hM) (show (21 : Int) ≤ S from hS) (by omega) (by omega)
  have n2 : M * 21 ≤ M * S := Int.mul_le_mul_of_nonneg_left hS (by omega)
  unfold cwR
  rw [if_neg]
  · rfl
  · unfold fX fY
    rcases (show c = 0 ∨ c = 1 ∨ c = 2 ∨ c = 3 by omega) with a | a | a | a <;> subst a <;> simp <;> omega
theorem cwR_b {D : Int → Int → Bool} {W H M c x y : Int} (hM : 1 ≤ M) : 0 ≤ cwR D W H M c x y ∧ cwR D W H M c x y ≤ 501 := by
  have := cwv_b (D := D) (M := M) (c := c) (x := x) (y := y) hM
  unfold cwR; split <;> omega
/-- at a single position: the corner is too wrong for all -/
theorem tv_far {D : Int → Int → Bool} {W H LIM THD M L T c : Int} (hM : 1 ≤ M) (hT : THD ≤ 500) (c0 : 0 ≤ c) (c3 : c ≤ 3) (h : THD < cwR D W H M c L T) : ∀ x y v q, St D W H LIM x y M v q → 1 ≤ v → ¬ atF D THD M L T L T x y v q c := by
  rintro x y v q ⟨s1, s2, s3, s4, s5, s6, s7⟩ v1 ⟨lo, a1, a2, a3, a4⟩
  have t := cwR_on (D := D) (W := W) (H := H) (S := 17 + 4 * v) hM (by omega) c0 c3 s1 s2 s3 s4
  have e1 : fX x M (17 + 4 * v) c = L := by omega
  have e2 : fY y M (17 + 4 * v) c = T := by omega
  rw [e1, e2] at t
  have g := lo.2.2.2.1
  omega
theorem ln_u40 (x : Int64) : lnN (x.toUInt64 >>> ((40 : Int32).toInt64.toUInt64 &&& Int64.toUInt64 63)).toInt64 = lnN x / 1099511627776 := ln_ushr (k := 40) (by decide) (by decide) (by decide)
theorem ln_s40 {v : Int32} {st : Int} (hv : v.toInt = st) (s0 : 0 ≤ st) (s1 : st < 8388608) : lnN (v.toInt64 <<< ((40 : Int32).toInt64 &&& 63)) = st.toNat * 1099511627776 :=
  ln_shl (k := 40) (n := st.toNat) (by decide) (by decide) (by decide) (ln_i2l hv s0) (by show st.toNat * 1099511627776 < _; omega)
theorem kn_eq {D : Int → Int → Bool} {M st : Int} {kn : Nat → Int64} {i : Nat} {v a b : Int64} {s : Int32} (h : KN D M st kn) (hi : i < 262144) (hs : s.toInt = st) (s0 : 0 ≤ st) (ev : v = kn i) (ea : a = (v.toUInt64 >>> ((40 : Int32).toInt64.toUInt64 &&& Int64.toUInt64 63)).toInt64) (eb : b = s.toInt64) (e : a = b) : ((lnN (kn i) / 1099511627776 : Nat) : Int) = st := by
  rw [ln_eq, ea, eb, ln_u40, ln_i2l hs s0, ev] at e
  omega
theorem kn_clear {D : Int → Int → Bool} {M st : Int} {kn kg : Nat → Int64} {i : Nat} {v : Int64} {s : Int32} (h : KN D M st kn) (hs : s.toInt = st) (s0 : 0 ≤ st) (s1 : st < 8388608) (same : ∀ j, j ≠ i → kg j = kn j) (hv : kg i = v) (ev : v = s.toInt64 <<< ((40 : Int32).toInt64 &&& 63)) : KN D M st kg ∧ ((lnN (kg i) / 1099511627776 : Nat) : Int) = st := by
  have w := kn_wipe (v := v) s0 s1 (by rw [ev, ln_s40 hs s0 s1])
  exact ⟨kn_put h same hv w.1 (fun c hc => Or.inl (w.2 c hc)), by rw [hv]; exact w.1⟩
theorem kn_get {D : Int → Int → Bool} {M st k : Int} {kn : Nat → Int64} {x y : Int} (h : KN D M st kn) (x0 : 0 ≤ x) (x1 : x < 512) (y0 : 0 ≤ y) (y1 : y < 512) (k0 : 0 ≤ k) (k3 : k ≤ 3) (top : ((lnN (kn (y * 512 + x).toNat) / 1099511627776 : Nat) : Int) = st) :
    ∀ c : Nat, c < 4 → kfl (lnN (kn (y * 512 + x).toNat)) c = 0 ∨ ((kfl (lnN (kn (y * 512 + x).toNat)) c : Nat) : Int) = cwv D M c x y + 1 := by
  have t := (h (y * 512 + x).toNat (by omega)).2 top
  have e1 : (((y * 512 + x).toNat : Nat) : Int) % 512 = x := by omega
  have e2 : (((y * 512 + x).toNat : Nat) : Int) / 512 = y := by omega
  rw [e1, e2] at t
  exact t
theorem kn_fl {v u : Int64} {r s : Int32} {k : Int} (hs : s.toInt = 10 * k) (k0 : 0 ≤ k) (k3 : k ≤ 3) (eu : u = (v.toUInt64 >>> (s.toInt64.toUInt64 &&& Int64.toUInt64 63)).toInt64) (er : r = u.toInt32) : (r &&& 1023).toInt = ((kfl (lnN v) k.toNat : Nat) : Int) := by
  rw [er, ln_low10, eu, ln_ushr hs (by omega) (by omega)]
  unfold kfl
  have e : (10 * k).toNat = 10 * k.toNat := by omega
  rw [e]
theorem kn_keep {D : Int → Int → Bool} {M st k w : Int} {kn kg : Nat → Int64} {x y : Int} {u v a b : Int64} {s r : Int32} (h : KN D M st kn) (hM : 1 ≤ M) (x0 : 0 ≤ x) (x1 : x < 512) (y0 : 0 ≤ y) (y1 : y < 512) (k0 : 0 ≤ k) (k3 : k ≤ 3) (top : ((lnN (kn (y * 512 + x).toNat) / 1099511627776 : Nat) : Int) = st) (z : kfl (lnN (kn (y * 512 + x).toNat)) k.toNat = 0)
    (hr : r.toInt = w + 1) (ew : w = cwv D M k x y) (hs : s.toInt = 10 * k) (eu : u = kn (y * 512 + x).toNat) (ea : a = r.toInt64) (eb : b = a <<< (s.toInt64 &&& 63)) (ev : v = u ||| b) (same : ∀ j, j ≠ (y * 512 + x).toNat → kg j = kn j) (hg : kg (y * 512 + x).toNat = v) : KN D M st kg := by
  have e1 : (((y * 512 + x).toNat : Nat) : Int) % 512 = x := by omega
  have e2 : (((y * 512 + x).toNat : Nat) : Int) / 512 = y := by omega
  have cb := cwv_b (D := D) (M := M) (c := k) (x := x) (y := y) hM
  have e10 : (10 * k).toNat = 10 * k.toNat := by omega
  have ek : ((k.toNat : Nat) : Int) = k := by omega
  have lt : (w + 1).toNat * 2 ^ (10 * k.toNat) < 1099511627776 := by
    rcases (show k.toNat = 0 ∨ k.toNat = 1 ∨ k.toNat = 2 ∨ k.toNat = 3 by omega) with a | a | a | a <;> rw [a] <;> simp <;> omega
  have lb : lnN b = (w + 1).toNat * 2 ^ (10 * k.toNat) := by
    rw [eb, ← e10]
    exact ln_shl hs (by omega) (by omega) (by rw [ea]; exact ln_i2l hr (by omega)) (by rw [e10]; omega)
  have lv : lnN v = lnN u ||| (w + 1).toNat * 2 ^ (10 * k.toNat) := by rw [ev, ln_or, lb]
  have t := kn_get h x0 x1 y0 y1 k0 k3 top
  rw [← eu] at top t z
  have w' := kn_set (D := D) (M := M) (x := x) (y := y) top t (c0 := k.toNat) (w := (w + 1).toNat) (by omega) z (by omega) (by rw [ek]; omega) lv
  exact kn_put h same hg w'.1 (by rw [e1, e2]; exact w'.2)
