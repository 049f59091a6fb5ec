/-! flip: the words changed -/
theorem fl_w1 {fw g : Nat → Int64} {D E : Int → Int → Bool} {y fr : Int} {bits u v w : Int64} {s : Int32} (h : bOK fw D) (y0 : 0 ≤ y) (y1 : y < 512) (f0 : 0 ≤ fr) (f1 : fr < 512) (hE : E = fun a c => D a c ^^ (decide (c = y ∧ fr ≤ a ∧ a < fr + 64) && lb bits (a - fr).toNat))
    (hs : s.toInt = fr % 64) (eu : u = fw (y * 8 + fr / 64).toNat) (ev : v = bits <<< (s.toInt64 &&& 63)) (ew : w = u ^^^ v) (eg : g = vp_updL fw (y * 8 + fr / 64).toNat w) (z : fr % 64 = 0 ∨ ¬ fr / 64 + 1 < 8) : bOK g E := by
  refine fl_words h y0 y1 f0 f1 hE (fun j hj => ?_) (fun k j hj => ?_) (fun i h1 _ => by rw [eg, pk_uLn h1])
  · rw [eg, pk_uLs, ew, lb_xor, ev, lb_shl hs (by omega) (by omega) hj, eu]
  · rw [eg, pk_uLn (by omega), lb_big (x := bits) (by omega), Bool.xor_false]
theorem fl_w2 {fw f1' g : Nat → Int64} {D E : Int → Int → Bool} {y fr : Int} {bits u v w u2 v2 w2 : Int64} {s t : Int32} (h : bOK fw D) (y0 : 0 ≤ y) (y1 : y < 512) (f0 : 0 ≤ fr) (f1 : fr < 512) (hE : E = fun a c => D a c ^^ (decide (c = y ∧ fr ≤ a ∧ a < fr + 64) && lb bits (a - fr).toNat))
    (hs : s.toInt = fr % 64) (eu : u = fw (y * 8 + fr / 64).toNat) (ev : v = bits <<< (s.toInt64 &&& 63)) (ew : w = u ^^^ v) (eg1 : f1' = vp_updL fw (y * 8 + fr / 64).toNat w) (z : ¬ fr % 64 = 0) (k : fr / 64 + 1 < 8)
    (ht : t.toInt = 64 - fr % 64) (eu2 : u2 = f1' (y * 8 + fr / 64 + 1).toNat) (ev2 : v2 = (bits.toUInt64 >>> (t.toInt64.toUInt64 &&& Int64.toUInt64 63)).toInt64) (ew2 : w2 = u2 ^^^ v2) (eg : g = vp_updL f1' (y * 8 + fr / 64 + 1).toNat w2) : bOK g E := by
  refine fl_words h y0 y1 f0 f1 hE (fun j hj => ?_) (fun _ j hj => ?_) (fun i h1 h2 => ?_)
  · rw [eg, pk_uLn (by omega), eg1, pk_uLs, ew, lb_xor, ev, lb_shl hs (by omega) (by omega) hj, eu]
  · rw [eg, pk_uLs, ew2, lb_xor, ev2, lb_ushr ht (by omega) (by omega), eu2, eg1, pk_uLn (by omega)]
  · rcases h2 with h2 | h2
    · rw [eg, pk_uLn h2, eg1, pk_uLn h1]
    · exact absurd k h2
/-! the sums, as far as they are right -/
abbrev sK (fs : Nat → Int32) (D : Int → Int → Bool) (W n : Int) : Prop := ∀ x y, 0 ≤ x → x ≤ W → 0 ≤ y → y ≤ n → (fs (y * 513 + x).toNat).toInt = cI D 0 0 x y
theorem sk_turn {fs : Nat → Int32} {D E : Int → Int → Bool} {W n y : Int} (h : sK fs D W n) (e : ∀ a c, c < y → E a c = D a c) : sK fs E W (min n y) := by
  intro a b a0 a1 b0 b1
  rw [h a b a0 a1 b0 (by omega)]
  exact cI_congr (fun a c _ _ _ c1 => (e a c (by omega)).symm)
theorem fl_above {D : Int → Int → Bool} {W H x y : Int} {b : Int64} {k : Int} : ∀ a c, c < y → flD D W H x y b k a c = D a c := by
  intro a c h
  unfold flD
  rw [decide_eq_false (by omega), Bool.false_and, Bool.xor_false]
theorem rc_step {D : Int → Int → Bool} {y x : Int} (x0 : 0 ≤ x) : rc D 0 y (x + 1).toNat = rc D 0 y x.toNat + (if D x y = true then 1 else 0) := by
  have e : (x + 1).toNat = x.toNat + 1 := by omega
  have z : (0 : Int) + ((x.toNat : Nat) : Int) = x := by omega
  rw [e]; simp only [rc]; rw [z]
theorem cI_up (D : Int → Int → Bool) (w : Int) {y : Int} (hy : 0 ≤ y) : cI D 0 0 w (y + 1) = cI D 0 0 w y + rc D 0 y w.toNat := by
  unfold cI
  have e : (y + 1).toNat = y.toNat + 1 := by omega
  have z : (0 : Int) + ((y.toNat : Nat) : Int) = y := by omega
  rw [e]; simp only [cn]; rw [z]
/-- a row's sums, so far -/
def rowS (fs : Nat → Int32) (D : Int → Int → Bool) (y n : Int) : Prop := ∀ a, 0 ≤ a → a ≤ n → (fs ((y + 1) * 513 + a).toNat).toInt = cI D 0 0 a (y + 1)
theorem sk_next {fs : Nat → Int32} {D : Int → Int → Bool} {W y : Int} (h : sK fs D W y) (r : rowS fs D y W) : sK fs D W (y + 1) := by
  intro a b a0 a1 b0 b1
  by_cases c : b = y + 1
  · rw [c]; exact r a a0 a1
  · exact h a b a0 a1 b0 (by omega)
def fst0 (fs : Nat → Int32) : Prop := (∀ a : Int, 0 ≤ a → a ≤ 512 → fs a.toNat = 0) ∧ (∀ b : Int, 0 ≤ b → b ≤ 512 → fs (b * 513).toNat = 0)
theorem sk_0 {fs : Nat → Int32} {D : Int → Int → Bool} {W : Int} (h : fst0 fs) (hW : W ≤ 512) : sK fs D W 0 := by
  intro a b a0 a1 b0 b1
  have e : b = 0 := by omega
  subst e
  have z : (0 * 513 + a).toNat = a.toNat := by omega
  rw [z, h.1 a a0 (by omega), cI_0h D 0 0 a (by omega)]; rfl
theorem row_0 {fs : Nat → Int32} {D : Int → Int → Bool} {y : Int} (h : fst0 fs) (y0 : 0 ≤ y) (y1 : y < 512) : rowS fs D y 0 := by
  intro a a0 a1
  have e : a = 0 := by omega
  subst e
  have z : ((y + 1) * 513 + 0).toNat = ((y + 1) * 513).toNat := by omega
  rw [z, h.2 (y + 1) (by omega) (by omega), cI_0w D 0 0 _ (by omega)]; rfl
theorem row_step {fs g : Nat → Int32} {D : Int → Int → Bool} {W y x : Int} {v : Int32} (h : sK fs D W y) (r : rowS fs D y x) (z : fst0 fs) (x0 : 0 ≤ x) (x1 : x < W) (hW : W ≤ 512) (y0 : 0 ≤ y) (y1 : y < 512) (eg : g = upd fs (y * 513 + 1 + 513 + x).toNat v) (hv : v.toInt = cI D 0 0 (x + 1) y + rc D 0 y (x + 1).toNat) : sK g D W y ∧ rowS g D y (x + 1) ∧ fst0 g := by
  refine ⟨fun a b a0 a1 b0 b1 => ?_, fun a a0 a1 => ?_, fun a a0 a1 => ?_, fun b b0 b1 => ?_⟩
  · rw [eg, pk_un (by omega)]; exact h a b a0 a1 b0 b1
  · by_cases c : a = x + 1
    · have e : ((y + 1) * 513 + a).toNat = (y * 513 + 1 + 513 + x).toNat := by omega
      rw [eg, e, pk_us, hv, c, cI_up D _ y0]
    · rw [eg, pk_un (by omega)]; exact r a a0 (by omega)
  · rw [eg, pk_un (by omega)]; exact z.1 a a0 a1
  · rw [eg, pk_un (by omega)]; exact z.2 b b0 b1
/-- a light row: the row above once more -/
theorem row_copy {fs g : Nat → Int32} {D : Int → Int → Bool} {W y : Int} (h : sK fs D W y) (z : fst0 fs) (hW : W ≤ 512) (hW0 : 1 ≤ W) (y0 : 0 ≤ y) (y1 : y < 512) (lt : ∀ x, 0 ≤ x → x < 512 → D x y = false)
    (eg : ∀ i : Nat, g i = if ((y + 1) * 513).toNat ≤ i ∧ i < ((y + 1) * 513).toNat + (W + 1).toNat then fs ((y * 513).toNat + (i - ((y + 1) * 513).toNat)) else fs i) : sK g D W (y + 1) ∧ fst0 g := by
  refine ⟨fun a b a0 a1 b0 b1 => ?_, fun a a0 a1 => ?_, fun b b0 b1 => ?_⟩
  · rw [eg]
    by_cases c : b = y + 1
    · subst c
      rw [if_pos (by omega)]
      have e : (y * 513).toNat + (((y + 1) * 513 + a).toNat - ((y + 1) * 513).toNat) = (y * 513 + a).toNat := by omega
      rw [e, h a y a0 a1 y0 (by omega), cI_up D _ y0]
      have r : ∀ n : Nat, n ≤ 512 → rc D 0 y n = 0 := by
        intro n
        induction n with
        | zero => intro _; rfl
        | succ n ih => intro hn; simp only [rc]; rw [ih (by omega), lt (0 + n) (by omega) (by omega)]; rfl
      rw [r a.toNat (by omega)]; omega
    · rw [if_neg (by omega)]; exact h a b a0 a1 b0 (by omega)
  · rw [eg, if_neg (by omega)]; exact z.1 a a0 a1
  · rw [eg]
    by_cases c : b = y + 1
    · rw [c, if_pos (by omega)]
      have e : (y * 513).toNat + (((y + 1) * 513).toNat - ((y + 1) * 513).toNat) = (y * 513).toNat := by omega
      rw [e]; exact z.2 y (by omega) (by omega)
    · rw [if_neg (by omega)]; exact z.2 b b0 b1
/-- the bit of a dot as an int -/
theorem bit_of {w u : Int64} {v r s : Int32} {k : Int} (hs : s.toInt = k) (k0 : 0 ≤ k) (k1 : k < 64) (eu : u = (w.toUInt64 >>> (s.toInt64.toUInt64 &&& Int64.toUInt64 63)).toInt64) (ev : v = u.toInt32) (er : r = v &&& 1) : r.toInt = if lb w k.toNat = true then 1 else 0 := by
  have l : lb u 0 = lb w k.toNat := by rw [eu, lb_ushr hs k0 k1]; rfl
  rw [← l, er, ev]
  have e : (u.toInt32 &&& 1).toBitVec = if u.toBitVec.getLsbD 0 = true then 1#32 else 0#32 := by
    rw [Int32.toBitVec_and, Int64.toBitVec_toInt32, BitVec.signExtend_eq_setWidth_of_le _ (by decide)]
    have o : (1 : Int32).toBitVec = 1#32 := rfl
    rw [o]
    apply BitVec.eq_of_getLsbD_eq
    intro i hi
    rw [BitVec.getLsbD_and, BitVec.getLsbD_setWidth]
    by_cases z : i = 0
    · subst z
      cases u.toBitVec.getLsbD 0 <;> simp
    · have : (1#32).getLsbD i = false := by simp [BitVec.getLsbD_one, z]
      rw [this, Bool.and_false]
      split <;> simp [BitVec.getLsbD_one, z]
  show (u.toInt32 &&& 1).toBitVec.toInt = _
  rw [e]
  unfold lb
  by_cases q : u.toBitVec.getLsbD 0 = true
  · rw [if_pos q, if_pos q]; rfl
  · rw [if_neg q, if_neg q]; rfl
/-- dark dots of a box no wider than 64, row by row -/
theorem cn_row {D : Int → Int → Bool} {x y w z : Int} {b lo : Int64} (hb : ∀ i, i < 64 → lb b i = D (x + i) (y + z)) (hl : ∀ i, i < 64 → lb lo i = decide ((i : Int) < w)) (w0 : 0 ≤ w) (w1 : w ≤ 64) (z0 : 0 ≤ z) : cI D x y w z + nb (fun i => lb (b &&& lo) i) 64 = cI D x y w (z + 1) := by
  have s : nb (fun i => lb (b &&& lo) i) 64 = rc D x (y + z) w.toNat := by
    have e64 : 64 = w.toNat + (64 - w.toNat) := by omega
    conv => lhs; rw [e64]
    rw [nb_split, nb_zero (64 - w.toNat) (fun i hi => by show lb (b &&& lo) (w.toNat + i) = false; rw [lb_and, hl _ (by omega), decide_eq_false (by omega), Bool.and_false]), Int.add_zero]
    exact nb_rc _ (fun i hi => by rw [lb_and, hb i (by omega), hl i (by omega), decide_eq_true (by omega), Bool.and_true])
  rw [s]
  unfold cI
  have e : (z + 1).toNat = z.toNat + 1 := by omega
  have q : y + ((z.toNat : Nat) : Int) = y + z := by omega
  rw [e]; simp only [cn]; rw [q]
theorem pc_sup {D : Int → Int → Bool} {W H lf tp mm row px : Int} {v : Bool} (hsup : ∀ a c, D a c = true → 0 ≤ a ∧ a < W ∧ 0 ≤ c ∧ c < H) (l0 : 0 ≤ lf) (t0 : 0 ≤ tp) (lW : lf + mm ≤ W) (r0 : tp ≤ row) (rH : row < H) (pm : px ≤ lf + mm) : ∀ a c, pF D (cst v) lf tp mm row px a c = true → 0 ≤ a ∧ a < W ∧ 0 ≤ c ∧ c < H := by
  intro a c h
  unfold pF at h
  by_cases q : (lf ≤ a ∧ a < lf + mm ∧ tp ≤ c ∧ c < row) ∨ (c = row ∧ lf ≤ a ∧ a < px)
  · omega
  · rw [if_neg q] at h; exact hsup a c h
/-- what a painted sheet has is on the sheet -/
theorem fi_sup {D : Int → Int → Bool} {W H x y w h : Int} {v : Bool} (hsup : ∀ a c, D a c = true → 0 ≤ a ∧ a < W ∧ 0 ≤ c ∧ c < H) : ∀ a c, pF D (fiE D x y w h v) 0 0 W H 0 a c = true → 0 ≤ a ∧ a < W ∧ 0 ≤ c ∧ c < H := by
  intro a c q
  unfold pF at q
  by_cases r : (0 ≤ a ∧ a < 0 + W ∧ 0 ≤ c ∧ c < H) ∨ (c = H ∧ 0 ≤ a ∧ a < 0)
  · omega
  · rw [if_neg r] at q; exact hsup a c q
/-- a rectangle that lies on the sheet -/
theorem fi_on {D : Int → Int → Bool} {W H x y w h : Int} {v : Bool} (x0 : 0 ≤ x) (y0 : 0 ≤ y) (w0 : 0 ≤ w) (h0 : 0 ≤ h) (x1 : x + w ≤ W) (y1 : y + h ≤ H) : (∀ a c, pF D (fiE D x y w h v) 0 0 W H 0 a c = if x ≤ a ∧ a < x + w ∧ y ≤ c ∧ c < y + h then v else D a c) ∧ cI (fiN D x y w h v) 0 0 W H = cI (neB D v) x y w h := by
  constructor
  · intro a c
    unfold pF fiE
    by_cases q : x ≤ a ∧ a < x + w ∧ y ≤ c ∧ c < y + h
    · rw [if_pos (Or.inl ⟨by omega, by omega, by omega, by omega⟩), if_pos q]
    · rw [if_neg q]; split <;> rfl
  · apply cI_sub x0 y0 w0 h0 x1 y1
    · intro a c a0 a1 c0 c1
      unfold fiN neB
      rw [decide_eq_true (by omega), Bool.true_and]
    · intro a c a0 a1 c0 c1 n
      unfold fiN
      rw [decide_eq_false n, Bool.false_and]
/-! drawing: what may be drawn, and how many dots change -/
def drOK (W H x y PL : Int) : Prop := (0 ≤ PL ∧ PL ≤ 8191 ∧ 1 ≤ PL / 256 % 32 ∧ PL / 256 % 32 ≤ 16 ∧ 1 ≤ PL / 4 % 64 ∧ PL / 4 % 64 ≤ 40) ∧ 0 ≤ x ∧ x ≤ W - (PL / 256 % 32) * (17 + 4 * (PL / 4 % 64)) ∧ 0 ≤ y ∧ y ≤ H - (PL / 256 % 32) * (17 + 4 * (PL / 4 % 64))
theorem gD_b {D : Int → Int → Bool} {x y M S Q : Int} (hM : 0 ≤ M) (mm : M * M ≤ 256) (i j : Int) : 0 ≤ gG (gN D x y M S Q) S i j ∧ gG (gN D x y M S Q) S i j ≤ 256 := by
  unfold gG
  by_cases m : mdl S i j = -1
  · rw [if_pos m]; omega
  · rw [if_neg m]
    unfold gN
    have a := cI_nn (neB D (decide (mdl S i j = 1))) (x + M * bA S Q i j) (y + M * bB S Q i j) M M
    have b := cI_le (neB D (decide (mdl S i j = 1))) (x + M * bA S Q i j) (y + M * bB S Q i j) (w := M) (h := M) hM hM
    omega
theorem sI_b {g : Int → Int → Int} {c : Int} (h : ∀ i j, 0 ≤ g i j ∧ g i j ≤ c) {x y : Int} (w n : Int) (w0 : 0 ≤ w) (n0 : 0 ≤ n) : 0 ≤ sI g x y w n ∧ sI g x y w n ≤ c * (w * n) := by
  unfold sI
  have key : ∀ k : Nat, 0 ≤ s2 g x y w.toNat k ∧ s2 g x y w.toNat k ≤ c * (w * k) := by
    intro k
    induction k with
    | zero => simp [s2]
    | succ k ih =>
      simp only [s2]
      have a := s1_nn (g := fun i => g i (y + k)) (x := x) (n := w.toNat) (fun i => (h i (y + k)).1)
      have b := s1_up (g := fun i => g i (y + k)) (c := c) (x := x) (n := w.toNat) (fun i => (h i (y + k)).2)
      have e : ((w.toNat : Nat) : Int) = w := by omega
      rw [e] at b
      have e2 : c * (w * ((k + 1 : Nat) : Int)) = c * (w * k) + c * w := by rw [Int.natCast_add, Int.mul_add, Int.mul_add]; simp
      omega
  have := key n.toNat
  have e : ((n.toNat : Nat) : Int) = n := by omega
  rw [e] at this; exact this
theorem s1_b {g : Int → Int} {c : Int} (h : ∀ i, 0 ≤ g i ∧ g i ≤ c) {x : Int} (n : Int) (n0 : 0 ≤ n) : 0 ≤ s1 g x n.toNat ∧ s1 g x n.toNat ≤ c * n := by
  have a := s1_nn (g := g) (x := x) (n := n.toNat) (fun i => (h i).1)
  have b := s1_up (g := g) (c := c) (x := x) (n := n.toNat) (fun i => (h i).2)
  have e : ((n.toNat : Nat) : Int) = n := by omega
  rw [e] at b; exact ⟨a, b⟩
theorem s1_nx {g : Int → Int} {z : Int} (h : 0 ≤ z) : s1 g 0 (z + 1).toNat = s1 g 0 z.toNat + g z := by
  have e : (z + 1).toNat = z.toNat + 1 := by omega
  have k : (0 : Int) + ((z.toNat : Nat) : Int) = z := by omega
  rw [e]; simp only [s1]; rw [k]
theorem sI_nx {g : Int → Int → Int} {S z : Int} (h : 0 ≤ z) : sI g 0 0 S (z + 1) = sI g 0 0 S z + s1 (fun i => g i z) 0 S.toNat := by
  unfold sI
  have e : (z + 1).toNat = z.toNat + 1 := by omega
  have k : (0 : Int) + ((z.toNat : Nat) : Int) = z := by omega
  rw [e]; simp only [s2]; rw [k]
theorem gG_n {G : Int → Int → Int → Int} {S i j : Int} (m : mdl S i j = -1) : gG G S i j = 0 := if_pos m
theorem gG_y {G : Int → Int → Int → Int} {S i j : Int} (m : ¬ mdl S i j = -1) : gG G S i j = G (mdl S i j) i j := if_neg m
theorem rp_0 {D : Int → Int → Bool} {x y M S Q : Int} (hM : 1 ≤ M) : dP D x y M S Q (rowP S 0 0) = D := by
  rw [dp_congr (P' := fun _ _ => false) hM, dp_0]
  intro i j i0 i1 j0 j1
  unfold rowP
  rw [decide_eq_false (p := j < 0) (by omega), decide_eq_false (p := i < 0) (by omega)]; simp
