/-! withCorner: three quarters one after another -/
def wcQ (qf qc : Nat → Int32) (k FL zs : Int) : Prop := ∀ q : Int, 0 ≤ q → q < 4 → (qc q.toNat).toInt = if (q - k - 3) % 4 + 3 < zs then (qf q.toNat).toInt + FL else (qf q.toNat).toInt
def wcL (qf : Nat → Int32) (k FL LIM L l zs : Int) : Prop := ∀ q : Int, 0 ≤ q → q < 4 → bt l q = (bt L q && (decide (¬ (q - k - 3) % 4 + 3 < zs) || decide ((qf q.toNat).toInt + FL ≤ LIM)))
theorem wq_0 {qf : Nat → Int32} {k FL : Int} : wcQ qf qf k FL 3 := fun q q0 q1 => by rw [if_neg (by omega)]
theorem wl_0 {qf : Nat → Int32} {k FL LIM L : Int} : wcL qf k FL LIM L L 3 := fun q q0 q1 => by rw [decide_eq_true (p := ¬ (q - k - 3) % 4 + 3 < 3) (by omega), Bool.true_or, Bool.and_true]
theorem wq_at {qf qc : Nat → Int32} {k FL zs : Int} (h : wcQ qf qc k FL zs) (z3 : 3 ≤ zs) (z5 : zs ≤ 5) : (qc ((k + zs) % 4).toNat).toInt = (qf ((k + zs) % 4).toNat).toInt := by
  have t := h ((k + zs) % 4) (by omega) (by omega)
  rw [if_neg (by omega)] at t; exact t
theorem wq_step {qf qc qg : Nat → Int32} {k FL zs : Int} {v : Int32} (h : wcQ qf qc k FL zs) (z3 : 3 ≤ zs) (z5 : zs ≤ 5) (e : qg = upd qc ((k + zs) % 4).toNat v) (hv : v.toInt = (qf ((k + zs) % 4).toNat).toInt + FL) : wcQ qf qg k FL (zs + 1) := by
  intro q q0 q1
  rw [e]
  by_cases c : q = (k + zs) % 4
  · rw [c, pk_us, if_pos (by omega), hv]
  · rw [pk_un (by omega), h q q0 q1]
    by_cases d : (q - k - 3) % 4 + 3 < zs
    · rw [if_pos d, if_pos (by omega)]
    · rw [if_neg d, if_neg (by omega)]
theorem wl_keep {qf : Nat → Int32} {k FL LIM L l zs : Int} (h : wcL qf k FL LIM L l zs) (z3 : 3 ≤ zs) (z5 : zs ≤ 5) (n : ¬ LIM < (qf ((k + zs) % 4).toNat).toInt + FL) : wcL qf k FL LIM L l (zs + 1) := by
  intro q q0 q1
  rw [h q q0 q1]
  congr 1
  by_cases c : q = (k + zs) % 4
  · subst c
    rw [decide_eq_true (p := (qf ((k + zs) % 4).toNat).toInt + FL ≤ LIM) (by omega), Bool.or_true, Bool.or_true]
  · congr 1
    apply decide_eq_decide.mpr; omega
theorem wl_clr {qf : Nat → Int32} {k FL LIM L l l' zs : Int} (h : wcL qf k FL LIM L l zs) (z3 : 3 ≤ zs) (z5 : zs ≤ 5) (n : LIM < (qf ((k + zs) % 4).toNat).toInt + FL) (hl : ∀ z, 0 ≤ z → z < 4 → bt l' z = (bt l z && decide (z ≠ (k + zs) % 4))) : wcL qf k FL LIM L l' (zs + 1) := by
  intro q q0 q1
  rw [hl q q0 q1, h q q0 q1]
  by_cases c : q = (k + zs) % 4
  · subst c
    rw [decide_eq_false (p := (k + zs) % 4 ≠ (k + zs) % 4) (fun h => h rfl), Bool.and_false, decide_eq_false (p := (qf ((k + zs) % 4).toNat).toInt + FL ≤ LIM) (by omega), decide_eq_false (by omega), Bool.or_false, Bool.and_false]
  · rw [decide_eq_true (p := q ≠ (k + zs) % 4) c, Bool.and_true]
    congr 2
    apply decide_eq_decide.mpr; omega
theorem wq_end {qf qc : Nat → Int32} {k FL : Int} (h : wcQ qf qc k FL 6) : ∀ q : Int, 0 ≤ q → q < 4 → (qc q.toNat).toInt = if q = (k + 2) % 4 then (qf q.toNat).toInt else (qf q.toNat).toInt + FL := by
  intro q q0 q1
  rw [h q q0 q1]
  by_cases c : q = (k + 2) % 4
  · rw [if_pos c, if_neg (by omega)]
  · rw [if_neg c, if_pos (by omega)]
theorem wl_end {qf : Nat → Int32} {k FL LIM L l : Int} (h : wcL qf k FL LIM L l 6) : ∀ q : Int, 0 ≤ q → q < 4 → bt l q = (bt L q && (decide (q = (k + 2) % 4) || decide ((qf q.toNat).toInt + FL ≤ LIM))) := by
  intro q q0 q1
  rw [h q q0 q1]
  congr 2
  apply decide_eq_decide.mpr; omega
/-! judge: one quarter after another at a single position -/
theorem js_key : ∀ m, m < 17 → ∀ v, v < 41 → ∀ q, q < 4 → ((nI m <<< ((8 : Int32) &&& 31) ||| nI v <<< ((2 : Int32) &&& 31)) ||| nI q).toInt = ((m * 256 + v * 4 + q : Nat) : Int) := by decide +kernel
theorem jg_key {a b c : Int32} {m v q : Int} (ha : a.toInt = m) (hb : b.toInt = v) (hc : c.toInt = q) (m0 : 0 ≤ m) (m1 : m ≤ 16) (v0 : 0 ≤ v) (v1 : v ≤ 40) (q0 : 0 ≤ q) (q1 : q < 4) : ((a <<< ((8 : Int32) &&& 31) ||| b <<< ((2 : Int32) &&& 31)) ||| c).toInt = m * 256 + v * 4 + q := by
  rw [ti_nI ha m0, ti_nI hb v0, ti_nI hc q0, js_key m.toNat (by omega) v.toNat (by omega) q.toNat (by omega)]; omega
def jgF (D : Int → Int → Bool) (LIM M v TX TY l zq : Int) (F : Int → Int → Int → Int → Int → Prop) : Int → Int → Int → Int → Int → Prop := fun x y m v' q => F x y m v' q ∨ (x = TX ∧ y = TY ∧ m = M ∧ v' = v ∧ 0 ≤ q ∧ q < zq ∧ bt l q = true ∧ TW D TX TY M v q ≤ LIM)
theorem jg_0 {D : Int → Int → Bool} {LIM M v TX TY l : Int} {F : Int → Int → Int → Int → Int → Prop} {x y m v' q : Int} : F x y m v' q ↔ jgF D LIM M v TX TY l 0 F x y m v' q := by
  unfold jgF
  constructor
  · exact Or.inl
  · rintro (h | ⟨_, _, _, _, _, _, _⟩)
    · exact h
    · omega
theorem jg_no {D : Int → Int → Bool} {LIM M v TX TY l zq : Int} {F : Int → Int → Int → Int → Int → Prop} (n : bt l zq = false ∨ LIM < TW D TX TY M v zq) {x y m v' q : Int} : jgF D LIM M v TX TY l zq F x y m v' q ↔ jgF D LIM M v TX TY l (zq + 1) F x y m v' q := by
  unfold jgF
  constructor
  · rintro (h | ⟨a, b, c, d, e, f, g⟩)
    · exact Or.inl h
    · exact Or.inr ⟨a, b, c, d, e, by omega, g⟩
  · rintro (h | ⟨a, b, c, d, e, f, g, t⟩)
    · exact Or.inl h
    · by_cases z : q = zq
      · subst z
        rcases n with n | n
        · rw [n] at g; exact absurd g (by decide)
        · omega
      · exact Or.inr ⟨a, b, c, d, e, by omega, g, t⟩
theorem jg_yes {D : Int → Int → Bool} {LIM M v TX TY l zq : Int} {F : Int → Int → Int → Int → Int → Prop} (q0 : 0 ≤ zq) (hb : bt l zq = true) (ht : TW D TX TY M v zq ≤ LIM) {x y m v' q : Int} : (jgF D LIM M v TX TY l zq F x y m v' q ∨ (x = TX ∧ y = TY ∧ m = M ∧ v' = v ∧ q = zq)) ↔ jgF D LIM M v TX TY l (zq + 1) F x y m v' q := by
  unfold jgF
  constructor
  · rintro ((h | ⟨a, b, c, d, e, f, g⟩) | ⟨a, b, c, d, e⟩)
    · exact Or.inl h
    · exact Or.inr ⟨a, b, c, d, e, by omega, g⟩
    · subst e; exact Or.inr ⟨a, b, c, d, q0, by omega, hb, ht⟩
  · rintro (h | ⟨a, b, c, d, e, f, g, t⟩)
    · exact Or.inl (Or.inl h)
    · by_cases z : q = zq
      · exact Or.inr ⟨a, b, c, d, z⟩
      · exact Or.inl (Or.inr ⟨a, b, c, d, e, by omega, g, t⟩)
/-- one place more is found -/
theorem SR_add {D : Int → Int → Bool} {AL F : Int → Int → Int → Int → Int → Prop} {tm : Int32} {kf wf kg wg : Nat → Int32} {n : Int} {a w : Int32} {x y m v q : Int} (h : SR D AL F tm kf wf n) (hn : n < 300) (hi : isIns n a w kf wf kg wg)
    (ha : a.toInt = keyI x y m v q) (hw : w.toInt = TW D x y m v q) (ht : TW D x y m v q ≤ 500) (hb : bnd5 x y m v q) (hF : ¬ F x y m v q) : SR D AL (fun x' y' m' v' q' => F x' y' m' v' q' ∨ (x' = x ∧ y' = y ∧ m' = m ∧ v' = v ∧ q' = q)) tm kg wg (n + 1) := by
  obtain ⟨b, h | h⟩ := h
  · exact ⟨by omega, Or.inl ⟨h.1, cl_add h.2 hn hi ha hw ht hb hF⟩⟩
  · exact ⟨by omega, Or.inr h⟩
theorem SR_over {D : Int → Int → Bool} {AL F G : Int → Int → Int → Int → Int → Prop} {tm : Int32} {kf wf : Nat → Int32} {n : Int} {x y m v q : Int} (h : SR D AL F tm kf wf n) (hn : n = 300) (sub : ∀ x y m v q, F x y m v q → AL x y m v q) (hA : AL x y m v q) (hb : bnd5 x y m v q) (hF : ¬ F x y m v q) : SR D AL G 1 kf wf n := by
  obtain ⟨b, h | h⟩ := h
  · refine ⟨b, Or.inr ⟨rfl, kf, wf, F, ?_, sub, x, y, m, v, q, hA, hb, hF⟩⟩
    rw [← hn]; exact h.2
  · exact ⟨b, Or.inr ⟨rfl, h.2⟩⟩
theorem SR_done {D : Int → Int → Bool} {AL F G : Int → Int → Int → Int → Int → Prop} {tm : Int32} {kf wf : Nat → Int32} {n : Int} (h : SR D AL F tm kf wf n) (ht : ¬ tm = 0) : SR D AL G tm kf wf n := by
  obtain ⟨b, h | h⟩ := h
  · exact absurd h.1 ht
  · exact ⟨b, Or.inr h⟩
/-- the two lines that judge adds -/
theorem jg_sum {D : Int → Int → Bool} {LIM M v TX TY q W r1 r2 : Int} (hM : 1 ≤ M) (hv : 1 ≤ v) (q0 : 0 ≤ q) (q3 : q < 4) (hW : W = cWk D TX TY M (17 + 4 * v) q + cWk D TX TY M (17 + 4 * v) ((q + 1) % 4) + cWk D TX TY M (17 + 4 * v) ((q + 3) % 4) + spW D TX TY M (17 + 4 * v) q)
    (h1 : (r1 ≤ LIM ↔ W + LSk D TX TY M (17 + 4 * v) q ≤ LIM) ∧ (r1 ≤ LIM → r1 = W + LSk D TX TY M (17 + 4 * v) q)) (h1' : r1 ≤ r2)
    (h2 : (r2 ≤ LIM ↔ r1 + LSk D TX TY M (17 + 4 * v) ((q + 3) % 4) ≤ LIM) ∧ (r2 ≤ LIM → r2 = r1 + LSk D TX TY M (17 + 4 * v) ((q + 3) % 4))) : (r2 ≤ LIM ↔ TW D TX TY M v q ≤ LIM) ∧ (r2 ≤ LIM → r2 = TW D TX TY M v q) := by
  have p := TW_parts (D := D) (x := TX) (y := TY) (Q := q) hM hv rfl q0 (by omega)
  have a := LS_nn (D := D) (x := TX) (y := TY) (M := M) (S := 17 + 4 * v) (k := (q + 3) % 4) (by omega)
  have b := LS_nn (D := D) (x := TX) (y := TY) (M := M) (S := 17 + 4 * v) (k := q) (by omega)
  constructor
  · constructor
    · intro h; have := h1.2 (by omega); have := h2.2 h; omega
    · intro h; have e := h1.1.mpr (by omega); have := h1.2 e; exact h2.1.mpr (by omega)
  · intro h; have := h1.2 (by omega); have := h2.2 h; omega
theorem wp_b {D : Int → Int → Bool} {M lx ly st n LIM WB r : Int} (hM : 0 ≤ M) (mm : M * M ≤ 256) (hn : n ≤ 161) (h : ∃ j : Int, 0 ≤ j ∧ j ≤ n ∧ r = WB + s1 (lwF D M lx ly st) 0 j.toNat ∧ (j = n ∨ LIM < r)) : WB ≤ r ∧ r ≤ WB + 41216 := by
  obtain ⟨j, a, b, d, f⟩ := h
  have p := s1_nn (g := lwF D M lx ly st) (x := 0) (n := j.toNat) (fun i => lw_nn hM i)
  have q := s1_up (g := lwF D M lx ly st) (c := 256) (x := 0) (n := j.toNat) (fun i => by
    have n1 := cI_nn D (lx + i * st) (ly + i * (M - st)) M M
    have n2 := cI_le D (lx + i * st) (ly + i * (M - st)) (w := M) (h := M) hM hM
    unfold lwF; split <;> omega)
  omega
