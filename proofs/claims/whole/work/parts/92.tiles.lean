/-! places of a tile, sifted: what a quarter's corners have of wrong dots so far -/
def lowc (D : Int → Int → Bool) (THD x y M S q k : Int) : Prop := 0 ≤ k ∧ k ≤ 3 ∧ k ≠ (q + 2) % 4 ∧ cWk D x y M S k ≤ THD ∧ ∀ k', 0 ≤ k' → k' < k → k' ≠ (q + 2) % 4 → ¬ cWk D x y M S k' ≤ THD
def pS (c : Int → Int) (first q : Int) : Nat → Int
  | 0 => 0
  | t + 1 => pS c first q t + (if (first + t) % 4 = (q + 2) % 4 then 0 else c ((first + t) % 4))
theorem pS_4 {c : Int → Int} {first q : Int} (f0 : 0 ≤ first) (f3 : first ≤ 3) (q0 : 0 ≤ q) (q3 : q ≤ 3) : pS c first q 4 = c q + c ((q + 1) % 4) + c ((q + 3) % 4) := by
  rcases (show first = 0 ∨ first = 1 ∨ first = 2 ∨ first = 3 by omega) with a | a | a | a <;> rcases (show q = 0 ∨ q = 1 ∨ q = 2 ∨ q = 3 by omega) with b | b | b | b <;> subst a <;> subst b <;> simp [pS] <;> omega
theorem pS_mono {c : Int → Int} (h : ∀ k, 0 ≤ c k) {first q : Int} {a b : Nat} (ab : a ≤ b) : pS c first q a ≤ pS c first q b := by
  induction b with
  | zero => have e : a = 0 := by omega
            subst e; exact Int.le_refl _
  | succ b ih =>
    by_cases e : a = b + 1
    · subst e; exact Int.le_refl _
    · have := ih (by omega)
      simp only [pS]
      have := h ((first + b) % 4)
      split <;> omega
/-- the corners' part of a place's wrong dots -/
theorem pS_TW {D : Int → Int → Bool} {x y M v q first S : Int} (hM : 1 ≤ M) (hv : 1 ≤ v) (eS : S = 17 + 4 * v) (f0 : 0 ≤ first) (f3 : first ≤ 3) (q0 : 0 ≤ q) (q3 : q ≤ 3) {t : Nat} (ht : t ≤ 4) : pS (fun k => cWk D x y M S k) first q t ≤ TW D x y M v q := by
  have m := pS_mono (c := fun k => cWk D x y M S k) (fun k => cW_nn hM) (first := first) (q := q) ht
  rw [pS_4 f0 f3 q0 q3] at m
  have p := TW_parts (D := D) (x := x) (y := y) hM hv eS q0 q3
  have a := LS_nn (D := D) (x := x) (y := y) (M := M) (S := S) (k := q) (by omega)
  have b := LS_nn (D := D) (x := x) (y := y) (M := M) (S := S) (k := (q + 3) % 4) (by omega)
  have c := sp_nn (D := D) (x := x) (y := y) (M := M) (S := S) (k := q) (by omega)
  omega
def inT (SX SY dx dy : Int) : Prop := 0 ≤ dx ∧ dx ≤ SX ∧ 0 ≤ dy ∧ dy ≤ SY
/-- dropped quarters stand nowhere in the tile -/
def drp (D : Int → Int → Bool) (LIM THD M v TX TY SX SY first Qs l : Int) : Prop := ∀ q, 0 ≤ q → q < 4 → bt Qs q = true → bt l q = false → ∀ dx dy, inT SX SY dx dy → ¬ (TW D (TX + dx) (TY + dy) M v q ≤ LIM ∧ lowc D THD (TX + dx) (TY + dy) M (17 + 4 * v) q first)
def sgl (D : Int → Int → Bool) (THD M S TX TY first q : Int) (t : Nat) : Prop := (1 ≤ t → cWk D TX TY M S first ≤ THD) ∧ ∀ s : Nat, s < t → (first + s) % 4 < first → (first + s) % 4 ≠ (q + 2) % 4 → ¬ cWk D TX TY M S ((first + s) % 4) ≤ THD
def siI (D : Int → Int → Bool) (LIM THD M v TX TY SX SY first Qs l : Int) (qf : Nat → Int32) (t : Nat) : Prop :=
  (0 ≤ l ∧ l < 16) ∧ (∀ q, 0 ≤ q → q < 4 → bt l q = true → bt Qs q = true) ∧
  (∀ q, 0 ≤ q → q < 4 → bt l q = true → ∀ dx dy, inT SX SY dx dy → (qf q.toNat).toInt ≤ pS (fun k => cWk D (TX + dx) (TY + dy) M (17 + 4 * v) k) first q t) ∧
  (SX = 0 → SY = 0 → ∀ q, 0 ≤ q → q < 4 → bt l q = true → (qf q.toNat).toInt = pS (fun k => min (cWk D TX TY M (17 + 4 * v) k) 501) first q t ∧ sgl D THD M (17 + 4 * v) TX TY first q t) ∧
  drp D LIM THD M v TX TY SX SY first Qs l ∧
  (∀ q : Int, 0 ≤ q → q < 4 → -10000000 * (t : Int) ≤ (qf q.toNat).toInt ∧ (qf q.toNat).toInt ≤ 10000000 * (t : Int))
theorem si_0 {D : Int → Int → Bool} {LIM THD M v TX TY SX SY first Qs : Int} {qf : Nat → Int32} (h0 : 0 ≤ Qs) (h1 : Qs < 16) (hz : ∀ i : Nat, i < 4 → qf i = 0) : siI D LIM THD M v TX TY SX SY first Qs Qs qf 0 := by
  have z : ∀ q : Int, 0 ≤ q → q < 4 → (qf q.toNat).toInt = 0 := fun q q0 q1 => by rw [hz _ (by omega)]; rfl
  refine ⟨⟨h0, h1⟩, fun q _ _ h => h, fun q q0 q1 _ dx dy _ => ?_, fun _ _ q q0 q1 _ => ⟨?_, fun h => absurd h (by omega), fun s hs => absurd hs (by omega)⟩, fun q _ _ a b => ?_, fun q q0 q1 => ?_⟩
  · rw [z q q0 q1]; exact Int.le_refl _
  · rw [z q q0 q1]; rfl
  · rw [a] at b; exact absurd b (by decide)
  · rw [z q q0 q1]; omega
/-- no live quarter has the corner -/
theorem si_skip {D : Int → Int → Bool} {LIM THD M v TX TY SX SY first Qs l : Int} {qf : Nat → Int32} {t : Nat} {k w : Int} (h : siI D LIM THD M v TX TY SX SY first Qs l qf t) (f0 : 0 ≤ first) (f3 : first ≤ 3) (hQ : bt Qs ((first + 2) % 4) = false) (ek : k = (first + t) % 4) (ew : w = (k + 2) % 4) (no : ∀ z, 0 ≤ z → z < 4 → z ≠ w → bt l z = false) : siI D LIM THD M v TX TY SX SY first Qs l qf (t + 1) := by
  obtain ⟨h0, h1, h2, h3, h4, h5⟩ := h
  have lw : ∀ q, 0 ≤ q → q < 4 → bt l q = true → (first + (t : Int)) % 4 = (q + 2) % 4 ∧ 1 ≤ t := by
    intro q q0 q1 b
    have e : q = w := by
      by_cases c : q = w
      · exact c
      · rw [no q q0 q1 c] at b; exact absurd b (by decide)
    refine ⟨by omega, ?_⟩
    by_cases c : t = 0
    · have := h1 q q0 q1 b
      have e2 : q = (first + 2) % 4 := by subst c; omega
      rw [e2, hQ] at this; exact absurd this (by decide)
    · omega
  refine ⟨h0, h1, fun q q0 q1 b dx dy i => ?_, fun x y q q0 q1 b => ?_, h4, fun q q0 q1 => ?_⟩
  · simp only [pS]; rw [if_pos (lw q q0 q1 b).1, Int.add_zero]; exact h2 q q0 q1 b dx dy i
  · have r := h3 x y q q0 q1 b
    refine ⟨by simp only [pS]; rw [if_pos (lw q q0 q1 b).1, Int.add_zero]; exact r.1, fun _ => r.2.1 (lw q q0 q1 b).2, fun s hs c d => ?_⟩
    by_cases e : s = t
    · rw [e] at d; exact absurd (lw q q0 q1 b).1 d
    · exact r.2.2 s (by omega) c d
  · have := h5 q q0 q1
    have e : ((t + 1 : Nat) : Int) = t + 1 := by omega
    rw [e]; omega
/-- quarters that have the corner are dropped -/
theorem si_drop {D : Int → Int → Bool} {LIM THD M v TX TY SX SY first Qs l l' : Int} {qf : Nat → Int32} {t : Nat} {k w : Int} (h : siI D LIM THD M v TX TY SX SY first Qs l qf t) (f0 : 0 ≤ first) (f3 : first ≤ 3) (hQ : bt Qs ((first + 2) % 4) = false) (ek : k = (first + t) % 4) (ew : w = (k + 2) % 4)
    (l0 : 0 ≤ l') (l1 : l' < 16) (hl : ∀ z, 0 ≤ z → z < 4 → bt l' z = (bt l z && decide (z = w)))
    (why : ∀ q, 0 ≤ q → q < 4 → q ≠ w → ∀ dx dy, inT SX SY dx dy → ¬ lowc D THD (TX + dx) (TY + dy) M (17 + 4 * v) q first) : siI D LIM THD M v TX TY SX SY first Qs l' qf (t + 1) := by
  obtain ⟨h0, h1, h2, h3, h4, h5⟩ := h
  have a : siI D LIM THD M v TX TY SX SY first Qs l' qf t := by
    have lv : ∀ q, 0 ≤ q → q < 4 → bt l' q = true → bt l q = true := by
      intro q q0 q1 b
      rw [hl q q0 q1] at b
      exact (Bool.and_eq_true _ _ ▸ b).1
    refine ⟨⟨l0, l1⟩, fun q q0 q1 b => h1 q q0 q1 (lv q q0 q1 b), fun q q0 q1 b => h2 q q0 q1 (lv q q0 q1 b), fun x y q q0 q1 b => h3 x y q q0 q1 (lv q q0 q1 b), fun q q0 q1 b c dx dy i => ?_, h5⟩
    rw [hl q q0 q1] at c
    by_cases e : q = w
    · rw [decide_eq_true e, Bool.and_true] at c
      exact h4 q q0 q1 b c dx dy i
    · exact fun r => why q q0 q1 e dx dy i r.2
  exact si_skip a f0 f3 hQ ek ew (fun z z0 z1 ne => by rw [hl z z0 z1, decide_eq_false ne, Bool.and_false])
/-- a corner's wrong dots are added -/
theorem si_add {D : Int → Int → Bool} {LIM THD M v TX TY SX SY first Qs l l' fl : Int} {qf qg : Nat → Int32} {t : Nat} {k w : Int} (h : siI D LIM THD M v TX TY SX SY first Qs l qf t) (hM : 1 ≤ M) (hv : 1 ≤ v) (f0 : 0 ≤ first) (f3 : first ≤ 3) (ht : t < 4) (ek : k = (first + t) % 4) (ew : w = (k + 2) % 4) (hT : THD ≤ 500)
    (low : ∀ dx dy, inT SX SY dx dy → fl ≤ cWk D (TX + dx) (TY + dy) M (17 + 4 * v) k) (ex : SX = 0 → SY = 0 → fl = min (cWk D TX TY M (17 + 4 * v) k) 501) (b0 : -10000000 ≤ fl) (b1 : fl ≤ 10000000)
    (n1 : SX = 0 → SY = 0 → t = 0 → fl ≤ THD) (n2 : SX = 0 → SY = 0 → k < first → ¬ fl ≤ THD)
    (hq : ∀ q : Int, 0 ≤ q → q < 4 → (qg q.toNat).toInt = if q = w then (qf q.toNat).toInt else (qf q.toNat).toInt + fl)
    (l0 : 0 ≤ l') (l1 : l' < 16) (hl : ∀ q, 0 ≤ q → q < 4 → bt l' q = (bt l q && (decide (q = w) || decide ((qf q.toNat).toInt + fl ≤ LIM)))) : siI D LIM THD M v TX TY SX SY first Qs l' qg (t + 1) := by
  obtain ⟨h0, h1, h2, h3, h4, h5⟩ := h
  have lv : ∀ q, 0 ≤ q → q < 4 → bt l' q = true → bt l q = true := by
    intro q q0 q1 b
    rw [hl q q0 q1] at b
    exact (Bool.and_eq_true _ _ ▸ b).1
  have kw : ∀ q, 0 ≤ q → q < 4 → ((first + (t : Int)) % 4 = (q + 2) % 4 ↔ q = w) := by intro q q0 q1; omega
  have low2 : ∀ q, 0 ≤ q → q < 4 → bt l q = true → ∀ dx dy, inT SX SY dx dy → (qg q.toNat).toInt ≤ pS (fun k => cWk D (TX + dx) (TY + dy) M (17 + 4 * v) k) first q (t + 1) := by
    intro q q0 q1 b dx dy i
    have p := h2 q q0 q1 b dx dy i
    have lo := low dx dy i
    simp only [pS]
    rw [hq q q0 q1]
    by_cases e : q = w
    · rw [if_pos e, if_pos ((kw q q0 q1).mpr e)]; omega
    · rw [if_neg e, if_neg (fun c => e ((kw q q0 q1).mp c)), ← ek]; omega
  refine ⟨⟨l0, l1⟩, fun q q0 q1 b => h1 q q0 q1 (lv q q0 q1 b), fun q q0 q1 b => low2 q q0 q1 (lv q q0 q1 b), fun x y q q0 q1 b => ?_, fun q q0 q1 b c dx dy i r => ?_, fun q q0 q1 => ?_⟩
  · have r := h3 x y q q0 q1 (lv q q0 q1 b)
    have e1 := ex x y
    have m1 := n1 x y
    have m2 := n2 x y
    refine ⟨?_, fun _ => ?_, fun s hs c d => ?_⟩
    · simp only [pS]
      rw [hq q q0 q1]
      by_cases e : q = w
      · rw [if_pos e, if_pos ((kw q q0 q1).mpr e)]; omega
      · rw [if_neg e, if_neg (fun c => e ((kw q q0 q1).mp c)), ← ek]; omega
    · by_cases e : t = 0
      · have := m1 e
        have ek' : k = first := by subst e; omega
        rw [ek'] at e1; omega
      · exact r.2.1 (by omega)
    · by_cases e : s = t
      · rw [e, ← ek] at c ⊢
        have := m2 c; omega
      · exact r.2.2 s (by omega) c d
  · by_cases e : bt l q = true
    · rw [hl q q0 q1, e, Bool.true_and] at c
      have c' : ¬ (q = w) ∧ ¬ (qf q.toNat).toInt + fl ≤ LIM := by
        constructor
        · intro z; rw [decide_eq_true z] at c; exact absurd c (by simp)
        · intro z; rw [decide_eq_true z] at c; exact absurd c (by simp)
      have p := low2 q q0 q1 e dx dy i
      rw [hq q q0 q1, if_neg c'.1] at p
      have tw := pS_TW (D := D) (x := TX + dx) (y := TY + dy) (first := first) hM hv rfl f0 f3 q0 (show q ≤ 3 by omega) (t := t + 1) (by omega)
      omega
    · exact h4 q q0 q1 b (by simpa using e) dx dy i r
  · have u := h5 q q0 q1
    rw [hq q q0 q1]
    have e : ((t + 1 : Nat) : Int) = t + 1 := by omega
    rw [e]
    split <;> omega
/-- the lone module and the lines, quarter by quarter -/
def siJ (D : Int → Int → Bool) (LIM THD M v TX TY SX SY first Qs l : Int) (qf : Nat → Int32) (z : Int) : Prop :=
  (0 ≤ l ∧ l < 16) ∧ (∀ q, 0 ≤ q → q < 4 → bt l q = true → bt Qs q = true) ∧
  (∀ q, z ≤ q → 0 ≤ q → q < 4 → bt l q = true → ∀ dx dy, inT SX SY dx dy → (qf q.toNat).toInt ≤ pS (fun k => cWk D (TX + dx) (TY + dy) M (17 + 4 * v) k) first q 4) ∧
  (SX = 0 → SY = 0 → ∀ q, z ≤ q → 0 ≤ q → q < 4 → bt l q = true → (qf q.toNat).toInt = pS (fun k => min (cWk D TX TY M (17 + 4 * v) k) 501) first q 4) ∧
  (SX = 0 → SY = 0 → ∀ q, 0 ≤ q → q < 4 → bt l q = true → lowc D THD TX TY M (17 + 4 * v) q first) ∧
  (SX = 0 → SY = 0 → ∀ q, 0 ≤ q → q < z → q < 4 → bt l q = true → (qf q.toNat).toInt = cWk D TX TY M (17 + 4 * v) q + cWk D TX TY M (17 + 4 * v) ((q + 1) % 4) + cWk D TX TY M (17 + 4 * v) ((q + 3) % 4) + spW D TX TY M (17 + 4 * v) q) ∧
  drp D LIM THD M v TX TY SX SY first Qs l ∧
  (∀ q : Int, 0 ≤ q → q < 4 → -40000000 ≤ (qf q.toNat).toInt ∧ (qf q.toNat).toInt ≤ 40001000 ∧ (z ≤ q → (qf q.toNat).toInt ≤ 40000000))
theorem sj_0 {D : Int → Int → Bool} {LIM THD M v TX TY SX SY first Qs l : Int} {qf : Nat → Int32} (h : siI D LIM THD M v TX TY SX SY first Qs l qf 4) (f0 : 0 ≤ first) (f3 : first ≤ 3) (hQ : bt Qs ((first + 2) % 4) = false) : siJ D LIM THD M v TX TY SX SY first Qs l qf 0 := by
  obtain ⟨h0, h1, h2, h3, h4, h5⟩ := h
  refine ⟨h0, h1, fun q _ => h2 q, fun x y q _ q0 q1 b => (h3 x y q q0 q1 b).1, fun x y q q0 q1 b => ?_, fun x y q q0 q1 => by omega, h4, fun q q0 q1 => by have := h5 q q0 q1; omega⟩
  obtain ⟨_, s1, s2⟩ := h3 x y q q0 q1 b
  refine ⟨f0, f3, ?_, s1 (by omega), fun k' k0 k1 ne => ?_⟩
  · intro e
    have := h1 q q0 q1 b
    have e2 : q = (first + 2) % 4 := by omega
    rw [e2, hQ] at this; exact absurd this (by decide)
  · have t := s2 (k' + 4 - first).toNat (by omega) (by omega) (by omega)
    have e : (first + (((k' + 4 - first).toNat : Nat) : Int)) % 4 = k' := by omega
    rw [e] at t; exact t
theorem sj_no {D : Int → Int → Bool} {LIM THD M v TX TY SX SY first Qs l z : Int} {qf : Nat → Int32} (h : siJ D LIM THD M v TX TY SX SY first Qs l qf z) (n : bt l z = false) : siJ D LIM THD M v TX TY SX SY first Qs l qf (z + 1) := by
  obtain ⟨h0, h1, h2, h3, h4, h5, h6, h7⟩ := h
  refine ⟨h0, h1, fun q a => h2 q (by omega), fun x y q a => h3 x y q (by omega), h4, fun x y q q0 q1 q4 b => ?_, h6, fun q q0 q1 => by have := h7 q q0 q1; omega⟩
  by_cases e : q = z
  · rw [e, n] at b; exact absurd b (by decide)
  · exact h5 x y q q0 (by omega) q4 b
theorem sj_step {D : Int → Int → Bool} {LIM THD M v TX TY SX SY first Qs l l' z sp f1 f2 : Int} {qf qg : Nat → Int32} (h : siJ D LIM THD M v TX TY SX SY first Qs l qf z) (hM : 1 ≤ M) (hM2 : M ≤ 16) (hv : 1 ≤ v) (hL : LIM ≤ 500) (f0 : 0 ≤ first) (f3 : first ≤ 3) (z0 : 0 ≤ z) (z3 : z < 4) (hb : bt l z = true)
    (slo : ∀ dx dy, inT SX SY dx dy → sp ≤ spW D (TX + dx) (TY + dy) M (17 + 4 * v) z) (sex : SX = 0 → SY = 0 → sp = spW D TX TY M (17 + 4 * v) z) (sb : 0 ≤ sp ∧ sp ≤ 256)
    (lo1 : ∀ dx dy, inT SX SY dx dy → f1 ≤ LSk D (TX + dx) (TY + dy) M (17 + 4 * v) z) (lo2 : ∀ dx dy, inT SX SY dx dy → f2 ≤ LSk D (TX + dx) (TY + dy) M (17 + 4 * v) ((z + 3) % 4)) (p1 : 0 ≤ f1) (p2 : 0 ≤ f2)
    (hq : ∀ q : Int, 0 ≤ q → q < 4 → (qg q.toNat).toInt = if q = z then (qf q.toNat).toInt + sp else (qf q.toNat).toInt)
    (l0 : 0 ≤ l') (l1 : l' < 16) (hl : ∀ q, 0 ≤ q → q < 4 → bt l' q = (bt l q && (decide (q ≠ z) || decide ((qf z.toNat).toInt + sp + f1 + f2 ≤ LIM)))) : siJ D LIM THD M v TX TY SX SY first Qs l' qg (z + 1) := by
  obtain ⟨h0, h1, h2, h3, h4, h5, h6, h7⟩ := h
  have lv : ∀ q, 0 ≤ q → q < 4 → bt l' q = true → bt l q = true := by
    intro q q0 q1 b
    rw [hl q q0 q1] at b
    exact (Bool.and_eq_true _ _ ▸ b).1
  have keep : ∀ q : Int, 0 ≤ q → q < 4 → q ≠ z → (qg q.toNat).toInt = (qf q.toNat).toInt := fun q q0 q1 ne => by rw [hq q q0 q1, if_neg ne]
  refine ⟨⟨l0, l1⟩, fun q q0 q1 b => h1 q q0 q1 (lv q q0 q1 b), fun q a q0 q1 b dx dy i => ?_, fun x y q a q0 q1 b => ?_, fun x y q q0 q1 b => h4 x y q q0 q1 (lv q q0 q1 b), fun x y q q0 q1 q4 b => ?_, fun q q0 q1 b c dx dy i r => ?_, fun q q0 q1 => ?_⟩
  · rw [keep q q0 q1 (by omega)]; exact h2 q (by omega) q0 q1 (lv q q0 q1 b) dx dy i
  · rw [keep q q0 q1 (by omega)]; exact h3 x y q (by omega) q0 q1 (lv q q0 q1 b)
  · by_cases e : q = z
    · subst e
      have lim : (qf q.toNat).toInt + sp + f1 + f2 ≤ LIM := by
        rw [hl q q0 q4] at b
        have t := (Bool.and_eq_true _ _ ▸ b).2
        rw [decide_eq_false (by omega), Bool.false_or] at t
        exact of_decide_eq_true t
      have t := h3 x y q (by omega) q0 q4 hb
      rw [pS_4 f0 f3 q0 (by omega)] at t
      have se := sex x y
      have c1 := cW_nn (D := D) (M := M) (k := q) (x := fX TX M (17 + 4 * v) q) (y := fY TY M (17 + 4 * v) q) hM
      have c2 := cW_nn (D := D) (M := M) (k := (q + 1) % 4) (x := fX TX M (17 + 4 * v) ((q + 1) % 4)) (y := fY TY M (17 + 4 * v) ((q + 1) % 4)) hM
      have c3 := cW_nn (D := D) (M := M) (k := (q + 3) % 4) (x := fX TX M (17 + 4 * v) ((q + 3) % 4)) (y := fY TY M (17 + 4 * v) ((q + 3) % 4)) hM
      rw [hq q q0 q4, if_pos rfl]
      unfold cWk at *
      omega
    · rw [keep q q0 q4 e]; exact h5 x y q q0 (by omega) q4 (lv q q0 q4 b)
  · by_cases e : bt l q = true
    · rw [hl q q0 q1, e, Bool.true_and] at c
      have c' : q = z ∧ ¬ (qf z.toNat).toInt + sp + f1 + f2 ≤ LIM := by
        constructor
        · by_cases w : q = z
          · exact w
          · rw [decide_eq_true w] at c; exact absurd c (by simp)
        · intro w; rw [decide_eq_true w] at c; exact absurd c (by simp)
      obtain ⟨rfl, c2⟩ := c'
      have a1 := h2 q (by omega) q0 q1 e dx dy i
      rw [pS_4 f0 f3 q0 (by omega)] at a1
      have a2 := slo dx dy i
      have a3 := lo1 dx dy i
      have a4 := lo2 dx dy i
      have p := TW_parts (D := D) (x := TX + dx) (y := TY + dy) (Q := q) hM hv rfl q0 (by omega)
      omega
    · exact h6 q q0 q1 b (by simpa using e) dx dy i r
  · have := h7 q q0 q1
    rw [hq q q0 q1]
    split <;> omega
/-- what a call finds: the tile's places of the live quarters that have this corner first -/
def tgP (D : Int → Int → Bool) (LIM THD M v first Qs L T R B : Int) : Int → Int → Int → Int → Int → Prop := fun x y m v' q => m = M ∧ v' = v ∧ L ≤ x ∧ x ≤ R ∧ T ≤ y ∧ y ≤ B ∧ 0 ≤ q ∧ q < 4 ∧ bt Qs q = true ∧ TW D x y M v q ≤ LIM ∧ lowc D THD x y M (17 + 4 * v) q first
theorem tg_live {D : Int → Int → Bool} {LIM THD M v first Qs l L T R B SX SY : Int} (hd : drp D LIM THD M v L T SX SY first Qs l) (sub : ∀ q, 0 ≤ q → q < 4 → bt l q = true → bt Qs q = true) (ex : SX = R - L) (ey : SY = B - T) {x y m v' q : Int} : tgP D LIM THD M v first Qs L T R B x y m v' q ↔ tgP D LIM THD M v first l L T R B x y m v' q := by
  unfold tgP
  constructor
  · rintro ⟨rfl, rfl, a1, a2, a3, a4, q0, q1, b, t, lo⟩
    refine ⟨rfl, rfl, a1, a2, a3, a4, q0, q1, ?_, t, lo⟩
    by_cases c : bt l q = true
    · exact c
    · have e1 : L + (x - L) = x := by omega
      have e2 : T + (y - T) = y := by omega
      have := hd q q0 q1 b (by simpa using c) (x - L) (y - T) ⟨by omega, by omega, by omega, by omega⟩
      rw [e1, e2] at this
      exact absurd ⟨t, lo⟩ this
  · rintro ⟨rfl, rfl, a1, a2, a3, a4, q0, q1, b, t, lo⟩
    exact ⟨rfl, rfl, a1, a2, a3, a4, q0, q1, sub q q0 q1 b, t, lo⟩
theorem tg_none {D : Int → Int → Bool} {LIM THD M v first L T R B : Int} {x y m v' q : Int} : ¬ tgP D LIM THD M v first 0 L T R B x y m v' q := by
  unfold tgP
  rintro ⟨_, _, _, _, _, _, q0, q1, b, _⟩
  rw [(bt_0 (l := 0) (by omega) (by omega)).mpr rfl q q0 q1] at b; exact absurd b (by decide)
theorem tg_out {D : Int → Int → Bool} {LIM THD M v first Qs L T R B : Int} (h : R < L ∨ B < T) {x y m v' q : Int} : ¬ tgP D LIM THD M v first Qs L T R B x y m v' q := by
  unfold tgP
  rintro ⟨_, _, _, _, _, _, _⟩; omega
theorem tg_four {D : Int → Int → Bool} {LIM THD M v first Qs L T R B mx my : Int} (x1 : L ≤ mx) (x2 : mx ≤ R) (y1 : T ≤ my) (y2 : my ≤ B) {x y m v' q : Int} :
    tgP D LIM THD M v first Qs L T R B x y m v' q ↔ (((tgP D LIM THD M v first Qs L T mx my x y m v' q ∨ tgP D LIM THD M v first Qs (mx + 1) T R my x y m v' q) ∨ tgP D LIM THD M v first Qs L (my + 1) mx B x y m v' q) ∨ tgP D LIM THD M v first Qs (mx + 1) (my + 1) R B x y m v' q) := by
  unfold tgP
  constructor
  · rintro ⟨a, b, c1, c2, c3, c4, r⟩
    by_cases h1 : x ≤ mx
    · by_cases h2 : y ≤ my
      · exact Or.inl (Or.inl (Or.inl ⟨a, b, c1, h1, c3, h2, r⟩))
      · exact Or.inl (Or.inr ⟨a, b, c1, h1, by omega, c4, r⟩)
    · by_cases h2 : y ≤ my
      · exact Or.inl (Or.inl (Or.inr ⟨a, b, by omega, c2, c3, h2, r⟩))
      · exact Or.inr ⟨a, b, by omega, c2, by omega, c4, r⟩
  · rintro (((⟨a, b, c1, c2, c3, c4, r⟩ | ⟨a, b, c1, c2, c3, c4, r⟩) | ⟨a, b, c1, c2, c3, c4, r⟩) | ⟨a, b, c1, c2, c3, c4, r⟩)
    · exact ⟨a, b, c1, by omega, c3, by omega, r⟩
    · exact ⟨a, b, by omega, c2, c3, by omega, r⟩
    · exact ⟨a, b, c1, by omega, by omega, c4, r⟩
    · exact ⟨a, b, by omega, c2, by omega, c4, r⟩
