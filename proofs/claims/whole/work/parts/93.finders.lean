/-! places by the position of their first good corner -/
theorem lowc_one {D : Int → Int → Bool} {THD x y M S q k k' : Int} (h : lowc D THD x y M S q k) (h' : lowc D THD x y M S q k') : k = k' := by
  obtain ⟨a0, a1, a2, a3, a4⟩ := h
  obtain ⟨b0, b1, b2, b3, b4⟩ := h'
  by_cases c : k < k'
  · exact absurd a3 (b4 k a0 c a2)
  · by_cases d : k' < k
    · exact absurd b3 (a4 k' b0 d b2)
    · omega
/-- one corner is good where a symbol can stand -/
theorem lowc_ex {D : Int → Int → Bool} {LIM THD x y M v q : Int} (hM : 1 ≤ M) (hv : 1 ≤ v) (q0 : 0 ≤ q) (q3 : q ≤ 3) (hT : THD = LIM / 3) (h : TW D x y M v q ≤ LIM) : ∃ k, lowc D THD x y M (17 + 4 * v) q k := by
  have p := TW_parts (D := D) (x := x) (y := y) (Q := q) hM hv rfl q0 q3
  have a := LS_nn (D := D) (x := x) (y := y) (M := M) (S := 17 + 4 * v) (k := q) (by omega)
  have b := LS_nn (D := D) (x := x) (y := y) (M := M) (S := 17 + 4 * v) (k := (q + 3) % 4) (by omega)
  have c := sp_nn (D := D) (x := x) (y := y) (M := M) (S := 17 + 4 * v) (k := q) (by omega)
  have one : ∃ k, 0 ≤ k ∧ k ≤ 3 ∧ k ≠ (q + 2) % 4 ∧ cWk D x y M (17 + 4 * v) k ≤ THD := by
    by_cases c1 : cWk D x y M (17 + 4 * v) q ≤ THD
    · exact ⟨q, q0, q3, by omega, c1⟩
    · by_cases c2 : cWk D x y M (17 + 4 * v) ((q + 1) % 4) ≤ THD
      · exact ⟨(q + 1) % 4, by omega, by omega, by omega, c2⟩
      · by_cases c3 : cWk D x y M (17 + 4 * v) ((q + 3) % 4) ≤ THD
        · exact ⟨(q + 3) % 4, by omega, by omega, by omega, c3⟩
        · omega
  have g : ∀ n : Nat, ∀ k : Int, 0 ≤ k → k ≤ 3 → k ≠ (q + 2) % 4 → cWk D x y M (17 + 4 * v) k ≤ THD → k.toNat ≤ n → ∃ k, lowc D THD x y M (17 + 4 * v) q k := by
    intro n
    induction n with
    | zero => intro k k0 k3 ne h hn; exact ⟨k, k0, k3, ne, h, fun k' k0' k1' => by omega⟩
    | succ n ih =>
      intro k k0 k3 ne h hn
      by_cases e : ∃ k', 0 ≤ k' ∧ k' < k ∧ k' ≠ (q + 2) % 4 ∧ cWk D x y M (17 + 4 * v) k' ≤ THD
      · obtain ⟨k', a1, a2, a3, a4⟩ := e
        exact ih k' a1 (by omega) a3 a4 (by omega)
      · exact ⟨k, k0, k3, ne, h, fun k' a1 a2 a3 a4 => e ⟨k', a1, a2, a3, a4⟩⟩
  obtain ⟨k, k0, k3, ne, h⟩ := one
  exact g k.toNat k k0 k3 ne h (Nat.le_refl _)
def atF (D : Int → Int → Bool) (THD M L T R B x y v q k : Int) : Prop := lowc D THD x y M (17 + 4 * v) q k ∧ L ≤ fX x M (17 + 4 * v) k ∧ fX x M (17 + 4 * v) k ≤ R ∧ T ≤ fY y M (17 + 4 * v) k ∧ fY y M (17 + 4 * v) k ≤ B
def tgF (D : Int → Int → Bool) (W H LIM THD M L T R B : Int) : Int → Int → Int → Int → Int → Prop := fun x y m v q => m = M ∧ 1 ≤ v ∧ v ≤ 40 ∧ St D W H LIM x y M v q ∧ ∃ k, atF D THD M L T R B x y v q k
def tvF (D : Int → Int → Bool) (W H LIM THD M L T R B c w : Int) : Int → Int → Int → Int → Int → Prop := fun x y m v q => m = M ∧ 1 ≤ v ∧ v ≤ 40 ∧ St D W H LIM x y M v q ∧ ∃ k, atF D THD M L T R B x y v q k ∧ (k < c ∨ k = c ∧ v < w)
theorem tv_0 {D : Int → Int → Bool} {W H LIM THD M L T R B x y m v q : Int} : ¬ tvF D W H LIM THD M L T R B 0 1 x y m v q := by
  rintro ⟨_, v1, _, _, k, a, h⟩
  have := a.1.1; omega
theorem tv_end {D : Int → Int → Bool} {W H LIM THD M L T R B x y m v q : Int} : tvF D W H LIM THD M L T R B 4 1 x y m v q ↔ tgF D W H LIM THD M L T R B x y m v q := by
  constructor
  · rintro ⟨a, b, c, d, k, e, _⟩; exact ⟨a, b, c, d, k, e⟩
  · rintro ⟨a, b, c, d, k, e⟩; exact ⟨a, b, c, d, k, e, Or.inl (by have := e.1.2.1; omega)⟩
theorem tv_next {D : Int → Int → Bool} {W H LIM THD M L T R B c x y m v q : Int} : tvF D W H LIM THD M L T R B c 41 x y m v q ↔ tvF D W H LIM THD M L T R B (c + 1) 1 x y m v q := by
  constructor
  · rintro ⟨a, b, d, f, k, e, h⟩; exact ⟨a, b, d, f, k, e, by omega⟩
  · rintro ⟨a, b, d, f, k, e, h⟩; exact ⟨a, b, d, f, k, e, by omega⟩
theorem tv_skip {D : Int → Int → Bool} {W H LIM THD M L T R B c : Int} (no : ∀ x y v q, St D W H LIM x y M v q → 1 ≤ v → ¬ atF D THD M L T R B x y v q c) {x y m v q : Int} : tvF D W H LIM THD M L T R B c 1 x y m v q ↔ tvF D W H LIM THD M L T R B (c + 1) 1 x y m v q := by
  constructor
  · rintro ⟨a, b, d, f, k, e, h⟩; exact ⟨a, b, d, f, k, e, by omega⟩
  · rintro ⟨a, b, d, f, k, e, h⟩
    refine ⟨a, b, d, f, k, e, ?_⟩
    by_cases z : k = c
    · rw [z] at e; exact absurd e (no x y v q f b)
    · omega
/-- one version's places at one corner -/
theorem tv_step {D : Int → Int → Bool} {W H LIM THD M L T R B c w X Y L' T' R' B' Qs : Int} (c0 : 0 ≤ c) (c3 : c ≤ 3) (w1 : 1 ≤ w) (w40 : w ≤ 40)
    (eX : X = if c = 1 ∨ c = 2 then (17 + 4 * w - 7) * M else 0) (eY : Y = if 2 ≤ c then (17 + 4 * w - 7) * M else 0)
    (eL : L' = max (L - X) 0) (eT : T' = max (T - Y) 0) (eR : R' = min (R - X) (W - (17 + 4 * w) * M)) (eB : B' = min (B - Y) (H - (17 + 4 * w) * M))
    (hQ : ∀ z, 0 ≤ z → z < 4 → bt Qs z = decide (z ≠ (c + 2) % 4)) {x y m v q : Int} :
    (tvF D W H LIM THD M L T R B c w x y m v q ∨ tgP D LIM THD M w c Qs L' T' R' B' x y m v q) ↔ tvF D W H LIM THD M L T R B c (w + 1) x y m v q := by
  have cm : M * (17 + 4 * w) = (17 + 4 * w) * M := Int.mul_comm _ _
  constructor
  · rintro (⟨a, b, d, f, k, e, h⟩ | ⟨rfl, rfl, a1, a2, a3, a4, q0, q1, b, t, lo⟩)
    · exact ⟨a, b, d, f, k, e, by omega⟩
    · refine ⟨rfl, w1, w40, ⟨by omega, by omega, by omega, by omega, q0, by omega, t⟩, c, ⟨lo, ?_⟩, Or.inr ⟨rfl, by omega⟩⟩
      unfold fX fY
      rw [← eX, ← eY]; omega
  · rintro ⟨rfl, b, d, f, k, e, h⟩
    by_cases z : k = c ∧ v = w
    · obtain ⟨rfl, rfl⟩ := z
      right
      obtain ⟨lo, p1, p2, p3, p4⟩ := e
      unfold fX at p1 p2
      unfold fY at p3 p4
      rw [← eX] at p1 p2
      rw [← eY] at p3 p4
      obtain ⟨s1, s2, s3, s4, s5, s6, s7⟩ := f
      refine ⟨rfl, rfl, by omega, by omega, by omega, by omega, s5, by omega, ?_, s7, lo⟩
      rw [hQ q s5 (by omega)]
      have := lo.2.2.1
      exact decide_eq_true (by omega)
    · left; exact ⟨rfl, b, d, f, k, e, by omega⟩
theorem tv_new {D : Int → Int → Bool} {W H LIM THD M L T R B c w L' T' R' B' Qs : Int} {x y m v q : Int} (g : tgP D LIM THD M w c Qs L' T' R' B' x y m v q) : ¬ tvF D W H LIM THD M L T R B c w x y m v q := by
  obtain ⟨rfl, rfl, _, _, _, _, _, _, _, _, lo⟩ := g
  rintro ⟨_, _, _, _, k, e, h⟩
  have := lowc_one lo e.1
  omega
theorem tv_sub {D : Int → Int → Bool} {W H LIM THD M L T R B c w : Int} {x y m v q : Int} (g : tvF D W H LIM THD M L T R B c w x y m v q) : tgF D W H LIM THD M L T R B x y m v q := by
  obtain ⟨a, b, d, f, k, e, h⟩ := g; exact ⟨a, b, d, f, k, e⟩
/-- a tile of corners: dropped, cut up -/
theorem tf_none {D : Int → Int → Bool} {W H LIM THD M L T R B fl : Int} (hM : 1 ≤ M) (low : ∀ dx dy, 0 ≤ dx → dx ≤ R - L → 0 ≤ dy → dy ≤ B - T → fl ≤ w7 D M (L + dx) (T + dy)) (h : THD < fl) {x y m v q : Int} : ¬ tgF D W H LIM THD M L T R B x y m v q := by
  rintro ⟨_, _, _, _, k, ⟨lo, a1, a2, a3, a4⟩⟩
  have t := low (fX x M (17 + 4 * v) k - L) (fY y M (17 + 4 * v) k - T) (by omega) (by omega) (by omega) (by omega)
  have e1 : L + (fX x M (17 + 4 * v) k - L) = fX x M (17 + 4 * v) k := by omega
  have e2 : T + (fY y M (17 + 4 * v) k - T) = fY y M (17 + 4 * v) k := by omega
  rw [e1, e2] at t
  have g := lo.2.2.2.1
  unfold cWk at g
  rw [cW_sum hM] at g
  have := bd_nn (D := D) (M := M) (k := k) (x := fX x M (17 + 4 * v) k) (y := fY y M (17 + 4 * v) k)
  omega
theorem tf_out {D : Int → Int → Bool} {W H LIM THD M L T R B : Int} (h : R < L ∨ B < T) {x y m v q : Int} : ¬ tgF D W H LIM THD M L T R B x y m v q := by
  rintro ⟨_, _, _, _, k, ⟨lo, a1, a2, a3, a4⟩⟩; omega
theorem tf_four {D : Int → Int → Bool} {W H LIM THD M L T R B mx my : Int} (x1 : L ≤ mx) (x2 : mx ≤ R) (y1 : T ≤ my) (y2 : my ≤ B) {x y m v q : Int} :
    tgF D W H LIM THD M L T R B x y m v q ↔ (((tgF D W H LIM THD M L T mx my x y m v q ∨ tgF D W H LIM THD M (mx + 1) T R my x y m v q) ∨ tgF D W H LIM THD M L (my + 1) mx B x y m v q) ∨ tgF D W H LIM THD M (mx + 1) (my + 1) R B x y m v q) := by
  constructor
  · rintro ⟨a, b, c, d, k, ⟨lo, a1, a2, a3, a4⟩⟩
    by_cases h1 : fX x M (17 + 4 * v) k ≤ mx
    · by_cases h2 : fY y M (17 + 4 * v) k ≤ my
      · exact Or.inl (Or.inl (Or.inl ⟨a, b, c, d, k, lo, a1, h1, a3, h2⟩))
      · exact Or.inl (Or.inr ⟨a, b, c, d, k, lo, a1, h1, by omega, a4⟩)
    · by_cases h2 : fY y M (17 + 4 * v) k ≤ my
      · exact Or.inl (Or.inl (Or.inr ⟨a, b, c, d, k, lo, by omega, a2, a3, h2⟩))
      · exact Or.inr ⟨a, b, c, d, k, lo, by omega, a2, by omega, a4⟩
  · rintro (((⟨a, b, c, d, k, ⟨lo, a1, a2, a3, a4⟩⟩ | ⟨a, b, c, d, k, ⟨lo, a1, a2, a3, a4⟩⟩) | ⟨a, b, c, d, k, ⟨lo, a1, a2, a3, a4⟩⟩) | ⟨a, b, c, d, k, ⟨lo, a1, a2, a3, a4⟩⟩)
    · exact ⟨a, b, c, d, k, lo, a1, by omega, a3, by omega⟩
    · exact ⟨a, b, c, d, k, lo, by omega, a2, a3, by omega⟩
    · exact ⟨a, b, c, d, k, lo, a1, by omega, by omega, a4⟩
    · exact ⟨a, b, c, d, k, lo, by omega, a2, by omega, a4⟩
theorem tf_apart {D : Int → Int → Bool} {W H LIM THD M L T R B L' T' R' B' : Int} (h : R < L' ∨ R' < L ∨ B < T' ∨ B' < T) {x y m v q : Int} (a : tgF D W H LIM THD M L T R B x y m v q) : ¬ tgF D W H LIM THD M L' T' R' B' x y m v q := by
  obtain ⟨_, _, _, _, k, ⟨lo, a1, a2, a3, a4⟩⟩ := a
  rintro ⟨_, _, _, _, k', ⟨lo', b1, b2, b3, b4⟩⟩
  have e := lowc_one lo lo'
  subst e
  omega
theorem tf_in {D : Int → Int → Bool} {W H LIM THD M L T R B L' T' R' B' : Int} (h1 : L ≤ L') (h2 : R' ≤ R) (h3 : T ≤ T') (h4 : B' ≤ B) {x y m v q : Int} (a : tgF D W H LIM THD M L' T' R' B' x y m v q) : tgF D W H LIM THD M L T R B x y m v q := by
  obtain ⟨a, b, c, d, k, ⟨lo, a1, a2, a3, a4⟩⟩ := a
  exact ⟨a, b, c, d, k, lo, by omega, by omega, by omega, by omega⟩
theorem tg_apart {D : Int → Int → Bool} {LIM THD M v first Qs Qs' L T R B L' T' R' B' : Int} (h : R < L' ∨ R' < L ∨ B < T' ∨ B' < T) {x y m v' q : Int} (a : tgP D LIM THD M v first Qs L T R B x y m v' q) : ¬ tgP D LIM THD M v first Qs' L' T' R' B' x y m v' q := by
  obtain ⟨_, _, a1, a2, a3, a4, _⟩ := a
  rintro ⟨_, _, b1, b2, b3, b4, _⟩; omega
theorem tg_in {D : Int → Int → Bool} {LIM THD M v first Qs L T R B L' T' R' B' : Int} (h1 : L ≤ L') (h2 : R' ≤ R) (h3 : T ≤ T') (h4 : B' ≤ B) {x y m v' q : Int} (a : tgP D LIM THD M v first Qs L' T' R' B' x y m v' q) : tgP D LIM THD M v first Qs L T R B x y m v' q := by
  obtain ⟨a, b, a1, a2, a3, a4, r⟩ := a
  exact ⟨a, b, by omega, by omega, by omega, by omega, r⟩
/-- all module sizes up to m -/
def lmF (D : Int → Int → Bool) (W H LIM le zm : Int) : Int → Int → Int → Int → Int → Prop := fun x y m v q => le ≤ m ∧ m < zm ∧ 1 ≤ v ∧ v ≤ 40 ∧ St D W H LIM x y m v q
theorem fX_b {x M S k : Int} (hM : 1 ≤ M) (hS : 21 ≤ S) : x ≤ fX x M S k ∧ fX x M S k + 7 * M ≤ x + M * S := by
  have e : (S - 7) * M = M * S - 7 * M := by rw [Int.sub_mul, Int.mul_comm S M]
  have n := Int.mul_nonneg (show 0 ≤ S - 7 by omega) (show 0 ≤ M by omega)
  unfold fX; split <;> omega
theorem fY_b {y M S k : Int} (hM : 1 ≤ M) (hS : 21 ≤ S) : y ≤ fY y M S k ∧ fY y M S k + 7 * M ≤ y + M * S := by
  have e : (S - 7) * M = M * S - 7 * M := by rw [Int.sub_mul, Int.mul_comm S M]
  have n := Int.mul_nonneg (show 0 ≤ S - 7 by omega) (show 0 ≤ M by omega)
  unfold fY; split <;> omega
theorem lm_step {D : Int → Int → Bool} {W H LIM THD le zm : Int} (hT : THD = LIM / 3) (h1 : 1 ≤ zm) (hle : le ≤ zm) {x y m v q : Int} :
    (lmF D W H LIM le zm x y m v q ∨ tgF D W H LIM THD zm 0 0 (W - 7 * zm) (H - 7 * zm) x y m v q) ↔ lmF D W H LIM le (zm + 1) x y m v q := by
  constructor
  · rintro (⟨a, b, c, d, e⟩ | ⟨rfl, b, c, d, _⟩)
    · exact ⟨a, by omega, c, d, e⟩
    · exact ⟨by omega, by omega, b, c, d⟩
  · rintro ⟨a, b, c, d, e⟩
    by_cases z : m = zm
    · subst z
      right
      refine ⟨rfl, c, d, e, ?_⟩
      obtain ⟨s1, s2, s3, s4, s5, s6, s7⟩ := e
      obtain ⟨k, lo⟩ := lowc_ex (D := D) (x := x) (y := y) h1 c s5 s6 hT s7
      have p := fX_b (x := x) (M := m) (S := 17 + 4 * v) (k := k) h1 (by omega)
      have r := fY_b (y := y) (M := m) (S := 17 + 4 * v) (k := k) h1 (by omega)
      exact ⟨k, lo, by omega, by omega, by omega, by omega⟩
    · left; exact ⟨a, by omega, c, d, e⟩
theorem lm_new {D : Int → Int → Bool} {W H LIM THD le zm L T R B : Int} {x y m v q : Int} (g : tgF D W H LIM THD zm L T R B x y m v q) : ¬ lmF D W H LIM le zm x y m v q := by
  obtain ⟨rfl, _⟩ := g
  rintro ⟨_, b, _⟩; omega
theorem lm_end {D : Int → Int → Bool} {W H LIM le mo zm : Int} (h0 : 1 ≤ le) (hle : le ≤ zm) (h : mo < zm ∨ min W H < zm * 21) (hz : zm ≤ mo + 1) {x y m v q : Int} : lmF D W H LIM le zm x y m v q ↔ alF D W H LIM le mo x y m v q := by
  constructor
  · rintro ⟨a, b, c, d, e⟩; exact ⟨a, by omega, c, d, e⟩
  · rintro ⟨a, b, c, d, e⟩
    refine ⟨a, ?_, c, d, e⟩
    by_cases z : m < zm
    · exact z
    · obtain ⟨s1, s2, s3, s4, s5, s6, s7⟩ := e
      have t := Int.mul_le_mul (show zm ≤ m by omega) (show (21 : Int) ≤ 17 + 4 * v by omega) (by omega) (by omega)
      omega
theorem lm_0 {D : Int → Int → Bool} {W H LIM le x y m v q : Int} : ¬ lmF D W H LIM le le x y m v q := by
  rintro ⟨a, b, _⟩; omega
