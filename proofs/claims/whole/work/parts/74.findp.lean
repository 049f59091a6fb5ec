/-! the reference's find: all places of the module sizes asked for -/
def alF (D : Int → Int → Bool) (W H LIM le mo : Int) : Int → Int → Int → Int → Int → Prop := fun x y m v q => le ≤ m ∧ m ≤ mo ∧ 1 ≤ v ∧ v ≤ 40 ∧ St D W H LIM x y m v q
def fvF (D : Int → Int → Bool) (W H LIM le mo zv zm : Int) : Int → Int → Int → Int → Int → Prop := fun x y m v q => (le ≤ m ∧ m ≤ mo ∧ 1 ≤ v ∧ St D W H LIM x y m v q) ∧ (v < zv ∨ v = zv ∧ m < zm)
theorem fv_0 {D : Int → Int → Bool} {W H LIM le mo : Int} {ft : Nat → Int32} : stOK D ft 0 (fvF D W H LIM le mo 1 le) := by
  refine ⟨fun a a0 a1 => by omega, fun a b a0 a1 b0 b1 => by omega, fun x y m v q g => ?_⟩
  unfold fvF at g; omega
theorem fv_not {D : Int → Int → Bool} {W H LIM le mo zv zm : Int} : ∀ x y q, ¬ fvF D W H LIM le mo zv zm x y zm zv q := by
  intro x y q g; unfold fvF at g; omega
theorem fv_m {D : Int → Int → Bool} {W H LIM le mo zv zm : Int} (h1 : le ≤ zm) (h2 : zm ≤ mo) (h3 : 1 ≤ zv) {x y m v q : Int} : (fvF D W H LIM le mo zv zm x y m v q ∨ (m = zm ∧ v = zv ∧ St D W H LIM x y zm zv q)) ↔ fvF D W H LIM le mo zv (zm + 1) x y m v q := by
  unfold fvF
  constructor
  · intro g
    rcases g with ⟨g, o⟩ | ⟨rfl, rfl, s⟩
    · exact ⟨g, by omega⟩
    · exact ⟨⟨h1, h2, h3, s⟩, by omega⟩
  · intro g
    obtain ⟨⟨a, b, c, s⟩, o⟩ := g
    by_cases e : m = zm ∧ v = zv
    · obtain ⟨rfl, rfl⟩ := e; exact Or.inr ⟨rfl, rfl, s⟩
    · exact Or.inl ⟨⟨a, b, c, s⟩, by omega⟩
theorem fv_v {D : Int → Int → Bool} {W H LIM le mo zv zm : Int} (h : mo < zm) {x y m v q : Int} : fvF D W H LIM le mo zv zm x y m v q ↔ fvF D W H LIM le mo (zv + 1) le x y m v q := by
  unfold fvF
  constructor
  · intro g; obtain ⟨⟨a, b, c, s⟩, o⟩ := g; exact ⟨⟨a, b, c, s⟩, by omega⟩
  · intro g; obtain ⟨⟨a, b, c, s⟩, o⟩ := g; exact ⟨⟨a, b, c, s⟩, by omega⟩
theorem fv_end {D : Int → Int → Bool} {W H LIM le mo : Int} {x y m v q : Int} : fvF D W H LIM le mo 41 le x y m v q ↔ alF D W H LIM le mo x y m v q := by
  unfold fvF alF
  constructor
  · intro g; obtain ⟨⟨a, b, c, s⟩, o⟩ := g; exact ⟨a, b, c, by omega, s⟩
  · intro g; obtain ⟨a, b, c, d, s⟩ := g; exact ⟨⟨a, b, c, s⟩, by omega⟩
theorem fv_al {D : Int → Int → Bool} {W H LIM le mo zv zm : Int} (h1 : le ≤ zm) (h2 : zm ≤ mo) (h3 : 1 ≤ zv) (h4 : zv ≤ 40) {x y m v q : Int} (g : fvF D W H LIM le mo zv zm x y m v q ∨ (m = zm ∧ v = zv ∧ St D W H LIM x y zm zv q)) : alF D W H LIM le mo x y m v q := by
  unfold alF
  rcases g with g | ⟨rfl, rfl, s⟩
  · unfold fvF at g; obtain ⟨⟨a, b, c, s⟩, o⟩ := g; exact ⟨a, b, c, by omega, s⟩
  · exact ⟨h1, h2, h3, h4, s⟩
/-- more than 300 -/
def many (D : Int → Int → Bool) (W H LIM le mo : Int) : Prop := ∃ (f : Nat → Int32) (F2 : Int → Int → Int → Int → Int → Prop), stOK D f 300 F2 ∧ (∀ x y m v q, F2 x y m v q → alF D W H LIM le mo x y m v q) ∧ ∃ x y m v q, alF D W H LIM le mo x y m v q ∧ ¬ F2 x y m v q
