/-! steps of the reference's look -/
theorem lk_0 {D : Int → Int → Bool} {W H LIM M v : Int} {F : Int → Int → Int → Int → Int → Prop} {x' y' m' v' q' : Int} : F x' y' m' v' q' ↔ lkF D W H LIM M v F 0 0 0 x' y' m' v' q' := by
  unfold lkF
  constructor
  · exact Or.inl
  · intro h
    rcases h with h | ⟨_, _, s, o⟩
    · exact h
    · unfold St at s; omega
theorem lk_no {D : Int → Int → Bool} {W H LIM M v zy zx zq : Int} {F : Int → Int → Int → Int → Int → Prop} (n : ¬ St D W H LIM zx zy M v zq) {x' y' m' v' q' : Int} : lkF D W H LIM M v F zy zx zq x' y' m' v' q' ↔ lkF D W H LIM M v F zy zx (zq + 1) x' y' m' v' q' := by
  unfold lkF
  constructor
  · intro h
    rcases h with h | ⟨a, b, s, o⟩
    · exact Or.inl h
    · exact Or.inr ⟨a, b, s, by omega⟩
  · intro h
    rcases h with h | ⟨a, b, s, o⟩
    · exact Or.inl h
    · by_cases e : y' = zy ∧ x' = zx ∧ q' = zq
      · obtain ⟨rfl, rfl, rfl⟩ := e; exact absurd s n
      · exact Or.inr ⟨a, b, s, by omega⟩
theorem lk_yes {D : Int → Int → Bool} {W H LIM M v zy zx zq : Int} {F : Int → Int → Int → Int → Int → Prop} (n : St D W H LIM zx zy M v zq) {x' y' m' v' q' : Int} : (lkF D W H LIM M v F zy zx zq x' y' m' v' q' ∨ (x' = zx ∧ y' = zy ∧ m' = M ∧ v' = v ∧ q' = zq)) ↔ lkF D W H LIM M v F zy zx (zq + 1) x' y' m' v' q' := by
  unfold lkF
  constructor
  · intro h
    rcases h with (h | ⟨a, b, s, o⟩) | ⟨r0, r1, r2, r3, r4⟩
    · exact Or.inl h
    · exact Or.inr ⟨a, b, s, by omega⟩
    · exact Or.inr ⟨r2, r3, by rw [r0, r1, r4]; exact n, by omega⟩
  · intro h
    rcases h with h | ⟨a, b, s, o⟩
    · exact Or.inl (Or.inl h)
    · by_cases e : y' = zy ∧ x' = zx ∧ q' = zq
      · exact Or.inr ⟨e.2.1, e.1, a, b, e.2.2⟩
      · exact Or.inl (Or.inr ⟨a, b, s, by omega⟩)
theorem lk_q4 {D : Int → Int → Bool} {W H LIM M v zy zx : Int} {F : Int → Int → Int → Int → Int → Prop} {x' y' m' v' q' : Int} : lkF D W H LIM M v F zy zx 4 x' y' m' v' q' ↔ lkF D W H LIM M v F zy (zx + 1) 0 x' y' m' v' q' := by
  unfold lkF
  constructor
  · intro h
    rcases h with h | ⟨a, b, s, o⟩
    · exact Or.inl h
    · exact Or.inr ⟨a, b, s, by omega⟩
  · intro h
    rcases h with h | ⟨a, b, s, o⟩
    · exact Or.inl h
    · have s2 := s
      unfold St at s2
      exact Or.inr ⟨a, b, s, by omega⟩
theorem lk_x {D : Int → Int → Bool} {W H LIM M v zy zx d : Int} {F : Int → Int → Int → Int → Int → Prop} (ed : d = M * (17 + 4 * v)) (hx : W - d < zx) {x' y' m' v' q' : Int} : lkF D W H LIM M v F zy zx 0 x' y' m' v' q' ↔ lkF D W H LIM M v F (zy + 1) 0 0 x' y' m' v' q' := by
  unfold lkF
  constructor
  · intro h
    rcases h with h | ⟨a, b, s, o⟩
    · exact Or.inl h
    · exact Or.inr ⟨a, b, s, by omega⟩
  · intro h
    rcases h with h | ⟨a, b, s, o⟩
    · exact Or.inl h
    · have s2 := s
      unfold St at s2
      rw [← ed] at s2
      exact Or.inr ⟨a, b, s, by omega⟩
theorem lk_end {D : Int → Int → Bool} {W H LIM M v zy d : Int} {F : Int → Int → Int → Int → Int → Prop} (ed : d = M * (17 + 4 * v)) (hy : ¬ (0 ≤ W - d ∧ zy ≤ H - d)) {x' y' m' v' q' : Int} : lkF D W H LIM M v F zy 0 0 x' y' m' v' q' ↔ (F x' y' m' v' q' ∨ (m' = M ∧ v' = v ∧ St D W H LIM x' y' M v q')) := by
  unfold lkF
  constructor
  · intro h
    rcases h with h | ⟨a, b, s, o⟩
    · exact Or.inl h
    · exact Or.inr ⟨a, b, s⟩
  · intro h
    rcases h with h | ⟨a, b, s⟩
    · exact Or.inl h
    · have s2 := s
      unfold St at s2
      rw [← ed] at s2
      exact Or.inr ⟨a, b, s, by omega⟩
theorem lk_not {D : Int → Int → Bool} {W H LIM M v zy zx zq : Int} {F : Int → Int → Int → Int → Int → Prop} (h : ∀ x y q, ¬ F x y M v q) : ¬ lkF D W H LIM M v F zy zx zq zx zy M v zq := by
  unfold lkF
  intro g
  rcases g with g | ⟨_, _, _, o⟩
  · exact h _ _ _ g
  · omega
theorem lk_sub {D : Int → Int → Bool} {W H LIM M v zy zx zq : Int} {F : Int → Int → Int → Int → Int → Prop} {x' y' m' v' q' : Int} (g : lkF D W H LIM M v F zy zx zq x' y' m' v' q') : F x' y' m' v' q' ∨ (m' = M ∧ v' = v ∧ St D W H LIM x' y' M v q') := by
  unfold lkF at g
  rcases g with g | ⟨a, b, s, _⟩
  · exact Or.inl g
  · exact Or.inr ⟨a, b, s⟩
