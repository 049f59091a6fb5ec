/-! two longs compared: only whether they are equal is told -/
section vl
variable {p : Program} {l : Launch} {e : Env} {R : Room} {s : State} {m : MethodId} {args : Array Value} {below : List Frame} {meth : Method} {c : Code} {H : Heap} {locs : List Loc} {cells slots : Nat} {Q : State → Prop}
variable {cc : ByteArray} {pc : Nat} {ls : Array Slot} {rest : List Value}
theorem vl_lcmp (hexec : p.tables.exec = Jvm.exec) (hb : c.code = cc) {x y : Int64} (hdg : decode cc pc = .ok (.lcmp, 1))
    (k : ∀ r : Int32, (r = 0 ↔ x = y) → W p l e R s m args below meth c H locs cells slots Q (F0 m (pc + 1) ls (.int r :: rest))) : W p l e R s m args below meth c H locs cells slots Q (F0 m pc ls (.long y :: .long x :: rest)) := by
  intro T hT X
  by_cases q1 : x > y
  · have n1 : ¬ x = y := fun h => by rw [h] at q1; exact absurd q1 (Int64.lt_irrefl)
    obtain ⟨t, a, b⟩ := k 1 ⟨fun h => absurd h (by decide), fun h => absurd h n1⟩ T hT X
    refine ⟨t, ?_, b⟩
    jvm_step X.here [X.here.top, hexec, hb, hdg, q1]
    exact a
  · by_cases q2 : x = y
    · obtain ⟨t, a, b⟩ := k 0 ⟨fun _ => q2, fun _ => rfl⟩ T hT X
      refine ⟨t, ?_, b⟩
      jvm_step X.here [X.here.top, hexec, hb, hdg, q1]
      rw [if_pos q2]
      exact a
    · obtain ⟨t, a, b⟩ := k (-1) ⟨fun h => absurd h (by decide), fun h => absurd h q2⟩ T hT X
      refine ⟨t, ?_, b⟩
      jvm_step X.here [X.here.top, hexec, hb, hdg, q1]
      rw [if_neg q2]
      exact a
end vl
theorem lt_step {an w n : Int64} {D : Int → Int → Bool} {y z : Int} (h : ∀ j : Nat, j < 64 → (lb an j = true ↔ ∃ k : Int, 0 ≤ k ∧ k < z ∧ D (k * 64 + j) y = true)) (hz : 0 ≤ z) (hw : ∀ j : Nat, j < 64 → lb w j = D (z * 64 + j) y) (hn : n = an ||| w) :
    ∀ j : Nat, j < 64 → (lb n j = true ↔ ∃ k : Int, 0 ≤ k ∧ k < z + 1 ∧ D (k * 64 + j) y = true) := by
  intro j hj
  rw [hn, lb_or, Bool.or_eq_true, h j hj, hw j hj]
  constructor
  · intro q
    rcases q with ⟨k, a, b, d⟩ | q
    · exact ⟨k, a, by omega, d⟩
    · exact ⟨z, hz, by omega, q⟩
  · intro ⟨k, a, b, d⟩
    by_cases e : k = z
    · rw [e] at d; exact Or.inr d
    · exact Or.inl ⟨k, a, by omega, d⟩
theorem lt_all {an : Int64} {D : Int → Int → Bool} {y : Int} (h : ∀ j : Nat, j < 64 → (lb an j = true ↔ ∃ k : Int, 0 ≤ k ∧ k < 8 ∧ D (k * 64 + j) y = true)) (h0 : an = 0) : ∀ x, 0 ≤ x → x < 512 → D x y = false := by
  intro x a b
  have t := h (x % 64).toNat (by omega)
  rw [h0, lb_0] at t
  have e : x / 64 * 64 + ((x % 64).toNat : Int) = x := by omega
  cases q : D x y with
  | false => rfl
  | true => exact absurd (t.mpr ⟨x / 64, by omega, by omega, by rw [e]; exact q⟩) (by decide)
theorem lt_none {an : Int64} {D : Int → Int → Bool} {y : Int} (h : ∀ j : Nat, j < 64 → (lb an j = true ↔ ∃ k : Int, 0 ≤ k ∧ k < 8 ∧ D (k * 64 + j) y = true)) (q : ∀ x, 0 ≤ x → x < 512 → D x y = false) : an = 0 := by
  refine lb_ext (fun i hi => ?_)
  rw [lb_0]
  cases t : lb an i with
  | false => rfl
  | true =>
    obtain ⟨k, a, b, d⟩ := (h i hi).mp t
    rw [q (k * 64 + i) (by omega) (by omega)] at d
    exact absurd d (by decide)
theorem lg_z {x y : Int64} : lg_cmp x y = 0 ↔ x = y := by
  unfold lg_cmp
  by_cases q1 : x > y
  · rw [if_pos q1]
    exact ⟨fun h => absurd h (by decide), fun h => by rw [h] at q1; exact absurd q1 Int64.lt_irrefl⟩
  · rw [if_neg q1]
    by_cases q2 : x = y
    · simp [q2]
    · simp [q2]
