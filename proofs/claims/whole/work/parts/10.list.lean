/-! the list of places in order -/
abbrev better (wf : Nat → Int32) (o t : Int) : Prop := (wf o.toNat).toInt < (wf t.toNat).toInt ∨ (wf o.toNat).toInt = (wf t.toNat).toInt ∧ o < t
def isIns (n : Int) (a x : Int32) (kf wf kg wg : Nat → Int32) : Prop := ∃ p : Nat, (p : Int) ≤ n ∧ (∀ i : Nat, i < p → kg i = kf i ∧ wg i = wf i) ∧ kg p = a ∧ wg p = x ∧ (∀ i : Nat, p ≤ i → (i : Int) < n → kg (i + 1) = kf i ∧ wg (i + 1) = wf i ∧ a < kf i) ∧ (p = 0 ∨ ¬ a < kf (p - 1))
theorem ins_step {n zix : Int} {a1 : Int32} {kf wf kc wc k2 w2 : Nat → Int32} {v35 v52 v66 : Int32} (i1 : 0 ≤ zix ∧ zix ≤ n) (i2 : ∀ i : Nat, (i : Int) < zix → kc i = kf i ∧ wc i = wf i) (i3 : ∀ i : Nat, zix ≤ (i : Int) → (i : Int) < n → kc (i + 1) = kf i ∧ wc (i + 1) = wf i ∧ a1 < kf i)
    (ek : k2 = upd kc zix.toNat v52) (ew : w2 = upd wc zix.toNat v66) (e35 : v35 = kc (zix - 1).toNat) (e52 : v52 = kc (zix - 1).toNat) (e66 : v66 = wc (zix - 1).toNat) (c : a1 < v35) (h0 : 0 < zix) :
    ∀ i : Nat, zix + (-1) ≤ (i : Int) → (i : Int) < n → k2 (i + 1) = kf i ∧ w2 (i + 1) = wf i ∧ a1 < kf i := by
  intro i q1 q2
  by_cases e : (i : Int) = zix - 1
  · have z : zix.toNat = i + 1 := by omega
    have z2 : (zix - 1).toNat = i := by omega
    rw [ek, ew, z, pk_us, pk_us, e52, e66, z2]
    rw [e35, z2] at c
    have t := i2 i (by omega)
    exact ⟨t.1, t.2, by rw [← t.1]; exact c⟩
  · rw [ek, ew, pk_un (by omega), pk_un (by omega)]
    exact i3 i (by omega) q2
theorem ins_end {n zix : Int} {a1 a2 : Int32} {kf wf kc wc k2 w2 : Nat → Int32} (i1 : 0 ≤ zix ∧ zix ≤ n) (i2 : ∀ i : Nat, (i : Int) < zix → kc i = kf i ∧ wc i = wf i) (i3 : ∀ i : Nat, zix ≤ (i : Int) → (i : Int) < n → kc (i + 1) = kf i ∧ wc (i + 1) = wf i ∧ a1 < kf i)
    (ek : k2 = upd kc zix.toNat a1) (ew : w2 = upd wc zix.toNat a2) (c : zix ≤ 0 ∨ ¬ a1 < kc (zix - 1).toNat) : isIns n a1 a2 kf wf k2 w2 := by
  refine ⟨zix.toNat, by omega, fun i q => ?_, by rw [ek, pk_us], by rw [ew, pk_us], fun i q1 q2 => ?_, ?_⟩
  · rw [ek, ew, pk_un (by omega), pk_un (by omega)]; exact i2 i (by omega)
  · rw [ek, ew, pk_un (by omega), pk_un (by omega)]; exact i3 i (by omega) q2
  · rcases c with c | c
    · exact Or.inl (by omega)
    · by_cases z : zix ≤ 0
      · exact Or.inl (by omega)
      · right
        have e : (zix - 1).toNat = zix.toNat - 1 := by omega
        rw [e, (i2 (zix.toNat - 1) (by omega)).1] at c
        exact c
def lead (n : Int) (kf wf : Nat → Int32) (t : Int) : Prop := ∀ o : Int, 0 ≤ o → o < n → ¬ (better wf o t ∧ comm (kf o.toNat).toInt (kf t.toNat).toInt)
