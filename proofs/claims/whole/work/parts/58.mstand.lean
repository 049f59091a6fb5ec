/-! the reference's rows of places, six numbers each: x, y, m, v, q, wrong dots -/
def sE (ft : Nat → Int32) (a k : Int) : Int := (ft (6 * a + k).toNat).toInt
def bE (ft : Nat → Int32) (a : Int) : Prop := 0 ≤ sE ft a 0 ∧ sE ft a 0 ≤ 511 ∧ 0 ≤ sE ft a 1 ∧ sE ft a 1 ≤ 511 ∧ 1 ≤ sE ft a 2 ∧ sE ft a 2 ≤ 16 ∧ 1 ≤ sE ft a 3 ∧ sE ft a 3 ≤ 40 ∧ 0 ≤ sE ft a 4 ∧ sE ft a 4 ≤ 3 ∧ 0 ≤ sE ft a 5 ∧ sE ft a 5 ≤ 500
def kE (ft : Nat → Int32) (a : Int) : Int := sE ft a 1 * 4194304 + sE ft a 0 * 8192 + sE ft a 2 * 256 + sE ft a 3 * 4 + sE ft a 4
def lE (ft : Nat → Int32) (a : Int) : Int := sE ft a 2 * (17 + 4 * sE ft a 3)
def mE (ft : Nat → Int32) (a b : Int) : Prop := sE ft a 0 < sE ft b 0 + lE ft b ∧ sE ft b 0 < sE ft a 0 + lE ft a ∧ sE ft a 1 < sE ft b 1 + lE ft b ∧ sE ft b 1 < sE ft a 1 + lE ft a
def leadE (ft : Nat → Int32) (n a : Int) : Prop := ∀ b, 0 ≤ b → b < n → ¬ (b ≠ a ∧ mE ft a b ∧ (sE ft b 5 < sE ft a 5 ∨ sE ft b 5 = sE ft a 5 ∧ kE ft b < kE ft a))
def befI (ft : Nat → Int32) (a b o k : Int) : Prop := (o = 0 ∧ sE ft a 1 = sE ft b 1 ∧ sE ft a 0 = sE ft b 0 ∧ (3 ≤ k → sE ft a 2 = sE ft b 2) ∧ (4 ≤ k → sE ft a 3 = sE ft b 3) ∧ (5 ≤ k → sE ft a 4 = sE ft b 4)) ∨ (o ≠ 0 ∧ (o < 0 ↔ kE ft a < kE ft b))
theorem bef_0 {ft : Nat → Int32} {a b o : Int} (ha : bE ft a) (hb : bE ft b) (h : o = if sE ft a 1 - sE ft b 1 = 0 then sE ft a 0 - sE ft b 0 else sE ft a 1 - sE ft b 1) : befI ft a b o 2 := by
  unfold befI kE
  unfold bE at ha hb
  by_cases q : sE ft a 1 - sE ft b 1 = 0
  · rw [if_pos q] at h
    by_cases z : o = 0
    · left; refine ⟨z, by omega, by omega, fun r => by omega, fun r => by omega, fun r => by omega⟩
    · right; exact ⟨z, by omega⟩
  · rw [if_neg q] at h
    right; exact ⟨by omega, by omega⟩
theorem bef_keep {ft : Nat → Int32} {a b o k : Int} (h : befI ft a b o k) (z : ¬ o = 0) : befI ft a b o (k + 1) := by
  unfold befI at h ⊢
  rcases h with h | h
  · exact absurd h.1 z
  · exact Or.inr h
theorem bef_step {ft : Nat → Int32} {a b o k o2 : Int} (ha : bE ft a) (hb : bE ft b) (h : befI ft a b o k) (z : o = 0) (k2 : 2 ≤ k) (k4 : k < 5) (e : o2 = sE ft a k - sE ft b k) : befI ft a b o2 (k + 1) := by
  unfold befI at h ⊢
  rcases h with ⟨_, h1, h0, h2, h3, h4⟩ | ⟨q, _⟩
  · unfold kE
    unfold bE at ha hb
    rcases (show k = 2 ∨ k = 3 ∨ k = 4 by omega) with r | r | r
    · subst r
      by_cases w : o2 = 0
      · left; exact ⟨w, h1, h0, fun _ => by omega, fun r => by omega, fun r => by omega⟩
      · right; exact ⟨w, by omega⟩
    · subst r
      have q2 := h2 (by omega)
      by_cases w : o2 = 0
      · left; exact ⟨w, h1, h0, fun _ => q2, fun _ => by omega, fun r => by omega⟩
      · right; exact ⟨w, by omega⟩
    · subst r
      have q2 := h2 (by omega)
      have q3 := h3 (by omega)
      by_cases w : o2 = 0
      · left; exact ⟨w, h1, h0, fun _ => q2, fun _ => q3, fun _ => by omega⟩
      · right; exact ⟨w, by omega⟩
  · exact absurd z q
theorem bef_end {ft : Nat → Int32} {a b o : Int} (h : befI ft a b o 5) : o < 0 ↔ kE ft a < kE ft b := by
  unfold befI at h
  rcases h with ⟨z, h1, h0, h2, h3, h4⟩ | ⟨_, q⟩
  · have q2 := h2 (by omega)
    have q3 := h3 (by omega)
    have q4 := h4 (by omega)
    unfold kE; omega
  · exact q
