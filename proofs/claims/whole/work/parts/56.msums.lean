/-! the reference's sums; its rows of places -/
def sOK (fs : Nat → Int32) (D : Int → Int → Bool) (W n : Int) : Prop := ∀ a b, 0 ≤ a → a ≤ W → 0 ≤ b → b ≤ n → (fs (513 * b + a).toNat).toInt = cI D 0 0 a b
def z0 (fs : Nat → Int32) : Prop := (∀ a : Int, 0 ≤ a → a ≤ 512 → fs a.toNat = 0) ∧ (∀ b : Int, 0 ≤ b → b ≤ 512 → fs (513 * b).toNat = 0)
theorem sOK_0 {fs : Nat → Int32} {D : Int → Int → Bool} {W : Int} (h : z0 fs) (hW : W ≤ 512) : sOK fs D W 0 := by
  intro a b a0 a1 b0 b1
  have e : b = 0 := by omega
  subst e
  have z : (513 * 0 + a).toNat = a.toNat := by omega
  rw [z, h.1 a a0 (by omega), cI_0h D 0 0 a (by omega)]; decide
theorem cI_step (D : Int → Int → Bool) (w : Int) {y : Int} (hy : 0 ≤ y) : cI D 0 0 w (y + 1) = cI D 0 0 w y + rc D 0 y w.toNat := by
  unfold cI
  have e : (y + 1).toNat = y.toNat + 1 := by omega
  have z : (0 : Int) + ((y.toNat : Nat) : Int) = y := by omega
  rw [e]; simp only [cn]; rw [z]
theorem rc1_y {f : Int → Int → Bool} {y k : Int} (hk : 0 ≤ k) (q : f k y = true) : rc f 0 y (k + 1).toNat = rc f 0 y k.toNat + 1 := by
  have e : (k + 1).toNat = k.toNat + 1 := by omega
  have z : (0 : Int) + ((k.toNat : Nat) : Int) = k := by omega
  rw [e]; simp only [rc]; rw [z, if_pos q]
theorem rc1_n {f : Int → Int → Bool} {y k : Int} (hk : 0 ≤ k) (q : f k y = false) : rc f 0 y (k + 1).toNat = rc f 0 y k.toNat := by
  have e : (k + 1).toNat = k.toNat + 1 := by omega
  have z : (0 : Int) + ((k.toNat : Nat) : Int) = k := by omega
  rw [e]; simp only [rc]; rw [z, q]; simp
theorem sum_keep {fs : Nat → Int32} {D : Int → Int → Bool} {W y x : Int} {v : Int32} (h : sOK fs D W y) (hW : W ≤ 512) (hy : 0 ≤ y) (hx : 0 ≤ x) : sOK (upd fs (513 * (y + 1) + x + 1).toNat v) D W y := by
  intro a b a0 a1 b0 b1
  rw [pk_un (by omega)]; exact h a b a0 a1 b0 b1
theorem sum_z0 {fs : Nat → Int32} {y x : Int} {v : Int32} (h : z0 fs) (hy : 0 ≤ y) (hx : 0 ≤ x) (hx2 : x < 512) : z0 (upd fs (513 * (y + 1) + x + 1).toNat v) :=
  ⟨fun a a0 a1 => by rw [pk_un (by omega)]; exact h.1 a a0 a1, fun b b0 b1 => by rw [pk_un (by omega)]; exact h.2 b b0 b1⟩
theorem sum_row {fs : Nat → Int32} {D : Int → Int → Bool} {y x : Int} {v : Int32} (h : ∀ a, 0 ≤ a → a ≤ x → (fs (513 * (y + 1) + a).toNat).toInt = cI D 0 0 a (y + 1)) (hy : 0 ≤ y) (hx : 0 ≤ x) (hv : v.toInt = cI D 0 0 (x + 1) (y + 1)) : ∀ a, 0 ≤ a → a ≤ x + 1 → ((upd fs (513 * (y + 1) + x + 1).toNat v) (513 * (y + 1) + a).toNat).toInt = cI D 0 0 a (y + 1) := by
  intro a a0 a1
  by_cases e : a = x + 1
  · have z : (513 * (y + 1) + a).toNat = (513 * (y + 1) + x + 1).toNat := by congr 1; omega
    rw [z, pk_us, hv, e]
  · rw [pk_un (by omega)]; exact h a a0 (by omega)
theorem sum_next {fs : Nat → Int32} {D : Int → Int → Bool} {W y : Int} (h : sOK fs D W y) (r : ∀ a, 0 ≤ a → a ≤ W → (fs (513 * (y + 1) + a).toNat).toInt = cI D 0 0 a (y + 1)) : sOK fs D W (y + 1) := by
  intro a b a0 a1 b0 b1
  by_cases e : b = y + 1
  · rw [e]; exact r a a0 a1
  · exact h a b a0 a1 b0 (by omega)
/-- six numbers behind those that are there -/
def entD (n : Int) (a b c d e f : Int32) (g g' : Nat → Int32) : Prop := (∀ i : Nat, (i : Int) < 6 * n → g' i = g i) ∧ g' (6 * n).toNat = a ∧ g' (6 * n + 1).toNat = b ∧ g' (6 * n + 2).toNat = c ∧ g' (6 * n + 3).toNat = d ∧ g' (6 * n + 4).toNat = e ∧ g' (6 * n + 5).toNat = f
