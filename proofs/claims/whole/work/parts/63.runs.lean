/-! the reference's runs of fixed modules: i, j, how many, which; whatever is summed over them is summed over the fixed modules -/
def rI (fr : Nat → Int32) (t k : Int) : Int := (fr (4 * t + k).toNat).toInt
def rS (G : Int → Int → Int → Int) (fr : Nat → Int32) : Nat → Int
  | 0 => 0
  | t + 1 => rS G fr t + s1 (fun i => G (rI fr t 3) i (rI fr t 1)) (rI fr t 0) (rI fr t 2).toNat
def gG (G : Int → Int → Int → Int) (S : Int) : Int → Int → Int := fun i j => if mdl S i j = -1 then 0 else G (mdl S i j) i j
def rW (S : Int) (fr : Nat → Int32) (R : Int) : Prop := ∀ t, 0 ≤ t → t < R → 0 ≤ rI fr t 0 ∧ 1 ≤ rI fr t 2 ∧ rI fr t 0 + rI fr t 2 ≤ S ∧ 0 ≤ rI fr t 1 ∧ rI fr t 1 < S ∧ (rI fr t 3 = 0 ∨ rI fr t 3 = 1)
def rSum (S : Int) (fr : Nat → Int32) (R zi zj : Int) : Prop := ∀ G : Int → Int → Int → Int, rS G fr R.toNat = sI (gG G S) 0 0 S zj + s1 (fun i => gG G S i zj) 0 zi.toNat
def rLast (S : Int) (fr : Nat → Int32) (R zi zj : Int) : Prop := 0 < zi → mdl S (zi - 1) zj ≠ -1 → 0 < R ∧ rI fr (R - 1) 1 = zj ∧ rI fr (R - 1) 0 + rI fr (R - 1) 2 = zi ∧ rI fr (R - 1) 3 = mdl S (zi - 1) zj
theorem rI_congr {f g : Nat → Int32} {t k : Int} (h : f (4 * t + k).toNat = g (4 * t + k).toNat) : rI f t k = rI g t k := by unfold rI; rw [h]
theorem rS_congr {G : Int → Int → Int → Int} {f g : Nat → Int32} {n : Nat} (h : ∀ i : Nat, i < 4 * n → f i = g i) : rS G f n = rS G g n := by
  induction n with
  | zero => rfl
  | succ n ih =>
    simp only [rS]
    have e (k : Int) (h0 : 0 ≤ k) (h1 : k < 4) : rI f n k = rI g n k := rI_congr (h _ (by omega))
    rw [ih (fun i hi => h i (by omega)), e 0 (by omega) (by omega), e 1 (by omega) (by omega), e 2 (by omega) (by omega), e 3 (by omega) (by omega)]
theorem mdl_v (S i j : Int) : mdl S i j = -1 ∨ mdl S i j = 0 ∨ mdl S i j = 1 := by
  unfold mdl cC
  (repeat' split) <;> omega
theorem s1_next {g : Int → Int} {k : Int} (hk : 0 ≤ k) : s1 g 0 (k + 1).toNat = s1 g 0 k.toNat + g k := by
  have e : (k + 1).toNat = k.toNat + 1 := by omega
  have z : (0 : Int) + ((k.toNat : Nat) : Int) = k := by omega
  rw [e]; simp only [s1]; rw [z]
theorem run_skip {S R zi zj : Int} {fr : Nat → Int32} (h : rSum S fr R zi zj) (hi : 0 ≤ zi) (m : mdl S zi zj = -1) : rSum S fr R (zi + 1) zj := by
  intro G
  rw [h G, s1_next hi]
  have : gG G S zi zj = 0 := if_pos m
  rw [this]; omega
theorem last_skip {S R zi zj : Int} {fr : Nat → Int32} (m : mdl S zi zj = -1) : rLast S fr R (zi + 1) zj := by
  intro _ q
  have e : zi + 1 - 1 = zi := by omega
  rw [e] at q
  exact absurd m q
theorem run_ext {S R zi zj : Int} {fr f2 : Nat → Int32} {v : Int32} (h : rSum S fr R zi zj) (hl : rLast S fr R zi zj) (hw : rW S fr R) (hi : 0 < zi) (i1 : zi < S) (hR : 0 ≤ R) (m : mdl S zi zj ≠ -1) (e : mdl S (zi - 1) zj = mdl S zi zj) (ef : f2 = upd fr (4 * R - 2).toNat v) (hv : v.toInt = rI fr (R - 1) 2 + 1) : rSum S f2 R (zi + 1) zj ∧ rLast S f2 R (zi + 1) zj ∧ rW S f2 R ∧ 0 < R := by
  obtain ⟨r0, r1, r2, r3⟩ := hl hi (by rw [e]; exact m)
  obtain ⟨n, hn⟩ : ∃ n : Nat, R = n + 1 := ⟨(R - 1).toNat, by omega⟩
  subst hn
  have en : ((n : Int) + 1 - 1) = n := by omega
  rw [en] at r1 r2 r3 hv
  have lo : ∀ i : Nat, i < 4 * n → f2 i = fr i := fun i hi => by rw [ef, pk_un (by omega)]
  have k0 : rI f2 n 0 = rI fr n 0 := rI_congr (by rw [ef, pk_un (by omega)])
  have k1 : rI f2 n 1 = rI fr n 1 := rI_congr (by rw [ef, pk_un (by omega)])
  have k3 : rI f2 n 3 = rI fr n 3 := rI_congr (by rw [ef, pk_un (by omega)])
  have k2 : rI f2 n 2 = rI fr n 2 + 1 := by
    unfold rI
    have z : (4 * (n : Int) + 2).toNat = (4 * ((n : Int) + 1) - 2).toNat := by omega
    rw [ef, z, pk_us, hv, ← z]; rfl
  have wn := hw n (by omega) (by omega)
  refine ⟨?_, ?_, ?_, by omega⟩
  · intro G
    have hG := h G
    have t1 : ((n : Int) + 1).toNat = n + 1 := by omega
    rw [t1] at hG ⊢
    simp only [rS] at hG ⊢
    rw [rS_congr lo, k0, k1, k2, k3]
    have t2 : (rI fr n 2 + 1).toNat = (rI fr n 2).toNat + 1 := by omega
    rw [t2]
    simp only [s1]
    have t3 : rI fr n 0 + (((rI fr n 2).toNat : Nat) : Int) = zi := by omega
    have t4 : gG G S zi zj = G (mdl S zi zj) zi zj := if_neg m
    rw [t3, s1_next (by omega), t4, r3, r1, e]
    rw [r3, r1, e] at hG
    omega
  · intro _ _
    have t : zi + 1 - 1 = zi := by omega
    rw [t, en, k0, k1, k2, k3]
    exact ⟨by omega, r1, by omega, by rw [r3, e]⟩
  · intro t t0 t1
    by_cases q : t = n
    · subst q; rw [k0, k1, k2, k3]; omega
    · have a (k : Int) (h0 : 0 ≤ k) (h1 : k < 4) : rI f2 t k = rI fr t k := rI_congr (by rw [ef, pk_un (by omega)])
      rw [a 0 (by omega) (by omega), a 1 (by omega) (by omega), a 2 (by omega) (by omega), a 3 (by omega) (by omega)]
      exact hw t t0 t1
theorem run_new {S R zi zj : Int} {fr f2 : Nat → Int32} (h : rSum S fr R zi zj) (hw : rW S fr R) (hi : 0 ≤ zi) (i1 : zi < S) (j0 : 0 ≤ zj) (j1 : zj < S) (hR : 0 ≤ R) (m : mdl S zi zj ≠ -1) (lo : ∀ i : Nat, (i : Int) < 4 * R → f2 i = fr i) (k0 : rI f2 R 0 = zi) (k1 : rI f2 R 1 = zj) (k2 : rI f2 R 2 = 1) (k3 : rI f2 R 3 = mdl S zi zj) : rSum S f2 (R + 1) (zi + 1) zj ∧ rLast S f2 (R + 1) (zi + 1) zj ∧ rW S f2 (R + 1) := by
  obtain ⟨n, hn⟩ : ∃ n : Nat, R = n := ⟨R.toNat, by omega⟩
  subst hn
  refine ⟨?_, ?_, ?_⟩
  · intro G
    have hG := h G
    have t1 : ((n : Int) + 1).toNat = n + 1 := by omega
    have t0 : ((n : Int)).toNat = n := by omega
    rw [t0] at hG
    rw [t1]
    simp only [rS]
    rw [rS_congr (g := fr) (fun i hi => lo i (by omega)), hG, k0, k1, k2, k3, s1_next hi]
    have t4 : gG G S zi zj = G (mdl S zi zj) zi zj := if_neg m
    rw [t4]
    have t5 : (1 : Int).toNat = 0 + 1 := rfl
    rw [t5]
    simp only [s1]
    have t6 : zi + ((0 : Nat) : Int) = zi := by omega
    rw [t6]; omega
  · intro _ _
    have t : zi + 1 - 1 = zi := by omega
    have u : (n : Int) + 1 - 1 = n := by omega
    rw [t, u, k0, k1, k2, k3]
    exact ⟨by omega, rfl, by omega, rfl⟩
  · intro t t0 t1
    by_cases q : t = n
    · subst q; rw [k0, k1, k2, k3]
      have := mdl_v S zi zj
      omega
    · have a (k : Int) (h0 : 0 ≤ k) (h1 : k < 4) : rI f2 t k = rI fr t k := rI_congr (lo _ (by omega))
      rw [a 0 (by omega) (by omega), a 1 (by omega) (by omega), a 2 (by omega) (by omega), a 3 (by omega) (by omega)]
      exact hw t t0 (by omega)
theorem run_row {S R zj : Int} {fr : Nat → Int32} (h : rSum S fr R S zj) (hj : 0 ≤ zj) : rSum S fr R 0 (zj + 1) := by
  intro G
  rw [h G]
  unfold sI
  have e : (zj + 1).toNat = zj.toNat + 1 := by omega
  have z : (0 : Int) + ((zj.toNat : Nat) : Int) = zj := by omega
  rw [e]; simp only [s2]; rw [z]
  have y : (0 : Int).toNat = 0 := rfl
  rw [y]; simp [s1]
/-- there are no more than 515 of them -/
theorem s1_1 {g : Int → Int} {x : Int} {n : Nat} (h : ∀ i, 0 ≤ g i ∧ g i ≤ 1) : 0 ≤ s1 g x n ∧ s1 g x n ≤ n := by
  induction n with
  | zero => simp [s1]
  | succ n ih => simp only [s1]; have := h (x + n); omega
theorem s1_mono {g : Int → Int} {x : Int} (h : ∀ i, 0 ≤ g i) {a b : Nat} (q : a ≤ b) : s1 g x a ≤ s1 g x b := by
  induction b with
  | zero => have e : a = 0 := by omega
            subst e; exact Int.le_refl _
  | succ b ih =>
    by_cases e : a = b + 1
    · subst e; exact Int.le_refl _
    · simp only [s1]; have := ih (by omega); have := h (x + b); omega
theorem s2_1 {g : Int → Int → Int} {x y : Int} {w n : Nat} (h : ∀ i j, 0 ≤ g i j ∧ g i j ≤ 1) : 0 ≤ s2 g x y w n ∧ s2 g x y w n ≤ w * n := by
  induction n with
  | zero => simp [s2]
  | succ n ih =>
    simp only [s2]
    have := s1_1 (g := fun i => g i (y + n)) (x := x) (n := w) (fun i => h i (y + n))
    have e : (w : Int) * ((n + 1 : Nat) : Int) = w * n + w := by rw [Int.natCast_add, Int.mul_add]; simp
    omega
theorem sI_1 {g : Int → Int → Int} {x y : Int} (w h : Int) (hw : 0 ≤ w) (hh : 0 ≤ h) (q : ∀ i j, 0 ≤ g i j ∧ g i j ≤ 1) : 0 ≤ sI g x y w h ∧ sI g x y w h ≤ w * h := by
  have := s2_1 (x := x) (y := y) (w := w.toNat) (n := h.toNat) q
  have e1 : ((w.toNat : Nat) : Int) = w := by omega
  have e2 : ((h.toNat : Nat) : Int) = h := by omega
  rw [e1, e2] at this; exact this
theorem rS_ge {S R : Int} {fr : Nat → Int32} (hw : rW S fr R) : ∀ n : Nat, (n : Int) ≤ R → (n : Int) ≤ rS (fun _ _ _ => 1) fr n
  | 0, _ => by simp [rS]
  | n + 1, h => by
    have ih := rS_ge hw n (by omega)
    have wn := hw n (by omega) (by omega)
    simp only [rS]
    have t : (rI fr n 2).toNat = (rI fr n 2).toNat - 1 + 1 := by omega
    rw [t]
    simp only [s1]
    have := (s1_1 (g := fun _ => (1 : Int)) (x := rI fr n 0) (n := (rI fr n 2).toNat - 1) (fun _ => by omega)).1
    omega
theorem run_few {S R zi zj : Int} {fr : Nat → Int32} (h : rSum S fr R zi zj) (hw : rW S fr R) (hS : 21 ≤ S) (hS2 : S ≤ 177) (hR : 0 ≤ R) (i0 : 0 ≤ zi) (i1 : zi ≤ S) (j0 : 0 ≤ zj) (j1 : zj < S) : R ≤ 515 := by
  have q : ∀ i j, 0 ≤ gG (fun _ _ _ => 1) S i j ∧ gG (fun _ _ _ => 1) S i j ≤ 1 := by
    intro i j; unfold gG
    by_cases m : mdl S i j = -1
    · rw [if_pos m]; omega
    · rw [if_neg m]; exact ⟨show (0 : Int) ≤ 1 by decide, show (1 : Int) ≤ 1 by decide⟩
  have a := rS_ge hw R.toNat (by omega)
  rw [h] at a
  have p := sI_parts (g := gG (fun _ _ _ => 1) S) hS (fun i j _ _ _ _ m => if_pos m)
  have b1 := (sI_1 (x := 0) (y := 0) 8 8 (by omega) (by omega) q).2
  have b2 := (sI_1 (x := S - 8) (y := 0) 8 8 (by omega) (by omega) q).2
  have b3 := (sI_1 (x := 0) (y := S - 8) 8 8 (by omega) (by omega) q).2
  have b4 := (sI_1 (x := 8) (y := 6) (S - 16) 1 (by omega) (by omega) q).2
  have b5 := (sI_1 (x := 6) (y := 8) 1 (S - 16) (by omega) (by omega) q).2
  have b6 := (q 8 (S - 8)).2
  rw [Int.mul_one] at b4
  rw [Int.one_mul] at b5
  have s : sI (gG (fun _ _ _ => 1) S) 0 0 S (zj + (1 + (S - zj - 1))) = sI (gG (fun _ _ _ => 1) S) 0 0 S zj + sI (gG (fun _ _ _ => 1) S) 0 (0 + zj) S (1 + (S - zj - 1)) := sI_h _ _ j0 (by omega)
  have s' : sI (gG (fun _ _ _ => 1) S) 0 (0 + zj) S (1 + (S - zj - 1)) = sI (gG (fun _ _ _ => 1) S) 0 (0 + zj) S 1 + sI (gG (fun _ _ _ => 1) S) 0 (0 + zj + 1) S (S - zj - 1) := sI_h _ _ (by omega) (by omega)
  have b7 := (sI_1 (x := 0) (y := 0 + zj + 1) S (S - zj - 1) (by omega) (by omega) q).1
  have row : sI (gG (fun _ _ _ => 1) S) 0 (0 + zj) S 1 = s1 (fun i => gG (fun _ _ _ => 1) S i zj) 0 S.toNat := by
    unfold sI
    have y : (1 : Int).toNat = 0 + 1 := rfl
    rw [y]; simp only [s2]
    have z : (0 : Int) + zj + ((0 : Nat) : Int) = zj := by omega
    rw [z]; omega
  have mono := s1_mono (g := fun i => gG (fun _ _ _ => 1) S i zj) (x := 0) (fun i => (q i zj).1) (show zi.toNat ≤ S.toNat by omega)
  have eS : zj + (1 + (S - zj - 1)) = S := by omega
  rw [eS] at s
  have eR : ((R.toNat : Nat) : Int) = R := by omega
  rw [eR] at a
  omega
