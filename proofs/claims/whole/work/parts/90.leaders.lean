/-! the leaders, as the finder takes them and as the reference orders them -/
def ldI (kf wf : Nat → Int32) (n : Int) (kg wg : Nat → Int32) (k z : Int) : Prop :=
  (0 ≤ k ∧ k ≤ z) ∧
  (∀ a : Nat, (a : Int) < k → ∃ i : Int, 0 ≤ i ∧ i < z ∧ lead n kf wf i ∧ kg a = kf i.toNat ∧ wg a = wf i.toNat) ∧
  (∀ a b : Nat, a < b → (b : Int) < k → (kg a).toInt < (kg b).toInt) ∧
  (∀ i : Int, 0 ≤ i → i < z → lead n kf wf i → ∃ a : Nat, (a : Int) < k ∧ kg a = kf i.toNat)
theorem ld_0 {kf wf kg wg : Nat → Int32} {n : Int} : ldI kf wf n kg wg 0 0 :=
  ⟨by omega, fun a h => by omega, fun a b _ h => by omega, fun i h0 h1 => by omega⟩
theorem ld_no {kf wf kg wg : Nat → Int32} {n k z : Int} (h : ldI kf wf n kg wg k z) (nl : ¬ lead n kf wf z) : ldI kf wf n kg wg k (z + 1) := by
  obtain ⟨h0, h1, h2, h3⟩ := h
  refine ⟨by omega, fun a ha => ?_, h2, fun i i0 i1 l => ?_⟩
  · obtain ⟨i, i0, i1, r⟩ := h1 a ha; exact ⟨i, i0, by omega, r⟩
  · by_cases c : i = z
    · rw [c] at l; exact absurd l nl
    · exact h3 i i0 (by omega) l
theorem ld_yes {kf wf kg wg kg' wg' : Nat → Int32} {n k z : Int} (h : ldI kf wf n kg wg k z) (z0 : 0 ≤ z) (zn : z < n) (inc : ∀ a b : Nat, a < b → (b : Int) < n → (kf a).toInt < (kf b).toInt) (l : lead n kf wf z) (hi : isIns k (kf z.toNat) (wf z.toNat) kg wg kg' wg') : ldI kf wf n kg' wg' (k + 1) (z + 1) := by
  obtain ⟨h0, h1, h2, h3⟩ := h
  obtain ⟨p, pn, lo, pk, pw, hi', lst⟩ := hi
  have less : ∀ a : Nat, (a : Int) < k → (kg a).toInt < (kf z.toNat).toInt := by
    intro a ha
    obtain ⟨i, i0, i1, _, e, _⟩ := h1 a ha
    rw [e]; exact inc i.toNat z.toNat (by omega) (by omega)
  have pk' : (p : Int) = k := by
    by_cases c : (p : Int) < k
    · have t := Int32.lt_iff_toInt_lt.mp (hi' p (Nat.le_refl _) c).2.2
      have := less p c; omega
    · omega
  refine ⟨by omega, ?_, ?_, ?_⟩
  · intro a ha
    by_cases c : a = p
    · rw [c, pk, pw]; exact ⟨z, z0, by omega, l, rfl, rfl⟩
    · obtain ⟨i, i0, i1, r⟩ := h1 a (by omega)
      rw [(lo a (by omega)).1, (lo a (by omega)).2]; exact ⟨i, i0, by omega, r⟩
  · intro a b ab hb
    by_cases c : b = p
    · rw [c, pk, (lo a (by omega)).1]; exact less a (by omega)
    · rw [(lo a (by omega)).1, (lo b (by omega)).1]; exact h2 a b ab (by omega)
  · intro i i0 i1 li
    by_cases c : i = z
    · exact ⟨p, by omega, by rw [pk, c]⟩
    · obtain ⟨a, a1, e⟩ := h3 i i0 (by omega) li
      exact ⟨a, by omega, by rw [(lo a (by omega)).1, e]⟩
/-- a key's parts -/
theorem key_parts {x y m v q K : Int} (b : bnd5 x y m v q) (e : K = keyI x y m v q) : K / 8192 % 512 = x ∧ K / 4194304 % 512 = y ∧ K / 256 % 32 = m ∧ K / 4 % 64 = v ∧ K % 4 = q := by
  unfold bnd5 at b; unfold keyI at e; omega
theorem comm_parts {x y m v q x' y' m' v' q' A B : Int} (a : bnd5 x y m v q) (b : bnd5 x' y' m' v' q') (ea : A = keyI x y m v q) (eb : B = keyI x' y' m' v' q') :
    comm A B ↔ (x < x' + m' * (17 + 4 * v') ∧ x' < x + m * (17 + 4 * v) ∧ y < y' + m' * (17 + 4 * v') ∧ y' < y + m * (17 + 4 * v)) := by
  obtain ⟨a1, a2, a3, a4, a5⟩ := key_parts a ea
  obtain ⟨b1, b2, b3, b4, b5⟩ := key_parts b eb
  unfold comm klen
  rw [a1, a2, a3, a4, b1, b2, b3, b4]
theorem st_cl_n {D : Int → Int → Bool} {ft kf wf : Nat → Int32} {SD n : Int} {F : Int → Int → Int → Int → Int → Prop} (s0 : 0 ≤ SD) (hs : stOK D ft SD F) (hc : clOK D kf wf n F) :
    SD = n ∧ (∀ i : Nat, (i : Int) < n → ∃ a, 0 ≤ a ∧ a < SD ∧ kE ft a = (kf i).toInt ∧ sE ft a 5 = (wf i).toInt) ∧ (∀ a, 0 ≤ a → a < SD → ∃ i : Nat, (i : Int) < n ∧ kE ft a = (kf i).toInt) := by
  obtain ⟨c0, c1, c2, c3⟩ := hc
  have A : ∀ i : Nat, (i : Int) < n → ∃ a, 0 ≤ a ∧ a < SD ∧ kE ft a = (kf i).toInt ∧ sE ft a 5 = (wf i).toInt := by
    intro i hi
    obtain ⟨x, y, m, v, q, f, b, k, w, _⟩ := c1 i hi
    obtain ⟨a, a0, a1, e0, e1, e2, e3, e4⟩ := hs.2.2 _ _ _ _ _ f
    refine ⟨a, a0, a1, by rw [kE_key, e0, e1, e2, e3, e4, k], ?_⟩
    rw [(hs.1 a a0 a1).2.2, e0, e1, e2, e3, e4, w]
  have B : ∀ a, 0 ≤ a → a < SD → ∃ i : Nat, (i : Int) < n ∧ kE ft a = (kf i).toInt := by
    intro a a0 a1
    obtain ⟨i, hi, e⟩ := c3 _ _ _ _ _ (hs.1 a a0 a1).2.1
    exact ⟨i, hi, by rw [e, kE_key]⟩
  refine ⟨?_, A, B⟩
  have exA : ∀ i : Nat, ∃ j : Nat, (i : Int) < n → (j : Int) < SD ∧ kE ft j = (kf i).toInt := by
    intro i
    by_cases c : (i : Int) < n
    · obtain ⟨a, a0, a1, e, _⟩ := A i c
      have ea : ((a.toNat : Nat) : Int) = a := by omega
      exact ⟨a.toNat, fun _ => ⟨by omega, by rw [ea]; exact e⟩⟩
    · exact ⟨0, fun h => absurd h c⟩
  have exB : ∀ a : Nat, ∃ j : Nat, (a : Int) < SD → (j : Int) < n ∧ kE ft a = (kf j).toInt := by
    intro a
    by_cases c : (a : Int) < SD
    · obtain ⟨i, hi, e⟩ := B a (by omega) c
      exact ⟨i, fun _ => ⟨hi, e⟩⟩
    · exact ⟨0, fun h => absurd h c⟩
  obtain ⟨g, hg⟩ := Classical.axiomOfChoice exA
  obtain ⟨r, hr⟩ := Classical.axiomOfChoice exB
  have p1 := pigeon SD.toNat n.toNat g (fun i hi => by have := (hg i (by omega)).1; omega) (fun i j hi hj e => by
    have a := (hg i (by omega)).2
    have b := (hg j (by omega)).2
    rw [e, b] at a
    by_cases l : i < j
    · have := c2 i j l (by omega); omega
    · by_cases l2 : j < i
      · have := c2 j i l2 (by omega); omega
      · omega)
  have p2 := pigeon n.toNat SD.toNat r (fun i hi => by have := (hr i (by omega)).1; omega) (fun i j hi hj e => by
    have a := (hr i (by omega)).2
    have b := (hr j (by omega)).2
    rw [e, ← b] at a
    have := hs.2.1 i j (by omega) (by omega) (by omega) (by omega) a
    omega)
  omega
theorem lead_eq {D : Int → Int → Bool} {ft kf wf : Nat → Int32} {SD n : Int} {F : Int → Int → Int → Int → Int → Prop} (s0 : 0 ≤ SD) (hs : stOK D ft SD F) (hc : clOK D kf wf n F) {i a : Int} (i0 : 0 ≤ i) (i1 : i < n) (a0 : 0 ≤ a) (a1 : a < SD) (e : kE ft a = (kf i.toNat).toInt) : lead n kf wf i ↔ leadE ft SD a := by
  obtain ⟨en, A, B⟩ := st_cl_n s0 hs hc
  obtain ⟨c0, c1, c2, c3⟩ := hc
  have wr : ∀ (j : Nat) (b : Int), (j : Int) < n → 0 ≤ b → b < SD → kE ft b = (kf j).toInt → sE ft b 5 = (wf j).toInt := by
    intro j b hj b0 b1 eb
    obtain ⟨a', a0', a1', e1, e2⟩ := A j hj
    have := hs.2.1 b a' b0 b1 a0' a1' (by rw [eb, e1])
    rw [this, e2]
  have inc : ∀ j k : Nat, (j : Int) < n → (k : Int) < n → (j < k ↔ (kf j).toInt < (kf k).toInt) := by
    intro j k hj hk
    constructor
    · intro h; exact c2 j k h hk
    · intro h
      by_cases c : j < k
      · exact c
      · by_cases d : k < j
        · have := c2 k j d hj; omega
        · have : j = k := by omega
          rw [this] at h; omega
  have mm : ∀ (j : Nat) (b : Int), (j : Int) < n → 0 ≤ b → b < SD → kE ft b = (kf j).toInt → (comm (kf j).toInt (kf i.toNat).toInt ↔ mE ft a b) := by
    intro j b hj b0 b1 eb
    rw [← eb, ← e, comm_parts (bE_bnd (hs.1 b b0 b1).1) (bE_bnd (hs.1 a a0 a1).1) (kE_key ft b) (kE_key ft a)]
    unfold mE lE
    constructor <;> (intro h; exact ⟨h.2.1, h.1, h.2.2.2, h.2.2.1⟩)
  have wi := wr i.toNat a (by omega) a0 a1 e
  constructor
  · intro l b b0 b1 ⟨ne, me, bt⟩
    obtain ⟨j, hj, ej⟩ := B b b0 b1
    have wj := wr j b hj b0 b1 ej
    refine l j (by omega) hj ⟨?_, ?_⟩
    · have ej' : ((j : Int)).toNat = j := by omega
      unfold better
      rw [ej', ← wj, ← wi]
      rcases bt with t | ⟨t1, t2⟩
      · exact Or.inl t
      · refine Or.inr ⟨t1, ?_⟩
        have := (inc j i.toNat hj (by omega)).mpr (by rw [← ej, ← e]; exact t2)
        omega
    · have ej' : ((j : Int)).toNat = j := by omega
      rw [ej']; exact (mm j b hj b0 b1 ej).mpr me
  · intro l o o0 o1 ⟨bt, cm⟩
    obtain ⟨b, b0, b1, eb, wb⟩ := A o.toNat (by omega)
    refine l b b0 b1 ⟨?_, (mm o.toNat b (by omega) b0 b1 eb).mp cm, ?_⟩
    · intro q
      rw [q] at eb
      rw [e] at eb
      unfold better at bt
      have h1 := inc i.toNat o.toNat (by omega) (by omega)
      have h2 := inc o.toNat i.toNat (by omega) (by omega)
      have : i.toNat = o.toNat := by omega
      have io : o = i := by omega
      rw [io] at bt; omega
    · unfold better at bt
      rw [← wb, ← wi] at bt
      rcases bt with t | ⟨t1, t2⟩
      · exact Or.inl t
      · refine Or.inr ⟨t1, ?_⟩
        have := (inc o.toNat i.toNat (by omega) (by omega)).mp (by omega)
        rw [eb, e]; exact this
theorem leaders_eq {D : Int → Int → Bool} {ft ff kf wf kg wg : Nat → Int32} {SD n nf k : Int} {F : Int → Int → Int → Int → Int → Prop} (s0 : 0 ≤ SD) (f0 : 0 ≤ nf) (hs : stOK D ft SD F) (hc : clOK D kf wf n F) (hf : foAll ft SD ff nf) (hl : ldI kf wf n kg wg k n) :
    nf = k ∧ ∀ a : Nat, (a : Int) < k → kE ff a = (kg a).toInt ∧ sE ff a 5 = (wg a).toInt ∧ bE ff a := by
  obtain ⟨en, A, B⟩ := st_cl_n s0 hs hc
  obtain ⟨l0, l1, l2, l3⟩ := hl
  obtain ⟨f1, f2, f3⟩ := hf
  have cw : ∀ (i : Int) (b : Int), 0 ≤ i → i < n → 0 ≤ b → b < SD → kE ft b = (kf i.toNat).toInt → sE ft b 5 = (wf i.toNat).toInt := by
    intro i b i0 i1 b0 b1 eb
    obtain ⟨a', a0', a1', e1, e2⟩ := A i.toNat (by omega)
    have := hs.2.1 b a' b0 b1 a0' a1' (by rw [eb, e1])
    rw [this, e2]
  have r := rows_eq (f := fun t => kE ff t) (g := fun t => (kg t).toInt) (n := nf.toNat) (m := k.toNat) (fun i j ij jn => f2 i j (by omega) (by omega) (by omega)) (fun i j ij jn => l2 i j ij (by omega))
    (fun i hi => by
      obtain ⟨b, b0, b1, lb, cp⟩ := f1 i (by omega) (by omega)
      obtain ⟨j, hj, ej⟩ := B b b0 b1
      have ej' : ((j : Int)).toNat = j := by omega
      obtain ⟨a, a1, ea⟩ := l3 j (by omega) hj ((lead_eq s0 hs hc (i := j) (a := b) (by omega) hj b0 b1 (by rw [ej']; exact ej)).mpr lb)
      refine ⟨a, by omega, ?_⟩
      show kE ff i = (kg a).toInt
      rw [cp_k cp, ej, ea, ej'])
    (fun j hj => by
      obtain ⟨i, i0, i1, li, e, _⟩ := l1 j (by omega)
      obtain ⟨b, b0, b1, eb, _⟩ := A i.toNat (by omega)
      obtain ⟨a, a0, a1, ea⟩ := f3 b b0 b1 ((lead_eq s0 hs hc i0 i1 b0 b1 eb).mp li)
      have ea' : ((a.toNat : Nat) : Int) = a := by omega
      refine ⟨a.toNat, by omega, ?_⟩
      show (kg j).toInt = kE ff (a.toNat : Nat)
      rw [ea', ea, eb, e])
  refine ⟨by omega, fun a ha => ?_⟩
  have ka := r.2 a (by omega)
  refine ⟨ka, ?_, ?_⟩
  · obtain ⟨b, b0, b1, lb, cp⟩ := f1 a (by omega) (by omega)
    obtain ⟨i, i0, i1, li, e, ew⟩ := l1 a ha
    rw [cp 5 (by omega) (by omega), ew]
    exact cw i b i0 i1 b0 b1 (by rw [← e, ← ka, cp_k cp])
  · obtain ⟨b, b0, b1, lb, cp⟩ := f1 a (by omega) (by omega)
    have t := (hs.1 b b0 b1).1
    unfold bE at t ⊢
    rw [cp 0 (by omega) (by omega), cp 1 (by omega) (by omega), cp 2 (by omega) (by omega), cp 3 (by omega) (by omega), cp 4 (by omega) (by omega), cp 5 (by omega) (by omega)]
    exact t
