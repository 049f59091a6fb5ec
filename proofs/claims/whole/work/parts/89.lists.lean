/-! the finder's list of places: in order of their keys, none twice -/
def keyI (x y m v q : Int) : Int := y * 4194304 + x * 8192 + m * 256 + v * 4 + q
def bnd5 (x y m v q : Int) : Prop := 0 ≤ x ∧ x ≤ 511 ∧ 0 ≤ y ∧ y ≤ 511 ∧ 1 ≤ m ∧ m ≤ 16 ∧ 1 ≤ v ∧ v ≤ 40 ∧ 0 ≤ q ∧ q ≤ 3
theorem key_inj {x y m v q x' y' m' v' q' : Int} (a : bnd5 x y m v q) (b : bnd5 x' y' m' v' q') (e : keyI x y m v q = keyI x' y' m' v' q') : x = x' ∧ y = y' ∧ m = m' ∧ v = v' ∧ q = q' := by
  unfold bnd5 at a b; unfold keyI at e; omega
theorem key_b {x y m v q : Int} (a : bnd5 x y m v q) : 0 ≤ keyI x y m v q ∧ keyI x y m v q < 2147483648 := by
  unfold bnd5 at a; unfold keyI; omega
def clOK (D : Int → Int → Bool) (kf wf : Nat → Int32) (n : Int) (F : Int → Int → Int → Int → Int → Prop) : Prop :=
  (0 ≤ n ∧ n ≤ 300) ∧
  (∀ a : Nat, (a : Int) < n → ∃ x y m v q, F x y m v q ∧ bnd5 x y m v q ∧ (kf a).toInt = keyI x y m v q ∧ (wf a).toInt = TW D x y m v q ∧ TW D x y m v q ≤ 500) ∧
  (∀ a b : Nat, a < b → (b : Int) < n → (kf a).toInt < (kf b).toInt) ∧
  (∀ x y m v q, F x y m v q → ∃ a : Nat, (a : Int) < n ∧ (kf a).toInt = keyI x y m v q)
theorem cl_congr {D : Int → Int → Bool} {kf wf : Nat → Int32} {n : Int} {F G : Int → Int → Int → Int → Int → Prop} (h : clOK D kf wf n F) (e : ∀ x y m v q, F x y m v q ↔ G x y m v q) : clOK D kf wf n G := by
  obtain ⟨h0, h1, h2, h3⟩ := h
  refine ⟨h0, fun a ha => ?_, h2, fun x y m v q g => h3 x y m v q ((e _ _ _ _ _).mpr g)⟩
  obtain ⟨x, y, m, v, q, f, r⟩ := h1 a ha
  exact ⟨x, y, m, v, q, (e _ _ _ _ _).mp f, r⟩
theorem cl_0 {D : Int → Int → Bool} {kf wf : Nat → Int32} : clOK D kf wf 0 (fun _ _ _ _ _ => False) :=
  ⟨by omega, fun a ha => by omega, fun a b _ hb => by omega, fun _ _ _ _ _ f => f.elim⟩
theorem cl_add {D : Int → Int → Bool} {kf wf kg wg : Nat → Int32} {n : Int} {F : Int → Int → Int → Int → Int → Prop} {a w : Int32} {x y m v q : Int} (h : clOK D kf wf n F) (hn : n < 300) (hi : isIns n a w kf wf kg wg)
    (ha : a.toInt = keyI x y m v q) (hw : w.toInt = TW D x y m v q) (ht : TW D x y m v q ≤ 500) (hb : bnd5 x y m v q) (hF : ¬ F x y m v q) : clOK D kg wg (n + 1) (fun x' y' m' v' q' => F x' y' m' v' q' ∨ (x' = x ∧ y' = y ∧ m' = m ∧ v' = v ∧ q' = q)) := by
  obtain ⟨h0, h1, h2, h3⟩ := h
  obtain ⟨p, pn, lo, pk, pw, hi', lst⟩ := hi
  have nk : ∀ i : Nat, (i : Int) < n → (kf i).toInt ≠ a.toInt := by
    intro i hi e
    obtain ⟨x', y', m', v', q', f, b, k, _⟩ := h1 i hi
    rw [k, ha] at e
    obtain ⟨rfl, rfl, rfl, rfl, rfl⟩ := key_inj b hb e
    exact hF f
  have below : ∀ i : Nat, i < p → (kf i).toInt < a.toInt := by
    intro i hip
    rcases lst with e | e
    · omega
    · have e' : ¬ a.toInt < (kf (p - 1)).toInt := fun t => e (Int32.lt_iff_toInt_lt.mpr t)
      have := nk (p - 1) (by omega)
      by_cases c : i = p - 1
      · rw [c]; omega
      · have := h2 i (p - 1) (by omega) (by omega); omega
  have above : ∀ i : Nat, p ≤ i → (i : Int) < n → a.toInt < (kf i).toInt := fun i hp hn => Int32.lt_iff_toInt_lt.mp (hi' i hp hn).2.2
  -- what stands at each place
  have at1 : ∀ i : Nat, i < p → kg i = kf i ∧ wg i = wf i := lo
  have at3 : ∀ i : Nat, p < i → (i : Int) < n + 1 → kg i = kf (i - 1) ∧ wg i = wf (i - 1) := by
    intro i hp hn
    have t := hi' (i - 1) (by omega) (by omega)
    have e : i - 1 + 1 = i := by omega
    rw [e] at t
    exact ⟨t.1, t.2.1⟩
  refine ⟨by omega, ?_, ?_, ?_⟩
  · intro i hin
    by_cases c : i = p
    · rw [c, pk, pw]
      exact ⟨x, y, m, v, q, Or.inr ⟨rfl, rfl, rfl, rfl, rfl⟩, hb, ha, hw, ht⟩
    · by_cases d : i < p
      · obtain ⟨x', y', m', v', q', f, r⟩ := h1 i (by omega)
        rw [(at1 i d).1, (at1 i d).2]
        exact ⟨x', y', m', v', q', Or.inl f, r⟩
      · obtain ⟨x', y', m', v', q', f, r⟩ := h1 (i - 1) (by omega)
        rw [(at3 i (by omega) hin).1, (at3 i (by omega) hin).2]
        exact ⟨x', y', m', v', q', Or.inl f, r⟩
  · intro i j hij hjn
    by_cases c : j = p
    · rw [c, pk, (at1 i (by omega)).1]; exact below i (by omega)
    · by_cases d : j < p
      · rw [(at1 i (by omega)).1, (at1 j d).1]; exact h2 i j hij (by omega)
      · rw [(at3 j (by omega) hjn).1]
        by_cases f : i = p
        · rw [f, pk]; exact above (j - 1) (by omega) (by omega)
        · by_cases g : i < p
          · rw [(at1 i g).1]
            exact h2 i (j - 1) (by omega) (by omega)
          · rw [(at3 i (by omega) (by omega)).1]
            exact h2 (i - 1) (j - 1) (by omega) (by omega)
  · intro x' y' m' v' q' g
    rcases g with g | ⟨rfl, rfl, rfl, rfl, rfl⟩
    · obtain ⟨i, hin, e⟩ := h3 x' y' m' v' q' g
      by_cases c : i < p
      · exact ⟨i, by omega, by rw [(at1 i c).1]; exact e⟩
      · exact ⟨i + 1, by omega, by rw [(at3 (i + 1) (by omega) (by omega)).1]; exact e⟩
    · exact ⟨p, by omega, by rw [pk]; exact ha⟩
/-- too many -/
def over (D : Int → Int → Bool) (AL : Int → Int → Int → Int → Int → Prop) : Prop := ∃ (kf wf : Nat → Int32) (F2 : Int → Int → Int → Int → Int → Prop), clOK D kf wf 300 F2 ∧ (∀ x y m v q, F2 x y m v q → AL x y m v q) ∧ ∃ x y m v q, AL x y m v q ∧ bnd5 x y m v q ∧ ¬ F2 x y m v q
/-- what the search has found so far: all of F, or too many -/
def SR (D : Int → Int → Bool) (AL F : Int → Int → Int → Int → Int → Prop) (tm : Int32) (kf wf : Nat → Int32) (n : Int) : Prop := (0 ≤ n ∧ n ≤ 300) ∧ ((tm = 0 ∧ clOK D kf wf n F) ∨ (tm = 1 ∧ over D AL))
theorem SR_congr {D : Int → Int → Bool} {AL F G : Int → Int → Int → Int → Int → Prop} {tm : Int32} {kf wf : Nat → Int32} {n : Int} (h : SR D AL F tm kf wf n) (e : ∀ x y m v q, F x y m v q ↔ G x y m v q) : SR D AL G tm kf wf n := by
  obtain ⟨b, h | h⟩ := h
  · exact ⟨b, Or.inl ⟨h.1, cl_congr h.2 e⟩⟩
  · exact ⟨b, Or.inr h⟩
/-- two rows in order with the same numbers are one row -/
theorem rows_eq {f g : Nat → Int} {n m : Nat} (hf : ∀ i j, i < j → j < n → f i < f j) (hg : ∀ i j, i < j → j < m → g i < g j) (a : ∀ i, i < n → ∃ j, j < m ∧ f i = g j) (b : ∀ j, j < m → ∃ i, i < n ∧ g j = f i) : n = m ∧ ∀ i, i < n → f i = g i := by
  have key : ∀ i : Nat, (i < n → i < m ∧ f i = g i) ∧ (i < m → i < n ∧ f i = g i) := by
    intro i
    induction i using Nat.strongRecOn with
    | _ i ih =>
      have up : i < n → i < m ∧ ∃ j, i ≤ j ∧ j < m ∧ f i = g j := by
        intro hi
        obtain ⟨j, hj, e⟩ := a i hi
        by_cases c : j < i
        · have t := (ih j c).2 hj
          have := hf j i c hi
          omega
        · exact ⟨by omega, j, by omega, hj, e⟩
      have dn : i < m → i < n ∧ ∃ j, i ≤ j ∧ j < n ∧ g i = f j := by
        intro hi
        obtain ⟨j, hj, e⟩ := b i hi
        by_cases c : j < i
        · have t := (ih j c).1 hj
          have := hg j i c hi
          omega
        · exact ⟨by omega, j, by omega, hj, e⟩
      have eq : i < n → i < m → f i = g i := by
        intro h1 h2
        obtain ⟨_, j, j1, j2, e⟩ := up h1
        obtain ⟨_, k, k1, k2, e'⟩ := dn h2
        have l1 : g i ≤ g j := by
          by_cases c : i = j
          · rw [c]; exact Int.le_refl _
          · exact Int.le_of_lt (hg i j (by omega) j2)
        have l2 : f i ≤ f k := by
          by_cases c : i = k
          · rw [c]; exact Int.le_refl _
          · exact Int.le_of_lt (hf i k (by omega) k2)
        omega
      exact ⟨fun h => ⟨(up h).1, eq h (up h).1⟩, fun h => ⟨(dn h).1, eq (dn h).1 h⟩⟩
  have nm : n = m := by
    by_cases c : n < m
    · have := (key n).2 c; omega
    · by_cases d : m < n
      · have := (key m).1 d; omega
      · omega
  exact ⟨nm, fun i hi => ((key i).1 hi).2⟩
theorem kE_key (ft : Nat → Int32) (a : Int) : kE ft a = keyI (sE ft a 0) (sE ft a 1) (sE ft a 2) (sE ft a 3) (sE ft a 4) := rfl
theorem bE_bnd {ft : Nat → Int32} {a : Int} (h : bE ft a) : bnd5 (sE ft a 0) (sE ft a 1) (sE ft a 2) (sE ft a 3) (sE ft a 4) := by
  unfold bE at h; unfold bnd5; omega
/-- the finder has them all in no more than 300: so there are not more -/
theorem cl_few {D : Int → Int → Bool} {kf wf : Nat → Int32} {n : Int} {W H LIM le mo : Int} (h : clOK D kf wf n (alF D W H LIM le mo)) (hm : many D W H LIM le mo) (hb : ∀ x y m v q, alF D W H LIM le mo x y m v q → bnd5 x y m v q) : False := by
  obtain ⟨f, F2, st, sub, x, y, m, v, q, al, nf⟩ := hm
  obtain ⟨h0, h1, h2, h3⟩ := h
  have ex : ∀ i : Nat, ∃ j : Nat, i < 301 → (j : Int) < n ∧ (kf j).toInt = if i < 300 then kE f i else keyI x y m v q := by
    intro i
    by_cases c : i < 300
    · have t := st.1 i (by omega) (by omega)
      obtain ⟨j, j1, j2⟩ := h3 _ _ _ _ _ (sub _ _ _ _ _ t.2.1)
      exact ⟨j, fun _ => ⟨j1, by rw [if_pos c, j2]; rfl⟩⟩
    · obtain ⟨j, j1, j2⟩ := h3 _ _ _ _ _ al
      exact ⟨j, fun _ => ⟨j1, by rw [if_neg c, j2]⟩⟩
  obtain ⟨g, hg⟩ := Classical.axiomOfChoice ex
  have p := pigeon n.toNat 301 g (fun i hi => by have := (hg i hi).1; omega) (fun i j hi hj e => by
    have a := (hg i hi).2
    have b := (hg j hj).2
    rw [e, b] at a
    have key : ∀ t : Nat, t < 300 → kE f t ≠ keyI x y m v q := by
      intro t ht e
      have s := st.1 t (by omega) (by omega)
      rw [kE_key] at e
      obtain ⟨e0, e1, e2, e3, e4⟩ := key_inj (bE_bnd s.1) (hb _ _ _ _ _ al) e
      have f2 := s.2.1
      rw [e0, e1, e2, e3, e4] at f2
      exact nf f2
    by_cases c : i < 300
    · by_cases d : j < 300
      · rw [if_pos c, if_pos d] at a
        have := st.2.1 i j (by omega) (by omega) (by omega) (by omega) a.symm
        omega
      · rw [if_pos c, if_neg d] at a; exact absurd a.symm (key i c)
    · by_cases d : j < 300
      · rw [if_neg c, if_pos d] at a; exact absurd a (key j d)
      · omega)
  omega
/-- the reference has them all in no more than 300: so the finder doesn't find more -/
theorem st_few {D : Int → Int → Bool} {ft : Nat → Int32} {n : Int} {AL : Int → Int → Int → Int → Int → Prop} (h : stOK D ft n AL) (hn : n ≤ 300) (hm : over D AL) : False := by
  obtain ⟨kf, wf, F2, cl, sub, x, y, m, v, q, al, bb, nf⟩ := hm
  obtain ⟨c0, c1, c2, c3⟩ := cl
  have ex : ∀ i : Nat, ∃ j : Nat, i < 301 → (j : Int) < n ∧ kE ft j = if i < 300 then (kf i).toInt else keyI x y m v q := by
    intro i
    by_cases c : i < 300
    · obtain ⟨x', y', m', v', q', f, b, k, _⟩ := c1 i (by omega)
      obtain ⟨a, a0, a1, e0, e1, e2, e3, e4⟩ := h.2.2 _ _ _ _ _ (sub _ _ _ _ _ f)
      refine ⟨a.toNat, fun _ => ⟨by omega, ?_⟩⟩
      have ea : ((a.toNat : Nat) : Int) = a := by omega
      rw [if_pos c, k, ea, kE_key, e0, e1, e2, e3, e4]
    · obtain ⟨a, a0, a1, e0, e1, e2, e3, e4⟩ := h.2.2 _ _ _ _ _ al
      refine ⟨a.toNat, fun _ => ⟨by omega, ?_⟩⟩
      have ea : ((a.toNat : Nat) : Int) = a := by omega
      rw [if_neg c, ea, kE_key, e0, e1, e2, e3, e4]
  obtain ⟨g, hg⟩ := Classical.axiomOfChoice ex
  have p := pigeon n.toNat 301 g (fun i hi => by have := (hg i hi).1; omega) (fun i j hi hj e => by
    have a := (hg i hi).2
    have b := (hg j hj).2
    rw [e, b] at a
    have key : ∀ t : Nat, t < 300 → (kf t).toInt ≠ keyI x y m v q := by
      intro t ht e
      obtain ⟨x', y', m', v', q', f, b, k, _⟩ := c1 t (by omega)
      rw [k] at e
      obtain ⟨rfl, rfl, rfl, rfl, rfl⟩ := key_inj b bb e
      exact nf f
    by_cases c : i < 300
    · by_cases d : j < 300
      · rw [if_pos c, if_pos d] at a
        by_cases l : i < j
        · have := c2 i j l (by omega); omega
        · by_cases l2 : j < i
          · have := c2 j i l2 (by omega); omega
          · omega
      · rw [if_pos c, if_neg d] at a; exact absurd a.symm (key i c)
    · by_cases d : j < 300
      · rw [if_neg c, if_pos d] at a; exact absurd a (key j d)
      · omega)
  omega
