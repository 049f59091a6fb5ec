/-! the reference's order: leaders by their keys -/
theorem pigeon : ∀ (m n : Nat) (f : Nat → Nat), (∀ i, i < n → f i < m) → (∀ i j, i < n → j < n → f i = f j → i = j) → n ≤ m
  | 0, n, f, h, _ => by
    cases n with
    | zero => exact Nat.le_refl _
    | succ n => exact absurd (h 0 (by omega)) (by omega)
  | m + 1, n, f, h, inj => by
    cases n with
    | zero => omega
    | succ n =>
      have key := pigeon m n (fun i => if f i = m then f n else f i) (fun i hi => by
        have a := h i (by omega)
        have b := h n (by omega)
        by_cases c : f i = m
        · simp only [if_pos c]
          have : f n ≠ m := fun d => by have := inj i n (by omega) (by omega) (by rw [c, d]); omega
          omega
        · simp only [if_neg c]; omega) (fun i j hi hj e => by
        by_cases c : f i = m
        · by_cases d : f j = m
          · exact inj i j (by omega) (by omega) (by rw [c, d])
          · simp only [if_pos c, if_neg d] at e
            have := inj n j (by omega) (by omega) e
            omega
        · by_cases d : f j = m
          · simp only [if_neg c, if_pos d] at e
            have := inj i n (by omega) (by omega) e
            omega
          · simp only [if_neg c, if_neg d] at e
            exact inj i j (by omega) (by omega) e)
      omega
def cpE (ff ft : Nat → Int32) (a b : Int) : Prop := ∀ k, 0 ≤ k → k ≤ 5 → sE ff a k = sE ft b k
theorem cp_k {ff ft : Nat → Int32} {a b : Int} (h : cpE ff ft a b) : kE ff a = kE ft b := by
  unfold kE; rw [h 0 (by omega) (by omega), h 1 (by omega) (by omega), h 2 (by omega) (by omega), h 3 (by omega) (by omega), h 4 (by omega) (by omega)]
/-- n leaders are found, in order; all up to last -/
def foOK (ft : Nat → Int32) (SD : Int) (ff : Nat → Int32) (n last : Int) : Prop :=
  (∀ a, 0 ≤ a → a < n → ∃ b, 0 ≤ b ∧ b < SD ∧ leadE ft SD b ∧ cpE ff ft a b) ∧ (∀ a b, 0 ≤ a → a < b → b < n → kE ff a < kE ff b) ∧
  ((last = -1 ∧ n = 0) ∨ (0 ≤ last ∧ last < SD ∧ (∀ a, 0 ≤ a → a < n → kE ff a ≤ kE ft last) ∧ ∀ b, 0 ≤ b → b < SD → leadE ft SD b → kE ft b ≤ kE ft last → ∃ a, 0 ≤ a ∧ a < n ∧ kE ff a = kE ft b))
def cand (ft : Nat → Int32) (SD last b : Int) : Prop := (last < 0 ∨ kE ft last < kE ft b) ∧ leadE ft SD b
def best (ft : Nat → Int32) (SD last next za : Int) : Prop := (next = -1 ∧ ∀ b, 0 ≤ b → b < za → ¬ cand ft SD last b) ∨ (0 ≤ next ∧ next < za ∧ cand ft SD last next ∧ ∀ b, 0 ≤ b → b < za → cand ft SD last b → kE ft next ≤ kE ft b)
theorem best_no {ft : Nat → Int32} {SD last next za : Int} (h : best ft SD last next za) (n : ¬ cand ft SD last za) : best ft SD last next (za + 1) := by
  unfold best at h ⊢
  rcases h with ⟨e, h⟩ | ⟨a, b, c, h⟩
  · left; refine ⟨e, fun b b0 b1 => ?_⟩
    by_cases q : b = za
    · rw [q]; exact n
    · exact h b b0 (by omega)
  · right; refine ⟨a, by omega, c, fun b b0 b1 d => ?_⟩
    by_cases q : b = za
    · rw [q] at d; exact absurd d n
    · exact h b b0 (by omega) d
theorem best_keep {ft : Nat → Int32} {SD last next za : Int} (h : best ft SD last next za) (n0 : ¬ next < 0) (n : ¬ kE ft za < kE ft next) : best ft SD last next (za + 1) := by
  unfold best at h ⊢
  rcases h with ⟨e, h⟩ | ⟨a, b, c, h⟩
  · omega
  · right; refine ⟨a, by omega, c, fun b b0 b1 d => ?_⟩
    by_cases q : b = za
    · rw [q]; omega
    · exact h b b0 (by omega) d
theorem best_new {ft : Nat → Int32} {SD last next za : Int} (h : best ft SD last next za) (z0 : 0 ≤ za) (n : next < 0 ∨ kE ft za < kE ft next) (y : cand ft SD last za) : best ft SD last za (za + 1) := by
  unfold best at h ⊢
  right
  refine ⟨z0, by omega, y, fun b b0 b1 d => ?_⟩
  by_cases q : b = za
  · rw [q]; exact Int.le_refl _
  · rcases h with ⟨e, h⟩ | ⟨a, b2, c, h⟩
    · exact absurd d (h b b0 (by omega))
    · have := h b b0 (by omega) d; omega
theorem fo_few {D : Int → Int → Bool} {ft ff : Nat → Int32} {SD n last : Int} {F : Int → Int → Int → Int → Int → Prop} (hs : stOK D ft SD F) (h : foOK ft SD ff n last) (n0 : 0 ≤ n) (s0 : 0 ≤ SD) {next : Int} (x0 : 0 ≤ next) (x1 : next < SD) (c : cand ft SD last next) : n + 1 ≤ SD := by
  have pick : ∀ a : Nat, ∃ b : Nat, (a : Int) < n → (b : Int) < SD ∧ cpE ff ft a b := by
    intro a
    by_cases q : (a : Int) < n
    · obtain ⟨b, b0, b1, _, e⟩ := h.1 a (by omega) q
      refine ⟨b.toNat, fun _ => ⟨by omega, ?_⟩⟩
      have : ((b.toNat : Nat) : Int) = b := by omega
      rw [this]; exact e
    · exact ⟨0, fun r => absurd r q⟩
  have below : ∀ a : Int, 0 ≤ a → a < n → kE ff a < kE ft next := by
    intro a a0 a1
    rcases h.2.2 with ⟨_, e⟩ | ⟨l0, _, le, _⟩
    · omega
    · have := le a a0 a1
      rcases c.1 with q | q
      · omega
      · omega
  have f := pigeon SD.toNat (n + 1).toNat (fun a => if (a : Int) < n then Classical.choose (pick a) else next.toNat) (fun a ha => by
    by_cases q : (a : Int) < n
    · simp only [if_pos q]; have := (Classical.choose_spec (pick a) q).1; omega
    · simp only [if_neg q]; omega) (fun a b ha hb e => by
    by_cases p : (a : Int) < n
    · by_cases q : (b : Int) < n
      · simp only [if_pos p, if_pos q] at e
        have ea := cp_k (Classical.choose_spec (pick a) p).2
        have eb := cp_k (Classical.choose_spec (pick b) q).2
        rw [e, ← eb] at ea
        rcases Nat.lt_trichotomy a b with r | r | r
        · have := h.2.1 a b (by omega) (by omega) q; omega
        · exact r
        · have := h.2.1 b a (by omega) (by omega) p; omega
      · simp only [if_pos p, if_neg q] at e
        have ea := cp_k (Classical.choose_spec (pick a) p).2
        have t : ((next.toNat : Nat) : Int) = next := by omega
        rw [e, t] at ea
        have := below a (by omega) p; omega
    · by_cases q : (b : Int) < n
      · simp only [if_neg p, if_pos q] at e
        have eb := cp_k (Classical.choose_spec (pick b) q).2
        have t : ((next.toNat : Nat) : Int) = next := by omega
        rw [← e, t] at eb
        have := below b (by omega) q; omega
      · omega)
  omega
theorem fo_add {D : Int → Int → Bool} {ft ff f2 : Nat → Int32} {SD n last next : Int} {F : Int → Int → Int → Int → Int → Prop} (hs : stOK D ft SD F) (h : foOK ft SD ff n last) (n0 : 0 ≤ n) (lo : ∀ i : Nat, (i : Int) < 6 * n → f2 i = ff i) (cp : cpE f2 ft n next) (b : best ft SD last next SD) (x0 : 0 ≤ next) : foOK ft SD f2 (n + 1) next := by
  unfold best at b
  rcases b with ⟨e, _⟩ | ⟨_, x1, c, mn⟩
  · omega
  have old : ∀ a : Int, 0 ≤ a → a < n → ∀ k, 0 ≤ k → k ≤ 5 → sE f2 a k = sE ff a k := fun a a0 a1 k k0 k1 => by unfold sE; rw [lo _ (by omega)]
  have oldk : ∀ a : Int, 0 ≤ a → a < n → kE f2 a = kE ff a := fun a a0 a1 => cp_k (fun k k0 k1 => old a a0 a1 k k0 k1)
  have nk : kE f2 n = kE ft next := cp_k cp
  have below : ∀ a : Int, 0 ≤ a → a < n → kE ff a < kE ft next := by
    intro a a0 a1
    rcases h.2.2 with ⟨_, e⟩ | ⟨l0, _, le, _⟩
    · omega
    · have := le a a0 a1
      rcases c.1 with q | q
      · omega
      · omega
  refine ⟨?_, ?_, Or.inr ⟨x0, x1, ?_, ?_⟩⟩
  · intro a a0 a1
    by_cases q : a = n
    · rw [q]; exact ⟨next, x0, x1, c.2, cp⟩
    · obtain ⟨b, b0, b1, l, e⟩ := h.1 a a0 (by omega)
      exact ⟨b, b0, b1, l, fun k k0 k1 => by rw [old a a0 (by omega) k k0 k1]; exact e k k0 k1⟩
  · intro a b a0 ab b1
    by_cases q : b = n
    · rw [q, nk, oldk a a0 (by omega)]; exact below a a0 (by omega)
    · rw [oldk a a0 (by omega), oldk b (by omega) (by omega)]; exact h.2.1 a b a0 ab (by omega)
  · intro a a0 a1
    by_cases q : a = n
    · rw [q, nk]; exact Int.le_refl _
    · rw [oldk a a0 (by omega)]; have := below a a0 (by omega); omega
  · intro b b0 b1 l le
    by_cases q : kE ft b = kE ft next
    · exact ⟨n, n0, by omega, by rw [nk, q]⟩
    · by_cases r : cand ft SD last b
      · have := mn b b0 b1 r; omega
      · rcases h.2.2 with ⟨e, _⟩ | ⟨l0, l1, _, all⟩
        · exact absurd ⟨Or.inl (by omega), l⟩ r
        · have : ¬ kE ft last < kE ft b := fun w => r ⟨Or.inr w, l⟩
          obtain ⟨a, a0, a1, e⟩ := all b b0 b1 l (by omega)
          exact ⟨a, a0, by omega, by rw [oldk a a0 a1, e]⟩
/-- all leaders are found -/
def foAll (ft : Nat → Int32) (SD : Int) (ff : Nat → Int32) (n : Int) : Prop :=
  (∀ a, 0 ≤ a → a < n → ∃ b, 0 ≤ b ∧ b < SD ∧ leadE ft SD b ∧ cpE ff ft a b) ∧ (∀ a b, 0 ≤ a → a < b → b < n → kE ff a < kE ff b) ∧ ∀ b, 0 ≤ b → b < SD → leadE ft SD b → ∃ a, 0 ≤ a ∧ a < n ∧ kE ff a = kE ft b
theorem fo_end {ft ff : Nat → Int32} {SD n last next : Int} (h : foOK ft SD ff n last) (b : best ft SD last next SD) (x : next < 0) : foAll ft SD ff n := by
  unfold best at b
  rcases b with ⟨_, no⟩ | ⟨x0, _⟩
  · refine ⟨h.1, h.2.1, fun b b0 b1 l => ?_⟩
    have nb := no b b0 b1
    rcases h.2.2 with ⟨e, _⟩ | ⟨l0, l1, _, all⟩
    · exact absurd ⟨Or.inl (by omega), l⟩ nb
    · have : ¬ kE ft last < kE ft b := fun w => nb ⟨Or.inr w, l⟩
      exact all b b0 b1 l (by omega)
  · omega
theorem fo_0 (ft : Nat → Int32) (SD : Int) (ff : Nat → Int32) : foOK ft SD ff 0 (-1) := ⟨fun a a0 a1 => by omega, fun a b a0 ab b1 => by omega, Or.inl ⟨rfl, rfl⟩⟩
theorem fo_congr {ft f1 f2 : Nat → Int32} {SD n : Int} (h : foAll ft SD f1 n) (lo : ∀ i : Nat, (i : Int) < 6 * n → f2 i = f1 i) : foAll ft SD f2 n := by
  have old : ∀ a : Int, 0 ≤ a → a < n → ∀ k, 0 ≤ k → k ≤ 5 → sE f2 a k = sE f1 a k := fun a a0 a1 k k0 k1 => by unfold sE; rw [lo _ (by omega)]
  have oldk : ∀ a : Int, 0 ≤ a → a < n → kE f2 a = kE f1 a := fun a a0 a1 => cp_k (fun k k0 k1 => old a a0 a1 k k0 k1)
  refine ⟨?_, ?_, ?_⟩
  · intro a a0 a1
    obtain ⟨b, b0, b1, l, e⟩ := h.1 a a0 a1
    exact ⟨b, b0, b1, l, fun k k0 k1 => by rw [old a a0 a1 k k0 k1]; exact e k k0 k1⟩
  · intro a b a0 ab b1
    rw [oldk a a0 (by omega), oldk b (by omega) b1]; exact h.2.1 a b a0 ab b1
  · intro b b0 b1 l
    obtain ⟨a, a0, a1, e⟩ := h.2.2 b b0 b1 l
    exact ⟨a, a0, a1, by rw [oldk a a0 a1, e]⟩
