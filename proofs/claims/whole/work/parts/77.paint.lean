/-! turning dots word by word -/
theorem fl_same {D : Int → Int → Bool} {W H x y fr : Int} {mask bits : Int64} (y0 : 0 ≤ y) (y1 : y < H) (x0 : -64 < x) (ef : fr = max x 0) (hb : ∀ i : Nat, i < 64 → lb bits i = (decide (fr + (i : Int) < W) && lb mask ((fr - x).toNat + i))) :
    flD D W H x y mask 64 = fun a c => D a c ^^ (decide (c = y ∧ fr ≤ a ∧ a < fr + 64) && lb bits (a - fr).toNat) := by
  funext a c
  unfold flD
  congr 1
  by_cases q : c = y ∧ fr ≤ a ∧ a < fr + 64
  · obtain ⟨rfl, q1, q2⟩ := q
    have e : (fr - x).toNat + (a - fr).toNat = (a - x).toNat := by omega
    have e2 : fr + (((a - fr).toNat : Nat) : Int) = a := by omega
    rw [decide_eq_true (p := c = c ∧ fr ≤ a ∧ a < fr + 64) ⟨rfl, q1, q2⟩, Bool.true_and, hb _ (by omega), e, e2]
    by_cases r : a - x < 64
    · rw [decide_eq_true (p := c = c ∧ 0 ≤ a - x ∧ a - x < 64) ⟨rfl, by omega, r⟩, Bool.true_and]
      congr 1
      unfold onB
      apply decide_eq_decide.mpr; omega
    · rw [decide_eq_false (by omega), Bool.false_and, lb_big (by omega), Bool.and_false]
  · rw [decide_eq_false q, Bool.false_and]
    by_cases r : c = y ∧ 0 ≤ a - x ∧ a - x < 64
    · have o : onB W H a c = false := by unfold onB; exact decide_eq_false (by omega)
      rw [o, Bool.false_and, Bool.and_false]
    · rw [decide_eq_false r, Bool.false_and]
theorem nb_zero {f : Nat → Bool} : ∀ n : Nat, (∀ i, i < n → f i = false) → nb f n = 0
  | 0, _ => rfl
  | n + 1, h => by simp only [nb]; rw [nb_zero n (fun i hi => h i (by omega)), h n (by omega)]; rfl
theorem fl_count {W H x y fr : Int} {mask bits : Int64} (y0 : 0 ≤ y) (y1 : y < H) (x0 : -64 < x) (ef : fr = max x 0) (hb : ∀ i : Nat, i < 64 → lb bits i = (decide (fr + (i : Int) < W) && lb mask ((fr - x).toNat + i))) :
    nb (fun i => lb bits i) 64 = nb (flF W H x y mask) 64 := by
  obtain ⟨d, hd⟩ : ∃ d : Nat, (d : Int) = fr - x := ⟨(fr - x).toNat, by omega⟩
  have dl : d < 64 := by omega
  have ed : (fr - x).toNat = d := by omega
  have e64 : 64 = d + (64 - d) := by omega
  have e65 : 64 = (64 - d) + d := by omega
  have l : nb (fun i => lb bits i) 64 = nb (fun i => lb bits i) (64 - d) := by
    conv => lhs; rw [e65]
    rw [nb_split, nb_zero d (fun i hi => ?_), Int.add_zero]
    show lb bits (64 - d + i) = false
    rw [hb _ (by omega), ed, lb_big (by omega), Bool.and_false]
  have r : nb (flF W H x y mask) 64 = nb (fun i => flF W H x y mask (d + i)) (64 - d) := by
    conv => lhs; rw [e64]
    rw [nb_split, nb_zero d (fun i hi => ?_), Int.zero_add]
    unfold flF onB
    rw [decide_eq_false (by omega), Bool.false_and]
  rw [l, r]
  apply nb_congr
  intro i hi
  rw [hb i (by omega), ed]
  unfold flF onB
  congr 1
  apply decide_eq_decide.mpr; omega
theorem fl_none {D : Int → Int → Bool} {W H x y : Int} {mask : Int64} (h : y < 0 ∨ H ≤ y ∨ x ≤ -64 ∨ W ≤ x) : flD D W H x y mask 64 = D ∧ nb (flF W H x y mask) 64 = 0 := by
  constructor
  · funext a c
    unfold flD
    by_cases r : c = y ∧ 0 ≤ a - x ∧ a - x < 64
    · have o : onB W H a c = false := by unfold onB; exact decide_eq_false (by omega)
      rw [o, Bool.false_and, Bool.and_false, Bool.xor_false]
    · rw [decide_eq_false r, Bool.false_and, Bool.xor_false]
  · apply nb_zero
    intro i hi
    unfold flF onB
    rw [decide_eq_false (by omega), Bool.false_and]
theorem fl_zero {D : Int → Int → Bool} {W H x y fr : Int} {mask bits : Int64} (y0 : 0 ≤ y) (y1 : y < H) (x0 : -64 < x) (ef : fr = max x 0) (hb : ∀ i : Nat, i < 64 → lb bits i = (decide (fr + (i : Int) < W) && lb mask ((fr - x).toNat + i))) (z : bits = 0) :
    flD D W H x y mask 64 = D ∧ nb (flF W H x y mask) 64 = 0 := by
  rw [fl_same y0 y1 x0 ef hb, ← fl_count y0 y1 x0 ef hb, z]
  constructor
  · funext a c; rw [lb_0, Bool.and_false, Bool.xor_false]
  · exact nb_zero _ (fun i _ => lb_0 i)
abbrev bOK (fw : Nat → Int64) (D : Int → Int → Bool) : Prop := ∀ x y, 0 ≤ x → x < 512 → 0 ≤ y → y < 512 → lb (fw (y * 8 + x / 64).toNat) (x % 64).toNat = D x y
theorem fl_words {fw g : Nat → Int64} {D E : Int → Int → Bool} {y fr : Int} {bits : Int64} (h : bOK fw D) (y0 : 0 ≤ y) (y1 : y < 512) (f0 : 0 ≤ fr) (f1 : fr < 512) (hE : E = fun a c => D a c ^^ (decide (c = y ∧ fr ≤ a ∧ a < fr + 64) && lb bits (a - fr).toNat))
    (hA : ∀ j : Nat, j < 64 → lb (g (y * 8 + fr / 64).toNat) j = (lb (fw (y * 8 + fr / 64).toNat) j ^^ (decide ((fr % 64).toNat ≤ j) && lb bits (j - (fr % 64).toNat))))
    (hB : fr / 64 + 1 < 8 → ∀ j : Nat, j < 64 → lb (g (y * 8 + fr / 64 + 1).toNat) j = (lb (fw (y * 8 + fr / 64 + 1).toNat) j ^^ lb bits ((64 - fr % 64).toNat + j)))
    (hC : ∀ i : Nat, i ≠ (y * 8 + fr / 64).toNat → (i ≠ (y * 8 + fr / 64 + 1).toNat ∨ ¬ fr / 64 + 1 < 8) → g i = fw i) : bOK g E := by
  intro a c a0 a1 c0 c1
  rw [hE]
  show _ = (D a c ^^ _)
  rw [← h a c a0 a1 c0 c1]
  by_cases r : c = y
  · subst r
    by_cases k : a / 64 = fr / 64
    · rw [k, hA _ (by omega)]
      congr 1
      by_cases q : (fr % 64).toNat ≤ (a % 64).toNat
      · rw [decide_eq_true q, decide_eq_true (by omega), Bool.true_and, Bool.true_and]; congr 1; omega
      · rw [decide_eq_false q, decide_eq_false (by omega), Bool.false_and, Bool.false_and]
    · by_cases k2 : a / 64 = fr / 64 + 1
      · have e : (c * 8 + a / 64).toNat = (c * 8 + fr / 64 + 1).toNat := by omega
        rw [e, hB (by omega) _ (by omega)]
        congr 1
        by_cases q : a < fr + 64
        · rw [decide_eq_true (by omega), Bool.true_and]; congr 1; omega
        · rw [decide_eq_false (by omega), Bool.false_and, lb_big (by omega)]
      · rw [hC _ (by omega) (by omega), decide_eq_false (by omega), Bool.false_and, Bool.xor_false]
  · rw [hC _ (by omega) (by omega), decide_eq_false (by omega), Bool.false_and, Bool.xor_false]
/-! a rectangle painted by rows and words -/
theorem cI_zero {f : Int → Int → Bool} {x y w h : Int} (q : ∀ a c, x ≤ a → a < x + w → y ≤ c → c < y + h → f a c = false) : cI f x y w h = 0 := by
  have r : ∀ n : Nat, ∀ c : Int, y ≤ c → c < y + h → (n : Int) ≤ w → rc f x c n = 0 := by
    intro n
    induction n with
    | zero => intro c _ _ _; rfl
    | succ n ih => intro c c0 c1 hn; simp only [rc]; rw [ih c c0 c1 (by omega), q (x + n) c (by omega) (by omega) c0 c1]; rfl
  have k : ∀ n : Nat, (n : Int) ≤ h → cn f x y w.toNat n = 0 := by
    intro n
    induction n with
    | zero => intro _; rfl
    | succ n ih =>
      intro hn; simp only [cn]; rw [ih (by omega)]
      by_cases wz : 0 ≤ w
      · rw [r w.toNat (y + n) (by omega) (by omega) (by omega)]; rfl
      · have e : w.toNat = 0 := by omega
        rw [e]; rfl
  unfold cI
  by_cases hz : 0 ≤ h
  · exact k h.toNat (by omega)
  · have e : h.toNat = 0 := by omega
    rw [e]; rfl
theorem cI_congr {f g : Int → Int → Bool} {x y w h : Int} (q : ∀ a c, x ≤ a → a < x + w → y ≤ c → c < y + h → f a c = g a c) : cI f x y w h = cI g x y w h := by
  have r : ∀ n : Nat, ∀ c : Int, y ≤ c → c < y + h → (n : Int) ≤ w → rc f x c n = rc g x c n := by
    intro n
    induction n with
    | zero => intro c _ _ _; rfl
    | succ n ih => intro c c0 c1 hn; simp only [rc]; rw [ih c c0 c1 (by omega), q (x + n) c (by omega) (by omega) c0 c1]
  have k : ∀ n : Nat, (n : Int) ≤ h → cn f x y w.toNat n = cn g x y w.toNat n := by
    intro n
    induction n with
    | zero => intro _; rfl
    | succ n ih =>
      intro hn; simp only [cn]; rw [ih (by omega)]
      by_cases wz : 0 ≤ w
      · rw [r w.toNat (y + n) (by omega) (by omega) (by omega)]
      · have e : w.toNat = 0 := by omega
        rw [e]; rfl
  unfold cI
  by_cases hz : 0 ≤ h
  · exact k h.toNat (by omega)
  · have e : h.toNat = 0 := by omega
    rw [e]; rfl
theorem cI_sub {f g : Int → Int → Bool} {W H x y w h : Int} (x0 : 0 ≤ x) (y0 : 0 ≤ y) (w0 : 0 ≤ w) (h0 : 0 ≤ h) (x1 : x + w ≤ W) (y1 : y + h ≤ H) (qi : ∀ a c, x ≤ a → a < x + w → y ≤ c → c < y + h → f a c = g a c) (qo : ∀ a c, 0 ≤ a → a < W → 0 ≤ c → c < H → ¬ (x ≤ a ∧ a < x + w ∧ y ≤ c ∧ c < y + h) → f a c = false) : cI f 0 0 W H = cI g x y w h := by
  have eW : W = x + (w + (W - x - w)) := by omega
  have eH : H = y + (h + (H - y - h)) := by omega
  have a1 : cI f 0 0 W H = cI f 0 0 x H + (cI f (0 + x) 0 w H + cI f (0 + x + w) 0 (W - x - w) H) := by
    conv => lhs; rw [eW]
    rw [cI_w x _ x0 (by omega), cI_w w _ w0 (by omega)]
  have a2 : cI f (0 + x) 0 w H = cI f (0 + x) 0 w y + (cI f (0 + x) (0 + y) w h + cI f (0 + x) (0 + y + h) w (H - y - h)) := by
    conv => lhs; rw [eH]
    rw [cI_h y _ y0 (by omega), cI_h h _ h0 (by omega)]
  rw [a1, a2, cI_zero (x := 0) (w := x) (fun a c _ _ _ _ => qo a c (by omega) (by omega) (by omega) (by omega) (by omega)), cI_zero (x := 0 + x + w) (fun a c _ _ _ _ => qo a c (by omega) (by omega) (by omega) (by omega) (by omega)), cI_zero (x := 0 + x) (y := 0) (w := w) (h := y) (fun a c _ _ _ _ => qo a c (by omega) (by omega) (by omega) (by omega) (by omega)), cI_zero (y := 0 + y + h) (fun a c _ _ _ _ => qo a c (by omega) (by omega) (by omega) (by omega) (by omega))]
  have e1 : 0 + x = x := by omega
  have e2 : 0 + y = y := by omega
  rw [e1, e2, cI_congr qi]; omega
abbrev cst (v : Bool) : Int → Int → Bool := fun _ _ => v
/-- one word's turn of a row -/
theorem pt_step {D : Int → Int → Bool} {W H lf tp mm row px : Int} {v : Bool} {mask : Int64} (l0 : 0 ≤ lf) (t0 : 0 ≤ tp) (lW : lf + mm ≤ W) (r0 : tp ≤ row) (rH : row < H) (p0 : lf ≤ px) (p1 : px < lf + mm)
    (hm : ∀ i : Nat, i < 64 → lb mask i = ((pF D (cst v) lf tp mm row px (px + i) row != v) && decide ((i : Int) < lf + mm - px))) :
    flD (pF D (cst v) lf tp mm row px) W H px row mask 64 = pF D (cst v) lf tp mm row (min (px + 64) (lf + mm)) := by
  funext a c
  unfold flD
  by_cases q : c = row ∧ 0 ≤ a - px ∧ a - px < 64
  · obtain ⟨rfl, q1, q2⟩ := q
    have e : px + (((a - px).toNat : Nat) : Int) = a := by omega
    rw [decide_eq_true (p := c = c ∧ 0 ≤ a - px ∧ a - px < 64) ⟨rfl, q1, q2⟩, Bool.true_and, hm _ (by omega), e]
    by_cases r : a < lf + mm
    · have o : onB W H a c = true := by unfold onB; exact decide_eq_true (by omega)
      rw [o, Bool.true_and, decide_eq_true (by omega), Bool.and_true]
      have z : pF D (cst v) lf tp mm c (min (px + 64) (lf + mm)) a c = v := by unfold pF; exact if_pos (by omega)
      rw [z]
      cases pF D (cst v) lf tp mm c px a c <;> cases v <;> rfl
    · rw [decide_eq_false (p := (((a - px).toNat : Nat) : Int) < lf + mm - px) (by omega), Bool.and_false, Bool.and_false, Bool.xor_false]
      unfold pF
      rw [if_neg (by omega), if_neg (by omega)]
  · rw [decide_eq_false q, Bool.false_and, Bool.xor_false]
    unfold pF
    by_cases r : (lf ≤ a ∧ a < lf + mm ∧ tp ≤ c ∧ c < row) ∨ (c = row ∧ lf ≤ a ∧ a < px)
    · rw [if_pos r, if_pos (by omega)]
    · rw [if_neg r, if_neg (by omega)]
theorem nb_rc {D : Int → Int → Bool} {x y : Int} {f : Nat → Bool} : ∀ n : Nat, (∀ i : Nat, i < n → f i = D (x + i) y) → nb f n = rc D x y n
  | 0, _ => rfl
  | n + 1, h => by simp only [nb, rc]; rw [nb_rc n (fun i hi => h i (by omega)), h n (by omega)]
theorem pt_count {D : Int → Int → Bool} {W H lf tp mm row px : Int} {v : Bool} {mask : Int64} (l0 : 0 ≤ lf) (t0 : 0 ≤ tp) (lW : lf + mm ≤ W) (r0 : tp ≤ row) (rH : row < H) (p0 : lf ≤ px) (p1 : px < lf + mm)
    (hm : ∀ i : Nat, i < 64 → lb mask i = ((pF D (cst v) lf tp mm row px (px + i) row != v) && decide ((i : Int) < lf + mm - px))) :
    rc (neB D v) lf row (px - lf).toNat + nb (flF W H px row mask) 64 = rc (neB D v) lf row (min (px + 64) (lf + mm) - lf).toNat := by
  obtain ⟨k, hk⟩ : ∃ k : Nat, (k : Int) = min (px + 64) (lf + mm) - px := ⟨(min (px + 64) (lf + mm) - px).toNat, by omega⟩
  have e : (min (px + 64) (lf + mm) - lf).toNat = (px - lf).toNat + k := by omega
  have ex : lf + (((px - lf).toNat : Nat) : Int) = px := by omega
  rw [e, rc_split, ex]
  congr 1
  have e64 : 64 = k + (64 - k) := by omega
  have s : nb (flF W H px row mask) 64 = nb (flF W H px row mask) k := by
    conv => lhs; rw [e64]
    rw [nb_split, nb_zero (64 - k) (fun i hi => ?_), Int.add_zero]
    show flF W H px row mask (k + i) = false
    unfold flF
    rw [hm _ (by omega), decide_eq_false (by omega), Bool.and_false, Bool.and_false]
  rw [s]
  apply nb_rc
  intro i hi
  unfold flF
  have o : onB W H (px + i) row = true := by unfold onB; exact decide_eq_true (by omega)
  rw [o, Bool.true_and, hm i (by omega), decide_eq_true (by omega), Bool.and_true]
  unfold neB
  congr 1
  unfold pF; exact if_neg (by omega)
/-- the finder's rectangle and the reference's -/
theorem pt_ref {D : Int → Int → Bool} {W H x y w h lf tp rt bo mm bb : Int} {v : Bool} (hW : 1 ≤ W) (hH : 1 ≤ H) (w1 : 1 ≤ w) (h1 : 1 ≤ h) (el : lf = max x 0) (et : tp = max y 0) (er : rt = min (x + w) W) (eb : bo = min (y + h) H) (em : mm = max (rt - lf) 0) (ebb : bb = max bo tp) :
    pF D (cst v) lf tp mm bb lf = pF D (fiE D x y w h v) 0 0 W H 0 ∧ cI (neB D v) lf tp mm (bb - tp) = cI (fiN D x y w h v) 0 0 W H := by
  constructor
  · funext a c
    unfold pF fiE
    by_cases q : (0 ≤ a ∧ a < W ∧ 0 ≤ c ∧ c < H) ∧ x ≤ a ∧ a < x + w ∧ y ≤ c ∧ c < y + h
    · rw [if_pos (Or.inl ⟨by omega, by omega, by omega, by omega⟩), if_pos (Or.inl ⟨by omega, by omega, by omega, by omega⟩), if_pos (by omega)]
    · rw [if_neg (by omega)]
      by_cases r : x ≤ a ∧ a < x + w ∧ y ≤ c ∧ c < y + h
      · rw [if_neg (by omega)]
      · rw [if_neg r]; split <;> rfl
  · by_cases z : lf < rt ∧ tp < bo
    · symm
      apply cI_sub (by omega) (by omega) (by omega) (by omega) (by omega) (by omega)
      · intro a c a0 a1 c0 c1
        unfold fiN neB
        rw [decide_eq_true (by omega), Bool.true_and]
      · intro a c a0 a1 c0 c1 n
        unfold fiN
        rw [decide_eq_false (by omega), Bool.false_and]
    · have z1 : cI (neB D v) lf tp mm (bb - tp) = 0 := by
        by_cases c : mm ≤ 0
        · exact cI_0w _ _ _ _ c
        · exact cI_0h _ _ _ _ (by omega)
      rw [z1]; symm
      apply cI_zero
      intro a c a0 a1 c0 c1
      unfold fiN
      rw [decide_eq_false (by omega), Bool.false_and]
