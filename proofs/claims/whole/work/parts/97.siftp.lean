/-! siftPlaces: its floors are bounds from below, and what it finds -/
theorem sp_floor {D : Int → Int → Bool} {M S k SX SY TX TY r : Int} (h : ∃ d, r = M * M - d ∧ isMost D SX SY (TX + M * (if k = 0 then 8 else if k = 1 then 7 else if k = 2 then S - 9 else S - 8)) (TY + M * (if k = 0 then S - 8 else if k = 1 then 8 else if k = 2 then 7 else S - 9)) M M d) :
    (∀ dx dy, inT SX SY dx dy → r ≤ spW D (TX + dx) (TY + dy) M S k) ∧ (SX = 0 → SY = 0 → r = spW D TX TY M S k) ∧ 0 ≤ r ∧ r ≤ M * M := by
  obtain ⟨d, e, m1, m2, m3, m4⟩ := h
  refine ⟨fun dx dy i => ?_, fun a b => ?_, by omega, by omega⟩
  · have t := m1 dx dy i.1 i.2.1 i.2.2.1 i.2.2.2
    unfold spW spA spB
    have e1 : TX + dx + M * (if k = 0 then 8 else if k = 1 then 7 else if k = 2 then S - 9 else S - 8) = TX + M * (if k = 0 then 8 else if k = 1 then 7 else if k = 2 then S - 9 else S - 8) + dx := by omega
    have e2 : TY + dy + M * (if k = 0 then S - 8 else if k = 1 then 8 else if k = 2 then 7 else S - 9) = TY + M * (if k = 0 then S - 8 else if k = 1 then 8 else if k = 2 then 7 else S - 9) + dy := by omega
    rw [e1, e2]; omega
  · have t := m2 a b
    unfold spW spA spB; omega
abbrev LXq (x M S k : Int) : Int := x + M * (if k = 1 then S - 7 else if k = 3 then 6 else 8)
theorem lf_low {D : Int → Int → Bool} {M S k SX SY TX TY r : Int} (hM : 1 ≤ M) (hS : 21 ≤ S) (hS2 : S % 2 = 1) (k0 : 0 ≤ k) (k3 : k ≤ 3)
    (h : (∃ d, isMost D SX SY (TX + M * (if k = 1 then S - 7 else if k = 3 then 6 else 8)) (TY + M * (if k = 0 then 6 else if k = 2 then S - 7 else 8)) (if k % 2 = 0 then (S - 16) * M else M) (if k % 2 = 0 then M else (S - 16) * M) d ∧ (S - 15) / 2 * M * M - d > 0 ∧ r = (S - 15) / 2 * M * M - d) ∨
      (∃ d e, isMost D SX SY (TX + M * (if k = 1 then S - 7 else if k = 3 then 6 else 8)) (TY + M * (if k = 0 then 6 else if k = 2 then S - 7 else 8)) (if k % 2 = 0 then (S - 16) * M else M) (if k % 2 = 0 then M else (S - 16) * M) d ∧ isLeast D SX SY (TX + M * (if k = 1 then S - 7 else if k = 3 then 6 else 8)) (TY + M * (if k = 0 then 6 else if k = 2 then S - 7 else 8)) (if k % 2 = 0 then (S - 16) * M else M) (if k % 2 = 0 then M else (S - 16) * M) e ∧ (S - 15) / 2 * M * M - d ≤ 0 ∧ r = max (e - (S - 15) / 2 * M * M) 0)) :
    (∀ dx dy, inT SX SY dx dy → r ≤ LSk D (TX + dx) (TY + dy) M S k) ∧ 0 ≤ r := by
  have ex : ∀ dx : Int, LXk (TX + dx) M S k = TX + M * (if k = 1 then S - 7 else if k = 3 then 6 else 8) + dx := fun dx => by unfold LXk; omega
  have ey : ∀ dy : Int, LYk (TY + dy) M S k = TY + M * (if k = 0 then 6 else if k = 2 then S - 7 else 8) + dy := fun dy => by unfold LYk; omega
  rcases h with ⟨d, m, p, e⟩ | ⟨d, f, m, l, p, e⟩
  · refine ⟨fun dx dy i => ?_, by omega⟩
    have t := m.1 dx dy i.1 i.2.1 i.2.2.1 i.2.2.2
    have lo := (ls_low (D := D) (x := TX + dx) (y := TY + dy) hM hS hS2 k0 k3).1
    rw [ex, ey] at lo
    omega
  · refine ⟨fun dx dy i => ?_, by omega⟩
    have t := l.1 dx dy i.1 i.2.1 i.2.2.1 i.2.2.2
    have lo := (ls_low (D := D) (x := TX + dx) (y := TY + dy) hM hS hS2 k0 k3).2
    have nn := LS_nn (D := D) (x := TX + dx) (y := TY + dy) (M := M) (S := S) (k := k) (by omega)
    rw [ex, ey] at lo
    omega
theorem fl_low {D : Int → Int → Bool} {M S C SX SY TX TY f b : Int} (hM : 1 ≤ M) (hf : ∀ dx dy, 0 ≤ dx → dx ≤ SX → 0 ≤ dy → dy ≤ SY → f ≤ w7 D M (fX TX M S C + dx) (fY TY M S C + dy)) (hb : ∀ dx dy, 0 ≤ dx → dx ≤ SX → 0 ≤ dy → dy ≤ SY → b ≤ bd D M C (fX TX M S C + dx) (fY TY M S C + dy)) :
    ∀ dx dy, inT SX SY dx dy → f + b ≤ cWk D (TX + dx) (TY + dy) M S C := by
  intro dx dy i
  have a := hf dx dy i.1 i.2.1 i.2.2.1 i.2.2.2
  have c := hb dx dy i.1 i.2.1 i.2.2.1 i.2.2.2
  have e1 : fX (TX + dx) M S C = fX TX M S C + dx := by unfold fX; omega
  have e2 : fY (TY + dy) M S C = fY TY M S C + dy := by unfold fY; omega
  unfold cWk
  rw [e1, e2, cW_sum hM]; omega
theorem cw_low {D : Int → Int → Bool} {W H M S C SX SY TX TY f : Int} (hM : 1 ≤ M) (hS : 21 ≤ S) (c0 : 0 ≤ C) (c3 : C ≤ 3) (x0 : 0 ≤ TX) (y0 : 0 ≤ TY) (x1 : TX + M * S ≤ W) (y1 : TY + M * S ≤ H) (sx : SX = 0) (sy : SY = 0) (hf : f = cwR D W H M C (fX TX M S C) (fY TY M S C)) :
    (∀ dx dy, inT SX SY dx dy → f ≤ cWk D (TX + dx) (TY + dy) M S C) ∧ f = min (cWk D TX TY M S C) 501 := by
  have e := cwR_on (D := D) (W := W) (H := H) hM hS c0 c3 x0 y0 x1 y1
  rw [e] at hf
  refine ⟨fun dx dy i => ?_, hf⟩
  have d1 : dx = 0 := by have := i.1; have := i.2.1; omega
  have d2 : dy = 0 := by have := i.2.2.1; have := i.2.2.2; omega
  rw [d1, d2, Int.add_zero, Int.add_zero]; omega
/-- why quarters are dropped at once -/
theorem why_no {D : Int → Int → Bool} {THD M v TX TY SX SY first C w fl : Int} (ew : w = (C + 2) % 4) (c0 : 0 ≤ C) (c3 : C ≤ 3) (low : ∀ dx dy, inT SX SY dx dy → fl ≤ cWk D (TX + dx) (TY + dy) M (17 + 4 * v) C) (ex : SX = 0 → SY = 0 → fl = min (cWk D TX TY M (17 + 4 * v) C) 501) (hT : THD ≤ 500)
    (h : (C = first ∧ THD < fl) ∨ (SX = 0 ∧ SY = 0 ∧ C < first ∧ fl ≤ THD)) : ∀ q, 0 ≤ q → q < 4 → q ≠ w → ∀ dx dy, inT SX SY dx dy → ¬ lowc D THD (TX + dx) (TY + dy) M (17 + 4 * v) q first := by
  intro q q0 q1 ne dx dy i lo
  rcases h with ⟨e, t⟩ | ⟨sx, sy, lt, t⟩
  · subst e
    have a := low dx dy i
    have b := lo.2.2.2.1
    omega
  · have d1 : dx = 0 := by have := i.1; have := i.2.1; omega
    have d2 : dy = 0 := by have := i.2.2.1; have := i.2.2.2; omega
    rw [d1, d2, Int.add_zero, Int.add_zero] at lo
    have e := ex sx sy
    exact lo.2.2.2.2 C c0 lt (by omega) (by omega)
theorem hl_keep {l z s LIM : Int} (h : s ≤ LIM) : ∀ q, 0 ≤ q → q < 4 → bt l q = (bt l q && (decide (q ≠ z) || decide (s ≤ LIM))) := fun q _ _ => by rw [decide_eq_true h, Bool.or_true, Bool.and_true]
theorem hl_clr {l l' z s LIM : Int} (h : ¬ s ≤ LIM) (hl : ∀ q, 0 ≤ q → q < 4 → bt l' q = (bt l q && decide (q ≠ z))) : ∀ q, 0 ≤ q → q < 4 → bt l' q = (bt l q && (decide (q ≠ z) || decide (s ≤ LIM))) := fun q q0 q1 => by rw [hl q q0 q1, decide_eq_false h, Bool.or_false]
theorem qg_upd {qf qg : Nat → Int32} {z : Int} {v : Int32} {sp : Int} (z0 : 0 ≤ z) (e : qg = upd qf z.toNat v) (hv : v.toInt = (qf z.toNat).toInt + sp) : ∀ q : Int, 0 ≤ q → q < 4 → (qg q.toNat).toInt = if q = z then (qf q.toNat).toInt + sp else (qf q.toNat).toInt := by
  intro q q0 q1
  rw [e]
  by_cases c : q = z
  · rw [c, pk_us, if_pos rfl, hv]
  · rw [pk_un (by omega), if_neg c]
def orF (F G : Int → Int → Int → Int → Int → Prop) : Int → Int → Int → Int → Int → Prop := fun x y m v q => F x y m v q ∨ G x y m v q
theorem si_none {D : Int → Int → Bool} {LIM THD M v first Qs L T R B SX SY : Int} {F : Int → Int → Int → Int → Int → Prop} {qf : Nat → Int32} {l z : Int} (h : siJ D LIM THD M v L T SX SY first Qs l qf z) (e : l = 0) (ex : SX = R - L) (ey : SY = B - T) {x y m v' q : Int} : F x y m v' q ↔ orF F (tgP D LIM THD M v first Qs L T R B) x y m v' q := by
  unfold orF
  rw [tg_live h.2.2.2.2.2.2.1 h.2.1 ex ey, e]
  constructor
  · exact Or.inl
  · rintro (a | a)
    · exact a
    · exact absurd a tg_none
theorem si_one {D : Int → Int → Bool} {LIM THD M v first Qs L T R B SX SY : Int} {F : Int → Int → Int → Int → Int → Prop} {qf : Nat → Int32} {l z : Int} (h : siJ D LIM THD M v L T SX SY first Qs l qf z) (ex : SX = R - L) (ey : SY = B - T) (sx : SX = 0) (sy : SY = 0) {x y m v' q : Int} : jgF D LIM M v L T l 4 F x y m v' q ↔ orF F (tgP D LIM THD M v first Qs L T R B) x y m v' q := by
  unfold orF
  rw [tg_live h.2.2.2.2.2.2.1 h.2.1 ex ey]
  unfold jgF tgP
  constructor
  · rintro (a | ⟨rfl, rfl, rfl, rfl, q0, q1, b, t⟩)
    · exact Or.inl a
    · exact Or.inr ⟨rfl, rfl, by omega, by omega, by omega, by omega, q0, q1, b, t, h.2.2.2.2.1 sx sy q q0 q1 b⟩
  · rintro (a | ⟨rfl, rfl, a1, a2, a3, a4, q0, q1, b, t, lo⟩)
    · exact Or.inl a
    · have e1 : x = L := by omega
      have e2 : y = T := by omega
      subst e1; subst e2
      exact Or.inr ⟨rfl, rfl, rfl, rfl, q0, q1, b, t⟩
theorem si_hnew {D : Int → Int → Bool} {LIM THD M v first Qs L T R B SX SY : Int} {AL F : Int → Int → Int → Int → Int → Prop} {qf : Nat → Int32} {l z : Int} (h : siJ D LIM THD M v L T SX SY first Qs l qf z) (ex : SX = R - L) (ey : SY = B - T) (sx : SX = 0) (sy : SY = 0) (hd : ∀ x y m v' q, tgP D LIM THD M v first Qs L T R B x y m v' q → AL x y m v' q ∧ ¬ F x y m v' q) :
    ∀ q, 0 ≤ q → q < 4 → bt l q = true → TW D L T M v q ≤ LIM → AL L T M v q ∧ ¬ F L T M v q := fun q q0 q1 b t => hd L T M v q ⟨rfl, rfl, by omega, by omega, by omega, by omega, q0, q1, h.2.1 q q0 q1 b, t, h.2.2.2.2.1 sx sy q q0 q1 b⟩
theorem si_four {D : Int → Int → Bool} {LIM THD M v first Qs L T R B SX SY mx my : Int} {F : Int → Int → Int → Int → Int → Prop} {qf : Nat → Int32} {l z : Int} (h : siJ D LIM THD M v L T SX SY first Qs l qf z) (ex : SX = R - L) (ey : SY = B - T) (x1 : L ≤ mx) (x2 : mx ≤ R) (y1 : T ≤ my) (y2 : my ≤ B) {x y m v' q : Int} :
    orF (orF (orF (orF F (tgP D LIM THD M v first l L T mx my)) (tgP D LIM THD M v first l (mx + 1) T R my)) (tgP D LIM THD M v first l L (my + 1) mx B)) (tgP D LIM THD M v first l (mx + 1) (my + 1) R B) x y m v' q ↔ orF F (tgP D LIM THD M v first Qs L T R B) x y m v' q := by
  unfold orF
  rw [tg_live h.2.2.2.2.2.2.1 h.2.1 ex ey, tg_four x1 x2 y1 y2]
  constructor
  · rintro ((((a | a) | a) | a) | a)
    · exact Or.inl a
    · exact Or.inr (Or.inl (Or.inl (Or.inl a)))
    · exact Or.inr (Or.inl (Or.inl (Or.inr a)))
    · exact Or.inr (Or.inl (Or.inr a))
    · exact Or.inr (Or.inr a)
  · rintro (a | (((a | a) | a) | a))
    · exact Or.inl (Or.inl (Or.inl (Or.inl a)))
    · exact Or.inl (Or.inl (Or.inl (Or.inr a)))
    · exact Or.inl (Or.inl (Or.inr a))
    · exact Or.inl (Or.inr a)
    · exact Or.inr a
/-- a part of the tile: new places there too -/
theorem si_part {D : Int → Int → Bool} {LIM THD M v first Qs L T R B SX SY L' T' R' B' : Int} {AL F : Int → Int → Int → Int → Int → Prop} {qf : Nat → Int32} {l z : Int} (h : siJ D LIM THD M v L T SX SY first Qs l qf z) (hd : ∀ x y m v' q, tgP D LIM THD M v first Qs L T R B x y m v' q → AL x y m v' q ∧ ¬ F x y m v' q)
    (h1 : L ≤ L') (h2 : R' ≤ R) (h3 : T ≤ T') (h4 : B' ≤ B) : ∀ x y m v' q, tgP D LIM THD M v first l L' T' R' B' x y m v' q → AL x y m v' q ∧ ¬ F x y m v' q := by
  rintro x y m v' q ⟨rfl, rfl, a1, a2, a3, a4, q0, q1, b, t, lo⟩
  exact hd x y m v' q ⟨rfl, rfl, by omega, by omega, by omega, by omega, q0, q1, h.2.1 q q0 q1 b, t, lo⟩
theorem or_new {AL F G K : Int → Int → Int → Int → Int → Prop} (h : ∀ x y m v q, G x y m v q → AL x y m v q ∧ ¬ F x y m v q) (n : ∀ x y m v q, G x y m v q → ¬ K x y m v q) : ∀ x y m v q, G x y m v q → AL x y m v q ∧ ¬ orF F K x y m v q :=
  fun x y m v q g => ⟨(h x y m v q g).1, fun c => c.elim (h x y m v q g).2 (n x y m v q g)⟩
theorem or_al {AL F G : Int → Int → Int → Int → Int → Prop} (h : ∀ x y m v q, F x y m v q → AL x y m v q) (g : ∀ x y m v q, G x y m v q → AL x y m v q ∧ ¬ F x y m v q) : ∀ x y m v q, orF F G x y m v q → AL x y m v q :=
  fun x y m v q c => c.elim (h x y m v q) (fun k => (g x y m v q k).1)
theorem or_out {D : Int → Int → Bool} {LIM THD M v first Qs L T R B : Int} {F : Int → Int → Int → Int → Int → Prop} (h : R < L ∨ B < T) {x y m v' q : Int} : F x y m v' q ↔ orF F (tgP D LIM THD M v first Qs L T R B) x y m v' q := by
  unfold orF
  exact ⟨Or.inl, fun c => c.elim id (fun a => absurd a (tg_out h))⟩
theorem half_2 {L R : Int} {d : Nat} (h : L ≤ R) (h2 : R - L < ((2 ^ (d + 1) : Nat) : Int)) : (L + R) / 2 - L < ((2 ^ d : Nat) : Int) ∧ R - ((L + R) / 2 + 1) < ((2 ^ d : Nat) : Int) ∧ L ≤ (L + R) / 2 ∧ (L + R) / 2 ≤ R := by
  have e : ((2 ^ (d + 1) : Nat) : Int) = 2 * ((2 ^ d : Nat) : Int) := by rw [Nat.pow_succ]; omega
  omega
theorem lfb {D : Int → Int → Bool} {M S k SX SY X Y r : Int}
    (h : (∃ d, isMost D SX SY X Y (if k % 2 = 0 then (S - 16) * M else M) (if k % 2 = 0 then M else (S - 16) * M) d ∧ (S - 15) / 2 * M * M - d > 0 ∧ r = (S - 15) / 2 * M * M - d) ∨
      (∃ d e, isMost D SX SY X Y (if k % 2 = 0 then (S - 16) * M else M) (if k % 2 = 0 then M else (S - 16) * M) d ∧ isLeast D SX SY X Y (if k % 2 = 0 then (S - 16) * M else M) (if k % 2 = 0 then M else (S - 16) * M) e ∧ (S - 15) / 2 * M * M - d ≤ 0 ∧ r = max (e - (S - 15) / 2 * M * M) 0))
    (hM : 1 ≤ M) (hM2 : M ≤ 16) (hS : 21 ≤ S) (hS2 : S ≤ 177) : r ≤ 50000 := by
  have m := mul_b (a := M) (b := M) (n := 16) (by omega) (by omega) (by omega) (by omega)
  have ma : (S - 15) / 2 * M * M = (S - 15) / 2 * (M * M) := Int.mul_assoc _ _ _
  have m0 := Int.mul_nonneg (show 0 ≤ M by omega) (show 0 ≤ M by omega)
  have n0 := Int.mul_nonneg (show 0 ≤ (S - 15) / 2 by omega) m0
  have n1 := Int.mul_le_mul (show (S - 15) / 2 ≤ 81 by omega) m m0 (by omega)
  have n2 := Int.mul_le_mul (show S - 16 ≤ 161 by omega) m m0 (by omega)
  have mb : (S - 16) * M * M = (S - 16) * (M * M) := Int.mul_assoc _ _ _
  have mc : M * ((S - 16) * M) = (S - 16) * (M * M) := by rw [Int.mul_left_comm]
  rcases h with ⟨d, m1, p, e⟩ | ⟨d, f, m1, l, p, e⟩
  · have := m1.2.2.1; omega
  · have t := l.2.2.2
    by_cases q : k % 2 = 0
    · rw [if_pos q, if_pos q] at t; omega
    · rw [if_neg q, if_neg q] at t; omega
/-! siftVersions, siftFinders: what is new, what is found -/
theorem sv_dis {D : Int → Int → Bool} {W H LIM THD M L T R B c w : Int} {AL F G : Int → Int → Int → Int → Int → Prop} (hd : ∀ x y m v q, tgF D W H LIM THD M L T R B x y m v q → AL x y m v q ∧ ¬ F x y m v q) (st : ∀ x y m v q, G x y m v q → tvF D W H LIM THD M L T R B c (w + 1) x y m v q) (nw : ∀ x y m v q, G x y m v q → ¬ tvF D W H LIM THD M L T R B c w x y m v q) :
    ∀ x y m v q, G x y m v q → AL x y m v q ∧ ¬ orF F (tvF D W H LIM THD M L T R B c w) x y m v q :=
  fun x y m v q g => ⟨(hd x y m v q (tv_sub (st x y m v q g))).1, fun o => o.elim (hd x y m v q (tv_sub (st x y m v q g))).2 (nw x y m v q g)⟩
theorem sv_al {D : Int → Int → Bool} {W H LIM THD M L T R B c w : Int} {AL F : Int → Int → Int → Int → Int → Prop} (ha : ∀ x y m v q, F x y m v q → AL x y m v q) (hd : ∀ x y m v q, tgF D W H LIM THD M L T R B x y m v q → AL x y m v q ∧ ¬ F x y m v q) : ∀ x y m v q, orF F (tvF D W H LIM THD M L T R B c w) x y m v q → AL x y m v q :=
  fun x y m v q o => o.elim (ha x y m v q) (fun g => (hd x y m v q (tv_sub g)).1)
theorem or_or {F G K N : Int → Int → Int → Int → Int → Prop} (e : ∀ x y m v q, (G x y m v q ∨ K x y m v q) ↔ N x y m v q) {x y m v q : Int} : orF (orF F G) K x y m v q ↔ orF F N x y m v q := by
  unfold orF
  rw [or_assoc, e]
theorem or_iff {F G N : Int → Int → Int → Int → Int → Prop} (e : ∀ x y m v q, G x y m v q ↔ N x y m v q) {x y m v q : Int} : orF F G x y m v q ↔ orF F N x y m v q := by
  unfold orF
  rw [e]
theorem or_no {F G : Int → Int → Int → Int → Int → Prop} (e : ∀ x y m v q, ¬ G x y m v q) {x y m v q : Int} : F x y m v q ↔ orF F G x y m v q := by
  unfold orF
  exact ⟨Or.inl, fun o => o.elim id (fun g => absurd g (e x y m v q))⟩
theorem sf_part {D : Int → Int → Bool} {W H LIM THD M L T R B L' T' R' B' : Int} {AL F : Int → Int → Int → Int → Int → Prop} (hd : ∀ x y m v q, tgF D W H LIM THD M L T R B x y m v q → AL x y m v q ∧ ¬ F x y m v q)
    (h1 : L ≤ L') (h2 : R' ≤ R) (h3 : T ≤ T') (h4 : B' ≤ B) : ∀ x y m v q, tgF D W H LIM THD M L' T' R' B' x y m v q → AL x y m v q ∧ ¬ F x y m v q :=
  fun x y m v q g => hd x y m v q (tf_in h1 h2 h3 h4 g)
theorem sf_four {D : Int → Int → Bool} {W H LIM THD M L T R B mx my : Int} {F : Int → Int → Int → Int → Int → Prop} (x1 : L ≤ mx) (x2 : mx ≤ R) (y1 : T ≤ my) (y2 : my ≤ B) {x y m v q : Int} :
    orF (orF (orF (orF F (tgF D W H LIM THD M L T mx my)) (tgF D W H LIM THD M (mx + 1) T R my)) (tgF D W H LIM THD M L (my + 1) mx B)) (tgF D W H LIM THD M (mx + 1) (my + 1) R B) x y m v q ↔ orF F (tgF D W H LIM THD M L T R B) x y m v q := by
  unfold orF
  rw [tf_four x1 x2 y1 y2]
  constructor
  · rintro ((((a | a) | a) | a) | a)
    · exact Or.inl a
    · exact Or.inr (Or.inl (Or.inl (Or.inl a)))
    · exact Or.inr (Or.inl (Or.inl (Or.inr a)))
    · exact Or.inr (Or.inl (Or.inr a))
    · exact Or.inr (Or.inr a)
  · rintro (a | (((a | a) | a) | a))
    · exact Or.inl (Or.inl (Or.inl (Or.inl a)))
    · exact Or.inl (Or.inl (Or.inl (Or.inr a)))
    · exact Or.inl (Or.inl (Or.inr a))
    · exact Or.inl (Or.inr a)
    · exact Or.inr a
theorem alF_b {D : Int → Int → Bool} {W H LIM le mo : Int} (hW : W ≤ 512) (hH : H ≤ 512) (l1 : 1 ≤ le) (m16 : mo ≤ 16) : ∀ x y m v q, alF D W H LIM le mo x y m v q → bnd5 x y m v q := by
  rintro x y m v q ⟨a, b, c, d, s1, s2, s3, s4, s5, s6, _⟩
  have t := Int.mul_le_mul (show (1 : Int) ≤ m by omega) (show (21 : Int) ≤ 17 + 4 * v by omega) (by omega) (by omega)
  unfold bnd5; omega
theorem al_lm {D : Int → Int → Bool} {W H LIM THD le mo zm : Int} (h1 : 1 ≤ le) (hle : le ≤ zm) (hmo : zm ≤ mo) : (∀ x y m v q, lmF D W H LIM le zm x y m v q → alF D W H LIM le mo x y m v q) ∧ (∀ x y m v q, tgF D W H LIM THD zm 0 0 (W - 7 * zm) (H - 7 * zm) x y m v q → alF D W H LIM le mo x y m v q ∧ ¬ lmF D W H LIM le zm x y m v q) := by
  refine ⟨?_, fun x y m v q g => ⟨?_, lm_new g⟩⟩
  · rintro x y m v q ⟨a, b, c, d, e⟩; exact ⟨a, by omega, c, d, e⟩
  · obtain ⟨rfl, b, c, d, _⟩ := g; exact ⟨hle, hmo, b, c, d⟩
