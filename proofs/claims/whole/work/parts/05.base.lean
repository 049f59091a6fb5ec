/-! numbers: an int and the whole number that it stands for -/
theorem ti_k {a : Int32} {z : Int} (h : a.toInt = z) : a.toInt = z := h
theorem ti_bm {x : Int} (h1 : -2147483648 ≤ x) (h2 : x < 2147483648) : x.bmod (2 ^ 32) = x := by
  apply Int.bmod_eq_of_le_mul_two <;> omega
theorem ti_add {a b : Int32} {x y : Int} (ha : a.toInt = x) (hb : b.toInt = y) (h1 : -2147483648 ≤ x + y) (h2 : x + y < 2147483648) : (a + b).toInt = x + y := by
  rw [Int32.toInt_add, ha, hb, ti_bm h1 h2]
theorem ti_sub {a b : Int32} {x y : Int} (ha : a.toInt = x) (hb : b.toInt = y) (h1 : -2147483648 ≤ x - y) (h2 : x - y < 2147483648) : (a - b).toInt = x - y := by
  rw [Int32.toInt_sub, ha, hb, ti_bm h1 h2]
theorem ti_mul {a b : Int32} {x y : Int} (ha : a.toInt = x) (hb : b.toInt = y) (h1 : -2147483648 ≤ x * y) (h2 : x * y < 2147483648) : (a * b).toInt = x * y := by
  rw [Int32.toInt_mul, ha, hb, ti_bm h1 h2]
theorem ti_neg {a : Int32} {x : Int} (ha : a.toInt = x) (h1 : -2147483648 ≤ -x) (h2 : -x < 2147483648) : (-a).toInt = -x := by
  rw [Int32.toInt_neg, ha, ti_bm h1 h2]
theorem ti_lt {a b : Int32} {x y : Int} (ha : a.toInt = x) (hb : b.toInt = y) : a < b ↔ x < y := by
  rw [Int32.lt_iff_toInt_lt, ha, hb]
theorem ti_le {a b : Int32} {x y : Int} (ha : a.toInt = x) (hb : b.toInt = y) : a ≤ b ↔ x ≤ y := by
  rw [Int32.le_iff_toInt_le, ha, hb]
theorem ti_eq {a b : Int32} {x y : Int} (ha : a.toInt = x) (hb : b.toInt = y) : a = b ↔ x = y := by
  rw [← Int32.toInt_inj, ha, hb]
theorem ti_max {a b : Int32} {x y : Int} (ha : a.toInt = x) (hb : b.toInt = y) : (if a < b then b else a).toInt = max x y := by
  by_cases h : a < b
  · rw [if_pos h, hb]; have := (ti_lt ha hb).mp h; omega
  · rw [if_neg h, ha]; have q : ¬ x < y := fun q => h ((ti_lt ha hb).mpr q)
    omega
theorem ti_min {a b : Int32} {x y : Int} (ha : a.toInt = x) (hb : b.toInt = y) : (if b < a then b else a).toInt = min x y := by
  by_cases h : b < a
  · rw [if_pos h, hb]; have := (ti_lt hb ha).mp h; omega
  · rw [if_neg h, ha]; have q : ¬ y < x := fun q => h ((ti_lt hb ha).mpr q)
    omega
theorem ti_abs {a : Int32} {x : Int} (ha : a.toInt = x) (h : -2147483648 < x) : (if 0 ≤ a then a else 0 - a).toInt = if 0 ≤ x then x else 0 - x := by
  have hz : (0 : Int32).toInt = 0 := by decide
  have hb := Int32.toInt_lt a
  by_cases q : 0 ≤ a
  · rw [if_pos q, if_pos ((ti_le hz ha).mp q), ha]
  · rw [if_neg q, if_neg (fun r => q ((ti_le hz ha).mpr r))]
    exact ti_sub hz ha (by omega) (by omega)
theorem ti_rng (a : Int32) : -2147483648 ≤ a.toInt ∧ a.toInt < 2147483648 := ⟨Int32.le_toInt a, Int32.toInt_lt a⟩
theorem vi_cl {a : Int32} {z : Int} (h : a.toInt = z) : a.toNatClampNeg = z.toNat := by rw [← h]; rfl
theorem vi_in {a : Int32} {z : Int} {n : Nat} (h : a.toInt = z) (h0 : 0 ≤ z) (h1 : z < n) : vp_in a n := vp_in_iff.mpr ⟨by rw [h]; exact h0, by rw [h]; exact h1⟩
theorem ti_div {a b : Int32} {x y : Int} (ha : a.toInt = x) (hb : b.toInt = y) (h0 : 0 ≤ x) (h1 : 0 < y) : (a / b).toInt = x / y := by
  have hn : b ≠ -1 := by
    intro q
    rw [q] at hb
    have z : (-1 : Int32).toInt = -1 := by decide
    omega
  rw [Int32.toInt_div_of_ne_right a b hn, ha, hb, Int.tdiv_eq_ediv_of_nonneg h0]
theorem ti_rem {a b : Int32} {x y : Int} (ha : a.toInt = x) (hb : b.toInt = y) (h0 : 0 ≤ x) (h1 : 0 < y) : (a - a / b * b).toInt = x % y := by
  have hd := ti_div ha hb h0 h1
  have hx := ti_rng a
  have e : x / y * y = x - x % y := by have := Int.emod_add_mul_ediv x y; rw [Int.mul_comm]; omega
  have p1 : 0 ≤ x % y := Int.emod_nonneg x (by omega)
  have p3 : 0 ≤ x / y * y := Int.mul_nonneg (Int.ediv_nonneg h0 (by omega)) (by omega)
  have hm : (a / b * b).toInt = x / y * y := ti_mul hd hb (by omega) (by omega)
  rw [ti_sub ha hm (by omega) (by omega)]; omega
/-! one cut, one loop: the goal behind is proved once for all ways that lead there -/
section cuts
variable {p : Program} {l : Launch} {e : Env} {R : Room} {s : State} {m : MethodId} {args : Array Value} {below : List Frame} {meth : Method} {c : Code} {H : Heap} {locs : List Loc} {cells slots : Nat} {Q : State → Prop} {g : JFrame}
theorem w_cut {I : Heap → List Loc → JFrame → Prop} (k : ∀ H' locs' g', I H' locs' g' → W p l e R s m args below meth c H' locs' cells slots Q g') (b : (∀ H' locs' g', I H' locs' g' → W p l e R s m args below meth c H' locs' cells slots Q g') → W p l e R s m args below meth c H locs cells slots Q g) : W p l e R s m args below meth c H locs cells slots Q g := b k
theorem w_cut0 {I : JFrame → Prop} (k : ∀ g', I g' → W p l e R s m args below meth c H locs cells slots Q g') (b : (∀ g', I g' → W p l e R s m args below meth c H locs cells slots Q g') → W p l e R s m args below meth c H locs cells slots Q g) : W p l e R s m args below meth c H locs cells slots Q g := b k
theorem w_loop {I : Nat → Heap → List Loc → JFrame → Prop} (step : ∀ n H' locs' g', I n H' locs' g' → (∀ n', n' < n → ∀ H2 locs2 g2, I n' H2 locs2 g2 → W p l e R s m args below meth c H2 locs2 cells slots Q g2) → W p l e R s m args below meth c H' locs' cells slots Q g') {n : Nat} (h : I n H locs g) : W p l e R s m args below meth c H locs cells slots Q g := by
  have key : ∀ n H' locs' g', I n H' locs' g' → W p l e R s m args below meth c H' locs' cells slots Q g' := by
    intro n
    induction n using Nat.strongRecOn with
    | _ n ih => intro H' locs' g' hI; exact step n H' locs' g' hI (fun n' hn H2 locs2 g2 h2 => ih n' hn H2 locs2 g2 h2)
  exact key n H locs g h
end cuts
/-! a callee that writes nothing: what the world holds, it holds behind the call -/
theorem ro_keep {D : va_G} {cl : List vw_C} {ws : va_W} {H H1 : Heap} (hP : va_P D cl ws H) (hk : ∀ q : Nat, q < H.size → ¬ False → H1[q]? = H[q]?) : va_P D cl ws H1 := hP.kept (fun k q h => hk q.1 (hP k q h).lt (fun f => f))
abbrev ro_B (D : va_G) (cl : List vw_C) (ws : va_W) (tys : List (ClassId × FieldType)) (U : State) : Prop := va_P D cl ws U.heap ∧ va_K D cl tys U
theorem ro_blind {av : List Value} {D : va_G} {cl : List vw_C} {ws : va_W} {tys : List (ClassId × FieldType)} : FrameBlind (va_Pc av (ro_B D cl ws tys)) := fun a U g mk q => ⟨q.1, q.2.1, va_K.moved (u := U) (U := U.calling g mk a) (Vm.Alike.refl U.vm) q.2.2⟩
theorem ro_pre {s : State} {H : Heap} {av : List Value} {D : va_G} {cl : List vw_C} {ws : va_W} {tys : List (ClassId × FieldType)} (hP : va_P D cl ws H) (hK : va_K D cl tys s) : ∀ U : State, U.heap = H → s.WarmedH U.vm → va_Pc av (ro_B D cl ws tys) av.toArray U := fun U hU hW => ⟨rfl, by rw [hU]; exact hP, va_K.moved hW.alike hK⟩
abbrev rw_B (D : va_G) (cl : List vw_C) (ws : va_W) (tys : List (ClassId × FieldType)) (sz : Nat) (U : State) : Prop := U.heap.size = sz ∧ va_P D cl ws U.heap ∧ va_K D cl tys U ∧ va_D (fun _ => True) ws
abbrev rw_E (D : va_G) (cl : List vw_C) (ws : va_W) (tys : List (ClassId × FieldType)) (A : Nat → Prop) (t : State) : Prop := va_P D cl ws t.heap ∧ va_K D cl tys t ∧ va_D A ws
theorem rw_blind {av : List Value} {D : va_G} {cl : List vw_C} {ws : va_W} {tys : List (ClassId × FieldType)} {sz : Nat} : FrameBlind (va_Pc av (rw_B D cl ws tys sz)) := fun a U g mk q => ⟨q.1, q.2.1, q.2.2.1, va_K.moved (u := U) (U := U.calling g mk a) (Vm.Alike.refl U.vm) q.2.2.2.1, q.2.2.2.2⟩
theorem rw_pre {s : State} {H : Heap} {av : List Value} {D : va_G} {cl : List vw_C} {ws : va_W} {tys : List (ClassId × FieldType)} {A : Nat → Prop} (hP : va_P D cl ws H) (hK : va_K D cl tys s) (hD : va_D A ws) : ∀ U : State, U.heap = H → s.WarmedH U.vm → va_Pc av (rw_B D cl ws tys H.size) av.toArray U := fun U hU hW => ⟨rfl, by rw [hU], by rw [hU]; exact hP, va_K.moved hW.alike hK, hD.weaken (fun _ _ _ _ => trivial)⟩
/-- an answer true or false -/
def isB (r : Int32) (P : Prop) : Prop := (r = 1 ∧ P) ∨ (r = 0 ∧ ¬ P)
theorem bi_z {v : Int32} {P : Prop} (h : isB v P) (c : v = 0) : ¬ P := by
  rcases h with ⟨e, _⟩ | ⟨_, q⟩
  · rw [e] at c; exact absurd c (by decide)
  · exact q
theorem bi_nz {v : Int32} {P : Prop} (h : isB v P) (c : ¬ v = 0) : P := by
  rcases h with ⟨_, q⟩ | ⟨e, _⟩
  · exact q
  · exact absurd e c
