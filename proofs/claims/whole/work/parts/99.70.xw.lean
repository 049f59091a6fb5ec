/-! the words of a throw, and what is left behind it: all as it was -/
abbrev R_IAE : String := "java/lang/IllegalArgumentException"
abbrev R_IOB : String := "java/lang/IndexOutOfBoundsException"
abbrev supsX : List String := ["java/lang/RuntimeException", "java/lang/Exception"]
theorem xi_iae : ∀ w ∈ vx_atS R_PF 40 R_IAE supsX, w ∈ lw_tbl := by decide +kernel
theorem xi_iob : ∀ w ∈ vx_atS R_PF 141 R_IOB supsX, w ∈ lw_tbl := by decide +kernel
theorem hg_iae : ∀ w ∈ Cond.classLink R_PF 36 R_IAE :: Cond.initialized R_IAE :: vx_atS R_PF 40 R_IAE supsX, vx_ot w = true := by decide +kernel
theorem hg_iob : ∀ w ∈ Cond.classLink R_PF 137 R_IOB :: Cond.initialized R_IOB :: vx_atS R_PF 141 R_IOB supsX, vx_ot w = true := by decide +kernel
def tX (X : String) (U : State) : Prop := va_Nw (.castable X X) U ∧ va_Nw (.declares (Bundle.initS "java/lang/RuntimeException")) U ∧ va_Nw (.declares (Bundle.initS "java/lang/Exception")) U ∧ va_Nw (.declares (Bundle.initS Bundle.tN)) U
def tZ (A : Nat → Prop) (U : State) (H : Heap) : Prop := vx_Zq Bundle.tN "UNASSIGNED_STACK" Bundle.steD A U H ∧ vx_Zq Bundle.tN "SUPPRESSED_SENTINEL" Bundle.listD A U H
def tR (ks : List (Nat × String)) (U : State) : Prop := ∀ q ∈ ks, ∃ sa, vk_R R_PF q.1 q.2 sa U
theorem tX.same {X : String} {u U : State} (hv : u.vm = U.vm) (h : tX X u) : tX X U := ⟨va_tabs rfl hv h.1, va_tabs rfl hv h.2.1, va_tabs rfl hv h.2.2.1, va_tabs rfl hv h.2.2.2⟩
theorem tX.warm {X : String} {s U : State} (hW : s.WarmedH U.vm) (h : tX X s) : tX X U := ⟨va_Nw.warmC hW h.1, va_Nw.warmD hW h.2.1, va_Nw.warmD hW h.2.2.1, va_Nw.warmD hW h.2.2.2⟩
theorem tR.same {ks : List (Nat × String)} {u U : State} (hv : U.vm = u.vm) (h : tR ks u) : tR ks U := fun q hq => by
  obtain ⟨sa, hs⟩ := h q hq
  exact ⟨sa, vk_R.same hv hs⟩
theorem tR.warm {ks : List (Nat × String)} {s U : State} (hW : s.WarmedH U.vm) (h : tR ks s) : tR ks U := fun q hq => by
  obtain ⟨sa, hs⟩ := h q hq
  exact ⟨sa, vk_R.warm hW hs⟩
theorem hat_iae {args : Array Value} {s : State} (hts : ∀ w ∈ allw, w.before args s = true) (h : tX R_IAE s) : ∀ w ∈ vx_atS R_PF 40 R_IAE supsX, w.before args s = true :=
  vx_hat (B := [.castable R_IAE R_IAE, .declares (Bundle.initS "java/lang/RuntimeException"), .declares (Bundle.initS "java/lang/Exception"), .declares (Bundle.initS Bundle.tN)]) (fun w hw => hts w (allw_of (xi_iae w (List.mem_filter.mp hw).1) (List.mem_filter.mp hw).2)) (by decide +kernel)
    (vx_c (va_tabs rfl rfl h.1) (vx_c (va_tabs rfl rfl h.2.1) (vx_c (va_tabs rfl rfl h.2.2.1) (vx_c (va_tabs rfl rfl h.2.2.2) vx_n))))
theorem hat_iob {args : Array Value} {s : State} (hts : ∀ w ∈ allw, w.before args s = true) (h : tX R_IOB s) : ∀ w ∈ vx_atS R_PF 141 R_IOB supsX, w.before args s = true :=
  vx_hat (B := [.castable R_IOB R_IOB, .declares (Bundle.initS "java/lang/RuntimeException"), .declares (Bundle.initS "java/lang/Exception"), .declares (Bundle.initS Bundle.tN)]) (fun w hw => hts w (allw_of (xi_iob w (List.mem_filter.mp hw).1) (List.mem_filter.mp hw).2)) (by decide +kernel)
    (vx_c (va_tabs rfl rfl h.1) (vx_c (va_tabs rfl rfl h.2.1) (vx_c (va_tabs rfl rfl h.2.2.1) (vx_c (va_tabs rfl rfl h.2.2.2) vx_n))))
def xE (D : va_G) (cl : List vw_C) (ws : va_W) (tys : List (ClassId × FieldType)) (A : Nat → Prop) (X : String) (px : Prop) : String → State → State → Prop := vx_X (S := Unit) (fun _ => px) (fun E _ t => E = X ∧ rw_E D cl ws tys A t) A
theorem xE_of {s : State} {H : Heap} {locs : List Loc} {D : va_G} {cl : List vw_C} {ws : va_W} {tys : List (ClassId × FieldType)} {A : Nat → Prop} {X : String} {px : Prop} (hP : va_P D cl ws H) (hK : va_K D cl tys s) (hD : va_D A ws) (hS : va_S A s.heap H locs) (hpx : px) :
    ∀ t : State, s.vm.Alike t.vm → H.size ≤ t.heap.size → (∀ q : Nat, q < H.size → t.heap[q]? = H[q]?) → xE D cl ws tys A X px X s t := fun t h1 h2 h3 =>
  ⟨(), hpx, ⟨rfl, hP.kept (fun k q h => h3 q.1 (hP k q h).lt), va_K.moved h1 hK, hD⟩, ⟨Nat.le_trans hS.1 h2, fun q q1 q2 => (h3 q (Nat.lt_of_lt_of_le q1 hS.1)).trans (hS.2.1 q q1 q2)⟩⟩
abbrev tB (D : va_G) (cl : List vw_C) (ws : va_W) (tys : List (ClassId × FieldType)) (sz : Nat) (X : String) (ks : List (Nat × String)) (U : State) : Prop := rw_B D cl ws tys sz U ∧ tX X U ∧ tR ks U ∧ tZ (va_A ws sz) U U.heap
