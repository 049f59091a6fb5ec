set_option maxHeartbeats 4000000 in
set_option maxRecDepth 100000 in
theorem c_leftOf (l : Launch) (dC : Nat → ClassId) (dI : Nat → Nat → Nat) (a0 : Int32) (K : Int) (g0 : a0.toInt = K) (hK : 0 ≤ K) : Met l y_Place_leftOf (.code y_Place_leftOf b_Place_leftOf 1 (some .int) :: allw) ({ frames := 0, cells := 0, slots := 0, locals := 0 }) (va_Pc [.int a0] (ro_B (dC, dI) vwCl [] [])) (va_Qi (fun (r : Int32) (_ : Unit) => r.toInt = K / 8192 % 512) (fun _ _ => True) (fun _ => False)) 0 0 (fun _ => False) := by
  refine Met.ofW (cc := b_Place_leftOf) (maxL := 1) (ret := (some .int)) (by decide) rfl ?_
  intro p e s m args below meth c s₁ B hml hv
  obtain ⟨rfl, hP, hK⟩ := hv
  have hx := B.exec
  have hb := B.bytes
  have hr := B.returns
  have hts : ∀ w ∈ allw, w.before _ s = true := fun w h => atoms_spec (ws := .code y_Place_leftOf b_Place_leftOf 1 (some .int) :: allw) B.pre w (List.mem_cons_of_mem _ h)
  have hown : s.vm.findClass R_Place = some m.cls := findClass_of_methodNamed B.named
  have hlocks := B.notSynchronized
  have hS : va_S (fun _ => False) s.heap s.heap [] := va_S.rf
  have hP : va_P (dC, dI) vwCl [] s.heap := hP
  have hl := lv_entry ([.int a0]) (n := 1) (Nat.le_of_ble_eq_true rfl)
  rw [lg_entry_eq]
  generalize (lg_sl ([.int a0]) ++ List.replicate (1 - (lg_sl ([.int a0])).length) Slot.unset).toArray = ls at hl ⊢
  have hl : lv_has ls 1 [(0, .int a0)] := hl
  refine lv_iload_n hx hb d_Place_leftOf_0 rfl (lv_at hl 0 rfl) ?_
  refine lv_bipush (v := 13) hx hb d_Place_leftOf_1 (by decide) ?_
  refine lv_ishr hx hb d_Place_leftOf_3 ?_
  refine lv_topi (fun v3 e3 => ?_)
  have h3 : v3.toInt = K / 8192 := by rw [e3]; exact ti_shk 13 8192 (by decide) (by decide) g0
  refine lv_sipush (v := 511) hx hb d_Place_leftOf_4 (by decide) ?_
  refine lv_iand hx hb d_Place_leftOf_7 ?_
  refine lv_topi (fun v7 e7 => ?_)
  have h7 : v7.toInt = K / 8192 % 512 := by rw [e7]; exact ti_andk 9 512 (by decide) h3 (by omega) (by decide) (by decide)
  have hpost : v7.toInt = K / 8192 % 512 := by
    exact h7
  exact W.iret (v := v7) hx hb hr (fun t ht hW => ⟨⟨v7, (), rfl, hpost, trivial⟩, hS.F ht⟩) hS.2.2 d_Place_leftOf_8

set_option maxHeartbeats 4000000 in
set_option maxRecDepth 100000 in
theorem c_topOf (l : Launch) (dC : Nat → ClassId) (dI : Nat → Nat → Nat) (a0 : Int32) (K : Int) (g0 : a0.toInt = K) (hK : 0 ≤ K) : Met l y_Place_topOf (.code y_Place_topOf b_Place_topOf 1 (some .int) :: allw) ({ frames := 0, cells := 0, slots := 0, locals := 0 }) (va_Pc [.int a0] (ro_B (dC, dI) vwCl [] [])) (va_Qi (fun (r : Int32) (_ : Unit) => r.toInt = K / 4194304 % 512) (fun _ _ => True) (fun _ => False)) 0 0 (fun _ => False) := by
  refine Met.ofW (cc := b_Place_topOf) (maxL := 1) (ret := (some .int)) (by decide) rfl ?_
  intro p e s m args below meth c s₁ B hml hv
  obtain ⟨rfl, hP, hK⟩ := hv
  have hx := B.exec
  have hb := B.bytes
  have hr := B.returns
  have hts : ∀ w ∈ allw, w.before _ s = true := fun w h => atoms_spec (ws := .code y_Place_topOf b_Place_topOf 1 (some .int) :: allw) B.pre w (List.mem_cons_of_mem _ h)
  have hown : s.vm.findClass R_Place = some m.cls := findClass_of_methodNamed B.named
  have hlocks := B.notSynchronized
  have hS : va_S (fun _ => False) s.heap s.heap [] := va_S.rf
  have hP : va_P (dC, dI) vwCl [] s.heap := hP
  have hl := lv_entry ([.int a0]) (n := 1) (Nat.le_of_ble_eq_true rfl)
  rw [lg_entry_eq]
  generalize (lg_sl ([.int a0]) ++ List.replicate (1 - (lg_sl ([.int a0])).length) Slot.unset).toArray = ls at hl ⊢
  have hl : lv_has ls 1 [(0, .int a0)] := hl
  refine lv_iload_n hx hb d_Place_topOf_0 rfl (lv_at hl 0 rfl) ?_
  refine lv_bipush (v := 22) hx hb d_Place_topOf_1 (by decide) ?_
  refine lv_ishr hx hb d_Place_topOf_3 ?_
  refine lv_topi (fun v3 e3 => ?_)
  have h3 : v3.toInt = K / 4194304 := by rw [e3]; exact ti_shk 22 4194304 (by decide) (by decide) g0
  refine lv_sipush (v := 511) hx hb d_Place_topOf_4 (by decide) ?_
  refine lv_iand hx hb d_Place_topOf_7 ?_
  refine lv_topi (fun v7 e7 => ?_)
  have h7 : v7.toInt = K / 4194304 % 512 := by rw [e7]; exact ti_andk 9 512 (by decide) h3 (by omega) (by decide) (by decide)
  have hpost : v7.toInt = K / 4194304 % 512 := by
    exact h7
  exact W.iret (v := v7) hx hb hr (fun t ht hW => ⟨⟨v7, (), rfl, hpost, trivial⟩, hS.F ht⟩) hS.2.2 d_Place_topOf_8

set_option maxHeartbeats 4000000 in
set_option maxRecDepth 100000 in
theorem c_moduleOf (l : Launch) (dC : Nat → ClassId) (dI : Nat → Nat → Nat) (a0 : Int32) (K : Int) (g0 : a0.toInt = K) (hK : 0 ≤ K) : Met l y_Place_moduleOf (.code y_Place_moduleOf b_Place_moduleOf 1 (some .int) :: allw) ({ frames := 0, cells := 0, slots := 0, locals := 0 }) (va_Pc [.int a0] (ro_B (dC, dI) vwCl [] [])) (va_Qi (fun (r : Int32) (_ : Unit) => r.toInt = K / 256 % 32) (fun _ _ => True) (fun _ => False)) 0 0 (fun _ => False) := by
  refine Met.ofW (cc := b_Place_moduleOf) (maxL := 1) (ret := (some .int)) (by decide) rfl ?_
  intro p e s m args below meth c s₁ B hml hv
  obtain ⟨rfl, hP, hK⟩ := hv
  have hx := B.exec
  have hb := B.bytes
  have hr := B.returns
  have hts : ∀ w ∈ allw, w.before _ s = true := fun w h => atoms_spec (ws := .code y_Place_moduleOf b_Place_moduleOf 1 (some .int) :: allw) B.pre w (List.mem_cons_of_mem _ h)
  have hown : s.vm.findClass R_Place = some m.cls := findClass_of_methodNamed B.named
  have hlocks := B.notSynchronized
  have hS : va_S (fun _ => False) s.heap s.heap [] := va_S.rf
  have hP : va_P (dC, dI) vwCl [] s.heap := hP
  have hl := lv_entry ([.int a0]) (n := 1) (Nat.le_of_ble_eq_true rfl)
  rw [lg_entry_eq]
  generalize (lg_sl ([.int a0]) ++ List.replicate (1 - (lg_sl ([.int a0])).length) Slot.unset).toArray = ls at hl ⊢
  have hl : lv_has ls 1 [(0, .int a0)] := hl
  refine lv_iload_n hx hb d_Place_moduleOf_0 rfl (lv_at hl 0 rfl) ?_
  refine lv_bipush (v := 8) hx hb d_Place_moduleOf_1 (by decide) ?_
  refine lv_ishr hx hb d_Place_moduleOf_3 ?_
  refine lv_topi (fun v3 e3 => ?_)
  have h3 : v3.toInt = K / 256 := by rw [e3]; exact ti_shk 8 256 (by decide) (by decide) g0
  refine lv_bipush (v := 31) hx hb d_Place_moduleOf_4 (by decide) ?_
  refine lv_iand hx hb d_Place_moduleOf_6 ?_
  refine lv_topi (fun v6 e6 => ?_)
  have h6 : v6.toInt = K / 256 % 32 := by rw [e6]; exact ti_andk 5 32 (by decide) h3 (by omega) (by decide) (by decide)
  have hpost : v6.toInt = K / 256 % 32 := by
    exact h6
  exact W.iret (v := v6) hx hb hr (fun t ht hW => ⟨⟨v6, (), rfl, hpost, trivial⟩, hS.F ht⟩) hS.2.2 d_Place_moduleOf_7

set_option maxHeartbeats 4000000 in
set_option maxRecDepth 100000 in
theorem c_versionOf (l : Launch) (dC : Nat → ClassId) (dI : Nat → Nat → Nat) (a0 : Int32) (K : Int) (g0 : a0.toInt = K) (hK : 0 ≤ K) : Met l y_Place_versionOf (.code y_Place_versionOf b_Place_versionOf 1 (some .int) :: allw) ({ frames := 0, cells := 0, slots := 0, locals := 0 }) (va_Pc [.int a0] (ro_B (dC, dI) vwCl [] [])) (va_Qi (fun (r : Int32) (_ : Unit) => r.toInt = K / 4 % 64) (fun _ _ => True) (fun _ => False)) 0 0 (fun _ => False) := by
  refine Met.ofW (cc := b_Place_versionOf) (maxL := 1) (ret := (some .int)) (by decide) rfl ?_
  intro p e s m args below meth c s₁ B hml hv
  obtain ⟨rfl, hP, hK⟩ := hv
  have hx := B.exec
  have hb := B.bytes
  have hr := B.returns
  have hts : ∀ w ∈ allw, w.before _ s = true := fun w h => atoms_spec (ws := .code y_Place_versionOf b_Place_versionOf 1 (some .int) :: allw) B.pre w (List.mem_cons_of_mem _ h)
  have hown : s.vm.findClass R_Place = some m.cls := findClass_of_methodNamed B.named
  have hlocks := B.notSynchronized
  have hS : va_S (fun _ => False) s.heap s.heap [] := va_S.rf
  have hP : va_P (dC, dI) vwCl [] s.heap := hP
  have hl := lv_entry ([.int a0]) (n := 1) (Nat.le_of_ble_eq_true rfl)
  rw [lg_entry_eq]
  generalize (lg_sl ([.int a0]) ++ List.replicate (1 - (lg_sl ([.int a0])).length) Slot.unset).toArray = ls at hl ⊢
  have hl : lv_has ls 1 [(0, .int a0)] := hl
  refine lv_iload_n hx hb d_Place_versionOf_0 rfl (lv_at hl 0 rfl) ?_
  refine lv_iconst (v := 2) hx hb d_Place_versionOf_1 (by decide) ?_
  refine lv_ishr hx hb d_Place_versionOf_2 ?_
  refine lv_topi (fun v2 e2 => ?_)
  have h2 : v2.toInt = K / 4 := by rw [e2]; exact ti_shk 2 4 (by decide) (by decide) g0
  refine lv_bipush (v := 63) hx hb d_Place_versionOf_3 (by decide) ?_
  refine lv_iand hx hb d_Place_versionOf_5 ?_
  refine lv_topi (fun v5 e5 => ?_)
  have h5 : v5.toInt = K / 4 % 64 := by rw [e5]; exact ti_andk 6 64 (by decide) h2 (by omega) (by decide) (by decide)
  have hpost : v5.toInt = K / 4 % 64 := by
    exact h5
  exact W.iret (v := v5) hx hb hr (fun t ht hW => ⟨⟨v5, (), rfl, hpost, trivial⟩, hS.F ht⟩) hS.2.2 d_Place_versionOf_6

set_option maxHeartbeats 4000000 in
set_option maxRecDepth 100000 in
theorem c_quarterOf (l : Launch) (dC : Nat → ClassId) (dI : Nat → Nat → Nat) (a0 : Int32) (K : Int) (g0 : a0.toInt = K) (hK : 0 ≤ K) : Met l y_Place_quarterOf (.code y_Place_quarterOf b_Place_quarterOf 1 (some .int) :: allw) ({ frames := 0, cells := 0, slots := 0, locals := 0 }) (va_Pc [.int a0] (ro_B (dC, dI) vwCl [] [])) (va_Qi (fun (r : Int32) (_ : Unit) => r.toInt = K % 4) (fun _ _ => True) (fun _ => False)) 0 0 (fun _ => False) := by
  refine Met.ofW (cc := b_Place_quarterOf) (maxL := 1) (ret := (some .int)) (by decide) rfl ?_
  intro p e s m args below meth c s₁ B hml hv
  obtain ⟨rfl, hP, hK⟩ := hv
  have hx := B.exec
  have hb := B.bytes
  have hr := B.returns
  have hts : ∀ w ∈ allw, w.before _ s = true := fun w h => atoms_spec (ws := .code y_Place_quarterOf b_Place_quarterOf 1 (some .int) :: allw) B.pre w (List.mem_cons_of_mem _ h)
  have hown : s.vm.findClass R_Place = some m.cls := findClass_of_methodNamed B.named
  have hlocks := B.notSynchronized
  have hS : va_S (fun _ => False) s.heap s.heap [] := va_S.rf
  have hP : va_P (dC, dI) vwCl [] s.heap := hP
  have hl := lv_entry ([.int a0]) (n := 1) (Nat.le_of_ble_eq_true rfl)
  rw [lg_entry_eq]
  generalize (lg_sl ([.int a0]) ++ List.replicate (1 - (lg_sl ([.int a0])).length) Slot.unset).toArray = ls at hl ⊢
  have hl : lv_has ls 1 [(0, .int a0)] := hl
  refine lv_iload_n hx hb d_Place_quarterOf_0 rfl (lv_at hl 0 rfl) ?_
  refine lv_iconst (v := 3) hx hb d_Place_quarterOf_1 (by decide) ?_
  refine lv_iand hx hb d_Place_quarterOf_2 ?_
  refine lv_topi (fun v2 e2 => ?_)
  have h2 : v2.toInt = K % 4 := by rw [e2]; exact ti_andk 2 4 (by decide) g0 (by omega) (by decide) (by decide)
  have hpost : v2.toInt = K % 4 := by
    exact h2
  exact W.iret (v := v2) hx hb hr (fun t ht hW => ⟨⟨v2, (), rfl, hpost, trivial⟩, hS.F ht⟩) hS.2.2 d_Place_quarterOf_3

set_option maxHeartbeats 4000000 in
set_option maxRecDepth 100000 in
theorem c_sizeOf (l : Launch) (dC : Nat → ClassId) (dI : Nat → Nat → Nat) (a0 : Int32) (v : Int) (g0 : a0.toInt = v) (hv0 : 0 ≤ v) (hv1 : v ≤ 1000) : Met l y_Place_sizeOf (.code y_Place_sizeOf b_Place_sizeOf 1 (some .int) :: allw) ({ frames := 0, cells := 0, slots := 0, locals := 0 }) (va_Pc [.int a0] (ro_B (dC, dI) vwCl [] [])) (va_Qi (fun (r : Int32) (_ : Unit) => r.toInt = 17 + 4 * v) (fun _ _ => True) (fun _ => False)) 0 0 (fun _ => False) := by
  refine Met.ofW (cc := b_Place_sizeOf) (maxL := 1) (ret := (some .int)) (by decide) rfl ?_
  intro p e s m args below meth c s₁ B hml hv
  obtain ⟨rfl, hP, hK⟩ := hv
  have hx := B.exec
  have hb := B.bytes
  have hr := B.returns
  have hts : ∀ w ∈ allw, w.before _ s = true := fun w h => atoms_spec (ws := .code y_Place_sizeOf b_Place_sizeOf 1 (some .int) :: allw) B.pre w (List.mem_cons_of_mem _ h)
  have hown : s.vm.findClass R_Place = some m.cls := findClass_of_methodNamed B.named
  have hlocks := B.notSynchronized
  have hS : va_S (fun _ => False) s.heap s.heap [] := va_S.rf
  have hP : va_P (dC, dI) vwCl [] s.heap := hP
  have hl := lv_entry ([.int a0]) (n := 1) (Nat.le_of_ble_eq_true rfl)
  rw [lg_entry_eq]
  generalize (lg_sl ([.int a0]) ++ List.replicate (1 - (lg_sl ([.int a0])).length) Slot.unset).toArray = ls at hl ⊢
  have hl : lv_has ls 1 [(0, .int a0)] := hl
  refine lv_bipush (v := 17) hx hb d_Place_sizeOf_0 (by decide) ?_
  refine lv_iconst (v := 4) hx hb d_Place_sizeOf_2 (by decide) ?_
  refine lv_iload_n hx hb d_Place_sizeOf_3 rfl (lv_at hl 0 rfl) ?_
  refine lv_imul hx hb d_Place_sizeOf_4 ?_
  refine lv_topi (fun v4 e4 => ?_)
  have h4 : v4.toInt = 4 * v := by rw [e4]; exact ti_mul (ti_k (by decide)) g0 (by omega) (by omega)
  refine lv_iadd hx hb d_Place_sizeOf_5 ?_
  refine lv_topi (fun v5 e5 => ?_)
  have h5 : v5.toInt = 17 + (4 * v) := by rw [e5]; exact ti_add (ti_k (by decide)) h4 (by omega) (by omega)
  have hpost : v5.toInt = 17 + 4 * v := by
    exact h5
  exact W.iret (v := v5) hx hb hr (fun t ht hW => ⟨⟨v5, (), rfl, hpost, trivial⟩, hS.F ht⟩) hS.2.2 d_Place_sizeOf_6

set_option maxHeartbeats 4000000 in
set_option maxRecDepth 100000 in
theorem c_keyOf (l : Launch) (dC : Nat → ClassId) (dI : Nat → Nat → Nat) (a0 a1 a2 : Int32) (x y pl : Int) (g0 : a0.toInt = x) (g1 : a1.toInt = y) (g2 : a2.toInt = pl) (x0 : 0 ≤ x) (x1 : x < 512) (y0 : 0 ≤ y) (y1 : y < 512) (p0 : 0 ≤ pl) (p1 : pl < 8192) : Met l y_Place_keyOf (.code y_Place_keyOf b_Place_keyOf 3 (some .int) :: allw) ({ frames := 0, cells := 0, slots := 0, locals := 0 }) (va_Pc [.int a0, .int a1, .int a2] (ro_B (dC, dI) vwCl [] [])) (va_Qi (fun (r : Int32) (_ : Unit) => r.toInt = y * 4194304 + x * 8192 + pl) (fun _ _ => True) (fun _ => False)) 0 0 (fun _ => False) := by
  refine Met.ofW (cc := b_Place_keyOf) (maxL := 3) (ret := (some .int)) (by decide) rfl ?_
  intro p e s m args below meth c s₁ B hml hv
  obtain ⟨rfl, hP, hK⟩ := hv
  have hx := B.exec
  have hb := B.bytes
  have hr := B.returns
  have hts : ∀ w ∈ allw, w.before _ s = true := fun w h => atoms_spec (ws := .code y_Place_keyOf b_Place_keyOf 3 (some .int) :: allw) B.pre w (List.mem_cons_of_mem _ h)
  have hown : s.vm.findClass R_Place = some m.cls := findClass_of_methodNamed B.named
  have hlocks := B.notSynchronized
  have hS : va_S (fun _ => False) s.heap s.heap [] := va_S.rf
  have hP : va_P (dC, dI) vwCl [] s.heap := hP
  have hl := lv_entry ([.int a0, .int a1, .int a2]) (n := 3) (Nat.le_of_ble_eq_true rfl)
  rw [lg_entry_eq]
  generalize (lg_sl ([.int a0, .int a1, .int a2]) ++ List.replicate (3 - (lg_sl ([.int a0, .int a1, .int a2])).length) Slot.unset).toArray = ls at hl ⊢
  have hl : lv_has ls 3 [(0, .int a0), (1, .int a1), (2, .int a2)] := hl
  refine lv_iload_n hx hb d_Place_keyOf_0 rfl (lv_at hl 1 rfl) ?_
  refine lv_bipush (v := 22) hx hb d_Place_keyOf_1 (by decide) ?_
  refine lv_ishl hx hb d_Place_keyOf_3 ?_
  refine lv_topi (fun v3 e3 => ?_)
  refine lv_iload_n hx hb d_Place_keyOf_4 rfl (lv_at hl 0 rfl) ?_
  refine lv_bipush (v := 13) hx hb d_Place_keyOf_5 (by decide) ?_
  refine lv_ishl hx hb d_Place_keyOf_7 ?_
  refine lv_topi (fun v7 e7 => ?_)
  refine lv_ior hx hb d_Place_keyOf_8 ?_
  refine lv_topi (fun v8 e8 => ?_)
  refine lv_iload_n hx hb d_Place_keyOf_9 rfl (lv_at hl 2 rfl) ?_
  refine lv_ior hx hb d_Place_keyOf_10 ?_
  refine lv_topi (fun v10 e10 => ?_)
  have hpost : v10.toInt = y * 4194304 + x * 8192 + pl := by
    rw [e10, e8, e3, e7]
    exact key_of g0 g1 g2 x0 x1 y0 y1 p0 p1
  exact W.iret (v := v10) hx hb hr (fun t ht hW => ⟨⟨v10, (), rfl, hpost, trivial⟩, hS.F ht⟩) hS.2.2 d_Place_keyOf_11

set_option maxHeartbeats 4000000 in
set_option maxRecDepth 100000 in
theorem c_haveCommonDot (l : Launch) (dC : Nat → ClassId) (dI : Nat → Nat → Nat) (a0 a1 : Int32) (KA KB : Int) (g0 : a0.toInt = KA) (g1 : a1.toInt = KB) (hA : 0 ≤ KA) (hB : 0 ≤ KB) : Met l y_Place_haveCommonDot (.code y_Place_haveCommonDot b_Place_haveCommonDot 4 (some .boolean) :: allw) ({ frames := 1, cells := 0, slots := 0, locals := 20 }) (va_Pc [.int a0, .int a1] (ro_B (dC, dI) vwCl [] [])) (va_Qi (fun (r : Int32) (_ : Unit) => isB r (comm KA KB)) (fun _ _ => True) (fun _ => False)) 0 0 (fun _ => False) := by
  refine Met.ofW (cc := b_Place_haveCommonDot) (maxL := 4) (ret := (some .boolean)) (by decide) rfl ?_
  intro p e s m args below meth c s₁ B hml hv
  obtain ⟨rfl, hP, hK⟩ := hv
  have hx := B.exec
  have hb := B.bytes
  have hr := B.returns
  have hts : ∀ w ∈ allw, w.before _ s = true := fun w h => atoms_spec (ws := .code y_Place_haveCommonDot b_Place_haveCommonDot 4 (some .boolean) :: allw) B.pre w (List.mem_cons_of_mem _ h)
  have hown : s.vm.findClass R_Place = some m.cls := findClass_of_methodNamed B.named
  have hlocks := B.notSynchronized
  have hS : va_S (fun _ => False) s.heap s.heap [] := va_S.rf
  have hP : va_P (dC, dI) vwCl [] s.heap := hP
  have hl := lv_entry ([.int a0, .int a1]) (n := 4) (Nat.le_of_ble_eq_true rfl)
  rw [lg_entry_eq]
  generalize (lg_sl ([.int a0, .int a1]) ++ List.replicate (4 - (lg_sl ([.int a0, .int a1])).length) Slot.unset).toArray = ls at hl ⊢
  have hl : lv_has ls 4 [(0, .int a0), (1, .int a1)] := hl
  have mA := mul_b2 (a := KA / 256 % 32) (b := 17 + 4 * (KA / 4 % 64)) (p := 31) (q := 269) (by omega) (by omega) (by omega) (by omega)
  have mA0 := Int.mul_nonneg (show 0 ≤ KA / 256 % 32 by omega) (show 0 ≤ 17 + 4 * (KA / 4 % 64) by omega)
  have mB := mul_b2 (a := KB / 256 % 32) (b := 17 + 4 * (KB / 4 % 64)) (p := 31) (q := 269) (by omega) (by omega) (by omega) (by omega)
  have mB0 := Int.mul_nonneg (show 0 ≤ KB / 256 % 32 by omega) (show 0 ≤ 17 + 4 * (KB / 4 % 64) by omega)
  refine lv_iload_n hx hb d_Place_haveCommonDot_0 rfl (lv_at hl 0 rfl) ?_
  have hPc := hP.sub (ws' := []) [] rfl
  have hKc := hK.sub (tys' := []) [] rfl
  refine va_calli (va_runS (As := [.int a0]) (rest := []) ⟨hx, hb, hml, hown, hts⟩ (c_moduleOf l dC dI a0 KA g0 hA) (aw_S 1 hts wd_315 wd_290 wd_13 wd_291 rfl rfl (by decide +kernel) ⟨Nat.le_of_ble_eq_true rfl, Nat.le_of_ble_eq_true rfl⟩) ⟨ro_blind, ro_pre hPc hKc⟩ rfl rfl hl.1 rfl (lv_room (Nat.le_of_ble_eq_true rfl)) d_Place_haveCommonDot_1 ⟨Nat.le_of_ble_eq_true rfl, Nat.le_of_ble_eq_true rfl⟩) hS (fun q _ h => h.elim) (fun q h => h.elim) (fun v1 _ t H1 locs ht hvm h1 hB hz1 hk1 hS => ?_)
  have hP := ro_keep hP hk1
  clear hPc hKc ht hvm hB hz1 hk1
  refine lv_iload_n hx hb d_Place_haveCommonDot_4 rfl (lv_at hl 0 rfl) ?_
  have hPc := hP.sub (ws' := []) [] rfl
  have hKc := hK.sub (tys' := []) [] rfl
  refine va_calli (va_runS (As := [.int a0]) (rest := [.int v1]) ⟨hx, hb, hml, hown, hts⟩ (c_versionOf l dC dI a0 KA g0 hA) (aw_S 1 hts wd_316 wd_293 wd_13 wd_294 rfl rfl (by decide +kernel) ⟨Nat.le_of_ble_eq_true rfl, Nat.le_of_ble_eq_true rfl⟩) ⟨ro_blind, ro_pre hPc hKc⟩ rfl rfl hl.1 rfl (lv_room (Nat.le_of_ble_eq_true rfl)) d_Place_haveCommonDot_5 ⟨Nat.le_of_ble_eq_true rfl, Nat.le_of_ble_eq_true rfl⟩) hS (fun q _ h => h.elim) (fun q h => h.elim) (fun v5 _ t H5 locs ht hvm h5 hB hz1 hk1 hS => ?_)
  have hP := ro_keep hP hk1
  clear hPc hKc ht hvm hB hz1 hk1
  have hPc := hP.sub (ws' := []) [] rfl
  have hKc := hK.sub (tys' := []) [] rfl
  refine va_calli (va_runS (As := [.int v5]) (rest := [.int v1]) ⟨hx, hb, hml, hown, hts⟩ (c_sizeOf l dC dI v5 (KA / 4 % 64) h5 (by omega) (by omega)) (aw_S 1 hts wd_317 wd_297 wd_13 wd_298 rfl rfl (by decide +kernel) ⟨Nat.le_of_ble_eq_true rfl, Nat.le_of_ble_eq_true rfl⟩) ⟨ro_blind, ro_pre hPc hKc⟩ rfl rfl hl.1 rfl (lv_room (Nat.le_of_ble_eq_true rfl)) d_Place_haveCommonDot_8 ⟨Nat.le_of_ble_eq_true rfl, Nat.le_of_ble_eq_true rfl⟩) hS (fun q _ h => h.elim) (fun q h => h.elim) (fun v8 _ t H8 locs ht hvm h8 hB hz1 hk1 hS => ?_)
  have hP := ro_keep hP hk1
  clear hPc hKc ht hvm hB hz1 hk1
  refine lv_imul hx hb d_Place_haveCommonDot_11 ?_
  refine lv_topi (fun v11 e11 => ?_)
  have h11 : v11.toInt = (KA / 256 % 32) * (17 + 4 * (KA / 4 % 64)) := by rw [e11]; exact ti_mul h1 h8 (by omega) (by omega)
  obtain ⟨LA, kLA⟩ : ∃ c : Int, c = ((KA / 256 % 32) * (17 + 4 * (KA / 4 % 64))) := ⟨_, rfl⟩
  have h11 : v11.toInt = LA := by rw [h11, kLA]
  refine lv_istore_n (lv' := [(2, .int v11), (0, .int a0), (1, .int a1)]) hx hb d_Place_haveCommonDot_12 rfl hl (by decide) rfl (fun ls hl => ?_)
  refine lv_iload_n hx hb d_Place_haveCommonDot_13 rfl (lv_at hl 2 rfl) ?_
  have hPc := hP.sub (ws' := []) [] rfl
  have hKc := hK.sub (tys' := []) [] rfl
  refine va_calli (va_runS (As := [.int a1]) (rest := []) ⟨hx, hb, hml, hown, hts⟩ (c_moduleOf l dC dI a1 KB g1 hB) (aw_S 1 hts wd_315 wd_290 wd_13 wd_291 rfl rfl (by decide +kernel) ⟨Nat.le_of_ble_eq_true rfl, Nat.le_of_ble_eq_true rfl⟩) ⟨ro_blind, ro_pre hPc hKc⟩ rfl rfl hl.1 rfl (lv_room (Nat.le_of_ble_eq_true rfl)) d_Place_haveCommonDot_14 ⟨Nat.le_of_ble_eq_true rfl, Nat.le_of_ble_eq_true rfl⟩) hS (fun q _ h => h.elim) (fun q h => h.elim) (fun v14 _ t H14 locs ht hvm h14 hB hz1 hk1 hS => ?_)
  have hP := ro_keep hP hk1
  clear hPc hKc ht hvm hB hz1 hk1
  refine lv_iload_n hx hb d_Place_haveCommonDot_17 rfl (lv_at hl 2 rfl) ?_
  have hPc := hP.sub (ws' := []) [] rfl
  have hKc := hK.sub (tys' := []) [] rfl
  refine va_calli (va_runS (As := [.int a1]) (rest := [.int v14]) ⟨hx, hb, hml, hown, hts⟩ (c_versionOf l dC dI a1 KB g1 hB) (aw_S 1 hts wd_316 wd_293 wd_13 wd_294 rfl rfl (by decide +kernel) ⟨Nat.le_of_ble_eq_true rfl, Nat.le_of_ble_eq_true rfl⟩) ⟨ro_blind, ro_pre hPc hKc⟩ rfl rfl hl.1 rfl (lv_room (Nat.le_of_ble_eq_true rfl)) d_Place_haveCommonDot_18 ⟨Nat.le_of_ble_eq_true rfl, Nat.le_of_ble_eq_true rfl⟩) hS (fun q _ h => h.elim) (fun q h => h.elim) (fun v18 _ t H18 locs ht hvm h18 hB hz1 hk1 hS => ?_)
  have hP := ro_keep hP hk1
  clear hPc hKc ht hvm hB hz1 hk1
  have hPc := hP.sub (ws' := []) [] rfl
  have hKc := hK.sub (tys' := []) [] rfl
  refine va_calli (va_runS (As := [.int v18]) (rest := [.int v14]) ⟨hx, hb, hml, hown, hts⟩ (c_sizeOf l dC dI v18 (KB / 4 % 64) h18 (by omega) (by omega)) (aw_S 1 hts wd_317 wd_297 wd_13 wd_298 rfl rfl (by decide +kernel) ⟨Nat.le_of_ble_eq_true rfl, Nat.le_of_ble_eq_true rfl⟩) ⟨ro_blind, ro_pre hPc hKc⟩ rfl rfl hl.1 rfl (lv_room (Nat.le_of_ble_eq_true rfl)) d_Place_haveCommonDot_21 ⟨Nat.le_of_ble_eq_true rfl, Nat.le_of_ble_eq_true rfl⟩) hS (fun q _ h => h.elim) (fun q h => h.elim) (fun v21 _ t H21 locs ht hvm h21 hB hz1 hk1 hS => ?_)
  have hP := ro_keep hP hk1
  clear hPc hKc ht hvm hB hz1 hk1
  refine lv_imul hx hb d_Place_haveCommonDot_24 ?_
  refine lv_topi (fun v24 e24 => ?_)
  have h24 : v24.toInt = (KB / 256 % 32) * (17 + 4 * (KB / 4 % 64)) := by rw [e24]; exact ti_mul h14 h21 (by omega) (by omega)
  obtain ⟨LB, kLB⟩ : ∃ c : Int, c = ((KB / 256 % 32) * (17 + 4 * (KB / 4 % 64))) := ⟨_, rfl⟩
  have h24 : v24.toInt = LB := by rw [h24, kLB]
  refine lv_istore_n (lv' := [(3, .int v24), (2, .int v11), (0, .int a0), (1, .int a1)]) hx hb d_Place_haveCommonDot_25 rfl hl (by decide) rfl (fun ls hl => ?_)
  refine lv_iload_n hx hb d_Place_haveCommonDot_26 rfl (lv_at hl 2 rfl) ?_
  have hPc := hP.sub (ws' := []) [] rfl
  have hKc := hK.sub (tys' := []) [] rfl
  refine va_calli (va_runS (As := [.int a0]) (rest := []) ⟨hx, hb, hml, hown, hts⟩ (c_leftOf l dC dI a0 KA g0 hA) (aw_S 1 hts wd_309 wd_310 wd_13 wd_311 rfl rfl (by decide +kernel) ⟨Nat.le_of_ble_eq_true rfl, Nat.le_of_ble_eq_true rfl⟩) ⟨ro_blind, ro_pre hPc hKc⟩ rfl rfl hl.1 rfl (lv_room (Nat.le_of_ble_eq_true rfl)) d_Place_haveCommonDot_27 ⟨Nat.le_of_ble_eq_true rfl, Nat.le_of_ble_eq_true rfl⟩) hS (fun q _ h => h.elim) (fun q h => h.elim) (fun v27 _ t H27 locs ht hvm h27 hB hz1 hk1 hS => ?_)
  have hP := ro_keep hP hk1
  clear hPc hKc ht hvm hB hz1 hk1
  refine lv_iload_n hx hb d_Place_haveCommonDot_30 rfl (lv_at hl 3 rfl) ?_
  have hPc := hP.sub (ws' := []) [] rfl
  have hKc := hK.sub (tys' := []) [] rfl
  refine va_calli (va_runS (As := [.int a1]) (rest := [.int v27]) ⟨hx, hb, hml, hown, hts⟩ (c_leftOf l dC dI a1 KB g1 hB) (aw_S 1 hts wd_309 wd_310 wd_13 wd_311 rfl rfl (by decide +kernel) ⟨Nat.le_of_ble_eq_true rfl, Nat.le_of_ble_eq_true rfl⟩) ⟨ro_blind, ro_pre hPc hKc⟩ rfl rfl hl.1 rfl (lv_room (Nat.le_of_ble_eq_true rfl)) d_Place_haveCommonDot_31 ⟨Nat.le_of_ble_eq_true rfl, Nat.le_of_ble_eq_true rfl⟩) hS (fun q _ h => h.elim) (fun q h => h.elim) (fun v31 _ t H31 locs ht hvm h31 hB hz1 hk1 hS => ?_)
  have hP := ro_keep hP hk1
  clear hPc hKc ht hvm hB hz1 hk1
  refine lv_iload_n hx hb d_Place_haveCommonDot_34 rfl (lv_at hl 0 rfl) ?_
  refine lv_iadd hx hb d_Place_haveCommonDot_35 ?_
  refine lv_topi (fun v35 e35 => ?_)
  have h35 : v35.toInt = (KB / 8192 % 512) + LB := by rw [e35]; exact ti_add h31 h24 (by omega) (by omega)
  refine lv_icmp_ge (tgt := 82) hx hb d_Place_haveCommonDot_36 (by decide) (fun c36 => ?_) (fun c36 => ?_)
  · skip
    have c36 : ((KB / 8192 % 512) + LB) ≤ (KA / 8192 % 512) := (ti_le h35 h27).mp c36
    refine lv_iconst (v := 0) hx hb d_Place_haveCommonDot_82 (by decide) ?_
    have hpost : isB 0 (comm KA KB) := by
      refine Or.inr ⟨rfl, ?_⟩
      unfold comm klen
      rw [← kLA, ← kLB]
      omega
    exact W.zret (v := 0) hx hb hr (by decide) (fun t ht hW => ⟨⟨0, (), rfl, hpost, trivial⟩, hS.F ht⟩) hS.2.2 d_Place_haveCommonDot_83
  · skip
    have c36 : ¬ (((KB / 8192 % 512) + LB) ≤ (KA / 8192 % 512)) := fun q => c36 ((ti_le h35 h27).mpr q)
    refine lv_iload_n hx hb d_Place_haveCommonDot_39 rfl (lv_at hl 3 rfl) ?_
    have hPc := hP.sub (ws' := []) [] rfl
    have hKc := hK.sub (tys' := []) [] rfl
    refine va_calli (va_runS (As := [.int a1]) (rest := []) ⟨hx, hb, hml, hown, hts⟩ (c_leftOf l dC dI a1 KB g1 hB) (aw_S 1 hts wd_309 wd_310 wd_13 wd_311 rfl rfl (by decide +kernel) ⟨Nat.le_of_ble_eq_true rfl, Nat.le_of_ble_eq_true rfl⟩) ⟨ro_blind, ro_pre hPc hKc⟩ rfl rfl hl.1 rfl (lv_room (Nat.le_of_ble_eq_true rfl)) d_Place_haveCommonDot_40 ⟨Nat.le_of_ble_eq_true rfl, Nat.le_of_ble_eq_true rfl⟩) hS (fun q _ h => h.elim) (fun q h => h.elim) (fun v40 _ t H40 locs ht hvm h40 hB hz1 hk1 hS => ?_)
    have hP := ro_keep hP hk1
    clear hPc hKc ht hvm hB hz1 hk1
    refine lv_iload_n hx hb d_Place_haveCommonDot_43 rfl (lv_at hl 2 rfl) ?_
    have hPc := hP.sub (ws' := []) [] rfl
    have hKc := hK.sub (tys' := []) [] rfl
    refine va_calli (va_runS (As := [.int a0]) (rest := [.int v40]) ⟨hx, hb, hml, hown, hts⟩ (c_leftOf l dC dI a0 KA g0 hA) (aw_S 1 hts wd_309 wd_310 wd_13 wd_311 rfl rfl (by decide +kernel) ⟨Nat.le_of_ble_eq_true rfl, Nat.le_of_ble_eq_true rfl⟩) ⟨ro_blind, ro_pre hPc hKc⟩ rfl rfl hl.1 rfl (lv_room (Nat.le_of_ble_eq_true rfl)) d_Place_haveCommonDot_44 ⟨Nat.le_of_ble_eq_true rfl, Nat.le_of_ble_eq_true rfl⟩) hS (fun q _ h => h.elim) (fun q h => h.elim) (fun v44 _ t H44 locs ht hvm h44 hB hz1 hk1 hS => ?_)
    have hP := ro_keep hP hk1
    clear hPc hKc ht hvm hB hz1 hk1
    refine lv_iload_n hx hb d_Place_haveCommonDot_47 rfl (lv_at hl 1 rfl) ?_
    refine lv_iadd hx hb d_Place_haveCommonDot_48 ?_
    refine lv_topi (fun v48 e48 => ?_)
    have h48 : v48.toInt = (KA / 8192 % 512) + LA := by rw [e48]; exact ti_add h44 h11 (by omega) (by omega)
    refine lv_icmp_ge (tgt := 82) hx hb d_Place_haveCommonDot_49 (by decide) (fun c49 => ?_) (fun c49 => ?_)
    · skip
      have c49 : ((KA / 8192 % 512) + LA) ≤ (KB / 8192 % 512) := (ti_le h48 h40).mp c49
      refine lv_iconst (v := 0) hx hb d_Place_haveCommonDot_82 (by decide) ?_
      have hpost : isB 0 (comm KA KB) := by
        refine Or.inr ⟨rfl, ?_⟩
        unfold comm klen
        rw [← kLA, ← kLB]
        omega
      exact W.zret (v := 0) hx hb hr (by decide) (fun t ht hW => ⟨⟨0, (), rfl, hpost, trivial⟩, hS.F ht⟩) hS.2.2 d_Place_haveCommonDot_83
    · skip
      have c49 : ¬ (((KA / 8192 % 512) + LA) ≤ (KB / 8192 % 512)) := fun q => c49 ((ti_le h48 h40).mpr q)
      refine lv_iload_n hx hb d_Place_haveCommonDot_52 rfl (lv_at hl 2 rfl) ?_
      have hPc := hP.sub (ws' := []) [] rfl
      have hKc := hK.sub (tys' := []) [] rfl
      refine va_calli (va_runS (As := [.int a0]) (rest := []) ⟨hx, hb, hml, hown, hts⟩ (c_topOf l dC dI a0 KA g0 hA) (aw_S 1 hts wd_312 wd_313 wd_13 wd_314 rfl rfl (by decide +kernel) ⟨Nat.le_of_ble_eq_true rfl, Nat.le_of_ble_eq_true rfl⟩) ⟨ro_blind, ro_pre hPc hKc⟩ rfl rfl hl.1 rfl (lv_room (Nat.le_of_ble_eq_true rfl)) d_Place_haveCommonDot_53 ⟨Nat.le_of_ble_eq_true rfl, Nat.le_of_ble_eq_true rfl⟩) hS (fun q _ h => h.elim) (fun q h => h.elim) (fun v53 _ t H53 locs ht hvm h53 hB hz1 hk1 hS => ?_)
      have hP := ro_keep hP hk1
      clear hPc hKc ht hvm hB hz1 hk1
      refine lv_iload_n hx hb d_Place_haveCommonDot_56 rfl (lv_at hl 3 rfl) ?_
      have hPc := hP.sub (ws' := []) [] rfl
      have hKc := hK.sub (tys' := []) [] rfl
      refine va_calli (va_runS (As := [.int a1]) (rest := [.int v53]) ⟨hx, hb, hml, hown, hts⟩ (c_topOf l dC dI a1 KB g1 hB) (aw_S 1 hts wd_312 wd_313 wd_13 wd_314 rfl rfl (by decide +kernel) ⟨Nat.le_of_ble_eq_true rfl, Nat.le_of_ble_eq_true rfl⟩) ⟨ro_blind, ro_pre hPc hKc⟩ rfl rfl hl.1 rfl (lv_room (Nat.le_of_ble_eq_true rfl)) d_Place_haveCommonDot_57 ⟨Nat.le_of_ble_eq_true rfl, Nat.le_of_ble_eq_true rfl⟩) hS (fun q _ h => h.elim) (fun q h => h.elim) (fun v57 _ t H57 locs ht hvm h57 hB hz1 hk1 hS => ?_)
      have hP := ro_keep hP hk1
      clear hPc hKc ht hvm hB hz1 hk1
      refine lv_iload_n hx hb d_Place_haveCommonDot_60 rfl (lv_at hl 0 rfl) ?_
      refine lv_iadd hx hb d_Place_haveCommonDot_61 ?_
      refine lv_topi (fun v61 e61 => ?_)
      have h61 : v61.toInt = (KB / 4194304 % 512) + LB := by rw [e61]; exact ti_add h57 h24 (by omega) (by omega)
      refine lv_icmp_ge (tgt := 82) hx hb d_Place_haveCommonDot_62 (by decide) (fun c62 => ?_) (fun c62 => ?_)
      · skip
        have c62 : ((KB / 4194304 % 512) + LB) ≤ (KA / 4194304 % 512) := (ti_le h61 h53).mp c62
        refine lv_iconst (v := 0) hx hb d_Place_haveCommonDot_82 (by decide) ?_
        have hpost : isB 0 (comm KA KB) := by
          refine Or.inr ⟨rfl, ?_⟩
          unfold comm klen
          rw [← kLA, ← kLB]
          omega
        exact W.zret (v := 0) hx hb hr (by decide) (fun t ht hW => ⟨⟨0, (), rfl, hpost, trivial⟩, hS.F ht⟩) hS.2.2 d_Place_haveCommonDot_83
      · skip
        have c62 : ¬ (((KB / 4194304 % 512) + LB) ≤ (KA / 4194304 % 512)) := fun q => c62 ((ti_le h61 h53).mpr q)
        refine lv_iload_n hx hb d_Place_haveCommonDot_65 rfl (lv_at hl 3 rfl) ?_
        have hPc := hP.sub (ws' := []) [] rfl
        have hKc := hK.sub (tys' := []) [] rfl
        refine va_calli (va_runS (As := [.int a1]) (rest := []) ⟨hx, hb, hml, hown, hts⟩ (c_topOf l dC dI a1 KB g1 hB) (aw_S 1 hts wd_312 wd_313 wd_13 wd_314 rfl rfl (by decide +kernel) ⟨Nat.le_of_ble_eq_true rfl, Nat.le_of_ble_eq_true rfl⟩) ⟨ro_blind, ro_pre hPc hKc⟩ rfl rfl hl.1 rfl (lv_room (Nat.le_of_ble_eq_true rfl)) d_Place_haveCommonDot_66 ⟨Nat.le_of_ble_eq_true rfl, Nat.le_of_ble_eq_true rfl⟩) hS (fun q _ h => h.elim) (fun q h => h.elim) (fun v66 _ t H66 locs ht hvm h66 hB hz1 hk1 hS => ?_)
        have hP := ro_keep hP hk1
        clear hPc hKc ht hvm hB hz1 hk1
        refine lv_iload_n hx hb d_Place_haveCommonDot_69 rfl (lv_at hl 2 rfl) ?_
        have hPc := hP.sub (ws' := []) [] rfl
        have hKc := hK.sub (tys' := []) [] rfl
        refine va_calli (va_runS (As := [.int a0]) (rest := [.int v66]) ⟨hx, hb, hml, hown, hts⟩ (c_topOf l dC dI a0 KA g0 hA) (aw_S 1 hts wd_312 wd_313 wd_13 wd_314 rfl rfl (by decide +kernel) ⟨Nat.le_of_ble_eq_true rfl, Nat.le_of_ble_eq_true rfl⟩) ⟨ro_blind, ro_pre hPc hKc⟩ rfl rfl hl.1 rfl (lv_room (Nat.le_of_ble_eq_true rfl)) d_Place_haveCommonDot_70 ⟨Nat.le_of_ble_eq_true rfl, Nat.le_of_ble_eq_true rfl⟩) hS (fun q _ h => h.elim) (fun q h => h.elim) (fun v70 _ t H70 locs ht hvm h70 hB hz1 hk1 hS => ?_)
        have hP := ro_keep hP hk1
        clear hPc hKc ht hvm hB hz1 hk1
        refine lv_iload_n hx hb d_Place_haveCommonDot_73 rfl (lv_at hl 1 rfl) ?_
        refine lv_iadd hx hb d_Place_haveCommonDot_74 ?_
        refine lv_topi (fun v74 e74 => ?_)
        have h74 : v74.toInt = (KA / 4194304 % 512) + LA := by rw [e74]; exact ti_add h70 h11 (by omega) (by omega)
        refine lv_icmp_ge (tgt := 82) hx hb d_Place_haveCommonDot_75 (by decide) (fun c75 => ?_) (fun c75 => ?_)
        · skip
          have c75 : ((KA / 4194304 % 512) + LA) ≤ (KB / 4194304 % 512) := (ti_le h74 h66).mp c75
          refine lv_iconst (v := 0) hx hb d_Place_haveCommonDot_82 (by decide) ?_
          have hpost : isB 0 (comm KA KB) := by
            refine Or.inr ⟨rfl, ?_⟩
            unfold comm klen
            rw [← kLA, ← kLB]
            omega
          exact W.zret (v := 0) hx hb hr (by decide) (fun t ht hW => ⟨⟨0, (), rfl, hpost, trivial⟩, hS.F ht⟩) hS.2.2 d_Place_haveCommonDot_83
        · skip
          have c75 : ¬ (((KA / 4194304 % 512) + LA) ≤ (KB / 4194304 % 512)) := fun q => c75 ((ti_le h74 h66).mpr q)
          refine lv_iconst (v := 1) hx hb d_Place_haveCommonDot_78 (by decide) ?_
          refine lv_goto (tgt := 83) hx hb d_Place_haveCommonDot_79 (by decide) ?_
          have hpost : isB 1 (comm KA KB) := by
            refine Or.inl ⟨rfl, ?_⟩
            unfold comm klen
            rw [← kLA, ← kLB]
            omega
          exact W.zret (v := 1) hx hb hr (by decide) (fun t ht hW => ⟨⟨1, (), rfl, hpost, trivial⟩, hS.F ht⟩) hS.2.2 d_Place_haveCommonDot_83

set_option maxHeartbeats 4000000 in
set_option maxRecDepth 100000 in
theorem c_hasModule (l : Launch) (dC : Nat → ClassId) (dI : Nat → Nat → Nat) (ho : Nat) (ol ot om os oq : Int32) (L T M S Q : Int) (hol : ol.toInt = L) (hot : ot.toInt = T) (hom : om.toInt = M) (hos : os.toInt = S) (hoq : oq.toInt = Q) (a1 a2 : Int32) (i j : Int) (g1 : a1.toInt = i) (g2 : a2.toInt = j) : Met l y_Place_hasModule (.code y_Place_hasModule b_Place_hasModule 3 (some .boolean) :: allw) ({ frames := 0, cells := 0, slots := 0, locals := 0 }) (va_Pc [.ref ho, .int a1, .int a2] (ro_B (dC, dI) vwCl [(ho, .inr (1, [.int ol, .int ot, .int om, .int os, .int oq]))] [])) (va_Qi (fun (r : Int32) (_ : Unit) => isB r (0 ≤ i ∧ i < S ∧ 0 ≤ j ∧ j < S)) (fun _ _ => True) (fun _ => False)) 0 0 (fun _ => False) := by
  refine Met.ofW (cc := b_Place_hasModule) (maxL := 3) (ret := (some .boolean)) (by decide) rfl ?_
  intro p e s m args below meth c s₁ B hml hv
  obtain ⟨rfl, hP, hK⟩ := hv
  have hx := B.exec
  have hb := B.bytes
  have hr := B.returns
  have hts : ∀ w ∈ allw, w.before _ s = true := fun w h => atoms_spec (ws := .code y_Place_hasModule b_Place_hasModule 3 (some .boolean) :: allw) B.pre w (List.mem_cons_of_mem _ h)
  have hown : s.vm.findClass R_Place = some m.cls := findClass_of_methodNamed B.named
  have hlocks := B.notSynchronized
  have hS : va_S (fun _ => False) s.heap s.heap [] := va_S.rf
  have hP : va_P (dC, dI) vwCl [(ho, .inr (1, [.int ol, .int ot, .int om, .int os, .int oq]))] s.heap := hP
  have hl := lv_entry ([.ref ho, .int a1, .int a2]) (n := 3) (Nat.le_of_ble_eq_true rfl)
  rw [lg_entry_eq]
  generalize (lg_sl ([.ref ho, .int a1, .int a2]) ++ List.replicate (3 - (lg_sl ([.ref ho, .int a1, .int a2])).length) Slot.unset).toArray = ls at hl ⊢
  have hl : lv_has ls 3 [(0, .ref ho), (1, .int a1), (2, .int a2)] := hl
  refine lv_iload_n hx hb d_Place_hasModule_0 rfl (lv_at hl 1 rfl) ?_
  refine lv_if_lt (tgt := 28) hx hb d_Place_hasModule_1 (by decide) (fun c1 => ?_) (fun c1 => ?_)
  · skip
    have c1 : i < 0 := (ti_lt g1 (ti_k (by decide))).mp c1
    refine lv_iconst (v := 0) hx hb d_Place_hasModule_28 (by decide) ?_
    have hpost : isB 0 (0 ≤ i ∧ i < S ∧ 0 ≤ j ∧ j < S) := by
      exact Or.inr ⟨rfl, by omega⟩
    exact W.zret (v := 0) hx hb hr (by decide) (fun t ht hW => ⟨⟨0, (), rfl, hpost, trivial⟩, hS.F ht⟩) hS.2.2 d_Place_hasModule_29
  · skip
    have c1 : ¬ (i < 0) := fun q => c1 ((ti_lt g1 (ti_k (by decide))).mpr q)
    refine lv_iload_n hx hb d_Place_hasModule_4 rfl (lv_at hl 1 rfl) ?_
    refine lv_aload_n hx hb d_Place_hasModule_5 rfl (lv_at hl 0 rfl) ?_
    refine va_get (D := (dC, dI)) (ci := 1) (v := .int os) (C := R_Place) (T := T_Place) (N := 5) hx hb hts i_Place hown hK hP 0 rfl rfl 3 (by decide) (hts _ wd_325) (fun _ h9 => h9) rfl d_Place_hasModule_6 ?_
    refine lv_icmp_ge (tgt := 28) hx hb d_Place_hasModule_9 (by decide) (fun c9 => ?_) (fun c9 => ?_)
    · skip
      have c9 : S ≤ i := (ti_le hos g1).mp c9
      refine lv_iconst (v := 0) hx hb d_Place_hasModule_28 (by decide) ?_
      have hpost : isB 0 (0 ≤ i ∧ i < S ∧ 0 ≤ j ∧ j < S) := by
        exact Or.inr ⟨rfl, by omega⟩
      exact W.zret (v := 0) hx hb hr (by decide) (fun t ht hW => ⟨⟨0, (), rfl, hpost, trivial⟩, hS.F ht⟩) hS.2.2 d_Place_hasModule_29
    · skip
      have c9 : ¬ (S ≤ i) := fun q => c9 ((ti_le hos g1).mpr q)
      refine lv_iload_n hx hb d_Place_hasModule_12 rfl (lv_at hl 2 rfl) ?_
      refine lv_if_lt (tgt := 28) hx hb d_Place_hasModule_13 (by decide) (fun c13 => ?_) (fun c13 => ?_)
      · skip
        have c13 : j < 0 := (ti_lt g2 (ti_k (by decide))).mp c13
        refine lv_iconst (v := 0) hx hb d_Place_hasModule_28 (by decide) ?_
        have hpost : isB 0 (0 ≤ i ∧ i < S ∧ 0 ≤ j ∧ j < S) := by
          exact Or.inr ⟨rfl, by omega⟩
        exact W.zret (v := 0) hx hb hr (by decide) (fun t ht hW => ⟨⟨0, (), rfl, hpost, trivial⟩, hS.F ht⟩) hS.2.2 d_Place_hasModule_29
      · skip
        have c13 : ¬ (j < 0) := fun q => c13 ((ti_lt g2 (ti_k (by decide))).mpr q)
        refine lv_iload_n hx hb d_Place_hasModule_16 rfl (lv_at hl 2 rfl) ?_
        refine lv_aload_n hx hb d_Place_hasModule_17 rfl (lv_at hl 0 rfl) ?_
        refine va_get (D := (dC, dI)) (ci := 1) (v := .int os) (C := R_Place) (T := T_Place) (N := 5) hx hb hts i_Place hown hK hP 0 rfl rfl 3 (by decide) (hts _ wd_325) (fun _ h9 => h9) rfl d_Place_hasModule_18 ?_
        refine lv_icmp_ge (tgt := 28) hx hb d_Place_hasModule_21 (by decide) (fun c21 => ?_) (fun c21 => ?_)
        · skip
          have c21 : S ≤ j := (ti_le hos g2).mp c21
          refine lv_iconst (v := 0) hx hb d_Place_hasModule_28 (by decide) ?_
          have hpost : isB 0 (0 ≤ i ∧ i < S ∧ 0 ≤ j ∧ j < S) := by
            exact Or.inr ⟨rfl, by omega⟩
          exact W.zret (v := 0) hx hb hr (by decide) (fun t ht hW => ⟨⟨0, (), rfl, hpost, trivial⟩, hS.F ht⟩) hS.2.2 d_Place_hasModule_29
        · skip
          have c21 : ¬ (S ≤ j) := fun q => c21 ((ti_le hos g2).mpr q)
          refine lv_iconst (v := 1) hx hb d_Place_hasModule_24 (by decide) ?_
          refine lv_goto (tgt := 29) hx hb d_Place_hasModule_25 (by decide) ?_
          have hpost : isB 1 (0 ≤ i ∧ i < S ∧ 0 ≤ j ∧ j < S) := by
            exact Or.inl ⟨rfl, by omega⟩
          exact W.zret (v := 1) hx hb hr (by decide) (fun t ht hW => ⟨⟨1, (), rfl, hpost, trivial⟩, hS.F ht⟩) hS.2.2 d_Place_hasModule_29

set_option maxHeartbeats 4000000 in
set_option maxRecDepth 100000 in
theorem c_blockLeft (l : Launch) (dC : Nat → ClassId) (dI : Nat → Nat → Nat) (ho : Nat) (ol ot om os oq : Int32) (L T M S Q : Int) (hol : ol.toInt = L) (hot : ot.toInt = T) (hom : om.toInt = M) (hos : os.toInt = S) (hoq : oq.toInt = Q) (a1 a2 : Int32) (i j : Int) (g1 : a1.toInt = i) (g2 : a2.toInt = j) (i0 : 0 ≤ i) (i1 : i < S) (j0 : 0 ≤ j) (j1 : j < S) (hS7 : S ≤ 177) (hM0 : 1 ≤ M) (hM1 : M ≤ 16) (hL0 : 0 ≤ L) (hL1 : L ≤ 512) (hT0 : 0 ≤ T) (hT1 : T ≤ 512) : Met l y_Place_blockLeft (.code y_Place_blockLeft b_Place_blockLeft 5 (some .int) :: allw) ({ frames := 0, cells := 0, slots := 0, locals := 0 }) (va_Pc [.ref ho, .int a1, .int a2] (ro_B (dC, dI) vwCl [(ho, .inr (1, [.int ol, .int ot, .int om, .int os, .int oq]))] [])) (va_Qi (fun (r : Int32) (_ : Unit) => r.toInt = L + M * bA S Q i j) (fun _ _ => True) (fun _ => False)) 0 0 (fun _ => False) := by
  refine Met.ofW (cc := b_Place_blockLeft) (maxL := 5) (ret := (some .int)) (by decide) rfl ?_
  intro p e s m args below meth c s₁ B hml hv
  obtain ⟨rfl, hP, hK⟩ := hv
  have hx := B.exec
  have hb := B.bytes
  have hr := B.returns
  have hts : ∀ w ∈ allw, w.before _ s = true := fun w h => atoms_spec (ws := .code y_Place_blockLeft b_Place_blockLeft 5 (some .int) :: allw) B.pre w (List.mem_cons_of_mem _ h)
  have hown : s.vm.findClass R_Place = some m.cls := findClass_of_methodNamed B.named
  have hlocks := B.notSynchronized
  have hS : va_S (fun _ => False) s.heap s.heap [] := va_S.rf
  have hP : va_P (dC, dI) vwCl [(ho, .inr (1, [.int ol, .int ot, .int om, .int os, .int oq]))] s.heap := hP
  have hl := lv_entry ([.ref ho, .int a1, .int a2]) (n := 5) (Nat.le_of_ble_eq_true rfl)
  rw [lg_entry_eq]
  generalize (lg_sl ([.ref ho, .int a1, .int a2]) ++ List.replicate (5 - (lg_sl ([.ref ho, .int a1, .int a2])).length) Slot.unset).toArray = ls at hl ⊢
  have hl : lv_has ls 5 [(0, .ref ho), (1, .int a1), (2, .int a2)] := hl
  refine lv_aload_n hx hb d_Place_blockLeft_0 rfl (lv_at hl 0 rfl) ?_
  refine va_get (D := (dC, dI)) (ci := 1) (v := .int os) (C := R_Place) (T := T_Place) (N := 5) hx hb hts i_Place hown hK hP 0 rfl rfl 3 (by decide) (hts _ wd_325) (fun _ h9 => h9) rfl d_Place_blockLeft_1 ?_
  refine lv_iconst (v := 1) hx hb d_Place_blockLeft_4 (by decide) ?_
  refine lv_isub hx hb d_Place_blockLeft_5 ?_
  refine lv_topi (fun v5 e5 => ?_)
  have h5 : v5.toInt = S - 1 := by rw [e5]; exact ti_sub hos (ti_k (by decide)) (by omega) (by omega)
  refine lv_istore_n (lv' := [(3, .int v5), (0, .ref ho), (1, .int a1), (2, .int a2)]) hx hb d_Place_blockLeft_6 rfl hl (by decide) rfl (fun ls hl => ?_)
  refine lv_aload_n hx hb d_Place_blockLeft_7 rfl (lv_at hl 1 rfl) ?_
  refine va_get (D := (dC, dI)) (ci := 1) (v := .int oq) (C := R_Place) (T := T_Place) (N := 5) hx hb hts i_Place hown hK hP 0 rfl rfl 4 (by decide) (hts _ wd_327) (fun _ h9 => h9) rfl d_Place_blockLeft_8 ?_
  refine lv_if_ne (tgt := 18) hx hb d_Place_blockLeft_11 (by decide) (fun c11 => ?_) (fun c11 => ?_)
  · skip
    have c11 : ¬ (Q = 0) := fun q => c11 ((ti_eq hoq (ti_k (by decide))).mpr q)
    refine lv_aload_n hx hb d_Place_blockLeft_18 rfl (lv_at hl 1 rfl) ?_
    refine va_get (D := (dC, dI)) (ci := 1) (v := .int oq) (C := R_Place) (T := T_Place) (N := 5) hx hb hts i_Place hown hK hP 0 rfl rfl 4 (by decide) (hts _ wd_327) (fun _ h9 => h9) rfl d_Place_blockLeft_19 ?_
    refine lv_iconst (v := 1) hx hb d_Place_blockLeft_22 (by decide) ?_
    refine lv_icmp_ne (tgt := 32) hx hb d_Place_blockLeft_23 (by decide) (fun c23 => ?_) (fun c23 => ?_)
    · skip
      have c23 : ¬ (Q = 1) := fun q => c23 ((ti_eq hoq (ti_k (by decide))).mpr q)
      refine lv_aload_n hx hb d_Place_blockLeft_32 rfl (lv_at hl 1 rfl) ?_
      refine va_get (D := (dC, dI)) (ci := 1) (v := .int oq) (C := R_Place) (T := T_Place) (N := 5) hx hb hts i_Place hown hK hP 0 rfl rfl 4 (by decide) (hts _ wd_327) (fun _ h9 => h9) rfl d_Place_blockLeft_33 ?_
      refine lv_iconst (v := 2) hx hb d_Place_blockLeft_36 (by decide) ?_
      refine lv_icmp_ne (tgt := 46) hx hb d_Place_blockLeft_37 (by decide) (fun c37 => ?_) (fun c37 => ?_)
      · skip
        have c37 : ¬ (Q = 2) := fun q => c37 ((ti_eq hoq (ti_k (by decide))).mpr q)
        refine lv_iload_n hx hb d_Place_blockLeft_46 rfl (lv_at hl 3 rfl) ?_
        refine lv_istore (lv' := [(4, .int a2), (3, .int v5), (0, .ref ho), (1, .int a1), (2, .int a2)]) hx hb d_Place_blockLeft_47 hl (by decide) rfl (fun ls hl => ?_)
        have mb := mul_b2 (a := M) (b := j) (p := 16) (q := 177) (by omega) (by omega) (by omega) (by omega)
        have mb0 := Int.mul_nonneg (show 0 ≤ M by omega) (show 0 ≤ j by omega)
        refine lv_aload_n hx hb d_Place_blockLeft_49 rfl (lv_at hl 2 rfl) ?_
        refine va_get (D := (dC, dI)) (ci := 1) (v := .int ol) (C := R_Place) (T := T_Place) (N := 5) hx hb hts i_Place hown hK hP 0 rfl rfl 0 (by decide) (hts _ wd_321) (fun _ h9 => h9) rfl d_Place_blockLeft_50 ?_
        refine lv_aload_n hx hb d_Place_blockLeft_53 rfl (lv_at hl 2 rfl) ?_
        refine va_get (D := (dC, dI)) (ci := 1) (v := .int om) (C := R_Place) (T := T_Place) (N := 5) hx hb hts i_Place hown hK hP 0 rfl rfl 2 (by decide) (hts _ wd_323) (fun _ h9 => h9) rfl d_Place_blockLeft_54 ?_
        refine lv_iload hx hb d_Place_blockLeft_57 (lv_at hl 0 rfl) ?_
        refine lv_imul hx hb d_Place_blockLeft_59 ?_
        refine lv_topi (fun v59 e59 => ?_)
        have h59 : v59.toInt = M * j := by rw [e59]; exact ti_mul hom g2 (by omega) (by omega)
        refine lv_iadd hx hb d_Place_blockLeft_60 ?_
        refine lv_topi (fun v60 e60 => ?_)
        have h60 : v60.toInt = L + (M * j) := by rw [e60]; exact ti_add hol h59 (by omega) (by omega)
        have hpost : v60.toInt = L + M * bA S Q i j := by
          rw [h60]
          unfold bA
          rw [if_neg c11, if_neg c23, if_neg c37]
        exact W.iret (v := v60) hx hb hr (fun t ht hW => ⟨⟨v60, (), rfl, hpost, trivial⟩, hS.F ht⟩) hS.2.2 d_Place_blockLeft_61
      · skip
        have c37 : Q = 2 := (ti_eq hoq (ti_k (by decide))).mp c37
        refine lv_iload_n hx hb d_Place_blockLeft_40 rfl (lv_at hl 0 rfl) ?_
        refine lv_iload_n hx hb d_Place_blockLeft_41 rfl (lv_at hl 2 rfl) ?_
        refine lv_isub hx hb d_Place_blockLeft_42 ?_
        refine lv_topi (fun v42 e42 => ?_)
        have h42 : v42.toInt = (S - 1) - i := by rw [e42]; exact ti_sub h5 g1 (by omega) (by omega)
        refine lv_goto (tgt := 47) hx hb d_Place_blockLeft_43 (by decide) ?_
        refine lv_istore (lv' := [(4, .int v42), (3, .int v5), (0, .ref ho), (1, .int a1), (2, .int a2)]) hx hb d_Place_blockLeft_47 hl (by decide) rfl (fun ls hl => ?_)
        have mb := mul_b2 (a := M) (b := ((S - 1) - i)) (p := 16) (q := 177) (by omega) (by omega) (by omega) (by omega)
        have mb0 := Int.mul_nonneg (show 0 ≤ M by omega) (show 0 ≤ ((S - 1) - i) by omega)
        refine lv_aload_n hx hb d_Place_blockLeft_49 rfl (lv_at hl 2 rfl) ?_
        refine va_get (D := (dC, dI)) (ci := 1) (v := .int ol) (C := R_Place) (T := T_Place) (N := 5) hx hb hts i_Place hown hK hP 0 rfl rfl 0 (by decide) (hts _ wd_321) (fun _ h9 => h9) rfl d_Place_blockLeft_50 ?_
        refine lv_aload_n hx hb d_Place_blockLeft_53 rfl (lv_at hl 2 rfl) ?_
        refine va_get (D := (dC, dI)) (ci := 1) (v := .int om) (C := R_Place) (T := T_Place) (N := 5) hx hb hts i_Place hown hK hP 0 rfl rfl 2 (by decide) (hts _ wd_323) (fun _ h9 => h9) rfl d_Place_blockLeft_54 ?_
        refine lv_iload hx hb d_Place_blockLeft_57 (lv_at hl 0 rfl) ?_
        refine lv_imul hx hb d_Place_blockLeft_59 ?_
        refine lv_topi (fun v59 e59 => ?_)
        have h59 : v59.toInt = M * ((S - 1) - i) := by rw [e59]; exact ti_mul hom h42 (by omega) (by omega)
        refine lv_iadd hx hb d_Place_blockLeft_60 ?_
        refine lv_topi (fun v60 e60 => ?_)
        have h60 : v60.toInt = L + (M * ((S - 1) - i)) := by rw [e60]; exact ti_add hol h59 (by omega) (by omega)
        have hpost : v60.toInt = L + M * bA S Q i j := by
          rw [h60]
          unfold bA
          rw [if_neg c11, if_neg c23, if_pos c37]
        exact W.iret (v := v60) hx hb hr (fun t ht hW => ⟨⟨v60, (), rfl, hpost, trivial⟩, hS.F ht⟩) hS.2.2 d_Place_blockLeft_61
    · skip
      have c23 : Q = 1 := (ti_eq hoq (ti_k (by decide))).mp c23
      refine lv_iload_n hx hb d_Place_blockLeft_26 rfl (lv_at hl 0 rfl) ?_
      refine lv_iload_n hx hb d_Place_blockLeft_27 rfl (lv_at hl 3 rfl) ?_
      refine lv_isub hx hb d_Place_blockLeft_28 ?_
      refine lv_topi (fun v28 e28 => ?_)
      have h28 : v28.toInt = (S - 1) - j := by rw [e28]; exact ti_sub h5 g2 (by omega) (by omega)
      refine lv_goto (tgt := 47) hx hb d_Place_blockLeft_29 (by decide) ?_
      refine lv_istore (lv' := [(4, .int v28), (3, .int v5), (0, .ref ho), (1, .int a1), (2, .int a2)]) hx hb d_Place_blockLeft_47 hl (by decide) rfl (fun ls hl => ?_)
      have mb := mul_b2 (a := M) (b := ((S - 1) - j)) (p := 16) (q := 177) (by omega) (by omega) (by omega) (by omega)
      have mb0 := Int.mul_nonneg (show 0 ≤ M by omega) (show 0 ≤ ((S - 1) - j) by omega)
      refine lv_aload_n hx hb d_Place_blockLeft_49 rfl (lv_at hl 2 rfl) ?_
      refine va_get (D := (dC, dI)) (ci := 1) (v := .int ol) (C := R_Place) (T := T_Place) (N := 5) hx hb hts i_Place hown hK hP 0 rfl rfl 0 (by decide) (hts _ wd_321) (fun _ h9 => h9) rfl d_Place_blockLeft_50 ?_
      refine lv_aload_n hx hb d_Place_blockLeft_53 rfl (lv_at hl 2 rfl) ?_
      refine va_get (D := (dC, dI)) (ci := 1) (v := .int om) (C := R_Place) (T := T_Place) (N := 5) hx hb hts i_Place hown hK hP 0 rfl rfl 2 (by decide) (hts _ wd_323) (fun _ h9 => h9) rfl d_Place_blockLeft_54 ?_
      refine lv_iload hx hb d_Place_blockLeft_57 (lv_at hl 0 rfl) ?_
      refine lv_imul hx hb d_Place_blockLeft_59 ?_
      refine lv_topi (fun v59 e59 => ?_)
      have h59 : v59.toInt = M * ((S - 1) - j) := by rw [e59]; exact ti_mul hom h28 (by omega) (by omega)
      refine lv_iadd hx hb d_Place_blockLeft_60 ?_
      refine lv_topi (fun v60 e60 => ?_)
      have h60 : v60.toInt = L + (M * ((S - 1) - j)) := by rw [e60]; exact ti_add hol h59 (by omega) (by omega)
      have hpost : v60.toInt = L + M * bA S Q i j := by
        rw [h60]
        unfold bA
        rw [if_neg c11, if_pos c23]
      exact W.iret (v := v60) hx hb hr (fun t ht hW => ⟨⟨v60, (), rfl, hpost, trivial⟩, hS.F ht⟩) hS.2.2 d_Place_blockLeft_61
  · skip
    have c11 : Q = 0 := (ti_eq hoq (ti_k (by decide))).mp c11
    refine lv_iload_n hx hb d_Place_blockLeft_14 rfl (lv_at hl 2 rfl) ?_
    refine lv_goto (tgt := 47) hx hb d_Place_blockLeft_15 (by decide) ?_
    refine lv_istore (lv' := [(4, .int a1), (3, .int v5), (0, .ref ho), (1, .int a1), (2, .int a2)]) hx hb d_Place_blockLeft_47 hl (by decide) rfl (fun ls hl => ?_)
    have mb := mul_b2 (a := M) (b := i) (p := 16) (q := 177) (by omega) (by omega) (by omega) (by omega)
    have mb0 := Int.mul_nonneg (show 0 ≤ M by omega) (show 0 ≤ i by omega)
    refine lv_aload_n hx hb d_Place_blockLeft_49 rfl (lv_at hl 2 rfl) ?_
    refine va_get (D := (dC, dI)) (ci := 1) (v := .int ol) (C := R_Place) (T := T_Place) (N := 5) hx hb hts i_Place hown hK hP 0 rfl rfl 0 (by decide) (hts _ wd_321) (fun _ h9 => h9) rfl d_Place_blockLeft_50 ?_
    refine lv_aload_n hx hb d_Place_blockLeft_53 rfl (lv_at hl 2 rfl) ?_
    refine va_get (D := (dC, dI)) (ci := 1) (v := .int om) (C := R_Place) (T := T_Place) (N := 5) hx hb hts i_Place hown hK hP 0 rfl rfl 2 (by decide) (hts _ wd_323) (fun _ h9 => h9) rfl d_Place_blockLeft_54 ?_
    refine lv_iload hx hb d_Place_blockLeft_57 (lv_at hl 0 rfl) ?_
    refine lv_imul hx hb d_Place_blockLeft_59 ?_
    refine lv_topi (fun v59 e59 => ?_)
    have h59 : v59.toInt = M * i := by rw [e59]; exact ti_mul hom g1 (by omega) (by omega)
    refine lv_iadd hx hb d_Place_blockLeft_60 ?_
    refine lv_topi (fun v60 e60 => ?_)
    have h60 : v60.toInt = L + (M * i) := by rw [e60]; exact ti_add hol h59 (by omega) (by omega)
    have hpost : v60.toInt = L + M * bA S Q i j := by
      rw [h60]
      unfold bA
      rw [if_pos c11]
    exact W.iret (v := v60) hx hb hr (fun t ht hW => ⟨⟨v60, (), rfl, hpost, trivial⟩, hS.F ht⟩) hS.2.2 d_Place_blockLeft_61

set_option maxHeartbeats 4000000 in
set_option maxRecDepth 100000 in
theorem c_blockTop (l : Launch) (dC : Nat → ClassId) (dI : Nat → Nat → Nat) (ho : Nat) (ol ot om os oq : Int32) (L T M S Q : Int) (hol : ol.toInt = L) (hot : ot.toInt = T) (hom : om.toInt = M) (hos : os.toInt = S) (hoq : oq.toInt = Q) (a1 a2 : Int32) (i j : Int) (g1 : a1.toInt = i) (g2 : a2.toInt = j) (i0 : 0 ≤ i) (i1 : i < S) (j0 : 0 ≤ j) (j1 : j < S) (hS7 : S ≤ 177) (hM0 : 1 ≤ M) (hM1 : M ≤ 16) (hL0 : 0 ≤ L) (hL1 : L ≤ 512) (hT0 : 0 ≤ T) (hT1 : T ≤ 512) : Met l y_Place_blockTop (.code y_Place_blockTop b_Place_blockTop 5 (some .int) :: allw) ({ frames := 0, cells := 0, slots := 0, locals := 0 }) (va_Pc [.ref ho, .int a1, .int a2] (ro_B (dC, dI) vwCl [(ho, .inr (1, [.int ol, .int ot, .int om, .int os, .int oq]))] [])) (va_Qi (fun (r : Int32) (_ : Unit) => r.toInt = T + M * bB S Q i j) (fun _ _ => True) (fun _ => False)) 0 0 (fun _ => False) := by
  refine Met.ofW (cc := b_Place_blockTop) (maxL := 5) (ret := (some .int)) (by decide) rfl ?_
  intro p e s m args below meth c s₁ B hml hv
  obtain ⟨rfl, hP, hK⟩ := hv
  have hx := B.exec
  have hb := B.bytes
  have hr := B.returns
  have hts : ∀ w ∈ allw, w.before _ s = true := fun w h => atoms_spec (ws := .code y_Place_blockTop b_Place_blockTop 5 (some .int) :: allw) B.pre w (List.mem_cons_of_mem _ h)
  have hown : s.vm.findClass R_Place = some m.cls := findClass_of_methodNamed B.named
  have hlocks := B.notSynchronized
  have hS : va_S (fun _ => False) s.heap s.heap [] := va_S.rf
  have hP : va_P (dC, dI) vwCl [(ho, .inr (1, [.int ol, .int ot, .int om, .int os, .int oq]))] s.heap := hP
  have hl := lv_entry ([.ref ho, .int a1, .int a2]) (n := 5) (Nat.le_of_ble_eq_true rfl)
  rw [lg_entry_eq]
  generalize (lg_sl ([.ref ho, .int a1, .int a2]) ++ List.replicate (5 - (lg_sl ([.ref ho, .int a1, .int a2])).length) Slot.unset).toArray = ls at hl ⊢
  have hl : lv_has ls 5 [(0, .ref ho), (1, .int a1), (2, .int a2)] := hl
  refine lv_aload_n hx hb d_Place_blockTop_0 rfl (lv_at hl 0 rfl) ?_
  refine va_get (D := (dC, dI)) (ci := 1) (v := .int os) (C := R_Place) (T := T_Place) (N := 5) hx hb hts i_Place hown hK hP 0 rfl rfl 3 (by decide) (hts _ wd_325) (fun _ h9 => h9) rfl d_Place_blockTop_1 ?_
  refine lv_iconst (v := 1) hx hb d_Place_blockTop_4 (by decide) ?_
  refine lv_isub hx hb d_Place_blockTop_5 ?_
  refine lv_topi (fun v5 e5 => ?_)
  have h5 : v5.toInt = S - 1 := by rw [e5]; exact ti_sub hos (ti_k (by decide)) (by omega) (by omega)
  refine lv_istore_n (lv' := [(3, .int v5), (0, .ref ho), (1, .int a1), (2, .int a2)]) hx hb d_Place_blockTop_6 rfl hl (by decide) rfl (fun ls hl => ?_)
  refine lv_aload_n hx hb d_Place_blockTop_7 rfl (lv_at hl 1 rfl) ?_
  refine va_get (D := (dC, dI)) (ci := 1) (v := .int oq) (C := R_Place) (T := T_Place) (N := 5) hx hb hts i_Place hown hK hP 0 rfl rfl 4 (by decide) (hts _ wd_327) (fun _ h9 => h9) rfl d_Place_blockTop_8 ?_
  refine lv_if_ne (tgt := 18) hx hb d_Place_blockTop_11 (by decide) (fun c11 => ?_) (fun c11 => ?_)
  · skip
    have c11 : ¬ (Q = 0) := fun q => c11 ((ti_eq hoq (ti_k (by decide))).mpr q)
    refine lv_aload_n hx hb d_Place_blockTop_18 rfl (lv_at hl 1 rfl) ?_
    refine va_get (D := (dC, dI)) (ci := 1) (v := .int oq) (C := R_Place) (T := T_Place) (N := 5) hx hb hts i_Place hown hK hP 0 rfl rfl 4 (by decide) (hts _ wd_327) (fun _ h9 => h9) rfl d_Place_blockTop_19 ?_
    refine lv_iconst (v := 1) hx hb d_Place_blockTop_22 (by decide) ?_
    refine lv_icmp_ne (tgt := 30) hx hb d_Place_blockTop_23 (by decide) (fun c23 => ?_) (fun c23 => ?_)
    · skip
      have c23 : ¬ (Q = 1) := fun q => c23 ((ti_eq hoq (ti_k (by decide))).mpr q)
      refine lv_aload_n hx hb d_Place_blockTop_30 rfl (lv_at hl 1 rfl) ?_
      refine va_get (D := (dC, dI)) (ci := 1) (v := .int oq) (C := R_Place) (T := T_Place) (N := 5) hx hb hts i_Place hown hK hP 0 rfl rfl 4 (by decide) (hts _ wd_327) (fun _ h9 => h9) rfl d_Place_blockTop_31 ?_
      refine lv_iconst (v := 2) hx hb d_Place_blockTop_34 (by decide) ?_
      refine lv_icmp_ne (tgt := 44) hx hb d_Place_blockTop_35 (by decide) (fun c35 => ?_) (fun c35 => ?_)
      · skip
        have c35 : ¬ (Q = 2) := fun q => c35 ((ti_eq hoq (ti_k (by decide))).mpr q)
        refine lv_iload_n hx hb d_Place_blockTop_44 rfl (lv_at hl 0 rfl) ?_
        refine lv_iload_n hx hb d_Place_blockTop_45 rfl (lv_at hl 2 rfl) ?_
        refine lv_isub hx hb d_Place_blockTop_46 ?_
        refine lv_topi (fun v46 e46 => ?_)
        have h46 : v46.toInt = (S - 1) - i := by rw [e46]; exact ti_sub h5 g1 (by omega) (by omega)
        refine lv_istore (lv' := [(4, .int v46), (3, .int v5), (0, .ref ho), (1, .int a1), (2, .int a2)]) hx hb d_Place_blockTop_47 hl (by decide) rfl (fun ls hl => ?_)
        have mb := mul_b2 (a := M) (b := ((S - 1) - i)) (p := 16) (q := 177) (by omega) (by omega) (by omega) (by omega)
        have mb0 := Int.mul_nonneg (show 0 ≤ M by omega) (show 0 ≤ ((S - 1) - i) by omega)
        refine lv_aload_n hx hb d_Place_blockTop_49 rfl (lv_at hl 2 rfl) ?_
        refine va_get (D := (dC, dI)) (ci := 1) (v := .int ot) (C := R_Place) (T := T_Place) (N := 5) hx hb hts i_Place hown hK hP 0 rfl rfl 1 (by decide) (hts _ wd_322) (fun _ h9 => h9) rfl d_Place_blockTop_50 ?_
        refine lv_aload_n hx hb d_Place_blockTop_53 rfl (lv_at hl 2 rfl) ?_
        refine va_get (D := (dC, dI)) (ci := 1) (v := .int om) (C := R_Place) (T := T_Place) (N := 5) hx hb hts i_Place hown hK hP 0 rfl rfl 2 (by decide) (hts _ wd_323) (fun _ h9 => h9) rfl d_Place_blockTop_54 ?_
        refine lv_iload hx hb d_Place_blockTop_57 (lv_at hl 0 rfl) ?_
        refine lv_imul hx hb d_Place_blockTop_59 ?_
        refine lv_topi (fun v59 e59 => ?_)
        have h59 : v59.toInt = M * ((S - 1) - i) := by rw [e59]; exact ti_mul hom h46 (by omega) (by omega)
        refine lv_iadd hx hb d_Place_blockTop_60 ?_
        refine lv_topi (fun v60 e60 => ?_)
        have h60 : v60.toInt = T + (M * ((S - 1) - i)) := by rw [e60]; exact ti_add hot h59 (by omega) (by omega)
        have hpost : v60.toInt = T + M * bB S Q i j := by
          rw [h60]
          unfold bB
          rw [if_neg c11, if_neg c23, if_neg c35]
        exact W.iret (v := v60) hx hb hr (fun t ht hW => ⟨⟨v60, (), rfl, hpost, trivial⟩, hS.F ht⟩) hS.2.2 d_Place_blockTop_61
      · skip
        have c35 : Q = 2 := (ti_eq hoq (ti_k (by decide))).mp c35
        refine lv_iload_n hx hb d_Place_blockTop_38 rfl (lv_at hl 0 rfl) ?_
        refine lv_iload_n hx hb d_Place_blockTop_39 rfl (lv_at hl 3 rfl) ?_
        refine lv_isub hx hb d_Place_blockTop_40 ?_
        refine lv_topi (fun v40 e40 => ?_)
        have h40 : v40.toInt = (S - 1) - j := by rw [e40]; exact ti_sub h5 g2 (by omega) (by omega)
        refine lv_goto (tgt := 47) hx hb d_Place_blockTop_41 (by decide) ?_
        refine lv_istore (lv' := [(4, .int v40), (3, .int v5), (0, .ref ho), (1, .int a1), (2, .int a2)]) hx hb d_Place_blockTop_47 hl (by decide) rfl (fun ls hl => ?_)
        have mb := mul_b2 (a := M) (b := ((S - 1) - j)) (p := 16) (q := 177) (by omega) (by omega) (by omega) (by omega)
        have mb0 := Int.mul_nonneg (show 0 ≤ M by omega) (show 0 ≤ ((S - 1) - j) by omega)
        refine lv_aload_n hx hb d_Place_blockTop_49 rfl (lv_at hl 2 rfl) ?_
        refine va_get (D := (dC, dI)) (ci := 1) (v := .int ot) (C := R_Place) (T := T_Place) (N := 5) hx hb hts i_Place hown hK hP 0 rfl rfl 1 (by decide) (hts _ wd_322) (fun _ h9 => h9) rfl d_Place_blockTop_50 ?_
        refine lv_aload_n hx hb d_Place_blockTop_53 rfl (lv_at hl 2 rfl) ?_
        refine va_get (D := (dC, dI)) (ci := 1) (v := .int om) (C := R_Place) (T := T_Place) (N := 5) hx hb hts i_Place hown hK hP 0 rfl rfl 2 (by decide) (hts _ wd_323) (fun _ h9 => h9) rfl d_Place_blockTop_54 ?_
        refine lv_iload hx hb d_Place_blockTop_57 (lv_at hl 0 rfl) ?_
        refine lv_imul hx hb d_Place_blockTop_59 ?_
        refine lv_topi (fun v59 e59 => ?_)
        have h59 : v59.toInt = M * ((S - 1) - j) := by rw [e59]; exact ti_mul hom h40 (by omega) (by omega)
        refine lv_iadd hx hb d_Place_blockTop_60 ?_
        refine lv_topi (fun v60 e60 => ?_)
        have h60 : v60.toInt = T + (M * ((S - 1) - j)) := by rw [e60]; exact ti_add hot h59 (by omega) (by omega)
        have hpost : v60.toInt = T + M * bB S Q i j := by
          rw [h60]
          unfold bB
          rw [if_neg c11, if_neg c23, if_pos c35]
        exact W.iret (v := v60) hx hb hr (fun t ht hW => ⟨⟨v60, (), rfl, hpost, trivial⟩, hS.F ht⟩) hS.2.2 d_Place_blockTop_61
    · skip
      have c23 : Q = 1 := (ti_eq hoq (ti_k (by decide))).mp c23
      refine lv_iload_n hx hb d_Place_blockTop_26 rfl (lv_at hl 2 rfl) ?_
      refine lv_goto (tgt := 47) hx hb d_Place_blockTop_27 (by decide) ?_
      refine lv_istore (lv' := [(4, .int a1), (3, .int v5), (0, .ref ho), (1, .int a1), (2, .int a2)]) hx hb d_Place_blockTop_47 hl (by decide) rfl (fun ls hl => ?_)
      have mb := mul_b2 (a := M) (b := i) (p := 16) (q := 177) (by omega) (by omega) (by omega) (by omega)
      have mb0 := Int.mul_nonneg (show 0 ≤ M by omega) (show 0 ≤ i by omega)
      refine lv_aload_n hx hb d_Place_blockTop_49 rfl (lv_at hl 2 rfl) ?_
      refine va_get (D := (dC, dI)) (ci := 1) (v := .int ot) (C := R_Place) (T := T_Place) (N := 5) hx hb hts i_Place hown hK hP 0 rfl rfl 1 (by decide) (hts _ wd_322) (fun _ h9 => h9) rfl d_Place_blockTop_50 ?_
      refine lv_aload_n hx hb d_Place_blockTop_53 rfl (lv_at hl 2 rfl) ?_
      refine va_get (D := (dC, dI)) (ci := 1) (v := .int om) (C := R_Place) (T := T_Place) (N := 5) hx hb hts i_Place hown hK hP 0 rfl rfl 2 (by decide) (hts _ wd_323) (fun _ h9 => h9) rfl d_Place_blockTop_54 ?_
      refine lv_iload hx hb d_Place_blockTop_57 (lv_at hl 0 rfl) ?_
      refine lv_imul hx hb d_Place_blockTop_59 ?_
      refine lv_topi (fun v59 e59 => ?_)
      have h59 : v59.toInt = M * i := by rw [e59]; exact ti_mul hom g1 (by omega) (by omega)
      refine lv_iadd hx hb d_Place_blockTop_60 ?_
      refine lv_topi (fun v60 e60 => ?_)
      have h60 : v60.toInt = T + (M * i) := by rw [e60]; exact ti_add hot h59 (by omega) (by omega)
      have hpost : v60.toInt = T + M * bB S Q i j := by
        rw [h60]
        unfold bB
        rw [if_neg c11, if_pos c23]
      exact W.iret (v := v60) hx hb hr (fun t ht hW => ⟨⟨v60, (), rfl, hpost, trivial⟩, hS.F ht⟩) hS.2.2 d_Place_blockTop_61
  · skip
    have c11 : Q = 0 := (ti_eq hoq (ti_k (by decide))).mp c11
    refine lv_iload_n hx hb d_Place_blockTop_14 rfl (lv_at hl 3 rfl) ?_
    refine lv_goto (tgt := 47) hx hb d_Place_blockTop_15 (by decide) ?_
    refine lv_istore (lv' := [(4, .int a2), (3, .int v5), (0, .ref ho), (1, .int a1), (2, .int a2)]) hx hb d_Place_blockTop_47 hl (by decide) rfl (fun ls hl => ?_)
    have mb := mul_b2 (a := M) (b := j) (p := 16) (q := 177) (by omega) (by omega) (by omega) (by omega)
    have mb0 := Int.mul_nonneg (show 0 ≤ M by omega) (show 0 ≤ j by omega)
    refine lv_aload_n hx hb d_Place_blockTop_49 rfl (lv_at hl 2 rfl) ?_
    refine va_get (D := (dC, dI)) (ci := 1) (v := .int ot) (C := R_Place) (T := T_Place) (N := 5) hx hb hts i_Place hown hK hP 0 rfl rfl 1 (by decide) (hts _ wd_322) (fun _ h9 => h9) rfl d_Place_blockTop_50 ?_
    refine lv_aload_n hx hb d_Place_blockTop_53 rfl (lv_at hl 2 rfl) ?_
    refine va_get (D := (dC, dI)) (ci := 1) (v := .int om) (C := R_Place) (T := T_Place) (N := 5) hx hb hts i_Place hown hK hP 0 rfl rfl 2 (by decide) (hts _ wd_323) (fun _ h9 => h9) rfl d_Place_blockTop_54 ?_
    refine lv_iload hx hb d_Place_blockTop_57 (lv_at hl 0 rfl) ?_
    refine lv_imul hx hb d_Place_blockTop_59 ?_
    refine lv_topi (fun v59 e59 => ?_)
    have h59 : v59.toInt = M * j := by rw [e59]; exact ti_mul hom g2 (by omega) (by omega)
    refine lv_iadd hx hb d_Place_blockTop_60 ?_
    refine lv_topi (fun v60 e60 => ?_)
    have h60 : v60.toInt = T + (M * j) := by rw [e60]; exact ti_add hot h59 (by omega) (by omega)
    have hpost : v60.toInt = T + M * bB S Q i j := by
      rw [h60]
      unfold bB
      rw [if_pos c11]
    exact W.iret (v := v60) hx hb hr (fun t ht hW => ⟨⟨v60, (), rfl, hpost, trivial⟩, hS.F ht⟩) hS.2.2 d_Place_blockTop_61
