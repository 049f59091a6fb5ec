/-! a call of what may throw: its start out of the caller's -/
theorem tZ.sub {A A' : Nat → Prop} {s : State} {H : Heap} {locs : List Loc} (h : tZ A s s.heap) (hS : va_S A s.heap H locs) (hF : ∀ q, A' q → A q) : tZ A' s H := ⟨(h.1.kept hS.2.1).narrow hF, (h.2.kept hS.2.1).narrow hF⟩
theorem tZ.moved {A : Nat → Prop} {u U : State} {H : Heap} (hvm : u.vm.Alike U.vm) (h : tZ A u H) : tZ A U H := ⟨vx_Zq.moved hvm h.1, vx_Zq.moved hvm h.2⟩
theorem tB_blind {av : List Value} {D : va_G} {cl : List vw_C} {ws : va_W} {tys : List (ClassId × FieldType)} {sz : Nat} {X : String} {ks : List (Nat × String)} : FrameBlind (va_Pc av (tB D cl ws tys sz X ks)) := fun a U g mk q =>
  ⟨q.1, ⟨q.2.1.1, q.2.1.2.1, va_K.moved (u := U) (U := U.calling g mk a) (Vm.Alike.refl U.vm) q.2.1.2.2.1, q.2.1.2.2.2⟩, tX.same (u := U) (U := U.calling g mk a) rfl q.2.2.1, tR.same (u := U) (U := U.calling g mk a) rfl q.2.2.2.1, tZ.moved (u := U) (U := U.calling g mk a) (Vm.Alike.refl U.vm) q.2.2.2.2⟩
theorem tB_pre {s : State} {H : Heap} {av : List Value} {D : va_G} {cl : List vw_C} {ws : va_W} {tys : List (ClassId × FieldType)} {A : Nat → Prop} {X : String} {ks : List (Nat × String)} (hP : va_P D cl ws H) (hK : va_K D cl tys s) (hD : va_D A ws) (hx : tX X s) (hr : tR ks s) (hz : tZ (va_A ws H.size) s H) :
    ∀ U : State, U.heap = H → s.WarmedH U.vm → va_Pc av (tB D cl ws tys H.size X ks) av.toArray U := fun U hU hW =>
  ⟨rfl, ⟨by rw [hU], by rw [hU]; exact hP, va_K.moved hW.alike hK, hD.weaken (fun _ _ _ _ => trivial)⟩, tX.warm hW hx, tR.warm hW hr, by rw [hU]; exact tZ.moved hW.alike hz⟩
