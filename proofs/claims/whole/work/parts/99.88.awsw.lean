section callsW
variable {R : Room} {s : State} {args : Array Value} {own C : String} {idx nL mc ms : Nat} {y : MethodName} {b : ByteArray} {ret : Option FieldType} {rm : Room} {hh : List (Nat × Nat × Nat × Nat)}
theorem aw_wsW (h : Cond.codeWith y b nL ret hh ∈ allw) : GoodIn allw (Cond.codeWith y b nL ret hh :: allw) := fun w hw => (List.mem_cons.mp hw).elim (fun e => by subst e; exact ⟨h, allw_good h⟩) (fun h => ⟨h, allw_good h⟩)
theorem aw_SW (n : Nat) (hts : ∀ w ∈ allw, w.before args s = true) (h1 : Cond.methodLink own idx y ∈ allw) (h2 : Cond.static y ∈ allw) (h4 : Cond.initialized y.cls ∈ allw) (h5 : Cond.codeWith y b nL ret hh ∈ allw) (hrc : rm.cells = mc) (hrs : rm.slots = ms)
    (hd : y.cls ≠ "java/lang/invoke/MethodHandle" ∧ y.cls ≠ "java/lang/invoke/VarHandle" ∧ (parseMethodDescriptor y.desc).map (fun d => d.parameters.length) = some n) (hR : rm.frames + 1 ≤ R.frames ∧ 8 + (nL + 11) + rm.locals ≤ R.locals) :
    vx_CSW R s args own idx y b nL ret hh (Cond.codeWith y b nL ret hh :: allw) rm mc ms n :=
  vx_cwSW n hts (goodIn_app (a := [Cond.methodLink own idx y, .static y, .initialized y.cls]) (fun w hw => by
    simp only [List.mem_cons, List.not_mem_nil, or_false] at hw
    rcases hw with rfl | rfl | rfl
    · exact ⟨h1, allw_good h1⟩
    · exact ⟨h2, allw_good h2⟩
    · exact ⟨h4, allw_good h4⟩) (aw_wsW h5)) rfl hrc hrs hd hR
end callsW
