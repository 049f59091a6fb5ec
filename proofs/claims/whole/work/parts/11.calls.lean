/-! a call's words, all methods having the same list behind their own code -/
section calls
variable {R : Room} {s : State} {args : Array Value} {own C : String} {idx nL mc ms : Nat} {y : MethodName} {b : ByteArray} {ret : Option FieldType} {rm : Room}
theorem aw_ws (h : Cond.code y b nL ret ∈ allw) : GoodIn allw (Cond.code y b nL ret :: allw) := fun w hw => (List.mem_cons.mp hw).elim (fun e => by subst e; exact ⟨h, allw_good h⟩) (fun h => ⟨h, allw_good h⟩)
theorem aw_V (n : Nat) (hts : ∀ w ∈ allw, w.before args s = true) (h1 : Cond.methodLink own idx y ∈ allw) (h2 : Cond.instanceMethod y ∈ allw) (h3 : Cond.selects C y y ∈ allw) (h4 : Cond.initialized C ∈ allw) (h5 : Cond.code y b nL ret ∈ allw) (hrc : rm.cells = mc) (hrs : rm.slots = ms)
    (hd : y.cls = C ∧ y.cls ≠ "java/lang/invoke/MethodHandle" ∧ y.cls ≠ "java/lang/invoke/VarHandle" ∧ (parseMethodDescriptor y.desc).map (fun d => d.parameters.length) = some n) (hR : rm.frames + 1 ≤ R.frames ∧ 8 + (nL + 11) + rm.locals ≤ R.locals) :
    CallW R s args own C idx y b nL ret (Cond.code y b nL ret :: allw) rm mc ms n :=
  cwV n hts (goodIn_app (a := [Cond.methodLink own idx y, .instanceMethod y, .selects C y y, .initialized C]) (fun w hw => by
    simp only [List.mem_cons, List.not_mem_nil, or_false] at hw
    rcases hw with rfl | rfl | rfl | rfl
    · exact ⟨h1, allw_good h1⟩
    · exact ⟨h2, allw_good h2⟩
    · exact ⟨h3, allw_good h3⟩
    · exact ⟨h4, allw_good h4⟩) (aw_ws h5)) rfl hrc hrs hd hR
theorem aw_S (n : Nat) (hts : ∀ w ∈ allw, w.before args s = true) (h1 : Cond.methodLink own idx y ∈ allw) (h2 : Cond.static y ∈ allw) (h4 : Cond.initialized y.cls ∈ allw) (h5 : Cond.code y b nL ret ∈ allw) (hrc : rm.cells = mc) (hrs : rm.slots = ms)
    (hd : y.cls ≠ "java/lang/invoke/MethodHandle" ∧ y.cls ≠ "java/lang/invoke/VarHandle" ∧ (parseMethodDescriptor y.desc).map (fun d => d.parameters.length) = some n) (hR : rm.frames + 1 ≤ R.frames ∧ 8 + (nL + 11) + rm.locals ≤ R.locals) :
    CallB R s args own idx y b nL ret (Cond.code y b nL ret :: allw) rm mc ms n ∧ (Cond.static y).before args s = true :=
  va_cwS n hts (goodIn_app (a := [Cond.methodLink own idx y, .static y, .initialized y.cls]) (fun w hw => by
    simp only [List.mem_cons, List.not_mem_nil, or_false] at hw
    rcases hw with rfl | rfl | rfl
    · exact ⟨h1, allw_good h1⟩
    · exact ⟨h2, allw_good h2⟩
    · exact ⟨h4, allw_good h4⟩) (aw_ws h5)) rfl hrc hrs hd hR
end calls
