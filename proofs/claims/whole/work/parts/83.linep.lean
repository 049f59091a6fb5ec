-- the modules that change along a side: their wrong dots one after another
def lwF (D : Int → Int → Bool) (M lx ly st i : Int) : Int := if i % 2 = 0 then M * M - cI D (lx + i * st) (ly + i * (M - st)) M M else cI D (lx + i * st) (ly + i * (M - st)) M M
theorem lw_step {g : Int → Int} {z WB i e : Int} (h : z = WB + s1 g 0 i.toNat) (h0 : 0 ≤ i) (he : e = g i) : z + e = WB + s1 g 0 (i + 1).toNat := by
  have e1 : (i + 1).toNat = i.toNat + 1 := by omega
  have e2 : (0 + (i.toNat : Int)) = i := by omega
  have e3 : s1 g 0 (i.toNat + 1) = s1 g 0 i.toNat + g (0 + (i.toNat : Int)) := rfl
  rw [e1, e3, e2, he]; omega
