theorem ms_dec {n : Nat} {a z : Int} (hn : n = (a - z).toNat) (h : ¬ a ≤ z) : (a - (z + 1)).toNat < n := by omega
