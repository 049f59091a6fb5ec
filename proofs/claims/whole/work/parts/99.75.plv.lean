/-- what place tells of a key and its wrong dots -/
def plV (K w wt : Int) : Int := if wt = 0 then K / 8192 % 512 else if wt = 1 then K / 4194304 % 512 else if wt = 2 then K / 256 % 32 else if wt = 3 then K / 4 % 64 else if wt = 4 then K % 4 else w
