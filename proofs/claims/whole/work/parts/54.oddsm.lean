/-! ODDS: the sum over all sets is that over two neighbours -/
def qfO (q10 q01 q11 b1 b2 : Bool) : Bool := if b1 = true then (if b2 = true then q11 else q10) else (if b2 = true then q01 else true)
def setO (G jl jr : Nat) (q10 q01 q11 : Bool) (s : Nat) : Bool := qfO q10 q01 q11 (decide (jl < G) && decide (s >>> jl &&& 1 = 1)) (decide (jr < G) && decide (s >>> jr &&& 1 = 1))
def eqO (G i jl jr x : Nat) (q10 q01 q11 : Bool) : Bool := decide (aboN G i x (setO G jl jr q10 q01 q11) (2 ^ G) * 100 = quiN q10 q01 q11 x * 10 ^ (G - 1))
def impO (G i jl jr x : Nat) (q10 q01 q11 : Bool) : Bool := !((decide (jl < G) || (q10 && (q11 == q01))) && (decide (jr < G) || (q01 && (q11 == q10)))) || eqO G i jl jr x q10 q01 q11
def okO (G i jl jr x : Nat) : Bool := (decide (jl = i) || decide (jr = i) || (decide (jl = jr) && decide (jl < G))) || (impO G i jl jr x true true true && impO G i jl jr x true true false && impO G i jl jr x true false true && impO G i jl jr x true false false && impO G i jl jr x false true true && impO G i jl jr x false true false && impO G i jl jr x false false true && impO G i jl jr x false false false)
def allO (G : Nat) : Bool := allB (fun i => allB (fun jl => allB (fun jr => allB (fun x => okO G i jl jr x) 11) (G + 1)) (G + 1)) G
theorem allO1 : allO 1 = true := by decide +kernel
theorem allO2 : allO 2 = true := by decide +kernel
theorem allO3 : allO 3 = true := by decide +kernel
theorem allO4 : allO 4 = true := by decide +kernel
theorem allO5 : allO 5 = true := by decide +kernel
