/-! PHASE 3: THE FIRST SETUP IS ONE: worked out -/
def b0 (i : Nat) : Nat := ((sByt 0).getD i 0).toNatClampNeg
def Yz : Mem := fun k g o j => if k = 6 ∧ g = 0 ∧ o = 0 ∧ j = 5 then -1 else if k = 0 ∧ g = 0 ∧ o = 0 ∧ j = 10 then 1 else if k = 10 ∧ g = 0 ∧ o = 0 ∧ j = 6 then -1 else if k = 8 ∧ g = 0 ∧ o = 1 then 1 else 0
def Zz : Mem := fun k g o j => if k = 10 ∧ g = 0 ∧ o = 3 then (if j < 184 then nI (b0 j) else 0) else if k = 10 ∧ g = 0 ∧ o = 0 ∧ j = 4 then nI 184 else if k = 10 ∧ g = 0 ∧ o = 0 ∧ j = 6 then -1 else 0
theorem first_all : ((bd1 (M12_begin Zz) fun Y => M12_parseSetup Y).map Prod.fst) = some 1 := by decide +kernel
