/-! PHASE 3: THE FIRST SETUP IS ONE: worked out -/
def Z00 : Mem := fun k _ o j => if k = 10 ∧ o = 3 then (sByt 0).getD j 0 else if k = 10 ∧ o = 0 ∧ j = 4 then Int32.ofNat (sByt 0).length else if k = 10 ∧ o = 0 ∧ j = 6 then -1 else 0
theorem first_tok : ((X12_begin Z00).map fun Y => (Y 10 0 0 15, Y 10 0 0 14, Y 10 0 0 16)) = some (1, 6, 0) := by decide +kernel
theorem first_head : ((X12_begin Z00).bind fun Y => (X12_token Y).bind fun Y1 => (X12_parseRanged Y1 0 1 4).map fun r => (r.1, r.2 10 0 1 0, r.2 10 0 0 14)) = some (1, 1, 10) := by decide +kernel
