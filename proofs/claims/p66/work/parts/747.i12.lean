noncomputable def M12i_b133 : Nat → Mem → Int32 → Option Mem
  | 0, _, _ => none
  | n+1, Y, l2 => bd1 (J0_length_8abf5 Y 0) fun r2 => if r2 ≤ l2 then some Y else (bd1 (J0_charAt_5068e Y 0 l2) fun r5 => gd (inb l2 700) <| lt_ (up Y 10 0 3 (ix l2) r5) fun Y9 => M12i_b133 n Y9 (l2 + 1))
