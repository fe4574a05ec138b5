/-! THE REFERENCE: its small methods. sg, the row of its numbers: settings 0..2, steps 3, paddles 4, gauges 5, levels 6.., speeds 46.., paddles 86 + 6 k, gauges 122 + 62 g -/
def szI (v : Int32) : Int32 := if v < 0 then -v else v
def bnd (v : Int32) : Int32 := if v < -9999 then -9999 else if 9999 < v then 9999 else v
/-- the paddle in a cell, by its rank, among the first m of them: the last one; -6 if there is none -/
def rkU (sg : Nat → Int32) (c : Int32) : Nat → Int32
  | 0 => -6
  | m + 1 => if sg (86 + 6 * m) = c then nI m else rkU sg c m
def crest (sg : Nat → Int32) (c : Nat) : Int32 := if (0 < c ∧ c < 39) ∧ sg (6 + (c - 1)) < sg (6 + c) ∧ sg (6 + (c + 1)) < sg (6 + c) then 1 else 0
def trough (sg : Nat → Int32) (c : Nat) : Int32 := if (0 < c ∧ c < 39) ∧ sg (6 + c) < sg (6 + (c - 1)) ∧ sg (6 + c) < sg (6 + (c + 1)) then 1 else 0
