/-! THE REFERENCE: places and counts -/
def plcV (sg : Nat → Int32) (np c : Nat) (w : Int32) : Int32 := if w = 0 then crest sg c else if w = 1 then trough sg c else if w = 2 then (if sg (6 + c) = 0 then 0 else 1) else if w = 3 then (if rkU sg (nI c) np = -6 then 0 else 1) else (if rkU sg (nI c) np = -6 then 0 else if sg (86 + 6 * (rkU sg (nI c) np).toNatClampNeg + 5) = 0 then 1 else 0)
theorem plcV_01 (sg : Nat → Int32) (np c : Nat) (w : Int32) : plcV sg np c w = 0 ∨ plcV sg np c w = 1 := by
  unfold plcV crest trough
  split
  · split <;> simp
  · split
    · split <;> simp
    · split
      · split <;> simp
      · split
        · split <;> simp
        · split
          · simp
          · split <;> simp
theorem nar01 {v : Int32} (h : v = 0 ∨ v = 1) : narrow .boolean (.int v) = .int v := by
  rcases h with rfl | rfl <;> rfl
def plcM (sg : Nat → Int32) (np : Nat) (w : Int32) : Nat → Int64
  | 0 => 0
  | c + 1 => plcM sg np w c ||| (if plcV sg np c w = 0 then (0 : Int64) else ((1 : Int64) <<< ((nI c).toInt64 &&& 63)))
theorem crest_01 (sg : Nat → Int32) (c : Nat) : crest sg c = 0 ∨ crest sg c = 1 := by
  unfold crest
  split <;> simp
theorem trough_01 (sg : Nat → Int32) (c : Nat) : trough sg c = 0 ∨ trough sg c = 1 := by
  unfold trough
  split <;> simp
def stpN (sg : Nat → Int32) : Nat → Int32
  | 0 => 0
  | k + 1 => stpN sg k + (1 - sg (86 + 6 * k + 5))
def sumN (sg : Nat → Int32) : Nat → Int32
  | 0 => 0
  | c + 1 => sumN sg c + sg (6 + c)
def swN (sg : Nat → Int32) : Nat → Int32
  | 0 => 0
  | c + 1 => swN sg c + (szI (sg (6 + c)) + szI (sg (46 + c)))
def grN (sg : Nat → Int32) : Nat → Int32
  | 0 => 0
  | c + 1 => if grN sg c < szI (sg (6 + c)) then szI (sg (6 + c)) else grN sg c
def lsN (sg : Nat → Int32) : Nat → Int32
  | 0 => -6
  | c + 1 => if sg (6 + c) = 0 then lsN sg c else nI c
def cntR (sg : Nat → Int32) (np : Nat) (pl rc w : Int32) : Int32 := if w = 0 then sg 3 else if w = 1 then sg 4 else if w = 2 then stpN sg np else if w = 3 then sg 5 else if w = 4 then sumN sg 40 + 1000000 else if w = 5 then swN sg 40 else if w = 6 then grN sg 40 else if w = 7 then lsN sg 40 else if w = 8 then sg 0 else if w = 9 then sg 1 else if w = 10 then sg 2 else if w = 11 then pl else if w = 12 then rc else -2
