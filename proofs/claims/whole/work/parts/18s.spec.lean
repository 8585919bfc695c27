-- the class's letter: what its methods do to the memory
def cGo (V : Mem) (st so v : Nat) : Mem := ms (ms (ms (ms V 8 10 ((st : Int) + 1)) 8 4 (v : Int)) 8 14 ((so ||| 2 ^ v : Nat) : Int)) 9 (st + 1) (v : Int)
def cTurn (V : Mem) (u m : Nat) (x : Int) : Mem := if x = -1 ∨ m.testBit x.toNat = true then ms (ms V 8 7 x) 8 16 1 else ms (ms V 8 7 x) 10 u ((m ||| 2 ^ x.toNat : Nat) : Int)
def cAs (V : Mem) (u as : Nat) : Mem := cpm (ms (ms (ms (ms (ms V 8 11 ((as : Int) + 1)) 8 15 1) 8 6 (u : Int)) 8 8 0) 8 9 1) 10 0 (fun _ => 0) 10
theorem cAs_row {V : Mem} {u as i : Nat} (h : i < 10) : cAs V u as 10 i = 0 := by
  unfold cAs
  rw [cpm_in (Nat.zero_le _) (by omega)]
