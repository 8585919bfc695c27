section LT
variable {O : OmT} {F : PhT} {R : Room} {nL : Nat} {V : Mem} {pc : Nat} {lv : List (Nat × Sv)} {st : List Sv} {own : String} {cc : ByteArray} {rt : Option FieldType} {Ts : List Cond}
theorem j_tabIn (C : cx O F own cc nL rt Ts) {dflt lo hi off : Int} {offs : Array Int} {len tgt : Nat} {z : Int} (hd : decode cc pc = .ok (.tableswitch dflt lo hi offs, len)) (hr : -2147483648 ≤ z ∧ z < 2147483648) (h1 : ¬ z < lo) (h2 : ¬ hi < z) (ho : offs[(z - lo).toNat]? = some off) (ht : (pc : Int) + off = (tgt : Int)) (k : J O F R nL V tgt lv st) : J O F R nL V pc lv (si z :: st) := fun H locs ls h hl =>
  lv_tableIn C.1 C.2.1 hd (by rw [iI_toInt hr]; exact h1) (by rw [iI_toInt hr]; exact h2) (by rw [iI_toInt hr]; exact ho) ht (k H locs ls h hl)
theorem j_tabOut (C : cx O F own cc nL rt Ts) {dflt lo hi : Int} {offs : Array Int} {len tgt : Nat} {z : Int} (hd : decode cc pc = .ok (.tableswitch dflt lo hi offs, len)) (hr : -2147483648 ≤ z ∧ z < 2147483648) (h1 : z < lo ∨ hi < z) (ht : (pc : Int) + dflt = (tgt : Int)) (k : J O F R nL V tgt lv st) : J O F R nL V pc lv (si z :: st) := fun H locs ls h hl =>
  lv_tableOut C.1 C.2.1 hd (by rw [iI_toInt hr]; exact h1) ht (k H locs ls h hl)
end LT
-- answers of ways
def aWay (g : Nat → Int) (s t what : Int) : Int :=
  if ¬ (gI g s = true ∧ gI g t = true) then -1000000001 else if what < 0 ∨ 5 < what then -1000000002 else if ¬ (gA g s.toNat = true ∧ gA g t.toNat = true) then -1000000003 else
  if what = 0 then (if (wkR g s.toNat t.toNat).2.2.2.2 = true then 2 else if (wkR g s.toNat t.toNat).2.1 = 0 then 0 else 1) else if what = 1 then ((wkR g s.toNat t.toNat).1 : Int) else if what = 2 then ((wkR g s.toNat t.toNat).2.1 : Int) else if what = 3 then 0 else if what = 4 then ((wkR g s.toNat t.toNat).2.2.1 : Int) else (stS (wkR g s.toNat t.toNat).2.2.2.1 (wkR g s.toNat t.toNat).1 : Int)
def aStep (g : Nat → Int) (s t i : Int) : Int :=
  if ¬ (gI g s = true ∧ gI g t = true) then -1000000001 else if i < 0 then -1000000002 else if ¬ (gA g s.toNat = true ∧ gA g t.toNat = true) then -1000000003 else
  if i ≤ ((wkR g s.toNat t.toNat).1 : Int) then ((wkR g s.toNat t.toNat).2.2.2.1 i.toNat : Int) else -1
def aAt (g : Nat → Int) (v what : Int) : Int :=
  if ¬ gI g v = true then -1000000001 else if what < 0 ∨ 5 < what then -1000000002 else if what = 0 then g (4 + v.toNat) else if what = 1 then g (14 + v.toNat) else if what = 2 then bI (gA g v.toNat) else if what = 3 then (gSt g false v.toNat (gN g) : Int) else if what = 4 then (gSt g true v.toNat (gN g) : Int) else (gXs g v.toNat (gN g) : Int)
theorem gA_I {g : Nat → Int} (ok : okg g) {v : Int} (h : 0 ≤ v) : (decide (0 ≤ v) && gA g v.toNat) = (gI g v && gA g v.toNat) := by
  have n1 := ok.n
  unfold gI
  rw [decide_eq_true h, Bool.true_and, Bool.true_and]
  by_cases q : v ≤ g 0 - 1
  · rw [decide_eq_true q, Bool.true_and]
  · rw [decide_eq_false q, Bool.false_and]
    exact gA_ge ok (by omega)
theorem wSt_rg (g : Nat → Int) (s t : Nat) : -2147483648 ≤ wSt (wkR g s t) ∧ wSt (wkR g s t) < 2147483648 := by
  have := wkR_rg g s t
  unfold wSt
  split <;> omega
