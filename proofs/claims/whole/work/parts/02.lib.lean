-- numbers: every int of the machine is iI of a whole number
def iI (z : Int) : Int32 := Int32.ofInt z
def iL (z : Int) : Int64 := Int64.ofInt z
theorem iI_add (a b : Int) : iI a + iI b = iI (a + b) := (Int32.ofInt_add a b).symm
theorem iI_sub (a b : Int) : iI a - iI b = iI (a - b) := (Int32.ofInt_sub a b).symm
theorem iI_mul (a b : Int) : iI a * iI b = iI (a * b) := (Int32.ofInt_mul a b).symm
theorem iI_neg (a : Int) : -iI a = iI (-a) := (Int32.ofInt_neg a).symm
theorem iI_of (x : Int32) : iI x.toInt = x := Int32.ofInt_toInt x
theorem iI_toInt {z : Int} (h : -2147483648 ≤ z ∧ z < 2147483648) : (iI z).toInt = z := Int32.toInt_ofInt_of_le (by simpa using h.1) (by simpa using h.2)
theorem iI_nI (n : Nat) : nI n = iI (n : Int) := by unfold nI iI; exact (Int32.ofInt_eq_ofNat).symm
theorem iI_lt {a b : Int} (ha : -2147483648 ≤ a ∧ a < 2147483648) (hb : -2147483648 ≤ b ∧ b < 2147483648) : iI a < iI b ↔ a < b := by
  rw [Int32.lt_iff_toInt_lt, iI_toInt ha, iI_toInt hb]
theorem iI_le {a b : Int} (ha : -2147483648 ≤ a ∧ a < 2147483648) (hb : -2147483648 ≤ b ∧ b < 2147483648) : iI a ≤ iI b ↔ a ≤ b := by
  rw [Int32.le_iff_toInt_le, iI_toInt ha, iI_toInt hb]
theorem iI_eq {a b : Int} (ha : -2147483648 ≤ a ∧ a < 2147483648) (hb : -2147483648 ≤ b ∧ b < 2147483648) : iI a = iI b ↔ a = b := by
  rw [← Int32.toInt_inj, iI_toInt ha, iI_toInt hb]
theorem iI_cl {z : Int} (h : -2147483648 ≤ z ∧ z < 2147483648) : (iI z).toNatClampNeg = z.toNat := by
  show (iI z).toInt.toNat = z.toNat
  rw [iI_toInt h]
theorem iI_0 : iI 0 = 0 := by decide
theorem iI_in {j n : Nat} {z : Int} (hz : z = (j : Int)) (hj : j < n) (hn : n < 2147483648) : vp_in (iI z) n ∧ (iI z).toNatClampNeg = j := by
  subst hz
  have h : -2147483648 ≤ (j : Int) ∧ (j : Int) < 2147483648 := ⟨by omega, by omega⟩
  refine ⟨?_, by rw [iI_cl h]; simp⟩
  rw [vp_in_iff, iI_toInt h]
  omega
-- values of a stack, of locals: an int, a cell by its number, a long
abbrev Sv : Type := Int ⊕ (Nat ⊕ Int)
abbrev si (z : Int) : Sv := .inl z
abbrev sr (c : Nat) : Sv := .inr (.inl c)
abbrev sl (z : Int) : Sv := .inr (.inr z)
abbrev Mem : Type := Nat → Nat → Int
abbrev OmT : Type := va_G × (ClassId × (ClassId × (ClassId × (Nat → Nat))))
def tv (O : OmT) : Sv → Value
  | .inl z => .int (iI z)
  | .inr (.inl c) => .ref (O.2.2.2.2 c)
  | .inr (.inr z) => .long (iL z)
def sn : Sv → Bool
  | .inr (.inr _) => false
  | _ => true
theorem sn_cat {O : OmT} : ∀ {v : Sv}, sn v = true → (tv O v).category = 1
  | .inl _, _ => rfl
  | .inr (.inl _), _ => rfl
  | .inr (.inr _), h => by simp [sn] at h
-- the cells: numbered 0 .. 81 (0..71 the class's, 72..81 the reference's)
def isGb (c : Nat) : Bool := c == 1 || c == 66 || c == 69 || (decide (17 ≤ c) && decide (c < 65) && (c - 17) % 3 == 0)
def ln (c : Nat) : Nat := if c = 9 then 201 else if c = 12 then 20 else if c = 13 then 20 else if c = 14 then 20 else if c = 73 then 24 else if c = 74 then 384 else if c = 76 then 50 else if c = 77 then 20 else if c = 78 then 20 else if c = 79 then 20 else if c = 80 then 201 else if c = 81 then 4000 else 10
def en (O : OmT) (c : Nat) (r : Nat → Int) : va_E :=
  if c = 0 then .inr (5, [.ref (O.2.2.2.2 1), .ref (O.2.2.2.2 4), .ref (O.2.2.2.2 8), .ref (O.2.2.2.2 11), .ref (O.2.2.2.2 15), .ref (O.2.2.2.2 65), .int (iI (r 6))])
  else if c = 4 then .inr (3, [.ref (O.2.2.2.2 1), .ref (O.2.2.2.2 5), .ref (O.2.2.2.2 6), .ref (O.2.2.2.2 7)])
  else if c = 8 then .inr (2, [.ref (O.2.2.2.2 1), .ref (O.2.2.2.2 4), .ref (O.2.2.2.2 9), .ref (O.2.2.2.2 10), .int (iI (r 4)), .int (iI (r 5)), .int (iI (r 6)), .int (iI (r 7)), .int (iI (r 8)), .int (iI (r 9)), .int (iI (r 10)), .int (iI (r 11)), .int (iI (r 12)), .int (iI (r 13)), .int (iI (r 14)), .int (iI (r 15)), .int (iI (r 16))])
  else if c = 11 then .inr (0, [.ref (O.2.2.2.2 12), .ref (O.2.2.2.2 13), .ref (O.2.2.2.2 14), .int (iI (r 3))])
  else if c = 15 then .inr (4, [.ref (O.2.2.2.2 16), .int (iI (r 1)), .int (iI (r 2))])
  else if c = 16 then .inl (O.2.2.2.1, 16, .inr (.inr (.inr (.inr (fun i => some (O.2.2.2.2 (17 + 3 * i)))))))
  else if c = 65 then .inl (O.2.2.2.1, 2, .inr (.inr (.inr (.inr (fun i => some (O.2.2.2.2 (66 + 3 * i)))))))
  else if c = 72 then .inr (6, [.ref (O.2.2.2.2 73), .ref (O.2.2.2.2 74), .int (iI (r 2)), .int (iI (r 3)), .ref (O.2.2.2.2 75), .ref (O.2.2.2.2 76), .int (iI (r 6)), .int (iI (r 7)), .ref (O.2.2.2.2 77), .ref (O.2.2.2.2 78), .ref (O.2.2.2.2 79), .int (iI (r 11)), .int (iI (r 12)), .int (iI (r 13)), .ref (O.2.2.2.2 80), .int (iI (r 15)), .int (iI (r 16)), .int (iI (r 17)), .int (iI (r 18)), .int (iI (r 19)), .ref (O.2.2.2.2 81), .int (iI (r 21)), .int (iI (r 22)), .int (iI (r 23)), .int (iI (r 24)), .int (iI (r 25))])
  else if c = 75 then .inl (O.2.2.1, 2, .inl (fun i => iI (r i)))
  else if isGb c = true then .inr (1, [.ref (O.2.2.2.2 (c + 1)), .ref (O.2.2.2.2 (c + 2)), .int (iI (r 2)), .int (iI (r 3)), .int (iI (r 4)), .int (iI (r 5)), .int (iI (r 6))])
  else .inl (O.2.1, ln c, .inl (fun i => iI (r i)))
theorem en_G {O : OmT} {c : Nat} (h : isGb c = true) (r : Nat → Int) : en O c r = .inr (1, [.ref (O.2.2.2.2 (c + 1)), .ref (O.2.2.2.2 (c + 2)), .int (iI (r 2)), .int (iI (r 3)), .int (iI (r 4)), .int (iI (r 5)), .int (iI (r 6))]) := by
  have h' := h
  simp only [isGb, Bool.or_eq_true, Bool.and_eq_true, beq_iff_eq, decide_eq_true_eq] at h'
  unfold en
  rw [if_neg (by omega), if_neg (by omega), if_neg (by omega), if_neg (by omega), if_neg (by omega), if_neg (by omega), if_neg (by omega), if_neg (by omega), if_neg (by omega), if_pos h]
/-- the rows x and y of a ground -/
theorem en_Gx {O : OmT} {c d : Nat} (h : isGb c = true) (hd : d = c + 1 ∨ d = c + 2) (r : Nat → Int) : en O d r = .inl (O.2.1, 10, .inl (fun i => iI (r i))) := by
  simp only [isGb, Bool.or_eq_true, Bool.and_eq_true, beq_iff_eq, decide_eq_true_eq] at h
  have hn : ¬ isGb d = true := by
    simp only [isGb, Bool.or_eq_true, Bool.and_eq_true, beq_iff_eq, decide_eq_true_eq]
    omega
  unfold en
  rw [if_neg (by omega), if_neg (by omega), if_neg (by omega), if_neg (by omega), if_neg (by omega), if_neg (by omega), if_neg (by omega), if_neg (by omega), if_neg (by omega), if_neg hn]
  unfold ln
  rw [if_neg (by omega), if_neg (by omega), if_neg (by omega), if_neg (by omega), if_neg (by omega), if_neg (by omega), if_neg (by omega), if_neg (by omega), if_neg (by omega), if_neg (by omega), if_neg (by omega), if_neg (by omega)]
def ww (O : OmT) (V : Mem) : va_W := (List.range 82).map (fun c => (O.2.2.2.2 c, en O c (V c)))
theorem ww_at {O : OmT} {V : Mem} {c : Nat} (h : c < 82) : (ww O V)[c]? = some (O.2.2.2.2 c, en O c (V c)) := by
  simp [ww, List.getElem?_map, h]
def ms (V : Mem) (c k : Nat) (x : Int) : Mem := va_up V c (va_up (V c) k x)
theorem ms_at (V : Mem) (c k : Nat) (x : Int) (a b : Nat) : ms V c k x a b = if a = c then (if b = k then x else V a b) else V a b := by
  unfold ms va_up
  split
  · next h => subst h; rfl
  · rfl
theorem ms_row (V : Mem) (c k : Nat) (x : Int) : ms V c k x c = va_up (V c) k x := va_up_self _ _ _
theorem ms_ne (V : Mem) {c k : Nat} {x : Int} {a : Nat} (h : a ≠ c) : ms V c k x a = V a := va_up_ne _ _ h
theorem ww_set {O : OmT} {V : Mem} {c k : Nat} {x : Int} : (ww O V).set c (O.2.2.2.2 c, en O c (va_up (V c) k x)) = ww O (ms V c k x) := by
  apply List.ext_getElem?
  intro i
  by_cases hi : i < 82
  · rw [ww_at hi, List.getElem?_set]
    by_cases h : c = i
    · subst h
      rw [if_pos rfl, ms_row, if_pos (by simp [ww]; exact hi)]
    · rw [if_neg h, ww_at hi, ms_ne V (fun q => h q.symm)]
  · rw [List.getElem?_eq_none (by simp [ww]; omega), List.getElem?_eq_none (by simp [ww]; omega)]
def wwA (O : OmT) : Nat → Prop := fun q => ∃ c, c < 82 ∧ q = O.2.2.2.2 c
abbrev tyL (O : OmT) : List (ClassId × FieldType) := [(O.2.1, .int), (O.2.2.1, .boolean), (O.2.2.2.1, .object "FaceLetters$Ground")]
def hs (O : OmT) (s : State) (V : Mem) (H : Heap) (locs : List Loc) : Prop := va_P O.1 vwCl (ww O V) H ∧ va_D (wwA O) (ww O V) ∧ va_S (wwA O) s.heap H locs
-- locals
def lg : List (Nat × Sv) → Nat → Option Sv
  | [], _ => none
  | (j, w) :: t, i => if j = i then some w else lg t i
theorem lg_mem : ∀ {lv : List (Nat × Sv)} {i : Nat} {v : Sv}, lg lv i = some v → (i, v) ∈ lv
  | [], _, _, h => by simp [lg] at h
  | (j, w) :: t, i, v, h => by
    unfold lg at h
    split at h
    · next e => subst e; cases h; exact List.mem_cons_self
    · exact List.mem_cons_of_mem _ (lg_mem h)
def lsv : List (Nat × Sv) → Nat → Sv → List (Nat × Sv)
  | [], i, v => [(i, v)]
  | (j, w) :: t, i, v => if j = i then (i, v) :: t.filter (fun q => !(q.1 == i)) else (j, w) :: lsv t i v
theorem lsv_mem : ∀ {lv : List (Nat × Sv)} {i : Nat} {v : Sv} {q : Nat × Sv}, q ∈ lsv lv i v → q = (i, v) ∨ (q ∈ lv ∧ q.1 ≠ i)
  | [], i, v, q, h => by simp [lsv] at h; exact Or.inl h
  | (j, w) :: t, i, v, q, h => by
    unfold lsv at h
    split at h
    · rcases List.mem_cons.mp h with h | h
      · exact Or.inl h
      · have := List.mem_filter.mp h
        exact Or.inr ⟨List.mem_cons_of_mem _ this.1, by simpa using this.2⟩
    · next e =>
      rcases List.mem_cons.mp h with h | h
      · exact Or.inr ⟨by rw [h]; exact List.mem_cons_self, by rw [h]; exact e⟩
      · rcases lsv_mem h with h | h
        · exact Or.inl h
        · exact Or.inr ⟨List.mem_cons_of_mem _ h.1, h.2⟩
def lvh (O : OmT) (ls : Array Slot) (nL : Nat) (lv : List (Nat × Sv)) : Prop := lv_has ls nL (lv.map (fun q => (q.1, tv O q.2))) ∧ ∀ q ∈ lv, sn q.2 = true
theorem lvh_at {O : OmT} {ls : Array Slot} {nL : Nat} {lv : List (Nat × Sv)} {i : Nat} {v : Sv} (h : lvh O ls nL lv) (hv : lg lv i = some v) : ls[i]? = some (.val (tv O v)) :=
  h.1.2.2 (i, tv O v) (List.mem_map.mpr ⟨(i, v), lg_mem hv, rfl⟩)
theorem lvh_set {O : OmT} {ls : Array Slot} {nL : Nat} {lv : List (Nat × Sv)} {i : Nat} {v : Sv} (h : lvh O ls nL lv) (hs : sn v = true) {ls' : Array Slot} (h' : lv_has ls' nL ((i, tv O v) :: (lv.map (fun q => (q.1, tv O q.2))).filter (fun q => !(q.1 == i) && !(q.1 + 1 == i && q.2.category == 2)))) : lvh O ls' nL (lsv lv i v) := by
  refine ⟨⟨h'.1, h'.2.1, fun q hq => ?_⟩, fun q hq => ?_⟩
  · obtain ⟨r, hr, rfl⟩ := List.mem_map.mp hq
    rcases lsv_mem hr with e | ⟨e1, e2⟩
    · subst e
      exact h'.2.2 _ List.mem_cons_self
    · refine h'.2.2 _ (List.mem_cons_of_mem _ (List.mem_filter.mpr ⟨List.mem_map.mpr ⟨r, e1, rfl⟩, ?_⟩))
      have hc := sn_cat (O := O) (h.2 r e1)
      simp [hc, e2]
  · rcases lsv_mem hq with e | ⟨e1, -⟩
    · subst e; exact hs
    · exact h.2 q e1
theorem lvh_sub {O : OmT} {ls : Array Slot} {nL : Nat} {lv lv' : List (Nat × Sv)} (h : lvh O ls nL lv) (hq : ∀ q ∈ lv', q ∈ lv) : lvh O ls nL lv' := by
  refine ⟨⟨h.1.1, h.1.2.1, fun q hq' => ?_⟩, fun q hq' => h.2 q (hq q hq')⟩
  obtain ⟨r, hr, rfl⟩ := List.mem_map.mp hq'
  exact h.1.2.2 _ (List.mem_map.mpr ⟨r, hq r hr, rfl⟩)
-- links between nest mates (out of the tables)
def nwF : List (String × Nat × String × String × String) := [("FaceLetters", 118, "FaceLetters$Ground", "x", "[I"), ("FaceLetters$Letter", 119, "FaceLetters$Ground", "x", "[I"), ("FaceLetters$Net", 112, "FaceLetters$Ground", "x", "[I"), ("FaceLetters", 121, "FaceLetters$Ground", "y", "[I"), ("FaceLetters$Letter", 122, "FaceLetters$Ground", "y", "[I"), ("FaceLetters$Net", 119, "FaceLetters$Ground", "y", "[I"), ("FaceLetters$Net", 31, "FaceLetters$Ground", "count", "I"), ("FaceLetters", 56, "FaceLetters$Ground", "count", "I"), ("FaceLetters$Letter", 125, "FaceLetters$Ground", "count", "I"), ("FaceLetters", 59, "FaceLetters$Ground", "awake", "I"), ("FaceLetters", 68, "FaceLetters$Ground", "reach", "I"), ("FaceLetters$Net", 56, "FaceLetters$Ground", "reach", "I"), ("FaceLetters", 71, "FaceLetters$Ground", "rule", "I"), ("FaceLetters$Net", 63, "FaceLetters$Ground", "rule", "I"), ("FaceLetters", 109, "FaceLetters$Ground", "seed", "I"), ("FaceLetters", 74, "FaceLetters$Net", "linked", "[I"), ("FaceLetters", 82, "FaceLetters$Net", "thin", "[I"), ("FaceLetters", 155, "FaceLetters$Letter", "steps", "I"), ("FaceLetters", 158, "FaceLetters$Letter", "timesAstray", "I"), ("FaceLetters", 161, "FaceLetters$Letter", "changes", "I"), ("FaceLetters", 164, "FaceLetters$Letter", "stepsRound", "I"), ("FaceLetters", 167, "FaceLetters$Letter", "stood", "I"), ("FaceLetters", 101, "FaceLetters$Book", "count", "I"), ("FaceLetters", 106, "FaceLetters$Past", "depth", "I")]
def nwM : List (String × Nat × MethodName) := [("FaceLetters", 11, ⟨"FaceLetters$Ground", "<init>", "()V"⟩), ("FaceLetters", 18, ⟨"FaceLetters$Net", "<init>", "(LFaceLetters$Ground;)V"⟩), ("FaceLetters", 27, ⟨"FaceLetters$Letter", "<init>", "(LFaceLetters$Ground;LFaceLetters$Net;)V"⟩), ("FaceLetters", 36, ⟨"FaceLetters$Book", "<init>", "()V"⟩), ("FaceLetters", 43, ⟨"FaceLetters$Past", "<init>", "()V"⟩), ("FaceLetters$Past", 17, ⟨"FaceLetters$Ground", "<init>", "()V"⟩), ("FaceLetters", 78, ⟨"FaceLetters$Net", "countPairs", "([I)I"⟩), ("FaceLetters", 85, ⟨"FaceLetters$Net", "countFaces", "()I"⟩), ("FaceLetters$Net", 72, ⟨"FaceLetters", "holds", "(II)Z"⟩), ("FaceLetters$Net", 81, ⟨"FaceLetters$Ground", "sideOf", "(III)I"⟩), ("FaceLetters$Net", 85, ⟨"FaceLetters$Ground", "aheadOf", "(III)I"⟩), ("FaceLetters$Net", 52, ⟨"FaceLetters$Ground", "apart", "(II)I"⟩), ("FaceLetters", 89, ⟨"FaceLetters$Net", "countParts", "()I"⟩), ("FaceLetters$Net", 48, ⟨"FaceLetters$Ground", "isAwake", "(I)Z"⟩), ("FaceLetters$Ground", 38, ⟨"FaceLetters", "holds", "(II)Z"⟩), ("FaceLetters", 92, ⟨"FaceLetters$Net", "countCrossings", "()I"⟩), ("FaceLetters", 95, ⟨"FaceLetters$Net", "greatestFace", "()I"⟩), ("FaceLetters", 98, ⟨"FaceLetters$Letter", "countEnding", "(I)I"⟩), ("FaceLetters$Letter", 128, ⟨"FaceLetters$Ground", "isAwake", "(I)Z"⟩), ("FaceLetters$Letter", 115, ⟨"FaceLetters$Ground", "sideOf", "(III)I"⟩), ("FaceLetters$Letter", 87, ⟨"FaceLetters$Net", "turnFrom", "(II)I"⟩), ("FaceLetters$Letter", 111, ⟨"FaceLetters", "holds", "(II)Z"⟩), ("FaceLetters$Letter", 100, ⟨"FaceLetters$Ground", "apart", "(II)I"⟩), ("FaceLetters$Letter", 65, ⟨"FaceLetters$Net", "nearerThan", "(II)I"⟩), ("FaceLetters", 102, ⟨"FaceLetters$Book", "firstWrong", "(LFaceLetters$Ground;LFaceLetters$Letter;)I"⟩), ("FaceLetters$Book", 25, ⟨"FaceLetters$Ground", "isAwake", "(I)Z"⟩), ("FaceLetters$Book", 31, ⟨"FaceLetters$Letter", "walk", "(II)V"⟩), ("FaceLetters$Book", 37, ⟨"FaceLetters$Letter", "stepsOrNone", "()I"⟩), ("FaceLetters", 113, ⟨"FaceLetters$Ground", "has", "(I)Z"⟩), ("FaceLetters", 124, ⟨"FaceLetters$Ground", "isAwake", "(I)Z"⟩), ("FaceLetters", 127, ⟨"FaceLetters$Net", "aimsAstray", "(I)I"⟩), ("FaceLetters", 130, ⟨"FaceLetters$Ground", "apart", "(II)I"⟩), ("FaceLetters", 138, ⟨"FaceLetters$Net", "turnFrom", "(II)I"⟩), ("FaceLetters", 144, ⟨"FaceLetters$Net", "faceLength", "(II)I"⟩), ("FaceLetters", 148, ⟨"FaceLetters$Letter", "walk", "(II)V"⟩), ("FaceLetters", 152, ⟨"FaceLetters$Letter", "howItEnded", "()I"⟩), ("FaceLetters", 170, ⟨"FaceLetters$Letter", "nodeBehind", "(I)I"⟩), ("FaceLetters", 173, ⟨"FaceLetters$Net", "fewestLinks", "(II)I"⟩), ("FaceLetters", 180, ⟨"FaceLetters$Ground", "whoStandsAt", "(II)I"⟩), ("FaceLetters", 183, ⟨"FaceLetters$Past", "remember", "(LFaceLetters$Ground;)V"⟩), ("FaceLetters$Past", 25, ⟨"FaceLetters$Ground", "copyNet", "(LFaceLetters$Ground;)V"⟩), ("FaceLetters", 186, ⟨"FaceLetters$Ground", "add", "(II)V"⟩), ("FaceLetters", 189, ⟨"FaceLetters$Net", "follow", "()V"⟩), ("FaceLetters", 192, ⟨"FaceLetters$Ground", "put", "(III)I"⟩), ("FaceLetters", 196, ⟨"FaceLetters$Ground", "setAwake", "(IZ)V"⟩), ("FaceLetters", 200, ⟨"FaceLetters$Ground", "remove", "(I)V"⟩), ("FaceLetters", 204, ⟨"FaceLetters$Ground", "drawPlace", "()I"⟩), ("FaceLetters", 207, ⟨"FaceLetters$Past", "giveBack", "(ILFaceLetters$Ground;)V"⟩), ("FaceLetters", 211, ⟨"FaceLetters$Book", "enter", "(III)V"⟩), ("FaceLetters", 215, ⟨"FaceLetters$Ground", "copyNet", "(LFaceLetters$Ground;)V"⟩)]
def nw (U : State) : Prop := (∀ q ∈ nwF, va_Nw (.fieldLinkNest q.1 q.2.1 q.2.2.1 q.2.2.2.1 q.2.2.2.2 "FaceLetters") U) ∧ (∀ q ∈ nwM, va_Nw (.methodLinkNest q.1 q.2.1 q.2.2 "FaceLetters") U)
theorem nw_same {u U : State} (h : u.vm = U.vm) (hn : nw u) : nw U := ⟨fun q hq => va_Nw.same rfl h (hn.1 q hq), fun q hq => va_Nw.same rfl h (hn.2 q hq)⟩
theorem nw_warm {s U : State} (hW : s.WarmedH U.vm) (hn : nw s) : nw U := ⟨fun q hq => va_Nw.warmF hW (hn.1 q hq), fun q hq => va_Nw.warmM hW (hn.2 q hq)⟩
-- a method's frame: program, launch, env, state at entry, method, arguments, frames below, method's row, code, goal
abbrev PhT : Type := Program × Launch × Env × State × MethodId × Array Value × List Frame × Method × Code × (State → Prop)
abbrev fP (F : PhT) : Program := F.1
abbrev fL (F : PhT) : Launch := F.2.1
abbrev fE (F : PhT) : Env := F.2.2.1
abbrev fS (F : PhT) : State := F.2.2.2.1
abbrev fM (F : PhT) : MethodId := F.2.2.2.2.1
abbrev fA (F : PhT) : Array Value := F.2.2.2.2.2.1
abbrev fB (F : PhT) : List Frame := F.2.2.2.2.2.2.1
abbrev fH (F : PhT) : Method := F.2.2.2.2.2.2.2.1
abbrev fC (F : PhT) : Code := F.2.2.2.2.2.2.2.2.1
abbrev fQ (F : PhT) : State → Prop := F.2.2.2.2.2.2.2.2.2
def J (O : OmT) (F : PhT) (R : Room) (nL : Nat) (V : Mem) (pc : Nat) (lv : List (Nat × Sv)) (st : List Sv) : Prop :=
  ∀ (H : Heap) (locs : List Loc) (ls : Array Slot), hs O (fS F) V H locs → lvh O ls nL lv → W (fP F) (fL F) (fE F) R (fS F) (fM F) (fA F) (fB F) (fH F) (fC F) H locs 0 0 (fQ F) (F0 (fM F) pc ls (st.map (tv O)))
/-- what stands fast in a method's body -/
def cx (O : OmT) (F : PhT) (own : String) (cc : ByteArray) (nL : Nat) (rt : Option FieldType) (Ts : List Cond) : Prop :=
  (fP F).tables.exec = Jvm.exec ∧ (fC F).code = cc ∧ (fH F).sig.returnType = rt ∧ (fH F).locks = false ∧ (fC F).maxLocals = nL ∧ (fS F).vm.findClass own = some (fM F).cls ∧ (∀ w ∈ Ts, w.before (fA F) (fS F) = true) ∧ va_K O.1 vwCl (tyL O) (fS F) ∧ nw (fS F)
-- contracts
def mP (O : OmT) (av : List Sv) (V : Mem) : Array Value → State → Prop := va_Pc (av.map (tv O)) (fun U => va_P O.1 vwCl (ww O V) U.heap ∧ va_K O.1 vwCl (tyL O) U ∧ va_D (wwA O) (ww O V) ∧ nw U)
def mB (O : OmT) (V : Mem) (t : State) : Prop := va_P O.1 vwCl (ww O V) t.heap
def mQi (O : OmT) (post : Int → Mem → Prop) : Array Value → State → Outcome → State → Prop := va_Qi (fun r V => ∃ z, r = iI z ∧ post z V) (mB O) (wwA O)
def mQv (O : OmT) (post : Mem → Prop) : Array Value → State → Outcome → State → Prop := va_Qv post (mB O) (wwA O)
def MI (O : OmT) (l : Launch) (y : MethodName) (ws : List Cond) (rm : Room) (av : List Sv) (V : Mem) (post : Int → Mem → Prop) : Prop := Met l y ws rm (mP O av V) (mQi O post) 0 0 (wwA O)
def MV (O : OmT) (l : Launch) (y : MethodName) (ws : List Cond) (rm : Room) (av : List Sv) (V : Mem) (post : Mem → Prop) : Prop := Met l y ws rm (mP O av V) (mQv O post) 0 0 (wwA O)
def qI (O : OmT) (F : PhT) (post : Int → Mem → Prop) : Prop := fQ F = MQ (fB F) (mQi O post) (fA F) (fS F) 0 0 (wwA O)
def qV (O : OmT) (F : PhT) (post : Mem → Prop) : Prop := fQ F = MQ (fB F) (mQv O post) (fA F) (fS F) 0 0 (wwA O)
theorem mP_blind (O : OmT) (av : List Sv) (V : Mem) : FrameBlind (mP O av V) := fun a U g mk q => by
  obtain ⟨q0, qP, qK, qD, qn⟩ := q
  exact ⟨q0, qP, va_K.moved (u := U) (U := U.calling g mk a) (Vm.Alike.refl U.vm) qK, qD, nw_same (u := U) (U := U.calling g mk a) rfl qn⟩
theorem mP_use {O : OmT} {av : List Sv} {V : Mem} {s : State} {H : Heap} {locs : List Loc} (h : hs O s V H locs) (hK : va_K O.1 vwCl (tyL O) s) (hn : nw s) (U : State) (hU : U.heap = H) (hW : s.WarmedH U.vm) : mP O av V (av.map (tv O)).toArray U :=
  ⟨rfl, by rw [hU]; exact h.1, va_K.moved hW.alike hK, h.2.1, nw_warm hW hn⟩
def lvA : Nat → List Sv → List (Nat × Sv)
  | _, [] => []
  | i, v :: t => (i, v) :: lvA (i + 1) t
theorem lvA_args {O : OmT} : ∀ (av : List Sv) (i : Nat), av.all sn = true → lv_args i (av.map (tv O)) = (lvA i av).map (fun q => (q.1, tv O q.2))
  | [], _, _ => rfl
  | v :: t, i, h => by
    have h1 : sn v = true ∧ t.all sn = true := by simpa using h
    simp only [List.map_cons, lv_args, lvA]
    rw [sn_cat h1.1, if_neg (by decide), lvA_args t (i + 1) h1.2]
theorem lvA_sn : ∀ (av : List Sv) (i : Nat), av.all sn = true → ∀ q ∈ lvA i av, sn q.2 = true
  | [], _, _, q, h => by simp [lvA] at h
  | v :: t, i, h, q, hq => by
    have h1 : sn v = true ∧ t.all sn = true := by simpa using h
    rcases List.mem_cons.mp hq with e | e
    · rw [e]; exact h1.1
    · exact lvA_sn t (i + 1) h1.2 q e
theorem lgsl_len {O : OmT} : ∀ (av : List Sv), av.all sn = true → (lg_sl (av.map (tv O))).length = av.length
  | [], _ => rfl
  | v :: t, h => by
    have h1 : sn v = true ∧ t.all sn = true := by simpa using h
    have ih := lgsl_len (O := O) t h1.2
    unfold lg_sl at ih ⊢
    simp only [List.map_cons, List.flatMap_cons, List.length_append, List.length_cons]
    rw [ih, sn_cat h1.1, if_neg (by decide)]
    simp
    omega
theorem j_entry {O : OmT} {F : PhT} {R : Room} {nL : Nat} {V : Mem} {av : List Sv} (hav : av.all sn = true) (hlen : av.length ≤ nL) (hs0 : hs O (fS F) V (fS F).heap []) (k : J O F R nL V 0 (lvA 0 av) []) : W (fP F) (fL F) (fE F) R (fS F) (fM F) (fA F) (fB F) (fH F) (fC F) (fS F).heap [] 0 0 (fQ F) (entryFrame (fM F) (av.map (tv O)).toArray nL) := by
  have hl := lv_entry (av.map (tv O)) (n := nL) (by rw [lgsl_len av hav]; exact hlen)
  rw [lg_entry_eq]
  refine k _ [] _ hs0 ⟨?_, lvA_sn av 0 hav⟩
  rw [← lvA_args av 0 hav]
  exact hl
theorem mi_of {O : OmT} {l : Launch} {y : MethodName} {ws ws' : List Cond} {rm : Room} {av : List Sv} {V : Mem} {post : Int → Mem → Prop} {cc : ByteArray} {nL : Nat} {rt : Option FieldType} (hy : plainName y.cls = true) (hw : ws = Cond.code y cc nL rt :: ws') (hav : av.all sn = true) (hlen : av.length ≤ nL)
    (body : ∀ F : PhT, fL F = l → cx O F y.cls cc nL rt ws → qI O F post → J O F rm nL V 0 (lvA 0 av) []) : MI O l y ws rm av V post := by
  refine Met.ofW (cc := cc) (maxL := nL) (ret := rt) hy hw ?_
  intro p e s m args below meth c s₁ B hml hv
  obtain ⟨rfl, hP, hK, hD, hn⟩ := hv
  exact j_entry (F := (p, l, e, s, m, _, below, meth, c, _)) hav hlen ⟨hP, hD, va_S.rf⟩ (body (p, l, e, s, m, _, below, meth, c, _) rfl ⟨B.exec, B.bytes, B.returns, B.notSynchronized, hml, findClass_of_methodNamed B.named, atoms_spec (ws := ws) B.pre, hK, hn⟩ rfl)
theorem mv_of {O : OmT} {l : Launch} {y : MethodName} {ws ws' : List Cond} {rm : Room} {av : List Sv} {V : Mem} {post : Mem → Prop} {cc : ByteArray} {nL : Nat} {rt : Option FieldType} (hy : plainName y.cls = true) (hw : ws = Cond.code y cc nL rt :: ws') (hav : av.all sn = true) (hlen : av.length ≤ nL)
    (body : ∀ F : PhT, fL F = l → cx O F y.cls cc nL rt ws → qV O F post → J O F rm nL V 0 (lvA 0 av) []) : MV O l y ws rm av V post := by
  refine Met.ofW (cc := cc) (maxL := nL) (ret := rt) hy hw ?_
  intro p e s m args below meth c s₁ B hml hv
  obtain ⟨rfl, hP, hK, hD, hn⟩ := hv
  exact j_entry (F := (p, l, e, s, m, _, below, meth, c, _)) hav hlen ⟨hP, hD, va_S.rf⟩ (body (p, l, e, s, m, _, below, meth, c, _) rfl ⟨B.exec, B.bytes, B.returns, B.notSynchronized, hml, findClass_of_methodNamed B.named, atoms_spec (ws := ws) B.pre, hK, hn⟩ rfl)
section LJ
variable {O : OmT} {F : PhT} {R : Room} {nL : Nat} {V : Mem} {pc : Nat} {lv : List (Nat × Sv)} {st : List Sv} {own : String} {cc : ByteArray} {rt : Option FieldType} {Ts : List Cond}
theorem j_sub {lv' : List (Nat × Sv)} (hq : ∀ q ∈ lv', q ∈ lv) (k : J O F R nL V pc lv' st) : J O F R nL V pc lv st := fun H locs ls h hl => k H locs ls h (lvh_sub hl hq)
theorem j_iret {post : Int → Mem → Prop} (C : cx O F own cc nL (some .int) Ts) (hQ : qI O F post) {z : Int} (hd : decode cc pc = .ok (.ireturn, 1)) (hp : post z V) : J O F R nL V pc lv [si z] := by
  intro H locs ls h hl
  obtain ⟨hx, hb, hr, hlk, hml, hown, hts, hK, hn⟩ := C
  rw [show fQ F = _ from hQ]
  exact W.iret (v := iI z) hx hb hr (fun t ht hW => ⟨⟨iI z, V, rfl, ⟨z, rfl, hp⟩, by show va_P _ _ _ _; rw [ht]; exact h.1⟩, h.2.2.F ht⟩) h.2.2.2.2 hd hlk
theorem j_zret {post : Int → Mem → Prop} (C : cx O F own cc nL (some .boolean) Ts) (hQ : qI O F post) {z : Int} (hz : z = 0 ∨ z = 1) (hd : decode cc pc = .ok (.ireturn, 1)) (hp : post z V) : J O F R nL V pc lv [si z] := by
  intro H locs ls h hl
  obtain ⟨hx, hb, hr, hlk, hml, hown, hts, hK, hn⟩ := C
  rw [show fQ F = _ from hQ]
  have hn : narrow .boolean (.int (iI z)) = .int (iI z) := by rcases hz with e | e <;> subst e <;> decide
  exact W.zret (v := iI z) hx hb hr hn (fun t ht hW => ⟨⟨iI z, V, rfl, ⟨z, rfl, hp⟩, by show va_P _ _ _ _; rw [ht]; exact h.1⟩, h.2.2.F ht⟩) h.2.2.2.2 hd hlk
theorem j_vret {post : Mem → Prop} (C : cx O F own cc nL none Ts) (hQ : qV O F post) (hd : decode cc pc = .ok (.return_, 1)) (hp : post V) : J O F R nL V pc lv [] := by
  intro H locs ls h hl
  obtain ⟨hx, hb, hr, hlk, hml, hown, hts, hK, hn⟩ := C
  rw [show fQ F = _ from hQ]
  exact W.vret hx hb hr (fun t ht hW => ⟨⟨V, rfl, hp, by show va_P _ _ _ _; rw [ht]; exact h.1⟩, h.2.2.F ht⟩) h.2.2.2.2 hd hlk
theorem j_iconst (C : cx O F own cc nL rt Ts) {n : Int} (hd : decode cc pc = .ok (.iconst n, 1)) (k : J O F R nL V (pc + 1) lv (si n :: st)) : J O F R nL V pc lv st := fun H locs ls h hl => lv_iconst (v := iI n) C.1 C.2.1 hd rfl (k H locs ls h hl)
theorem j_bipush (C : cx O F own cc nL rt Ts) {n : Int} (hd : decode cc pc = .ok (.bipush n, 2)) (hv : (Int8.ofInt n).toInt32 = iI n) (k : J O F R nL V (pc + 2) lv (si n :: st)) : J O F R nL V pc lv st := fun H locs ls h hl => lv_bipush (v := iI n) C.1 C.2.1 hd hv (k H locs ls h hl)
theorem j_sipush (C : cx O F own cc nL rt Ts) {n : Int} (hd : decode cc pc = .ok (.sipush n, 3)) (hv : (Int16.ofInt n).toInt32 = iI n) (k : J O F R nL V (pc + 3) lv (si n :: st)) : J O F R nL V pc lv st := fun H locs ls h hl => lv_sipush (v := iI n) C.1 C.2.1 hd hv (k H locs ls h hl)
theorem j_ldc (C : cx O F own cc nL rt Ts) {index : Nat} {n : Int} {v : Int32} (hc : Cond.constant own index v ∈ Ts) (hv : v = iI n) (hd : decode cc pc = .ok (.ldc index, 2)) (k : J O F R nL V (pc + 2) lv (si n :: st)) : J O F R nL V pc lv st := fun H locs ls h hl => by
  subst hv
  exact lv_ldc (v := iI n) C.1 C.2.1 C.2.2.2.2.2.1 (C.2.2.2.2.2.2.1 _ hc) hd (k H locs ls h hl)
theorem j_ldcw (C : cx O F own cc nL rt Ts) {index : Nat} {n : Int} {v : Int32} (hc : Cond.constant own index v ∈ Ts) (hv : v = iI n) (hd : decode cc pc = .ok (.ldc_w index, 3)) (k : J O F R nL V (pc + 3) lv (si n :: st)) : J O F R nL V pc lv st := fun H locs ls h hl => by
  subst hv
  exact lv_ldcw (v := iI n) C.1 C.2.1 C.2.2.2.2.2.1 (C.2.2.2.2.2.2.1 _ hc) hd (k H locs ls h hl)
theorem j_ldc2 (C : cx O F own cc nL rt Ts) {index : Nat} {n : Int} {v : Int64} (hc : Cond.constantLong own index v ∈ Ts) (hv : v = iL n) (hd : decode cc pc = .ok (.ldc2_w index, 3)) (k : J O F R nL V (pc + 3) lv (sl n :: st)) : J O F R nL V pc lv st := fun H locs ls h hl => by
  subst hv
  exact lv_ldc2 (v := iL n) C.1 C.2.1 C.2.2.2.2.2.1 (C.2.2.2.2.2.2.1 _ hc) hd (k H locs ls h hl)
theorem j_iload_n (C : cx O F own cc nL rt Ts) {i : Fin 4} {z : Int} (hd : decode cc pc = .ok (.iload_n i, 1)) (hv : lg lv i = some (si z)) (k : J O F R nL V (pc + 1) lv (si z :: st)) : J O F R nL V pc lv st := fun H locs ls h hl => lv_iload_n C.1 C.2.1 hd rfl (lvh_at hl hv) (k H locs ls h hl)
theorem j_iload (C : cx O F own cc nL rt Ts) {i : Nat} {z : Int} (hd : decode cc pc = .ok (.iload i, 2)) (hv : lg lv i = some (si z)) (k : J O F R nL V (pc + 2) lv (si z :: st)) : J O F R nL V pc lv st := fun H locs ls h hl => lv_iload C.1 C.2.1 hd (lvh_at hl hv) (k H locs ls h hl)
theorem j_aload_n (C : cx O F own cc nL rt Ts) {i : Fin 4} {z : Nat} (hd : decode cc pc = .ok (.aload_n i, 1)) (hv : lg lv i = some (sr z)) (k : J O F R nL V (pc + 1) lv (sr z :: st)) : J O F R nL V pc lv st := fun H locs ls h hl => lv_aload_n C.1 C.2.1 hd rfl (lvh_at hl hv) (k H locs ls h hl)
theorem j_aload (C : cx O F own cc nL rt Ts) {i : Nat} {z : Nat} (hd : decode cc pc = .ok (.aload i, 2)) (hv : lg lv i = some (sr z)) (k : J O F R nL V (pc + 2) lv (sr z :: st)) : J O F R nL V pc lv st := fun H locs ls h hl => lv_aload C.1 C.2.1 hd (lvh_at hl hv) (k H locs ls h hl)
theorem j_istore_n (C : cx O F own cc nL rt Ts) {i : Fin 4} {z : Int} {lv' : List (Nat × Sv)} (hd : decode cc pc = .ok (.istore_n i, 1)) (hn : (i : Nat) < nL) (hl' : lsv lv i (si z) = lv') (k : J O F R nL V (pc + 1) lv' st) : J O F R nL V pc lv (si z :: st) := fun H locs ls h hl => by
  subst hl'
  exact lv_istore_n C.1 C.2.1 hd rfl hl.1 hn rfl (fun ls' h' => k H locs ls' h (lvh_set hl rfl h'))
theorem j_istore (C : cx O F own cc nL rt Ts) {i : Nat} {z : Int} {lv' : List (Nat × Sv)} (hd : decode cc pc = .ok (.istore i, 2)) (hn : i < nL) (hl' : lsv lv i (si z) = lv') (k : J O F R nL V (pc + 2) lv' st) : J O F R nL V pc lv (si z :: st) := fun H locs ls h hl => by
  subst hl'
  exact lv_istore C.1 C.2.1 hd hl.1 hn rfl (fun ls' h' => k H locs ls' h (lvh_set hl rfl h'))
theorem j_iinc (C : cx O F own cc nL rt Ts) {i : Nat} {n z : Int} {lv' : List (Nat × Sv)} (hd : decode cc pc = .ok (.iinc i n, 3)) (hv : lg lv i = some (si z)) (hn : i < nL) (hl' : lsv lv i (si (z + n)) = lv') (k : J O F R nL V (pc + 3) lv' st) : J O F R nL V pc lv st := fun H locs ls h hl => by
  subst hl'
  obtain ⟨k9, hk9⟩ := List.getElem?_of_mem (List.mem_map.mpr ⟨(i, si z), lg_mem hv, rfl⟩ : (i, tv O (si z)) ∈ lv.map (fun q => (q.1, tv O q.2)))
  exact lv_iinc (k := k9) (x := iI z) (v := iI (z + n)) C.1 C.2.1 hd hl.1 hk9 (iI_add z n) hn rfl (fun ls' h' => k H locs ls' h (lvh_set (v := si (z + n)) hl rfl h'))
theorem j_iadd (C : cx O F own cc nL rt Ts) {a b : Int} (hd : decode cc pc = .ok (.iadd, 1)) (k : J O F R nL V (pc + 1) lv (si (a + b) :: st)) : J O F R nL V pc lv (si b :: si a :: st) := fun H locs ls h hl => lv_iadd C.1 C.2.1 hd (by rw [iI_add]; exact k H locs ls h hl)
theorem j_isub (C : cx O F own cc nL rt Ts) {a b : Int} (hd : decode cc pc = .ok (.isub, 1)) (k : J O F R nL V (pc + 1) lv (si (a - b) :: st)) : J O F R nL V pc lv (si b :: si a :: st) := fun H locs ls h hl => lv_isub C.1 C.2.1 hd (by rw [iI_sub]; exact k H locs ls h hl)
theorem j_imul (C : cx O F own cc nL rt Ts) {a b : Int} (hd : decode cc pc = .ok (.imul, 1)) (k : J O F R nL V (pc + 1) lv (si (a * b) :: st)) : J O F R nL V pc lv (si b :: si a :: st) := fun H locs ls h hl => lv_imul C.1 C.2.1 hd (by rw [iI_mul]; exact k H locs ls h hl)
theorem j_ineg (C : cx O F own cc nL rt Ts) {a : Int} (hd : decode cc pc = .ok (.ineg, 1)) (k : J O F R nL V (pc + 1) lv (si (-a) :: st)) : J O F R nL V pc lv (si a :: st) := fun H locs ls h hl => lv_ineg C.1 C.2.1 hd (by rw [iI_neg]; exact k H locs ls h hl)
theorem j_dup (C : cx O F own cc nL rt Ts) {v : Sv} (hd : decode cc pc = .ok (.dup, 1)) (hv : sn v = true) (k : J O F R nL V (pc + 1) lv (v :: v :: st)) : J O F R nL V pc lv (v :: st) := fun H locs ls h hl => lv_dup C.1 C.2.1 hd (sn_cat hv) (k H locs ls h hl)
theorem j_dup2 (C : cx O F own cc nL rt Ts) {v w : Sv} (hd : decode cc pc = .ok (.dup2, 1)) (hv : sn v = true) (hw : sn w = true) (k : J O F R nL V (pc + 1) lv (v :: w :: v :: w :: st)) : J O F R nL V pc lv (v :: w :: st) := fun H locs ls h hl => lv_dup2_11 C.1 C.2.1 hd (sn_cat hv) (sn_cat hw) (k H locs ls h hl)
theorem j_pop (C : cx O F own cc nL rt Ts) {v : Sv} (hd : decode cc pc = .ok (.pop, 1)) (hv : sn v = true) (k : J O F R nL V (pc + 1) lv st) : J O F R nL V pc lv (v :: st) := fun H locs ls h hl => lv_pop C.1 C.2.1 hd (sn_cat hv) (k H locs ls h hl)
theorem j_goto (C : cx O F own cc nL rt Ts) {off : Int} {tgt : Nat} (hd : decode cc pc = .ok (.goto off, 3)) (ht : (pc : Int) + off = (tgt : Int)) (k : J O F R nL V tgt lv st) : J O F R nL V pc lv st := fun H locs ls h hl => lv_goto C.1 C.2.1 hd ht (k H locs ls h hl)
theorem j_icmp_eq (C : cx O F own cc nL rt Ts) {a b off : Int} {tgt : Nat} (hd : decode cc pc = .ok (.if_icmp .eq off, 3)) (ht : (pc : Int) + off = (tgt : Int)) (ha : -2147483648 ≤ a ∧ a < 2147483648) (hb : -2147483648 ≤ b ∧ b < 2147483648) (kt : a = b → J O F R nL V tgt lv st) (kf : ¬ a = b → J O F R nL V (pc + 3) lv st) : J O F R nL V pc lv (si b :: si a :: st) := fun H locs ls h hl => lv_icmp_eq C.1 C.2.1 hd ht (fun q => kt ((iI_eq ha hb).mp q) H locs ls h hl) (fun q => kf (fun e => q ((iI_eq ha hb).mpr e)) H locs ls h hl)
theorem j_if_eq (C : cx O F own cc nL rt Ts) {a off : Int} {tgt : Nat} (hd : decode cc pc = .ok (.ifCond .eq off, 3)) (ht : (pc : Int) + off = (tgt : Int)) (ha : -2147483648 ≤ a ∧ a < 2147483648) (kt : a = 0 → J O F R nL V tgt lv st) (kf : ¬ a = 0 → J O F R nL V (pc + 3) lv st) : J O F R nL V pc lv (si a :: st) := fun H locs ls h hl => by
  have h0 : -2147483648 ≤ (0 : Int) ∧ (0 : Int) < 2147483648 := by omega
  exact lv_if_eq C.1 C.2.1 hd ht (fun q => kt ((iI_eq ha h0).mp q) H locs ls h hl) (fun q => kf (fun e => q ((iI_eq ha h0).mpr e)) H locs ls h hl)
theorem j_icmp_ne (C : cx O F own cc nL rt Ts) {a b off : Int} {tgt : Nat} (hd : decode cc pc = .ok (.if_icmp .ne off, 3)) (ht : (pc : Int) + off = (tgt : Int)) (ha : -2147483648 ≤ a ∧ a < 2147483648) (hb : -2147483648 ≤ b ∧ b < 2147483648) (kt : ¬ a = b → J O F R nL V tgt lv st) (kf : a = b → J O F R nL V (pc + 3) lv st) : J O F R nL V pc lv (si b :: si a :: st) := fun H locs ls h hl => lv_icmp_ne C.1 C.2.1 hd ht (fun q => kt (fun e => q ((iI_eq ha hb).mpr e)) H locs ls h hl) (fun q => kf ((iI_eq ha hb).mp q) H locs ls h hl)
theorem j_if_ne (C : cx O F own cc nL rt Ts) {a off : Int} {tgt : Nat} (hd : decode cc pc = .ok (.ifCond .ne off, 3)) (ht : (pc : Int) + off = (tgt : Int)) (ha : -2147483648 ≤ a ∧ a < 2147483648) (kt : ¬ a = 0 → J O F R nL V tgt lv st) (kf : a = 0 → J O F R nL V (pc + 3) lv st) : J O F R nL V pc lv (si a :: st) := fun H locs ls h hl => by
  have h0 : -2147483648 ≤ (0 : Int) ∧ (0 : Int) < 2147483648 := by omega
  exact lv_if_ne C.1 C.2.1 hd ht (fun q => kt (fun e => q ((iI_eq ha h0).mpr e)) H locs ls h hl) (fun q => kf ((iI_eq ha h0).mp q) H locs ls h hl)
theorem j_icmp_lt (C : cx O F own cc nL rt Ts) {a b off : Int} {tgt : Nat} (hd : decode cc pc = .ok (.if_icmp .lt off, 3)) (ht : (pc : Int) + off = (tgt : Int)) (ha : -2147483648 ≤ a ∧ a < 2147483648) (hb : -2147483648 ≤ b ∧ b < 2147483648) (kt : a < b → J O F R nL V tgt lv st) (kf : b ≤ a → J O F R nL V (pc + 3) lv st) : J O F R nL V pc lv (si b :: si a :: st) := fun H locs ls h hl => lv_icmp_lt C.1 C.2.1 hd ht (fun q => kt ((iI_lt ha hb).mp q) H locs ls h hl) (fun q => kf (Int.not_lt.mp fun e => q ((iI_lt ha hb).mpr e)) H locs ls h hl)
theorem j_if_lt (C : cx O F own cc nL rt Ts) {a off : Int} {tgt : Nat} (hd : decode cc pc = .ok (.ifCond .lt off, 3)) (ht : (pc : Int) + off = (tgt : Int)) (ha : -2147483648 ≤ a ∧ a < 2147483648) (kt : a < 0 → J O F R nL V tgt lv st) (kf : 0 ≤ a → J O F R nL V (pc + 3) lv st) : J O F R nL V pc lv (si a :: st) := fun H locs ls h hl => by
  have h0 : -2147483648 ≤ (0 : Int) ∧ (0 : Int) < 2147483648 := by omega
  exact lv_if_lt C.1 C.2.1 hd ht (fun q => kt ((iI_lt ha h0).mp q) H locs ls h hl) (fun q => kf (Int.not_lt.mp fun e => q ((iI_lt ha h0).mpr e)) H locs ls h hl)
theorem j_icmp_ge (C : cx O F own cc nL rt Ts) {a b off : Int} {tgt : Nat} (hd : decode cc pc = .ok (.if_icmp .ge off, 3)) (ht : (pc : Int) + off = (tgt : Int)) (ha : -2147483648 ≤ a ∧ a < 2147483648) (hb : -2147483648 ≤ b ∧ b < 2147483648) (kt : b ≤ a → J O F R nL V tgt lv st) (kf : a < b → J O F R nL V (pc + 3) lv st) : J O F R nL V pc lv (si b :: si a :: st) := fun H locs ls h hl => lv_icmp_ge C.1 C.2.1 hd ht (fun q => kt ((iI_le hb ha).mp q) H locs ls h hl) (fun q => kf (Int.not_le.mp fun e => q ((iI_le hb ha).mpr e)) H locs ls h hl)
theorem j_if_ge (C : cx O F own cc nL rt Ts) {a off : Int} {tgt : Nat} (hd : decode cc pc = .ok (.ifCond .ge off, 3)) (ht : (pc : Int) + off = (tgt : Int)) (ha : -2147483648 ≤ a ∧ a < 2147483648) (kt : 0 ≤ a → J O F R nL V tgt lv st) (kf : a < 0 → J O F R nL V (pc + 3) lv st) : J O F R nL V pc lv (si a :: st) := fun H locs ls h hl => by
  have h0 : -2147483648 ≤ (0 : Int) ∧ (0 : Int) < 2147483648 := by omega
  exact lv_if_ge C.1 C.2.1 hd ht (fun q => kt ((iI_le h0 ha).mp q) H locs ls h hl) (fun q => kf (Int.not_le.mp fun e => q ((iI_le h0 ha).mpr e)) H locs ls h hl)
theorem j_icmp_gt (C : cx O F own cc nL rt Ts) {a b off : Int} {tgt : Nat} (hd : decode cc pc = .ok (.if_icmp .gt off, 3)) (ht : (pc : Int) + off = (tgt : Int)) (ha : -2147483648 ≤ a ∧ a < 2147483648) (hb : -2147483648 ≤ b ∧ b < 2147483648) (kt : b < a → J O F R nL V tgt lv st) (kf : a ≤ b → J O F R nL V (pc + 3) lv st) : J O F R nL V pc lv (si b :: si a :: st) := fun H locs ls h hl => lv_icmp_gt C.1 C.2.1 hd ht (fun q => kt ((iI_lt hb ha).mp q) H locs ls h hl) (fun q => kf (Int.not_lt.mp fun e => q ((iI_lt hb ha).mpr e)) H locs ls h hl)
theorem j_if_gt (C : cx O F own cc nL rt Ts) {a off : Int} {tgt : Nat} (hd : decode cc pc = .ok (.ifCond .gt off, 3)) (ht : (pc : Int) + off = (tgt : Int)) (ha : -2147483648 ≤ a ∧ a < 2147483648) (kt : 0 < a → J O F R nL V tgt lv st) (kf : a ≤ 0 → J O F R nL V (pc + 3) lv st) : J O F R nL V pc lv (si a :: st) := fun H locs ls h hl => by
  have h0 : -2147483648 ≤ (0 : Int) ∧ (0 : Int) < 2147483648 := by omega
  exact lv_if_gt C.1 C.2.1 hd ht (fun q => kt ((iI_lt h0 ha).mp q) H locs ls h hl) (fun q => kf (Int.not_lt.mp fun e => q ((iI_lt h0 ha).mpr e)) H locs ls h hl)
theorem j_icmp_le (C : cx O F own cc nL rt Ts) {a b off : Int} {tgt : Nat} (hd : decode cc pc = .ok (.if_icmp .le off, 3)) (ht : (pc : Int) + off = (tgt : Int)) (ha : -2147483648 ≤ a ∧ a < 2147483648) (hb : -2147483648 ≤ b ∧ b < 2147483648) (kt : a ≤ b → J O F R nL V tgt lv st) (kf : b < a → J O F R nL V (pc + 3) lv st) : J O F R nL V pc lv (si b :: si a :: st) := fun H locs ls h hl => lv_icmp_le C.1 C.2.1 hd ht (fun q => kt ((iI_le ha hb).mp q) H locs ls h hl) (fun q => kf (Int.not_le.mp fun e => q ((iI_le ha hb).mpr e)) H locs ls h hl)
theorem j_if_le (C : cx O F own cc nL rt Ts) {a off : Int} {tgt : Nat} (hd : decode cc pc = .ok (.ifCond .le off, 3)) (ht : (pc : Int) + off = (tgt : Int)) (ha : -2147483648 ≤ a ∧ a < 2147483648) (kt : a ≤ 0 → J O F R nL V tgt lv st) (kf : 0 < a → J O F R nL V (pc + 3) lv st) : J O F R nL V pc lv (si a :: st) := fun H locs ls h hl => by
  have h0 : -2147483648 ≤ (0 : Int) ∧ (0 : Int) < 2147483648 := by omega
  exact lv_if_le C.1 C.2.1 hd ht (fun q => kt ((iI_le ha h0).mp q) H locs ls h hl) (fun q => kf (Int.not_le.mp fun e => q ((iI_le ha h0).mpr e)) H locs ls h hl)
theorem ww_of {A : Nat → Prop} {i : Nat} {p : Nat × va_E} (h : (ww O V)[i]? = some p) : i < 82 ∧ p = (O.2.2.2.2 i, en O i (V i)) := by
  by_cases hi : i < 82
  · rw [ww_at hi] at h
    exact ⟨hi, (Option.some.inj h).symm⟩
  · rw [List.getElem?_eq_none (by simp [ww]; omega)] at h
    cases h
theorem ww_D {A : Nat → Prop} {V' : Mem} (h : va_D A (ww O V)) : va_D A (ww O V') := by
  refine ⟨fun i j p q hp hq e => ?_, fun k q hq => ?_⟩
  · obtain ⟨hi, rfl⟩ := ww_of (A := A) hp
    obtain ⟨hj, rfl⟩ := ww_of (A := A) hq
    exact h.1 i j _ _ (ww_at hi) (ww_at hj) e
  · obtain ⟨hi, rfl⟩ := ww_of (A := A) hq
    exact h.2 k (O.2.2.2.2 k, en O k (V k)) (ww_at hi)
end LJ
