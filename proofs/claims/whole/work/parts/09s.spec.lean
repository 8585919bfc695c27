section LM
variable {O : OmT} {F : PhT} {R : Room} {nL : Nat} {V : Mem} {pc : Nat} {lv : List (Nat × Sv)} {st : List Sv} {own : String} {cc : ByteArray} {rt : Option FieldType} {Ts : List Cond}
theorem j_mem {V2 : Mem} (h : V = V2) (k : J O F R nL V2 pc lv st) : J O F R nL V pc lv st := by rw [h]; exact k
theorem j_alen (C : cx O F own cc nL rt Ts) {c n : Nat} (hc : rowI O c n) (hd : decode cc pc = .ok (.arraylength, 1)) (k : J O F R nL V (pc + 1) lv (si (n : Int) :: st)) : J O F R nL V pc lv (sr c :: st) := fun H locs ls h hl => by
  refine va_alen (D := O.1) (ty := .int) (cA := O.2.1) (x := (n, .inl (fun i => iI (V c i)))) C.1 C.2.1 C.2.2.2.2.2.2.2.1 h.1 c 0 (by rw [ww_at hc.1, hc.2.2]) rfl rfl hd ?_
  have := k H locs ls h hl
  rwa [List.map_cons, show tv O (si (n : Int)) = .int (Int32.ofNat n) from congrArg Value.int (iI_nI n).symm] at this
end LM
/-- the memory with a stretch of a row overwritten: k places from lo on -/
def cpm (V : Mem) (c lo : Nat) (f : Nat → Int) (k : Nat) : Mem := va_up V c (fun b => if lo ≤ b ∧ b < lo + k then f (b - lo) else V c b)
theorem mem_row (V : Mem) (c : Nat) {r : Nat → Int} (h : ∀ b, V c b = r b) : V = va_up V c r := by
  funext a
  by_cases q : a = c
  · rw [q, va_up_self]; funext b; exact h b
  · rw [va_up_ne _ _ q]
theorem up_up (V : Mem) (c : Nat) (r r2 : Nat → Int) : va_up (va_up V c r) c r2 = va_up V c r2 := by
  funext a
  by_cases q : a = c
  · rw [q, va_up_self, va_up_self]
  · rw [va_up_ne _ _ q, va_up_ne _ _ q, va_up_ne _ _ q]
theorem up_swap (V : Mem) {c d : Nat} (h : c ≠ d) (r r2 : Nat → Int) : va_up (va_up V c r) d r2 = va_up (va_up V d r2) c r := by
  funext a
  by_cases q : a = c
  · rw [va_up_ne _ _ (by omega), q, va_up_self, va_up_self]
  · by_cases q2 : a = d
    · rw [q2, va_up_self, va_up_ne _ _ (fun z => h z.symm), va_up_self]
    · rw [va_up_ne _ _ q2, va_up_ne _ _ q, va_up_ne _ _ q, va_up_ne _ _ q2]
theorem cpm_0 (V : Mem) (c lo : Nat) (f : Nat → Int) : V = cpm V c lo f 0 := mem_row V c (fun b => by rw [if_neg (by omega)])
theorem cpm_s (V : Mem) (c lo : Nat) (f : Nat → Int) (k : Nat) {x : Int} (hx : x = f k) {j : Nat} (hj : j = lo + k) : ms (cpm V c lo f k) c j x = cpm V c lo f (k + 1) := by
  unfold ms cpm
  rw [up_up, va_up_self]
  congr 1
  funext b
  subst hx hj
  unfold va_up
  by_cases h2 : b = lo + k
  · rw [if_pos h2, if_pos (by omega), h2, Nat.add_sub_cancel_left]
  · rw [if_neg h2]
    dsimp only
    by_cases h3 : lo ≤ b ∧ b < lo + k
    · rw [if_pos h3, if_pos (by omega)]
    · rw [if_neg h3, if_neg (by omega)]
theorem cpm_ne {V : Mem} {c lo k a : Nat} {f : Nat → Int} (h : a ≠ c) : cpm V c lo f k a = V a := va_up_ne _ _ h
theorem cpm_out {V : Mem} {c lo k b : Nat} {f : Nat → Int} (h : b < lo ∨ lo + k ≤ b) : cpm V c lo f k c b = V c b := by
  unfold cpm; rw [va_up_self, if_neg (by omega)]
theorem cpm_in {V : Mem} {c lo k b : Nat} {f : Nat → Int} (h : lo ≤ b) (h2 : b < lo + k) : cpm V c lo f k c b = f (b - lo) := by
  unfold cpm; rw [va_up_self, if_pos ⟨h, h2⟩]
theorem mdl_eq {V V2 : Mem} {g : Nat → Int} (h : mdl V g) (e : V2 73 = V 73) : mdl V2 g := fun k hk => by rw [e]; exact h k hk
theorem cls_eq {V V2 : Mem} {g : Nat → Int} (h : cls V g) (e1 : V2 1 = V 1) (e2 : V2 2 = V 2) (e3 : V2 3 = V 3) : cls V2 g := by
  unfold cls; rw [e1, e2, e3]; exact h
theorem net_eq {V V2 : Mem} {g : Nat → Int} (h : net V g) (e1 : V2 1 = V 1) (e2 : V2 2 = V 2) (e3 : V2 3 = V 3) (e5 : V2 5 = V 5) (e6 : V2 6 = V 6) : net V2 g := ⟨cls_eq h.1 e1 e2 e3, by rw [e5]; exact h.2.1, by rw [e6]; exact h.2.2⟩
-- a node's number
def gI (g : Nat → Int) (v : Int) : Bool := decide (0 ≤ v) && decide (v ≤ g 0 - 1)
theorem gI_iff {g : Nat → Int} (ok : okg g) {v : Int} : gI g v = true ↔ ∃ k : Nat, k < gN g ∧ v = (k : Int) := by
  have := ok.n
  unfold gI
  simp only [Bool.and_eq_true, decide_eq_true_eq]
  constructor
  · intro h; exact ⟨v.toNat, by omega, by omega⟩
  · rintro ⟨k, h1, rfl⟩; omega
/-- how many are awake, of the first k -/
def gAc (g : Nat → Int) : Nat → Int
  | 0 => 0
  | k + 1 => gAc g k + bI (gA g k)
theorem gAc_rg (g : Nat → Int) : ∀ k, 0 ≤ gAc g k ∧ gAc g k ≤ k
  | 0 => by simp [gAc]
  | k + 1 => by
    have := gAc_rg g k
    unfold gAc
    rcases bI_or (gA g k) with e | e <;> rw [e] <;> omega
def gE (g : Nat → Int) (b : Bool) (u v : Nat) : Bool := if b then gT g u v else gL g u v
/-- pairs of u with a later one, of the first k -/
def gPc (g : Nat → Int) (b : Bool) (u : Nat) : Nat → Int
  | 0 => 0
  | k + 1 => gPc g b u k + bI (decide (u < k) && gE g b u k)
theorem gPc_0 (g : Nat → Int) (b : Bool) (u : Nat) : ∀ k, k ≤ u + 1 → gPc g b u k = 0
  | 0, _ => rfl
  | k + 1, h => by
    unfold gPc
    rw [gPc_0 g b u k (by omega), decide_eq_false (by omega)]
    rfl
def gPp (g : Nat → Int) (b : Bool) : Nat → Int
  | 0 => 0
  | k + 1 => gPp g b k + gPc g b k (gN g)
theorem gPc_rg (g : Nat → Int) (b : Bool) (u : Nat) : ∀ k, 0 ≤ gPc g b u k ∧ gPc g b u k ≤ k
  | 0 => by simp [gPc]
  | k + 1 => by
    have := gPc_rg g b u k
    unfold gPc
    rcases bI_or (decide (u < k) && gE g b u k) with e | e <;> rw [e] <;> omega
theorem gPp_rg {g : Nat → Int} (ok : okg g) (b : Bool) : ∀ k, 0 ≤ gPp g b k ∧ gPp g b k ≤ 10 * k
  | 0 => by simp [gPp]
  | k + 1 => by
    have := gPp_rg ok b k
    have := gPc_rg g b k (gN g)
    have := ok.n
    unfold gPp
    omega
/-- aims by which a letter goes astray at v, of the first k -/
def gXt (g : Nat → Int) (v t : Nat) : Bool := decide (t ≠ v) && gA g v && gA g t && decide (gR g v t (gN g) = -1)
def gXs (g : Nat → Int) (v : Nat) : Nat → Nat
  | 0 => 0
  | k + 1 => gXs g v k ||| (if gXt g v k then 2 ^ k else 0)
theorem gXs_lt (g : Nat → Int) (v : Nat) : ∀ k, gXs g v k < 2 ^ k
  | 0 => by simp [gXs]
  | k + 1 => by
    have := gXs_lt g v k
    unfold gXs
    refine Nat.or_lt_two_pow (Nat.lt_of_lt_of_le this (Nat.pow_le_pow_right (by decide) (by omega))) ?_
    split
    · exact Nat.pow_lt_pow_right (by decide) (by omega)
    · exact Nat.two_pow_pos _
theorem gXs_31 {g : Nat → Int} {v k : Nat} (h : k < 31) : gXs g v k < 2147483648 := Nat.lt_trans (gXs_lt g v k) (p2_31 h)
theorem gXs_no {g : Nat → Int} {v : Nat} (h : gA g v = false) : ∀ k, gXs g v k = 0
  | 0 => rfl
  | k + 1 => by unfold gXs gXt; rw [gXs_no h k, h]; simp
-- answers
def aFar (g : Nat → Int) (u v : Int) : Int := if gI g u = true ∧ gI g v = true then gF g u.toNat v.toNat else -1000000001
def aTwo (g : Nat → Int) (u v : Int) : Bool := gI g u && gI g v && decide (u ≠ v)
def aTurn (g : Nat → Int) (u v : Int) : Int := if aTwo g u v = true then gU g u.toNat v.toNat else -1000000001
def gPl (x y : Int) : Bool := decide (0 ≤ x) && decide (x ≤ 63) && (decide (0 ≤ y) && decide (y ≤ 63))
theorem gSt_s (g : Nat → Int) (b : Bool) (v w : Nat) : gSt g b v (w + 1) = gSt g b v w ||| (if gE g b v w then 2 ^ w else 0) := by cases b <;> rfl
theorem gAc_s (g : Nat → Int) (w : Nat) : gAc g (w + 1) = gAc g w + bI (gA g w) := rfl
theorem gPc_s (g : Nat → Int) (b : Bool) (u k : Nat) : gPc g b u (k + 1) = gPc g b u k + bI (decide (u < k) && gE g b u k) := rfl
theorem gPp_s (g : Nat → Int) (b : Bool) (k : Nat) : gPp g b (k + 1) = gPp g b k + gPc g b k (gN g) := rfl
theorem gXs_s (g : Nat → Int) (v w : Nat) : gXs g v (w + 1) = gXs g v w ||| (if gXt g v w then 2 ^ w else 0) := rfl
