section LY
variable {O : OmT} {F : PhT} {R : Room} {nL : Nat} {V : Mem} {pc : Nat} {lv : List (Nat × Sv)} {st : List Sv} {own : String} {cc : ByteArray} {rt : Option FieldType} {Ts : List Cond}
theorem j_mmin (C : cx O F own cc nL rt Ts) {a b : Int} {index : Nat} (h1 : Cond.methodLink own index Lib.Math.min.name ∈ Ts) (h2 : Cond.static Lib.Math.min.name ∈ Ts) (h3 : Cond.initialized "java/lang/Math" ∈ Ts) (h4 : Cond.code Lib.Math.min.name Lib.Math.min.code 2 (some .int) ∈ Ts) (hf : 1 ≤ R.frames ∧ 21 ≤ R.locals) (hs : st.length ≤ 4) (ha : -2147483648 ≤ a ∧ a < 2147483648) (hb : -2147483648 ≤ b ∧ b < 2147483648) (hd : decode cc pc = .ok (.invokestatic index, 3)) (k : J O F R nL V (pc + 3) lv (si (mnZ a b) :: st)) : J O F R nL V pc lv (si b :: si a :: st) := fun H locs ls h hl => by
  obtain ⟨hx, hb0, hr, hlk, hml, hown, hts, hK, hn⟩ := C
  refine va_mmin hx hb0 (by rw [hml]; exact hl.1.1.symm) hown (hts _ h1) (hts _ h2) (hts _ h3) (hts _ h4) hf.1 (Nat.le_trans (Nat.add_le_add_right (room8 st) 13) (by omega)) (Nat.zero_le _) (Nat.zero_le _) hd ?_
  have e : (if iI b < iI a then iI b else iI a) = iI (mnZ a b) := by
    unfold mnZ
    by_cases q : b < a
    · rw [if_pos q, if_pos ((iI_lt hb ha).mpr q)]
    · rw [if_neg q, if_neg (fun z => q ((iI_lt hb ha).mp z))]
  rw [e]
  exact k H locs ls h hl
end LY
-- stretches that meet
def bwb (a b c : Int) : Bool := (decide (a ≤ c) && decide (c ≤ b)) || (decide (b ≤ c) && decide (c ≤ a))
def spb (a b c d : Int) : Bool := decide (mnZ c d ≤ mxZ a b) && decide (mnZ a b ≤ mxZ c d)
def ptb (a b : Int) : Bool := (decide (a ≤ 0) && decide (0 ≤ b)) || (decide (0 ≤ a) && decide (b ≤ 0))
def gWi (g : Nat → Int) (a b c : Nat) : Bool := decide (gS g a b c = 0) && bwb (g (4 + a)) (g (4 + b)) (g (4 + c)) && bwb (g (14 + a)) (g (14 + b)) (g (14 + c))
def gDm (g : Nat → Int) (a b c d : Nat) : Bool := gWi g a b c || gWi g a b d || gWi g c d a || gWi g c d b || (!(decide (0 < gS g a b c) == decide (0 < gS g a b d)) && !(decide (0 < gS g c d a) == decide (0 < gS g c d b)) && decide (gS g a b c ≠ 0) && decide (gS g a b d ≠ 0) && decide (gS g c d a ≠ 0) && decide (gS g c d b ≠ 0))
def gMt (g : Nat → Int) (a b c d : Nat) : Bool := spb (g (4 + a)) (g (4 + b)) (g (4 + c)) (g (4 + d)) && spb (g (14 + a)) (g (14 + b)) (g (14 + c)) (g (14 + d)) && ptb (gS g a b c) (gS g a b d) && ptb (gS g c d a) (gS g c d b)
theorem bwb_iff (a b c : Int) : bwb a b c = true ↔ (a ≤ c ∧ c ≤ b) ∨ (b ≤ c ∧ c ≤ a) := by simp [bwb]
theorem spb_iff (a b c d : Int) : spb a b c d = true ↔ (c ≤ a ∨ c ≤ b ∨ d ≤ a ∨ d ≤ b) ∧ (a ≤ c ∨ a ≤ d ∨ b ≤ c ∨ b ≤ d) := by
  unfold spb mnZ mxZ
  simp only [Bool.and_eq_true, decide_eq_true_eq]
  constructor
  · intro ⟨h1, h2⟩
    constructor
    · split at h1 <;> split at h1 <;> omega
    · split at h2 <;> split at h2 <;> omega
  · intro ⟨h1, h2⟩
    constructor
    · split <;> split <;> omega
    · split <;> split <;> omega
theorem ptb_iff (a b : Int) : ptb a b = true ↔ (a ≤ 0 ∧ 0 ≤ b) ∨ (0 ≤ a ∧ b ≤ 0) := by simp [ptb]
/-- a mean of two lies between them -/
theorem mean_bw {D p q a b c : Int} (hD : 0 < D) (hp : 0 ≤ p) (hq : 0 ≤ q) (e : p + q = D) (h : D * c = p * b + q * a) : (a ≤ c ∧ c ≤ b) ∨ (b ≤ c ∧ c ≤ a) := by
  subst e
  rcases Int.le_total a b with z | z
  · left
    have h1 : 0 ≤ p * (b - a) := Int.mul_nonneg hp (by omega)
    have h2 : 0 ≤ q * (b - a) := Int.mul_nonneg hq (by omega)
    have e1 : (p + q) * (c - a) = p * (b - a) := by grind
    have e2 : (p + q) * (b - c) = q * (b - a) := by grind
    constructor
    · rcases Int.lt_or_le c a with w | w
      · have := Int.mul_neg_of_pos_of_neg hD (show c - a < 0 by omega); omega
      · exact w
    · rcases Int.lt_or_le b c with w | w
      · have := Int.mul_neg_of_pos_of_neg hD (show b - c < 0 by omega); omega
      · exact w
  · right
    have h1 : 0 ≤ p * (a - b) := Int.mul_nonneg hp (by omega)
    have h2 : 0 ≤ q * (a - b) := Int.mul_nonneg hq (by omega)
    have e1 : (p + q) * (a - c) = p * (a - b) := by grind
    have e2 : (p + q) * (c - b) = q * (a - b) := by grind
    constructor
    · rcases Int.lt_or_le c b with w | w
      · have := Int.mul_neg_of_pos_of_neg hD (show c - b < 0 by omega); omega
      · exact w
    · rcases Int.lt_or_le a c with w | w
      · have := Int.mul_neg_of_pos_of_neg hD (show a - c < 0 by omega); omega
      · exact w
/-- a place on the line, its first number between: so is its second -/
theorem line_bw {a1 a2 b1 b2 c1 c2 : Int} (s : (b1 - a1) * (c2 - a2) - (b2 - a2) * (c1 - a1) = 0) (hn : a1 ≠ b1) (h : (a1 ≤ c1 ∧ c1 ≤ b1) ∨ (b1 ≤ c1 ∧ c1 ≤ a1)) : (a2 ≤ c2 ∧ c2 ≤ b2) ∨ (b2 ≤ c2 ∧ c2 ≤ a2) := by
  rcases h with h | h
  · exact mean_bw (D := b1 - a1) (p := c1 - a1) (q := b1 - c1) (by omega) (by omega) (by omega) (by omega) (by grind)
  · exact mean_bw (D := a1 - b1) (p := a1 - c1) (q := c1 - b1) (by omega) (by omega) (by omega) (by omega) (by grind)
/-- all four on one line that is not upright -/
theorem col_x {a1 a2 b1 b2 c1 c2 d1 d2 : Int} (hn : a1 ≠ b1) (hcd : c1 ≠ d1 ∨ c2 ≠ d2)
    (s1 : (b1 - a1) * (c2 - a2) - (b2 - a2) * (c1 - a1) = 0) (s2 : (b1 - a1) * (d2 - a2) - (b2 - a2) * (d1 - a1) = 0)
    (s3 : (d1 - c1) * (a2 - c2) - (d2 - c2) * (a1 - c1) = 0) (s4 : (d1 - c1) * (b2 - c2) - (d2 - c2) * (b1 - c1) = 0)
    (h1 : c1 ≤ a1 ∨ c1 ≤ b1 ∨ d1 ≤ a1 ∨ d1 ≤ b1) (h2 : a1 ≤ c1 ∨ a1 ≤ d1 ∨ b1 ≤ c1 ∨ b1 ≤ d1) :
    (((a1 ≤ c1 ∧ c1 ≤ b1) ∨ (b1 ≤ c1 ∧ c1 ≤ a1)) ∧ ((a2 ≤ c2 ∧ c2 ≤ b2) ∨ (b2 ≤ c2 ∧ c2 ≤ a2))) ∨
    (((a1 ≤ d1 ∧ d1 ≤ b1) ∨ (b1 ≤ d1 ∧ d1 ≤ a1)) ∧ ((a2 ≤ d2 ∧ d2 ≤ b2) ∨ (b2 ≤ d2 ∧ d2 ≤ a2))) ∨
    (((c1 ≤ a1 ∧ a1 ≤ d1) ∨ (d1 ≤ a1 ∧ a1 ≤ c1)) ∧ ((c2 ≤ a2 ∧ a2 ≤ d2) ∨ (d2 ≤ a2 ∧ a2 ≤ c2))) ∨
    (((c1 ≤ b1 ∧ b1 ≤ d1) ∨ (d1 ≤ b1 ∧ b1 ≤ c1)) ∧ ((c2 ≤ b2 ∧ b2 ≤ d2) ∨ (d2 ≤ b2 ∧ b2 ≤ c2))) := by
  by_cases k1 : (a1 ≤ c1 ∧ c1 ≤ b1) ∨ (b1 ≤ c1 ∧ c1 ≤ a1)
  · exact Or.inl ⟨k1, line_bw s1 hn k1⟩
  · by_cases k2 : (a1 ≤ d1 ∧ d1 ≤ b1) ∨ (b1 ≤ d1 ∧ d1 ≤ a1)
    · exact Or.inr (Or.inl ⟨k2, line_bw s2 hn k2⟩)
    · have hc : c1 ≠ d1 := by omega
      have k3 : (c1 ≤ a1 ∧ a1 ≤ d1) ∨ (d1 ≤ a1 ∧ a1 ≤ c1) := by omega
      exact Or.inr (Or.inr (Or.inl ⟨k3, line_bw s3 hc k3⟩))
/-- one on the stretch of two others: those are not both on one side of a line through it -/
theorem on_pt {x y p1 p2 q1 q2 : Int} (hx : p1 * q1 ≤ 0) (hy : p2 * q2 ≤ 0) (h : p1 * q2 - p2 * q1 = 0) : (x * p2 - y * p1) * (x * q2 - y * q1) ≤ 0 := by
  have e : (x * p2 - y * p1) * (x * q2 - y * q1) = x * x * (p2 * q2) - 2 * (x * y) * (p1 * q2) + y * y * (p1 * q1) := by
    have : p1 * q2 = p2 * q1 := by omega
    grind
  have r2 : (p1 * q2) * (p1 * q2) = (p1 * q1) * (p2 * q2) := by
    have : p1 * q2 = p2 * q1 := by omega
    grind
  rw [e]
  generalize p1 * q1 = p at *
  generalize p2 * q2 = q at *
  generalize p1 * q2 = r at *
  rcases Int.lt_or_eq_of_le hy with z | z
  · have i : q * (x * x * q - 2 * (x * y) * r + y * y * p) = (x * q - y * r) * (x * q - y * r) := by grind
    have := sq_nn (x * q - y * r)
    rcases Int.lt_or_le 0 (x * x * q - 2 * (x * y) * r + y * y * p) with w | w
    · have := Int.mul_neg_of_neg_of_pos z w; omega
    · exact w
  · subst z
    have r0 : r = 0 := by
      rw [Int.mul_zero] at r2
      rcases Int.mul_eq_zero.mp r2 with w | w <;> exact w
    rw [r0]
    have := Int.mul_nonneg (sq_nn y) (show 0 ≤ -p by omega)
    have : y * y * -p = -(y * y * p) := by grind
    omega
theorem opp_pt {a b : Int} (h : a * b ≤ 0) : (a ≤ 0 ∧ 0 ≤ b) ∨ (0 ≤ a ∧ b ≤ 0) := by
  rcases Int.lt_trichotomy a 0 with q | q | q <;> rcases Int.lt_trichotomy b 0 with w | w | w
  · have := Int.mul_pos_of_neg_of_neg q w; omega
  all_goals try omega
  have := Int.mul_pos q w; omega
theorem bw_mul {a b c : Int} (h : (a ≤ c ∧ c ≤ b) ∨ (b ≤ c ∧ c ≤ a)) : (a - c) * (b - c) ≤ 0 := by
  rcases h with h | h
  · have := Int.mul_nonneg (show 0 ≤ c - a by omega) (show 0 ≤ b - c by omega)
    have e : (c - a) * (b - c) = -((a - c) * (b - c)) := by grind
    omega
  · have := Int.mul_nonneg (show 0 ≤ a - c by omega) (show 0 ≤ c - b by omega)
    have e : (a - c) * (c - b) = -((a - c) * (b - c)) := by grind
    omega
/-- c on the stretch from a to b -/
theorem within_pt {a1 a2 b1 b2 c1 c2 d1 d2 : Int} (s : (b1 - a1) * (c2 - a2) - (b2 - a2) * (c1 - a1) = 0) (h1 : (a1 ≤ c1 ∧ c1 ≤ b1) ∨ (b1 ≤ c1 ∧ c1 ≤ a1)) (h2 : (a2 ≤ c2 ∧ c2 ≤ b2) ∨ (b2 ≤ c2 ∧ c2 ≤ a2)) :
    ((d1 - c1) * (a2 - c2) - (d2 - c2) * (a1 - c1)) * ((d1 - c1) * (b2 - c2) - (d2 - c2) * (b1 - c1)) ≤ 0 :=
  on_pt (bw_mul h1) (bw_mul h2) (by grind)
/-- the place in common of two lines, as a mean of either two -/
theorem met_id (a1 a2 b1 b2 c1 c2 d1 d2 x y z w : Int) (hx : x = (b1 - a1) * (c2 - a2) - (b2 - a2) * (c1 - a1)) (hy : y = (b1 - a1) * (d2 - a2) - (b2 - a2) * (d1 - a1)) (hz : z = (d1 - c1) * (a2 - c2) - (d2 - c2) * (a1 - c1)) (hw : w = (d1 - c1) * (b2 - c2) - (d2 - c2) * (b1 - c1)) :
    y - x = z - w ∧ y * c1 - x * d1 = z * b1 - w * a1 ∧ y * c2 - x * d2 = z * b2 - w * a2 := by
  subst hx hy hz hw
  refine ⟨by grind, by grind, by grind⟩
theorem cross_sp {x y z w a b c d : Int} (h1 : y - x = z - w) (h2 : y * c - x * d = z * b - w * a) (hxy : (x < 0 ∧ 0 < y) ∨ (0 < x ∧ y < 0)) (hzw : (z < 0 ∧ 0 < w) ∨ (0 < z ∧ w < 0)) : (c ≤ a ∨ c ≤ b ∨ d ≤ a ∨ d ≤ b) ∧ (a ≤ c ∨ a ≤ d ∨ b ≤ c ∨ b ≤ d) := by
  -- a mean of c, d is a mean of a, b
  have key : ∀ x y z w : Int, y - x = z - w → y * c - x * d = z * b - w * a → x < 0 → 0 < y → w < 0 → 0 < z → (c ≤ a ∨ c ≤ b ∨ d ≤ a ∨ d ≤ b) ∧ (a ≤ c ∨ a ≤ d ∨ b ≤ c ∨ b ≤ d) := by
    intro x y z w e1 e2 hx hy hw hz
    constructor
    · refine Classical.byContradiction (fun q => ?_)
      -- all of c, d above a, b: take the middle m
      have q1 : a < c ∧ b < c ∧ a < d ∧ b < d := by omega
      have hm : ∃ m, a ≤ m ∧ b ≤ m ∧ m < c ∧ m < d := by
        rcases Int.le_total a b with t | t
        · exact ⟨b, by omega⟩
        · exact ⟨a, by omega⟩
      obtain ⟨m, m1, m2, m3, m4⟩ := hm
      have k1 := Int.mul_pos hy (show 0 < c - m by omega)
      have k2 := Int.mul_pos (show 0 < -x by omega) (show 0 < d - m by omega)
      have k3 := Int.mul_nonneg (show 0 ≤ z by omega) (show 0 ≤ m - b by omega)
      have k4 := Int.mul_nonneg (show 0 ≤ -w by omega) (show 0 ≤ m - a by omega)
      have e3 : y * (c - m) + -x * (d - m) + (z * (m - b) + -w * (m - a)) = (y * c - x * d - (z * b - w * a)) - m * ((y - x) - (z - w)) := by grind
      rw [e1, e2] at e3
      simp at e3
      omega
    · refine Classical.byContradiction (fun q => ?_)
      have q1 : c < a ∧ c < b ∧ d < a ∧ d < b := by omega
      have hm : ∃ m, m ≤ a ∧ m ≤ b ∧ c < m ∧ d < m := by
        rcases Int.le_total a b with t | t
        · exact ⟨a, by omega⟩
        · exact ⟨b, by omega⟩
      obtain ⟨m, m1, m2, m3, m4⟩ := hm
      have k1 := Int.mul_pos hy (show 0 < m - c by omega)
      have k2 := Int.mul_pos (show 0 < -x by omega) (show 0 < m - d by omega)
      have k3 := Int.mul_nonneg (show 0 ≤ z by omega) (show 0 ≤ b - m by omega)
      have k4 := Int.mul_nonneg (show 0 ≤ -w by omega) (show 0 ≤ a - m by omega)
      have e3 : y * (m - c) + -x * (m - d) + (z * (b - m) + -w * (a - m)) = m * ((y - x) - (z - w)) - (y * c - x * d - (z * b - w * a)) := by grind
      rw [e1, e2] at e3
      simp at e3
      omega
  rcases hxy with p | p <;> rcases hzw with q | q
  · omega
  · exact key x y z w h1 h2 p.1 p.2 q.2 q.1
  · refine key (-x) (-y) (-z) (-w) (by omega) (by grind) (by omega) (by omega) (by omega) (by omega)
  · omega
theorem meet_xy {a1 a2 b1 b2 c1 c2 d1 d2 x y z w : Int} (hab : a1 ≠ b1 ∨ a2 ≠ b2) (hcd : c1 ≠ d1 ∨ c2 ≠ d2)
    (hx : x = (b1 - a1) * (c2 - a2) - (b2 - a2) * (c1 - a1)) (hy : y = (b1 - a1) * (d2 - a2) - (b2 - a2) * (d1 - a1)) (hz : z = (d1 - c1) * (a2 - c2) - (d2 - c2) * (a1 - c1)) (hw : w = (d1 - c1) * (b2 - c2) - (d2 - c2) * (b1 - c1)) :
    ((x = 0 ∧ bwb a1 b1 c1 = true ∧ bwb a2 b2 c2 = true) ∨ (y = 0 ∧ bwb a1 b1 d1 = true ∧ bwb a2 b2 d2 = true) ∨ (z = 0 ∧ bwb c1 d1 a1 = true ∧ bwb c2 d2 a2 = true) ∨ (w = 0 ∧ bwb c1 d1 b1 = true ∧ bwb c2 d2 b2 = true) ∨ (¬ (0 < x ↔ 0 < y) ∧ ¬ (0 < z ↔ 0 < w) ∧ x ≠ 0 ∧ y ≠ 0 ∧ z ≠ 0 ∧ w ≠ 0)) ↔
    (spb a1 b1 c1 d1 = true ∧ spb a2 b2 c2 d2 = true ∧ ptb x y = true ∧ ptb z w = true) := by
  obtain ⟨i1, i2, i3⟩ := met_id a1 a2 b1 b2 c1 c2 d1 d2 x y z w hx hy hz hw
  rw [bwb_iff, bwb_iff, bwb_iff, bwb_iff, bwb_iff, bwb_iff, bwb_iff, bwb_iff, spb_iff, spb_iff, ptb_iff, ptb_iff]
  constructor
  · rintro (⟨h0, h1, h2⟩ | ⟨h0, h1, h2⟩ | ⟨h0, h1, h2⟩ | ⟨h0, h1, h2⟩ | ⟨h1, h2, h3, h4, h5, h6⟩)
    · have := within_pt (d1 := d1) (d2 := d2) (hx ▸ h0) h1 h2
      rw [← hz, ← hw] at this
      exact ⟨by omega, by omega, by omega, opp_pt this⟩
    · have := within_pt (d1 := c1) (d2 := c2) (hy ▸ h0) h1 h2
      have e1 : (c1 - d1) * (a2 - d2) - (c2 - d2) * (a1 - d1) = -z := by rw [hz]; grind
      have e2 : (c1 - d1) * (b2 - d2) - (c2 - d2) * (b1 - d1) = -w := by rw [hw]; grind
      rw [e1, e2] at this
      have := opp_pt this
      exact ⟨by omega, by omega, by omega, by omega⟩
    · have := within_pt (d1 := b1) (d2 := b2) (hz ▸ h0) h1 h2
      rw [← hx, ← hy] at this
      exact ⟨by omega, by omega, opp_pt this, by omega⟩
    · have := within_pt (d1 := a1) (d2 := a2) (hw ▸ h0) h1 h2
      have e1 : (a1 - b1) * (c2 - b2) - (a2 - b2) * (c1 - b1) = -x := by rw [hx]; grind
      have e2 : (a1 - b1) * (d2 - b2) - (a2 - b2) * (d1 - b1) = -y := by rw [hy]; grind
      rw [e1, e2] at this
      have := opp_pt this
      exact ⟨by omega, by omega, by omega, by omega⟩
    · have k1 : (x < 0 ∧ 0 < y) ∨ (0 < x ∧ y < 0) := by omega
      have k2 : (z < 0 ∧ 0 < w) ∨ (0 < z ∧ w < 0) := by omega
      exact ⟨cross_sp i1 i2 k1 k2, cross_sp i1 i3 k1 k2, by omega, by omega⟩
  · rintro ⟨h1, h2, h3, h4⟩
    by_cases x0 : x = 0
    · by_cases y0 : y = 0
      · -- all on one line
        have z0 : z = 0 := by omega
        have w0 : w = 0 := by omega
        rcases Classical.em (a1 = b1) with q | q
        · have q2 : a2 ≠ b2 := by omega
          have t1 : (b2 - a2) * (c1 - a1) - (b1 - a1) * (c2 - a2) = 0 := by omega
          have t2 : (b2 - a2) * (d1 - a1) - (b1 - a1) * (d2 - a2) = 0 := by omega
          have t3 : (d2 - c2) * (a1 - c1) - (d1 - c1) * (a2 - c2) = 0 := by omega
          have t4 : (d2 - c2) * (b1 - c1) - (d1 - c1) * (b2 - c2) = 0 := by omega
          have := col_x q2 (by omega) t1 t2 t3 t4 h2.1 h2.2
          rcases this with r | r | r | r
          · exact Or.inl ⟨x0, r.2, r.1⟩
          · exact Or.inr (Or.inl ⟨y0, r.2, r.1⟩)
          · exact Or.inr (Or.inr (Or.inl ⟨z0, r.2, r.1⟩))
          · exact Or.inr (Or.inr (Or.inr (Or.inl ⟨w0, r.2, r.1⟩)))
        · have := col_x q hcd (hx ▸ x0) (hy ▸ y0) (hz ▸ z0) (hw ▸ w0) h1.1 h1.2
          rcases this with r | r | r | r
          · exact Or.inl ⟨x0, r.1, r.2⟩
          · exact Or.inr (Or.inl ⟨y0, r.1, r.2⟩)
          · exact Or.inr (Or.inr (Or.inl ⟨z0, r.1, r.2⟩))
          · exact Or.inr (Or.inr (Or.inr (Or.inl ⟨w0, r.1, r.2⟩)))
      · left
        rw [x0, Int.zero_mul, Int.sub_zero] at i2 i3
        rcases Int.lt_or_gt_of_ne y0 with q | q
        · exact ⟨x0, mean_bw (D := -y) (p := -z) (q := w) (by omega) (by omega) (by omega) (by omega) (by grind), mean_bw (D := -y) (p := -z) (q := w) (by omega) (by omega) (by omega) (by omega) (by grind)⟩
        · exact ⟨x0, mean_bw (D := y) (p := z) (q := -w) (by omega) (by omega) (by omega) (by omega) (by grind), mean_bw (D := y) (p := z) (q := -w) (by omega) (by omega) (by omega) (by omega) (by grind)⟩
    · by_cases y0 : y = 0
      · right; left
        rw [y0, Int.zero_mul] at i2 i3
        rcases Int.lt_or_gt_of_ne x0 with q | q
        · exact ⟨y0, mean_bw (D := -x) (p := z) (q := -w) (by omega) (by omega) (by omega) (by omega) (by grind), mean_bw (D := -x) (p := z) (q := -w) (by omega) (by omega) (by omega) (by omega) (by grind)⟩
        · exact ⟨y0, mean_bw (D := x) (p := -z) (q := w) (by omega) (by omega) (by omega) (by omega) (by grind), mean_bw (D := x) (p := -z) (q := w) (by omega) (by omega) (by omega) (by omega) (by grind)⟩
      · by_cases z0 : z = 0
        · right; right; left
          rw [z0, Int.zero_mul] at i2 i3
          rcases Int.lt_or_gt_of_ne x0 with q | q
          · exact ⟨z0, mean_bw (D := -w) (p := -x) (q := y) (by omega) (by omega) (by omega) (by omega) (by grind), mean_bw (D := -w) (p := -x) (q := y) (by omega) (by omega) (by omega) (by omega) (by grind)⟩
          · exact ⟨z0, mean_bw (D := w) (p := x) (q := -y) (by omega) (by omega) (by omega) (by omega) (by grind), mean_bw (D := w) (p := x) (q := -y) (by omega) (by omega) (by omega) (by omega) (by grind)⟩
        · by_cases w0 : w = 0
          · right; right; right; left
            rw [w0, Int.zero_mul, Int.sub_zero] at i2 i3
            rcases Int.lt_or_gt_of_ne x0 with q | q
            · exact ⟨w0, mean_bw (D := z) (p := -x) (q := y) (by omega) (by omega) (by omega) (by omega) (by grind), mean_bw (D := z) (p := -x) (q := y) (by omega) (by omega) (by omega) (by omega) (by grind)⟩
            · exact ⟨w0, mean_bw (D := -z) (p := x) (q := -y) (by omega) (by omega) (by omega) (by omega) (by grind), mean_bw (D := -z) (p := x) (q := -y) (by omega) (by omega) (by omega) (by omega) (by grind)⟩
          · exact Or.inr (Or.inr (Or.inr (Or.inr ⟨by omega, by omega, x0, y0, z0, w0⟩)))
theorem gDm_Mt {g : Nat → Int} (ok : okg g) {a b c d : Nat} (ha : a < gN g) (hb : b < gN g) (hc : c < gN g) (hd : d < gN g) (hab : a ≠ b) (hcd : c ≠ d) : gDm g a b c d = gMt g a b c d := by
  have := meet_xy (ok.2.2.2.2.2 a b ha hb hab) (ok.2.2.2.2.2 c d hc hd hcd) (x := gS g a b c) (y := gS g a b d) (z := gS g c d a) (w := gS g c d b) rfl rfl rfl rfl
  apply Bool.eq_iff_iff.mpr
  unfold gDm gMt gWi
  simp only [Bool.or_eq_true, Bool.and_eq_true, decide_eq_true_eq, Bool.not_eq_true', beq_eq_false_iff_ne, ne_eq, decide_eq_decide]
  constructor
  · intro h
    have := this.mp (by
      rcases h with (((h | h) | h) | h) | h
      · exact Or.inl ⟨h.1.1, h.1.2, h.2⟩
      · exact Or.inr (Or.inl ⟨h.1.1, h.1.2, h.2⟩)
      · exact Or.inr (Or.inr (Or.inl ⟨h.1.1, h.1.2, h.2⟩))
      · exact Or.inr (Or.inr (Or.inr (Or.inl ⟨h.1.1, h.1.2, h.2⟩)))
      · exact Or.inr (Or.inr (Or.inr (Or.inr ⟨h.1.1.1.1.1, h.1.1.1.1.2, h.1.1.1.2, h.1.1.2, h.1.2, h.2⟩))))
    exact ⟨⟨⟨this.1, this.2.1⟩, this.2.2.1⟩, this.2.2.2⟩
  · intro h
    rcases this.mpr ⟨h.1.1.1, h.1.1.2, h.1.2, h.2⟩ with h | h | h | h | h
    · exact Or.inl (Or.inl (Or.inl (Or.inl ⟨⟨h.1, h.2.1⟩, h.2.2⟩)))
    · exact Or.inl (Or.inl (Or.inl (Or.inr ⟨⟨h.1, h.2.1⟩, h.2.2⟩)))
    · exact Or.inl (Or.inl (Or.inr ⟨⟨h.1, h.2.1⟩, h.2.2⟩))
    · exact Or.inl (Or.inr ⟨⟨h.1, h.2.1⟩, h.2.2⟩)
    · exact Or.inr ⟨⟨⟨⟨⟨h.1, h.2.1⟩, h.2.2.1⟩, h.2.2.2.1⟩, h.2.2.2.2.1⟩, h.2.2.2.2.2⟩
-- sums
theorem sm_s (f : Nat → Int) (k : Nat) : sm f (k + 1) = sm f k + f k := rfl
theorem sm_zero {f : Nat → Int} : ∀ {k : Nat}, (∀ j, j < k → f j = 0) → sm f k = 0
  | 0, _ => rfl
  | k + 1, h => by rw [sm_s, sm_zero (fun j hj => h j (by omega)), h k (by omega)]; rfl
theorem sm_row {n u : Nat} {f : Nat → Nat → Int} : ∀ k, k ≤ n → sm (fun j => f (j / n) (j % n)) (u * n + k) = sm (fun j => f (j / n) (j % n)) (u * n) + sm (f u) k
  | 0, _ => by rw [Nat.add_zero]; exact (Int.add_zero _).symm
  | k + 1, h => by
    have e := wdiv (u := u) (show k < n by omega)
    rw [← Nat.add_assoc, sm_s, sm_row k (by omega), sm_s, e.1, e.2, Int.add_assoc]
theorem sm_flat {n : Nat} {f : Nat → Nat → Int} : ∀ m, sm (fun j => f (j / n) (j % n)) (m * n) = sm (fun a => sm (f a) n) m
  | 0 => by rw [Nat.zero_mul]; rfl
  | m + 1 => by rw [Nat.succ_mul, sm_row n (Nat.le_refl _), sm_flat m, sm_s]
/-- the reference: four nodes, two links of them that meet -/
def xR (g : Nat → Int) (a b c d : Nat) : Bool := decide (a < b) && decide (c < d) && decide (a ≠ c) && decide (a ≠ d) && decide (b ≠ c) && decide (b ≠ d) && gL g a b && gL g c d && gDm g a b c d
def xF (g : Nat → Int) (i j : Nat) : Int := bI (decide (i < j) && xR g (i / gN g) (i % gN g) (j / gN g) (j % gN g))
/-- the class's -/
def xC (g : Nat → Int) (a b c d : Nat) : Bool := decide (c < d) && decide (c ≠ b) && decide (d ≠ b) && gL g c d && gMt g a b c d
def xD (g : Nat → Int) (a b c : Nat) : Int := if a < c then sm (fun d => bI (xC g a b c d)) (gN g) else 0
def xB (g : Nat → Int) (a b : Nat) : Int := if a < b ∧ gL g a b = true then sm (xD g a b) (gN g) else 0
theorem cross_eq {g : Nat → Int} (ok : okg g) : sm (fun i => sm (xF g i) (gN g * gN g)) (gN g * gN g) = sm (fun a => sm (xB g a) (gN g)) (gN g) := by
  have h1 := sm_flat (n := gN g) (f := fun a b => sm (xF g (a * gN g + b)) (gN g * gN g)) (gN g)
  have h0 : sm (fun i => sm (xF g i) (gN g * gN g)) (gN g * gN g) = sm (fun j => (fun a b => sm (xF g (a * gN g + b)) (gN g * gN g)) (j / gN g) (j % gN g)) (gN g * gN g) := by
    refine sm_cg (fun j _ => ?_)
    show _ = sm (xF g (j / gN g * gN g + j % gN g)) _
    rw [show j / gN g * gN g + j % gN g = j by rw [Nat.mul_comm]; exact Nat.div_add_mod _ _]
  rw [h0, h1]
  refine sm_cg (fun a ha => sm_cg (fun b hb => ?_))
  have e := wdiv (u := a) hb
  have h2 := sm_flat (n := gN g) (f := fun c d => bI (decide (a * gN g + b < c * gN g + d) && xR g a b c d)) (gN g)
  have h3 : sm (xF g (a * gN g + b)) (gN g * gN g) = sm (fun j => (fun c d => bI (decide (a * gN g + b < c * gN g + d) && xR g a b c d)) (j / gN g) (j % gN g)) (gN g * gN g) := by
    refine sm_cg (fun j _ => ?_)
    unfold xF
    rw [e.1, e.2]
    show _ = bI (decide (_ < j / gN g * gN g + j % gN g) && _)
    rw [show j / gN g * gN g + j % gN g = j by rw [Nat.mul_comm]; exact Nat.div_add_mod _ _]
  show sm (xF g (a * gN g + b)) (gN g * gN g) = _
  rw [h3, h2]
  unfold xB
  by_cases q : a < b ∧ gL g a b = true
  · rw [if_pos q]
    refine sm_cg (fun c hc => ?_)
    unfold xD
    by_cases r : a < c
    · rw [if_pos r]
      refine sm_cg (fun d hd => ?_)
      congr 1
      have lt : a * gN g + b < c * gN g + d := by
        have : (a + 1) * gN g ≤ c * gN g := Nat.mul_le_mul_right _ r
        rw [Nat.succ_mul] at this
        omega
      rw [decide_eq_true lt, Bool.true_and]
      unfold xR xC
      rw [q.2, decide_eq_true q.1, decide_eq_true (show a ≠ c by omega)]
      by_cases s : c < d
      · rw [decide_eq_true s, decide_eq_true (show a ≠ d by omega), gDm_Mt ok ha hb hc hd (by omega) (by omega)]
        have e1 : decide (b ≠ c) = decide (c ≠ b) := decide_eq_decide.mpr ⟨fun h => h.symm, fun h => h.symm⟩
        have e2 : decide (b ≠ d) = decide (d ≠ b) := decide_eq_decide.mpr ⟨fun h => h.symm, fun h => h.symm⟩
        rw [e1, e2]
        simp only [Bool.true_and, Bool.and_true]
      · rw [decide_eq_false s]; simp
    · rw [if_neg r]
      refine sm_zero (fun d hd => ?_)
      have : (decide (a * gN g + b < c * gN g + d) && xR g a b c d) = false := by
        by_cases s : a = c
        · unfold xR; simp [s]
        · have : (c + 1) * gN g ≤ a * gN g := Nat.mul_le_mul_right _ (by omega)
          rw [Nat.succ_mul] at this
          rw [decide_eq_false (by omega), Bool.false_and]
      rw [this]; rfl
  · rw [if_neg q]
    refine sm_zero (fun c hc => sm_zero (fun d hd => ?_))
    have : xR g a b c d = false := by
      unfold xR
      by_cases s : a < b
      · have : gL g a b = false := by simpa using (fun z => q ⟨s, z⟩)
        rw [this]; simp
      · rw [decide_eq_false s]; simp
    rw [this, Bool.and_false]; rfl
