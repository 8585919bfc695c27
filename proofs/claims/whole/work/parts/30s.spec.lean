theorem pr10 {a b : Int} (ha : 0 ≤ a ∧ a ≤ 10) (hb : 0 ≤ b ∧ b ≤ 10) : 0 ≤ a * b ∧ a * b ≤ 100 := by
  have h1 : 0 ≤ a * b := Int.mul_nonneg ha.1 hb.1
  have h2 : 0 ≤ (10 - a) * b := Int.mul_nonneg (by omega) hb.1
  have e : (10 - a) * b = 10 * b - a * b := by grind
  omega
/-- all ways of the face up to the k-th stand behind w, counted row by row -/
def ffF (g : Nat → Int) (u v w : Nat) : Nat → Bool
  | 0 => true
  | k + 1 => ffF g u v w k && decide (w ≤ (itF g (k + 1) (u, v)).1 * gN g + (itF g (k + 1) (u, v)).2)
def lF (g : Nat → Int) : Nat → Int × Int
  | 0 => (0, 0)
  | w + 1 => if gT g (w / gN g) (w % gN g) = true then ((lF g w).1 + bI (ffF g (w / gN g) (w % gN g) w (gFl g (w / gN g) (w % gN g))), mxZ (lF g w).2 (gFl g (w / gN g) (w % gN g))) else lF g w
theorem lF_s (g : Nat → Int) (w : Nat) : lF g (w + 1) = if gT g (w / gN g) (w % gN g) = true then ((lF g w).1 + bI (ffF g (w / gN g) (w % gN g) w (gFl g (w / gN g) (w % gN g))), mxZ (lF g w).2 (gFl g (w / gN g) (w % gN g))) else lF g w := rfl
theorem lF_rg {g : Nat → Int} (ok : okg g) : ∀ w, 0 ≤ (lF g w).1 ∧ (lF g w).1 ≤ w ∧ 0 ≤ (lF g w).2 ∧ (lF g w).2 ≤ 90
  | 0 => by simp [lF]
  | w + 1 => by
    have i := lF_rg ok w
    rw [lF_s]
    split
    · next q =>
      have f := gFl_spec ok q
      have b := bI_or (ffF g (w / gN g) (w % gN g) w (gFl g (w / gN g) (w % gN g)))
      refine ⟨?_, ?_, ?_, ?_⟩
      · dsimp only; omega
      · dsimp only; omega
      · dsimp only; unfold mxZ; split <;> omega
      · dsimp only; unfold mxZ; split <;> omega
    · omega
theorem ms_72 (V : Mem) (a b c d : Int) : ms (ms (ms (ms V 72 11 a) 72 12 b) 72 11 c) 72 12 d = ms (ms V 72 11 c) 72 12 d := by
  funext x y
  simp only [ms_at]
  by_cases h : x = 72
  · subst h; simp only [if_true]
    by_cases h1 : y = 12
    · simp [h1]
    · by_cases h2 : y = 11
      · simp [h2]
      · simp [h1, h2]
  · simp [h]
theorem ff_dec {g : Nat → Int} (ok : okg g) {u v w k : Nat} (h : gT g u v = true) : ffF g u v w (k + 1) = (ffF g u v w k && decide ((w : Int) ≤ ((itF g k (u, v)).2 : Int) * g 0 + gU g (itF g k (u, v)).2 (itF g k (u, v)).1)) := by
  have fa := itF_at ok h k
  have n1 := ok.n
  rw [show ffF g u v w (k + 1) = (ffF g u v w k && decide (w ≤ (itF g (k + 1) (u, v)).1 * gN g + (itF g (k + 1) (u, v)).2)) from rfl]
  congr 1
  apply decide_eq_decide.mpr
  rw [itF_s]
  dsimp only
  rw [n1.1]
  have e : (((itF g k (u, v)).2 * gN g : Nat) : Int) = ((itF g k (u, v)).2 : Int) * (gN g : Int) := Int.natCast_mul _ _
  have e2 := Int.toNat_of_nonneg fa.2.2.2.1
  omega
