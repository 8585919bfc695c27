-- sets by what belongs to them
def stN (P : Nat → Bool) : Nat → Nat
  | 0 => 0
  | k + 1 => stN P k ||| (if P k then 2 ^ k else 0)
theorem stN_bit (P : Nat → Bool) (w : Nat) : ∀ k, (stN P k).testBit w = (decide (w < k) && P w)
  | 0 => by simp [stN]
  | k + 1 => by
    unfold stN
    rw [Nat.testBit_or, stN_bit P w k]
    by_cases h : w = k
    · subst h
      cases hL : P w <;> simp [Nat.testBit_two_pow_self]
    · have h1 : (if P k = true then 2 ^ k else 0).testBit w = false := by
        split
        · rw [Nat.testBit_two_pow]; simp; omega
        · exact Nat.zero_testBit w
      rw [h1, Bool.or_false]
      congr 1
      apply decide_eq_decide.mpr
      omega
theorem stN_lt (P : Nat → Bool) : ∀ k, stN P k < 2 ^ k
  | 0 => by simp [stN]
  | k + 1 => by
    have := stN_lt P k
    unfold stN
    refine Nat.or_lt_two_pow (Nat.lt_of_lt_of_le this (Nat.pow_le_pow_right (by decide) (by omega))) ?_
    split
    · exact Nat.pow_lt_pow_right (by decide) (by omega)
    · exact Nat.two_pow_pos _
/-- the pair of i and j has been gone through, ahead of u, v -/
def prc (u v i j : Nat) : Bool := decide ((i < u ∧ j < u) ∨ (i = u ∧ j < v) ∨ (j = u ∧ i < v))
def pS (E : Nat → Nat → Bool) (u v i : Nat) : Nat := stN (fun j => E i j && prc u v i j) 10
theorem pS_lt (E : Nat → Nat → Bool) (u v i : Nat) : pS E u v i < 1024 := stN_lt _ 10
theorem pS_0 (E : Nat → Nat → Bool) (i : Nat) : pS E 0 0 i = 0 := by
  apply Nat.eq_of_testBit_eq
  intro w
  unfold pS prc
  rw [stN_bit]
  simp
theorem pS_cg {E : Nat → Nat → Bool} {u v u2 v2 i : Nat} (h : ∀ w, w < 10 → E i w = true → prc u v i w = prc u2 v2 i w) : pS E u v i = pS E u2 v2 i := by
  apply Nat.eq_of_testBit_eq
  intro w
  unfold pS
  rw [stN_bit, stN_bit]
  by_cases q : w < 10
  · cases e : E i w with
    | false => rfl
    | true => rw [h w q e]
  · simp [q]
theorem pS_next (E : Nat → Nat → Bool) (hE : ∀ i, E i i = false) (u i : Nat) : pS E u u i = pS E (u + 1) 0 i := by
  refine pS_cg (fun w _ e => ?_)
  have : i ≠ w := fun q => by rw [q, hE] at e; cases e
  unfold prc
  apply decide_eq_decide.mpr
  omega
theorem pS_no (E : Nat → Nat → Bool) {u v : Nat} (hs : ∀ i j, E i j = E j i) (h : E u v = false) (hvu : v < u) (i : Nat) : pS E u v i = pS E u (v + 1) i := by
  refine pS_cg (fun w _ e => ?_)
  have q : ¬ ((i = u ∧ w = v) ∨ (i = v ∧ w = u)) := by
    rintro (⟨rfl, rfl⟩ | ⟨rfl, rfl⟩)
    · rw [h] at e; cases e
    · rw [hs, h] at e; cases e
  unfold prc
  apply decide_eq_decide.mpr
  omega
theorem pS_yes (E : Nat → Nat → Bool) {u v : Nat} (hs : ∀ i j, E i j = E j i) (h : E u v = true) (hvu : v < u) (hu : u < 10) (i : Nat) : pS E u (v + 1) i = if i = u then pS E u v u ||| 2 ^ v else if i = v then pS E u v v ||| 2 ^ u else pS E u v i := by
  have key : ∀ x y : Nat, x ≠ y → (x = u ∧ y = v ∨ x = v ∧ y = u) → pS E u (v + 1) x = pS E u v x ||| 2 ^ y := by
    intro x y hxy hq
    apply Nat.eq_of_testBit_eq
    intro w
    unfold pS
    rw [Nat.testBit_or, stN_bit, stN_bit, Nat.testBit_two_pow]
    by_cases q2 : w = y
    · subst q2
      have e1 : E x w = true := by
        rcases hq with ⟨rfl, rfl⟩ | ⟨rfl, rfl⟩
        · exact h
        · rw [hs]; exact h
      have e2 : prc u (v + 1) x w = true := by unfold prc; apply decide_eq_true; omega
      rw [e1, e2, decide_eq_true (show w < 10 by omega)]
      simp
    · have e2 : prc u (v + 1) x w = prc u v x w := by unfold prc; apply decide_eq_decide.mpr; omega
      rw [e2, decide_eq_false (show ¬ y = w by omega), Bool.or_false]
  split
  · next q => rw [q]; exact key u v (by omega) (Or.inl ⟨rfl, rfl⟩)
  · next q =>
    split
    · next q3 => rw [q3]; exact key v u (by omega) (Or.inr ⟨rfl, rfl⟩)
    · next q3 =>
      refine pS_cg (fun w _ e => ?_)
      unfold prc
      apply decide_eq_decide.mpr
      omega
theorem gL_irr (g : Nat → Int) (i : Nat) : gL g i i = false := by unfold gL; simp
theorem gT_irr (g : Nat → Int) (i : Nat) : gT g i i = false := by unfold gT; rw [gL_irr]; rfl
theorem pS_L {g : Nat → Int} (ok : okg g) (i : Nat) : pS (gL g) (gN g) 0 i = gLs g i (gN g) := by
  apply Nat.eq_of_testBit_eq
  intro w
  unfold pS prc
  rw [stN_bit, gLs_bit]
  have n1 := ok.n
  cases h : gL g i w with
  | false => simp
  | true =>
    have := gL_lt ok h
    rw [decide_eq_true (show w < 10 by omega), decide_eq_true (show w < gN g by omega), decide_eq_true (show (i < gN g ∧ w < gN g) ∨ (i = gN g ∧ w < 0) ∨ (w = gN g ∧ i < 0) by omega)]
    rfl
theorem pS_T {g : Nat → Int} (ok : okg g) (i : Nat) : pS (gT g) (gN g) 0 i = gTs g i (gN g) := by
  apply Nat.eq_of_testBit_eq
  intro w
  unfold pS prc
  rw [stN_bit, gTs_bit]
  have n1 := ok.n
  cases h : gT g i w with
  | false => simp
  | true =>
    have := gT_lt ok h
    rw [decide_eq_true (show w < 10 by omega), decide_eq_true (show w < gN g by omega), decide_eq_true (show (i < gN g ∧ w < gN g) ∨ (i = gN g ∧ w < 0) ∨ (w = gN g ∧ i < 0) by omega)]
    rfl
/-- a row of sets -/
def rwS (V : Mem) (c : Nat) (f : Nat → Nat) : Mem := va_up V c (fun b => if b < 10 then (f b : Int) else V c b)
theorem rwS_at {V : Mem} {c : Nat} {f : Nat → Nat} {b : Nat} (h : b < 10) : rwS V c f c b = (f b : Int) := by
  unfold rwS; rw [va_up_self, if_pos h]
theorem rwS_cg {V : Mem} {c : Nat} {f f2 : Nat → Nat} (h : ∀ b, b < 10 → f b = f2 b) : rwS V c f = rwS V c f2 := by
  unfold rwS
  congr 1
  funext b
  by_cases q : b < 10
  · rw [if_pos q, if_pos q, h b q]
  · rw [if_neg q, if_neg q]
theorem rwS_tie {V : Mem} {c : Nat} {f f2 : Nat → Nat} {u v : Nat} {x y : Int} (hu : u < 10) (hv : v < 10) (hx : x = (f2 u : Int)) (hy : y = (f2 v : Int)) (h : ∀ b, b < 10 → b ≠ u → b ≠ v → f2 b = f b) : ms (ms (rwS V c f) c u x) c v y = rwS V c f2 := by
  unfold ms rwS
  rw [up_up, up_up, va_up_self, va_up_self]
  congr 1
  funext b
  subst hx hy
  unfold va_up
  by_cases q : b = v
  · rw [if_pos q, if_pos (by omega), q]
  · rw [if_neg q]
    by_cases q2 : b = u
    · rw [if_pos q2, if_pos (by omega), q2]
    · rw [if_neg q2]
      dsimp only
      by_cases q3 : b < 10
      · rw [if_pos q3, if_pos q3, h b q3 q2 q]
      · rw [if_neg q3, if_neg q3]
def fmem (V : Mem) (g : Nat → Int) (u v u2 v2 : Nat) : Mem := rwS (rwS V 5 (pS (gL g) u v)) 6 (pS (gT g) u2 v2)
-- bits counted
def pcN (m : Nat) : Nat → Int
  | 0 => 0
  | k + 1 => pcN m k + bI (m.testBit k)
def bcE (z : Int) : Int :=
  let a := z - bAnd (bUshr z 1) 1431655765
  let b := bAnd a 858993459 + bAnd (bUshr a 2) 858993459
  let c := bAnd (b + bUshr b 4) 252645135
  let d := c + bUshr c 8
  bAnd (d + bUshr d 16) 63
theorem bcE_k : ∀ m : Nat, m < 1024 → bcE (m : Int) = pcN m 10 := by decide +kernel
section FM
variable {V : Mem} {g : Nat → Int} {u v : Nat}
theorem fm_5 {i u2 v2 : Nat} (h : i < 10) : fmem V g u v u2 v2 5 i = (pS (gL g) u v i : Int) := by
  unfold fmem rwS
  rw [va_up_ne _ _ (by decide), va_up_self, if_pos h]
theorem fm_6 {i u2 v2 : Nat} (h : i < 10) : fmem V g u2 v2 u v 6 i = (pS (gT g) u v i : Int) := by
  unfold fmem
  exact rwS_at h
theorem rwS_swap (f f2 : Nat → Nat) : rwS (rwS V 5 f) 6 f2 = rwS (rwS V 6 f2) 5 f := by
  funext a b
  unfold rwS va_up
  by_cases h6 : a = 6
  · subst h6; simp
  · by_cases h5 : a = 5
    · subst h5; simp
    · simp [h6, h5]
theorem fmA5 (hu : u < 10) (hvu : v < u) (h : gL g u v = true) : ms (ms (fmem V g u v u v) 5 u ((pS (gL g) u v u ||| 2 ^ v : Nat) : Int)) 5 v ((pS (gL g) u v v ||| 2 ^ u : Nat) : Int) = fmem V g u (v + 1) u v := by
  unfold fmem
  rw [rwS_swap, rwS_swap]
  have y := pS_yes (gL g) (gL_sym g) h hvu hu
  refine rwS_tie hu (by omega) ?_ ?_ (fun b _ h1 h2 => ?_)
  · rw [y u, if_pos rfl]
  · rw [y v, if_neg (by omega), if_pos rfl]
  · rw [y b, if_neg h1, if_neg h2]
theorem fmB5 (hvu : v < u) (h : gL g u v = false) : fmem V g u v u v = fmem V g u (v + 1) u v := by
  unfold fmem
  rw [rwS_cg (c := 5) (f := pS (gL g) u v) (f2 := pS (gL g) u (v + 1)) (fun b _ => pS_no (gL g) (gL_sym g) h hvu b)]
theorem fmA6 (hu : u < 10) (hvu : v < u) (h0 : gL g u v = true) (h1 : gKs g u v (gN g) = true) : ms (ms (fmem V g u (v + 1) u v) 6 u ((pS (gT g) u v u ||| 2 ^ v : Nat) : Int)) 6 v ((pS (gT g) u v v ||| 2 ^ u : Nat) : Int) = fmem V g u (v + 1) u (v + 1) := by
  unfold fmem
  have h : gT g u v = true := by unfold gT; rw [h0, h1]; rfl
  have y := pS_yes (gT g) (gT_sym g) h hvu hu
  refine rwS_tie hu (by omega) ?_ ?_ (fun b _ h1 h2 => ?_)
  · rw [y u, if_pos rfl]
  · rw [y v, if_neg (by omega), if_pos rfl]
  · rw [y b, if_neg h1, if_neg h2]
theorem fmB6 (hvu : v < u) (h : gT g u v = false) : fmem V g u (v + 1) u v = fmem V g u (v + 1) u (v + 1) := by
  unfold fmem
  rw [rwS_cg (c := 6) (f := pS (gT g) u v) (f2 := pS (gT g) u (v + 1)) (fun b _ => pS_no (gT g) (gT_sym g) h hvu b)]
theorem gT_of_L (h : gL g u v = false) : gT g u v = false := by unfold gT; rw [h]; rfl
theorem gT_of_K (h0 : gL g u v = true) (h : gKs g u v (gN g) = false) : gT g u v = false := by unfold gT; rw [h, h0]; rfl
theorem fm_next (V : Mem) (g : Nat → Int) (u : Nat) : fmem V g u u u u = fmem V g (u + 1) 0 (u + 1) 0 := by
  unfold fmem
  rw [rwS_cg (c := 6) (f := pS (gT g) u u) (f2 := pS (gT g) (u + 1) 0) (fun b _ => pS_next (gT g) (gT_irr g) u b), rwS_cg (c := 5) (f := pS (gL g) u u) (f2 := pS (gL g) (u + 1) 0) (fun b _ => pS_next (gL g) (gL_irr g) u b)]
theorem fm_0 (V : Mem) (g : Nat → Int) : cpm (cpm V 5 0 (fun _ => 0) 10) 6 0 (fun _ => 0) 10 = fmem V g 0 0 0 0 := by
  unfold fmem
  have z5 : ∀ W : Mem, ∀ c E, cpm W c 0 (fun _ => 0) 10 = rwS W c (pS E 0 0) := fun W c E => by
    unfold cpm rwS
    congr 1
    funext b
    rw [pS_0]
    by_cases q : b < 10
    · rw [if_pos ⟨Nat.zero_le _, by omega⟩, if_pos q]; rfl
    · rw [if_neg (fun z => q (by omega)), if_neg q]
  rw [z5 V 5 (gL g), z5 _ 6 (gT g)]
theorem fm_end (ok : okg g) (hc : cls V g := by assumption) : fmem V g (gN g) 0 (gN g) 0 = va_up (va_up V 5 (fmem V g (gN g) 0 (gN g) 0 5)) 6 (fmem V g (gN g) 0 (gN g) 0 6) ∧ net (fmem V g (gN g) 0 (gN g) 0) g := by
  refine ⟨?_, cls_eq hc rfl rfl rfl, fun i hi => ?_, fun i hi => ?_⟩
  · funext a
    by_cases q : a = 6
    · rw [q, va_up_self]
    · rw [va_up_ne _ _ q]
      by_cases q2 : a = 5
      · rw [q2, va_up_self]
      · rw [va_up_ne _ _ q2]
        unfold fmem rwS
        rw [va_up_ne _ _ q, va_up_ne _ _ q2]
  · rw [fm_5 hi, pS_L ok]
  · rw [fm_6 hi, pS_T ok]
end FM
