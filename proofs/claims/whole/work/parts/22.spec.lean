-- bounds of ways; a way that never went astray comes
theorem sm_le {f h : Nat → Int} : ∀ {k : Nat}, (∀ i, i < k → f i ≤ h i) → sm f k ≤ sm h k
  | 0, _ => Int.le_refl _
  | k + 1, q => by
    have := sm_le (k := k) (fun i hi => q i (by omega))
    have := q k (by omega)
    unfold sm; omega
theorem sm_lt {f h : Nat → Int} {j : Nat} (hj2 : f j + 1 ≤ h j) : ∀ {k : Nat}, j < k → (∀ i, i < k → f i ≤ h i) → sm f k + 1 ≤ sm h k
  | 0, hj, _ => absurd hj (Nat.not_lt_zero _)
  | k + 1, hj, q => by
    rcases Nat.lt_or_eq_of_le (Nat.lt_succ_iff.mp hj) with z | z
    · have := sm_lt hj2 z (fun i hi => q i (by omega))
      have := q k (by omega)
      unfold sm; omega
    · subst z
      have := sm_le (k := j) (fun i hi => q i (by omega))
      unfold sm; omega
/-- how many are nearer to t than x -/
def gFi (g : Nat → Int) (t : Nat) (x : Int) : Int := sm (fun w => bI (decide (gF g w t < x))) (gN g)
theorem sm_bI (P : Nat → Bool) : ∀ k, 0 ≤ sm (fun i => bI (P i)) k ∧ sm (fun i => bI (P i)) k ≤ k
  | 0 => by simp [sm]
  | k + 1 => by
    have := sm_bI P k
    unfold sm
    rcases bI_or (P k) with e | e <;> rw [e] <;> omega
theorem gFi_lt {g : Nat → Int} {t v : Nat} {y : Int} (hv : v < gN g) (h : gF g v t < y) : gFi g t (gF g v t) + 1 ≤ gFi g t y := by
  refine sm_lt (j := v) ?_ hv (fun i _ => ?_)
  · show bI (decide (gF g v t < gF g v t)) + 1 ≤ bI (decide (gF g v t < y))
    rw [decide_eq_false (by omega), decide_eq_true h]; decide
  · show bI (decide (gF g i t < gF g v t)) ≤ bI (decide (gF g i t < y))
    by_cases q : gF g i t < gF g v t
    · rw [decide_eq_true q, decide_eq_true (by omega)]; exact Int.le_refl _
    · rw [decide_eq_false q]
      rcases bI_or (decide (gF g i t < y)) with e | e <;> rw [e] <;> decide
theorem wk_mono (g : Nat → Int) (t : Nat) : ∀ (f : Nat) (u : Nat) (mo : Option Nat) (nx : Int) (seen : List (Nat × Int)) (st as rn : Nat) (pa : Nat → Nat), st ≤ 200 → st ≤ (wk g t f (u, mo, nx, seen, st, as, rn, pa)).1 ∧ (wk g t f (u, mo, nx, seen, st, as, rn, pa)).1 ≤ 200 ∧ as ≤ (wk g t f (u, mo, nx, seen, st, as, rn, pa)).2.1 ∧ (wk g t f (u, mo, nx, seen, st, as, rn, pa)).2.1 ≤ as + f ∧ (wk g t f (u, mo, nx, seen, st, as, rn, pa)).2.2.1 ≤ rn + f := by
  intro f
  induction f with
  | zero => intro u mo nx seen st as rn pa h; simp [wk]; omega
  | succ f ih =>
    intro u mo nx seen st as rn pa h
    cases mo with
    | none =>
      rw [wk]
      by_cases h1 : u = t
      · rw [if_pos h1]; simp; omega
      rw [if_neg h1]
      by_cases h2 : st = 200
      · rw [if_pos h2]; simp; omega
      rw [if_neg h2]
      by_cases h3 : gR g u t (gN g) = -1
      · rw [if_pos h3]
        by_cases h4 : gU g u t = -1
        · rw [if_pos h4]; simp; omega
        · rw [if_neg h4]
          have := ih u (some u) (gU g u t) [] st (as + 1) rn pa h
          omega
      · rw [if_neg h3]
        have := ih (gR g u t (gN g)).toNat none nx seen (st + 1) as rn (upN pa (st + 1) (gR g u t (gN g)).toNat) (by omega)
        omega
    | some e =>
      rw [wk]
      by_cases h1 : u = t
      · rw [if_pos h1]; simp; omega
      rw [if_neg h1]
      by_cases h2 : st = 200
      · rw [if_pos h2]; simp; omega
      rw [if_neg h2]
      by_cases h3 : (u, nx) ∈ seen
      · rw [if_pos h3]; simp; omega
      · rw [if_neg h3]
        have := ih nx.toNat (if gF g nx.toNat t < gF g e t then none else some e) (gU g nx.toNat u) ((u, nx) :: seen) (st + 1) as (rn + 1) (upN pa (st + 1) nx.toNat) (by omega)
        omega
theorem wkR_rg (g : Nat → Int) (s t : Nat) : (wkR g s t).1 ≤ 200 ∧ (wkR g s t).2.1 ≤ 402 ∧ (wkR g s t).2.2.1 ≤ 402 := by
  have := wk_mono g t 402 s none 0 [] 0 0 0 (fun _ => s) (by omega)
  unfold wkR
  omega
theorem wk_path {g : Nat → Int} (ok : okg g) {t : Nat} (ht : t < gN g) : ∀ (f : Nat) (u : Nat) (mo : Option Nat) (nx : Int) (seen : List (Nat × Int)) (st as rn : Nat) (pa : Nat → Nat), wOK g t u mo nx st rn pa → ∀ k, k ≤ (wk g t f (u, mo, nx, seen, st, as, rn, pa)).1 → (wk g t f (u, mo, nx, seen, st, as, rn, pa)).2.2.2.1 k < gN g := by
  intro f
  induction f with
  | zero => intro u mo nx seen st as rn pa h k; simp only [wk]; exact h.2.2.2.2.1 k
  | succ f ih =>
    intro u mo nx seen st as rn pa h
    cases mo with
    | none =>
      rw [wk]
      by_cases h1 : u = t
      · rw [if_pos h1]; exact h.2.2.2.2.1
      rw [if_neg h1]
      by_cases h2 : st = 200
      · rw [if_pos h2]; exact h.2.2.2.2.1
      rw [if_neg h2]
      by_cases h3 : gR g u t (gN g) = -1
      · rw [if_pos h3]
        by_cases h4 : gU g u t = -1
        · rw [if_pos h4]; exact h.2.2.2.2.1
        · rw [if_neg h4]
          exact ih u (some u) (gU g u t) [] st (as + 1) rn pa (wOK_astray h h1 h3 h4)
      · rw [if_neg h3]
        exact ih _ none nx seen (st + 1) as rn _ (wOK_greedy ok h h2 h3)
    | some e =>
      rw [wk]
      by_cases h1 : u = t
      · rw [if_pos h1]; exact h.2.2.2.2.1
      rw [if_neg h1]
      by_cases h2 : st = 200
      · rw [if_pos h2]; exact h.2.2.2.2.1
      rw [if_neg h2]
      by_cases h3 : (u, nx) ∈ seen
      · rw [if_pos h3]; exact h.2.2.2.2.1
      · rw [if_neg h3]
        exact ih _ _ _ _ (st + 1) as (rn + 1) _ (wOK_round ok ht h h2)
theorem wkR_path {g : Nat → Int} (ok : okg g) {s t : Nat} (hs : s < gN g) (ht : t < gN g) (ha : gA g s = true) (k : Nat) (hk : k ≤ (wkR g s t).1) : (wkR g s t).2.2.2.1 k < gN g :=
  wk_path ok ht 402 s none 0 [] 0 0 0 (fun _ => s) ⟨hs, ha, by omega, Nat.le_refl _, fun _ _ => hs, rfl, fun e q => by cases q⟩ k hk
theorem wk_green {g : Nat → Int} (ok : okg g) {t : Nat} : ∀ (f : Nat) (u : Nat) (nx : Int) (seen : List (Nat × Int)) (st rn : Nat) (pa : Nat → Nat), 402 - 2 * st ≤ f → (st : Int) + gFi g t (gF g u t) ≤ 10 → (wk g t f (u, none, nx, seen, st, 0, rn, pa)).2.1 = 0 → (wk g t f (u, none, nx, seen, st, 0, rn, pa)).2.2.2.2 = false := by
  intro f
  induction f with
  | zero =>
    intro u nx seen st rn pa h1 h2
    have := (sm_bI (fun w => decide (gF g w t < gF g u t)) (gN g)).1
    unfold gFi at h2
    omega
  | succ f ih =>
    intro u nx seen st rn pa h1 h2 h3
    have h0 := (sm_bI (fun w => decide (gF g w t < gF g u t)) (gN g)).1
    rw [wk] at h3 ⊢
    by_cases q1 : u = t
    · rw [if_pos q1]
    rw [if_neg q1] at h3 ⊢
    have q2 : ¬ st = 200 := by unfold gFi at h2; omega
    rw [if_neg q2] at h3 ⊢
    by_cases q3 : gR g u t (gN g) = -1
    · rw [if_pos q3] at h3
      by_cases q4 : gU g u t = -1
      · rw [if_pos q4] at h3; simp at h3
      · rw [if_neg q4] at h3
        have := wk_mono g t f u (some u) (gU g u t) [] st (0 + 1) rn pa (by unfold gFi at h2; omega)
        omega
    · rw [if_neg q3] at h3 ⊢
      refine ih _ nx seen (st + 1) rn _ (by omega) ?_ h3
      have := gFi_lt (gL_lt ok (gR_L q3)).2.1 (gR_lt q3)
      omega
theorem wkR_green {g : Nat → Int} (ok : okg g) {s t : Nat} (h : (wkR g s t).2.1 = 0) : (wkR g s t).2.2.2.2 = false := by
  refine wk_green ok 402 s 0 [] 0 0 _ (by omega) ?_ h
  have := (sm_bI (fun w => decide (gF g w t < gF g s t)) (gN g)).2
  have := ok.n
  unfold gFi
  omega
-- letters counted, books judged
def gWq (g : Nat → Int) (b : Bool) (s t : Nat) : Bool := decide (s ≠ t) && gA g s && gA g t && (if b then (wkR g s t).2.2.2.2 else decide ((wkR g s t).2.1 = 0))
def gWr (g : Nat → Int) (b : Bool) (s : Nat) : Nat → Int
  | 0 => 0
  | k + 1 => gWr g b s k + bI (gWq g b s k)
def gWw (g : Nat → Int) (b : Bool) : Nat → Int
  | 0 => 0
  | k + 1 => gWw g b k + gWr g b k (gN g)
theorem gWr_s (g : Nat → Int) (b : Bool) (s k : Nat) : gWr g b s (k + 1) = gWr g b s k + bI (gWq g b s k) := rfl
def wSt (r : Nat × Nat × Nat × (Nat → Nat) × Bool) : Int := if r.2.2.2.2 = true then -1 else (r.1 : Int)
def gBd (g : Nat → Int) (f t v : Int) : Bool := !(gI g f && gI g t && gA g f.toNat && gA g t.toNat) || decide (v ≠ wSt (wkR g f.toNat t.toNat))
def gWg (g : Nat → Int) (bf bt bs : Nat → Int) : Nat → Int
  | 0 => -1
  | k + 1 => if gWg g bf bt bs k ≠ -1 then gWg g bf bt bs k else if gBd g (bf k) (bt k) (bs k) = true then (k : Int) else -1
theorem gWg_s (g : Nat → Int) (bf bt bs : Nat → Int) (k : Nat) : gWg g bf bt bs (k + 1) = if gWg g bf bt bs k ≠ -1 then gWg g bf bt bs k else if gBd g (bf k) (bt k) (bs k) = true then (k : Int) else -1 := rfl
theorem gWg_stay {g : Nat → Int} {bf bt bs : Nat → Int} {k : Nat} (h : gWg g bf bt bs k ≠ -1) : ∀ {n : Nat}, k ≤ n → gWg g bf bt bs n = gWg g bf bt bs k
  | 0, hn => by rw [Nat.le_zero.mp hn]
  | n + 1, hn => by
    rcases Nat.lt_or_eq_of_le hn with q | q
    · have e := gWg_stay h (Nat.lt_succ_iff.mp q)
      rw [gWg_s, e, if_pos h]
    · rw [q]
theorem gWg_at {g : Nat → Int} {bf bt bs : Nat → Int} {w n : Nat} (h : w < n) (h0 : gWg g bf bt bs w = -1) (hb : gBd g (bf w) (bt w) (bs w) = true) : gWg g bf bt bs n = (w : Int) := by
  have e : gWg g bf bt bs (w + 1) = (w : Int) := by rw [gWg_s, if_neg (by simp [h0]), if_pos hb]
  rw [gWg_stay (by rw [e]; omega) (show w + 1 ≤ n by omega), e]
/-- the nodes of the first k steps, as a set -/
def stO (pa : Nat → Nat) : Nat → Nat
  | 0 => 0
  | k + 1 => stO pa k ||| 2 ^ pa k
theorem stO_S (pa : Nat → Nat) : ∀ k, stO pa (k + 1) = stS pa k
  | 0 => by simp [stO, stS]
  | k + 1 => by rw [show stO pa (k + 1 + 1) = stO pa (k + 1) ||| 2 ^ pa (k + 1) from rfl, stO_S pa k]; rfl
theorem stO_lt {pa : Nat → Nat} : ∀ {k : Nat}, (∀ i, i < k → pa i < 10) → stO pa k < 1024
  | 0, _ => by simp [stO]
  | k + 1, h => Nat.or_lt_two_pow (n := 10) (stO_lt (fun i hi => h i (by omega))) (Nat.pow_lt_pow_right (by decide) (h k (by omega)))
