-- sums
def sm (f : Nat → Int) : Nat → Int
  | 0 => 0
  | k + 1 => sm f k + f k
theorem sm_cg {f h : Nat → Int} : ∀ {k : Nat}, (∀ i, i < k → f i = h i) → sm f k = sm h k
  | 0, _ => rfl
  | k + 1, q => by unfold sm; rw [sm_cg (fun i hi => q i (by omega)), q k (by omega)]
theorem sm_add (f h : Nat → Int) : ∀ k, sm (fun i => f i + h i) k = sm f k + sm h k
  | 0 => rfl
  | k + 1 => by unfold sm; rw [sm_add f h k]; omega
theorem sm_0 : ∀ k, sm (fun _ => 0) k = 0
  | 0 => rfl
  | k + 1 => by unfold sm; rw [sm_0 k]; rfl
theorem sm_swap (f : Nat → Nat → Int) (m : Nat) : ∀ k, sm (fun i => sm (f i) m) k = sm (fun j => sm (fun i => f i j) k) m
  | 0 => (sm_0 m).symm
  | k + 1 => by
    rw [show sm (fun i => sm (f i) m) (k + 1) = sm (fun i => sm (f i) m) k + sm (f k) m from rfl, sm_swap f m k, ← sm_add]
    rfl
theorem sm_ext {f : Nat → Int} {n : Nat} : ∀ {k : Nat}, n ≤ k → (∀ i, n ≤ i → i < k → f i = 0) → sm f k = sm f n
  | 0, h, _ => by rw [Nat.le_zero.mp h]
  | k + 1, h, q => by
    rcases Nat.lt_or_eq_of_le h with h | h
    · rw [show sm f (k + 1) = sm f k + f k from rfl, q k (by omega) (by omega), sm_ext (Nat.lt_succ_iff.mp h) (fun i h1 h2 => q i h1 (by omega))]
      omega
    · rw [h]
theorem pcN_sm (m : Nat) : ∀ k, pcN m k = sm (fun w => bI (m.testBit w)) k
  | 0 => rfl
  | k + 1 => by unfold pcN sm; rw [pcN_sm m k]
theorem gAc_sm (g : Nat → Int) : ∀ k, gAc g k = sm (fun w => bI (gA g w)) k
  | 0 => rfl
  | k + 1 => by unfold gAc sm; rw [gAc_sm g k]
theorem pcN_gAc {g : Nat → Int} (ok : okg g) : pcN (g 3).toNat 10 = gAc g (gN g) := by
  rw [pcN_sm, gAc_sm]
  refine sm_ext ok.n.2 (fun i h1 _ => ?_)
  show bI (gA g i) = 0
  rw [gA_ge ok h1]; rfl
theorem gPc_sm (g : Nat → Int) (b : Bool) (u : Nat) : ∀ k, gPc g b u k = sm (fun w => bI (decide (u < w) && gE g b u w)) k
  | 0 => rfl
  | k + 1 => by unfold gPc sm; rw [gPc_sm g b u k]
theorem gPp_sm (g : Nat → Int) (b : Bool) : ∀ k, gPp g b k = sm (fun u => gPc g b u (gN g)) k
  | 0 => rfl
  | k + 1 => by unfold gPp sm; rw [gPp_sm g b k]
theorem gE_sym (g : Nat → Int) (b : Bool) (u v : Nat) : gE g b u v = gE g b v u := by unfold gE; rw [gT_sym, gL_sym]
theorem gE_irr (g : Nat → Int) (b : Bool) (u : Nat) : gE g b u u = false := by unfold gE; rw [gT_irr, gL_irr]; cases b <;> rfl
theorem gE_lt {g : Nat → Int} (ok : okg g) {b : Bool} {u v : Nat} (h : gE g b u v = true) : u < gN g ∧ v < gN g ∧ u ≠ v := by
  unfold gE at h
  cases b with
  | true => exact gT_lt ok h
  | false => exact gL_lt ok h
theorem gSt_bit (g : Nat → Int) (b : Bool) (u w k : Nat) : (gSt g b u k).testBit w = (decide (w < k) && gE g b u w) := by
  unfold gSt gE
  cases b with
  | true => exact gTs_bit g u w k
  | false => exact gLs_bit g u w k
/-- bits of the sets of the first k, counted -/
def gBc (g : Nat → Int) (b : Bool) : Nat → Int
  | 0 => 0
  | k + 1 => gBc g b k + pcN (gSt g b k (gN g)) 10
theorem gBc_sm (g : Nat → Int) (b : Bool) : ∀ k, gBc g b k = sm (fun u => pcN (gSt g b u (gN g)) 10) k
  | 0 => rfl
  | k + 1 => by unfold gBc sm; rw [gBc_sm g b k]
theorem gBc_2 {g : Nat → Int} (ok : okg g) (b : Bool) : gBc g b (gN g) = 2 * gPp g b (gN g) := by
  have e1 : gBc g b (gN g) = sm (fun u => sm (fun w => bI (decide (u < w) && gE g b u w)) (gN g) + sm (fun w => bI (decide (w < u) && gE g b w u)) (gN g)) (gN g) := by
    rw [gBc_sm]
    refine sm_cg (fun u hu => ?_)
    rw [pcN_sm, ← sm_add]
    have e2 : sm (fun w => bI ((gSt g b u (gN g)).testBit w)) 10 = sm (fun w => bI ((gSt g b u (gN g)).testBit w)) (gN g) := by
      refine sm_ext ok.n.2 (fun i h1 _ => ?_)
      show bI ((gSt g b u (gN g)).testBit i) = 0
      rw [gSt_bit, decide_eq_false (by omega)]; rfl
    rw [e2]
    refine sm_cg (fun w hw => ?_)
    show bI ((gSt g b u (gN g)).testBit w) = bI (decide (u < w) && gE g b u w) + bI (decide (w < u) && gE g b w u)
    rw [gSt_bit, decide_eq_true hw, Bool.true_and, gE_sym g b w u]
    rcases Nat.lt_trichotomy u w with h | h | h
    · rw [decide_eq_true h, decide_eq_false (show ¬ w < u by omega)]; simp [bI]
    · rw [h, gE_irr]; simp [bI]
    · rw [decide_eq_true h, decide_eq_false (show ¬ u < w by omega)]; simp [bI]
  rw [e1, sm_add, sm_swap (fun u w => bI (decide (w < u) && gE g b w u))]
  have e3 : sm (fun u => sm (fun w => bI (decide (u < w) && gE g b u w)) (gN g)) (gN g) = gPp g b (gN g) := by
    rw [gPp_sm]
    exact sm_cg (fun u _ => (gPc_sm g b u _).symm)
  rw [e3]
  omega
theorem pcN_rg (m : Nat) : ∀ k, 0 ≤ pcN m k ∧ pcN m k ≤ k
  | 0 => by simp [pcN]
  | k + 1 => by
    have := pcN_rg m k
    unfold pcN
    rcases bI_or (m.testBit k) with e | e <;> rw [e] <;> omega
theorem gBc_rg (g : Nat → Int) (b : Bool) : ∀ k, 0 ≤ gBc g b k ∧ gBc g b k ≤ 10 * k
  | 0 => by simp [gBc]
  | k + 1 => by
    have := gBc_rg g b k
    have := pcN_rg (gSt g b k (gN g)) 10
    unfold gBc
    omega
theorem bDiv_nat {a b : Nat} (ha : a < 2147483648) (hb : 0 < b) (hb2 : b < 2147483648) : bDiv (a : Int) (b : Int) = ((a / b : Nat) : Int) := by
  unfold bDiv
  rw [← iI_nI, ← iI_nI, pk_div ha hb hb2]
  exact nI_toInt (Nat.lt_of_le_of_lt (Nat.div_le_self _ _) ha)
theorem bRem_nat {a b : Nat} (ha : a < 2147483648) (hb : 0 < b) (hb2 : b < 2147483648) : bRem (a : Int) (b : Int) = ((a % b : Nat) : Int) := by
  unfold bRem
  rw [← iI_nI, ← iI_nI, pk_rem ha hb hb2]
  exact nI_toInt (Nat.lt_of_le_of_lt (Nat.mod_le _ _) ha)
theorem bDiv_2 {x : Int} (h0 : 0 ≤ x) (h1 : x ≤ 1000000) : bDiv (2 * x) 2 = x := by
  have e : 2 * x = ((2 * x.toNat : Nat) : Int) := by omega
  rw [e]
  have := bDiv_nat (a := 2 * x.toNat) (b := 2) (by omega) (by decide) (by decide)
  rw [show ((2 : Nat) : Int) = 2 from rfl] at this
  rw [this]
  omega
