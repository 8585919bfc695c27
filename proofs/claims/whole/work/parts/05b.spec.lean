theorem clr_k : ∀ v, v < 10 → nI 1023 &&& (iI ((2 ^ v : Nat) : Int) ^^^ iI (-1)) = nI (1023 - 2 ^ v) := by decide +kernel
theorem clr_b : ∀ v, v < 10 → ∀ w, w < 10 → (1023 - 2 ^ v).testBit w = decide (w ≠ v) := by decide +kernel
/-- a set without v -/
def clr (m v : Nat) : Nat := m &&& (1023 - 2 ^ v)
theorem clr_and {m v : Nat} (hm : m < 1024) (hv : v < 10) : bAnd (m : Int) (bXor ((2 ^ v : Nat) : Int) (-1)) = (clr m v : Int) := by
  unfold bAnd bXor clr
  rw [iI_of, ← iI_nI]
  have e : nI m = nI m &&& nI 1023 := by
    rw [nI_and, show (1023 : Nat) = 2 ^ 10 - 1 from rfl, Nat.and_two_pow_sub_one_eq_mod, Nat.mod_eq_of_lt hm]
  rw [e, Int32.and_assoc, clr_k v hv, nI_and]
  exact nI_toInt (Nat.lt_of_le_of_lt Nat.and_le_left (by omega))
theorem clr_lt {m v : Nat} (hm : m < 1024) : clr m v < 1024 := Nat.lt_of_le_of_lt Nat.and_le_left hm
theorem clr_bit {m v w : Nat} (hv : v < 10) (hw : w < 10) : (clr m v).testBit w = (m.testBit w && decide (w ≠ v)) := by
  unfold clr
  rw [Nat.testBit_and, clr_b v hv w hw]
theorem gO_T {g : Nat → Int} {u p : Nat} {but : Int} : ∀ {k : Nat}, gO g u p but k ≠ -1 → gT g u (gO g u p but k).toNat = true ∧ gO g u p but k ≠ but
  | 0, h => absurd rfl h
  | k + 1, h => by
    unfold gO at h ⊢
    split
    · next q => exact ⟨by simpa using q.2.1, q.1⟩
    · next q =>
      rw [if_neg q] at h
      exact gO_T h
def gFb (g : Nat → Int) (u v k : Nat) : Bool := if gO g u v v k = -1 then false else gBh g u v (gO g u v v k).toNat
theorem gO_c {g : Nat → Int} (ok : okg g) {u v w : Nat} (hu : u < gN g) (hv : v < gN g) (huv : u ≠ v) (hw : w < gN g) :
    gO g u v v (w + 1) = if w ≠ v ∧ gT g u w = true ∧ (gO g u v v w = -1 ∨ (if gBh g u v w = gFb g u v w then gSo g u w (gO g u v v w).toNat else gFb g u v w) = true) then (w : Int) else gO g u v v w := by
  rw [show gO g u v v (w + 1) = if (w : Int) ≠ v ∧ gT g u w = true ∧ (gO g u v v w = -1 ∨ gH g u v w (gO g u v v w).toNat = true) then (w : Int) else gO g u v v w from rfl]
  have c : ((w : Int) ≠ (v : Int)) ↔ w ≠ v := by omega
  simp only [c]
  by_cases h0 : gO g u v v w = -1
  · simp [h0]
  · by_cases hT : gT g u w = true
    · have h1 := gT_lt ok (gO_T h0).1
      have h2 := gT_lt ok hT
      rw [gH_eq ok hu hv hw h1.2.1 (by omega) (by omega) (by omega)]
      unfold gFb
      simp only [if_neg h0]
    · simp [hT]
theorem gFb_c {g : Nat → Int} {u v w : Nat} {c : Int} (h : gO g u v v (w + 1) = c) : gFb g u v (w + 1) = if c = -1 then false else gBh g u v c.toNat := by
  unfold gFb; rw [h]
theorem gR_lt {g : Nat → Int} {u t : Nat} : ∀ {k : Nat}, gR g u t k ≠ -1 → gF g (gR g u t k).toNat t < gF g u t
  | 0, h => absurd rfl h
  | k + 1, h => by
    unfold gR at h ⊢
    split
    · next q => simpa using q.2.1
    · next q =>
      rw [if_neg q] at h
      exact gR_lt h
def gRl (g : Nat → Int) (u t k : Nat) : Int := if gR g u t k = -1 then gF g u t else gF g (gR g u t k).toNat t
theorem gR_c (g : Nat → Int) (u t w : Nat) : gR g u t (w + 1) = if gL g u w = true ∧ gF g w t < gRl g u t w then (w : Int) else gR g u t w := by
  rw [show gR g u t (w + 1) = if gL g u w = true ∧ gF g w t < gF g u t ∧ (gR g u t w = -1 ∨ gF g w t < gF g (gR g u t w).toNat t) then (w : Int) else gR g u t w from rfl]
  unfold gRl
  by_cases h0 : gR g u t w = -1
  · simp [h0]
  · have := gR_lt h0
    simp only [if_neg h0]
    by_cases hT : gL g u w = true
    · simp only [hT, true_and, h0, false_or]
      by_cases q : gF g w t < gF g (gR g u t w).toNat t
      · rw [if_pos ⟨by omega, q⟩, if_pos q]
      · rw [if_neg (fun z => q z.2), if_neg q]
    · simp [hT]
theorem gRl_c {g : Nat → Int} {u t w : Nat} {c : Int} (h : gR g u t (w + 1) = c) : gRl g u t (w + 1) = if c = -1 then gF g u t else gF g c.toNat t := by
  unfold gRl; rw [h]
/-- all that are linked with one of a set, of the first k -/
def gLa (g : Nat → Int) (m : Nat) : Nat → Nat
  | 0 => 0
  | k + 1 => gLa g m k ||| (if m.testBit k then gLs g k (gN g) else 0)
theorem gLa_lt {g : Nat → Int} (ok : okg g) (m : Nat) : ∀ k, gLa g m k < 1024
  | 0 => by simp [gLa]
  | k + 1 => by
    unfold gLa
    refine Nat.or_lt_two_pow (n := 10) (gLa_lt ok m k) ?_
    split
    · exact gLs_31 ok k
    · decide
theorem bI_inj (a b : Bool) : bI a = bI b ↔ a = b := by cases a <;> cases b <;> simp [bI]
