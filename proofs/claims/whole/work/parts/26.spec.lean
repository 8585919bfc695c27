-- going along links
def gNx (g : Nat → Int) (m : Nat) : Nat := m ||| gLa g m (gN g)
theorem gNx_lt {g : Nat → Int} (ok : okg g) {m : Nat} (h : m < 1024) : gNx g m < 1024 := Nat.or_lt_two_pow (n := 10) h (gLa_lt ok m _)
theorem pcN_le {m m2 : Nat} (h : ∀ w, w < 10 → m.testBit w = true → m2.testBit w = true) : pcN m 10 ≤ pcN m2 10 := by
  rw [pcN_sm, pcN_sm]
  refine sm_le (fun i hi => ?_)
  show bI (m.testBit i) ≤ bI (m2.testBit i)
  cases q : m.testBit i with
  | false => rcases bI_or (m2.testBit i) with e | e <;> rw [e] <;> decide
  | true => rw [h i hi q]; exact Int.le_refl _
theorem bit_hi {m w : Nat} (hm : m < 1024) (hw : 10 ≤ w) : m.testBit w = false := Nat.testBit_lt_two_pow (Nat.lt_of_lt_of_le hm (show 2 ^ 10 ≤ 2 ^ w from Nat.pow_le_pow_right (by decide) hw))
theorem p2_10 {v : Nat} (h : v < 10) : 2 ^ v < 1024 := show 2 ^ v < 2 ^ 10 from Nat.pow_lt_pow_right (by decide) h
theorem pcN_lt {m m2 : Nat} (hm : m < 1024) (hm2 : m2 < 1024) (h : ∀ w, m.testBit w = true → m2.testBit w = true) (hne : m2 ≠ m) : pcN m 10 + 1 ≤ pcN m2 10 := by
  have : ∃ w, w < 10 ∧ m2.testBit w = true ∧ m.testBit w = false := by
    refine Classical.byContradiction (fun q => hne ?_)
    apply Nat.eq_of_testBit_eq
    intro i
    by_cases hi : i < 10
    · cases q1 : m.testBit i with
      | true => exact h i q1
      | false =>
        cases q2 : m2.testBit i with
        | false => rfl
        | true => exact absurd ⟨i, hi, q2, q1⟩ q
    · rw [bit_hi hm (by omega), bit_hi hm2 (by omega)]
  obtain ⟨w, hw, q1, q2⟩ := this
  rw [pcN_sm, pcN_sm]
  refine sm_lt (j := w) ?_ hw (fun i _ => ?_)
  · show bI (m.testBit w) + 1 ≤ bI (m2.testBit w)
    rw [q1, q2]; decide
  · show bI (m.testBit i) ≤ bI (m2.testBit i)
    cases q : m.testBit i with
    | false => rcases bI_or (m2.testBit i) with e | e <;> rw [e] <;> decide
    | true => rw [h i q]; exact Int.le_refl _
theorem gNx_sub (g : Nat → Int) (m w : Nat) (h : m.testBit w = true) : (gNx g m).testBit w = true := by unfold gNx; rw [Nat.testBit_or, h]; rfl
def gHp (g : Nat → Int) (t : Nat) : Nat → Nat → Nat → Int
  | 0, _, _ => -1
  | f + 1, m, h => if m.testBit t = true then (h : Int) else if gNx g m = m then -1 else gHp g t f (gNx g m) (h + 1)
def gFw (g : Nat → Int) (t : Nat) : Nat → Nat → Nat → Int
  | 0, _, _ => -1
  | f + 1, m, h => if m.testBit t = true then (h : Int) else gFw g t f (gNx g m) (h + 1)
theorem gFw_stuck {g : Nat → Int} {t m : Nat} (h1 : gNx g m = m) (h2 : ¬ m.testBit t = true) : ∀ f h, gFw g t f m h = -1
  | 0, _ => rfl
  | f + 1, h => by unfold gFw; rw [if_neg h2, h1, gFw_stuck h1 h2 f]
theorem gFw_Hp {g : Nat → Int} (ok : okg g) {t : Nat} : ∀ (f m h : Nat), m < 1024 → (h : Int) + 1 ≤ pcN m 10 → f + h = 10 → gFw g t f m h = gHp g t (f + 1) m h
  | 0, m, h, hm, hp, hf => by have := pcN_rg m 10; omega
  | f + 1, m, h, hm, hp, hf => by
    unfold gFw
    rw [show gHp g t (f + 1 + 1) m h = if m.testBit t = true then (h : Int) else if gNx g m = m then -1 else gHp g t (f + 1) (gNx g m) (h + 1) from rfl]
    by_cases q : m.testBit t = true
    · rw [if_pos q, if_pos q]
    · rw [if_neg q, if_neg q]
      by_cases q2 : gNx g m = m
      · rw [if_pos q2, q2, gFw_stuck q2 q]
      · rw [if_neg q2]
        have := pcN_lt hm (gNx_lt ok hm) (gNx_sub g m) q2
        exact gFw_Hp ok f (gNx g m) (h + 1) (gNx_lt ok hm) (by omega) (by omega)
theorem pcN_p2 : ∀ s, s < 10 → pcN (2 ^ s) 10 = 1 := by decide +kernel
def gHops (g : Nat → Int) (s t : Nat) : Int := gHp g t 11 (2 ^ s) 0
theorem gHops_Fw {g : Nat → Int} (ok : okg g) {s t : Nat} (hs : s < 10) : gFw g t 10 (2 ^ s) 0 = gHops g s t :=
  gFw_Hp ok 10 (2 ^ s) 0 (p2_10 hs) (by rw [pcN_p2 s hs]; decide) rfl
def aHops (g : Nat → Int) (s t : Int) : Int := if ¬ (gI g s = true ∧ gI g t = true) then -1000000001 else if ¬ (gA g s.toNat = true ∧ gA g t.toNat = true) then -1000000003 else gHops g s.toNat t.toNat
theorem gHp_rg (g : Nat → Int) (t : Nat) : ∀ (f m h : Nat), -1 ≤ gHp g t f m h ∧ gHp g t f m h ≤ h + f
  | 0, _, _ => by unfold gHp; omega
  | f + 1, m, h => by
    have := gHp_rg g t f (gNx g m) (h + 1)
    unfold gHp
    split
    · omega
    · split <;> omega
-- parts: what hangs together
def gIt (g : Nat → Int) : Nat → Nat → Nat
  | 0, m => m
  | f + 1, m => gIt g f (gNx g m)
theorem gIt_lt {g : Nat → Int} (ok : okg g) : ∀ (f : Nat) {m : Nat}, m < 1024 → gIt g f m < 1024
  | 0, _, h => h
  | f + 1, m, h => gIt_lt ok f (gNx_lt ok h)
theorem gIt_stuck {g : Nat → Int} {m : Nat} (h : gNx g m = m) : ∀ f, gIt g f m = m
  | 0 => rfl
  | f + 1 => by unfold gIt; rw [h, gIt_stuck h f]
theorem gIt_add (g : Nat → Int) : ∀ (a b m : Nat), gIt g (a + b) m = gIt g b (gIt g a m)
  | 0, b, m => by rw [Nat.zero_add]; rfl
  | a + 1, b, m => by
    rw [show a + 1 + b = (a + b) + 1 by omega]
    show gIt g (a + b) (gNx g m) = gIt g b (gIt g a (gNx g m))
    exact gIt_add g a b _
theorem gIt_sub (g : Nat → Int) : ∀ (f m w : Nat), m.testBit w = true → (gIt g f m).testBit w = true
  | 0, _, _, h => h
  | f + 1, m, w, h => gIt_sub g f _ w (gNx_sub g m w h)
theorem gIt_s (g : Nat → Int) (f m : Nat) : gIt g (f + 1) m = gNx g (gIt g f m) := by rw [gIt_add g f 1 m]; rfl
/-- behind nine rounds nothing is new -/
theorem gIt_fix {g : Nat → Int} (ok : okg g) {m : Nat} (hm : m < 1024) (h1 : 1 ≤ pcN m 10) : ∀ f, gNx g (gIt g f m) = gIt g f m ∨ (f : Int) + 1 ≤ pcN (gIt g f m) 10
  | 0 => Or.inr (by show (0 : Int) + 1 ≤ _; unfold gIt; omega)
  | f + 1 => by
    rcases gIt_fix ok hm h1 f with q | q
    · left; rw [gIt_s, q, q]
    · by_cases z : gNx g (gIt g f m) = gIt g f m
      · left; rw [gIt_s, z, z]
      · right
        have := pcN_lt (gIt_lt ok f hm) (gNx_lt ok (gIt_lt ok f hm)) (gNx_sub g _) z
        rw [gIt_s]; omega
theorem gIt_10 {g : Nat → Int} (ok : okg g) {m : Nat} (hm : m < 1024) (h1 : 1 ≤ pcN m 10) : gNx g (gIt g 10 m) = gIt g 10 m := by
  rcases gIt_fix ok hm h1 10 with q | q
  · exact q
  · have := pcN_rg (gIt g 10 m) 10; omega
theorem gIt_end {g : Nat → Int} (ok : okg g) {m : Nat} (hm : m < 1024) (h1 : 1 ≤ pcN m 10) {f : Nat} (h : gNx g (gIt g f m) = gIt g f m) : gIt g f m = gIt g 10 m := by
  rcases Nat.le_total f 10 with q | q
  · rw [show 10 = f + (10 - f) by omega, gIt_add, gIt_stuck h]
  · rw [show f = 10 + (f - 10) by omega, gIt_add, gIt_stuck (gIt_10 ok hm h1)]
/-- the part of v -/
def gCl (g : Nat → Int) (v : Nat) : Nat := gIt g 10 (2 ^ v)
theorem gCl_lt {g : Nat → Int} (ok : okg g) {v : Nat} (h : v < 10) : gCl g v < 1024 := gIt_lt ok 10 (p2_10 h)
theorem gCl_self (g : Nat → Int) (v : Nat) : (gCl g v).testBit v = true := gIt_sub g 10 _ v (Nat.testBit_two_pow_self)
/-- parts and what they hold, of the first k -/
def gPt (g : Nat → Int) : Nat → Int × Nat
  | 0 => (0, 0)
  | k + 1 => if gA g k = true ∧ (gPt g k).2.testBit k = false then ((gPt g k).1 + 1, (gPt g k).2 ||| gCl g k) else gPt g k
theorem gPt_s (g : Nat → Int) (k : Nat) : gPt g (k + 1) = if gA g k = true ∧ (gPt g k).2.testBit k = false then ((gPt g k).1 + 1, (gPt g k).2 ||| gCl g k) else gPt g k := rfl
theorem gPt_lt {g : Nat → Int} (ok : okg g) : ∀ k, k ≤ 10 → (gPt g k).2 < 1024 ∧ 0 ≤ (gPt g k).1 ∧ (gPt g k).1 ≤ k
  | 0, _ => by simp [gPt]
  | k + 1, h => by
    have := gPt_lt ok k (by omega)
    rw [gPt_s]
    split
    · exact ⟨Nat.or_lt_two_pow (n := 10) this.1 (gCl_lt ok (by omega)), by dsimp only; omega, by dsimp only; omega⟩
    · exact ⟨this.1, by omega, by omega⟩
theorem gPt_same {g : Nat → Int} {k : Nat} : ∀ {v : Nat}, k ≤ v → (∀ j, k ≤ j → j < v → ¬ (gA g j = true ∧ (gPt g k).2.testBit j = false)) → gPt g v = gPt g k
  | 0, h, _ => by rw [Nat.le_zero.mp h]
  | v + 1, h, q => by
    rcases Nat.lt_or_eq_of_le h with z | z
    · have e := gPt_same (Nat.lt_succ_iff.mp z) (fun j h1 h2 => q j h1 (by omega))
      rw [gPt_s, e, if_neg (q v (by omega) (by omega))]
    · rw [z]
/-- a set without another -/
def adn (m h : Nat) : Nat := m &&& (1023 ^^^ h)
theorem adn_k : ∀ h, h < 1024 → nI 1023 &&& (nI h ^^^ iI (-1)) = nI (1023 ^^^ h) := by decide +kernel
theorem adn_and {m h : Nat} (hm : m < 1024) (hh : h < 1024) : bAnd (m : Int) (bXor (h : Int) (-1)) = (adn m h : Int) := by
  unfold bAnd bXor adn
  rw [iI_of, ← iI_nI, ← iI_nI]
  have e : nI m = nI m &&& nI 1023 := by
    rw [nI_and, show (1023 : Nat) = 2 ^ 10 - 1 from rfl, Nat.and_two_pow_sub_one_eq_mod, Nat.mod_eq_of_lt hm]
  rw [e, Int32.and_assoc, adn_k h hh, nI_and]
  exact nI_toInt (Nat.lt_of_le_of_lt Nat.and_le_left (by omega))
theorem adn_lt {m h : Nat} (hm : m < 1024) : adn m h < 1024 := Nat.lt_of_le_of_lt Nat.and_le_left hm
theorem b1023 : ∀ w, w < 10 → (1023 : Nat).testBit w = true := by decide
theorem adn_bit {m h w : Nat} (hw : w < 10) : (adn m h).testBit w = (m.testBit w && !h.testBit w) := by
  unfold adn
  rw [Nat.testBit_and, Nat.testBit_xor, b1023 w hw]
  cases h.testBit w <;> rfl
/-- the least of a set -/
theorem low_k : ∀ m : Nat, m < 1024 → m ≠ 0 → ∃ v, v < 10 ∧ m.testBit v = true ∧ (∀ j, j < v → m.testBit j = false) ∧ bAnd (m : Int) (-(m : Int)) = ((2 ^ v : Nat) : Int) := by decide +kernel
theorem bit_ext {a b : Nat} (ha : a < 1024) (hb : b < 1024) (h : ∀ w, w < 10 → a.testBit w = b.testBit w) : a = b := by
  apply Nat.eq_of_testBit_eq
  intro i
  by_cases hi : i < 10
  · exact h i hi
  · rw [bit_hi ha (by omega), bit_hi hb (by omega)]
