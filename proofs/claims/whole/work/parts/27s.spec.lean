theorem adn_0 {m : Nat} (h : m < 1024) : adn m 0 = m := bit_ext (adn_lt h) h (fun w hw => by rw [adn_bit hw]; simp)
theorem adn_or {m a b : Nat} (h : m < 1024) : adn (adn m a) b = adn m (a ||| b) := bit_ext (adn_lt (adn_lt h)) (adn_lt h) (fun w hw => by
  rw [adn_bit hw, adn_bit hw, adn_bit hw, Nat.testBit_or]
  cases m.testBit w <;> cases a.testBit w <;> cases b.testBit w <;> rfl)
theorem parts_0 {g : Nat → Int} (ok : okg g) {k : Nat} (hk : k ≤ gN g) (h : adn (g 3).toNat (gPt g k).2 = 0) : (gPt g k).1 = (gPt g (gN g)).1 := by
  have n1 := ok.n
  rw [gPt_same hk (fun j h1 h2 q => ?_)]
  have := adn_bit (m := (g 3).toNat) (h := (gPt g k).2) (show j < 10 by omega)
  rw [h, Nat.zero_testBit, q.2] at this
  have e : gA g j = false := by simpa [gA] using this.symm
  rw [e] at q; exact absurd q.1 (by decide)
theorem parts_v {g : Nat → Int} (ok : okg g) {k v : Nat} (hk : k ≤ gN g) (h0 : ∀ j, j < k → (adn (g 3).toNat (gPt g k).2).testBit j = false) (hv : v < 10) (h1 : (adn (g 3).toNat (gPt g k).2).testBit v = true) (h2 : ∀ j, j < v → (adn (g 3).toNat (gPt g k).2).testBit j = false) :
    k ≤ v ∧ v < gN g ∧ gPt g (v + 1) = ((gPt g k).1 + 1, (gPt g k).2 ||| gCl g v) := by
  have n1 := ok.n
  have hkv : k ≤ v := by
    rcases Nat.lt_or_ge v k with q | q
    · rw [h0 v q] at h1; cases h1
    · exact q
  rw [adn_bit hv] at h1
  simp only [Bool.and_eq_true, Bool.not_eq_true'] at h1
  have hvn : v < gN g := by
    rcases Nat.lt_or_ge v (gN g) with q | q
    · exact q
    · have := gA_ge ok q; unfold gA at this; rw [this] at h1; exact absurd h1.1 (by decide)
  refine ⟨hkv, hvn, ?_⟩
  have e := gPt_same (g := g) hkv (fun j j1 j2 q => by
    have := h2 j j2
    rw [adn_bit (by omega), q.2] at this
    have e : gA g j = false := by simpa [gA] using this
    rw [e] at q; exact absurd q.1 (by decide))
  rw [gPt_s, e, if_pos ⟨h1.1, h1.2⟩]
theorem parts_z {g : Nat → Int} (ok : okg g) {k v : Nat} (hv : v < 10) (h2 : ∀ j, j < v → (adn (g 3).toNat (gPt g k).2).testBit j = false) (j : Nat) (hj : j < v + 1) : (adn (g 3).toNat ((gPt g k).2 ||| gCl g v)).testBit j = false := by
  rw [← adn_or ok.a.2, adn_bit (by omega)]
  rcases Nat.lt_or_eq_of_le (Nat.lt_succ_iff.mp hj) with q | q
  · rw [h2 j q]; rfl
  · rw [q, gCl_self]; simp
theorem mid_pc {g : Nat → Int} (ok : okg g) {v f a : Nat} (hv : v < 10) (hr : (a = 0 ∧ f = 0) ∨ ∃ f2, f = f2 + 1 ∧ a = gIt g f2 (2 ^ v)) (hp : (f : Int) ≤ pcN a 10) (hne : ¬ (a : Int) = (gIt g f (2 ^ v) : Nat)) : ((f + 1 : Nat) : Int) ≤ pcN (gIt g f (2 ^ v)) 10 := by
  rcases hr with ⟨rfl, rfl⟩ | ⟨f2, rfl, rfl⟩
  · show ((0 + 1 : Nat) : Int) ≤ pcN (2 ^ v) 10
    rw [pcN_p2 v hv]; decide
  · have h1 := gIt_lt ok f2 (p2_10 hv)
    have := pcN_lt h1 (gNx_lt ok h1) (gNx_sub g _) (fun q => hne (by rw [gIt_s, q]))
    rw [gIt_s]
    omega
theorem mid_end {g : Nat → Int} (ok : okg g) {v f a : Nat} (hv : v < 10) (hr : (a = 0 ∧ f = 0) ∨ ∃ f2, f = f2 + 1 ∧ a = gIt g f2 (2 ^ v)) (he : (a : Int) = (gIt g f (2 ^ v) : Nat)) : gIt g f (2 ^ v) = gCl g v := by
  have he : a = gIt g f (2 ^ v) := by omega
  rcases hr with ⟨rfl, rfl⟩ | ⟨f2, rfl, rfl⟩
  · have : 0 < 2 ^ v := Nat.two_pow_pos v
    exact absurd he (by show ¬ 0 = 2 ^ v; omega)
  · have h1 : 1 ≤ pcN (2 ^ v) 10 := by rw [pcN_p2 v hv]; decide
    rw [gIt_s] at he ⊢
    rw [← he]
    exact gIt_end ok (p2_10 hv) h1 he.symm
