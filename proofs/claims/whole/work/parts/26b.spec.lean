-- directions around a node
theorem gD_id (g : Nat → Int) (u p w f : Nat) : gF g p u * gD g u w f = gD g u p w * gD g u p f + gS g u p w * gS g u p f := by
  unfold gF gS gD; grind
theorem gS_anti (g : Nat → Int) (u a b : Nat) : gS g u b a = -gS g u a b := by unfold gS; grind
theorem gD_sym (g : Nat → Int) (u a b : Nat) : gD g u b a = gD g u a b := by unfold gD; grind
theorem gF_D (g : Nat → Int) (u x y : Nat) : gF g u y = gF g u x + gF g x y + 2 * (gD g u x y - gF g u x) := by unfold gF gD; grind
/-- two thin ones of a node lie in unlike directions -/
theorem thin_dir {g : Nat → Int} (ok : okg g) {u x y : Nat} (hx : gT g u x = true) (hy : gT g u y = true) (hxy : x ≠ y) (hs : gS g u x y = 0) : gD g u x y < 0 := by
  have lx := gT_lt ok hx
  have ly := gT_lt ok hy
  have px := gF_pos ok lx.1 lx.2.1 lx.2.2
  have py := gF_pos ok ly.1 ly.2.1 ly.2.2
  have nn := gP_nn g u x y
  rw [hs, gF_sym g x u, gF_sym g y u] at nn
  have d0 := gD_ne ok lx.1 lx.2.1 ly.2.1 (fun q => lx.2.2 q.symm) (fun q => ly.2.2 q.symm) hs
  rcases Int.lt_trichotomy (gD g u x y) 0 with q | q | q
  · exact q
  · exact absurd q d0
  · exfalso
    have key : ∀ {x y : Nat}, gT g u x = true → gT g u y = true → x ≠ y → 0 < gF g u x → gF g u x ≤ gF g u y → 0 < gD g u x y → gD g u x y * gD g u x y = gF g u x * gF g u y → False := by
      intro x y hx hy hxy px hle q e
      have b := gT_blk ok hy (gT_lt ok hx).2.1 (gT_A hx).2 (fun z => (gT_lt ok hx).2.2 z.symm) hxy
      have f := gF_D g u x y
      have : gF g u x ≤ gD g u x y := by
        rcases Int.lt_or_le (gD g u x y) (gF g u x) with z | z
        · have h1 : gD g u x y * gD g u x y < gF g u x * gF g u x := by
            have := Int.mul_lt_mul_of_pos_left z q
            have := Int.mul_lt_mul_of_pos_right z px
            omega
          have h2 : gF g u x * gF g u x ≤ gF g u x * gF g u y := Int.mul_le_mul_of_nonneg_left hle (by omega)
          omega
        · exact z
      omega
    have nn' : gD g u x y * gD g u x y = gF g u x * gF g u y := by omega
    rcases Int.le_total (gF g u x) (gF g u y) with z | z
    · exact key hx hy hxy px z q nn'
    · exact key hy hx (fun w => hxy w.symm) py z (by rw [gD_sym]; exact q) (by rw [gD_sym, nn', Int.mul_comm])
/-- of three, two orders can't both begin with the same -/
theorem turn_no {g : Nat → Int} (ok : okg g) {u a c w : Nat} (ha : gT g u a = true) (hc : gT g u c = true) (hw : gT g u w = true) (hac : a ≠ c) (haw : a ≠ w) (hcw : c ≠ w) (h1 : gH g u a w c = true) (h2 : gH g u c w a = true) : False := by
  have la := gT_lt ok ha
  have lc := gT_lt ok hc
  have lw := gT_lt ok hw
  have t1 := thin_dir ok ha hc hac
  have t2 := thin_dir ok ha hw haw
  have t3 := thin_dir ok hc hw hcw
  have pa := gF_pos ok la.2.1 la.1 (fun q => la.2.2 q.symm)
  have pc := gF_pos ok lc.2.1 lc.1 (fun q => lc.2.2 q.symm)
  have i1 := gP_id g u a c w
  have i2 := gD_id g u a c w
  have i3 := gP_id g u c a w
  have i4 := gD_id g u c a w
  unfold gH gP at h1 h2
  rw [gS_anti g u c w] at h1
  rw [gS_anti g u a c, gS_anti g u a w, gD_sym g u a c] at h2
  rw [gS_anti g u a c, gD_sym g u a c] at i3 i4
  generalize gS g u a c = s1 at *
  generalize gS g u a w = s2 at *
  generalize gS g u c w = s3 at *
  generalize gD g u a c = d1 at *
  generalize gD g u a w = d2 at *
  generalize gD g u c w = d3 at *
  generalize gF g a u = fa at *
  generalize gF g c u = fc at *
  clear ha hc hw la lc lw
  rcases Int.lt_trichotomy s1 0 with q1 | q1 | q1
  · -- c is right of a
    have c3 : ¬ s3 = 0 ∨ d3 < 0 := by by_cases z : s3 = 0; exact Or.inr (t3 z); exact Or.inl z
    have k : 0 < s3 → s2 = 0 → False := by
      intro z1 z2
      have z3 := t2 z2
      have e1 : fc * s2 = d1 * s3 - (-s1) * d3 := i3
      have e2 : fc * d2 = d1 * d3 + (-s1) * s3 := i4
      rw [z2, Int.mul_zero] at e1
      have m1 : fc * d2 < 0 := Int.mul_neg_of_pos_of_neg pc z3
      have m2 : 0 < (-s1) * s3 := Int.mul_pos (by omega) z1
      have m3 : d1 * d3 < 0 := by omega
      rcases Int.lt_trichotomy d1 0 with y | y | y
      · have hd : 0 < d3 := by
          rcases Int.lt_trichotomy d3 0 with x | x | x
          · have := Int.mul_pos_of_neg_of_neg y x; omega
          · rw [x, Int.mul_zero] at m3; omega
          · exact x
        have := Int.mul_neg_of_neg_of_pos y z1
        have := Int.mul_pos (show 0 < -s1 by omega) hd
        omega
      · rw [y, Int.zero_mul] at m3; omega
      · have hd : d3 < 0 := by
          rcases Int.lt_trichotomy d3 0 with x | x | x
          · exact x
          · rw [x, Int.mul_zero] at m3; omega
          · have := Int.mul_pos y x; omega
        have := Int.mul_pos y z1
        have := Int.mul_neg_of_pos_of_neg (show 0 < -s1 by omega) hd
        omega
    grind
  · have q2 := t1 q1
    have k1 : 0 < s2 → s3 < 0 := by
      intro z
      refine neg_of_mul pa ?_
      rw [i1, q1, Int.zero_mul]
      have := Int.mul_neg_of_neg_of_pos q2 z
      omega
    have k2 : s2 = 0 → d2 < 0 → False := by
      intro z1 z2
      have z3 : fa * s3 = 0 := by rw [i1, q1, z1]; simp
      have z4 : s3 = 0 := by
        rcases Int.mul_eq_zero.mp z3 with x | x
        · omega
        · exact x
      have z5 := t3 z4
      have := Int.mul_neg_of_pos_of_neg pa z5
      have := Int.mul_pos_of_neg_of_neg q2 z2
      rw [q1, Int.zero_mul] at i2
      omega
    grind
  · have k : 0 < s2 → s3 = 0 → False := by
      intro z1 z2
      have z3 := t3 z2
      rw [z2, Int.mul_zero] at i1
      have m1 : fa * d3 < 0 := Int.mul_neg_of_pos_of_neg pa z3
      have m2 : 0 < s1 * s2 := Int.mul_pos q1 z1
      have m3 : d1 * d2 < 0 := by omega
      rcases Int.lt_trichotomy d1 0 with y | y | y
      · have hd : 0 < d2 := by
          rcases Int.lt_trichotomy d2 0 with x | x | x
          · have := Int.mul_pos_of_neg_of_neg y x; omega
          · rw [x, Int.mul_zero] at m3; omega
          · exact x
        have := Int.mul_neg_of_neg_of_pos y z1
        have := Int.mul_pos q1 hd
        omega
      · rw [y, Int.zero_mul] at m3; omega
      · have hd : d2 < 0 := by
          rcases Int.lt_trichotomy d2 0 with x | x | x
          · exact x
          · rw [x, Int.mul_zero] at m3; omega
          · have := Int.mul_pos y x; omega
        have := Int.mul_pos y z1
        have := Int.mul_neg_of_pos_of_neg q1 hd
        omega
    grind
theorem plu (g : Nat → Int) (u p x y z : Nat) : gS g u p y * gS g u x z = gS g u p z * gS g u x y + gS g u p x * gS g u y z := by unfold gS; grind
/-- thin ones in one part of the turn: the side tells -/
theorem same_part {g : Nat → Int} (ok : okg g) {u p x y : Nat} (hp : p < gN g) (hpu : p ≠ u) (hx : gT g u x = true) (hy : gT g u y = true) (hxy : x ≠ y) (hP : gP g u p x = gP g u p y) : gS g u x y ≠ 0 ∧ (gP g u p x = 1 ∧ 0 < gS g u p x ∧ 0 < gS g u p y ∨ gP g u p x = 3 ∧ gS g u p x < 0 ∧ gS g u p y < 0) := by
  have lx := gT_lt ok hx
  have ly := gT_lt ok hy
  have t := thin_dir ok hx hy hxy
  have pp := gF_pos ok hp lx.1 hpu
  have i1 := gP_id g u p x y
  have i2 := gD_id g u p x y
  have dx := gD_ne ok lx.1 hp lx.2.1 hpu (fun q => lx.2.2 q.symm)
  have dy := gD_ne ok lx.1 hp ly.2.1 hpu (fun q => ly.2.2 q.symm)
  unfold gP at hP ⊢
  generalize gS g u p x = a at *
  generalize gS g u p y = b at *
  generalize gD g u p x = c at *
  generalize gD g u p y = d at *
  generalize gS g u x y = s at *
  generalize gD g u x y = e at *
  generalize gF g p u = f at *
  -- both in the ray: no
  have n1 : a = 0 → b = 0 → False := by
    intro h1 h2
    have h3 : f * s = 0 := by rw [i1, h1, h2]; simp
    have h4 : s = 0 := by
      rcases Int.mul_eq_zero.mp h3 with q | q
      · omega
      · exact q
    have h5 := t h4
    have h6 := dx h1
    have h7 := dy h2
    have h8 : f * e < 0 := Int.mul_neg_of_pos_of_neg pp h5
    rw [h1, Int.zero_mul, Int.add_zero] at i2
    rcases Int.lt_trichotomy c 0 with q | q | q <;> rcases Int.lt_trichotomy d 0 with r | r | r
    · have := Int.mul_pos_of_neg_of_neg q r; omega
    · exact absurd r h7
    · exact absurd hP (by simp [h1, h2]; omega)
    · exact absurd q h6
    · exact absurd q h6
    · exact absurd q h6
    · exact absurd hP (by simp [h1, h2]; omega)
    · exact absurd r h7
    · have := Int.mul_pos q r; omega
  have n2 : s = 0 → 0 < a * b → False := by
    intro h1 h2
    have h3 := t h1
    have h4 : f * e < 0 := Int.mul_neg_of_pos_of_neg pp h3
    rw [h1, Int.mul_zero] at i1
    have h5 : c * d < 0 := by omega
    have h6 : c * b = a * d := by omega
    have h7 : (c * d) * (a * b) = (a * d) * (a * d) := by
      rw [← h6]
      have : (c * d) * (a * b) = (c * b) * (a * d) := by grind
      rw [this, ← h6]
    have h8 : (c * d) * (a * b) < 0 := Int.mul_neg_of_neg_of_pos h5 h2
    have := sq_nn (a * d)
    omega
  rcases Int.lt_trichotomy a 0 with q | q | q <;> rcases Int.lt_trichotomy b 0 with r | r | r
  · exact ⟨fun z => n2 z (Int.mul_pos_of_neg_of_neg q r), Or.inr ⟨by rw [if_neg (by omega), if_pos q], q, r⟩⟩
  · exfalso; grind
  · exfalso; grind
  · exfalso; grind
  · exact absurd r (fun _ => n1 q r)
  · exfalso; grind
  · exfalso; grind
  · exfalso; grind
  · exact ⟨fun z => n2 z (Int.mul_pos q r), Or.inl ⟨by rw [if_pos q], q, r⟩⟩
theorem gH_tot {g : Nat → Int} (ok : okg g) {u p x y : Nat} (hp : p < gN g) (hpu : p ≠ u) (hx : gT g u x = true) (hy : gT g u y = true) (hxy : x ≠ y) (h : ¬ gH g u p x y = true) : gH g u p y x = true := by
  unfold gH at h ⊢
  by_cases q : gP g u p x = gP g u p y
  · have := (same_part ok hp hpu hx hy hxy q).1
    rw [if_neg (by simp [q]), if_pos this] at h
    rw [if_neg (by simp [q]), gS_anti g u x y, if_pos (by omega)]
    simp at h ⊢
    omega
  · rw [if_pos q] at h
    rw [if_pos (fun z => q z.symm)]
    simp at h ⊢
    omega
theorem gH_tr {g : Nat → Int} (ok : okg g) {u p x y z : Nat} (hp : p < gN g) (hpu : p ≠ u) (hx : gT g u x = true) (hy : gT g u y = true) (hz : gT g u z = true) (hxy : x ≠ y) (hyz : y ≠ z) (hxz : x ≠ z) (h1 : gH g u p x y = true) (h2 : gH g u p y z = true) : gH g u p x z = true := by
  unfold gH at h1 h2 ⊢
  by_cases q1 : gP g u p x = gP g u p y
  · by_cases q2 : gP g u p y = gP g u p z
    · have s1 := same_part ok hp hpu hx hy hxy q1
      have s2 := same_part ok hp hpu hy hz hyz q2
      have s3 := same_part ok hp hpu hx hz hxz (q1.trans q2)
      rw [if_neg (by simp [q1]), if_pos s1.1] at h1
      rw [if_neg (by simp [q2]), if_pos s2.1] at h2
      rw [if_neg (by simp [q1, q2]), if_pos s3.1]
      simp only [decide_eq_true_eq] at h1 h2 ⊢
      have i := plu g u p x y z
      rcases s1.2 with ⟨-, a1, a2⟩ | ⟨-, a1, a2⟩
      · rcases s2.2 with ⟨-, -, a3⟩ | ⟨-, a4, -⟩
        · refine pos_of_mul a2 ?_
          have := Int.mul_pos a3 h1
          have := Int.mul_pos a1 h2
          omega
        · omega
      · rcases s2.2 with ⟨-, a4, -⟩ | ⟨-, -, a3⟩
        · omega
        · have m1 := Int.mul_neg_of_neg_of_pos a3 h1
          have m2 := Int.mul_neg_of_neg_of_pos a1 h2
          have m3 : gS g u p y * gS g u x z < 0 := by omega
          rcases Int.lt_trichotomy (gS g u x z) 0 with r | r | r
          · have := Int.mul_pos_of_neg_of_neg a2 r; omega
          · exact absurd r s3.1
          · exact r
    · rw [if_pos q2] at h2
      rw [if_pos (by rw [q1]; exact q2), q1]
      exact h2
  · rw [if_pos q1] at h1
    simp only [decide_eq_true_eq] at h1
    by_cases q2 : gP g u p y = gP g u p z
    · rw [if_pos (by rw [← q2]; exact q1), ← q2]
      simp only [decide_eq_true_eq]; exact h1
    · rw [if_pos q2] at h2
      simp only [decide_eq_true_eq] at h2
      rw [if_pos (by omega)]
      simp only [decide_eq_true_eq]; omega
theorem gO_min {g : Nat → Int} (ok : okg g) {u p : Nat} {but : Int} (hp : p < gN g) (hpu : p ≠ u) : ∀ (k : Nat) (j : Nat), j < k → (j : Int) ≠ but → gT g u j = true → gO g u p but k ≠ -1 ∧ (j = (gO g u p but k).toNat ∨ gH g u p (gO g u p but k).toNat j = true)
  | 0, j, h, _, _ => absurd h (Nat.not_lt_zero _)
  | k + 1, j, h, hb, hT => by
    have rg := gO_rg g u p but k
    rw [show gO g u p but (k + 1) = if (k : Int) ≠ but ∧ gT g u k = true ∧ (gO g u p but k = -1 ∨ gH g u p k (gO g u p but k).toNat = true) then (k : Int) else gO g u p but k from rfl]
    by_cases c : (k : Int) ≠ but ∧ gT g u k = true ∧ (gO g u p but k = -1 ∨ gH g u p k (gO g u p but k).toNat = true)
    · rw [if_pos c, Int.toNat_natCast]
      refine ⟨by omega, ?_⟩
      rcases Nat.lt_or_eq_of_le (Nat.lt_succ_iff.mp h) with q | q
      · right
        obtain ⟨i1, i2⟩ := gO_min ok hp hpu k j q hb hT
        have hH := c.2.2.resolve_left i1
        rcases i2 with z | z
        · rw [z]; exact hH
        · have hT0 := (gO_T i1).1
          exact gH_tr ok hp hpu c.2.1 hT0 hT (by omega) (fun z2 => by rw [z2] at z; unfold gH at z; simp at z; have := gF_self g u; exact absurd z (by grind [gS])) (by omega) hH z
      · exact Or.inl q
    · rw [if_neg c]
      rcases Nat.lt_or_eq_of_le (Nat.lt_succ_iff.mp h) with q | q
      · exact gO_min ok hp hpu k j q hb hT
      · subst q
        have c2 : ¬ (gO g u p but j = -1 ∨ gH g u p j (gO g u p but j).toNat = true) := fun z => c ⟨hb, hT, z⟩
        have n1 : gO g u p but j ≠ -1 := fun z => c2 (Or.inl z)
        refine ⟨n1, Or.inr ?_⟩
        exact gH_tot ok hp hpu hT (gO_T n1).1 (by omega) (fun z => c2 (Or.inr z))
theorem gU_inj {g : Nat → Int} (ok : okg g) {b a c : Nat} (ha : gT g b a = true) (hc : gT g b c = true) (h : gU g b a = gU g b c) : a = c := by
  refine Classical.byContradiction (fun hac => ?_)
  have la := gT_lt ok ha
  have lc := gT_lt ok hc
  have ma := gO_min (but := (a : Int)) ok la.2.1 (fun q => la.2.2 q.symm) (gN g) c lc.2.1 (by omega) hc
  have mc := gO_min (but := (c : Int)) ok lc.2.1 (fun q => lc.2.2 q.symm) (gN g) a la.2.1 (by omega) ha
  have ea : gU g b a = gO g b a a (gN g) := by unfold gU; rw [if_pos ma.1]
  have ec : gU g b c = gO g b c c (gN g) := by unfold gU; rw [if_pos mc.1]
  have ta := gO_T ma.1
  have tc := gO_T mc.1
  rw [← ea] at ma ta
  rw [← ec, ← h] at mc tc
  have r := (gU_T (gU_ne ha)).2
  have wa : (gU g b a).toNat ≠ a := fun q => ta.2 (by omega)
  have wc : (gU g b a).toNat ≠ c := fun q => tc.2 (by omega)
  have h1 := ma.2.resolve_left (fun q => wc q.symm)
  have h2 := mc.2.resolve_left (fun q => wa q.symm)
  exact turn_no ok ha hc ta.1 hac (fun q => wa q.symm) (fun q => wc q.symm) h1 h2
-- faces: the next way of a way
def nxF (g : Nat → Int) (p : Nat × Nat) : Nat × Nat := (p.2, (gU g p.2 p.1).toNat)
def itF (g : Nat → Int) : Nat → Nat × Nat → Nat × Nat
  | 0, p => p
  | k + 1, p => nxF g (itF g k p)
theorem nxF_thin {g : Nat → Int} {p : Nat × Nat} (h : gT g p.1 p.2 = true) : gT g (nxF g p).1 (nxF g p).2 = true := by
  unfold nxF
  exact (gU_T (gU_ne (by rw [gT_sym]; exact h))).1
theorem itF_thin {g : Nat → Int} {p : Nat × Nat} (h : gT g p.1 p.2 = true) : ∀ k, gT g (itF g k p).1 (itF g k p).2 = true
  | 0 => h
  | k + 1 => nxF_thin (itF_thin h k)
theorem nxF_inj {g : Nat → Int} (ok : okg g) {p q : Nat × Nat} (hp : gT g p.1 p.2 = true) (hq : gT g q.1 q.2 = true) (h : nxF g p = nxF g q) : p = q := by
  obtain ⟨a, b⟩ := p
  obtain ⟨c, d⟩ := q
  unfold nxF at h
  dsimp only at h hp hq
  obtain ⟨e1, e2⟩ := Prod.mk.inj h
  subst e1
  have hp' : gT g b a = true := by rw [gT_sym]; exact hp
  have hq' : gT g b c = true := by rw [gT_sym]; exact hq
  have := gU_inj ok hp' hq' (by have := (gU_T (gU_ne hp')).2; have := (gU_T (gU_ne hq')).2; omega)
  rw [this]
theorem itF_add (g : Nat → Int) (p : Nat × Nat) (a : Nat) : ∀ b, itF g (a + b) p = itF g b (itF g a p)
  | 0 => rfl
  | b + 1 => by
    show nxF g (itF g (a + b) p) = nxF g (itF g b (itF g a p))
    rw [itF_add g p a b]
theorem itF_can {g : Nat → Int} (ok : okg g) {p : Nat × Nat} (h : gT g p.1 p.2 = true) : ∀ (i j : Nat), i ≤ j → itF g i p = itF g j p → itF g (j - i) p = p
  | 0, j, _, e => by rw [Nat.sub_zero]; exact e.symm
  | i + 1, 0, hj, _ => by omega
  | i + 1, j + 1, hj, e => by
    have := nxF_inj ok (itF_thin h i) (itF_thin h j) e
    rw [show j + 1 - (i + 1) = j - i by omega]
    exact itF_can ok h i j (by omega) this
theorem php : ∀ (n : Nat) (f : Nat → Nat), (∀ i, i ≤ n → f i < n) → ∃ i j, i < j ∧ j ≤ n ∧ f i = f j
  | 0, f, h => absurd (h 0 (Nat.le_refl _)) (Nat.not_lt_zero _)
  | n + 1, f, h => by
    by_cases q : ∃ i, i ≤ n ∧ f i = f (n + 1)
    · obtain ⟨i, h1, h2⟩ := q
      exact ⟨i, n + 1, by omega, Nat.le_refl _, h2⟩
    · have q' : ∀ i, i ≤ n → f i ≠ f (n + 1) := fun i hi e => q ⟨i, hi, e⟩
      obtain ⟨i, j, h1, h2, h3⟩ := php n (fun i => if f (n + 1) < f i then f i - 1 else f i) (fun i hi => by
        have a1 := h i (by omega)
        have a2 := h (n + 1) (Nat.le_refl _)
        have a3 := q' i hi
        split <;> omega)
      refine ⟨i, j, h1, by omega, ?_⟩
      have a3 := q' i (by omega)
      have a4 := q' j h2
      split at h3 <;> split at h3 <;> omega
def cdF (p : Nat × Nat) : Nat := p.1 * 9 + (if p.2 < p.1 then p.2 else p.2 - 1)
theorem cdF_lt {p : Nat × Nat} (h1 : p.1 < 10) (h2 : p.2 < 10) (h : p.1 ≠ p.2) : cdF p < 90 := by
  unfold cdF; split <;> omega
theorem cdF_inj {p q : Nat × Nat} (h1 : p.1 < 10) (h2 : p.2 < 10) (h : p.1 ≠ p.2) (k1 : q.1 < 10) (k2 : q.2 < 10) (k : q.1 ≠ q.2) (e : cdF p = cdF q) : p = q := by
  obtain ⟨a, b⟩ := p
  obtain ⟨c, d⟩ := q
  unfold cdF at e
  dsimp only at *
  have : a = c := by split at e <;> split at e <;> omega
  subst this
  have : b = d := by split at e <;> split at e <;> omega
  rw [this]
/-- a way comes back behind at most ninety -/
theorem itF_per {g : Nat → Int} (ok : okg g) {p : Nat × Nat} (h : gT g p.1 p.2 = true) : ∃ k, 1 ≤ k ∧ k ≤ 90 ∧ itF g k p = p := by
  have n1 := ok.n
  obtain ⟨i, j, h1, h2, h3⟩ := php 90 (fun i => cdF (itF g i p)) (fun i _ => by
    have := gT_lt ok (itF_thin h i)
    exact cdF_lt (by omega) (by omega) this.2.2)
  have l1 := gT_lt ok (itF_thin h i)
  have l2 := gT_lt ok (itF_thin h j)
  have := cdF_inj (by omega) (by omega) l1.2.2 (by omega) (by omega) l2.2.2 h3
  exact ⟨j - i, by omega, by omega, itF_can ok h i j (by omega) this⟩
def flS (g : Nat → Int) (p : Nat × Nat) : Nat → Nat → Nat
  | 0, k => k
  | f + 1, k => if itF g k p = p then k else flS g p f (k + 1)
theorem flS_spec {g : Nat → Int} {p : Nat × Nat} : ∀ (f k j : Nat), k ≤ j → j < k + f → itF g j p = p → itF g (flS g p f k) p = p ∧ k ≤ flS g p f k ∧ flS g p f k ≤ j ∧ ∀ i, k ≤ i → i < flS g p f k → itF g i p ≠ p
  | 0, k, j, h1, h2, _ => by omega
  | f + 1, k, j, h1, h2, h3 => by
    unfold flS
    by_cases q : itF g k p = p
    · rw [if_pos q]; exact ⟨q, Nat.le_refl _, h1, fun i a b => by omega⟩
    · rw [if_neg q]
      have : k ≠ j := fun z => q (by rw [z]; exact h3)
      obtain ⟨a, b, c, d⟩ := flS_spec f (k + 1) j (by omega) (by omega) h3
      refine ⟨a, by omega, c, fun i i1 i2 => ?_⟩
      rcases Nat.lt_or_eq_of_le i1 with z | z
      · exact d i z i2
      · rw [← z]; exact q
/-- how many ways the face has -/
def gFl (g : Nat → Int) (u v : Nat) : Nat := flS g (u, v) 90 1
theorem gFl_spec {g : Nat → Int} (ok : okg g) {u v : Nat} (h : gT g u v = true) : itF g (gFl g u v) (u, v) = (u, v) ∧ 1 ≤ gFl g u v ∧ gFl g u v ≤ 90 ∧ ∀ i, 1 ≤ i → i < gFl g u v → itF g i (u, v) ≠ (u, v) := by
  obtain ⟨k, h1, h2, h3⟩ := itF_per ok (p := (u, v)) h
  obtain ⟨a, b, c, d⟩ := flS_spec (g := g) (p := (u, v)) 90 1 k h1 (by omega) h3
  exact ⟨a, b, by unfold gFl; omega, d⟩
