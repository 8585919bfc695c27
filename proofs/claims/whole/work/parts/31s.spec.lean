-- faces: the marks of the class and the least ways of the reference tell the same
def oF (g : Nat → Int) (p q : Nat × Nat) : Prop := ∃ k, itF g k p = q
theorem itF_mul {g : Nat → Int} {p : Nat × Nat} {P : Nat} (h : itF g P p = p) : ∀ m, itF g (P * m) p = p
  | 0 => rfl
  | m + 1 => by rw [Nat.mul_succ, itF_add, itF_mul h m, h]
theorem oF_sym {g : Nat → Int} (ok : okg g) {p q : Nat × Nat} (h : gT g p.1 p.2 = true) (o : oF g p q) : oF g q p := by
  obtain ⟨k, hk⟩ := o
  obtain ⟨P, h1, _, h3⟩ := itF_per ok h
  refine ⟨P * k - k, ?_⟩
  have : k ≤ P * k := Nat.le_mul_of_pos_left k h1
  rw [← hk, ← itF_add, show k + (P * k - k) = P * k by omega, itF_mul h3]
theorem oF_tr {g : Nat → Int} {p q r : Nat × Nat} (h1 : oF g p q) (h2 : oF g q r) : oF g p r := by
  obtain ⟨a, rfl⟩ := h1
  obtain ⟨b, rfl⟩ := h2
  exact ⟨a + b, itF_add g p a b⟩
theorem oF_thin {g : Nat → Int} {p q : Nat × Nat} (h : gT g p.1 p.2 = true) (o : oF g p q) : gT g q.1 q.2 = true := by
  obtain ⟨k, rfl⟩ := o
  exact itF_thin h k
theorem oF_bd {g : Nat → Int} (ok : okg g) {u v : Nat} {q : Nat × Nat} (h : gT g u v = true) (o : oF g (u, v) q) : ∃ k, k < gFl g u v ∧ itF g k (u, v) = q := by
  obtain ⟨k, rfl⟩ := o
  obtain ⟨s1, s2, _, _⟩ := gFl_spec ok h
  refine ⟨k % gFl g u v, Nat.mod_lt _ s2, ?_⟩
  have e : k = gFl g u v * (k / gFl g u v) + k % gFl g u v := (Nat.div_add_mod k _).symm
  have := itF_add g (u, v) (gFl g u v * (k / gFl g u v)) (k % gFl g u v)
  rw [← e, itF_mul s1] at this
  exact this.symm
theorem mkF_bit (g : Nat → Int) (p : Nat × Nat) (f0 : Nat → Nat) (a b : Nat) : ∀ K, (mkF g p f0 K a).testBit b = true ↔ (f0 a).testBit b = true ∨ ∃ k, k < K ∧ itF g k p = (a, b)
  | 0 => by
    show (f0 a).testBit b = true ↔ _
    constructor
    · exact Or.inl
    · rintro (h | ⟨k, h, _⟩)
      · exact h
      · omega
  | K + 1 => by
    have i := mkF_bit g p f0 a b K
    rw [show mkF g p f0 (K + 1) a = if a = (itF g K p).1 then mkF g p f0 K a ||| 2 ^ (itF g K p).2 else mkF g p f0 K a from rfl]
    by_cases q : a = (itF g K p).1
    · rw [if_pos q, Nat.testBit_or, Bool.or_eq_true, i, Nat.testBit_two_pow]
      constructor
      · rintro ((h | ⟨k, h1, h2⟩) | h)
        · exact Or.inl h
        · exact Or.inr ⟨k, by omega, h2⟩
        · exact Or.inr ⟨K, by omega, by rw [q]; rw [← of_decide_eq_true h]⟩
      · rintro (h | ⟨k, h1, h2⟩)
        · exact Or.inl (Or.inl h)
        · rcases Nat.lt_or_eq_of_le (Nat.lt_succ_iff.mp h1) with z | z
          · exact Or.inl (Or.inr ⟨k, z, h2⟩)
          · subst z; rw [h2]; simp
    · rw [if_neg q, i]
      constructor
      · rintro (h | ⟨k, h1, h2⟩)
        · exact Or.inl h
        · exact Or.inr ⟨k, by omega, h2⟩
      · rintro (h | ⟨k, h1, h2⟩)
        · exact Or.inl h
        · rcases Nat.lt_or_eq_of_le (Nat.lt_succ_iff.mp h1) with z | z
          · exact Or.inr ⟨k, z, h2⟩
          · subst z; exact absurd (by rw [h2]) q
theorem mkF_orb {g : Nat → Int} (ok : okg g) {u v : Nat} (h : gT g u v = true) (f0 : Nat → Nat) (a b : Nat) : (mkF g (u, v) f0 (gFl g u v) a).testBit b = true ↔ (f0 a).testBit b = true ∨ oF g (u, v) (a, b) := by
  rw [mkF_bit]
  constructor
  · rintro (q | ⟨k, _, q⟩)
    · exact Or.inl q
    · exact Or.inr ⟨k, q⟩
  · rintro (q | q)
    · exact Or.inl q
    · exact Or.inr (oF_bd ok h q)
theorem gFl_le {g : Nat → Int} (ok : okg g) {u v a b : Nat} (h : gT g u v = true) (o : oF g (u, v) (a, b)) : gFl g a b ≤ gFl g u v := by
  have ha : gT g a b = true := oF_thin (p := (u, v)) h o
  obtain ⟨k, hk⟩ := o
  obtain ⟨s1, s2, _, _⟩ := gFl_spec ok h
  obtain ⟨_, _, _, t4⟩ := gFl_spec ok ha
  rcases Nat.lt_or_ge (gFl g u v) (gFl g a b) with q | q
  · refine absurd ?_ (t4 _ s2 q)
    rw [← hk, ← itF_add, Nat.add_comm, itF_add, s1]
  · exact q
theorem gFl_eq {g : Nat → Int} (ok : okg g) {u v a b : Nat} (h : gT g u v = true) (o : oF g (u, v) (a, b)) : gFl g a b = gFl g u v :=
  Nat.le_antisymm (gFl_le ok h o) (gFl_le ok (oF_thin (p := (u, v)) h o) (oF_sym ok (p := (u, v)) h o))
theorem ffF_iff (g : Nat → Int) (u v w : Nat) : ∀ K, ffF g u v w K = true ↔ ∀ k, 1 ≤ k → k ≤ K → w ≤ (itF g k (u, v)).1 * gN g + (itF g k (u, v)).2
  | 0 => ⟨fun _ k h1 h2 => by omega, fun _ => rfl⟩
  | K + 1 => by
    rw [show ffF g u v w (K + 1) = (ffF g u v w K && decide (w ≤ (itF g (K + 1) (u, v)).1 * gN g + (itF g (K + 1) (u, v)).2)) from rfl, Bool.and_eq_true, ffF_iff g u v w K, decide_eq_true_eq]
    constructor
    · rintro ⟨h1, h2⟩ k k1 k2
      rcases Nat.lt_or_eq_of_le k2 with z | z
      · exact h1 k k1 (by omega)
      · rw [z]; exact h2
    · intro h
      exact ⟨fun k k1 k2 => h k k1 (by omega), h _ (by omega) (Nat.le_refl _)⟩
theorem ffF_orb {g : Nat → Int} (ok : okg g) {u v w : Nat} (h : gT g u v = true) : ffF g u v w (gFl g u v) = true ↔ ∀ q, oF g (u, v) q → w ≤ q.1 * gN g + q.2 := by
  obtain ⟨s1, s2, _, _⟩ := gFl_spec ok h
  rw [ffF_iff]
  constructor
  · intro f q o
    obtain ⟨k, k1, rfl⟩ := oF_bd ok h o
    rcases Nat.eq_zero_or_pos k with z | z
    · have := f _ s2 (Nat.le_refl _)
      rw [s1] at this
      subst z
      exact this
    · exact f k z (by omega)
  · intro f k _ _
    exact f _ ⟨k, rfl⟩
/-- what has been seen of the ways up to w -/
def fIn (g : Nat → Int) (b : Bool) (w : Nat) (r : Int × (Nat → Nat)) : Prop :=
  (∀ a c, (r.2 a).testBit c = true ↔ ∃ u v, v < gN g ∧ u * gN g + v < w ∧ gT g u v = true ∧ oF g (u, v) (a, c)) ∧
  r.1 = (if b then (lF g w).2 else (lF g w).1) ∧
  (∀ u v, v < gN g → u * gN g + v < w → gT g u v = true → (gFl g u v : Int) ≤ (lF g w).2)
theorem wdiv {n u v : Nat} (h : v < n) : (u * n + v) / n = u ∧ (u * n + v) % n = v := by
  constructor
  · rw [Nat.mul_comm, Nat.mul_add_div (by omega), Nat.div_eq_of_lt h]; rfl
  · rw [Nat.mul_comm, Nat.mul_add_mod, Nat.mod_eq_of_lt h]
theorem wuniq {n u v a b : Nat} (hv : v < n) (hb : b < n) (e : u * n + v = a * n + b) : u = a ∧ v = b := by
  have h1 := wdiv (u := u) hv
  have h2 := wdiv (u := a) hb
  rw [e] at h1
  omega
theorem fIn_step {g : Nat → Int} (ok : okg g) {b : Bool} {u : Nat} {r0 : Int × (Nat → Nat)} {k : Nat} (hk : k < gN g) (i : fIn g b (u * gN g + k) (fcI g b u r0 k)) : fIn g b (u * gN g + (k + 1)) (fcI g b u r0 (k + 1)) := by
  obtain ⟨i1, i2, i3⟩ := i
  have e := wdiv (u := u) hk
  have es : lF g (u * gN g + (k + 1)) = if gT g u k = true then ((lF g (u * gN g + k)).1 + bI (ffF g u k (u * gN g + k) (gFl g u k)), mxZ (lF g (u * gN g + k)).2 (gFl g u k)) else lF g (u * gN g + k) := by
    rw [← Nat.add_assoc, lF_s, e.1, e.2]
  by_cases hT : gT g u k = true
  · rw [if_pos hT] at es
    have ff := ffF_orb ok (w := u * gN g + k) hT
    by_cases hm : ((fcI g b u r0 k).2 u).testBit k = false
    · -- not marked
      rw [fcI_s, if_pos ⟨hT, hm⟩]
      have hff : ffF g u k (u * gN g + k) (gFl g u k) = true := by
        rw [ff]
        intro q o
        rcases Nat.lt_or_ge (q.1 * gN g + q.2) (u * gN g + k) with z | z
        · have ht := oF_thin (p := (u, k)) hT o
          have : ((fcI g b u r0 k).2 u).testBit k = true := (i1 u k).mpr ⟨q.1, q.2, (gT_lt ok ht).2.1, z, ht, oF_sym ok (p := (u, k)) hT o⟩
          rw [hm] at this; cases this
        · exact z
      rw [hff] at es
      refine ⟨fun a c => ?_, ?_, fun a c ha hc hT2 => ?_⟩
      · show (mkF g (u, k) (fcI g b u r0 k).2 (gFl g u k) a).testBit c = true ↔ _
        rw [mkF_orb ok hT, i1]
        constructor
        · rintro (⟨x, y, y1, y2, y3, y4⟩ | o)
          · exact ⟨x, y, y1, by omega, y3, y4⟩
          · exact ⟨u, k, hk, by omega, hT, o⟩
        · rintro ⟨x, y, y1, y2, y3, y4⟩
          rcases Nat.lt_or_eq_of_le (show x * gN g + y ≤ u * gN g + k by omega) with z | z
          · exact Or.inl ⟨x, y, y1, z, y3, y4⟩
          · obtain ⟨rfl, rfl⟩ := wuniq y1 hk z
            exact Or.inr y4
      · rw [es]
        show fcS b _ _ = _
        rw [i2]
        cases b <;> simp [fcS, bI]
      · rw [es]
        show _ ≤ mxZ _ _
        unfold mxZ
        rcases Nat.lt_or_eq_of_le (show a * gN g + c ≤ u * gN g + k by omega) with z | z
        · have := i3 a c ha z hT2
          split <;> omega
        · obtain ⟨rfl, rfl⟩ := wuniq ha hk z
          split <;> omega
    · -- marked already
      rw [fcI_s, if_neg (fun q => hm q.2)]
      have hm' : ((fcI g b u r0 k).2 u).testBit k = true := by simpa using hm
      obtain ⟨x, y, y1, y2, y3, y4⟩ := (i1 u k).mp hm'
      have hff : ffF g u k (u * gN g + k) (gFl g u k) = false := by
        refine Bool.eq_false_iff.mpr (fun z => ?_)
        have := ff.mp z (x, y) (oF_sym ok (p := (x, y)) y3 y4)
        dsimp only at this
        omega
      have hl := gFl_eq ok y3 y4
      have hx := i3 x y y1 y2 y3
      have es2 : lF g (u * gN g + (k + 1)) = lF g (u * gN g + k) := by
        rw [es, hff, hl]
        unfold mxZ
        rw [if_neg (by omega)]
        show ((lF g (u * gN g + k)).1 + 0, _) = _
        rw [Int.add_zero]
      refine ⟨fun a c => ?_, by rw [es2]; exact i2, fun a c ha hc hT2 => ?_⟩
      · rw [i1]
        constructor
        · rintro ⟨x2, y2', z1, z2, z3, z4⟩
          exact ⟨x2, y2', z1, by omega, z3, z4⟩
        · rintro ⟨x2, y2', z1, z2, z3, z4⟩
          rcases Nat.lt_or_eq_of_le (show x2 * gN g + y2' ≤ u * gN g + k by omega) with z | z
          · exact ⟨x2, y2', z1, z, z3, z4⟩
          · obtain ⟨rfl, rfl⟩ := wuniq z1 hk z
            exact ⟨x, y, y1, y2, y3, oF_tr y4 z4⟩
      · rw [es2]
        rcases Nat.lt_or_eq_of_le (show a * gN g + c ≤ u * gN g + k by omega) with z | z
        · exact i3 a c ha z hT2
        · obtain ⟨rfl, rfl⟩ := wuniq ha hk z
          omega
  · rw [if_neg hT] at es
    rw [fcI_s, if_neg (fun q => hT q.1)]
    refine ⟨fun a c => ?_, by rw [es]; exact i2, fun a c ha hc hT2 => ?_⟩
    · rw [i1]
      constructor
      · rintro ⟨x2, y2', z1, z2, z3, z4⟩
        exact ⟨x2, y2', z1, by omega, z3, z4⟩
      · rintro ⟨x2, y2', z1, z2, z3, z4⟩
        rcases Nat.lt_or_eq_of_le (show x2 * gN g + y2' ≤ u * gN g + k by omega) with z | z
        · exact ⟨x2, y2', z1, z, z3, z4⟩
        · obtain ⟨rfl, rfl⟩ := wuniq z1 hk z
          exact absurd z3 hT
    · rw [es]
      rcases Nat.lt_or_eq_of_le (show a * gN g + c ≤ u * gN g + k by omega) with z | z
      · exact i3 a c ha z hT2
      · obtain ⟨rfl, rfl⟩ := wuniq ha hk z
        exact absurd hT2 hT
theorem fIn_I {g : Nat → Int} (ok : okg g) {b : Bool} {u : Nat} {r0 : Int × (Nat → Nat)} (i : fIn g b (u * gN g) r0) : ∀ k, k ≤ gN g → fIn g b (u * gN g + k) (fcI g b u r0 k)
  | 0, _ => i
  | k + 1, h => fIn_step ok (by omega) (fIn_I ok i k (by omega))
theorem fIn_O {g : Nat → Int} (ok : okg g) (b : Bool) : ∀ u, fIn g b (u * gN g) (fcO g b u)
  | 0 => by
    rw [Nat.zero_mul]
    refine ⟨fun a c => ?_, by cases b <;> rfl, fun u v _ h _ => by omega⟩
    show (0 : Nat).testBit c = true ↔ _
    rw [Nat.zero_testBit]
    constructor
    · intro h; cases h
    · rintro ⟨u, v, _, h, _⟩; omega
  | u + 1 => by
    have := fIn_I ok (fIn_O ok b u) (gN g) (Nat.le_refl _)
    rw [Nat.succ_mul]
    exact this
theorem faces_eq {g : Nat → Int} (ok : okg g) : (fcO g false (gN g)).1 = (lF g (gN g * gN g)).1 := (fIn_O ok false (gN g)).2.1
theorem great_eq {g : Nat → Int} (ok : okg g) : (fcO g true (gN g)).1 = (lF g (gN g * gN g)).2 := (fIn_O ok true (gN g)).2.1
