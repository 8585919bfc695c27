theorem itF_s (g : Nat → Int) (k : Nat) (p : Nat × Nat) : itF g (k + 1) p = ((itF g k p).2, (gU g (itF g k p).2 (itF g k p).1).toNat) := rfl
/-- facts at the k-th way of a face -/
theorem itF_at {g : Nat → Int} (ok : okg g) {u v : Nat} (h : gT g u v = true) (k : Nat) : (itF g k (u, v)).1 < gN g ∧ (itF g k (u, v)).2 < gN g ∧ (itF g k (u, v)).1 ≠ (itF g k (u, v)).2 ∧ 0 ≤ gU g (itF g k (u, v)).2 (itF g k (u, v)).1 ∧ gU g (itF g k (u, v)).2 (itF g k (u, v)).1 < 10 := by
  have t := itF_thin (p := (u, v)) h k
  have l := gT_lt ok t
  have n1 := ok.n
  have t2 : gT g (itF g k (u, v)).2 (itF g k (u, v)).1 = true := by rw [gT_sym]; exact t
  exact ⟨l.1, l.2.1, l.2.2, (gU_T (gU_ne t2)).2, (gU_rg ok (by omega)).2⟩
theorem itF_next {g : Nat → Int} (ok : okg g) {u v : Nat} (h : gT g u v = true) {k : Nat} (hk : k < gFl g u v) : (((itF g k (u, v)).2 : Int) = (u : Int) → gU g (itF g k (u, v)).2 (itF g k (u, v)).1 = (v : Int) → k + 1 = gFl g u v) ∧ (¬ (((itF g k (u, v)).2 : Int) = (u : Int) ∧ gU g (itF g k (u, v)).2 (itF g k (u, v)).1 = (v : Int)) → k + 1 < gFl g u v) := by
  obtain ⟨s1, s2, s3, s4⟩ := gFl_spec ok h
  have f := itF_at ok h k
  have e := itF_s g k (u, v)
  constructor
  · intro q1 q2
    rcases Nat.lt_or_eq_of_le (show k + 1 ≤ gFl g u v by omega) with z | z
    · refine absurd ?_ (s4 (k + 1) (by omega) z)
      rw [e, q2]
      have : (itF g k (u, v)).2 = u := by omega
      rw [this]; simp
    · exact z
  · intro q
    rcases Nat.lt_or_eq_of_le (show k + 1 ≤ gFl g u v by omega) with z | z
    · exact z
    · rw [← z, e] at s1
      obtain ⟨e1, e2⟩ := Prod.mk.inj s1
      exact absurd ⟨by omega, by omega⟩ q
-- marks
def mkF (g : Nat → Int) (p : Nat × Nat) (f0 : Nat → Nat) : Nat → Nat → Nat
  | 0 => f0
  | k + 1 => fun a => if a = (itF g k p).1 then mkF g p f0 k a ||| 2 ^ (itF g k p).2 else mkF g p f0 k a
theorem mkF_lt {g : Nat → Int} (ok : okg g) {u v : Nat} (h : gT g u v = true) {f0 : Nat → Nat} (hf : ∀ a, a < 10 → f0 a < 1024) : ∀ (k a : Nat), a < 10 → mkF g (u, v) f0 k a < 1024
  | 0, a, ha => hf a ha
  | k + 1, a, ha => by
    have := itF_at ok h k
    have n1 := ok.n
    unfold mkF
    split
    · exact Nat.or_lt_two_pow (n := 10) (mkF_lt ok h hf k a ha) (p2_10 (by omega))
    · exact mkF_lt ok h hf k a ha
theorem rwS_1 {V : Mem} {c a : Nat} {f : Nat → Nat} {x : Int} {y : Nat} (ha : a < 10) (hx : x = ((f a ||| y : Nat) : Int)) : ms (rwS V c f) c a x = rwS V c (fun i => if i = a then f i ||| y else f i) := by
  unfold ms rwS
  rw [up_up, va_up_self]
  congr 1
  funext b
  subst hx
  unfold va_up
  by_cases q : b = a
  · subst q; rw [if_pos rfl, if_pos ha]; simp
  · rw [if_neg q]
    simp [q]
theorem rwS_self {V : Mem} {c : Nat} {f : Nat → Nat} (h : ∀ a, a < 10 → V c a = (f a : Int)) : V = rwS V c f := mem_row V c (fun b => by
  by_cases q : b < 10
  · rw [if_pos q, h b q]
  · rw [if_neg q])
def aFace (g : Nat → Int) (u v : Int) : Int := if ¬ aTwo g u v = true then -1000000001 else if gT g u.toNat v.toNat = true then (gFl g u.toNat v.toNat : Int) else -1
