section LX
variable {O : OmT} {F : PhT} {R : Room} {nL : Nat} {V : Mem} {pc : Nat} {lv : List (Nat × Sv)} {st : List Sv} {own : String} {cc : ByteArray} {rt : Option FieldType} {Ts : List Cond}
def mxZ (a b : Int) : Int := if a < b then b else a
def mnZ (a b : Int) : Int := if b < a then b else a
theorem j_mmax (C : cx O F own cc nL rt Ts) {a b : Int} {index : Nat} (h1 : Cond.methodLink own index Lib.Math.max.name ∈ Ts) (h2 : Cond.static Lib.Math.max.name ∈ Ts) (h3 : Cond.initialized "java/lang/Math" ∈ Ts) (h4 : Cond.code Lib.Math.max.name Lib.Math.max.code 2 (some .int) ∈ Ts) (hf : 1 ≤ R.frames ∧ 21 ≤ R.locals) (hs : st.length ≤ 4) (ha : -2147483648 ≤ a ∧ a < 2147483648) (hb : -2147483648 ≤ b ∧ b < 2147483648) (hd : decode cc pc = .ok (.invokestatic index, 3)) (k : J O F R nL V (pc + 3) lv (si (mxZ a b) :: st)) : J O F R nL V pc lv (si b :: si a :: st) := fun H locs ls h hl => by
  obtain ⟨hx, hb0, hr, hlk, hml, hown, hts, hK, hn⟩ := C
  refine va_mmax hx hb0 (by rw [hml]; exact hl.1.1.symm) hown (hts _ h1) (hts _ h2) (hts _ h3) (hts _ h4) hf.1 (Nat.le_trans (Nat.add_le_add_right (room8 st) 13) (by omega)) (Nat.zero_le _) (Nat.zero_le _) hd ?_
  have e : (if iI a < iI b then iI b else iI a) = iI (mxZ a b) := by
    unfold mxZ
    by_cases q : a < b
    · rw [if_pos q, if_pos ((iI_lt ha hb).mpr q)]
    · rw [if_neg q, if_neg (fun z => q ((iI_lt ha hb).mp z))]
  rw [e]
  exact k H locs ls h hl
end LX
theorem rwS_rwS (V : Mem) (c : Nat) (f f2 : Nat → Nat) : rwS (rwS V c f) c f2 = rwS V c f2 := by
  unfold rwS
  rw [up_up, va_up_self]
  congr 1
  funext b
  by_cases q : b < 10
  · rw [if_pos q, if_pos q]
  · rw [if_neg q, if_neg q, if_neg q]
def fcS (b : Bool) (c : Int) (l : Nat) : Int := if b then mxZ c l else c + 1
def fcI (g : Nat → Int) (b : Bool) (u : Nat) (r0 : Int × (Nat → Nat)) : Nat → Int × (Nat → Nat)
  | 0 => r0
  | k + 1 => if gT g u k = true ∧ ((fcI g b u r0 k).2 u).testBit k = false then (fcS b (fcI g b u r0 k).1 (gFl g u k), mkF g (u, k) (fcI g b u r0 k).2 (gFl g u k)) else fcI g b u r0 k
def fcO (g : Nat → Int) (b : Bool) : Nat → Int × (Nat → Nat)
  | 0 => (0, fun _ => 0)
  | u + 1 => fcI g b u (fcO g b u) (gN g)
theorem fcI_s (g : Nat → Int) (b : Bool) (u : Nat) (r0 : Int × (Nat → Nat)) (k : Nat) : fcI g b u r0 (k + 1) = if gT g u k = true ∧ ((fcI g b u r0 k).2 u).testBit k = false then (fcS b (fcI g b u r0 k).1 (gFl g u k), mkF g (u, k) (fcI g b u r0 k).2 (gFl g u k)) else fcI g b u r0 k := rfl
theorem fcI_ok {g : Nat → Int} (ok : okg g) {b : Bool} {u : Nat} {r0 : Int × (Nat → Nat)} {M : Int} (h0 : ∀ a, a < 10 → r0.2 a < 1024) (h1 : 0 ≤ r0.1 ∧ r0.1 ≤ M) : ∀ k, (∀ a, a < 10 → (fcI g b u r0 k).2 a < 1024) ∧ 0 ≤ (fcI g b u r0 k).1 ∧ (fcI g b u r0 k).1 ≤ M + 90 * k
  | 0 => ⟨h0, h1.1, by show r0.1 ≤ _; omega⟩
  | k + 1 => by
    obtain ⟨i1, i2, i3⟩ := fcI_ok ok (b := b) (u := u) h0 h1 k
    rw [fcI_s]
    split
    · next q =>
      have := gFl_spec ok q.1
      refine ⟨mkF_lt ok q.1 i1 _, ?_, ?_⟩
      · show 0 ≤ fcS b _ _; unfold fcS mxZ; split
        · split <;> omega
        · omega
      · show fcS b _ _ ≤ _; unfold fcS mxZ; split
        · split <;> omega
        · omega
    · exact ⟨i1, i2, by omega⟩
theorem fcO_ok {g : Nat → Int} (ok : okg g) (b : Bool) : ∀ k, (∀ a, a < 10 → (fcO g b k).2 a < 1024) ∧ 0 ≤ (fcO g b k).1 ∧ (fcO g b k).1 ≤ 900 * k
  | 0 => ⟨fun _ _ => by show (0 : Nat) < 1024; decide, by show (0 : Int) ≤ 0; decide, by show (0 : Int) ≤ _; omega⟩
  | k + 1 => by
    obtain ⟨i1, i2, i3⟩ := fcO_ok ok b k
    have := fcI_ok ok (b := b) (u := k) i1 ⟨i2, i3⟩ (gN g)
    have n1 := ok.n
    refine ⟨this.1, this.2.1, ?_⟩
    have h := this.2.2
    show (fcI g b k (fcO g b k) (gN g)).1 ≤ _
    omega
theorem cpm_7 (V : Mem) (g : Nat → Int) (b : Bool) : cpm V 7 0 (fun _ => 0) 10 = rwS V 7 (fcO g b 0).2 := by
  unfold cpm rwS
  congr 1
  funext i
  by_cases q : i < 10
  · rw [if_pos ⟨Nat.zero_le _, by omega⟩, if_pos q]; rfl
  · rw [if_neg (fun z => q (by omega)), if_neg q]
theorem fcI_n {g : Nat → Int} {b : Bool} {u : Nat} {r0 : Int × (Nat → Nat)} {k : Nat} (h : (gT g u k && !((fcI g b u r0 k).2 u).testBit k) = false) : fcI g b u r0 (k + 1) = fcI g b u r0 k := by
  rw [fcI_s, if_neg (fun q => by rw [q.1, q.2] at h; cases h)]
theorem fcI_y {g : Nat → Int} {b : Bool} {u : Nat} {r0 : Int × (Nat → Nat)} {k : Nat} (h : (gT g u k && !((fcI g b u r0 k).2 u).testBit k) = true) : fcI g b u r0 (k + 1) = (fcS b (fcI g b u r0 k).1 (gFl g u k), mkF g (u, k) (fcI g b u r0 k).2 (gFl g u k)) := by
  rw [fcI_s, if_pos (by simpa using h)]
