theorem xF_0 (g : Nat → Int) (i : Nat) : sm (xF g i) (i + 1) = 0 := sm_zero (fun j hj => by unfold xF; rw [decide_eq_false (by omega)]; rfl)
theorem xD_0 (g : Nat → Int) (a b : Nat) : sm (xD g a b) (a + 1) = 0 := sm_zero (fun j hj => by unfold xD; rw [if_neg (by omega)])
theorem xC_0 (g : Nat → Int) (a b c : Nat) : sm (fun d => bI (xC g a b c d)) (c + 1) = 0 := sm_zero (fun j hj => by show bI (xC g a b c j) = 0; unfold xC; rw [decide_eq_false (by omega)]; simp [bI])
theorem xB_0 (g : Nat → Int) (a : Nat) : sm (xB g a) (a + 1) = 0 := sm_zero (fun j hj => by unfold xB; rw [if_neg (by omega)])
theorem xF_s {g : Nat → Int} {i j a b c d : Nat} (h : i < j) (ea : a = i / gN g) (eb : b = i % gN g) (ec : c = j / gN g) (ed : d = j % gN g) (S : Int) {z : Int} (hz : z = bI (xR g a b c d)) : S + sm (xF g i) (j + 1) = S + sm (xF g i) j + z := by
  rw [sm_s, ← Int.add_assoc, hz]
  unfold xF
  rw [decide_eq_true h, Bool.true_and, ea, eb, ec, ed]
theorem xC_s {g : Nat → Int} {a b c d : Nat} (S : Int) {z : Int} (hz : z = bI (xC g a b c d)) : S + sm (fun d => bI (xC g a b c d)) (d + 1) = S + sm (fun d => bI (xC g a b c d)) d + z := by
  rw [sm_s, ← Int.add_assoc, hz]
theorem xD_s {g : Nat → Int} {a b c : Nat} (h : a < c) : sm (xD g a b) (c + 1) = sm (xD g a b) c + sm (fun d => bI (xC g a b c d)) (gN g) := by
  rw [sm_s]
  congr 1
  unfold xD
  rw [if_pos h]
theorem xB_s {g : Nat → Int} {a b : Nat} (S : Int) {z : Int} (hz : z = xB g a b) : S + sm (xB g a) (b + 1) = S + sm (xB g a) b + z := by
  rw [sm_s, ← Int.add_assoc, hz]
def sn7 (V : Mem) : Prop := ∃ f : Nat → Nat, ∀ a, a < 10 → V 7 a = (f a : Int) ∧ f a < 1024
/-- what calls of the class that tell leave as it was -/
def cFs (V0 V : Mem) : Prop := (∀ c, c ≠ 7 → c ≠ 8 → c ≠ 9 → c ≠ 10 → V c = V0 c) ∧ sn7 V
theorem cFs_c {V0 V : Mem} (h : cFr V0 V) (s : sn7 V0) : cFs V0 V := ⟨fun c _ h2 h3 h4 => h c h2 h3 h4, by unfold sn7; rw [h 7 (by decide) (by decide) (by decide)]; exact s⟩
theorem cFs_rf {V0 : Mem} (s : sn7 V0) : cFs V0 V0 := ⟨fun _ _ _ _ _ => rfl, s⟩
theorem cFs_7 {V : Mem} {f : Nat → Nat} (h : ∀ a, a < 10 → f a < 1024) : cFs V (rwS V 7 f) := ⟨fun c h1 _ _ _ => va_up_ne _ _ h1, f, fun a ha => ⟨rwS_at ha, h a ha⟩⟩
