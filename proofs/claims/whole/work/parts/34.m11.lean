def rX6_crossings : Room := { frames := 3, cells := 0, slots := 0, locals := 75 }
theorem sgX6_crossings : sg yX6_crossings wsX6_crossings cX6_crossings 10 (some .int) rX6_crossings 0 := ⟨⟨_, rfl⟩, rfl, rfl, by decide, by decide, by decide +kernel⟩
set_option maxHeartbeats 4000000 in
set_option maxRecDepth 100000 in
theorem lpX6_cross2 {O : OmT} {F : PhT} {V : Mem} {g : Nat → Int} (C : cx O F RX6 cX6_crossings 10 (some .int) wsX6_crossings) (hg : mdl V g) (ok : okg g) {i : Nat} (hi : i < gN g * gN g) (kx : J O F rX6_crossings 10 V 158 [(0, sr 72), (1, si (g 0)), (2, si (sm (fun i => sm (xF g i) (gN g * gN g)) i + sm (xF g i) (gN g * gN g))), (3, si (i : Int)), (4, si ((gN g * gN g : Nat) : Int))] []) : ∀ (fuel : Nat) (j : Nat), (j ≤ gN g * gN g) → (i < j) → gN g * gN g - j < fuel → J O F rX6_crossings 10 V 23 [(0, sr 72), (1, si (g 0)), (2, si (sm (fun i => sm (xF g i) (gN g * gN g)) i + sm (xF g i) j)), (3, si (i : Int)), (4, si (j : Int))] [] := by
  intro fuel
  induction fuel with
  | zero => intro j hw hij hf; exact absurd hf (Nat.not_lt_zero _)
  | succ fuel ih =>
    intro j hw hij hf
    have n1 := ok.n
    have sq : g 0 * g 0 = ((gN g * gN g : Nat) : Int) := by rw [n1.1]; exact (Int.natCast_mul _ _).symm
    have s100 : gN g * gN g ≤ 100 := Nat.mul_le_mul n1.2 n1.2
    refine j_iload C dX6_crossings_23 rfl ?_
    refine j_iload_n C dX6_crossings_25 rfl ?_
    refine j_iload_n C dX6_crossings_26 rfl ?_
    refine j_imul C dX6_crossings_27 ?_
    refine j_icmp_ge (tgt := 158) C dX6_crossings_28 (by decide) (by omega) (by omega) (fun q_1 => ?_) (fun q_1 => ?_)
    · have e : j = gN g * gN g := by omega
      rw [e]
      exact kx
    · have hn0 : 0 < gN g := Nat.pos_of_ne_zero (fun z => by rw [z] at sq; omega)
      refine j_iload_n C dX6_crossings_31 rfl ?_
      refine j_iload_n C dX6_crossings_32 rfl ?_
      refine j_idiv C dX6_crossings_33 (by have := ok.1; omega) (by omega) ?_
      refine j_top (b := ((i / gN g : Nat) : Int)) (by rw [n1.1]; exact bDiv_nat (by omega) (by omega) (by omega)) ?_
      refine j_istore (lv' := [(0, sr 72), (1, si (g 0)), (2, si (sm (fun i => sm (xF g i) (gN g * gN g)) i + sm (xF g i) j)), (3, si (i : Int)), (4, si (j : Int)), (5, si ((i / gN g : Nat) : Int))]) C dX6_crossings_34 (by decide) rfl ?_
      refine j_iload_n C dX6_crossings_36 rfl ?_
      refine j_iload_n C dX6_crossings_37 rfl ?_
      refine j_irem C dX6_crossings_38 (by have := ok.1; omega) (by omega) ?_
      refine j_top (b := ((i % gN g : Nat) : Int)) (by rw [n1.1]; exact bRem_nat (by omega) (by omega) (by omega)) ?_
      refine j_istore (lv' := [(0, sr 72), (1, si (g 0)), (2, si (sm (fun i => sm (xF g i) (gN g * gN g)) i + sm (xF g i) j)), (3, si (i : Int)), (4, si (j : Int)), (5, si ((i / gN g : Nat) : Int)), (6, si ((i % gN g : Nat) : Int))]) C dX6_crossings_39 (by decide) rfl ?_
      refine j_iload C dX6_crossings_41 rfl ?_
      refine j_iload_n C dX6_crossings_43 rfl ?_
      refine j_idiv C dX6_crossings_44 (by have := ok.1; omega) (by omega) ?_
      refine j_top (b := ((j / gN g : Nat) : Int)) (by rw [n1.1]; exact bDiv_nat (by omega) (by omega) (by omega)) ?_
      refine j_istore (lv' := [(0, sr 72), (1, si (g 0)), (2, si (sm (fun i => sm (xF g i) (gN g * gN g)) i + sm (xF g i) j)), (3, si (i : Int)), (4, si (j : Int)), (5, si ((i / gN g : Nat) : Int)), (6, si ((i % gN g : Nat) : Int)), (7, si ((j / gN g : Nat) : Int))]) C dX6_crossings_45 (by decide) rfl ?_
      refine j_iload C dX6_crossings_47 rfl ?_
      refine j_iload_n C dX6_crossings_49 rfl ?_
      refine j_irem C dX6_crossings_50 (by have := ok.1; omega) (by omega) ?_
      refine j_top (b := ((j % gN g : Nat) : Int)) (by rw [n1.1]; exact bRem_nat (by omega) (by omega) (by omega)) ?_
      refine j_istore (lv' := [(0, sr 72), (1, si (g 0)), (2, si (sm (fun i => sm (xF g i) (gN g * gN g)) i + sm (xF g i) j)), (3, si (i : Int)), (4, si (j : Int)), (5, si ((i / gN g : Nat) : Int)), (6, si ((i % gN g : Nat) : Int)), (7, si ((j / gN g : Nat) : Int)), (8, si ((j % gN g : Nat) : Int))]) C dX6_crossings_51 (by decide) rfl ?_
      obtain ⟨a, ea⟩ : ∃ a, a = i / gN g := ⟨_, rfl⟩
      obtain ⟨b, eb⟩ : ∃ b, b = i % gN g := ⟨_, rfl⟩
      obtain ⟨c, ec⟩ : ∃ c, c = j / gN g := ⟨_, rfl⟩
      obtain ⟨d, ed⟩ : ∃ d, d = j % gN g := ⟨_, rfl⟩
      have ha : a < gN g := by rw [ea]; exact Nat.div_lt_of_lt_mul (by omega)
      have hb : b < gN g := by rw [eb]; exact Nat.mod_lt _ hn0
      have hc : c < gN g := by rw [ec]; exact Nat.div_lt_of_lt_mul (by omega)
      have hd : d < gN g := by rw [ed]; exact Nat.mod_lt _ hn0
      rw [← ea, ← eb, ← ec, ← ed]
      refine j_iload C dX6_crossings_53 rfl ?_
      refine j_iload C dX6_crossings_55 rfl ?_
      refine j_icmp_ge (tgt := 99) C dX6_crossings_57 (by decide) (by omega) (by omega) (fun q_2 => ?_) (fun q_2 => ?_)
      · refine j_iconst C dX6_crossings_99 ?_
        refine j_istore (lv' := [(0, sr 72), (1, si (g 0)), (2, si (sm (fun i => sm (xF g i) (gN g * gN g)) i + sm (xF g i) j)), (3, si (i : Int)), (4, si (j : Int)), (5, si (a : Int)), (6, si (b : Int)), (7, si (c : Int)), (8, si (d : Int)), (9, si 0)]) C dX6_crossings_100 (by decide) rfl ?_
        refine j_iload_n C dX6_crossings_102 rfl ?_
        refine j_iload C dX6_crossings_103 rfl ?_
        refine j_if_eq (tgt := 149) C dX6_crossings_105 (by decide) (by decide) (fun q_3 => ?_) (fun q_3 => ?_)
        · refine j_iconst C dX6_crossings_149 ?_
          refine j_iadd C dX6_crossings_150 ?_
          refine j_istore_n (lv' := [(0, sr 72), (1, si (g 0)), (2, si ((sm (fun i => sm (xF g i) (gN g * gN g)) i + sm (xF g i) j) + 0)), (3, si (i : Int)), (4, si (j : Int)), (5, si (a : Int)), (6, si (b : Int)), (7, si (c : Int)), (8, si (d : Int)), (9, si 0)]) C dX6_crossings_151 (by decide) rfl ?_
          refine j_iinc (lv' := [(0, sr 72), (1, si (g 0)), (2, si ((sm (fun i => sm (xF g i) (gN g * gN g)) i + sm (xF g i) j) + 0)), (3, si (i : Int)), (4, si ((j : Int) + 1)), (5, si (a : Int)), (6, si (b : Int)), (7, si (c : Int)), (8, si (d : Int)), (9, si 0)]) C dX6_crossings_152 rfl (by decide) rfl ?_
          refine j_goto (tgt := 23) C dX6_crossings_155 (by decide) ?_
          have e2 : (sm (fun i => sm (xF g i) (gN g * gN g)) i + sm (xF g i) (j + 1)) = ((sm (fun i => sm (xF g i) (gN g * gN g)) i + sm (xF g i) j) + 0) := by
            refine xF_s hij ea eb ec ed _ ?_
            unfold xR
            simp_all [bI]
            try omega
          refine j_pick (lv' := [(0, sr 72), (1, si (g 0)), (2, si ((sm (fun i => sm (xF g i) (gN g * gN g)) i + sm (xF g i) j) + 0)), (3, si (i : Int)), (4, si ((j : Int) + 1))]) [0, 1, 2, 3, 4] rfl ?_
          refine j_lv (lv' := [(0, sr 72), (1, si (g 0)), (2, si (sm (fun i => sm (xF g i) (gN g * gN g)) i + sm (xF g i) (j + 1))), (3, si (i : Int)), (4, si ((j : Int) + 1))]) (by rw [e2]) ?_
          exact ih (j + 1) (by omega) (by omega) (by omega)
        · omega
      · refine j_iload C dX6_crossings_60 rfl ?_
        refine j_iload C dX6_crossings_62 rfl ?_
        refine j_icmp_ge (tgt := 99) C dX6_crossings_64 (by decide) (by omega) (by omega) (fun q_4 => ?_) (fun q_4 => ?_)
        · refine j_iconst C dX6_crossings_99 ?_
          refine j_istore (lv' := [(0, sr 72), (1, si (g 0)), (2, si (sm (fun i => sm (xF g i) (gN g * gN g)) i + sm (xF g i) j)), (3, si (i : Int)), (4, si (j : Int)), (5, si (a : Int)), (6, si (b : Int)), (7, si (c : Int)), (8, si (d : Int)), (9, si 0)]) C dX6_crossings_100 (by decide) rfl ?_
          refine j_iload_n C dX6_crossings_102 rfl ?_
          refine j_iload C dX6_crossings_103 rfl ?_
          refine j_if_eq (tgt := 149) C dX6_crossings_105 (by decide) (by decide) (fun q_5 => ?_) (fun q_5 => ?_)
          · refine j_iconst C dX6_crossings_149 ?_
            refine j_iadd C dX6_crossings_150 ?_
            refine j_istore_n (lv' := [(0, sr 72), (1, si (g 0)), (2, si ((sm (fun i => sm (xF g i) (gN g * gN g)) i + sm (xF g i) j) + 0)), (3, si (i : Int)), (4, si (j : Int)), (5, si (a : Int)), (6, si (b : Int)), (7, si (c : Int)), (8, si (d : Int)), (9, si 0)]) C dX6_crossings_151 (by decide) rfl ?_
            refine j_iinc (lv' := [(0, sr 72), (1, si (g 0)), (2, si ((sm (fun i => sm (xF g i) (gN g * gN g)) i + sm (xF g i) j) + 0)), (3, si (i : Int)), (4, si ((j : Int) + 1)), (5, si (a : Int)), (6, si (b : Int)), (7, si (c : Int)), (8, si (d : Int)), (9, si 0)]) C dX6_crossings_152 rfl (by decide) rfl ?_
            refine j_goto (tgt := 23) C dX6_crossings_155 (by decide) ?_
            have e2 : (sm (fun i => sm (xF g i) (gN g * gN g)) i + sm (xF g i) (j + 1)) = ((sm (fun i => sm (xF g i) (gN g * gN g)) i + sm (xF g i) j) + 0) := by
              refine xF_s hij ea eb ec ed _ ?_
              unfold xR
              simp_all [bI]
              try omega
            refine j_pick (lv' := [(0, sr 72), (1, si (g 0)), (2, si ((sm (fun i => sm (xF g i) (gN g * gN g)) i + sm (xF g i) j) + 0)), (3, si (i : Int)), (4, si ((j : Int) + 1))]) [0, 1, 2, 3, 4] rfl ?_
            refine j_lv (lv' := [(0, sr 72), (1, si (g 0)), (2, si (sm (fun i => sm (xF g i) (gN g * gN g)) i + sm (xF g i) (j + 1))), (3, si (i : Int)), (4, si ((j : Int) + 1))]) (by rw [e2]) ?_
            exact ih (j + 1) (by omega) (by omega) (by omega)
          · omega
        · refine j_iload C dX6_crossings_67 rfl ?_
          refine j_iload C dX6_crossings_69 rfl ?_
          refine j_icmp_eq (tgt := 99) C dX6_crossings_71 (by decide) (by omega) (by omega) (fun q_6 => ?_) (fun q_6 => ?_)
          · refine j_iconst C dX6_crossings_99 ?_
            refine j_istore (lv' := [(0, sr 72), (1, si (g 0)), (2, si (sm (fun i => sm (xF g i) (gN g * gN g)) i + sm (xF g i) j)), (3, si (i : Int)), (4, si (j : Int)), (5, si (a : Int)), (6, si (b : Int)), (7, si (c : Int)), (8, si (d : Int)), (9, si 0)]) C dX6_crossings_100 (by decide) rfl ?_
            refine j_iload_n C dX6_crossings_102 rfl ?_
            refine j_iload C dX6_crossings_103 rfl ?_
            refine j_if_eq (tgt := 149) C dX6_crossings_105 (by decide) (by decide) (fun q_7 => ?_) (fun q_7 => ?_)
            · refine j_iconst C dX6_crossings_149 ?_
              refine j_iadd C dX6_crossings_150 ?_
              refine j_istore_n (lv' := [(0, sr 72), (1, si (g 0)), (2, si ((sm (fun i => sm (xF g i) (gN g * gN g)) i + sm (xF g i) j) + 0)), (3, si (i : Int)), (4, si (j : Int)), (5, si (a : Int)), (6, si (b : Int)), (7, si (c : Int)), (8, si (d : Int)), (9, si 0)]) C dX6_crossings_151 (by decide) rfl ?_
              refine j_iinc (lv' := [(0, sr 72), (1, si (g 0)), (2, si ((sm (fun i => sm (xF g i) (gN g * gN g)) i + sm (xF g i) j) + 0)), (3, si (i : Int)), (4, si ((j : Int) + 1)), (5, si (a : Int)), (6, si (b : Int)), (7, si (c : Int)), (8, si (d : Int)), (9, si 0)]) C dX6_crossings_152 rfl (by decide) rfl ?_
              refine j_goto (tgt := 23) C dX6_crossings_155 (by decide) ?_
              have e2 : (sm (fun i => sm (xF g i) (gN g * gN g)) i + sm (xF g i) (j + 1)) = ((sm (fun i => sm (xF g i) (gN g * gN g)) i + sm (xF g i) j) + 0) := by
                refine xF_s hij ea eb ec ed _ ?_
                unfold xR
                simp_all [bI]
                try omega
              refine j_pick (lv' := [(0, sr 72), (1, si (g 0)), (2, si ((sm (fun i => sm (xF g i) (gN g * gN g)) i + sm (xF g i) j) + 0)), (3, si (i : Int)), (4, si ((j : Int) + 1))]) [0, 1, 2, 3, 4] rfl ?_
              refine j_lv (lv' := [(0, sr 72), (1, si (g 0)), (2, si (sm (fun i => sm (xF g i) (gN g * gN g)) i + sm (xF g i) (j + 1))), (3, si (i : Int)), (4, si ((j : Int) + 1))]) (by rw [e2]) ?_
              exact ih (j + 1) (by omega) (by omega) (by omega)
            · omega
          · refine j_iload C dX6_crossings_74 rfl ?_
            refine j_iload C dX6_crossings_76 rfl ?_
            refine j_icmp_eq (tgt := 99) C dX6_crossings_78 (by decide) (by omega) (by omega) (fun q_8 => ?_) (fun q_8 => ?_)
            · refine j_iconst C dX6_crossings_99 ?_
              refine j_istore (lv' := [(0, sr 72), (1, si (g 0)), (2, si (sm (fun i => sm (xF g i) (gN g * gN g)) i + sm (xF g i) j)), (3, si (i : Int)), (4, si (j : Int)), (5, si (a : Int)), (6, si (b : Int)), (7, si (c : Int)), (8, si (d : Int)), (9, si 0)]) C dX6_crossings_100 (by decide) rfl ?_
              refine j_iload_n C dX6_crossings_102 rfl ?_
              refine j_iload C dX6_crossings_103 rfl ?_
              refine j_if_eq (tgt := 149) C dX6_crossings_105 (by decide) (by decide) (fun q_9 => ?_) (fun q_9 => ?_)
              · refine j_iconst C dX6_crossings_149 ?_
                refine j_iadd C dX6_crossings_150 ?_
                refine j_istore_n (lv' := [(0, sr 72), (1, si (g 0)), (2, si ((sm (fun i => sm (xF g i) (gN g * gN g)) i + sm (xF g i) j) + 0)), (3, si (i : Int)), (4, si (j : Int)), (5, si (a : Int)), (6, si (b : Int)), (7, si (c : Int)), (8, si (d : Int)), (9, si 0)]) C dX6_crossings_151 (by decide) rfl ?_
                refine j_iinc (lv' := [(0, sr 72), (1, si (g 0)), (2, si ((sm (fun i => sm (xF g i) (gN g * gN g)) i + sm (xF g i) j) + 0)), (3, si (i : Int)), (4, si ((j : Int) + 1)), (5, si (a : Int)), (6, si (b : Int)), (7, si (c : Int)), (8, si (d : Int)), (9, si 0)]) C dX6_crossings_152 rfl (by decide) rfl ?_
                refine j_goto (tgt := 23) C dX6_crossings_155 (by decide) ?_
                have e2 : (sm (fun i => sm (xF g i) (gN g * gN g)) i + sm (xF g i) (j + 1)) = ((sm (fun i => sm (xF g i) (gN g * gN g)) i + sm (xF g i) j) + 0) := by
                  refine xF_s hij ea eb ec ed _ ?_
                  unfold xR
                  simp_all [bI]
                  try omega
                refine j_pick (lv' := [(0, sr 72), (1, si (g 0)), (2, si ((sm (fun i => sm (xF g i) (gN g * gN g)) i + sm (xF g i) j) + 0)), (3, si (i : Int)), (4, si ((j : Int) + 1))]) [0, 1, 2, 3, 4] rfl ?_
                refine j_lv (lv' := [(0, sr 72), (1, si (g 0)), (2, si (sm (fun i => sm (xF g i) (gN g * gN g)) i + sm (xF g i) (j + 1))), (3, si (i : Int)), (4, si ((j : Int) + 1))]) (by rw [e2]) ?_
                exact ih (j + 1) (by omega) (by omega) (by omega)
              · omega
            · refine j_iload C dX6_crossings_81 rfl ?_
              refine j_iload C dX6_crossings_83 rfl ?_
              refine j_icmp_eq (tgt := 99) C dX6_crossings_85 (by decide) (by omega) (by omega) (fun q_10 => ?_) (fun q_10 => ?_)
              · refine j_iconst C dX6_crossings_99 ?_
                refine j_istore (lv' := [(0, sr 72), (1, si (g 0)), (2, si (sm (fun i => sm (xF g i) (gN g * gN g)) i + sm (xF g i) j)), (3, si (i : Int)), (4, si (j : Int)), (5, si (a : Int)), (6, si (b : Int)), (7, si (c : Int)), (8, si (d : Int)), (9, si 0)]) C dX6_crossings_100 (by decide) rfl ?_
                refine j_iload_n C dX6_crossings_102 rfl ?_
                refine j_iload C dX6_crossings_103 rfl ?_
                refine j_if_eq (tgt := 149) C dX6_crossings_105 (by decide) (by decide) (fun q_11 => ?_) (fun q_11 => ?_)
                · refine j_iconst C dX6_crossings_149 ?_
                  refine j_iadd C dX6_crossings_150 ?_
                  refine j_istore_n (lv' := [(0, sr 72), (1, si (g 0)), (2, si ((sm (fun i => sm (xF g i) (gN g * gN g)) i + sm (xF g i) j) + 0)), (3, si (i : Int)), (4, si (j : Int)), (5, si (a : Int)), (6, si (b : Int)), (7, si (c : Int)), (8, si (d : Int)), (9, si 0)]) C dX6_crossings_151 (by decide) rfl ?_
                  refine j_iinc (lv' := [(0, sr 72), (1, si (g 0)), (2, si ((sm (fun i => sm (xF g i) (gN g * gN g)) i + sm (xF g i) j) + 0)), (3, si (i : Int)), (4, si ((j : Int) + 1)), (5, si (a : Int)), (6, si (b : Int)), (7, si (c : Int)), (8, si (d : Int)), (9, si 0)]) C dX6_crossings_152 rfl (by decide) rfl ?_
                  refine j_goto (tgt := 23) C dX6_crossings_155 (by decide) ?_
                  have e2 : (sm (fun i => sm (xF g i) (gN g * gN g)) i + sm (xF g i) (j + 1)) = ((sm (fun i => sm (xF g i) (gN g * gN g)) i + sm (xF g i) j) + 0) := by
                    refine xF_s hij ea eb ec ed _ ?_
                    unfold xR
                    simp_all [bI]
                    try omega
                  refine j_pick (lv' := [(0, sr 72), (1, si (g 0)), (2, si ((sm (fun i => sm (xF g i) (gN g * gN g)) i + sm (xF g i) j) + 0)), (3, si (i : Int)), (4, si ((j : Int) + 1))]) [0, 1, 2, 3, 4] rfl ?_
                  refine j_lv (lv' := [(0, sr 72), (1, si (g 0)), (2, si (sm (fun i => sm (xF g i) (gN g * gN g)) i + sm (xF g i) (j + 1))), (3, si (i : Int)), (4, si ((j : Int) + 1))]) (by rw [e2]) ?_
                  exact ih (j + 1) (by omega) (by omega) (by omega)
                · omega
              · refine j_iload C dX6_crossings_88 rfl ?_
                refine j_iload C dX6_crossings_90 rfl ?_
                refine j_icmp_eq (tgt := 99) C dX6_crossings_92 (by decide) (by omega) (by omega) (fun q_12 => ?_) (fun q_12 => ?_)
                · refine j_iconst C dX6_crossings_99 ?_
                  refine j_istore (lv' := [(0, sr 72), (1, si (g 0)), (2, si (sm (fun i => sm (xF g i) (gN g * gN g)) i + sm (xF g i) j)), (3, si (i : Int)), (4, si (j : Int)), (5, si (a : Int)), (6, si (b : Int)), (7, si (c : Int)), (8, si (d : Int)), (9, si 0)]) C dX6_crossings_100 (by decide) rfl ?_
                  refine j_iload_n C dX6_crossings_102 rfl ?_
                  refine j_iload C dX6_crossings_103 rfl ?_
                  refine j_if_eq (tgt := 149) C dX6_crossings_105 (by decide) (by decide) (fun q_13 => ?_) (fun q_13 => ?_)
                  · refine j_iconst C dX6_crossings_149 ?_
                    refine j_iadd C dX6_crossings_150 ?_
                    refine j_istore_n (lv' := [(0, sr 72), (1, si (g 0)), (2, si ((sm (fun i => sm (xF g i) (gN g * gN g)) i + sm (xF g i) j) + 0)), (3, si (i : Int)), (4, si (j : Int)), (5, si (a : Int)), (6, si (b : Int)), (7, si (c : Int)), (8, si (d : Int)), (9, si 0)]) C dX6_crossings_151 (by decide) rfl ?_
                    refine j_iinc (lv' := [(0, sr 72), (1, si (g 0)), (2, si ((sm (fun i => sm (xF g i) (gN g * gN g)) i + sm (xF g i) j) + 0)), (3, si (i : Int)), (4, si ((j : Int) + 1)), (5, si (a : Int)), (6, si (b : Int)), (7, si (c : Int)), (8, si (d : Int)), (9, si 0)]) C dX6_crossings_152 rfl (by decide) rfl ?_
                    refine j_goto (tgt := 23) C dX6_crossings_155 (by decide) ?_
                    have e2 : (sm (fun i => sm (xF g i) (gN g * gN g)) i + sm (xF g i) (j + 1)) = ((sm (fun i => sm (xF g i) (gN g * gN g)) i + sm (xF g i) j) + 0) := by
                      refine xF_s hij ea eb ec ed _ ?_
                      unfold xR
                      simp_all [bI]
                      try omega
                    refine j_pick (lv' := [(0, sr 72), (1, si (g 0)), (2, si ((sm (fun i => sm (xF g i) (gN g * gN g)) i + sm (xF g i) j) + 0)), (3, si (i : Int)), (4, si ((j : Int) + 1))]) [0, 1, 2, 3, 4] rfl ?_
                    refine j_lv (lv' := [(0, sr 72), (1, si (g 0)), (2, si (sm (fun i => sm (xF g i) (gN g * gN g)) i + sm (xF g i) (j + 1))), (3, si (i : Int)), (4, si ((j : Int) + 1))]) (by rw [e2]) ?_
                    exact ih (j + 1) (by omega) (by omega) (by omega)
                  · omega
                · refine j_iconst C dX6_crossings_95 ?_
                  refine j_goto (tgt := 100) C dX6_crossings_96 (by decide) ?_
                  refine j_istore (lv' := [(0, sr 72), (1, si (g 0)), (2, si (sm (fun i => sm (xF g i) (gN g * gN g)) i + sm (xF g i) j)), (3, si (i : Int)), (4, si (j : Int)), (5, si (a : Int)), (6, si (b : Int)), (7, si (c : Int)), (8, si (d : Int)), (9, si 1)]) C dX6_crossings_100 (by decide) rfl ?_
                  refine j_iload_n C dX6_crossings_102 rfl ?_
                  refine j_iload C dX6_crossings_103 rfl ?_
                  refine j_if_eq (tgt := 149) C dX6_crossings_105 (by decide) (by decide) (fun q_14 => ?_) (fun q_14 => ?_)
                  · omega
                  · refine j_aload_n C dX6_crossings_108 rfl ?_
                    refine j_iload C dX6_crossings_109 rfl ?_
                    refine j_iload C dX6_crossings_111 rfl ?_
                    refine j_doI (st := [si (sm (fun i => sm (xF g i) (gN g * gN g)) i + sm (xF g i) j)]) (j_runV C (kX6_areLinked hg ok a b rfl rfl (by omega) (by omega)) gX6_crossings_X6_areLinked sgX6_areLinked rfl ⟨by decide, by decide⟩ (by decide) (en_72 _ _) rfl rfl rfl (Nat.le_of_ble_eq_true rfl) dX6_crossings_113) (fun z_15 V_16 h_17 => ?_)
                    obtain ⟨rfl, rfl⟩ := h_17
                    refine j_ifb_eq (tgt := 149) C dX6_crossings_116 (by decide) (fun q_18 => ?_) (fun q_18 => ?_)
                    · refine j_iconst C dX6_crossings_149 ?_
                      refine j_iadd C dX6_crossings_150 ?_
                      refine j_istore_n (lv' := [(0, sr 72), (1, si (g 0)), (2, si ((sm (fun i => sm (xF g i) (gN g * gN g)) i + sm (xF g i) j) + 0)), (3, si (i : Int)), (4, si (j : Int)), (5, si (a : Int)), (6, si (b : Int)), (7, si (c : Int)), (8, si (d : Int)), (9, si 1)]) C dX6_crossings_151 (by decide) rfl ?_
                      refine j_iinc (lv' := [(0, sr 72), (1, si (g 0)), (2, si ((sm (fun i => sm (xF g i) (gN g * gN g)) i + sm (xF g i) j) + 0)), (3, si (i : Int)), (4, si ((j : Int) + 1)), (5, si (a : Int)), (6, si (b : Int)), (7, si (c : Int)), (8, si (d : Int)), (9, si 1)]) C dX6_crossings_152 rfl (by decide) rfl ?_
                      refine j_goto (tgt := 23) C dX6_crossings_155 (by decide) ?_
                      have e2 : (sm (fun i => sm (xF g i) (gN g * gN g)) i + sm (xF g i) (j + 1)) = ((sm (fun i => sm (xF g i) (gN g * gN g)) i + sm (xF g i) j) + 0) := by
                        refine xF_s hij ea eb ec ed _ ?_
                        unfold xR
                        simp_all [bI]
                        try omega
                      refine j_pick (lv' := [(0, sr 72), (1, si (g 0)), (2, si ((sm (fun i => sm (xF g i) (gN g * gN g)) i + sm (xF g i) j) + 0)), (3, si (i : Int)), (4, si ((j : Int) + 1))]) [0, 1, 2, 3, 4] rfl ?_
                      refine j_lv (lv' := [(0, sr 72), (1, si (g 0)), (2, si (sm (fun i => sm (xF g i) (gN g * gN g)) i + sm (xF g i) (j + 1))), (3, si (i : Int)), (4, si ((j : Int) + 1))]) (by rw [e2]) ?_
                      exact ih (j + 1) (by omega) (by omega) (by omega)
                    · refine j_aload_n C dX6_crossings_119 rfl ?_
                      refine j_iload C dX6_crossings_120 rfl ?_
                      refine j_iload C dX6_crossings_122 rfl ?_
                      refine j_doI (st := [si (sm (fun i => sm (xF g i) (gN g * gN g)) i + sm (xF g i) j)]) (j_runV C (kX6_areLinked hg ok c d rfl rfl (by omega) (by omega)) gX6_crossings_X6_areLinked sgX6_areLinked rfl ⟨by decide, by decide⟩ (by decide) (en_72 _ _) rfl rfl rfl (Nat.le_of_ble_eq_true rfl) dX6_crossings_124) (fun z_19 V_20 h_21 => ?_)
                      obtain ⟨rfl, rfl⟩ := h_21
                      refine j_ifb_eq (tgt := 149) C dX6_crossings_127 (by decide) (fun q_22 => ?_) (fun q_22 => ?_)
                      · refine j_iconst C dX6_crossings_149 ?_
                        refine j_iadd C dX6_crossings_150 ?_
                        refine j_istore_n (lv' := [(0, sr 72), (1, si (g 0)), (2, si ((sm (fun i => sm (xF g i) (gN g * gN g)) i + sm (xF g i) j) + 0)), (3, si (i : Int)), (4, si (j : Int)), (5, si (a : Int)), (6, si (b : Int)), (7, si (c : Int)), (8, si (d : Int)), (9, si 1)]) C dX6_crossings_151 (by decide) rfl ?_
                        refine j_iinc (lv' := [(0, sr 72), (1, si (g 0)), (2, si ((sm (fun i => sm (xF g i) (gN g * gN g)) i + sm (xF g i) j) + 0)), (3, si (i : Int)), (4, si ((j : Int) + 1)), (5, si (a : Int)), (6, si (b : Int)), (7, si (c : Int)), (8, si (d : Int)), (9, si 1)]) C dX6_crossings_152 rfl (by decide) rfl ?_
                        refine j_goto (tgt := 23) C dX6_crossings_155 (by decide) ?_
                        have e2 : (sm (fun i => sm (xF g i) (gN g * gN g)) i + sm (xF g i) (j + 1)) = ((sm (fun i => sm (xF g i) (gN g * gN g)) i + sm (xF g i) j) + 0) := by
                          refine xF_s hij ea eb ec ed _ ?_
                          unfold xR
                          simp_all [bI]
                          try omega
                        refine j_pick (lv' := [(0, sr 72), (1, si (g 0)), (2, si ((sm (fun i => sm (xF g i) (gN g * gN g)) i + sm (xF g i) j) + 0)), (3, si (i : Int)), (4, si ((j : Int) + 1))]) [0, 1, 2, 3, 4] rfl ?_
                        refine j_lv (lv' := [(0, sr 72), (1, si (g 0)), (2, si (sm (fun i => sm (xF g i) (gN g * gN g)) i + sm (xF g i) (j + 1))), (3, si (i : Int)), (4, si ((j : Int) + 1))]) (by rw [e2]) ?_
                        exact ih (j + 1) (by omega) (by omega) (by omega)
                      · refine j_aload_n C dX6_crossings_130 rfl ?_
                        refine j_iload C dX6_crossings_131 rfl ?_
                        refine j_iload C dX6_crossings_133 rfl ?_
                        refine j_iload C dX6_crossings_135 rfl ?_
                        refine j_iload C dX6_crossings_137 rfl ?_
                        refine j_doI (st := [si (sm (fun i => sm (xF g i) (gN g * gN g)) i + sm (xF g i) j)]) (j_runV C (kX6_doMeet hg ok a b c d rfl rfl rfl rfl (by omega) (by omega) (by omega) (by omega)) gX6_crossings_X6_doMeet sgX6_doMeet rfl ⟨by decide, by decide⟩ (by decide) (en_72 _ _) rfl rfl rfl (Nat.le_of_ble_eq_true rfl) dX6_crossings_139) (fun z_23 V_24 h_25 => ?_)
                        obtain ⟨rfl, rfl⟩ := h_25
                        refine j_ifb_eq (tgt := 149) C dX6_crossings_142 (by decide) (fun q_26 => ?_) (fun q_26 => ?_)
                        · refine j_iconst C dX6_crossings_149 ?_
                          refine j_iadd C dX6_crossings_150 ?_
                          refine j_istore_n (lv' := [(0, sr 72), (1, si (g 0)), (2, si ((sm (fun i => sm (xF g i) (gN g * gN g)) i + sm (xF g i) j) + 0)), (3, si (i : Int)), (4, si (j : Int)), (5, si (a : Int)), (6, si (b : Int)), (7, si (c : Int)), (8, si (d : Int)), (9, si 1)]) C dX6_crossings_151 (by decide) rfl ?_
                          refine j_iinc (lv' := [(0, sr 72), (1, si (g 0)), (2, si ((sm (fun i => sm (xF g i) (gN g * gN g)) i + sm (xF g i) j) + 0)), (3, si (i : Int)), (4, si ((j : Int) + 1)), (5, si (a : Int)), (6, si (b : Int)), (7, si (c : Int)), (8, si (d : Int)), (9, si 1)]) C dX6_crossings_152 rfl (by decide) rfl ?_
                          refine j_goto (tgt := 23) C dX6_crossings_155 (by decide) ?_
                          have e2 : (sm (fun i => sm (xF g i) (gN g * gN g)) i + sm (xF g i) (j + 1)) = ((sm (fun i => sm (xF g i) (gN g * gN g)) i + sm (xF g i) j) + 0) := by
                            refine xF_s hij ea eb ec ed _ ?_
                            unfold xR
                            simp_all [bI]
                            try omega
                          refine j_pick (lv' := [(0, sr 72), (1, si (g 0)), (2, si ((sm (fun i => sm (xF g i) (gN g * gN g)) i + sm (xF g i) j) + 0)), (3, si (i : Int)), (4, si ((j : Int) + 1))]) [0, 1, 2, 3, 4] rfl ?_
                          refine j_lv (lv' := [(0, sr 72), (1, si (g 0)), (2, si (sm (fun i => sm (xF g i) (gN g * gN g)) i + sm (xF g i) (j + 1))), (3, si (i : Int)), (4, si ((j : Int) + 1))]) (by rw [e2]) ?_
                          exact ih (j + 1) (by omega) (by omega) (by omega)
                        · refine j_iconst C dX6_crossings_145 ?_
                          refine j_goto (tgt := 150) C dX6_crossings_146 (by decide) ?_
                          refine j_iadd C dX6_crossings_150 ?_
                          refine j_istore_n (lv' := [(0, sr 72), (1, si (g 0)), (2, si ((sm (fun i => sm (xF g i) (gN g * gN g)) i + sm (xF g i) j) + 1)), (3, si (i : Int)), (4, si (j : Int)), (5, si (a : Int)), (6, si (b : Int)), (7, si (c : Int)), (8, si (d : Int)), (9, si 1)]) C dX6_crossings_151 (by decide) rfl ?_
                          refine j_iinc (lv' := [(0, sr 72), (1, si (g 0)), (2, si ((sm (fun i => sm (xF g i) (gN g * gN g)) i + sm (xF g i) j) + 1)), (3, si (i : Int)), (4, si ((j : Int) + 1)), (5, si (a : Int)), (6, si (b : Int)), (7, si (c : Int)), (8, si (d : Int)), (9, si 1)]) C dX6_crossings_152 rfl (by decide) rfl ?_
                          refine j_goto (tgt := 23) C dX6_crossings_155 (by decide) ?_
                          have e2 : (sm (fun i => sm (xF g i) (gN g * gN g)) i + sm (xF g i) (j + 1)) = ((sm (fun i => sm (xF g i) (gN g * gN g)) i + sm (xF g i) j) + 1) := by
                            refine xF_s hij ea eb ec ed _ ?_
                            unfold xR
                            simp_all [bI]
                            try omega
                          refine j_pick (lv' := [(0, sr 72), (1, si (g 0)), (2, si ((sm (fun i => sm (xF g i) (gN g * gN g)) i + sm (xF g i) j) + 1)), (3, si (i : Int)), (4, si ((j : Int) + 1))]) [0, 1, 2, 3, 4] rfl ?_
                          refine j_lv (lv' := [(0, sr 72), (1, si (g 0)), (2, si (sm (fun i => sm (xF g i) (gN g * gN g)) i + sm (xF g i) (j + 1))), (3, si (i : Int)), (4, si ((j : Int) + 1))]) (by rw [e2]) ?_
                          exact ih (j + 1) (by omega) (by omega) (by omega)
set_option maxHeartbeats 4000000 in
set_option maxRecDepth 100000 in
theorem lpX6_cross {O : OmT} {F : PhT} {V : Mem} {g : Nat → Int} (C : cx O F RX6 cX6_crossings 10 (some .int) wsX6_crossings) {post : Int → Mem → Prop} (hQ : qI O F post) (hg : mdl V g) (ok : okg g) (hpo : post (sm (fun i => sm (xF g i) (gN g * gN g)) (gN g * gN g)) V) : ∀ (fuel : Nat) (i : Nat), (i ≤ gN g * gN g) → gN g * gN g - i < fuel → J O F rX6_crossings 10 V 11 [(0, sr 72), (1, si (g 0)), (2, si (sm (fun i => sm (xF g i) (gN g * gN g)) i)), (3, si (i : Int))] [] := by
  intro fuel
  induction fuel with
  | zero => intro i hw hf; exact absurd hf (Nat.not_lt_zero _)
  | succ fuel ih =>
    intro i hw hf
    have n1 := ok.n
    have sq : g 0 * g 0 = ((gN g * gN g : Nat) : Int) := by rw [n1.1]; exact (Int.natCast_mul _ _).symm
    have s100 : gN g * gN g ≤ 100 := Nat.mul_le_mul n1.2 n1.2
    refine j_iload_n C dX6_crossings_11 rfl ?_
    refine j_iload_n C dX6_crossings_12 rfl ?_
    refine j_iload_n C dX6_crossings_13 rfl ?_
    refine j_imul C dX6_crossings_14 ?_
    refine j_icmp_ge (tgt := 164) C dX6_crossings_15 (by decide) (by omega) (by omega) (fun q_1 => ?_) (fun q_1 => ?_)
    · refine j_iload_n C dX6_crossings_164 rfl ?_
      refine j_iret C hQ dX6_crossings_165 ?_
      have e : i = gN g * gN g := by omega
      rw [← e] at hpo; rw [e] at hpo ⊢; exact hpo
    · refine j_iload_n C dX6_crossings_18 rfl ?_
      refine j_iconst C dX6_crossings_19 ?_
      refine j_iadd C dX6_crossings_20 ?_
      refine j_istore (lv' := [(0, sr 72), (1, si (g 0)), (2, si (sm (fun i => sm (xF g i) (gN g * gN g)) i)), (3, si (i : Int)), (4, si ((i : Int) + 1))]) C dX6_crossings_21 (by decide) rfl ?_
      refine j_lv (lv' := [(0, sr 72), (1, si (g 0)), (2, si (sm (fun i => sm (xF g i) (gN g * gN g)) i + sm (xF g i) (i + 1))), (3, si (i : Int)), (4, si ((i + 1 : Nat) : Int))]) (by rw [xF_0, Int.add_zero]; rfl) ?_
      refine lpX6_cross2 C hg ok (by omega) ?_ _ (i + 1) (by omega) (by omega) (Nat.lt_succ_self _)
      refine j_iinc (lv' := [(0, sr 72), (1, si (g 0)), (2, si (sm (fun i => sm (xF g i) (gN g * gN g)) i + sm (xF g i) (gN g * gN g))), (3, si ((i : Int) + 1)), (4, si ((gN g * gN g : Nat) : Int))]) C dX6_crossings_158 rfl (by decide) rfl ?_
      refine j_goto (tgt := 11) C dX6_crossings_161 (by decide) ?_
      have e2 : (sm (fun i => sm (xF g i) (gN g * gN g)) (i + 1)) = (sm (fun i => sm (xF g i) (gN g * gN g)) i + sm (xF g i) (gN g * gN g)) := by
        rfl
      refine j_pick (lv' := [(0, sr 72), (1, si (g 0)), (2, si (sm (fun i => sm (xF g i) (gN g * gN g)) i + sm (xF g i) (gN g * gN g))), (3, si ((i : Int) + 1))]) [0, 1, 2, 3] rfl ?_
      refine j_lv (lv' := [(0, sr 72), (1, si (g 0)), (2, si (sm (fun i => sm (xF g i) (gN g * gN g)) (i + 1))), (3, si ((i : Int) + 1))]) (by rw [e2]) ?_
      exact ih (i + 1) (by omega) (by omega)
set_option maxHeartbeats 4000000 in
set_option maxRecDepth 100000 in
theorem kX6_crossings {O : OmT} {l : Launch} {V : Mem} {g : Nat → Int} (hg : mdl V g) (ok : okg g) : MI O l yX6_crossings wsX6_crossings rX6_crossings [sr 72] V (fun z V2 => V = V2 ∧ z = sm (fun i => sm (xF g i) (gN g * gN g)) (gN g * gN g)) := by
  refine mi_of (cc := cX6_crossings) (nL := 10) (rt := (some .int)) (by decide) rfl rfl (Nat.le_of_ble_eq_true rfl) (fun F hF C hQ => ?_)
  subst hF
  change J O F rX6_crossings 10 V 0 [(0, sr 72)] []
  refine j_aload_n C dX6_crossings_0 rfl ?_
  refine j_get (v := sr 73) C 72 0 (by decide) (en_72 _ _) rfl (by decide) (fun w h => List.mem_cons_of_mem _ (List.mem_append_right _ h)) (List.mem_of_getElem? (i := 1) rfl) dX6_crossings_1 rfl ?_
  refine j_iconst C dX6_crossings_4 ?_
  refine j_iald C (row_73 O) 0 rfl (by decide) dX6_crossings_5 ?_
  refine j_top (hg 0 (by omega)) ?_
  refine j_istore_n (lv' := [(0, sr 72), (1, si (g 0))]) C dX6_crossings_6 (by decide) rfl ?_
  refine j_iconst C dX6_crossings_7 ?_
  refine j_istore_n (lv' := [(0, sr 72), (1, si (g 0)), (2, si 0)]) C dX6_crossings_8 (by decide) rfl ?_
  refine j_iconst C dX6_crossings_9 ?_
  refine j_istore_n (lv' := [(0, sr 72), (1, si (g 0)), (2, si 0), (3, si 0)]) C dX6_crossings_10 (by decide) rfl ?_
  exact lpX6_cross C hQ hg ok ⟨rfl, rfl⟩ _ 0 (Nat.zero_le _) (Nat.lt_succ_self _)
def rX3_spansMeet : Room := { frames := 1, cells := 0, slots := 0, locals := 21 }
theorem sgX3_spansMeet : sg yX3_spansMeet wsX3_spansMeet cX3_spansMeet 5 (some .boolean) rX3_spansMeet 5 := ⟨⟨_, rfl⟩, rfl, rfl, by decide, by decide, by decide +kernel⟩
set_option maxHeartbeats 4000000 in
set_option maxRecDepth 100000 in
theorem kX3_spansMeet {O : OmT} {l : Launch} {V : Mem} {c : Nat} {f : Nat → Int} (hc : rowI O c 10) (hx : ∀ i, i < 10 → V c i = f i) (hf : ∀ i, i < 10 → 0 ≤ f i ∧ f i ≤ 63) {za : Int} {zb : Int} {zp : Int} {zq : Int} (a b p q : Nat) (ea : za = (a : Int)) (eb : zb = (b : Int)) (ep : zp = (p : Int)) (eq : zq = (q : Int)) (ha : a < 10) (hb : b < 10) (hp : p < 10) (hq : q < 10) : MI O l yX3_spansMeet wsX3_spansMeet rX3_spansMeet [sr c, si za, si zb, si zp, si zq] V (fun z V2 => V = V2 ∧ z = bI (spb (f a) (f b) (f p) (f q))) := by
  refine mi_of (cc := cX3_spansMeet) (nL := 5) (rt := (some .boolean)) (by decide) rfl rfl (Nat.le_of_ble_eq_true rfl) (fun F hF C hQ => ?_)
  subst hF
  subst ea eb ep eq
  change J O F rX3_spansMeet 5 V 0 [(0, sr c), (1, si (a : Int)), (2, si (b : Int)), (3, si (p : Int)), (4, si (q : Int))] []
  refine j_aload_n C dX3_spansMeet_0 rfl ?_
  refine j_iload_n C dX3_spansMeet_1 rfl ?_
  refine j_iald C hc a rfl (by omega) dX3_spansMeet_2 ?_
  refine j_top (hx a (by omega)) ?_
  refine j_aload_n C dX3_spansMeet_3 rfl ?_
  refine j_iload_n C dX3_spansMeet_4 rfl ?_
  refine j_iald C hc b rfl (by omega) dX3_spansMeet_5 ?_
  refine j_top (hx b (by omega)) ?_
  refine j_mmax C (List.mem_of_getElem? (i := 1) rfl) (List.mem_of_getElem? (i := 2) rfl) (List.mem_of_getElem? (i := 3) rfl) (List.mem_of_getElem? (i := 4) rfl) ⟨by decide, by decide⟩ (Nat.le_of_ble_eq_true rfl) (by have := hf a ha; have := hf b hb; have := hf p hp; have := hf q hq; (try unfold mnZ); (try unfold mxZ); (repeat (first | omega | split))) (by have := hf a ha; have := hf b hb; have := hf p hp; have := hf q hq; (try unfold mnZ); (try unfold mxZ); (repeat (first | omega | split))) dX3_spansMeet_6 ?_
  refine j_aload_n C dX3_spansMeet_9 rfl ?_
  refine j_iload_n C dX3_spansMeet_10 rfl ?_
  refine j_iald C hc p rfl (by omega) dX3_spansMeet_11 ?_
  refine j_top (hx p (by omega)) ?_
  refine j_aload_n C dX3_spansMeet_12 rfl ?_
  refine j_iload C dX3_spansMeet_13 rfl ?_
  refine j_iald C hc q rfl (by omega) dX3_spansMeet_15 ?_
  refine j_top (hx q (by omega)) ?_
  refine j_mmin C (List.mem_of_getElem? (i := 5) rfl) (List.mem_of_getElem? (i := 6) rfl) (List.mem_of_getElem? (i := 3) rfl) (List.mem_of_getElem? (i := 7) rfl) ⟨by decide, by decide⟩ (Nat.le_of_ble_eq_true rfl) (by have := hf a ha; have := hf b hb; have := hf p hp; have := hf q hq; (try unfold mnZ); (try unfold mxZ); (repeat (first | omega | split))) (by have := hf a ha; have := hf b hb; have := hf p hp; have := hf q hq; (try unfold mnZ); (try unfold mxZ); (repeat (first | omega | split))) dX3_spansMeet_16 ?_
  refine j_icmp_lt (tgt := 48) C dX3_spansMeet_19 (by decide) (by have := hf a ha; have := hf b hb; have := hf p hp; have := hf q hq; (try unfold mnZ); (try unfold mxZ); (repeat (first | omega | split))) (by have := hf a ha; have := hf b hb; have := hf p hp; have := hf q hq; (try unfold mnZ); (try unfold mxZ); (repeat (first | omega | split))) (fun q_1 => ?_) (fun q_1 => ?_)
  · refine j_iconst C dX3_spansMeet_48 ?_
    refine j_zret C hQ (by decide) dX3_spansMeet_49 ?_
    refine ⟨rfl, ?_⟩
    unfold spb
    simp_all [bI]
    try omega
  · refine j_aload_n C dX3_spansMeet_22 rfl ?_
    refine j_iload_n C dX3_spansMeet_23 rfl ?_
    refine j_iald C hc p rfl (by omega) dX3_spansMeet_24 ?_
    refine j_top (hx p (by omega)) ?_
    refine j_aload_n C dX3_spansMeet_25 rfl ?_
    refine j_iload C dX3_spansMeet_26 rfl ?_
    refine j_iald C hc q rfl (by omega) dX3_spansMeet_28 ?_
    refine j_top (hx q (by omega)) ?_
    refine j_mmax C (List.mem_of_getElem? (i := 1) rfl) (List.mem_of_getElem? (i := 2) rfl) (List.mem_of_getElem? (i := 3) rfl) (List.mem_of_getElem? (i := 4) rfl) ⟨by decide, by decide⟩ (Nat.le_of_ble_eq_true rfl) (by have := hf a ha; have := hf b hb; have := hf p hp; have := hf q hq; (try unfold mnZ); (try unfold mxZ); (repeat (first | omega | split))) (by have := hf a ha; have := hf b hb; have := hf p hp; have := hf q hq; (try unfold mnZ); (try unfold mxZ); (repeat (first | omega | split))) dX3_spansMeet_29 ?_
    refine j_aload_n C dX3_spansMeet_32 rfl ?_
    refine j_iload_n C dX3_spansMeet_33 rfl ?_
    refine j_iald C hc a rfl (by omega) dX3_spansMeet_34 ?_
    refine j_top (hx a (by omega)) ?_
    refine j_aload_n C dX3_spansMeet_35 rfl ?_
    refine j_iload_n C dX3_spansMeet_36 rfl ?_
    refine j_iald C hc b rfl (by omega) dX3_spansMeet_37 ?_
    refine j_top (hx b (by omega)) ?_
    refine j_mmin C (List.mem_of_getElem? (i := 5) rfl) (List.mem_of_getElem? (i := 6) rfl) (List.mem_of_getElem? (i := 3) rfl) (List.mem_of_getElem? (i := 7) rfl) ⟨by decide, by decide⟩ (Nat.le_of_ble_eq_true rfl) (by have := hf a ha; have := hf b hb; have := hf p hp; have := hf q hq; (try unfold mnZ); (try unfold mxZ); (repeat (first | omega | split))) (by have := hf a ha; have := hf b hb; have := hf p hp; have := hf q hq; (try unfold mnZ); (try unfold mxZ); (repeat (first | omega | split))) dX3_spansMeet_38 ?_
    refine j_icmp_lt (tgt := 48) C dX3_spansMeet_41 (by decide) (by have := hf a ha; have := hf b hb; have := hf p hp; have := hf q hq; (try unfold mnZ); (try unfold mxZ); (repeat (first | omega | split))) (by have := hf a ha; have := hf b hb; have := hf p hp; have := hf q hq; (try unfold mnZ); (try unfold mxZ); (repeat (first | omega | split))) (fun q_2 => ?_) (fun q_2 => ?_)
    · refine j_iconst C dX3_spansMeet_48 ?_
      refine j_zret C hQ (by decide) dX3_spansMeet_49 ?_
      refine ⟨rfl, ?_⟩
      unfold spb
      simp_all [bI]
      try omega
    · refine j_iconst C dX3_spansMeet_44 ?_
      refine j_goto (tgt := 49) C dX3_spansMeet_45 (by decide) ?_
      refine j_zret C hQ (by decide) dX3_spansMeet_49 ?_
      refine ⟨rfl, ?_⟩
      unfold spb
      simp_all [bI]
      try omega
def rX3_areParted : Room := { frames := 1, cells := 0, slots := 0, locals := 23 }
theorem sgX3_areParted : sg yX3_areParted wsX3_areParted cX3_areParted 7 (some .boolean) rX3_areParted 4 := ⟨⟨_, rfl⟩, rfl, rfl, by decide, by decide, by decide +kernel⟩
set_option maxHeartbeats 4000000 in
set_option maxRecDepth 100000 in
theorem kX3_areParted {O : OmT} {l : Launch} {V : Mem} {g : Nat → Int} (hkk : cls V g) (ok : okg g) {za : Int} {zb : Int} {zc : Int} {zd : Int} (a b c d : Nat) (ea : za = (a : Int)) (eb : zb = (b : Int)) (ec : zc = (c : Int)) (ed : zd = (d : Int)) (ha : a < 10) (hb : b < 10) (hc : c < 10) (hd : d < 10) : MI O l yX3_areParted wsX3_areParted rX3_areParted [sr 4, si za, si zb, si zc, si zd] V (fun z V2 => V = V2 ∧ z = bI (ptb (gS g a b c) (gS g a b d))) := by
  refine mi_of (cc := cX3_areParted) (nL := 7) (rt := (some .boolean)) (by decide) rfl rfl (Nat.le_of_ble_eq_true rfl) (fun F hF C hQ => ?_)
  subst hF
  subst ea eb ec ed
  change J O F rX3_areParted 7 V 0 [(0, sr 4), (1, si (a : Int)), (2, si (b : Int)), (3, si (c : Int)), (4, si (d : Int))] []
  refine j_aload_n C dX3_areParted_0 rfl ?_
  refine j_get (v := sr 1) C 4 0 (by decide) (en_4 _ _) rfl (by decide) (fun w h => List.mem_cons_of_mem _ (List.mem_append_left _ (List.mem_append_right _ h))) (List.mem_of_getElem? (i := 1) rfl) dX3_areParted_1 rfl ?_
  refine j_iload_n C dX3_areParted_4 rfl ?_
  refine j_iload_n C dX3_areParted_5 rfl ?_
  refine j_iload_n C dX3_areParted_6 rfl ?_
  refine j_doI (st := []) (j_runVN C (kX1_sideOf hkk a b c rfl rfl rfl (by omega) (by omega) (by omega)) ggX3_areParted_X1_sideOf sgX1_sideOf rfl (List.mem_of_getElem? (i := 9) rfl) (List.mem_of_getElem? (i := 3) rfl) (List.mem_of_getElem? (i := 2) rfl) (List.mem_of_getElem? (i := 4) rfl) ⟨by decide, by decide⟩ (by decide) (en_G (c := 1) (by decide) _) rfl rfl rfl (Nat.le_of_ble_eq_true rfl) dX3_areParted_7) (fun z_1 V_2 h_3 => ?_)
  obtain ⟨rfl, rfl⟩ := h_3
  refine j_istore (lv' := [(0, sr 4), (1, si (a : Int)), (2, si (b : Int)), (3, si (c : Int)), (4, si (d : Int)), (5, si (gS g a b c))]) C dX3_areParted_10 (by decide) rfl ?_
  refine j_aload_n C dX3_areParted_12 rfl ?_
  refine j_get (v := sr 1) C 4 0 (by decide) (en_4 _ _) rfl (by decide) (fun w h => List.mem_cons_of_mem _ (List.mem_append_left _ (List.mem_append_right _ h))) (List.mem_of_getElem? (i := 1) rfl) dX3_areParted_13 rfl ?_
  refine j_iload_n C dX3_areParted_16 rfl ?_
  refine j_iload_n C dX3_areParted_17 rfl ?_
  refine j_iload C dX3_areParted_18 rfl ?_
  refine j_doI (st := []) (j_runVN C (kX1_sideOf hkk a b d rfl rfl rfl (by omega) (by omega) (by omega)) ggX3_areParted_X1_sideOf sgX1_sideOf rfl (List.mem_of_getElem? (i := 9) rfl) (List.mem_of_getElem? (i := 3) rfl) (List.mem_of_getElem? (i := 2) rfl) (List.mem_of_getElem? (i := 4) rfl) ⟨by decide, by decide⟩ (by decide) (en_G (c := 1) (by decide) _) rfl rfl rfl (Nat.le_of_ble_eq_true rfl) dX3_areParted_20) (fun z_4 V_5 h_6 => ?_)
  obtain ⟨rfl, rfl⟩ := h_6
  refine j_istore (lv' := [(0, sr 4), (1, si (a : Int)), (2, si (b : Int)), (3, si (c : Int)), (4, si (d : Int)), (5, si (gS g a b c)), (6, si (gS g a b d))]) C dX3_areParted_23 (by decide) rfl ?_
  refine j_iload C dX3_areParted_25 rfl ?_
  refine j_if_gt (tgt := 35) C dX3_areParted_27 (by decide) (by have := ok.s (a := a) (b := b) (c := c) (by omega) (by omega) (by omega); omega) (fun q_7 => ?_) (fun q_7 => ?_)
  · refine j_iload C dX3_areParted_35 rfl ?_
    refine j_if_lt (tgt := 49) C dX3_areParted_37 (by decide) (by have := ok.s (a := a) (b := b) (c := c) (by omega) (by omega) (by omega); omega) (fun q_8 => ?_) (fun q_8 => ?_)
    · refine j_iconst C dX3_areParted_49 ?_
      refine j_zret C hQ (by decide) dX3_areParted_50 ?_
      refine ⟨rfl, ?_⟩
      unfold ptb
      simp_all [bI]
      try omega
    · refine j_iload C dX3_areParted_40 rfl ?_
      refine j_if_gt (tgt := 49) C dX3_areParted_42 (by decide) (by have := ok.s (a := a) (b := b) (c := d) (by omega) (by omega) (by omega); omega) (fun q_9 => ?_) (fun q_9 => ?_)
      · refine j_iconst C dX3_areParted_49 ?_
        refine j_zret C hQ (by decide) dX3_areParted_50 ?_
        refine ⟨rfl, ?_⟩
        unfold ptb
        simp_all [bI]
        try omega
      · refine j_iconst C dX3_areParted_45 ?_
        refine j_goto (tgt := 50) C dX3_areParted_46 (by decide) ?_
        refine j_zret C hQ (by decide) dX3_areParted_50 ?_
        refine ⟨rfl, ?_⟩
        unfold ptb
        simp_all [bI]
        try omega
  · refine j_iload C dX3_areParted_30 rfl ?_
    refine j_if_ge (tgt := 45) C dX3_areParted_32 (by decide) (by have := ok.s (a := a) (b := b) (c := d) (by omega) (by omega) (by omega); omega) (fun q_10 => ?_) (fun q_10 => ?_)
    · refine j_iconst C dX3_areParted_45 ?_
      refine j_goto (tgt := 50) C dX3_areParted_46 (by decide) ?_
      refine j_zret C hQ (by decide) dX3_areParted_50 ?_
      refine ⟨rfl, ?_⟩
      unfold ptb
      simp_all [bI]
      try omega
    · refine j_iload C dX3_areParted_35 rfl ?_
      refine j_if_lt (tgt := 49) C dX3_areParted_37 (by decide) (by have := ok.s (a := a) (b := b) (c := c) (by omega) (by omega) (by omega); omega) (fun q_11 => ?_) (fun q_11 => ?_)
      · refine j_iconst C dX3_areParted_49 ?_
        refine j_zret C hQ (by decide) dX3_areParted_50 ?_
        refine ⟨rfl, ?_⟩
        unfold ptb
        simp_all [bI]
        try omega
      · refine j_iload C dX3_areParted_40 rfl ?_
        refine j_if_gt (tgt := 49) C dX3_areParted_42 (by decide) (by have := ok.s (a := a) (b := b) (c := d) (by omega) (by omega) (by omega); omega) (fun q_12 => ?_) (fun q_12 => ?_)
        · refine j_iconst C dX3_areParted_49 ?_
          refine j_zret C hQ (by decide) dX3_areParted_50 ?_
          refine ⟨rfl, ?_⟩
          unfold ptb
          simp_all [bI]
          try omega
        · refine j_iconst C dX3_areParted_45 ?_
          refine j_goto (tgt := 50) C dX3_areParted_46 (by decide) ?_
          refine j_zret C hQ (by decide) dX3_areParted_50 ?_
          refine ⟨rfl, ?_⟩
          unfold ptb
          simp_all [bI]
          try omega
def rX3_meet : Room := { frames := 2, cells := 0, slots := 0, locals := 49 }
theorem sgX3_meet : sg yX3_meet wsX3_meet cX3_meet 5 (some .boolean) rX3_meet 4 := ⟨⟨_, rfl⟩, rfl, rfl, by decide, by decide, by decide +kernel⟩
set_option maxHeartbeats 4000000 in
set_option maxRecDepth 100000 in
theorem kX3_meet {O : OmT} {l : Launch} {V : Mem} {g : Nat → Int} (hkk : cls V g) (ok : okg g) {za : Int} {zb : Int} {zc : Int} {zd : Int} (a b c d : Nat) (ea : za = (a : Int)) (eb : zb = (b : Int)) (ec : zc = (c : Int)) (ed : zd = (d : Int)) (ha : a < 10) (hb : b < 10) (hc : c < 10) (hd : d < 10) : MI O l yX3_meet wsX3_meet rX3_meet [sr 4, si za, si zb, si zc, si zd] V (fun z V2 => V = V2 ∧ z = bI (gMt g a b c d)) := by
  refine mi_of (cc := cX3_meet) (nL := 5) (rt := (some .boolean)) (by decide) rfl rfl (Nat.le_of_ble_eq_true rfl) (fun F hF C hQ => ?_)
  subst hF
  subst ea eb ec ed
  change J O F rX3_meet 5 V 0 [(0, sr 4), (1, si (a : Int)), (2, si (b : Int)), (3, si (c : Int)), (4, si (d : Int))] []
  refine j_aload_n C dX3_meet_0 rfl ?_
  refine j_get (v := sr 1) C 4 0 (by decide) (en_4 _ _) rfl (by decide) (fun w h => List.mem_cons_of_mem _ (List.mem_append_left _ (List.mem_append_right _ h))) (List.mem_of_getElem? (i := 1) rfl) dX3_meet_1 rfl ?_
  refine j_getN (v := sr 2) C 1 0 (by decide) (en_G (c := 1) (by decide) _) rfl (by decide) (fun w h => List.mem_cons_of_mem _ (List.mem_append_right _ h)) (List.mem_of_getElem? (i := 2) rfl) dX3_meet_4 rfl ?_
  refine j_iload_n C dX3_meet_7 rfl ?_
  refine j_iload_n C dX3_meet_8 rfl ?_
  refine j_iload_n C dX3_meet_9 rfl ?_
  refine j_iload C dX3_meet_10 rfl ?_
  refine j_doI (st := []) (j_runS C (kX3_spansMeet (f := fun i => g (4 + i)) (row_2 O) hkk.2.2.2.2.1 (fun i hi => ok.x hi) a b c d rfl rfl rfl rfl (by omega) (by omega) (by omega) (by omega)) ggX3_meet_X3_spansMeet sgX3_spansMeet (List.mem_of_getElem? (i := 2) rfl) (List.mem_of_getElem? (i := 4) rfl) (List.mem_of_getElem? (i := 3) rfl) ⟨by decide, by decide⟩ rfl rfl (Nat.le_of_ble_eq_true rfl) dX3_meet_12) (fun z_1 V_2 h_3 => ?_)
  obtain ⟨rfl, rfl⟩ := h_3
  refine j_ifb_eq (tgt := 64) C dX3_meet_15 (by decide) (fun q_4 => ?_) (fun q_4 => ?_)
  · refine j_iconst C dX3_meet_64 ?_
    refine j_zret C hQ (by decide) dX3_meet_65 ?_
    refine ⟨rfl, ?_⟩
    unfold gMt
    simp_all [bI]
  · refine j_aload_n C dX3_meet_18 rfl ?_
    refine j_get (v := sr 1) C 4 0 (by decide) (en_4 _ _) rfl (by decide) (fun w h => List.mem_cons_of_mem _ (List.mem_append_left _ (List.mem_append_right _ h))) (List.mem_of_getElem? (i := 1) rfl) dX3_meet_19 rfl ?_
    refine j_getN (v := sr 3) C 1 1 (by decide) (en_G (c := 1) (by decide) _) rfl (by decide) (fun w h => List.mem_cons_of_mem _ (List.mem_append_right _ h)) (List.mem_of_getElem? (i := 5) rfl) dX3_meet_22 rfl ?_
    refine j_iload_n C dX3_meet_25 rfl ?_
    refine j_iload_n C dX3_meet_26 rfl ?_
    refine j_iload_n C dX3_meet_27 rfl ?_
    refine j_iload C dX3_meet_28 rfl ?_
    refine j_doI (st := []) (j_runS C (kX3_spansMeet (f := fun i => g (14 + i)) (row_3 O) hkk.2.2.2.2.2 (fun i hi => ok.y hi) a b c d rfl rfl rfl rfl (by omega) (by omega) (by omega) (by omega)) ggX3_meet_X3_spansMeet sgX3_spansMeet (List.mem_of_getElem? (i := 2) rfl) (List.mem_of_getElem? (i := 4) rfl) (List.mem_of_getElem? (i := 3) rfl) ⟨by decide, by decide⟩ rfl rfl (Nat.le_of_ble_eq_true rfl) dX3_meet_30) (fun z_5 V_6 h_7 => ?_)
    obtain ⟨rfl, rfl⟩ := h_7
    refine j_ifb_eq (tgt := 64) C dX3_meet_33 (by decide) (fun q_8 => ?_) (fun q_8 => ?_)
    · refine j_iconst C dX3_meet_64 ?_
      refine j_zret C hQ (by decide) dX3_meet_65 ?_
      refine ⟨rfl, ?_⟩
      unfold gMt
      simp_all [bI]
    · refine j_aload_n C dX3_meet_36 rfl ?_
      refine j_iload_n C dX3_meet_37 rfl ?_
      refine j_iload_n C dX3_meet_38 rfl ?_
      refine j_iload_n C dX3_meet_39 rfl ?_
      refine j_iload C dX3_meet_40 rfl ?_
      refine j_doI (st := []) (j_runV C (kX3_areParted hkk ok a b c d rfl rfl rfl rfl (by omega) (by omega) (by omega) (by omega)) gX3_meet_X3_areParted sgX3_areParted rfl ⟨by decide, by decide⟩ (by decide) (en_4 _ _) rfl rfl rfl (Nat.le_of_ble_eq_true rfl) dX3_meet_42) (fun z_9 V_10 h_11 => ?_)
      obtain ⟨rfl, rfl⟩ := h_11
      refine j_ifb_eq (tgt := 64) C dX3_meet_45 (by decide) (fun q_12 => ?_) (fun q_12 => ?_)
      · refine j_iconst C dX3_meet_64 ?_
        refine j_zret C hQ (by decide) dX3_meet_65 ?_
        refine ⟨rfl, ?_⟩
        unfold gMt
        simp_all [bI]
      · refine j_aload_n C dX3_meet_48 rfl ?_
        refine j_iload_n C dX3_meet_49 rfl ?_
        refine j_iload C dX3_meet_50 rfl ?_
        refine j_iload_n C dX3_meet_52 rfl ?_
        refine j_iload_n C dX3_meet_53 rfl ?_
        refine j_doI (st := []) (j_runV C (kX3_areParted hkk ok c d a b rfl rfl rfl rfl (by omega) (by omega) (by omega) (by omega)) gX3_meet_X3_areParted sgX3_areParted rfl ⟨by decide, by decide⟩ (by decide) (en_4 _ _) rfl rfl rfl (Nat.le_of_ble_eq_true rfl) dX3_meet_54) (fun z_13 V_14 h_15 => ?_)
        obtain ⟨rfl, rfl⟩ := h_15
        refine j_ifb_eq (tgt := 64) C dX3_meet_57 (by decide) (fun q_16 => ?_) (fun q_16 => ?_)
        · refine j_iconst C dX3_meet_64 ?_
          refine j_zret C hQ (by decide) dX3_meet_65 ?_
          refine ⟨rfl, ?_⟩
          unfold gMt
          simp_all [bI]
        · refine j_iconst C dX3_meet_60 ?_
          refine j_goto (tgt := 65) C dX3_meet_61 (by decide) ?_
          refine j_zret C hQ (by decide) dX3_meet_65 ?_
          refine ⟨rfl, ?_⟩
          unfold gMt
          simp_all [bI]
def rX3_countCrossing : Room := { frames := 3, cells := 0, slots := 0, locals := 73 }
theorem sgX3_countCrossing : sg yX3_countCrossing wsX3_countCrossing cX3_countCrossing 6 (some .int) rX3_countCrossing 2 := ⟨⟨_, rfl⟩, rfl, rfl, by decide, by decide, by decide +kernel⟩
set_option maxHeartbeats 4000000 in
set_option maxRecDepth 100000 in
theorem lpX3_crossing2 {O : OmT} {F : PhT} {V : Mem} {g : Nat → Int} (C : cx O F RX3 cX3_countCrossing 6 (some .int) wsX3_countCrossing) (hn : net V g) (ok : okg g) {a b c : Nat} (ha : a < gN g) (hb : b < gN g) (hc : c < gN g) (kx : J O F rX3_countCrossing 6 V 86 [(0, sr 4), (1, si (a : Int)), (2, si (b : Int)), (3, si (sm (xD g a b) c + sm (fun d => bI (xC g a b c d)) (gN g))), (4, si (c : Int)), (5, si ((gN g : Nat) : Int))] []) : ∀ (fuel : Nat) (d : Nat), (d ≤ gN g) → (c < d) → gN g - d < fuel → J O F rX3_countCrossing 6 V 25 [(0, sr 4), (1, si (a : Int)), (2, si (b : Int)), (3, si (sm (xD g a b) c + sm (fun d => bI (xC g a b c d)) d)), (4, si (c : Int)), (5, si (d : Int))] [] := by
  intro fuel
  induction fuel with
  | zero => intro d hw hcd hf; exact absurd hf (Nat.not_lt_zero _)
  | succ fuel ih =>
    intro d hw hcd hf
    have n1 := ok.n
    refine j_iload C dX3_countCrossing_25 rfl ?_
    refine j_aload_n C dX3_countCrossing_27 rfl ?_
    refine j_get (v := sr 1) C 4 0 (by decide) (en_4 _ _) rfl (by decide) (fun w h => List.mem_cons_of_mem _ (List.mem_append_left _ (List.mem_append_right _ h))) (List.mem_of_getElem? (i := 1) rfl) dX3_countCrossing_28 rfl ?_
    refine j_getN (v := si (V 1 2)) C 1 2 (by decide) (en_G (c := 1) (by decide) _) rfl (by decide) (fun w h => List.mem_cons_of_mem _ (List.mem_append_right _ h)) (List.mem_of_getElem? (i := 6) rfl) dX3_countCrossing_31 rfl ?_
    refine j_top hn.1.1 ?_
    refine j_icmp_ge (tgt := 86) C dX3_countCrossing_34 (by decide) (by omega) (by have := ok.1; omega) (fun q_1 => ?_) (fun q_1 => ?_)
    · have e : d = gN g := by omega
      rw [e]
      exact kx
    · refine j_iload C dX3_countCrossing_37 rfl ?_
      refine j_iload_n C dX3_countCrossing_39 rfl ?_
      refine j_icmp_eq (tgt := 80) C dX3_countCrossing_40 (by decide) (by omega) (by omega) (fun q_2 => ?_) (fun q_2 => ?_)
      · refine j_iinc (lv' := [(0, sr 4), (1, si (a : Int)), (2, si (b : Int)), (3, si (sm (xD g a b) c + sm (fun d => bI (xC g a b c d)) d)), (4, si (c : Int)), (5, si ((d : Int) + 1))]) C dX3_countCrossing_80 rfl (by decide) rfl ?_
        refine j_goto (tgt := 25) C dX3_countCrossing_83 (by decide) ?_
        have e3 : (sm (xD g a b) c + sm (fun d => bI (xC g a b c d)) (d + 1)) = (sm (xD g a b) c + sm (fun d => bI (xC g a b c d)) d) := by
          first
            | (refine (xC_s _ (z := 1) ?_); unfold xC; have e1 : (c : Int) = (b : Int) ↔ c = b := Int.ofNat_inj; have e2 : (d : Int) = (b : Int) ↔ d = b := Int.ofNat_inj; simp_all [bI]; done)
            | (refine (xC_s _ (z := 0) ?_).trans (Int.add_zero _); unfold xC; have e1 : (c : Int) = (b : Int) ↔ c = b := Int.ofNat_inj; have e2 : (d : Int) = (b : Int) ↔ d = b := Int.ofNat_inj; simp_all [bI]; done)
        refine j_lv (lv' := [(0, sr 4), (1, si (a : Int)), (2, si (b : Int)), (3, si (sm (xD g a b) c + sm (fun d => bI (xC g a b c d)) (d + 1))), (4, si (c : Int)), (5, si ((d : Int) + 1))]) (by rw [e3]) ?_
        exact ih (d + 1) (by omega) (by omega) (by omega)
      · refine j_iload C dX3_countCrossing_43 rfl ?_
        refine j_iload_n C dX3_countCrossing_45 rfl ?_
        refine j_icmp_eq (tgt := 80) C dX3_countCrossing_46 (by decide) (by omega) (by omega) (fun q_3 => ?_) (fun q_3 => ?_)
        · refine j_iinc (lv' := [(0, sr 4), (1, si (a : Int)), (2, si (b : Int)), (3, si (sm (xD g a b) c + sm (fun d => bI (xC g a b c d)) d)), (4, si (c : Int)), (5, si ((d : Int) + 1))]) C dX3_countCrossing_80 rfl (by decide) rfl ?_
          refine j_goto (tgt := 25) C dX3_countCrossing_83 (by decide) ?_
          have e3 : (sm (xD g a b) c + sm (fun d => bI (xC g a b c d)) (d + 1)) = (sm (xD g a b) c + sm (fun d => bI (xC g a b c d)) d) := by
            first
              | (refine (xC_s _ (z := 1) ?_); unfold xC; have e1 : (c : Int) = (b : Int) ↔ c = b := Int.ofNat_inj; have e2 : (d : Int) = (b : Int) ↔ d = b := Int.ofNat_inj; simp_all [bI]; done)
              | (refine (xC_s _ (z := 0) ?_).trans (Int.add_zero _); unfold xC; have e1 : (c : Int) = (b : Int) ↔ c = b := Int.ofNat_inj; have e2 : (d : Int) = (b : Int) ↔ d = b := Int.ofNat_inj; simp_all [bI]; done)
          refine j_lv (lv' := [(0, sr 4), (1, si (a : Int)), (2, si (b : Int)), (3, si (sm (xD g a b) c + sm (fun d => bI (xC g a b c d)) (d + 1))), (4, si (c : Int)), (5, si ((d : Int) + 1))]) (by rw [e3]) ?_
          exact ih (d + 1) (by omega) (by omega) (by omega)
        · refine j_aload_n C dX3_countCrossing_49 rfl ?_
          refine j_get (v := sr 5) C 4 1 (by decide) (en_4 _ _) rfl (by decide) (fun w h => List.mem_cons_of_mem _ (List.mem_append_left _ (List.mem_append_right _ h))) (List.mem_of_getElem? (i := 2) rfl) dX3_countCrossing_50 rfl ?_
          refine j_iload C dX3_countCrossing_53 rfl ?_
          refine j_iald C (row_5 O) c rfl (by omega) dX3_countCrossing_55 ?_
          refine j_top (hn.2.1 c (by omega)) ?_
          refine j_iload C dX3_countCrossing_56 rfl ?_
          refine j_doI (st := []) (j_runSN C (kX5_holds (gLs g c (gN g)) d rfl rfl (by have := gLs_31 ok c; omega) (by omega)) ggX3_countCrossing_X5_holds sgX5_holds (List.mem_of_getElem? (i := 8) rfl) (List.mem_of_getElem? (i := 4) rfl) (List.mem_of_getElem? (i := 3) rfl) ⟨by decide, by decide⟩ rfl rfl (Nat.le_of_ble_eq_true rfl) dX3_countCrossing_58) (fun z_4 V_5 h_6 => ?_)
          obtain ⟨rfl, rfl⟩ := h_6
          refine j_top (b := bI (gL g c d)) (by rw [gLs_bit, decide_eq_true (show d < gN g by omega), Bool.true_and]) ?_
          refine j_ifb_eq (tgt := 80) C dX3_countCrossing_61 (by decide) (fun q_7 => ?_) (fun q_7 => ?_)
          · refine j_iinc (lv' := [(0, sr 4), (1, si (a : Int)), (2, si (b : Int)), (3, si (sm (xD g a b) c + sm (fun d => bI (xC g a b c d)) d)), (4, si (c : Int)), (5, si ((d : Int) + 1))]) C dX3_countCrossing_80 rfl (by decide) rfl ?_
            refine j_goto (tgt := 25) C dX3_countCrossing_83 (by decide) ?_
            have e3 : (sm (xD g a b) c + sm (fun d => bI (xC g a b c d)) (d + 1)) = (sm (xD g a b) c + sm (fun d => bI (xC g a b c d)) d) := by
              first
                | (refine (xC_s _ (z := 1) ?_); unfold xC; have e1 : (c : Int) = (b : Int) ↔ c = b := Int.ofNat_inj; have e2 : (d : Int) = (b : Int) ↔ d = b := Int.ofNat_inj; simp_all [bI]; done)
                | (refine (xC_s _ (z := 0) ?_).trans (Int.add_zero _); unfold xC; have e1 : (c : Int) = (b : Int) ↔ c = b := Int.ofNat_inj; have e2 : (d : Int) = (b : Int) ↔ d = b := Int.ofNat_inj; simp_all [bI]; done)
            refine j_lv (lv' := [(0, sr 4), (1, si (a : Int)), (2, si (b : Int)), (3, si (sm (xD g a b) c + sm (fun d => bI (xC g a b c d)) (d + 1))), (4, si (c : Int)), (5, si ((d : Int) + 1))]) (by rw [e3]) ?_
            exact ih (d + 1) (by omega) (by omega) (by omega)
          · refine j_aload_n C dX3_countCrossing_64 rfl ?_
            refine j_iload_n C dX3_countCrossing_65 rfl ?_
            refine j_iload_n C dX3_countCrossing_66 rfl ?_
            refine j_iload C dX3_countCrossing_67 rfl ?_
            refine j_iload C dX3_countCrossing_69 rfl ?_
            refine j_doI (st := []) (j_runV C (kX3_meet hn.1 ok a b c d rfl rfl rfl rfl (by omega) (by omega) (by omega) (by omega)) gX3_countCrossing_X3_meet sgX3_meet rfl ⟨by decide, by decide⟩ (by decide) (en_4 _ _) rfl rfl rfl (Nat.le_of_ble_eq_true rfl) dX3_countCrossing_71) (fun z_8 V_9 h_10 => ?_)
            obtain ⟨rfl, rfl⟩ := h_10
            refine j_ifb_eq (tgt := 80) C dX3_countCrossing_74 (by decide) (fun q_11 => ?_) (fun q_11 => ?_)
            · refine j_iinc (lv' := [(0, sr 4), (1, si (a : Int)), (2, si (b : Int)), (3, si (sm (xD g a b) c + sm (fun d => bI (xC g a b c d)) d)), (4, si (c : Int)), (5, si ((d : Int) + 1))]) C dX3_countCrossing_80 rfl (by decide) rfl ?_
              refine j_goto (tgt := 25) C dX3_countCrossing_83 (by decide) ?_
              have e3 : (sm (xD g a b) c + sm (fun d => bI (xC g a b c d)) (d + 1)) = (sm (xD g a b) c + sm (fun d => bI (xC g a b c d)) d) := by
                first
                  | (refine (xC_s _ (z := 1) ?_); unfold xC; have e1 : (c : Int) = (b : Int) ↔ c = b := Int.ofNat_inj; have e2 : (d : Int) = (b : Int) ↔ d = b := Int.ofNat_inj; simp_all [bI]; done)
                  | (refine (xC_s _ (z := 0) ?_).trans (Int.add_zero _); unfold xC; have e1 : (c : Int) = (b : Int) ↔ c = b := Int.ofNat_inj; have e2 : (d : Int) = (b : Int) ↔ d = b := Int.ofNat_inj; simp_all [bI]; done)
              refine j_lv (lv' := [(0, sr 4), (1, si (a : Int)), (2, si (b : Int)), (3, si (sm (xD g a b) c + sm (fun d => bI (xC g a b c d)) (d + 1))), (4, si (c : Int)), (5, si ((d : Int) + 1))]) (by rw [e3]) ?_
              exact ih (d + 1) (by omega) (by omega) (by omega)
            · refine j_iinc (lv' := [(0, sr 4), (1, si (a : Int)), (2, si (b : Int)), (3, si ((sm (xD g a b) c + sm (fun d => bI (xC g a b c d)) d) + 1)), (4, si (c : Int)), (5, si (d : Int))]) C dX3_countCrossing_77 rfl (by decide) rfl ?_
              refine j_iinc (lv' := [(0, sr 4), (1, si (a : Int)), (2, si (b : Int)), (3, si ((sm (xD g a b) c + sm (fun d => bI (xC g a b c d)) d) + 1)), (4, si (c : Int)), (5, si ((d : Int) + 1))]) C dX3_countCrossing_80 rfl (by decide) rfl ?_
              refine j_goto (tgt := 25) C dX3_countCrossing_83 (by decide) ?_
              have e3 : (sm (xD g a b) c + sm (fun d => bI (xC g a b c d)) (d + 1)) = ((sm (xD g a b) c + sm (fun d => bI (xC g a b c d)) d) + 1) := by
                first
                  | (refine (xC_s _ (z := 1) ?_); unfold xC; have e1 : (c : Int) = (b : Int) ↔ c = b := Int.ofNat_inj; have e2 : (d : Int) = (b : Int) ↔ d = b := Int.ofNat_inj; simp_all [bI]; done)
                  | (refine (xC_s _ (z := 0) ?_).trans (Int.add_zero _); unfold xC; have e1 : (c : Int) = (b : Int) ↔ c = b := Int.ofNat_inj; have e2 : (d : Int) = (b : Int) ↔ d = b := Int.ofNat_inj; simp_all [bI]; done)
              refine j_lv (lv' := [(0, sr 4), (1, si (a : Int)), (2, si (b : Int)), (3, si (sm (xD g a b) c + sm (fun d => bI (xC g a b c d)) (d + 1))), (4, si (c : Int)), (5, si ((d : Int) + 1))]) (by rw [e3]) ?_
              exact ih (d + 1) (by omega) (by omega) (by omega)
set_option maxHeartbeats 4000000 in
set_option maxRecDepth 100000 in
theorem lpX3_crossing {O : OmT} {F : PhT} {V : Mem} {g : Nat → Int} (C : cx O F RX3 cX3_countCrossing 6 (some .int) wsX3_countCrossing) {post : Int → Mem → Prop} (hQ : qI O F post) (hn : net V g) (ok : okg g) {a b : Nat} (ha : a < gN g) (hb : b < gN g) (hpo : post (sm (xD g a b) (gN g)) V) : ∀ (fuel : Nat) (c : Nat), (c ≤ gN g) → (a < c) → gN g - c < fuel → J O F rX3_countCrossing 6 V 7 [(0, sr 4), (1, si (a : Int)), (2, si (b : Int)), (3, si (sm (xD g a b) c)), (4, si (c : Int))] [] := by
  intro fuel
  induction fuel with
  | zero => intro c hw hac hf; exact absurd hf (Nat.not_lt_zero _)
  | succ fuel ih =>
    intro c hw hac hf
    have n1 := ok.n
    refine j_iload C dX3_countCrossing_7 rfl ?_
    refine j_aload_n C dX3_countCrossing_9 rfl ?_
    refine j_get (v := sr 1) C 4 0 (by decide) (en_4 _ _) rfl (by decide) (fun w h => List.mem_cons_of_mem _ (List.mem_append_left _ (List.mem_append_right _ h))) (List.mem_of_getElem? (i := 1) rfl) dX3_countCrossing_10 rfl ?_
    refine j_getN (v := si (V 1 2)) C 1 2 (by decide) (en_G (c := 1) (by decide) _) rfl (by decide) (fun w h => List.mem_cons_of_mem _ (List.mem_append_right _ h)) (List.mem_of_getElem? (i := 6) rfl) dX3_countCrossing_13 rfl ?_
    refine j_top hn.1.1 ?_
    refine j_icmp_ge (tgt := 92) C dX3_countCrossing_16 (by decide) (by omega) (by have := ok.1; omega) (fun q_1 => ?_) (fun q_1 => ?_)
    · refine j_iload_n C dX3_countCrossing_92 rfl ?_
      refine j_iret C hQ dX3_countCrossing_93 ?_
      have e : c = gN g := by omega
      rw [e]; exact hpo
    · refine j_iload C dX3_countCrossing_19 rfl ?_
      refine j_iconst C dX3_countCrossing_21 ?_
      refine j_iadd C dX3_countCrossing_22 ?_
      refine j_istore (lv' := [(0, sr 4), (1, si (a : Int)), (2, si (b : Int)), (3, si (sm (xD g a b) c)), (4, si (c : Int)), (5, si ((c : Int) + 1))]) C dX3_countCrossing_23 (by decide) rfl ?_
      refine j_lv (lv' := [(0, sr 4), (1, si (a : Int)), (2, si (b : Int)), (3, si (sm (xD g a b) c + sm (fun d => bI (xC g a b c d)) (c + 1))), (4, si (c : Int)), (5, si ((c + 1 : Nat) : Int))]) (by rw [xC_0, Int.add_zero]; rfl) ?_
      refine lpX3_crossing2 C hn ok ha hb (by omega) ?_ _ (c + 1) (by omega) (by omega) (Nat.lt_succ_self _)
      refine j_iinc (lv' := [(0, sr 4), (1, si (a : Int)), (2, si (b : Int)), (3, si (sm (xD g a b) c + sm (fun d => bI (xC g a b c d)) (gN g))), (4, si ((c : Int) + 1)), (5, si ((gN g : Nat) : Int))]) C dX3_countCrossing_86 rfl (by decide) rfl ?_
      refine j_goto (tgt := 7) C dX3_countCrossing_89 (by decide) ?_
      have e3 : (sm (xD g a b) (c + 1)) = (sm (xD g a b) c + sm (fun d => bI (xC g a b c d)) (gN g)) := by
        exact xD_s hac
      refine j_pick (lv' := [(0, sr 4), (1, si (a : Int)), (2, si (b : Int)), (3, si (sm (xD g a b) c + sm (fun d => bI (xC g a b c d)) (gN g))), (4, si ((c : Int) + 1))]) [0, 1, 2, 3, 4] rfl ?_
      refine j_lv (lv' := [(0, sr 4), (1, si (a : Int)), (2, si (b : Int)), (3, si (sm (xD g a b) (c + 1))), (4, si ((c : Int) + 1))]) (by rw [e3]) ?_
      exact ih (c + 1) (by omega) (by omega) (by omega)
set_option maxHeartbeats 4000000 in
set_option maxRecDepth 100000 in
theorem kX3_countCrossing {O : OmT} {l : Launch} {V : Mem} {g : Nat → Int} (hn : net V g) (ok : okg g) {za : Int} {zb : Int} (a b : Nat) (ea : za = (a : Int)) (eb : zb = (b : Int)) (ha : a < 10) (hb : b < 10) (hag : a < gN g) (hbg : b < gN g) : MI O l yX3_countCrossing wsX3_countCrossing rX3_countCrossing [sr 4, si za, si zb] V (fun z V2 => V = V2 ∧ z = sm (xD g a b) (gN g)) := by
  refine mi_of (cc := cX3_countCrossing) (nL := 6) (rt := (some .int)) (by decide) rfl rfl (Nat.le_of_ble_eq_true rfl) (fun F hF C hQ => ?_)
  subst hF
  subst ea eb
  change J O F rX3_countCrossing 6 V 0 [(0, sr 4), (1, si (a : Int)), (2, si (b : Int))] []
  refine j_iconst C dX3_countCrossing_0 ?_
  refine j_istore_n (lv' := [(0, sr 4), (1, si (a : Int)), (2, si (b : Int)), (3, si 0)]) C dX3_countCrossing_1 (by decide) rfl ?_
  refine j_iload_n C dX3_countCrossing_2 rfl ?_
  refine j_iconst C dX3_countCrossing_3 ?_
  refine j_iadd C dX3_countCrossing_4 ?_
  refine j_istore (lv' := [(0, sr 4), (1, si (a : Int)), (2, si (b : Int)), (3, si 0), (4, si ((a : Int) + 1))]) C dX3_countCrossing_5 (by decide) rfl ?_
  refine j_lv (lv' := [(0, sr 4), (1, si (a : Int)), (2, si (b : Int)), (3, si (sm (xD g a b) (a + 1))), (4, si ((a + 1 : Nat) : Int))]) (by rw [xD_0]; rfl) ?_
  exact lpX3_crossing C hQ hn ok hag hbg ⟨rfl, rfl⟩ _ (a + 1) (by omega) (by omega) (Nat.lt_succ_self _)
def rX3_countCrossings : Room := { frames := 4, cells := 0, slots := 0, locals := 98 }
theorem sgX3_countCrossings : sg yX3_countCrossings wsX3_countCrossings cX3_countCrossings 4 (some .int) rX3_countCrossings 0 := ⟨⟨_, rfl⟩, rfl, rfl, by decide, by decide, by decide +kernel⟩
set_option maxHeartbeats 4000000 in
set_option maxRecDepth 100000 in
theorem lpX3_crossings2 {O : OmT} {F : PhT} {V : Mem} {g : Nat → Int} (C : cx O F RX3 cX3_countCrossings 4 (some .int) wsX3_countCrossings) (hn : net V g) (ok : okg g) {a : Nat} (ha : a < gN g) (kx : J O F rX3_countCrossings 4 V 58 [(0, sr 4), (1, si (sm (fun a => sm (xB g a) (gN g)) a + sm (xB g a) (gN g))), (2, si (a : Int)), (3, si ((gN g : Nat) : Int))] []) : ∀ (fuel : Nat) (b : Nat), (b ≤ gN g) → (a < b) → gN g - b < fuel → J O F rX3_countCrossings 4 V 19 [(0, sr 4), (1, si (sm (fun a => sm (xB g a) (gN g)) a + sm (xB g a) b)), (2, si (a : Int)), (3, si (b : Int))] [] := by
  intro fuel
  induction fuel with
  | zero => intro b hw hab hf; exact absurd hf (Nat.not_lt_zero _)
  | succ fuel ih =>
    intro b hw hab hf
    have n1 := ok.n
    refine j_iload_n C dX3_countCrossings_19 rfl ?_
    refine j_aload_n C dX3_countCrossings_20 rfl ?_
    refine j_get (v := sr 1) C 4 0 (by decide) (en_4 _ _) rfl (by decide) (fun w h => List.mem_cons_of_mem _ (List.mem_append_left _ (List.mem_append_right _ h))) (List.mem_of_getElem? (i := 1) rfl) dX3_countCrossings_21 rfl ?_
    refine j_getN (v := si (V 1 2)) C 1 2 (by decide) (en_G (c := 1) (by decide) _) rfl (by decide) (fun w h => List.mem_cons_of_mem _ (List.mem_append_right _ h)) (List.mem_of_getElem? (i := 6) rfl) dX3_countCrossings_24 rfl ?_
    refine j_top hn.1.1 ?_
    refine j_icmp_ge (tgt := 58) C dX3_countCrossings_27 (by decide) (by omega) (by have := ok.1; omega) (fun q_1 => ?_) (fun q_1 => ?_)
    · have e : b = gN g := by omega
      rw [e]
      exact kx
    · refine j_aload_n C dX3_countCrossings_30 rfl ?_
      refine j_get (v := sr 5) C 4 1 (by decide) (en_4 _ _) rfl (by decide) (fun w h => List.mem_cons_of_mem _ (List.mem_append_left _ (List.mem_append_right _ h))) (List.mem_of_getElem? (i := 2) rfl) dX3_countCrossings_31 rfl ?_
      refine j_iload_n C dX3_countCrossings_34 rfl ?_
      refine j_iald C (row_5 O) a rfl (by omega) dX3_countCrossings_35 ?_
      refine j_top (hn.2.1 a (by omega)) ?_
      refine j_iload_n C dX3_countCrossings_36 rfl ?_
      refine j_doI (st := []) (j_runSN C (kX5_holds (gLs g a (gN g)) b rfl rfl (by have := gLs_31 ok a; omega) (by omega)) ggX3_countCrossings_X5_holds sgX5_holds (List.mem_of_getElem? (i := 8) rfl) (List.mem_of_getElem? (i := 4) rfl) (List.mem_of_getElem? (i := 3) rfl) ⟨by decide, by decide⟩ rfl rfl (Nat.le_of_ble_eq_true rfl) dX3_countCrossings_37) (fun z_2 V_3 h_4 => ?_)
      obtain ⟨rfl, rfl⟩ := h_4
      refine j_top (b := bI (gL g a b)) (by rw [gLs_bit, decide_eq_true (show b < gN g by omega), Bool.true_and]) ?_
      refine j_ifb_eq (tgt := 52) C dX3_countCrossings_40 (by decide) (fun q_5 => ?_) (fun q_5 => ?_)
      · refine j_iinc (lv' := [(0, sr 4), (1, si (sm (fun a => sm (xB g a) (gN g)) a + sm (xB g a) b)), (2, si (a : Int)), (3, si ((b : Int) + 1))]) C dX3_countCrossings_52 rfl (by decide) rfl ?_
        refine j_goto (tgt := 19) C dX3_countCrossings_55 (by decide) ?_
        have e1 : (sm (fun a => sm (xB g a) (gN g)) a + sm (xB g a) (b + 1)) = (sm (fun a => sm (xB g a) (gN g)) a + sm (xB g a) b) := by
          first
            | (refine xB_s _ ?_; unfold xB; rw [if_pos ⟨hab, ‹_›⟩]; done)
            | (refine (xB_s _ (z := 0) ?_).trans (Int.add_zero _); unfold xB; rw [if_neg (fun z => by simp_all)]; done)
        refine j_lv (lv' := [(0, sr 4), (1, si (sm (fun a => sm (xB g a) (gN g)) a + sm (xB g a) (b + 1))), (2, si (a : Int)), (3, si ((b : Int) + 1))]) (by rw [e1]) ?_
        exact ih (b + 1) (by omega) (by omega) (by omega)
      · refine j_iload_n C dX3_countCrossings_43 rfl ?_
        refine j_aload_n C dX3_countCrossings_44 rfl ?_
        refine j_iload_n C dX3_countCrossings_45 rfl ?_
        refine j_iload_n C dX3_countCrossings_46 rfl ?_
        refine j_doI (st := [si (sm (fun a => sm (xB g a) (gN g)) a + sm (xB g a) b)]) (j_runV C (kX3_countCrossing hn ok a b rfl rfl (by omega) (by omega) (by omega) (by omega)) gX3_countCrossings_X3_countCrossing sgX3_countCrossing rfl ⟨by decide, by decide⟩ (by decide) (en_4 _ _) rfl rfl rfl (Nat.le_of_ble_eq_true rfl) dX3_countCrossings_47) (fun z_6 V_7 h_8 => ?_)
        obtain ⟨rfl, rfl⟩ := h_8
        refine j_iadd C dX3_countCrossings_50 ?_
        refine j_istore_n (lv' := [(0, sr 4), (1, si ((sm (fun a => sm (xB g a) (gN g)) a + sm (xB g a) b) + (sm (xD g a b) (gN g)))), (2, si (a : Int)), (3, si (b : Int))]) C dX3_countCrossings_51 (by decide) rfl ?_
        refine j_iinc (lv' := [(0, sr 4), (1, si ((sm (fun a => sm (xB g a) (gN g)) a + sm (xB g a) b) + (sm (xD g a b) (gN g)))), (2, si (a : Int)), (3, si ((b : Int) + 1))]) C dX3_countCrossings_52 rfl (by decide) rfl ?_
        refine j_goto (tgt := 19) C dX3_countCrossings_55 (by decide) ?_
        have e1 : (sm (fun a => sm (xB g a) (gN g)) a + sm (xB g a) (b + 1)) = ((sm (fun a => sm (xB g a) (gN g)) a + sm (xB g a) b) + (sm (xD g a b) (gN g))) := by
          first
            | (refine xB_s _ ?_; unfold xB; rw [if_pos ⟨hab, ‹_›⟩]; done)
            | (refine (xB_s _ (z := 0) ?_).trans (Int.add_zero _); unfold xB; rw [if_neg (fun z => by simp_all)]; done)
        refine j_lv (lv' := [(0, sr 4), (1, si (sm (fun a => sm (xB g a) (gN g)) a + sm (xB g a) (b + 1))), (2, si (a : Int)), (3, si ((b : Int) + 1))]) (by rw [e1]) ?_
        exact ih (b + 1) (by omega) (by omega) (by omega)
set_option maxHeartbeats 4000000 in
set_option maxRecDepth 100000 in
theorem lpX3_crossings {O : OmT} {F : PhT} {V : Mem} {g : Nat → Int} (C : cx O F RX3 cX3_countCrossings 4 (some .int) wsX3_countCrossings) {post : Int → Mem → Prop} (hQ : qI O F post) (hn : net V g) (ok : okg g) (hpo : post (sm (fun a => sm (xB g a) (gN g)) (gN g)) V) : ∀ (fuel : Nat) (a : Nat), (a ≤ gN g) → gN g - a < fuel → J O F rX3_countCrossings 4 V 4 [(0, sr 4), (1, si (sm (fun a => sm (xB g a) (gN g)) a)), (2, si (a : Int))] [] := by
  intro fuel
  induction fuel with
  | zero => intro a hw hf; exact absurd hf (Nat.not_lt_zero _)
  | succ fuel ih =>
    intro a hw hf
    have n1 := ok.n
    refine j_iload_n C dX3_countCrossings_4 rfl ?_
    refine j_aload_n C dX3_countCrossings_5 rfl ?_
    refine j_get (v := sr 1) C 4 0 (by decide) (en_4 _ _) rfl (by decide) (fun w h => List.mem_cons_of_mem _ (List.mem_append_left _ (List.mem_append_right _ h))) (List.mem_of_getElem? (i := 1) rfl) dX3_countCrossings_6 rfl ?_
    refine j_getN (v := si (V 1 2)) C 1 2 (by decide) (en_G (c := 1) (by decide) _) rfl (by decide) (fun w h => List.mem_cons_of_mem _ (List.mem_append_right _ h)) (List.mem_of_getElem? (i := 6) rfl) dX3_countCrossings_9 rfl ?_
    refine j_top hn.1.1 ?_
    refine j_icmp_ge (tgt := 64) C dX3_countCrossings_12 (by decide) (by omega) (by have := ok.1; omega) (fun q_1 => ?_) (fun q_1 => ?_)
    · refine j_iload_n C dX3_countCrossings_64 rfl ?_
      refine j_iret C hQ dX3_countCrossings_65 ?_
      have e : a = gN g := by omega
      rw [e]; exact hpo
    · refine j_iload_n C dX3_countCrossings_15 rfl ?_
      refine j_iconst C dX3_countCrossings_16 ?_
      refine j_iadd C dX3_countCrossings_17 ?_
      refine j_istore_n (lv' := [(0, sr 4), (1, si (sm (fun a => sm (xB g a) (gN g)) a)), (2, si (a : Int)), (3, si ((a : Int) + 1))]) C dX3_countCrossings_18 (by decide) rfl ?_
      refine j_lv (lv' := [(0, sr 4), (1, si (sm (fun a => sm (xB g a) (gN g)) a + sm (xB g a) (a + 1))), (2, si (a : Int)), (3, si ((a + 1 : Nat) : Int))]) (by rw [xB_0, Int.add_zero]; rfl) ?_
      refine lpX3_crossings2 C hn ok (by omega) ?_ _ (a + 1) (by omega) (by omega) (Nat.lt_succ_self _)
      refine j_iinc (lv' := [(0, sr 4), (1, si (sm (fun a => sm (xB g a) (gN g)) a + sm (xB g a) (gN g))), (2, si ((a : Int) + 1)), (3, si ((gN g : Nat) : Int))]) C dX3_countCrossings_58 rfl (by decide) rfl ?_
      refine j_goto (tgt := 4) C dX3_countCrossings_61 (by decide) ?_
      have e1 : (sm (fun a => sm (xB g a) (gN g)) (a + 1)) = (sm (fun a => sm (xB g a) (gN g)) a + sm (xB g a) (gN g)) := by
        rfl
      refine j_pick (lv' := [(0, sr 4), (1, si (sm (fun a => sm (xB g a) (gN g)) a + sm (xB g a) (gN g))), (2, si ((a : Int) + 1))]) [0, 1, 2] rfl ?_
      refine j_lv (lv' := [(0, sr 4), (1, si (sm (fun a => sm (xB g a) (gN g)) (a + 1))), (2, si ((a : Int) + 1))]) (by rw [e1]) ?_
      exact ih (a + 1) (by omega) (by omega)
set_option maxHeartbeats 4000000 in
set_option maxRecDepth 100000 in
theorem kX3_countCrossings {O : OmT} {l : Launch} {V : Mem} {g : Nat → Int} (hn : net V g) (ok : okg g) : MI O l yX3_countCrossings wsX3_countCrossings rX3_countCrossings [sr 4] V (fun z V2 => V = V2 ∧ z = sm (fun a => sm (xB g a) (gN g)) (gN g)) := by
  refine mi_of (cc := cX3_countCrossings) (nL := 4) (rt := (some .int)) (by decide) rfl rfl (Nat.le_of_ble_eq_true rfl) (fun F hF C hQ => ?_)
  subst hF
  change J O F rX3_countCrossings 4 V 0 [(0, sr 4)] []
  refine j_iconst C dX3_countCrossings_0 ?_
  refine j_istore_n (lv' := [(0, sr 4), (1, si 0)]) C dX3_countCrossings_1 (by decide) rfl ?_
  refine j_iconst C dX3_countCrossings_2 ?_
  refine j_istore_n (lv' := [(0, sr 4), (1, si 0), (2, si 0)]) C dX3_countCrossings_3 (by decide) rfl ?_
  exact lpX3_crossings C hQ hn ok ⟨rfl, rfl⟩ _ 0 (Nat.zero_le _) (Nat.lt_succ_self _)
def rX5_face : Room := { frames := 4, cells := 0, slots := 0, locals := 101 }
theorem sgX5_face : sg yX5_face wsX5_face cX5_face 3 (some .int) rX5_face 2 := ⟨⟨_, rfl⟩, rfl, rfl, by decide, by decide, by decide +kernel⟩
set_option maxHeartbeats 4000000 in
set_option maxRecDepth 100000 in
theorem kX5_face {O : OmT} {l : Launch} {V : Mem} {g : Nat → Int} (hn : net V g) (ok : okg g) (h7 : sn7 V) (u : Int) (v : Int) (hu : -2147483648 ≤ u ∧ u < 2147483648) (hv : -2147483648 ≤ v ∧ v < 2147483648) : MI O l yX5_face wsX5_face rX5_face [sr 0, si u, si v] V (fun z V2 => cFs V V2 ∧ z = aFace g u v) := by
  refine mi_of (cc := cX5_face) (nL := 3) (rt := (some .int)) (by decide) rfl rfl (Nat.le_of_ble_eq_true rfl) (fun F hF C hQ => ?_)
  subst hF
  obtain ⟨f0, hf0⟩ := h7
  change J O F rX5_face 3 V 0 [(0, sr 0), (1, si u), (2, si v)] []
  refine j_aload_n C dX5_face_0 rfl ?_
  refine j_iload_n C dX5_face_1 rfl ?_
  refine j_iload_n C dX5_face_2 rfl ?_
  refine j_doI (st := []) (j_runV C (kX5_areTwo hn.1 ok u v (by omega) (by omega)) gX5_face_X5_areTwo sgX5_areTwo rfl ⟨by decide, by decide⟩ (by decide) (en_0 _ _) rfl rfl rfl (Nat.le_of_ble_eq_true rfl) dX5_face_3) (fun z_1 V_2 h_3 => ?_)
  obtain ⟨rfl, rfl⟩ := h_3
  refine j_ifb_ne (tgt := 12) C dX5_face_6 (by decide) (fun q_4 => ?_) (fun q_4 => ?_)
  · obtain ⟨un, hun⟩ : ∃ un : Nat, u = (un : Int) := ⟨u.toNat, (by have := ok.n; simp only [aTwo, gI, Bool.and_eq_true, decide_eq_true_eq] at *; omega)⟩
    obtain ⟨vn, hvn⟩ : ∃ vn : Nat, v = (vn : Int) := ⟨v.toNat, (by have := ok.n; simp only [aTwo, gI, Bool.and_eq_true, decide_eq_true_eq] at *; omega)⟩
    have hb1 : un < gN g := by have := ok.n; simp only [aTwo, gI, Bool.and_eq_true, decide_eq_true_eq] at *; omega
    have hb2 : vn < gN g := by have := ok.n; simp only [aTwo, gI, Bool.and_eq_true, decide_eq_true_eq] at *; omega
    have n1 := ok.n
    subst hun hvn
    refine j_aload_n C dX5_face_12 rfl ?_
    refine j_get (v := sr 4) C 0 1 (by decide) (en_0 _ _) rfl (by decide) (fun w h => List.mem_cons_of_mem _ (List.mem_append_left _ (List.mem_append_left _ (List.mem_append_right _ h)))) (List.mem_of_getElem? (i := 2) rfl) dX5_face_13 rfl ?_
    refine j_getN (v := sr 6) C 4 2 (by decide) (en_4 _ _) rfl (by decide) (fun w h => List.mem_cons_of_mem _ (List.mem_append_left _ (List.mem_append_right _ h))) (List.mem_of_getElem? (i := 16) rfl) dX5_face_16 rfl ?_
    refine j_iload_n C dX5_face_19 rfl ?_
    refine j_iald C (row_6 O) un rfl (by omega) dX5_face_20 ?_
    refine j_top (hn.2.2 un (by omega)) ?_
    refine j_iload_n C dX5_face_21 rfl ?_
    refine j_doI (st := []) (j_runS C (kX5_holds (gTs g un (gN g)) vn rfl rfl (by have := gTs_31 ok un; omega) (by omega)) ggX5_face_X5_holds sgX5_holds (List.mem_of_getElem? (i := 14) rfl) (List.mem_of_getElem? (i := 6) rfl) (List.mem_of_getElem? (i := 15) rfl) ⟨by decide, by decide⟩ rfl rfl (Nat.le_of_ble_eq_true rfl) dX5_face_22) (fun z_5 V_6 h_7 => ?_)
    obtain ⟨rfl, rfl⟩ := h_7
    refine j_top (b := bI (gT g un vn)) (by rw [gTs_bit, decide_eq_true (show vn < gN g by omega), Bool.true_and]) ?_
    refine j_ifb_ne (tgt := 30) C dX5_face_25 (by decide) (fun q_8 => ?_) (fun q_8 => ?_)
    · refine j_aload_n C dX5_face_30 rfl ?_
      refine j_get (v := sr 4) C 0 1 (by decide) (en_0 _ _) rfl (by decide) (fun w h => List.mem_cons_of_mem _ (List.mem_append_left _ (List.mem_append_left _ (List.mem_append_right _ h)))) (List.mem_of_getElem? (i := 2) rfl) dX5_face_31 rfl ?_
      refine j_iload_n C dX5_face_34 rfl ?_
      refine j_iload_n C dX5_face_35 rfl ?_
      refine j_doI (st := []) (j_runVN C (kX3_faceLength hn ok un vn rfl rfl (f0 := f0) q_8 hf0) ggX5_face_X3_faceLength sgX3_faceLength rfl (List.mem_of_getElem? (i := 33) rfl) (List.mem_of_getElem? (i := 18) rfl) (List.mem_of_getElem? (i := 17) rfl) (List.mem_of_getElem? (i := 19) rfl) ⟨by decide, by decide⟩ (by decide) (en_4 _ _) rfl rfl rfl (Nat.le_of_ble_eq_true rfl) dX5_face_36) (fun z_9 V_10 h_11 => ?_)
      obtain ⟨rfl, rfl⟩ := h_11
      refine j_iret C hQ dX5_face_39 ?_
      refine ⟨cFs_7 (fun a ha => mkF_lt ok q_8 (fun a ha => (hf0 a ha).2) _ a ha), ?_⟩
      unfold aFace
      simp_all
    · refine j_iconst C dX5_face_28 ?_
      refine j_iret C hQ dX5_face_29 ?_
      refine ⟨cFs_rf ⟨f0, hf0⟩, ?_⟩
      unfold aFace
      simp_all
  · refine j_ldc (n := -1000000001) C (List.mem_of_getElem? (i := 1) rfl) (by decide) dX5_face_9 ?_
    refine j_iret C hQ dX5_face_11 ?_
    refine ⟨cFs_rf ⟨f0, hf0⟩, ?_⟩
    unfold aFace
    simp_all
