def rX6_laysFaces : Room := { frames := 6, cells := 0, slots := 0, locals := 139 }
theorem sgX6_laysFaces : sg yX6_laysFaces wsX6_laysFaces cX6_laysFaces 9 none rX6_laysFaces 0 := ⟨⟨_, rfl⟩, rfl, rfl, by decide, by decide, by decide +kernel⟩
set_option maxHeartbeats 4000000 in
set_option maxRecDepth 100000 in
theorem lpX6_lay2 {O : OmT} {F : PhT} {g : Nat → Int} (C : cx O F RX6 cX6_laysFaces 9 none wsX6_laysFaces) (ok : okg g) {V1 : Mem} (hg1 : mdl V1 g) {u v w : Nat} (hT : gT g u v = true) (hw : w < 100) (kx : J O F rX6_laysFaces 9 V1 129 [(0, sr 72), (1, si (w : Int)), (2, si (u : Int)), (3, si (v : Int)), (6, si (bI (ffF g u v w (gFl g u v)))), (7, si ((gFl g u v : Nat) : Int))] []) : ∀ (fuel : Nat) (k : Nat), (k < gFl g u v) → (gFl g u v ≤ fuel + k) → J O F rX6_laysFaces 9 V1 68 [(0, sr 72), (1, si (w : Int)), (2, si (u : Int)), (3, si (v : Int)), (4, si (((itF g k (u, v)).1 : Nat) : Int)), (5, si (((itF g k (u, v)).2 : Nat) : Int)), (6, si (bI (ffF g u v w k))), (7, si (k : Int))] [] := by
  intro fuel
  induction fuel with
  | zero => intro k hk hf; exfalso; omega
  | succ fuel ih =>
    intro k hk hf
    have n1 := ok.n
    have fa := itF_at ok hT k
    have hl := gT_lt ok hT
    have h90 := (gFl_spec ok hT).2.2.1
    refine j_aload_n C dX6_laysFaces_68 rfl ?_
    refine j_iload C dX6_laysFaces_69 rfl ?_
    refine j_iload C dX6_laysFaces_71 rfl ?_
    refine j_doI (st := []) (j_runV C (kX6_turned hg1 ok ((itF g k (u, v)).2) ((itF g k (u, v)).1) rfl rfl (by omega) (by omega)) gX6_laysFaces_X6_turned sgX6_turned rfl ⟨by decide, by decide⟩ (by decide) (en_72 _ _) rfl rfl rfl (Nat.le_of_ble_eq_true rfl) dX6_laysFaces_73) (fun z_1 V_2 h_3 => ?_)
    obtain ⟨rfl, rfl⟩ := h_3
    refine j_istore (lv' := [(0, sr 72), (1, si (w : Int)), (2, si (u : Int)), (3, si (v : Int)), (4, si (((itF g k (u, v)).1 : Nat) : Int)), (5, si (((itF g k (u, v)).2 : Nat) : Int)), (6, si (bI (ffF g u v w k))), (7, si (k : Int)), (8, si (gU g ((itF g k (u, v)).2) ((itF g k (u, v)).1)))]) C dX6_laysFaces_76 (by decide) rfl ?_
    refine j_iload C dX6_laysFaces_78 rfl ?_
    refine j_istore (lv' := [(0, sr 72), (1, si (w : Int)), (2, si (u : Int)), (3, si (v : Int)), (4, si (((itF g k (u, v)).2 : Nat) : Int)), (5, si (((itF g k (u, v)).2 : Nat) : Int)), (6, si (bI (ffF g u v w k))), (7, si (k : Int)), (8, si (gU g ((itF g k (u, v)).2) ((itF g k (u, v)).1)))]) C dX6_laysFaces_80 (by decide) rfl ?_
    refine j_iload C dX6_laysFaces_82 rfl ?_
    refine j_istore (lv' := [(0, sr 72), (1, si (w : Int)), (2, si (u : Int)), (3, si (v : Int)), (4, si (((itF g k (u, v)).2 : Nat) : Int)), (5, si (gU g ((itF g k (u, v)).2) ((itF g k (u, v)).1))), (6, si (bI (ffF g u v w k))), (7, si (k : Int)), (8, si (gU g ((itF g k (u, v)).2) ((itF g k (u, v)).1)))]) C dX6_laysFaces_84 (by decide) rfl ?_
    refine j_iinc (lv' := [(0, sr 72), (1, si (w : Int)), (2, si (u : Int)), (3, si (v : Int)), (4, si (((itF g k (u, v)).2 : Nat) : Int)), (5, si (gU g ((itF g k (u, v)).2) ((itF g k (u, v)).1))), (6, si (bI (ffF g u v w k))), (7, si ((k : Int) + 1)), (8, si (gU g ((itF g k (u, v)).2) ((itF g k (u, v)).1)))]) C dX6_laysFaces_86 rfl (by decide) rfl ?_
    refine j_iload C dX6_laysFaces_89 rfl ?_
    refine j_ifb_eq (tgt := 114) C dX6_laysFaces_91 (by decide) (fun q_4 => ?_) (fun q_4 => ?_)
    · refine j_iconst C dX6_laysFaces_114 ?_
      refine j_istore (lv' := [(0, sr 72), (1, si (w : Int)), (2, si (u : Int)), (3, si (v : Int)), (4, si (((itF g k (u, v)).2 : Nat) : Int)), (5, si (gU g ((itF g k (u, v)).2) ((itF g k (u, v)).1))), (6, si 0), (7, si ((k : Int) + 1)), (8, si (gU g ((itF g k (u, v)).2) ((itF g k (u, v)).1)))]) C dX6_laysFaces_115 (by decide) rfl ?_
      refine j_iload C dX6_laysFaces_117 rfl ?_
      refine j_iload_n C dX6_laysFaces_119 rfl ?_
      refine j_icmp_ne (tgt := 68) C dX6_laysFaces_120 (by decide) (by omega) (by omega) (fun q_5 => ?_) (fun q_5 => ?_)
      · have hk1 := (itF_next ok hT hk).2 (by omega)
        have e6 : bI (ffF g u v w (k + 1)) = 0 := by
          rw [ff_dec ok hT]; simp_all [bI]; try omega
        refine j_pick (lv' := [(0, sr 72), (1, si (w : Int)), (2, si (u : Int)), (3, si (v : Int)), (4, si (((itF g k (u, v)).2 : Nat) : Int)), (5, si (gU g ((itF g k (u, v)).2) ((itF g k (u, v)).1))), (6, si 0), (7, si ((k : Int) + 1))]) [0, 1, 2, 3, 4, 5, 6, 7] rfl ?_
        refine j_lv (lv' := [(0, sr 72), (1, si (w : Int)), (2, si (u : Int)), (3, si (v : Int)), (4, si (((itF g (k + 1) (u, v)).1 : Nat) : Int)), (5, si (((itF g (k + 1) (u, v)).2 : Nat) : Int)), (6, si (bI (ffF g u v w (k + 1)))), (7, si ((k : Int) + 1))]) (by rw [e6, itF_s]; dsimp only; rw [Int.toNat_of_nonneg fa.2.2.2.1]) ?_
        exact ih (k + 1) hk1 (by omega)
      · refine j_iload C dX6_laysFaces_123 rfl ?_
        refine j_iload_n C dX6_laysFaces_125 rfl ?_
        refine j_icmp_ne (tgt := 68) C dX6_laysFaces_126 (by decide) (by omega) (by omega) (fun q_6 => ?_) (fun q_6 => ?_)
        · have hk1 := (itF_next ok hT hk).2 (by omega)
          have e6 : bI (ffF g u v w (k + 1)) = 0 := by
            rw [ff_dec ok hT]; simp_all [bI]; try omega
          refine j_pick (lv' := [(0, sr 72), (1, si (w : Int)), (2, si (u : Int)), (3, si (v : Int)), (4, si (((itF g k (u, v)).2 : Nat) : Int)), (5, si (gU g ((itF g k (u, v)).2) ((itF g k (u, v)).1))), (6, si 0), (7, si ((k : Int) + 1))]) [0, 1, 2, 3, 4, 5, 6, 7] rfl ?_
          refine j_lv (lv' := [(0, sr 72), (1, si (w : Int)), (2, si (u : Int)), (3, si (v : Int)), (4, si (((itF g (k + 1) (u, v)).1 : Nat) : Int)), (5, si (((itF g (k + 1) (u, v)).2 : Nat) : Int)), (6, si (bI (ffF g u v w (k + 1)))), (7, si ((k : Int) + 1))]) (by rw [e6, itF_s]; dsimp only; rw [Int.toNat_of_nonneg fa.2.2.2.1]) ?_
          exact ih (k + 1) hk1 (by omega)
        · have e9 := (itF_next ok hT hk).1 (by omega) (by omega)
          have e6 : bI (ffF g u v w (gFl g u v)) = 0 := by
            rw [← e9, ff_dec ok hT]; simp_all [bI]; try omega
          refine j_pick (lv' := [(0, sr 72), (1, si (w : Int)), (2, si (u : Int)), (3, si (v : Int)), (6, si 0), (7, si ((k : Int) + 1))]) [0, 1, 2, 3, 6, 7] rfl ?_
          refine j_lv (lv' := [(0, sr 72), (1, si (w : Int)), (2, si (u : Int)), (3, si (v : Int)), (6, si (bI (ffF g u v w (gFl g u v)))), (7, si ((gFl g u v : Nat) : Int))]) (by rw [e6, ← e9]; rfl) ?_
          exact kx
    · refine j_iload C dX6_laysFaces_94 rfl ?_
      refine j_aload_n C dX6_laysFaces_96 rfl ?_
      refine j_get (v := sr 73) C 72 0 (by decide) (en_72 _ _) rfl (by decide) (fun w h => List.mem_cons_of_mem _ (List.mem_append_right _ h)) (List.mem_of_getElem? (i := 3) rfl) dX6_laysFaces_97 rfl ?_
      refine j_iconst C dX6_laysFaces_100 ?_
      refine j_iald C (row_73 O) 0 rfl (by decide) dX6_laysFaces_101 ?_
      refine j_top (hg1 0 (by omega)) ?_
      refine j_imul C dX6_laysFaces_102 ?_
      refine j_iload C dX6_laysFaces_103 rfl ?_
      refine j_iadd C dX6_laysFaces_105 ?_
      refine j_iload_n C dX6_laysFaces_106 rfl ?_
      refine j_icmp_lt (tgt := 114) C dX6_laysFaces_107 (by decide) (by have := pr10 (a := ((itF g k (u, v)).2 : Int)) (b := g 0) (by omega) (by omega); omega) (by omega) (fun q_7 => ?_) (fun q_7 => ?_)
      · refine j_iconst C dX6_laysFaces_114 ?_
        refine j_istore (lv' := [(0, sr 72), (1, si (w : Int)), (2, si (u : Int)), (3, si (v : Int)), (4, si (((itF g k (u, v)).2 : Nat) : Int)), (5, si (gU g ((itF g k (u, v)).2) ((itF g k (u, v)).1))), (6, si 0), (7, si ((k : Int) + 1)), (8, si (gU g ((itF g k (u, v)).2) ((itF g k (u, v)).1)))]) C dX6_laysFaces_115 (by decide) rfl ?_
        refine j_iload C dX6_laysFaces_117 rfl ?_
        refine j_iload_n C dX6_laysFaces_119 rfl ?_
        refine j_icmp_ne (tgt := 68) C dX6_laysFaces_120 (by decide) (by omega) (by omega) (fun q_8 => ?_) (fun q_8 => ?_)
        · have hk1 := (itF_next ok hT hk).2 (by omega)
          have e6 : bI (ffF g u v w (k + 1)) = 0 := by
            rw [ff_dec ok hT]; simp_all [bI]; try omega
          refine j_pick (lv' := [(0, sr 72), (1, si (w : Int)), (2, si (u : Int)), (3, si (v : Int)), (4, si (((itF g k (u, v)).2 : Nat) : Int)), (5, si (gU g ((itF g k (u, v)).2) ((itF g k (u, v)).1))), (6, si 0), (7, si ((k : Int) + 1))]) [0, 1, 2, 3, 4, 5, 6, 7] rfl ?_
          refine j_lv (lv' := [(0, sr 72), (1, si (w : Int)), (2, si (u : Int)), (3, si (v : Int)), (4, si (((itF g (k + 1) (u, v)).1 : Nat) : Int)), (5, si (((itF g (k + 1) (u, v)).2 : Nat) : Int)), (6, si (bI (ffF g u v w (k + 1)))), (7, si ((k : Int) + 1))]) (by rw [e6, itF_s]; dsimp only; rw [Int.toNat_of_nonneg fa.2.2.2.1]) ?_
          exact ih (k + 1) hk1 (by omega)
        · refine j_iload C dX6_laysFaces_123 rfl ?_
          refine j_iload_n C dX6_laysFaces_125 rfl ?_
          refine j_icmp_ne (tgt := 68) C dX6_laysFaces_126 (by decide) (by omega) (by omega) (fun q_9 => ?_) (fun q_9 => ?_)
          · have hk1 := (itF_next ok hT hk).2 (by omega)
            have e6 : bI (ffF g u v w (k + 1)) = 0 := by
              rw [ff_dec ok hT]; simp_all [bI]; try omega
            refine j_pick (lv' := [(0, sr 72), (1, si (w : Int)), (2, si (u : Int)), (3, si (v : Int)), (4, si (((itF g k (u, v)).2 : Nat) : Int)), (5, si (gU g ((itF g k (u, v)).2) ((itF g k (u, v)).1))), (6, si 0), (7, si ((k : Int) + 1))]) [0, 1, 2, 3, 4, 5, 6, 7] rfl ?_
            refine j_lv (lv' := [(0, sr 72), (1, si (w : Int)), (2, si (u : Int)), (3, si (v : Int)), (4, si (((itF g (k + 1) (u, v)).1 : Nat) : Int)), (5, si (((itF g (k + 1) (u, v)).2 : Nat) : Int)), (6, si (bI (ffF g u v w (k + 1)))), (7, si ((k : Int) + 1))]) (by rw [e6, itF_s]; dsimp only; rw [Int.toNat_of_nonneg fa.2.2.2.1]) ?_
            exact ih (k + 1) hk1 (by omega)
          · have e9 := (itF_next ok hT hk).1 (by omega) (by omega)
            have e6 : bI (ffF g u v w (gFl g u v)) = 0 := by
              rw [← e9, ff_dec ok hT]; simp_all [bI]; try omega
            refine j_pick (lv' := [(0, sr 72), (1, si (w : Int)), (2, si (u : Int)), (3, si (v : Int)), (6, si 0), (7, si ((k : Int) + 1))]) [0, 1, 2, 3, 6, 7] rfl ?_
            refine j_lv (lv' := [(0, sr 72), (1, si (w : Int)), (2, si (u : Int)), (3, si (v : Int)), (6, si (bI (ffF g u v w (gFl g u v)))), (7, si ((gFl g u v : Nat) : Int))]) (by rw [e6, ← e9]; rfl) ?_
            exact kx
      · refine j_iconst C dX6_laysFaces_110 ?_
        refine j_goto (tgt := 115) C dX6_laysFaces_111 (by decide) ?_
        refine j_istore (lv' := [(0, sr 72), (1, si (w : Int)), (2, si (u : Int)), (3, si (v : Int)), (4, si (((itF g k (u, v)).2 : Nat) : Int)), (5, si (gU g ((itF g k (u, v)).2) ((itF g k (u, v)).1))), (6, si 1), (7, si ((k : Int) + 1)), (8, si (gU g ((itF g k (u, v)).2) ((itF g k (u, v)).1)))]) C dX6_laysFaces_115 (by decide) rfl ?_
        refine j_iload C dX6_laysFaces_117 rfl ?_
        refine j_iload_n C dX6_laysFaces_119 rfl ?_
        refine j_icmp_ne (tgt := 68) C dX6_laysFaces_120 (by decide) (by omega) (by omega) (fun q_10 => ?_) (fun q_10 => ?_)
        · have hk1 := (itF_next ok hT hk).2 (by omega)
          have e6 : bI (ffF g u v w (k + 1)) = 1 := by
            rw [ff_dec ok hT]; simp_all [bI]; try omega
          refine j_pick (lv' := [(0, sr 72), (1, si (w : Int)), (2, si (u : Int)), (3, si (v : Int)), (4, si (((itF g k (u, v)).2 : Nat) : Int)), (5, si (gU g ((itF g k (u, v)).2) ((itF g k (u, v)).1))), (6, si 1), (7, si ((k : Int) + 1))]) [0, 1, 2, 3, 4, 5, 6, 7] rfl ?_
          refine j_lv (lv' := [(0, sr 72), (1, si (w : Int)), (2, si (u : Int)), (3, si (v : Int)), (4, si (((itF g (k + 1) (u, v)).1 : Nat) : Int)), (5, si (((itF g (k + 1) (u, v)).2 : Nat) : Int)), (6, si (bI (ffF g u v w (k + 1)))), (7, si ((k : Int) + 1))]) (by rw [e6, itF_s]; dsimp only; rw [Int.toNat_of_nonneg fa.2.2.2.1]) ?_
          exact ih (k + 1) hk1 (by omega)
        · refine j_iload C dX6_laysFaces_123 rfl ?_
          refine j_iload_n C dX6_laysFaces_125 rfl ?_
          refine j_icmp_ne (tgt := 68) C dX6_laysFaces_126 (by decide) (by omega) (by omega) (fun q_11 => ?_) (fun q_11 => ?_)
          · have hk1 := (itF_next ok hT hk).2 (by omega)
            have e6 : bI (ffF g u v w (k + 1)) = 1 := by
              rw [ff_dec ok hT]; simp_all [bI]; try omega
            refine j_pick (lv' := [(0, sr 72), (1, si (w : Int)), (2, si (u : Int)), (3, si (v : Int)), (4, si (((itF g k (u, v)).2 : Nat) : Int)), (5, si (gU g ((itF g k (u, v)).2) ((itF g k (u, v)).1))), (6, si 1), (7, si ((k : Int) + 1))]) [0, 1, 2, 3, 4, 5, 6, 7] rfl ?_
            refine j_lv (lv' := [(0, sr 72), (1, si (w : Int)), (2, si (u : Int)), (3, si (v : Int)), (4, si (((itF g (k + 1) (u, v)).1 : Nat) : Int)), (5, si (((itF g (k + 1) (u, v)).2 : Nat) : Int)), (6, si (bI (ffF g u v w (k + 1)))), (7, si ((k : Int) + 1))]) (by rw [e6, itF_s]; dsimp only; rw [Int.toNat_of_nonneg fa.2.2.2.1]) ?_
            exact ih (k + 1) hk1 (by omega)
          · have e9 := (itF_next ok hT hk).1 (by omega) (by omega)
            have e6 : bI (ffF g u v w (gFl g u v)) = 1 := by
              rw [← e9, ff_dec ok hT]; simp_all [bI]; try omega
            refine j_pick (lv' := [(0, sr 72), (1, si (w : Int)), (2, si (u : Int)), (3, si (v : Int)), (6, si 1), (7, si ((k : Int) + 1))]) [0, 1, 2, 3, 6, 7] rfl ?_
            refine j_lv (lv' := [(0, sr 72), (1, si (w : Int)), (2, si (u : Int)), (3, si (v : Int)), (6, si (bI (ffF g u v w (gFl g u v)))), (7, si ((gFl g u v : Nat) : Int))]) (by rw [e6, ← e9]; rfl) ?_
            exact kx
set_option maxHeartbeats 4000000 in
set_option maxRecDepth 100000 in
theorem lpX6_lay {O : OmT} {F : PhT} {V : Mem} {g : Nat → Int} (C : cx O F RX6 cX6_laysFaces 9 none wsX6_laysFaces) {post : Mem → Prop} (hQ : qV O F post) (hg : mdl V g) (ok : okg g) (hpo : post (ms (ms V 72 11 (lF g (gN g * gN g)).1) 72 12 (lF g (gN g * gN g)).2)) : ∀ (fuel : Nat) (w : Nat), (w ≤ gN g * gN g) → gN g * gN g - w < fuel → J O F rX6_laysFaces 9 (ms (ms V 72 11 (lF g w).1) 72 12 (lF g w).2) 12 [(0, sr 72), (1, si (w : Int))] [] := by
  intro fuel
  induction fuel with
  | zero => intro w hw hf; exact absurd hf (Nat.not_lt_zero _)
  | succ fuel ih =>
    intro w hw hf
    have n1 := ok.n
    have sq : g 0 * g 0 = ((gN g * gN g : Nat) : Int) := by rw [n1.1]; exact (Int.natCast_mul _ _).symm
    have s100 : gN g * gN g ≤ 100 := Nat.mul_le_mul n1.2 n1.2
    have lr := lF_rg ok w
    refine j_iload_n C dX6_laysFaces_12 rfl ?_
    refine j_aload_n C dX6_laysFaces_13 rfl ?_
    refine j_get (v := sr 73) C 72 0 (by decide) (en_72 _ _) rfl (by decide) (fun w h => List.mem_cons_of_mem _ (List.mem_append_right _ h)) (List.mem_of_getElem? (i := 3) rfl) dX6_laysFaces_14 rfl ?_
    refine j_iconst C dX6_laysFaces_17 ?_
    refine j_iald C (row_73 O) 0 rfl (by decide) dX6_laysFaces_18 ?_
    refine j_top ((mdl_eq (V2 := (ms (ms V 72 11 (lF g w).1) 72 12 (lF g w).2)) hg rfl) 0 (by omega)) ?_
    refine j_aload_n C dX6_laysFaces_19 rfl ?_
    refine j_get (v := sr 73) C 72 0 (by decide) (en_72 _ _) rfl (by decide) (fun w h => List.mem_cons_of_mem _ (List.mem_append_right _ h)) (List.mem_of_getElem? (i := 3) rfl) dX6_laysFaces_20 rfl ?_
    refine j_iconst C dX6_laysFaces_23 ?_
    refine j_iald C (row_73 O) 0 rfl (by decide) dX6_laysFaces_24 ?_
    refine j_top ((mdl_eq (V2 := (ms (ms V 72 11 (lF g w).1) 72 12 (lF g w).2)) hg rfl) 0 (by omega)) ?_
    refine j_imul C dX6_laysFaces_25 ?_
    refine j_icmp_ge (tgt := 176) C dX6_laysFaces_26 (by decide) (by omega) (by omega) (fun q_1 => ?_) (fun q_1 => ?_)
    · refine j_vret C hQ dX6_laysFaces_176 ?_
      have e : w = gN g * gN g := by omega
      rw [← e] at hpo; exact hpo
    · have hn0 : 0 < gN g := Nat.pos_of_ne_zero (fun z => by rw [z] at sq; omega)
      have hdu : w / gN g < gN g := Nat.div_lt_of_lt_mul (by omega)
      have hdv : w % gN g < gN g := Nat.mod_lt _ hn0
      refine j_iload_n C dX6_laysFaces_29 rfl ?_
      refine j_aload_n C dX6_laysFaces_30 rfl ?_
      refine j_get (v := sr 73) C 72 0 (by decide) (en_72 _ _) rfl (by decide) (fun w h => List.mem_cons_of_mem _ (List.mem_append_right _ h)) (List.mem_of_getElem? (i := 3) rfl) dX6_laysFaces_31 rfl ?_
      refine j_iconst C dX6_laysFaces_34 ?_
      refine j_iald C (row_73 O) 0 rfl (by decide) dX6_laysFaces_35 ?_
      refine j_top ((mdl_eq (V2 := (ms (ms V 72 11 (lF g w).1) 72 12 (lF g w).2)) hg rfl) 0 (by omega)) ?_
      refine j_idiv C dX6_laysFaces_36 (by have := ok.1; omega) (by omega) ?_
      refine j_top (b := ((w / gN g : Nat) : Int)) (by rw [n1.1]; exact bDiv_nat (by omega) (by omega) (by omega)) ?_
      refine j_istore_n (lv' := [(0, sr 72), (1, si (w : Int)), (2, si ((w / gN g : Nat) : Int))]) C dX6_laysFaces_37 (by decide) rfl ?_
      refine j_iload_n C dX6_laysFaces_38 rfl ?_
      refine j_aload_n C dX6_laysFaces_39 rfl ?_
      refine j_get (v := sr 73) C 72 0 (by decide) (en_72 _ _) rfl (by decide) (fun w h => List.mem_cons_of_mem _ (List.mem_append_right _ h)) (List.mem_of_getElem? (i := 3) rfl) dX6_laysFaces_40 rfl ?_
      refine j_iconst C dX6_laysFaces_43 ?_
      refine j_iald C (row_73 O) 0 rfl (by decide) dX6_laysFaces_44 ?_
      refine j_top ((mdl_eq (V2 := (ms (ms V 72 11 (lF g w).1) 72 12 (lF g w).2)) hg rfl) 0 (by omega)) ?_
      refine j_irem C dX6_laysFaces_45 (by have := ok.1; omega) (by omega) ?_
      refine j_top (b := ((w % gN g : Nat) : Int)) (by rw [n1.1]; exact bRem_nat (by omega) (by omega) (by omega)) ?_
      refine j_istore_n (lv' := [(0, sr 72), (1, si (w : Int)), (2, si ((w / gN g : Nat) : Int)), (3, si ((w % gN g : Nat) : Int))]) C dX6_laysFaces_46 (by decide) rfl ?_
      refine j_aload_n C dX6_laysFaces_47 rfl ?_
      refine j_iload_n C dX6_laysFaces_48 rfl ?_
      refine j_iload_n C dX6_laysFaces_49 rfl ?_
      refine j_doI (st := []) (j_runV C (kX6_areThin (mdl_eq (V2 := (ms (ms V 72 11 (lF g w).1) 72 12 (lF g w).2)) hg rfl) ok (w / gN g) (w % gN g) rfl rfl (by omega) (by omega)) gX6_laysFaces_X6_areThin sgX6_areThin rfl ⟨by decide, by decide⟩ (by decide) (en_72 _ _) rfl rfl rfl (Nat.le_of_ble_eq_true rfl) dX6_laysFaces_50) (fun z_2 V_3 h_4 => ?_)
      obtain ⟨rfl, rfl⟩ := h_4
      refine j_ifb_eq (tgt := 170) C dX6_laysFaces_53 (by decide) (fun q_5 => ?_) (fun q_5 => ?_)
      · refine j_iinc (lv' := [(0, sr 72), (1, si ((w : Int) + 1)), (2, si ((w / gN g : Nat) : Int)), (3, si ((w % gN g : Nat) : Int))]) C dX6_laysFaces_170 rfl (by decide) rfl ?_
        refine j_goto (tgt := 12) C dX6_laysFaces_173 (by decide) ?_
        refine j_pick (lv' := [(0, sr 72), (1, si ((w : Int) + 1))]) [0, 1] rfl ?_
        refine j_mem (V2 := (ms (ms V 72 11 (lF g (w + 1)).1) 72 12 (lF g (w + 1)).2)) (by first | (rw [lF_s, if_neg (by simp_all)]; done) | (rw [lF_s, if_pos ‹_›, ms_72]; simp_all [mxZ, bI]; try (rw [if_neg (by omega)]); done)) ?_
        exact ih (w + 1) (by omega) (by omega)
      · refine j_iload_n C dX6_laysFaces_56 rfl ?_
        refine j_istore (lv' := [(0, sr 72), (1, si (w : Int)), (2, si ((w / gN g : Nat) : Int)), (3, si ((w % gN g : Nat) : Int)), (4, si ((w / gN g : Nat) : Int))]) C dX6_laysFaces_57 (by decide) rfl ?_
        refine j_iload_n C dX6_laysFaces_59 rfl ?_
        refine j_istore (lv' := [(0, sr 72), (1, si (w : Int)), (2, si ((w / gN g : Nat) : Int)), (3, si ((w % gN g : Nat) : Int)), (4, si ((w / gN g : Nat) : Int)), (5, si ((w % gN g : Nat) : Int))]) C dX6_laysFaces_60 (by decide) rfl ?_
        refine j_iconst C dX6_laysFaces_62 ?_
        refine j_istore (lv' := [(0, sr 72), (1, si (w : Int)), (2, si ((w / gN g : Nat) : Int)), (3, si ((w % gN g : Nat) : Int)), (4, si ((w / gN g : Nat) : Int)), (5, si ((w % gN g : Nat) : Int)), (6, si 1)]) C dX6_laysFaces_63 (by decide) rfl ?_
        refine j_iconst C dX6_laysFaces_65 ?_
        refine j_istore (lv' := [(0, sr 72), (1, si (w : Int)), (2, si ((w / gN g : Nat) : Int)), (3, si ((w % gN g : Nat) : Int)), (4, si ((w / gN g : Nat) : Int)), (5, si ((w % gN g : Nat) : Int)), (6, si 1), (7, si 0)]) C dX6_laysFaces_66 (by decide) rfl ?_
        refine lpX6_lay2 C ok (mdl_eq (V2 := (ms (ms V 72 11 (lF g w).1) 72 12 (lF g w).2)) hg rfl) (u := w / gN g) (v := w % gN g) q_5 (by omega) ?_ _ 0 (by have := (gFl_spec ok q_5).2.1; omega) (by omega : gFl g (w / gN g) (w % gN g) ≤ gFl g (w / gN g) (w % gN g) + 0)
        have hT := q_5
        refine j_aload_n C dX6_laysFaces_129 rfl ?_
        refine j_dup C dX6_laysFaces_130 rfl ?_
        refine j_get (v := si ((ms (ms V 72 11 (lF g w).1) 72 12 (lF g w).2) 72 11)) C 72 11 (by decide) (en_72 _ _) rfl (by decide) (fun w h => List.mem_cons_of_mem _ (List.mem_append_right _ h)) (List.mem_of_getElem? (i := 1) rfl) dX6_laysFaces_131 rfl ?_
        refine j_top (show (ms (ms V 72 11 (lF g w).1) 72 12 (lF g w).2) 72 11 = (lF g w).1 from rfl) ?_
        refine j_iload C dX6_laysFaces_134 rfl ?_
        refine j_ifb_eq (tgt := 143) C dX6_laysFaces_136 (by decide) (fun q_6 => ?_) (fun q_6 => ?_)
        · refine j_iconst C dX6_laysFaces_143 ?_
          refine j_iadd C dX6_laysFaces_144 ?_
          refine j_put C 72 11 (by decide) (en_72 _ _) rfl pcl6 (by decide) (fun w h => List.mem_cons_of_mem _ (List.mem_append_right _ h)) (List.mem_of_getElem? (i := 1) rfl) rfl rfl (fit_i _) (Nat.le_of_ble_eq_true rfl) dX6_laysFaces_145 ?_
          refine j_aload_n C dX6_laysFaces_148 rfl ?_
          refine j_iload C dX6_laysFaces_149 rfl ?_
          refine j_aload_n C dX6_laysFaces_151 rfl ?_
          refine j_get (v := si ((ms (ms (ms V 72 11 (lF g w).1) 72 12 (lF g w).2) 72 11 (((lF g w).1) + 0)) 72 12)) C 72 12 (by decide) (en_72 _ _) rfl (by decide) (fun w h => List.mem_cons_of_mem _ (List.mem_append_right _ h)) (List.mem_of_getElem? (i := 2) rfl) dX6_laysFaces_152 rfl ?_
          refine j_top (show (ms (ms (ms V 72 11 (lF g w).1) 72 12 (lF g w).2) 72 11 (((lF g w).1) + 0)) 72 12 = (lF g w).2 from rfl) ?_
          refine j_icmp_le (tgt := 163) C dX6_laysFaces_155 (by decide) (by have := (gFl_spec ok hT).2.2.1; omega) (by have := lF_rg ok w; omega) (fun q_7 => ?_) (fun q_7 => ?_)
          · refine j_aload_n C dX6_laysFaces_163 rfl ?_
            refine j_get (v := si ((ms (ms (ms V 72 11 (lF g w).1) 72 12 (lF g w).2) 72 11 (((lF g w).1) + 0)) 72 12)) C 72 12 (by decide) (en_72 _ _) rfl (by decide) (fun w h => List.mem_cons_of_mem _ (List.mem_append_right _ h)) (List.mem_of_getElem? (i := 2) rfl) dX6_laysFaces_164 rfl ?_
            refine j_top (show (ms (ms (ms V 72 11 (lF g w).1) 72 12 (lF g w).2) 72 11 (((lF g w).1) + 0)) 72 12 = (lF g w).2 from rfl) ?_
            refine j_put C 72 12 (by decide) (en_72 _ _) rfl pcl6 (by decide) (fun w h => List.mem_cons_of_mem _ (List.mem_append_right _ h)) (List.mem_of_getElem? (i := 2) rfl) rfl rfl (fit_i _) (Nat.le_of_ble_eq_true rfl) dX6_laysFaces_167 ?_
            refine j_iinc (lv' := [(0, sr 72), (1, si ((w : Int) + 1)), (2, si ((w / gN g : Nat) : Int)), (3, si ((w % gN g : Nat) : Int)), (6, si (bI (ffF g (w / gN g) (w % gN g) w (gFl g (w / gN g) (w % gN g))))), (7, si ((gFl g (w / gN g) (w % gN g) : Nat) : Int))]) C dX6_laysFaces_170 rfl (by decide) rfl ?_
            refine j_goto (tgt := 12) C dX6_laysFaces_173 (by decide) ?_
            refine j_pick (lv' := [(0, sr 72), (1, si ((w : Int) + 1))]) [0, 1] rfl ?_
            refine j_mem (V2 := (ms (ms V 72 11 (lF g (w + 1)).1) 72 12 (lF g (w + 1)).2)) (by first | (rw [lF_s, if_neg (by simp_all)]; done) | (rw [lF_s, if_pos ‹_›, ms_72]; simp_all [mxZ, bI]; try (rw [if_neg (by omega)]); done)) ?_
            exact ih (w + 1) (by omega) (by omega)
          · refine j_iload C dX6_laysFaces_158 rfl ?_
            refine j_goto (tgt := 167) C dX6_laysFaces_160 (by decide) ?_
            refine j_put C 72 12 (by decide) (en_72 _ _) rfl pcl6 (by decide) (fun w h => List.mem_cons_of_mem _ (List.mem_append_right _ h)) (List.mem_of_getElem? (i := 2) rfl) rfl rfl (fit_i _) (Nat.le_of_ble_eq_true rfl) dX6_laysFaces_167 ?_
            refine j_iinc (lv' := [(0, sr 72), (1, si ((w : Int) + 1)), (2, si ((w / gN g : Nat) : Int)), (3, si ((w % gN g : Nat) : Int)), (6, si (bI (ffF g (w / gN g) (w % gN g) w (gFl g (w / gN g) (w % gN g))))), (7, si ((gFl g (w / gN g) (w % gN g) : Nat) : Int))]) C dX6_laysFaces_170 rfl (by decide) rfl ?_
            refine j_goto (tgt := 12) C dX6_laysFaces_173 (by decide) ?_
            refine j_pick (lv' := [(0, sr 72), (1, si ((w : Int) + 1))]) [0, 1] rfl ?_
            refine j_mem (V2 := (ms (ms V 72 11 (lF g (w + 1)).1) 72 12 (lF g (w + 1)).2)) (by first | (rw [lF_s, if_neg (by simp_all)]; done) | (rw [lF_s, if_pos ‹_›, ms_72]; simp_all [mxZ, bI]; try (rw [if_neg (by omega)]); done)) ?_
            exact ih (w + 1) (by omega) (by omega)
        · refine j_iconst C dX6_laysFaces_139 ?_
          refine j_goto (tgt := 144) C dX6_laysFaces_140 (by decide) ?_
          refine j_iadd C dX6_laysFaces_144 ?_
          refine j_put C 72 11 (by decide) (en_72 _ _) rfl pcl6 (by decide) (fun w h => List.mem_cons_of_mem _ (List.mem_append_right _ h)) (List.mem_of_getElem? (i := 1) rfl) rfl rfl (fit_i _) (Nat.le_of_ble_eq_true rfl) dX6_laysFaces_145 ?_
          refine j_aload_n C dX6_laysFaces_148 rfl ?_
          refine j_iload C dX6_laysFaces_149 rfl ?_
          refine j_aload_n C dX6_laysFaces_151 rfl ?_
          refine j_get (v := si ((ms (ms (ms V 72 11 (lF g w).1) 72 12 (lF g w).2) 72 11 (((lF g w).1) + 1)) 72 12)) C 72 12 (by decide) (en_72 _ _) rfl (by decide) (fun w h => List.mem_cons_of_mem _ (List.mem_append_right _ h)) (List.mem_of_getElem? (i := 2) rfl) dX6_laysFaces_152 rfl ?_
          refine j_top (show (ms (ms (ms V 72 11 (lF g w).1) 72 12 (lF g w).2) 72 11 (((lF g w).1) + 1)) 72 12 = (lF g w).2 from rfl) ?_
          refine j_icmp_le (tgt := 163) C dX6_laysFaces_155 (by decide) (by have := (gFl_spec ok hT).2.2.1; omega) (by have := lF_rg ok w; omega) (fun q_8 => ?_) (fun q_8 => ?_)
          · refine j_aload_n C dX6_laysFaces_163 rfl ?_
            refine j_get (v := si ((ms (ms (ms V 72 11 (lF g w).1) 72 12 (lF g w).2) 72 11 (((lF g w).1) + 1)) 72 12)) C 72 12 (by decide) (en_72 _ _) rfl (by decide) (fun w h => List.mem_cons_of_mem _ (List.mem_append_right _ h)) (List.mem_of_getElem? (i := 2) rfl) dX6_laysFaces_164 rfl ?_
            refine j_top (show (ms (ms (ms V 72 11 (lF g w).1) 72 12 (lF g w).2) 72 11 (((lF g w).1) + 1)) 72 12 = (lF g w).2 from rfl) ?_
            refine j_put C 72 12 (by decide) (en_72 _ _) rfl pcl6 (by decide) (fun w h => List.mem_cons_of_mem _ (List.mem_append_right _ h)) (List.mem_of_getElem? (i := 2) rfl) rfl rfl (fit_i _) (Nat.le_of_ble_eq_true rfl) dX6_laysFaces_167 ?_
            refine j_iinc (lv' := [(0, sr 72), (1, si ((w : Int) + 1)), (2, si ((w / gN g : Nat) : Int)), (3, si ((w % gN g : Nat) : Int)), (6, si (bI (ffF g (w / gN g) (w % gN g) w (gFl g (w / gN g) (w % gN g))))), (7, si ((gFl g (w / gN g) (w % gN g) : Nat) : Int))]) C dX6_laysFaces_170 rfl (by decide) rfl ?_
            refine j_goto (tgt := 12) C dX6_laysFaces_173 (by decide) ?_
            refine j_pick (lv' := [(0, sr 72), (1, si ((w : Int) + 1))]) [0, 1] rfl ?_
            refine j_mem (V2 := (ms (ms V 72 11 (lF g (w + 1)).1) 72 12 (lF g (w + 1)).2)) (by first | (rw [lF_s, if_neg (by simp_all)]; done) | (rw [lF_s, if_pos ‹_›, ms_72]; simp_all [mxZ, bI]; try (rw [if_neg (by omega)]); done)) ?_
            exact ih (w + 1) (by omega) (by omega)
          · refine j_iload C dX6_laysFaces_158 rfl ?_
            refine j_goto (tgt := 167) C dX6_laysFaces_160 (by decide) ?_
            refine j_put C 72 12 (by decide) (en_72 _ _) rfl pcl6 (by decide) (fun w h => List.mem_cons_of_mem _ (List.mem_append_right _ h)) (List.mem_of_getElem? (i := 2) rfl) rfl rfl (fit_i _) (Nat.le_of_ble_eq_true rfl) dX6_laysFaces_167 ?_
            refine j_iinc (lv' := [(0, sr 72), (1, si ((w : Int) + 1)), (2, si ((w / gN g : Nat) : Int)), (3, si ((w % gN g : Nat) : Int)), (6, si (bI (ffF g (w / gN g) (w % gN g) w (gFl g (w / gN g) (w % gN g))))), (7, si ((gFl g (w / gN g) (w % gN g) : Nat) : Int))]) C dX6_laysFaces_170 rfl (by decide) rfl ?_
            refine j_goto (tgt := 12) C dX6_laysFaces_173 (by decide) ?_
            refine j_pick (lv' := [(0, sr 72), (1, si ((w : Int) + 1))]) [0, 1] rfl ?_
            refine j_mem (V2 := (ms (ms V 72 11 (lF g (w + 1)).1) 72 12 (lF g (w + 1)).2)) (by first | (rw [lF_s, if_neg (by simp_all)]; done) | (rw [lF_s, if_pos ‹_›, ms_72]; simp_all [mxZ, bI]; try (rw [if_neg (by omega)]); done)) ?_
            exact ih (w + 1) (by omega) (by omega)
set_option maxHeartbeats 4000000 in
set_option maxRecDepth 100000 in
theorem kX6_laysFaces {O : OmT} {l : Launch} {V : Mem} {g : Nat → Int} (hg : mdl V g) (ok : okg g) : MV O l yX6_laysFaces wsX6_laysFaces rX6_laysFaces [sr 72] V (fun V2 => V2 = (ms (ms V 72 11 (lF g (gN g * gN g)).1) 72 12 (lF g (gN g * gN g)).2)) := by
  refine mv_of (cc := cX6_laysFaces) (nL := 9) (rt := none) (by decide) rfl rfl (Nat.le_of_ble_eq_true rfl) (fun F hF C hQ => ?_)
  subst hF
  change J O F rX6_laysFaces 9 V 0 [(0, sr 72)] []
  refine j_aload_n C dX6_laysFaces_0 rfl ?_
  refine j_iconst C dX6_laysFaces_1 ?_
  refine j_put C 72 11 (by decide) (en_72 _ _) rfl pcl6 (by decide) (fun w h => List.mem_cons_of_mem _ (List.mem_append_right _ h)) (List.mem_of_getElem? (i := 1) rfl) rfl rfl (fit_i _) (Nat.le_of_ble_eq_true rfl) dX6_laysFaces_2 ?_
  refine j_aload_n C dX6_laysFaces_5 rfl ?_
  refine j_iconst C dX6_laysFaces_6 ?_
  refine j_put C 72 12 (by decide) (en_72 _ _) rfl pcl6 (by decide) (fun w h => List.mem_cons_of_mem _ (List.mem_append_right _ h)) (List.mem_of_getElem? (i := 2) rfl) rfl rfl (fit_i _) (Nat.le_of_ble_eq_true rfl) dX6_laysFaces_7 ?_
  refine j_iconst C dX6_laysFaces_10 ?_
  refine j_istore_n (lv' := [(0, sr 72), (1, si 0)]) C dX6_laysFaces_11 (by decide) rfl ?_
  refine j_mem (V2 := (ms (ms V 72 11 (lF g 0).1) 72 12 (lF g 0).2)) rfl ?_
  exact lpX6_lay C hQ hg ok rfl _ 0 (Nat.zero_le _) (Nat.lt_succ_self _)
