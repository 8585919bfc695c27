def rX6_goes : Room := { frames := 0, cells := 0, slots := 0, locals := 0 }
theorem sgX6_goes : sg yX6_goes wsX6_goes cX6_goes 2 none rX6_goes 1 := ⟨⟨_, rfl⟩, rfl, rfl, by decide, by decide, by decide +kernel⟩
set_option maxHeartbeats 4000000 in
set_option maxRecDepth 100000 in
theorem kX6_goes {O : OmT} {l : Launch} {V : Mem} {zv : Int} (v st : Nat) (ev : zv = (v : Int)) (hst : V 72 13 = (st : Int)) (h2 : st < 200) : MV O l yX6_goes wsX6_goes rX6_goes [sr 72, si zv] V (fun V2 => V2 = ms (ms (ms V 72 21 (v : Int)) 72 13 ((st : Int) + 1)) 80 (st + 1) (v : Int)) := by
  refine mv_of (cc := cX6_goes) (nL := 2) (rt := none) (by decide) rfl rfl (Nat.le_of_ble_eq_true rfl) (fun F hF C hQ => ?_)
  subst hF
  subst ev
  change J O F rX6_goes 2 V 0 [(0, sr 72), (1, si (v : Int))] []
  refine j_aload_n C dX6_goes_0 rfl ?_
  refine j_iload_n C dX6_goes_1 rfl ?_
  refine j_put C 72 21 (by decide) (en_72 _ _) rfl pcl6 (by decide) (fun w h => List.mem_cons_of_mem _ (List.mem_append_right _ h)) (List.mem_of_getElem? (i := 1) rfl) rfl rfl (fit_i _) (Nat.le_of_ble_eq_true rfl) dX6_goes_2 ?_
  refine j_aload_n C dX6_goes_5 rfl ?_
  refine j_dup C dX6_goes_6 rfl ?_
  refine j_get (v := si ((ms V 72 21 (v : Int)) 72 13)) C 72 13 (by decide) (en_72 _ _) rfl (by decide) (fun w h => List.mem_cons_of_mem _ (List.mem_append_right _ h)) (List.mem_of_getElem? (i := 2) rfl) dX6_goes_7 rfl ?_
  refine j_top (show (ms V 72 21 (v : Int)) 72 13 = _ from hst) ?_
  refine j_iconst C dX6_goes_10 ?_
  refine j_iadd C dX6_goes_11 ?_
  refine j_put C 72 13 (by decide) (en_72 _ _) rfl pcl6 (by decide) (fun w h => List.mem_cons_of_mem _ (List.mem_append_right _ h)) (List.mem_of_getElem? (i := 2) rfl) rfl rfl (fit_i _) (Nat.le_of_ble_eq_true rfl) dX6_goes_12 ?_
  refine j_aload_n C dX6_goes_15 rfl ?_
  refine j_get (v := sr 80) C 72 14 (by decide) (en_72 _ _) rfl (by decide) (fun w h => List.mem_cons_of_mem _ (List.mem_append_right _ h)) (List.mem_of_getElem? (i := 3) rfl) dX6_goes_16 rfl ?_
  refine j_aload_n C dX6_goes_19 rfl ?_
  refine j_get (v := si ((st : Int) + 1)) C 72 13 (by decide) (en_72 _ _) rfl (by decide) (fun w h => List.mem_cons_of_mem _ (List.mem_append_right _ h)) (List.mem_of_getElem? (i := 2) rfl) dX6_goes_20 rfl ?_
  refine j_iload_n C dX6_goes_23 rfl ?_
  refine j_iast C (row_80 O) (st + 1) (by omega) (by omega) dX6_goes_24 ?_
  refine j_vret C hQ dX6_goes_25 ?_
  rfl
def rX6_wasSo : Room := { frames := 0, cells := 0, slots := 0, locals := 0 }
theorem sgX6_wasSo : sg yX6_wasSo wsX6_wasSo cX6_wasSo 3 (some .boolean) rX6_wasSo 0 := ⟨⟨_, rfl⟩, rfl, rfl, by decide, by decide, by decide +kernel⟩
set_option maxHeartbeats 4000000 in
set_option maxRecDepth 100000 in
theorem lpX6_wasSo {O : OmT} {F : PhT} {V : Mem} (C : cx O F RX6 cX6_wasSo 3 (some .boolean) wsX6_wasSo) {post : Int → Mem → Prop} (hQ : qI O F post) {u e k : Nat} {x : Int} (hk : V 72 19 = (k : Int)) (hk2 : k ≤ 200) (hu : V 72 21 = (u : Int)) (he : V 72 22 = (e : Int)) (hx : V 72 25 = x) (hs1 : V 72 23 = 0) (hs2 : V 72 24 = 1) (hu2 : u < 10) (he2 : e < 10) (hx2 : -1 ≤ x ∧ x < 10) (hsr : ∀ i, i < 5 * k → -10 ≤ V 81 i ∧ V 81 i ≤ 10) (hpo : sawB V u e x k = true → post 1 V) (kx : sawB V u e x k = false → J O F rX6_wasSo 3 V 94 [(0, sr 72), (1, si (k : Int))] []) : ∀ (fuel : Nat) (w : Nat), (w ≤ k) → (sawB V u e x w = false) → k - w < fuel → J O F rX6_wasSo 3 V 2 [(0, sr 72), (1, si (w : Int))] [] := by
  intro fuel
  induction fuel with
  | zero => intro w hw hno hf; exact absurd hf (Nat.not_lt_zero _)
  | succ fuel ih =>
    intro w hw hno hf
    refine j_iload_n C dX6_wasSo_2 rfl ?_
    refine j_aload_n C dX6_wasSo_3 rfl ?_
    refine j_get (v := si (V 72 19)) C 72 19 (by decide) (en_72 _ _) rfl (by decide) (fun w h => List.mem_cons_of_mem _ (List.mem_append_right _ h)) (List.mem_of_getElem? (i := 1) rfl) dX6_wasSo_4 rfl ?_
    refine j_top hk ?_
    refine j_icmp_ge (tgt := 94) C dX6_wasSo_7 (by decide) (by omega) (by omega) (fun q_1 => ?_) (fun q_1 => ?_)
    · have e : w = k := by omega
      rw [e]
      exact kx (by rw [← e]; exact hno)
    · refine j_iconst C dX6_wasSo_10 ?_
      refine j_iload_n C dX6_wasSo_11 rfl ?_
      refine j_imul C dX6_wasSo_12 ?_
      refine j_istore_n (lv' := [(0, sr 72), (1, si (w : Int)), (2, si (5 * (w : Int)))]) C dX6_wasSo_13 (by decide) rfl ?_
      refine j_aload_n C dX6_wasSo_14 rfl ?_
      refine j_get (v := sr 81) C 72 20 (by decide) (en_72 _ _) rfl (by decide) (fun w h => List.mem_cons_of_mem _ (List.mem_append_right _ h)) (List.mem_of_getElem? (i := 2) rfl) dX6_wasSo_15 rfl ?_
      refine j_iload_n C dX6_wasSo_18 rfl ?_
      refine j_iald C (row_81 O) (5 * w) (by omega) (by omega) dX6_wasSo_19 ?_
      refine j_aload_n C dX6_wasSo_20 rfl ?_
      refine j_get (v := si (V 72 21)) C 72 21 (by decide) (en_72 _ _) rfl (by decide) (fun w h => List.mem_cons_of_mem _ (List.mem_append_right _ h)) (List.mem_of_getElem? (i := 3) rfl) dX6_wasSo_21 rfl ?_
      refine j_top hu ?_
      refine j_icmp_ne (tgt := 88) C dX6_wasSo_24 (by decide) (by have := hsr (5 * w) (by omega); omega) (by omega) (fun q_2 => ?_) (fun q_2 => ?_)
      · refine j_iinc (lv' := [(0, sr 72), (1, si ((w : Int) + 1)), (2, si (5 * (w : Int)))]) C dX6_wasSo_88 rfl (by decide) rfl ?_
        refine j_goto (tgt := 2) C dX6_wasSo_91 (by decide) ?_
        refine j_pick (lv' := [(0, sr 72), (1, si ((w : Int) + 1))]) [0, 1] rfl ?_
        exact ih (w + 1) (by omega) (by rw [sawB_s, hno]; simp_all <;> omega) (by omega)
      · refine j_aload_n C dX6_wasSo_27 rfl ?_
        refine j_get (v := sr 81) C 72 20 (by decide) (en_72 _ _) rfl (by decide) (fun w h => List.mem_cons_of_mem _ (List.mem_append_right _ h)) (List.mem_of_getElem? (i := 2) rfl) dX6_wasSo_28 rfl ?_
        refine j_iload_n C dX6_wasSo_31 rfl ?_
        refine j_iconst C dX6_wasSo_32 ?_
        refine j_iadd C dX6_wasSo_33 ?_
        refine j_iald C (row_81 O) ((5 * w) + 1) (by omega) (by omega) dX6_wasSo_34 ?_
        refine j_aload_n C dX6_wasSo_35 rfl ?_
        refine j_get (v := si (V 72 22)) C 72 22 (by decide) (en_72 _ _) rfl (by decide) (fun w h => List.mem_cons_of_mem _ (List.mem_append_right _ h)) (List.mem_of_getElem? (i := 4) rfl) dX6_wasSo_36 rfl ?_
        refine j_top he ?_
        refine j_icmp_ne (tgt := 88) C dX6_wasSo_39 (by decide) (by have := hsr ((5 * w) + 1) (by omega); omega) (by omega) (fun q_3 => ?_) (fun q_3 => ?_)
        · refine j_iinc (lv' := [(0, sr 72), (1, si ((w : Int) + 1)), (2, si (5 * (w : Int)))]) C dX6_wasSo_88 rfl (by decide) rfl ?_
          refine j_goto (tgt := 2) C dX6_wasSo_91 (by decide) ?_
          refine j_pick (lv' := [(0, sr 72), (1, si ((w : Int) + 1))]) [0, 1] rfl ?_
          exact ih (w + 1) (by omega) (by rw [sawB_s, hno]; simp_all <;> omega) (by omega)
        · refine j_aload_n C dX6_wasSo_42 rfl ?_
          refine j_get (v := sr 81) C 72 20 (by decide) (en_72 _ _) rfl (by decide) (fun w h => List.mem_cons_of_mem _ (List.mem_append_right _ h)) (List.mem_of_getElem? (i := 2) rfl) dX6_wasSo_43 rfl ?_
          refine j_iload_n C dX6_wasSo_46 rfl ?_
          refine j_iconst C dX6_wasSo_47 ?_
          refine j_iadd C dX6_wasSo_48 ?_
          refine j_iald C (row_81 O) ((5 * w) + 2) (by omega) (by omega) dX6_wasSo_49 ?_
          refine j_aload_n C dX6_wasSo_50 rfl ?_
          refine j_get (v := si (V 72 25)) C 72 25 (by decide) (en_72 _ _) rfl (by decide) (fun w h => List.mem_cons_of_mem _ (List.mem_append_right _ h)) (List.mem_of_getElem? (i := 5) rfl) dX6_wasSo_51 rfl ?_
          refine j_top hx ?_
          refine j_icmp_ne (tgt := 88) C dX6_wasSo_54 (by decide) (by have := hsr ((5 * w) + 2) (by omega); omega) (by omega) (fun q_4 => ?_) (fun q_4 => ?_)
          · refine j_iinc (lv' := [(0, sr 72), (1, si ((w : Int) + 1)), (2, si (5 * (w : Int)))]) C dX6_wasSo_88 rfl (by decide) rfl ?_
            refine j_goto (tgt := 2) C dX6_wasSo_91 (by decide) ?_
            refine j_pick (lv' := [(0, sr 72), (1, si ((w : Int) + 1))]) [0, 1] rfl ?_
            exact ih (w + 1) (by omega) (by rw [sawB_s, hno]; simp_all <;> omega) (by omega)
          · refine j_aload_n C dX6_wasSo_57 rfl ?_
            refine j_get (v := sr 81) C 72 20 (by decide) (en_72 _ _) rfl (by decide) (fun w h => List.mem_cons_of_mem _ (List.mem_append_right _ h)) (List.mem_of_getElem? (i := 2) rfl) dX6_wasSo_58 rfl ?_
            refine j_iload_n C dX6_wasSo_61 rfl ?_
            refine j_iconst C dX6_wasSo_62 ?_
            refine j_iadd C dX6_wasSo_63 ?_
            refine j_iald C (row_81 O) ((5 * w) + 3) (by omega) (by omega) dX6_wasSo_64 ?_
            refine j_aload_n C dX6_wasSo_65 rfl ?_
            refine j_get (v := si (V 72 24)) C 72 24 (by decide) (en_72 _ _) rfl (by decide) (fun w h => List.mem_cons_of_mem _ (List.mem_append_right _ h)) (List.mem_of_getElem? (i := 6) rfl) dX6_wasSo_66 rfl ?_
            refine j_top hs2 ?_
            refine j_imul C dX6_wasSo_69 ?_
            refine j_aload_n C dX6_wasSo_70 rfl ?_
            refine j_get (v := si (V 72 23)) C 72 23 (by decide) (en_72 _ _) rfl (by decide) (fun w h => List.mem_cons_of_mem _ (List.mem_append_right _ h)) (List.mem_of_getElem? (i := 7) rfl) dX6_wasSo_71 rfl ?_
            refine j_top hs1 ?_
            refine j_aload_n C dX6_wasSo_74 rfl ?_
            refine j_get (v := sr 81) C 72 20 (by decide) (en_72 _ _) rfl (by decide) (fun w h => List.mem_cons_of_mem _ (List.mem_append_right _ h)) (List.mem_of_getElem? (i := 2) rfl) dX6_wasSo_75 rfl ?_
            refine j_iload_n C dX6_wasSo_78 rfl ?_
            refine j_iconst C dX6_wasSo_79 ?_
            refine j_iadd C dX6_wasSo_80 ?_
            refine j_iald C (row_81 O) ((5 * w) + 4) (by omega) (by omega) dX6_wasSo_81 ?_
            refine j_imul C dX6_wasSo_82 ?_
            refine j_icmp_ne (tgt := 88) C dX6_wasSo_83 (by decide) (by have := hsr ((5 * w) + 3) (by omega); omega) (by have := hsr ((5 * w) + 4) (by omega); omega) (fun q_5 => ?_) (fun q_5 => ?_)
            · refine j_iinc (lv' := [(0, sr 72), (1, si ((w : Int) + 1)), (2, si (5 * (w : Int)))]) C dX6_wasSo_88 rfl (by decide) rfl ?_
              refine j_goto (tgt := 2) C dX6_wasSo_91 (by decide) ?_
              refine j_pick (lv' := [(0, sr 72), (1, si ((w : Int) + 1))]) [0, 1] rfl ?_
              exact ih (w + 1) (by omega) (by rw [sawB_s, hno]; simp_all <;> omega) (by omega)
            · refine j_iconst C dX6_wasSo_86 ?_
              refine j_zret C hQ (by decide) dX6_wasSo_87 ?_
              refine hpo (sawB_mono (show w + 1 ≤ k by omega) ?_)
              rw [sawB_s]; simp_all
set_option maxHeartbeats 4000000 in
set_option maxRecDepth 100000 in
theorem kX6_wasSo {O : OmT} {l : Launch} {V : Mem} (u e k : Nat) (x : Int) (hk : V 72 19 = (k : Int)) (hk2 : k < 200) (hu : V 72 21 = (u : Int)) (he : V 72 22 = (e : Int)) (hx : V 72 25 = x) (hs1 : V 72 23 = 0) (hs2 : V 72 24 = 1) (hu2 : u < 10) (he2 : e < 10) (hx2 : -1 ≤ x ∧ x < 10) (hsr : ∀ i, i < 5 * k → -10 ≤ V 81 i ∧ V 81 i ≤ 10) : MI O l yX6_wasSo wsX6_wasSo rX6_wasSo [sr 72] V (fun z V2 => (z = 1 ∧ V = V2 ∧ sawB V u e x k = true) ∨ (z = 0 ∧ V2 = pushW V u e x k ∧ sawB V u e x k = false)) := by
  refine mi_of (cc := cX6_wasSo) (nL := 3) (rt := (some .boolean)) (by decide) rfl rfl (Nat.le_of_ble_eq_true rfl) (fun F hF C hQ => ?_)
  subst hF
  change J O F rX6_wasSo 3 V 0 [(0, sr 72)] []
  refine j_iconst C dX6_wasSo_0 ?_
  refine j_istore_n (lv' := [(0, sr 72), (1, si 0)]) C dX6_wasSo_1 (by decide) rfl ?_
  refine lpX6_wasSo C hQ hk (Nat.le_of_lt hk2) hu he hx hs1 hs2 hu2 he2 hx2 hsr (fun h => Or.inl ⟨rfl, rfl, h⟩) ?_ _ 0 (Nat.zero_le _) rfl (Nat.lt_succ_self _)
  intro hno
  refine j_iconst C dX6_wasSo_94 ?_
  refine j_aload_n C dX6_wasSo_95 rfl ?_
  refine j_get (v := si (V 72 19)) C 72 19 (by decide) (en_72 _ _) rfl (by decide) (fun w h => List.mem_cons_of_mem _ (List.mem_append_right _ h)) (List.mem_of_getElem? (i := 1) rfl) dX6_wasSo_96 rfl ?_
  refine j_top hk ?_
  refine j_imul C dX6_wasSo_99 ?_
  refine j_istore_n (lv' := [(0, sr 72), (1, si (5 * (k : Int)))]) C dX6_wasSo_100 (by decide) rfl ?_
  refine j_aload_n C dX6_wasSo_101 rfl ?_
  refine j_get (v := sr 81) C 72 20 (by decide) (en_72 _ _) rfl (by decide) (fun w h => List.mem_cons_of_mem _ (List.mem_append_right _ h)) (List.mem_of_getElem? (i := 2) rfl) dX6_wasSo_102 rfl ?_
  refine j_iload_n C dX6_wasSo_105 rfl ?_
  refine j_aload_n C dX6_wasSo_106 rfl ?_
  refine j_get (v := si (V 72 21)) C 72 21 (by decide) (en_72 _ _) rfl (by decide) (fun w h => List.mem_cons_of_mem _ (List.mem_append_right _ h)) (List.mem_of_getElem? (i := 3) rfl) dX6_wasSo_107 rfl ?_
  refine j_top hu ?_
  refine j_iast C (row_81 O) (5 * k) (by omega) (by omega) dX6_wasSo_110 ?_
  refine j_aload_n C dX6_wasSo_111 rfl ?_
  refine j_get (v := sr 81) C 72 20 (by decide) (en_72 _ _) rfl (by decide) (fun w h => List.mem_cons_of_mem _ (List.mem_append_right _ h)) (List.mem_of_getElem? (i := 2) rfl) dX6_wasSo_112 rfl ?_
  refine j_iload_n C dX6_wasSo_115 rfl ?_
  refine j_iconst C dX6_wasSo_116 ?_
  refine j_iadd C dX6_wasSo_117 ?_
  refine j_aload_n C dX6_wasSo_118 rfl ?_
  refine j_get (v := si ((ms V 81 (5 * k) (u : Int)) 72 22)) C 72 22 (by decide) (en_72 _ _) rfl (by decide) (fun w h => List.mem_cons_of_mem _ (List.mem_append_right _ h)) (List.mem_of_getElem? (i := 4) rfl) dX6_wasSo_119 rfl ?_
  refine j_top (show (ms V 81 (5 * k) (u : Int)) 72 22 = _ from he) ?_
  refine j_iast C (row_81 O) ((5 * k) + 1) (by omega) (by omega) dX6_wasSo_122 ?_
  refine j_aload_n C dX6_wasSo_123 rfl ?_
  refine j_get (v := sr 81) C 72 20 (by decide) (en_72 _ _) rfl (by decide) (fun w h => List.mem_cons_of_mem _ (List.mem_append_right _ h)) (List.mem_of_getElem? (i := 2) rfl) dX6_wasSo_124 rfl ?_
  refine j_iload_n C dX6_wasSo_127 rfl ?_
  refine j_iconst C dX6_wasSo_128 ?_
  refine j_iadd C dX6_wasSo_129 ?_
  refine j_aload_n C dX6_wasSo_130 rfl ?_
  refine j_get (v := si ((ms (ms V 81 (5 * k) (u : Int)) 81 ((5 * k) + 1) (e : Int)) 72 25)) C 72 25 (by decide) (en_72 _ _) rfl (by decide) (fun w h => List.mem_cons_of_mem _ (List.mem_append_right _ h)) (List.mem_of_getElem? (i := 5) rfl) dX6_wasSo_131 rfl ?_
  refine j_top (show (ms (ms V 81 (5 * k) (u : Int)) 81 ((5 * k) + 1) (e : Int)) 72 25 = _ from hx) ?_
  refine j_iast C (row_81 O) ((5 * k) + 2) (by omega) (by omega) dX6_wasSo_134 ?_
  refine j_aload_n C dX6_wasSo_135 rfl ?_
  refine j_get (v := sr 81) C 72 20 (by decide) (en_72 _ _) rfl (by decide) (fun w h => List.mem_cons_of_mem _ (List.mem_append_right _ h)) (List.mem_of_getElem? (i := 2) rfl) dX6_wasSo_136 rfl ?_
  refine j_iload_n C dX6_wasSo_139 rfl ?_
  refine j_iconst C dX6_wasSo_140 ?_
  refine j_iadd C dX6_wasSo_141 ?_
  refine j_aload_n C dX6_wasSo_142 rfl ?_
  refine j_get (v := si ((ms (ms (ms V 81 (5 * k) (u : Int)) 81 ((5 * k) + 1) (e : Int)) 81 ((5 * k) + 2) x) 72 23)) C 72 23 (by decide) (en_72 _ _) rfl (by decide) (fun w h => List.mem_cons_of_mem _ (List.mem_append_right _ h)) (List.mem_of_getElem? (i := 7) rfl) dX6_wasSo_143 rfl ?_
  refine j_top (show (ms (ms (ms V 81 (5 * k) (u : Int)) 81 ((5 * k) + 1) (e : Int)) 81 ((5 * k) + 2) x) 72 23 = _ from hs1) ?_
  refine j_iast C (row_81 O) ((5 * k) + 3) (by omega) (by omega) dX6_wasSo_146 ?_
  refine j_aload_n C dX6_wasSo_147 rfl ?_
  refine j_get (v := sr 81) C 72 20 (by decide) (en_72 _ _) rfl (by decide) (fun w h => List.mem_cons_of_mem _ (List.mem_append_right _ h)) (List.mem_of_getElem? (i := 2) rfl) dX6_wasSo_148 rfl ?_
  refine j_iload_n C dX6_wasSo_151 rfl ?_
  refine j_iconst C dX6_wasSo_152 ?_
  refine j_iadd C dX6_wasSo_153 ?_
  refine j_aload_n C dX6_wasSo_154 rfl ?_
  refine j_get (v := si ((ms (ms (ms (ms V 81 (5 * k) (u : Int)) 81 ((5 * k) + 1) (e : Int)) 81 ((5 * k) + 2) x) 81 ((5 * k) + 3) 0) 72 24)) C 72 24 (by decide) (en_72 _ _) rfl (by decide) (fun w h => List.mem_cons_of_mem _ (List.mem_append_right _ h)) (List.mem_of_getElem? (i := 6) rfl) dX6_wasSo_155 rfl ?_
  refine j_top (show (ms (ms (ms (ms V 81 (5 * k) (u : Int)) 81 ((5 * k) + 1) (e : Int)) 81 ((5 * k) + 2) x) 81 ((5 * k) + 3) 0) 72 24 = _ from hs2) ?_
  refine j_iast C (row_81 O) ((5 * k) + 4) (by omega) (by omega) dX6_wasSo_158 ?_
  refine j_aload_n C dX6_wasSo_159 rfl ?_
  refine j_dup C dX6_wasSo_160 rfl ?_
  refine j_get (v := si ((ms (ms (ms (ms (ms V 81 (5 * k) (u : Int)) 81 ((5 * k) + 1) (e : Int)) 81 ((5 * k) + 2) x) 81 ((5 * k) + 3) 0) 81 ((5 * k) + 4) 1) 72 19)) C 72 19 (by decide) (en_72 _ _) rfl (by decide) (fun w h => List.mem_cons_of_mem _ (List.mem_append_right _ h)) (List.mem_of_getElem? (i := 1) rfl) dX6_wasSo_161 rfl ?_
  refine j_top (show (ms (ms (ms (ms (ms V 81 (5 * k) (u : Int)) 81 ((5 * k) + 1) (e : Int)) 81 ((5 * k) + 2) x) 81 ((5 * k) + 3) 0) 81 ((5 * k) + 4) 1) 72 19 = _ from hk) ?_
  refine j_iconst C dX6_wasSo_164 ?_
  refine j_iadd C dX6_wasSo_165 ?_
  refine j_put C 72 19 (by decide) (en_72 _ _) rfl pcl6 (by decide) (fun w h => List.mem_cons_of_mem _ (List.mem_append_right _ h)) (List.mem_of_getElem? (i := 1) rfl) rfl rfl (fit_i _) (Nat.le_of_ble_eq_true rfl) dX6_wasSo_166 ?_
  refine j_iconst C dX6_wasSo_169 ?_
  refine j_zret C hQ (by decide) dX6_wasSo_170 ?_
  exact Or.inr ⟨rfl, rfl, hno⟩
def rX6_changesFace : Room := { frames := 5, cells := 0, slots := 0, locals := 116 }
theorem sgX6_changesFace : sg yX6_changesFace wsX6_changesFace cX6_changesFace 10 (some .boolean) rX6_changesFace 1 := ⟨⟨_, rfl⟩, rfl, rfl, by decide, by decide, by decide +kernel⟩
set_option maxHeartbeats 4000000 in
set_option maxRecDepth 100000 in
theorem kX6_changesFace {O : OmT} {l : Launch} {V : Mem} {g : Nat → Int} (hg : mdl V g) (ok : okg g) {zt : Int} (t u e v : Nat) (et : zt = (t : Int)) (hu : V 72 21 = (u : Int)) (he : V 72 22 = (e : Int)) (hx : V 72 25 = (v : Int)) (hs1 : V 72 23 = 0) (hs2 : V 72 24 = 1) (hen : e < gN g) (htn : t < gN g) (hae : gA g e = true) (hat : gA g t = true) (het : e ≠ t) (hut : u ≠ t) (hR : gR g e t (gN g) = -1) (hT : gT g u v = true) (hF : gF g e t ≤ gF g u t) : MI O l yX6_changesFace wsX6_changesFace rX6_changesFace [sr 72, si zt] V (fun z V2 => V = V2 ∧ z = 0) := by
  refine mi_of (cc := cX6_changesFace) (nL := 10) (rt := (some .boolean)) (by decide) rfl rfl (Nat.le_of_ble_eq_true rfl) (fun F hF C hQ => ?_)
  subst hF
  subst et
  have n1 := ok.n
  have hl := gT_lt ok hT
  change J O F rX6_changesFace 10 V 0 [(0, sr 72), (1, si (t : Int))] []
  refine j_aload_n C dX6_changesFace_0 rfl ?_
  refine j_aload_n C dX6_changesFace_1 rfl ?_
  refine j_get (v := si (V 72 22)) C 72 22 (by decide) (en_72 _ _) rfl (by decide) (fun w h => List.mem_cons_of_mem _ (List.mem_append_right _ h)) (List.mem_of_getElem? (i := 1) rfl) dX6_changesFace_2 rfl ?_
  refine j_top he ?_
  refine j_iload_n C dX6_changesFace_5 rfl ?_
  refine j_aload_n C dX6_changesFace_6 rfl ?_
  refine j_get (v := si (V 72 21)) C 72 21 (by decide) (en_72 _ _) rfl (by decide) (fun w h => List.mem_cons_of_mem _ (List.mem_append_right _ h)) (List.mem_of_getElem? (i := 2) rfl) dX6_changesFace_7 rfl ?_
  refine j_top hu ?_
  refine j_doI (st := []) (j_runV C (kX6_side hg e t u rfl rfl rfl (by omega) (by omega) (by omega)) gX6_changesFace_X6_side sgX6_side rfl ⟨by decide, by decide⟩ (by decide) (en_72 _ _) rfl rfl rfl (Nat.le_of_ble_eq_true rfl) dX6_changesFace_10) (fun z_1 V_2 h_3 => ?_)
  obtain ⟨rfl, rfl⟩ := h_3
  refine j_istore_n (lv' := [(0, sr 72), (1, si (t : Int)), (2, si (gS g e t u))]) C dX6_changesFace_13 (by decide) rfl ?_
  refine j_aload_n C dX6_changesFace_14 rfl ?_
  refine j_aload_n C dX6_changesFace_15 rfl ?_
  refine j_get (v := si (V 72 22)) C 72 22 (by decide) (en_72 _ _) rfl (by decide) (fun w h => List.mem_cons_of_mem _ (List.mem_append_right _ h)) (List.mem_of_getElem? (i := 1) rfl) dX6_changesFace_16 rfl ?_
  refine j_top he ?_
  refine j_iload_n C dX6_changesFace_19 rfl ?_
  refine j_aload_n C dX6_changesFace_20 rfl ?_
  refine j_get (v := si (V 72 25)) C 72 25 (by decide) (en_72 _ _) rfl (by decide) (fun w h => List.mem_cons_of_mem _ (List.mem_append_right _ h)) (List.mem_of_getElem? (i := 3) rfl) dX6_changesFace_21 rfl ?_
  refine j_top hx ?_
  refine j_doI (st := []) (j_runV C (kX6_side hg e t v rfl rfl rfl (by omega) (by omega) (by omega)) gX6_changesFace_X6_side sgX6_side rfl ⟨by decide, by decide⟩ (by decide) (en_72 _ _) rfl rfl rfl (Nat.le_of_ble_eq_true rfl) dX6_changesFace_24) (fun z_4 V_5 h_6 => ?_)
  obtain ⟨rfl, rfl⟩ := h_6
  refine j_istore_n (lv' := [(0, sr 72), (1, si (t : Int)), (2, si (gS g e t u)), (3, si (gS g e t v))]) C dX6_changesFace_27 (by decide) rfl ?_
  refine j_iload_n C dX6_changesFace_28 rfl ?_
  refine j_if_lt (tgt := 36) C dX6_changesFace_29 (by decide) (by have := ok.s (a := e) (b := t) (c := u) (by omega) (by omega) (by omega); omega) (fun q_7 => ?_) (fun q_7 => ?_)
  · refine j_iconst C dX6_changesFace_36 ?_
    refine j_iload_n C dX6_changesFace_37 rfl ?_
    refine j_if_lt (tgt := 45) C dX6_changesFace_38 (by decide) (by have := ok.s (a := e) (b := t) (c := v) (by omega) (by omega) (by omega); omega) (fun q_8 => ?_) (fun q_8 => ?_)
    · refine j_iconst C dX6_changesFace_45 ?_
      refine j_icmp_ne (tgt := 51) C dX6_changesFace_46 (by decide) (by decide) (by decide) (fun q_9 => ?_) (fun q_9 => ?_)
      · omega
      · refine j_iconst C dX6_changesFace_49 ?_
        refine j_zret C hQ (by decide) dX6_changesFace_50 ?_
        exact ⟨rfl, rfl⟩
    · refine j_iconst C dX6_changesFace_41 ?_
      refine j_goto (tgt := 46) C dX6_changesFace_42 (by decide) ?_
      refine j_icmp_ne (tgt := 51) C dX6_changesFace_46 (by decide) (by decide) (by decide) (fun q_10 => ?_) (fun q_10 => ?_)
      · refine j_aload_n C dX6_changesFace_51 rfl ?_
        refine j_get (v := sr 73) C 72 0 (by decide) (en_72 _ _) rfl (by decide) (fun w h => List.mem_cons_of_mem _ (List.mem_append_right _ h)) (List.mem_of_getElem? (i := 4) rfl) dX6_changesFace_52 rfl ?_
        refine j_iconst C dX6_changesFace_55 ?_
        refine j_aload_n C dX6_changesFace_56 rfl ?_
        refine j_get (v := si (V 72 25)) C 72 25 (by decide) (en_72 _ _) rfl (by decide) (fun w h => List.mem_cons_of_mem _ (List.mem_append_right _ h)) (List.mem_of_getElem? (i := 3) rfl) dX6_changesFace_57 rfl ?_
        refine j_top hx ?_
        refine j_iadd C dX6_changesFace_60 ?_
        refine j_iald C (row_73 O) (4 + v) (by omega) (by omega) dX6_changesFace_61 ?_
        refine j_top (hg (4 + v) (by omega)) ?_
        refine j_aload_n C dX6_changesFace_62 rfl ?_
        refine j_get (v := sr 73) C 72 0 (by decide) (en_72 _ _) rfl (by decide) (fun w h => List.mem_cons_of_mem _ (List.mem_append_right _ h)) (List.mem_of_getElem? (i := 4) rfl) dX6_changesFace_63 rfl ?_
        refine j_iconst C dX6_changesFace_66 ?_
        refine j_aload_n C dX6_changesFace_67 rfl ?_
        refine j_get (v := si (V 72 21)) C 72 21 (by decide) (en_72 _ _) rfl (by decide) (fun w h => List.mem_cons_of_mem _ (List.mem_append_right _ h)) (List.mem_of_getElem? (i := 2) rfl) dX6_changesFace_68 rfl ?_
        refine j_top hu ?_
        refine j_iadd C dX6_changesFace_71 ?_
        refine j_iald C (row_73 O) (4 + u) (by omega) (by omega) dX6_changesFace_72 ?_
        refine j_top (hg (4 + u) (by omega)) ?_
        refine j_isub C dX6_changesFace_73 ?_
        refine j_istore (lv' := [(0, sr 72), (1, si (t : Int)), (2, si (gS g e t u)), (3, si (gS g e t v)), (4, si ((g (4 + v)) - (g (4 + u))))]) C dX6_changesFace_74 (by decide) rfl ?_
        refine j_aload_n C dX6_changesFace_76 rfl ?_
        refine j_get (v := sr 73) C 72 0 (by decide) (en_72 _ _) rfl (by decide) (fun w h => List.mem_cons_of_mem _ (List.mem_append_right _ h)) (List.mem_of_getElem? (i := 4) rfl) dX6_changesFace_77 rfl ?_
        refine j_bipush C dX6_changesFace_80 (by decide) ?_
        refine j_aload_n C dX6_changesFace_82 rfl ?_
        refine j_get (v := si (V 72 25)) C 72 25 (by decide) (en_72 _ _) rfl (by decide) (fun w h => List.mem_cons_of_mem _ (List.mem_append_right _ h)) (List.mem_of_getElem? (i := 3) rfl) dX6_changesFace_83 rfl ?_
        refine j_top hx ?_
        refine j_iadd C dX6_changesFace_86 ?_
        refine j_iald C (row_73 O) (14 + v) (by omega) (by omega) dX6_changesFace_87 ?_
        refine j_top (hg (14 + v) (by omega)) ?_
        refine j_aload_n C dX6_changesFace_88 rfl ?_
        refine j_get (v := sr 73) C 72 0 (by decide) (en_72 _ _) rfl (by decide) (fun w h => List.mem_cons_of_mem _ (List.mem_append_right _ h)) (List.mem_of_getElem? (i := 4) rfl) dX6_changesFace_89 rfl ?_
        refine j_bipush C dX6_changesFace_92 (by decide) ?_
        refine j_aload_n C dX6_changesFace_94 rfl ?_
        refine j_get (v := si (V 72 21)) C 72 21 (by decide) (en_72 _ _) rfl (by decide) (fun w h => List.mem_cons_of_mem _ (List.mem_append_right _ h)) (List.mem_of_getElem? (i := 2) rfl) dX6_changesFace_95 rfl ?_
        refine j_top hu ?_
        refine j_iadd C dX6_changesFace_98 ?_
        refine j_iald C (row_73 O) (14 + u) (by omega) (by omega) dX6_changesFace_99 ?_
        refine j_top (hg (14 + u) (by omega)) ?_
        refine j_isub C dX6_changesFace_100 ?_
        refine j_istore (lv' := [(0, sr 72), (1, si (t : Int)), (2, si (gS g e t u)), (3, si (gS g e t v)), (4, si ((g (4 + v)) - (g (4 + u)))), (5, si ((g (14 + v)) - (g (14 + u))))]) C dX6_changesFace_101 (by decide) rfl ?_
        refine j_aload_n C dX6_changesFace_103 rfl ?_
        refine j_get (v := sr 73) C 72 0 (by decide) (en_72 _ _) rfl (by decide) (fun w h => List.mem_cons_of_mem _ (List.mem_append_right _ h)) (List.mem_of_getElem? (i := 4) rfl) dX6_changesFace_104 rfl ?_
        refine j_iconst C dX6_changesFace_107 ?_
        refine j_aload_n C dX6_changesFace_108 rfl ?_
        refine j_get (v := si (V 72 21)) C 72 21 (by decide) (en_72 _ _) rfl (by decide) (fun w h => List.mem_cons_of_mem _ (List.mem_append_right _ h)) (List.mem_of_getElem? (i := 2) rfl) dX6_changesFace_109 rfl ?_
        refine j_top hu ?_
        refine j_iadd C dX6_changesFace_112 ?_
        refine j_iald C (row_73 O) (4 + u) (by omega) (by omega) dX6_changesFace_113 ?_
        refine j_top (hg (4 + u) (by omega)) ?_
        refine j_aload_n C dX6_changesFace_114 rfl ?_
        refine j_get (v := sr 73) C 72 0 (by decide) (en_72 _ _) rfl (by decide) (fun w h => List.mem_cons_of_mem _ (List.mem_append_right _ h)) (List.mem_of_getElem? (i := 4) rfl) dX6_changesFace_115 rfl ?_
        refine j_iconst C dX6_changesFace_118 ?_
        refine j_aload_n C dX6_changesFace_119 rfl ?_
        refine j_get (v := si (V 72 22)) C 72 22 (by decide) (en_72 _ _) rfl (by decide) (fun w h => List.mem_cons_of_mem _ (List.mem_append_right _ h)) (List.mem_of_getElem? (i := 1) rfl) dX6_changesFace_120 rfl ?_
        refine j_top he ?_
        refine j_iadd C dX6_changesFace_123 ?_
        refine j_iald C (row_73 O) (4 + e) (by omega) (by omega) dX6_changesFace_124 ?_
        refine j_top (hg (4 + e) (by omega)) ?_
        refine j_isub C dX6_changesFace_125 ?_
        refine j_iload C dX6_changesFace_126 rfl ?_
        refine j_imul C dX6_changesFace_128 ?_
        refine j_aload_n C dX6_changesFace_129 rfl ?_
        refine j_get (v := sr 73) C 72 0 (by decide) (en_72 _ _) rfl (by decide) (fun w h => List.mem_cons_of_mem _ (List.mem_append_right _ h)) (List.mem_of_getElem? (i := 4) rfl) dX6_changesFace_130 rfl ?_
        refine j_bipush C dX6_changesFace_133 (by decide) ?_
        refine j_aload_n C dX6_changesFace_135 rfl ?_
        refine j_get (v := si (V 72 21)) C 72 21 (by decide) (en_72 _ _) rfl (by decide) (fun w h => List.mem_cons_of_mem _ (List.mem_append_right _ h)) (List.mem_of_getElem? (i := 2) rfl) dX6_changesFace_136 rfl ?_
        refine j_top hu ?_
        refine j_iadd C dX6_changesFace_139 ?_
        refine j_iald C (row_73 O) (14 + u) (by omega) (by omega) dX6_changesFace_140 ?_
        refine j_top (hg (14 + u) (by omega)) ?_
        refine j_aload_n C dX6_changesFace_141 rfl ?_
        refine j_get (v := sr 73) C 72 0 (by decide) (en_72 _ _) rfl (by decide) (fun w h => List.mem_cons_of_mem _ (List.mem_append_right _ h)) (List.mem_of_getElem? (i := 4) rfl) dX6_changesFace_142 rfl ?_
        refine j_bipush C dX6_changesFace_145 (by decide) ?_
        refine j_aload_n C dX6_changesFace_147 rfl ?_
        refine j_get (v := si (V 72 22)) C 72 22 (by decide) (en_72 _ _) rfl (by decide) (fun w h => List.mem_cons_of_mem _ (List.mem_append_right _ h)) (List.mem_of_getElem? (i := 1) rfl) dX6_changesFace_148 rfl ?_
        refine j_top he ?_
        refine j_iadd C dX6_changesFace_151 ?_
        refine j_iald C (row_73 O) (14 + e) (by omega) (by omega) dX6_changesFace_152 ?_
        refine j_top (hg (14 + e) (by omega)) ?_
        refine j_isub C dX6_changesFace_153 ?_
        refine j_iload C dX6_changesFace_154 rfl ?_
        refine j_imul C dX6_changesFace_156 ?_
        refine j_isub C dX6_changesFace_157 ?_
        refine j_istore (lv' := [(0, sr 72), (1, si (t : Int)), (2, si (gS g e t u)), (3, si (gS g e t v)), (4, si ((g (4 + v)) - (g (4 + u)))), (5, si ((g (14 + v)) - (g (14 + u)))), (6, si ((((g (4 + u)) - (g (4 + e))) * ((g (14 + v)) - (g (14 + u)))) - (((g (14 + u)) - (g (14 + e))) * ((g (4 + v)) - (g (4 + u))))))]) C dX6_changesFace_158 (by decide) rfl ?_
        refine j_aload_n C dX6_changesFace_160 rfl ?_
        refine j_get (v := sr 73) C 72 0 (by decide) (en_72 _ _) rfl (by decide) (fun w h => List.mem_cons_of_mem _ (List.mem_append_right _ h)) (List.mem_of_getElem? (i := 4) rfl) dX6_changesFace_161 rfl ?_
        refine j_iconst C dX6_changesFace_164 ?_
        refine j_iload_n C dX6_changesFace_165 rfl ?_
        refine j_iadd C dX6_changesFace_166 ?_
        refine j_iald C (row_73 O) (4 + t) (by omega) (by omega) dX6_changesFace_167 ?_
        refine j_top (hg (4 + t) (by omega)) ?_
        refine j_aload_n C dX6_changesFace_168 rfl ?_
        refine j_get (v := sr 73) C 72 0 (by decide) (en_72 _ _) rfl (by decide) (fun w h => List.mem_cons_of_mem _ (List.mem_append_right _ h)) (List.mem_of_getElem? (i := 4) rfl) dX6_changesFace_169 rfl ?_
        refine j_iconst C dX6_changesFace_172 ?_
        refine j_aload_n C dX6_changesFace_173 rfl ?_
        refine j_get (v := si (V 72 22)) C 72 22 (by decide) (en_72 _ _) rfl (by decide) (fun w h => List.mem_cons_of_mem _ (List.mem_append_right _ h)) (List.mem_of_getElem? (i := 1) rfl) dX6_changesFace_174 rfl ?_
        refine j_top he ?_
        refine j_iadd C dX6_changesFace_177 ?_
        refine j_iald C (row_73 O) (4 + e) (by omega) (by omega) dX6_changesFace_178 ?_
        refine j_top (hg (4 + e) (by omega)) ?_
        refine j_isub C dX6_changesFace_179 ?_
        refine j_iload C dX6_changesFace_180 rfl ?_
        refine j_imul C dX6_changesFace_182 ?_
        refine j_aload_n C dX6_changesFace_183 rfl ?_
        refine j_get (v := sr 73) C 72 0 (by decide) (en_72 _ _) rfl (by decide) (fun w h => List.mem_cons_of_mem _ (List.mem_append_right _ h)) (List.mem_of_getElem? (i := 4) rfl) dX6_changesFace_184 rfl ?_
        refine j_bipush C dX6_changesFace_187 (by decide) ?_
        refine j_iload_n C dX6_changesFace_189 rfl ?_
        refine j_iadd C dX6_changesFace_190 ?_
        refine j_iald C (row_73 O) (14 + t) (by omega) (by omega) dX6_changesFace_191 ?_
        refine j_top (hg (14 + t) (by omega)) ?_
        refine j_aload_n C dX6_changesFace_192 rfl ?_
        refine j_get (v := sr 73) C 72 0 (by decide) (en_72 _ _) rfl (by decide) (fun w h => List.mem_cons_of_mem _ (List.mem_append_right _ h)) (List.mem_of_getElem? (i := 4) rfl) dX6_changesFace_193 rfl ?_
        refine j_bipush C dX6_changesFace_196 (by decide) ?_
        refine j_aload_n C dX6_changesFace_198 rfl ?_
        refine j_get (v := si (V 72 22)) C 72 22 (by decide) (en_72 _ _) rfl (by decide) (fun w h => List.mem_cons_of_mem _ (List.mem_append_right _ h)) (List.mem_of_getElem? (i := 1) rfl) dX6_changesFace_199 rfl ?_
        refine j_top he ?_
        refine j_iadd C dX6_changesFace_202 ?_
        refine j_iald C (row_73 O) (14 + e) (by omega) (by omega) dX6_changesFace_203 ?_
        refine j_top (hg (14 + e) (by omega)) ?_
        refine j_isub C dX6_changesFace_204 ?_
        refine j_iload C dX6_changesFace_205 rfl ?_
        refine j_imul C dX6_changesFace_207 ?_
        refine j_isub C dX6_changesFace_208 ?_
        refine j_istore (lv' := [(0, sr 72), (1, si (t : Int)), (2, si (gS g e t u)), (3, si (gS g e t v)), (4, si ((g (4 + v)) - (g (4 + u)))), (5, si ((g (14 + v)) - (g (14 + u)))), (6, si ((((g (4 + u)) - (g (4 + e))) * ((g (14 + v)) - (g (14 + u)))) - (((g (14 + u)) - (g (14 + e))) * ((g (4 + v)) - (g (4 + u)))))), (7, si ((((g (4 + t)) - (g (4 + e))) * ((g (14 + v)) - (g (14 + u)))) - (((g (14 + t)) - (g (14 + e))) * ((g (4 + v)) - (g (4 + u))))))]) C dX6_changesFace_209 (by decide) rfl ?_
        refine j_iload C dX6_changesFace_211 rfl ?_
        refine j_if_ge (tgt := 226) C dX6_changesFace_213 (by decide) (by have z1 := dx_rg ok (show u < 10 by omega) (show e < 10 by omega) (show t < 10 by omega) (show v < 10 by omega); omega) (fun q_11 => ?_) (fun q_11 => ?_)
        · refine j_iload C dX6_changesFace_226 rfl ?_
          refine j_iload C dX6_changesFace_228 rfl ?_
          refine j_icmp_ge (tgt := 255) C dX6_changesFace_230 (by decide) (by have z1 := dx_rg ok (show u < 10 by omega) (show e < 10 by omega) (show t < 10 by omega) (show v < 10 by omega); omega) (by have z1 := dx_rg ok (show u < 10 by omega) (show e < 10 by omega) (show t < 10 by omega) (show v < 10 by omega); omega) (fun q_12 => ?_) (fun q_12 => ?_)
          · refine j_iconst C dX6_changesFace_255 ?_
            refine j_zret C hQ (by decide) dX6_changesFace_256 ?_
            exact ⟨rfl, rfl⟩
          · refine j_iload C dX6_changesFace_233 rfl ?_
            refine j_i2l C dX6_changesFace_235 (by have z1 := dx_rg ok (show u < 10 by omega) (show e < 10 by omega) (show t < 10 by omega) (show v < 10 by omega); omega) ?_
            refine j_aload_n C dX6_changesFace_236 rfl ?_
            refine j_get (v := si (V 72 24)) C 72 24 (by decide) (en_72 _ _) rfl (by decide) (fun w h => List.mem_cons_of_mem _ (List.mem_append_right _ h)) (List.mem_of_getElem? (i := 5) rfl) dX6_changesFace_237 rfl ?_
            refine j_top hs2 ?_
            refine j_i2l C dX6_changesFace_240 (by decide) ?_
            refine j_lmul C dX6_changesFace_241 ?_
            refine j_aload_n C dX6_changesFace_242 rfl ?_
            refine j_get (v := si (V 72 23)) C 72 23 (by decide) (en_72 _ _) rfl (by decide) (fun w h => List.mem_cons_of_mem _ (List.mem_append_right _ h)) (List.mem_of_getElem? (i := 6) rfl) dX6_changesFace_243 rfl ?_
            refine j_top hs1 ?_
            refine j_i2l C dX6_changesFace_246 (by decide) ?_
            refine j_iload C dX6_changesFace_247 rfl ?_
            refine j_i2l C dX6_changesFace_249 (by have z1 := dx_rg ok (show u < 10 by omega) (show e < 10 by omega) (show t < 10 by omega) (show v < 10 by omega); omega) ?_
            refine j_lmul C dX6_changesFace_250 ?_
            refine j_lcmp C dX6_changesFace_251 (by have z1 := dx_rg ok (show u < 10 by omega) (show e < 10 by omega) (show t < 10 by omega) (show v < 10 by omega); omega) (by have z1 := dx_rg ok (show u < 10 by omega) (show e < 10 by omega) (show t < 10 by omega) (show v < 10 by omega); omega) ?_
            refine j_if_gt (tgt := 257) C dX6_changesFace_252 (by decide) (cmpZ_rg _ _) (fun q_13 => ?_) (fun q_13 => ?_)
            · have c1 := cmpZ_pos q_13
              exact (cf_no ok hen htn hae hat het hut hR hT hF (by omega) rfl rfl (by omega)).elim
            · refine j_iconst C dX6_changesFace_255 ?_
              refine j_zret C hQ (by decide) dX6_changesFace_256 ?_
              exact ⟨rfl, rfl⟩
        · refine j_iload C dX6_changesFace_216 rfl ?_
          refine j_ineg C dX6_changesFace_218 ?_
          refine j_istore (lv' := [(0, sr 72), (1, si (t : Int)), (2, si (gS g e t u)), (3, si (gS g e t v)), (4, si ((g (4 + v)) - (g (4 + u)))), (5, si ((g (14 + v)) - (g (14 + u)))), (6, si (-((((g (4 + u)) - (g (4 + e))) * ((g (14 + v)) - (g (14 + u)))) - (((g (14 + u)) - (g (14 + e))) * ((g (4 + v)) - (g (4 + u))))))), (7, si ((((g (4 + t)) - (g (4 + e))) * ((g (14 + v)) - (g (14 + u)))) - (((g (14 + t)) - (g (14 + e))) * ((g (4 + v)) - (g (4 + u))))))]) C dX6_changesFace_219 (by decide) rfl ?_
          refine j_iload C dX6_changesFace_221 rfl ?_
          refine j_ineg C dX6_changesFace_223 ?_
          refine j_istore (lv' := [(0, sr 72), (1, si (t : Int)), (2, si (gS g e t u)), (3, si (gS g e t v)), (4, si ((g (4 + v)) - (g (4 + u)))), (5, si ((g (14 + v)) - (g (14 + u)))), (6, si (-((((g (4 + u)) - (g (4 + e))) * ((g (14 + v)) - (g (14 + u)))) - (((g (14 + u)) - (g (14 + e))) * ((g (4 + v)) - (g (4 + u))))))), (7, si (-((((g (4 + t)) - (g (4 + e))) * ((g (14 + v)) - (g (14 + u)))) - (((g (14 + t)) - (g (14 + e))) * ((g (4 + v)) - (g (4 + u)))))))]) C dX6_changesFace_224 (by decide) rfl ?_
          refine j_iload C dX6_changesFace_226 rfl ?_
          refine j_iload C dX6_changesFace_228 rfl ?_
          refine j_icmp_ge (tgt := 255) C dX6_changesFace_230 (by decide) (by have z1 := dx_rg ok (show u < 10 by omega) (show e < 10 by omega) (show t < 10 by omega) (show v < 10 by omega); omega) (by have z1 := dx_rg ok (show u < 10 by omega) (show e < 10 by omega) (show t < 10 by omega) (show v < 10 by omega); omega) (fun q_14 => ?_) (fun q_14 => ?_)
          · refine j_iconst C dX6_changesFace_255 ?_
            refine j_zret C hQ (by decide) dX6_changesFace_256 ?_
            exact ⟨rfl, rfl⟩
          · refine j_iload C dX6_changesFace_233 rfl ?_
            refine j_i2l C dX6_changesFace_235 (by have z1 := dx_rg ok (show u < 10 by omega) (show e < 10 by omega) (show t < 10 by omega) (show v < 10 by omega); omega) ?_
            refine j_aload_n C dX6_changesFace_236 rfl ?_
            refine j_get (v := si (V 72 24)) C 72 24 (by decide) (en_72 _ _) rfl (by decide) (fun w h => List.mem_cons_of_mem _ (List.mem_append_right _ h)) (List.mem_of_getElem? (i := 5) rfl) dX6_changesFace_237 rfl ?_
            refine j_top hs2 ?_
            refine j_i2l C dX6_changesFace_240 (by decide) ?_
            refine j_lmul C dX6_changesFace_241 ?_
            refine j_aload_n C dX6_changesFace_242 rfl ?_
            refine j_get (v := si (V 72 23)) C 72 23 (by decide) (en_72 _ _) rfl (by decide) (fun w h => List.mem_cons_of_mem _ (List.mem_append_right _ h)) (List.mem_of_getElem? (i := 6) rfl) dX6_changesFace_243 rfl ?_
            refine j_top hs1 ?_
            refine j_i2l C dX6_changesFace_246 (by decide) ?_
            refine j_iload C dX6_changesFace_247 rfl ?_
            refine j_i2l C dX6_changesFace_249 (by have z1 := dx_rg ok (show u < 10 by omega) (show e < 10 by omega) (show t < 10 by omega) (show v < 10 by omega); omega) ?_
            refine j_lmul C dX6_changesFace_250 ?_
            refine j_lcmp C dX6_changesFace_251 (by have z1 := dx_rg ok (show u < 10 by omega) (show e < 10 by omega) (show t < 10 by omega) (show v < 10 by omega); omega) (by have z1 := dx_rg ok (show u < 10 by omega) (show e < 10 by omega) (show t < 10 by omega) (show v < 10 by omega); omega) ?_
            refine j_if_gt (tgt := 257) C dX6_changesFace_252 (by decide) (cmpZ_rg _ _) (fun q_15 => ?_) (fun q_15 => ?_)
            · have c1 := cmpZ_pos q_15
              exact (cf_no ok hen htn hae hat het hut hR hT hF (by omega) rfl rfl (by omega)).elim
            · refine j_iconst C dX6_changesFace_255 ?_
              refine j_zret C hQ (by decide) dX6_changesFace_256 ?_
              exact ⟨rfl, rfl⟩
      · omega
  · refine j_iconst C dX6_changesFace_32 ?_
    refine j_goto (tgt := 37) C dX6_changesFace_33 (by decide) ?_
    refine j_iload_n C dX6_changesFace_37 rfl ?_
    refine j_if_lt (tgt := 45) C dX6_changesFace_38 (by decide) (by have := ok.s (a := e) (b := t) (c := v) (by omega) (by omega) (by omega); omega) (fun q_16 => ?_) (fun q_16 => ?_)
    · refine j_iconst C dX6_changesFace_45 ?_
      refine j_icmp_ne (tgt := 51) C dX6_changesFace_46 (by decide) (by decide) (by decide) (fun q_17 => ?_) (fun q_17 => ?_)
      · refine j_aload_n C dX6_changesFace_51 rfl ?_
        refine j_get (v := sr 73) C 72 0 (by decide) (en_72 _ _) rfl (by decide) (fun w h => List.mem_cons_of_mem _ (List.mem_append_right _ h)) (List.mem_of_getElem? (i := 4) rfl) dX6_changesFace_52 rfl ?_
        refine j_iconst C dX6_changesFace_55 ?_
        refine j_aload_n C dX6_changesFace_56 rfl ?_
        refine j_get (v := si (V 72 25)) C 72 25 (by decide) (en_72 _ _) rfl (by decide) (fun w h => List.mem_cons_of_mem _ (List.mem_append_right _ h)) (List.mem_of_getElem? (i := 3) rfl) dX6_changesFace_57 rfl ?_
        refine j_top hx ?_
        refine j_iadd C dX6_changesFace_60 ?_
        refine j_iald C (row_73 O) (4 + v) (by omega) (by omega) dX6_changesFace_61 ?_
        refine j_top (hg (4 + v) (by omega)) ?_
        refine j_aload_n C dX6_changesFace_62 rfl ?_
        refine j_get (v := sr 73) C 72 0 (by decide) (en_72 _ _) rfl (by decide) (fun w h => List.mem_cons_of_mem _ (List.mem_append_right _ h)) (List.mem_of_getElem? (i := 4) rfl) dX6_changesFace_63 rfl ?_
        refine j_iconst C dX6_changesFace_66 ?_
        refine j_aload_n C dX6_changesFace_67 rfl ?_
        refine j_get (v := si (V 72 21)) C 72 21 (by decide) (en_72 _ _) rfl (by decide) (fun w h => List.mem_cons_of_mem _ (List.mem_append_right _ h)) (List.mem_of_getElem? (i := 2) rfl) dX6_changesFace_68 rfl ?_
        refine j_top hu ?_
        refine j_iadd C dX6_changesFace_71 ?_
        refine j_iald C (row_73 O) (4 + u) (by omega) (by omega) dX6_changesFace_72 ?_
        refine j_top (hg (4 + u) (by omega)) ?_
        refine j_isub C dX6_changesFace_73 ?_
        refine j_istore (lv' := [(0, sr 72), (1, si (t : Int)), (2, si (gS g e t u)), (3, si (gS g e t v)), (4, si ((g (4 + v)) - (g (4 + u))))]) C dX6_changesFace_74 (by decide) rfl ?_
        refine j_aload_n C dX6_changesFace_76 rfl ?_
        refine j_get (v := sr 73) C 72 0 (by decide) (en_72 _ _) rfl (by decide) (fun w h => List.mem_cons_of_mem _ (List.mem_append_right _ h)) (List.mem_of_getElem? (i := 4) rfl) dX6_changesFace_77 rfl ?_
        refine j_bipush C dX6_changesFace_80 (by decide) ?_
        refine j_aload_n C dX6_changesFace_82 rfl ?_
        refine j_get (v := si (V 72 25)) C 72 25 (by decide) (en_72 _ _) rfl (by decide) (fun w h => List.mem_cons_of_mem _ (List.mem_append_right _ h)) (List.mem_of_getElem? (i := 3) rfl) dX6_changesFace_83 rfl ?_
        refine j_top hx ?_
        refine j_iadd C dX6_changesFace_86 ?_
        refine j_iald C (row_73 O) (14 + v) (by omega) (by omega) dX6_changesFace_87 ?_
        refine j_top (hg (14 + v) (by omega)) ?_
        refine j_aload_n C dX6_changesFace_88 rfl ?_
        refine j_get (v := sr 73) C 72 0 (by decide) (en_72 _ _) rfl (by decide) (fun w h => List.mem_cons_of_mem _ (List.mem_append_right _ h)) (List.mem_of_getElem? (i := 4) rfl) dX6_changesFace_89 rfl ?_
        refine j_bipush C dX6_changesFace_92 (by decide) ?_
        refine j_aload_n C dX6_changesFace_94 rfl ?_
        refine j_get (v := si (V 72 21)) C 72 21 (by decide) (en_72 _ _) rfl (by decide) (fun w h => List.mem_cons_of_mem _ (List.mem_append_right _ h)) (List.mem_of_getElem? (i := 2) rfl) dX6_changesFace_95 rfl ?_
        refine j_top hu ?_
        refine j_iadd C dX6_changesFace_98 ?_
        refine j_iald C (row_73 O) (14 + u) (by omega) (by omega) dX6_changesFace_99 ?_
        refine j_top (hg (14 + u) (by omega)) ?_
        refine j_isub C dX6_changesFace_100 ?_
        refine j_istore (lv' := [(0, sr 72), (1, si (t : Int)), (2, si (gS g e t u)), (3, si (gS g e t v)), (4, si ((g (4 + v)) - (g (4 + u)))), (5, si ((g (14 + v)) - (g (14 + u))))]) C dX6_changesFace_101 (by decide) rfl ?_
        refine j_aload_n C dX6_changesFace_103 rfl ?_
        refine j_get (v := sr 73) C 72 0 (by decide) (en_72 _ _) rfl (by decide) (fun w h => List.mem_cons_of_mem _ (List.mem_append_right _ h)) (List.mem_of_getElem? (i := 4) rfl) dX6_changesFace_104 rfl ?_
        refine j_iconst C dX6_changesFace_107 ?_
        refine j_aload_n C dX6_changesFace_108 rfl ?_
        refine j_get (v := si (V 72 21)) C 72 21 (by decide) (en_72 _ _) rfl (by decide) (fun w h => List.mem_cons_of_mem _ (List.mem_append_right _ h)) (List.mem_of_getElem? (i := 2) rfl) dX6_changesFace_109 rfl ?_
        refine j_top hu ?_
        refine j_iadd C dX6_changesFace_112 ?_
        refine j_iald C (row_73 O) (4 + u) (by omega) (by omega) dX6_changesFace_113 ?_
        refine j_top (hg (4 + u) (by omega)) ?_
        refine j_aload_n C dX6_changesFace_114 rfl ?_
        refine j_get (v := sr 73) C 72 0 (by decide) (en_72 _ _) rfl (by decide) (fun w h => List.mem_cons_of_mem _ (List.mem_append_right _ h)) (List.mem_of_getElem? (i := 4) rfl) dX6_changesFace_115 rfl ?_
        refine j_iconst C dX6_changesFace_118 ?_
        refine j_aload_n C dX6_changesFace_119 rfl ?_
        refine j_get (v := si (V 72 22)) C 72 22 (by decide) (en_72 _ _) rfl (by decide) (fun w h => List.mem_cons_of_mem _ (List.mem_append_right _ h)) (List.mem_of_getElem? (i := 1) rfl) dX6_changesFace_120 rfl ?_
        refine j_top he ?_
        refine j_iadd C dX6_changesFace_123 ?_
        refine j_iald C (row_73 O) (4 + e) (by omega) (by omega) dX6_changesFace_124 ?_
        refine j_top (hg (4 + e) (by omega)) ?_
        refine j_isub C dX6_changesFace_125 ?_
        refine j_iload C dX6_changesFace_126 rfl ?_
        refine j_imul C dX6_changesFace_128 ?_
        refine j_aload_n C dX6_changesFace_129 rfl ?_
        refine j_get (v := sr 73) C 72 0 (by decide) (en_72 _ _) rfl (by decide) (fun w h => List.mem_cons_of_mem _ (List.mem_append_right _ h)) (List.mem_of_getElem? (i := 4) rfl) dX6_changesFace_130 rfl ?_
        refine j_bipush C dX6_changesFace_133 (by decide) ?_
        refine j_aload_n C dX6_changesFace_135 rfl ?_
        refine j_get (v := si (V 72 21)) C 72 21 (by decide) (en_72 _ _) rfl (by decide) (fun w h => List.mem_cons_of_mem _ (List.mem_append_right _ h)) (List.mem_of_getElem? (i := 2) rfl) dX6_changesFace_136 rfl ?_
        refine j_top hu ?_
        refine j_iadd C dX6_changesFace_139 ?_
        refine j_iald C (row_73 O) (14 + u) (by omega) (by omega) dX6_changesFace_140 ?_
        refine j_top (hg (14 + u) (by omega)) ?_
        refine j_aload_n C dX6_changesFace_141 rfl ?_
        refine j_get (v := sr 73) C 72 0 (by decide) (en_72 _ _) rfl (by decide) (fun w h => List.mem_cons_of_mem _ (List.mem_append_right _ h)) (List.mem_of_getElem? (i := 4) rfl) dX6_changesFace_142 rfl ?_
        refine j_bipush C dX6_changesFace_145 (by decide) ?_
        refine j_aload_n C dX6_changesFace_147 rfl ?_
        refine j_get (v := si (V 72 22)) C 72 22 (by decide) (en_72 _ _) rfl (by decide) (fun w h => List.mem_cons_of_mem _ (List.mem_append_right _ h)) (List.mem_of_getElem? (i := 1) rfl) dX6_changesFace_148 rfl ?_
        refine j_top he ?_
        refine j_iadd C dX6_changesFace_151 ?_
        refine j_iald C (row_73 O) (14 + e) (by omega) (by omega) dX6_changesFace_152 ?_
        refine j_top (hg (14 + e) (by omega)) ?_
        refine j_isub C dX6_changesFace_153 ?_
        refine j_iload C dX6_changesFace_154 rfl ?_
        refine j_imul C dX6_changesFace_156 ?_
        refine j_isub C dX6_changesFace_157 ?_
        refine j_istore (lv' := [(0, sr 72), (1, si (t : Int)), (2, si (gS g e t u)), (3, si (gS g e t v)), (4, si ((g (4 + v)) - (g (4 + u)))), (5, si ((g (14 + v)) - (g (14 + u)))), (6, si ((((g (4 + u)) - (g (4 + e))) * ((g (14 + v)) - (g (14 + u)))) - (((g (14 + u)) - (g (14 + e))) * ((g (4 + v)) - (g (4 + u))))))]) C dX6_changesFace_158 (by decide) rfl ?_
        refine j_aload_n C dX6_changesFace_160 rfl ?_
        refine j_get (v := sr 73) C 72 0 (by decide) (en_72 _ _) rfl (by decide) (fun w h => List.mem_cons_of_mem _ (List.mem_append_right _ h)) (List.mem_of_getElem? (i := 4) rfl) dX6_changesFace_161 rfl ?_
        refine j_iconst C dX6_changesFace_164 ?_
        refine j_iload_n C dX6_changesFace_165 rfl ?_
        refine j_iadd C dX6_changesFace_166 ?_
        refine j_iald C (row_73 O) (4 + t) (by omega) (by omega) dX6_changesFace_167 ?_
        refine j_top (hg (4 + t) (by omega)) ?_
        refine j_aload_n C dX6_changesFace_168 rfl ?_
        refine j_get (v := sr 73) C 72 0 (by decide) (en_72 _ _) rfl (by decide) (fun w h => List.mem_cons_of_mem _ (List.mem_append_right _ h)) (List.mem_of_getElem? (i := 4) rfl) dX6_changesFace_169 rfl ?_
        refine j_iconst C dX6_changesFace_172 ?_
        refine j_aload_n C dX6_changesFace_173 rfl ?_
        refine j_get (v := si (V 72 22)) C 72 22 (by decide) (en_72 _ _) rfl (by decide) (fun w h => List.mem_cons_of_mem _ (List.mem_append_right _ h)) (List.mem_of_getElem? (i := 1) rfl) dX6_changesFace_174 rfl ?_
        refine j_top he ?_
        refine j_iadd C dX6_changesFace_177 ?_
        refine j_iald C (row_73 O) (4 + e) (by omega) (by omega) dX6_changesFace_178 ?_
        refine j_top (hg (4 + e) (by omega)) ?_
        refine j_isub C dX6_changesFace_179 ?_
        refine j_iload C dX6_changesFace_180 rfl ?_
        refine j_imul C dX6_changesFace_182 ?_
        refine j_aload_n C dX6_changesFace_183 rfl ?_
        refine j_get (v := sr 73) C 72 0 (by decide) (en_72 _ _) rfl (by decide) (fun w h => List.mem_cons_of_mem _ (List.mem_append_right _ h)) (List.mem_of_getElem? (i := 4) rfl) dX6_changesFace_184 rfl ?_
        refine j_bipush C dX6_changesFace_187 (by decide) ?_
        refine j_iload_n C dX6_changesFace_189 rfl ?_
        refine j_iadd C dX6_changesFace_190 ?_
        refine j_iald C (row_73 O) (14 + t) (by omega) (by omega) dX6_changesFace_191 ?_
        refine j_top (hg (14 + t) (by omega)) ?_
        refine j_aload_n C dX6_changesFace_192 rfl ?_
        refine j_get (v := sr 73) C 72 0 (by decide) (en_72 _ _) rfl (by decide) (fun w h => List.mem_cons_of_mem _ (List.mem_append_right _ h)) (List.mem_of_getElem? (i := 4) rfl) dX6_changesFace_193 rfl ?_
        refine j_bipush C dX6_changesFace_196 (by decide) ?_
        refine j_aload_n C dX6_changesFace_198 rfl ?_
        refine j_get (v := si (V 72 22)) C 72 22 (by decide) (en_72 _ _) rfl (by decide) (fun w h => List.mem_cons_of_mem _ (List.mem_append_right _ h)) (List.mem_of_getElem? (i := 1) rfl) dX6_changesFace_199 rfl ?_
        refine j_top he ?_
        refine j_iadd C dX6_changesFace_202 ?_
        refine j_iald C (row_73 O) (14 + e) (by omega) (by omega) dX6_changesFace_203 ?_
        refine j_top (hg (14 + e) (by omega)) ?_
        refine j_isub C dX6_changesFace_204 ?_
        refine j_iload C dX6_changesFace_205 rfl ?_
        refine j_imul C dX6_changesFace_207 ?_
        refine j_isub C dX6_changesFace_208 ?_
        refine j_istore (lv' := [(0, sr 72), (1, si (t : Int)), (2, si (gS g e t u)), (3, si (gS g e t v)), (4, si ((g (4 + v)) - (g (4 + u)))), (5, si ((g (14 + v)) - (g (14 + u)))), (6, si ((((g (4 + u)) - (g (4 + e))) * ((g (14 + v)) - (g (14 + u)))) - (((g (14 + u)) - (g (14 + e))) * ((g (4 + v)) - (g (4 + u)))))), (7, si ((((g (4 + t)) - (g (4 + e))) * ((g (14 + v)) - (g (14 + u)))) - (((g (14 + t)) - (g (14 + e))) * ((g (4 + v)) - (g (4 + u))))))]) C dX6_changesFace_209 (by decide) rfl ?_
        refine j_iload C dX6_changesFace_211 rfl ?_
        refine j_if_ge (tgt := 226) C dX6_changesFace_213 (by decide) (by have z1 := dx_rg ok (show u < 10 by omega) (show e < 10 by omega) (show t < 10 by omega) (show v < 10 by omega); omega) (fun q_18 => ?_) (fun q_18 => ?_)
        · refine j_iload C dX6_changesFace_226 rfl ?_
          refine j_iload C dX6_changesFace_228 rfl ?_
          refine j_icmp_ge (tgt := 255) C dX6_changesFace_230 (by decide) (by have z1 := dx_rg ok (show u < 10 by omega) (show e < 10 by omega) (show t < 10 by omega) (show v < 10 by omega); omega) (by have z1 := dx_rg ok (show u < 10 by omega) (show e < 10 by omega) (show t < 10 by omega) (show v < 10 by omega); omega) (fun q_19 => ?_) (fun q_19 => ?_)
          · refine j_iconst C dX6_changesFace_255 ?_
            refine j_zret C hQ (by decide) dX6_changesFace_256 ?_
            exact ⟨rfl, rfl⟩
          · refine j_iload C dX6_changesFace_233 rfl ?_
            refine j_i2l C dX6_changesFace_235 (by have z1 := dx_rg ok (show u < 10 by omega) (show e < 10 by omega) (show t < 10 by omega) (show v < 10 by omega); omega) ?_
            refine j_aload_n C dX6_changesFace_236 rfl ?_
            refine j_get (v := si (V 72 24)) C 72 24 (by decide) (en_72 _ _) rfl (by decide) (fun w h => List.mem_cons_of_mem _ (List.mem_append_right _ h)) (List.mem_of_getElem? (i := 5) rfl) dX6_changesFace_237 rfl ?_
            refine j_top hs2 ?_
            refine j_i2l C dX6_changesFace_240 (by decide) ?_
            refine j_lmul C dX6_changesFace_241 ?_
            refine j_aload_n C dX6_changesFace_242 rfl ?_
            refine j_get (v := si (V 72 23)) C 72 23 (by decide) (en_72 _ _) rfl (by decide) (fun w h => List.mem_cons_of_mem _ (List.mem_append_right _ h)) (List.mem_of_getElem? (i := 6) rfl) dX6_changesFace_243 rfl ?_
            refine j_top hs1 ?_
            refine j_i2l C dX6_changesFace_246 (by decide) ?_
            refine j_iload C dX6_changesFace_247 rfl ?_
            refine j_i2l C dX6_changesFace_249 (by have z1 := dx_rg ok (show u < 10 by omega) (show e < 10 by omega) (show t < 10 by omega) (show v < 10 by omega); omega) ?_
            refine j_lmul C dX6_changesFace_250 ?_
            refine j_lcmp C dX6_changesFace_251 (by have z1 := dx_rg ok (show u < 10 by omega) (show e < 10 by omega) (show t < 10 by omega) (show v < 10 by omega); omega) (by have z1 := dx_rg ok (show u < 10 by omega) (show e < 10 by omega) (show t < 10 by omega) (show v < 10 by omega); omega) ?_
            refine j_if_gt (tgt := 257) C dX6_changesFace_252 (by decide) (cmpZ_rg _ _) (fun q_20 => ?_) (fun q_20 => ?_)
            · have c1 := cmpZ_pos q_20
              exact (cf_no ok hen htn hae hat het hut hR hT hF (by omega) rfl rfl (by omega)).elim
            · refine j_iconst C dX6_changesFace_255 ?_
              refine j_zret C hQ (by decide) dX6_changesFace_256 ?_
              exact ⟨rfl, rfl⟩
        · refine j_iload C dX6_changesFace_216 rfl ?_
          refine j_ineg C dX6_changesFace_218 ?_
          refine j_istore (lv' := [(0, sr 72), (1, si (t : Int)), (2, si (gS g e t u)), (3, si (gS g e t v)), (4, si ((g (4 + v)) - (g (4 + u)))), (5, si ((g (14 + v)) - (g (14 + u)))), (6, si (-((((g (4 + u)) - (g (4 + e))) * ((g (14 + v)) - (g (14 + u)))) - (((g (14 + u)) - (g (14 + e))) * ((g (4 + v)) - (g (4 + u))))))), (7, si ((((g (4 + t)) - (g (4 + e))) * ((g (14 + v)) - (g (14 + u)))) - (((g (14 + t)) - (g (14 + e))) * ((g (4 + v)) - (g (4 + u))))))]) C dX6_changesFace_219 (by decide) rfl ?_
          refine j_iload C dX6_changesFace_221 rfl ?_
          refine j_ineg C dX6_changesFace_223 ?_
          refine j_istore (lv' := [(0, sr 72), (1, si (t : Int)), (2, si (gS g e t u)), (3, si (gS g e t v)), (4, si ((g (4 + v)) - (g (4 + u)))), (5, si ((g (14 + v)) - (g (14 + u)))), (6, si (-((((g (4 + u)) - (g (4 + e))) * ((g (14 + v)) - (g (14 + u)))) - (((g (14 + u)) - (g (14 + e))) * ((g (4 + v)) - (g (4 + u))))))), (7, si (-((((g (4 + t)) - (g (4 + e))) * ((g (14 + v)) - (g (14 + u)))) - (((g (14 + t)) - (g (14 + e))) * ((g (4 + v)) - (g (4 + u)))))))]) C dX6_changesFace_224 (by decide) rfl ?_
          refine j_iload C dX6_changesFace_226 rfl ?_
          refine j_iload C dX6_changesFace_228 rfl ?_
          refine j_icmp_ge (tgt := 255) C dX6_changesFace_230 (by decide) (by have z1 := dx_rg ok (show u < 10 by omega) (show e < 10 by omega) (show t < 10 by omega) (show v < 10 by omega); omega) (by have z1 := dx_rg ok (show u < 10 by omega) (show e < 10 by omega) (show t < 10 by omega) (show v < 10 by omega); omega) (fun q_21 => ?_) (fun q_21 => ?_)
          · refine j_iconst C dX6_changesFace_255 ?_
            refine j_zret C hQ (by decide) dX6_changesFace_256 ?_
            exact ⟨rfl, rfl⟩
          · refine j_iload C dX6_changesFace_233 rfl ?_
            refine j_i2l C dX6_changesFace_235 (by have z1 := dx_rg ok (show u < 10 by omega) (show e < 10 by omega) (show t < 10 by omega) (show v < 10 by omega); omega) ?_
            refine j_aload_n C dX6_changesFace_236 rfl ?_
            refine j_get (v := si (V 72 24)) C 72 24 (by decide) (en_72 _ _) rfl (by decide) (fun w h => List.mem_cons_of_mem _ (List.mem_append_right _ h)) (List.mem_of_getElem? (i := 5) rfl) dX6_changesFace_237 rfl ?_
            refine j_top hs2 ?_
            refine j_i2l C dX6_changesFace_240 (by decide) ?_
            refine j_lmul C dX6_changesFace_241 ?_
            refine j_aload_n C dX6_changesFace_242 rfl ?_
            refine j_get (v := si (V 72 23)) C 72 23 (by decide) (en_72 _ _) rfl (by decide) (fun w h => List.mem_cons_of_mem _ (List.mem_append_right _ h)) (List.mem_of_getElem? (i := 6) rfl) dX6_changesFace_243 rfl ?_
            refine j_top hs1 ?_
            refine j_i2l C dX6_changesFace_246 (by decide) ?_
            refine j_iload C dX6_changesFace_247 rfl ?_
            refine j_i2l C dX6_changesFace_249 (by have z1 := dx_rg ok (show u < 10 by omega) (show e < 10 by omega) (show t < 10 by omega) (show v < 10 by omega); omega) ?_
            refine j_lmul C dX6_changesFace_250 ?_
            refine j_lcmp C dX6_changesFace_251 (by have z1 := dx_rg ok (show u < 10 by omega) (show e < 10 by omega) (show t < 10 by omega) (show v < 10 by omega); omega) (by have z1 := dx_rg ok (show u < 10 by omega) (show e < 10 by omega) (show t < 10 by omega) (show v < 10 by omega); omega) ?_
            refine j_if_gt (tgt := 257) C dX6_changesFace_252 (by decide) (cmpZ_rg _ _) (fun q_22 => ?_) (fun q_22 => ?_)
            · have c1 := cmpZ_pos q_22
              exact (cf_no ok hen htn hae hat het hut hR hT hF (by omega) rfl rfl (by omega)).elim
            · refine j_iconst C dX6_changesFace_255 ?_
              refine j_zret C hQ (by decide) dX6_changesFace_256 ?_
              exact ⟨rfl, rfl⟩
      · omega
    · refine j_iconst C dX6_changesFace_41 ?_
      refine j_goto (tgt := 46) C dX6_changesFace_42 (by decide) ?_
      refine j_icmp_ne (tgt := 51) C dX6_changesFace_46 (by decide) (by decide) (by decide) (fun q_23 => ?_) (fun q_23 => ?_)
      · omega
      · refine j_iconst C dX6_changesFace_49 ?_
        refine j_zret C hQ (by decide) dX6_changesFace_50 ?_
        exact ⟨rfl, rfl⟩
