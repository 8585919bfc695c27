def rX6_remembers : Room := { frames := 0, cells := 0, slots := 0, locals := 0 }
theorem sgX6_remembers : sg yX6_remembers wsX6_remembers cX6_remembers 2 none rX6_remembers 0 := ⟨⟨_, rfl⟩, rfl, rfl, by decide, by decide, by decide +kernel⟩
set_option maxHeartbeats 4000000 in
set_option maxRecDepth 100000 in
theorem lpX6_remembers {O : OmT} {F : PhT} {V : Mem} (C : cx O F RX6 cX6_remembers 2 none wsX6_remembers) {ua : Nat} (hua : ua < 16) (hp3 : V 72 3 = (ua : Int)) (kx : J O F rX6_remembers 2 (cpm V 74 (24 * ua) (fun i => V 73 i) 24) 34 [(0, sr 72), (1, si (24 : Int))] []) : ∀ (fuel : Nat) (w : Nat), (w ≤ 24) → 24 - w < fuel → J O F rX6_remembers 2 (cpm V 74 (24 * ua) (fun i => V 73 i) w) 2 [(0, sr 72), (1, si (w : Int))] [] := by
  intro fuel
  induction fuel with
  | zero => intro w hw hf; exact absurd hf (Nat.not_lt_zero _)
  | succ fuel ih =>
    intro w hw hf
    refine j_iload_n C dX6_remembers_2 rfl ?_
    refine j_bipush C dX6_remembers_3 (by decide) ?_
    refine j_icmp_ge (tgt := 34) C dX6_remembers_5 (by decide) (by omega) (by decide) (fun q_1 => ?_) (fun q_1 => ?_)
    · have e : w = 24 := by omega
      rw [e]
      exact kx
    · refine j_aload_n C dX6_remembers_8 rfl ?_
      refine j_get (v := sr 74) C 72 1 (by decide) (en_72 _ _) rfl (by decide) (fun w h => List.mem_cons_of_mem _ (List.mem_append_right _ h)) (List.mem_of_getElem? (i := 1) rfl) dX6_remembers_9 rfl ?_
      refine j_bipush C dX6_remembers_12 (by decide) ?_
      refine j_aload_n C dX6_remembers_14 rfl ?_
      refine j_get (v := si ((cpm V 74 (24 * ua) (fun i => V 73 i) w) 72 3)) C 72 3 (by decide) (en_72 _ _) rfl (by decide) (fun w h => List.mem_cons_of_mem _ (List.mem_append_right _ h)) (List.mem_of_getElem? (i := 2) rfl) dX6_remembers_15 rfl ?_
      refine j_top (show (cpm V 74 (24 * ua) (fun i => V 73 i) w) 72 3 = (ua : Int) from hp3) ?_
      refine j_imul C dX6_remembers_18 ?_
      refine j_iload_n C dX6_remembers_19 rfl ?_
      refine j_iadd C dX6_remembers_20 ?_
      refine j_aload_n C dX6_remembers_21 rfl ?_
      refine j_get (v := sr 73) C 72 0 (by decide) (en_72 _ _) rfl (by decide) (fun w h => List.mem_cons_of_mem _ (List.mem_append_right _ h)) (List.mem_of_getElem? (i := 3) rfl) dX6_remembers_22 rfl ?_
      refine j_iload_n C dX6_remembers_25 rfl ?_
      refine j_iald C (row_73 O) w rfl (by omega) dX6_remembers_26 ?_
      refine j_top (show (cpm V 74 (24 * ua) (fun i => V 73 i) w) 73 w = V 73 w from rfl) ?_
      refine j_iast C (row_74 O) ((24 * ua) + w) (by omega) (by omega) dX6_remembers_27 ?_
      refine j_iinc (lv' := [(0, sr 72), (1, si ((w : Int) + 1))]) C dX6_remembers_28 rfl (by decide) rfl ?_
      refine j_goto (tgt := 2) C dX6_remembers_31 (by decide) ?_
      refine j_mem (V2 := (cpm V 74 (24 * ua) (fun i => V 73 i) (w + 1))) (cpm_s V 74 (24 * ua) _ w rfl rfl) ?_
      exact ih (w + 1) (by omega) (by omega)
set_option maxHeartbeats 4000000 in
set_option maxRecDepth 100000 in
theorem kX6_remembers {O : OmT} {l : Launch} {V : Mem} {s : St} (hM : MR V s) (hdp : s.2.2.2.1.1 ≤ 16) : MV O l yX6_remembers wsX6_remembers rX6_remembers [sr 72] V (fun V2 => MR V2 (rem s) ∧ loF V V2) := by
  obtain ⟨hp2, ua, hua, hp3, hp⟩ := hM.2.2.2.1
  refine mv_of (cc := cX6_remembers) (nL := 2) (rt := none) (by decide) rfl rfl (Nat.le_of_ble_eq_true rfl) (fun F hF C hQ => ?_)
  subst hF
  change J O F rX6_remembers 2 V 0 [(0, sr 72)] []
  refine j_iconst C dX6_remembers_0 ?_
  refine j_istore_n (lv' := [(0, sr 72), (1, si 0)]) C dX6_remembers_1 (by decide) rfl ?_
  refine j_mem (V2 := (cpm V 74 (24 * ua) (fun i => V 73 i) 0)) (cpm_0 V 74 (24 * ua) _) ?_
  refine lpX6_remembers C hua hp3 ?_ _ 0 (Nat.zero_le _) (Nat.lt_succ_self _)
  refine j_aload_n C dX6_remembers_34 rfl ?_
  refine j_aload_n C dX6_remembers_35 rfl ?_
  refine j_get (v := si ((cpm V 74 (24 * ua) (fun i => V 73 i) 24) 72 3)) C 72 3 (by decide) (en_72 _ _) rfl (by decide) (fun w h => List.mem_cons_of_mem _ (List.mem_append_right _ h)) (List.mem_of_getElem? (i := 2) rfl) dX6_remembers_36 rfl ?_
  refine j_top (show (cpm V 74 (24 * ua) (fun i => V 73 i) 24) 72 3 = (ua : Int) from hp3) ?_
  refine j_iconst C dX6_remembers_39 ?_
  refine j_iadd C dX6_remembers_40 ?_
  refine j_bipush C dX6_remembers_41 (by decide) ?_
  refine j_irem C dX6_remembers_43 (by decide) (by decide) ?_
  refine j_top (b := (((ua + 1) % 16 : Nat) : Int)) (bRem_nat (a := ua + 1) (b := 16) (by omega) (by decide) (by decide)) ?_
  refine j_put C 72 3 (by decide) (en_72 _ _) rfl pcl6 (by decide) (fun w h => List.mem_cons_of_mem _ (List.mem_append_right _ h)) (List.mem_of_getElem? (i := 2) rfl) rfl rfl (fit_i _) (Nat.le_of_ble_eq_true rfl) dX6_remembers_44 ?_
  refine j_aload_n C dX6_remembers_47 rfl ?_
  refine j_dup C dX6_remembers_48 rfl ?_
  refine j_get (v := si ((ms (cpm V 74 (24 * ua) (fun i => V 73 i) 24) 72 3 (((ua + 1) % 16 : Nat) : Int)) 72 2)) C 72 2 (by decide) (en_72 _ _) rfl (by decide) (fun w h => List.mem_cons_of_mem _ (List.mem_append_right _ h)) (List.mem_of_getElem? (i := 4) rfl) dX6_remembers_49 rfl ?_
  refine j_top (show (ms (cpm V 74 (24 * ua) (fun i => V 73 i) 24) 72 3 (((ua + 1) % 16 : Nat) : Int)) 72 2 = ((s.2.2.2.1.1 : Nat) : Int) from hp2) ?_
  refine j_aload_n C dX6_remembers_52 rfl ?_
  refine j_get (v := si ((ms (cpm V 74 (24 * ua) (fun i => V 73 i) 24) 72 3 (((ua + 1) % 16 : Nat) : Int)) 72 2)) C 72 2 (by decide) (en_72 _ _) rfl (by decide) (fun w h => List.mem_cons_of_mem _ (List.mem_append_right _ h)) (List.mem_of_getElem? (i := 4) rfl) dX6_remembers_53 rfl ?_
  refine j_top (show (ms (cpm V 74 (24 * ua) (fun i => V 73 i) 24) 72 3 (((ua + 1) % 16 : Nat) : Int)) 72 2 = ((s.2.2.2.1.1 : Nat) : Int) from hp2) ?_
  refine j_bipush C dX6_remembers_56 (by decide) ?_
  refine j_icmp_ge (tgt := 65) C dX6_remembers_58 (by decide) (by omega) (by decide) (fun q_1 => ?_) (fun q_1 => ?_)
  · refine j_iconst C dX6_remembers_65 ?_
    refine j_iadd C dX6_remembers_66 ?_
    refine j_put C 72 2 (by decide) (en_72 _ _) rfl pcl6 (by decide) (fun w h => List.mem_cons_of_mem _ (List.mem_append_right _ h)) (List.mem_of_getElem? (i := 4) rfl) rfl rfl (fit_i _) (Nat.le_of_ble_eq_true rfl) dX6_remembers_67 ?_
    refine j_vret C hQ dX6_remembers_70 ?_
    exact MR_rem (W := (ms (ms (cpm V 74 (24 * ua) (fun i => V 73 i) 24) 72 3 (((ua + 1) % 16 : Nat) : Int)) 72 2 (((s.2.2.2.1.1 : Nat) : Int) + 0))) hM hdp hua hp (by rw [if_neg (by omega)]; show ((s.2.2.2.1.1 : Nat) : Int) + _ = _; omega) rfl rfl rfl rfl (fun c h1 h2 => by rw [ms_ne _ h1, ms_ne _ h1, cpm_ne h2])
  · refine j_iconst C dX6_remembers_61 ?_
    refine j_goto (tgt := 66) C dX6_remembers_62 (by decide) ?_
    refine j_iadd C dX6_remembers_66 ?_
    refine j_put C 72 2 (by decide) (en_72 _ _) rfl pcl6 (by decide) (fun w h => List.mem_cons_of_mem _ (List.mem_append_right _ h)) (List.mem_of_getElem? (i := 4) rfl) rfl rfl (fit_i _) (Nat.le_of_ble_eq_true rfl) dX6_remembers_67 ?_
    refine j_vret C hQ dX6_remembers_70 ?_
    exact MR_rem (W := (ms (ms (cpm V 74 (24 * ua) (fun i => V 73 i) 24) 72 3 (((ua + 1) % 16 : Nat) : Int)) 72 2 (((s.2.2.2.1.1 : Nat) : Int) + 1))) hM hdp hua hp (by rw [if_pos (by omega)]; show ((s.2.2.2.1.1 : Nat) : Int) + _ = _; omega) rfl rfl rfl rfl (fun c h1 h2 => by rw [ms_ne _ h1, ms_ne _ h1, cpm_ne h2])
def rX6_comes : Room := { frames := 1, cells := 0, slots := 0, locals := 21 }
theorem sgX6_comes : sg yX6_comes wsX6_comes cX6_comes 4 (some .int) rX6_comes 2 := ⟨⟨_, rfl⟩, rfl, rfl, by decide, by decide, by decide +kernel⟩
set_option maxHeartbeats 4000000 in
set_option maxRecDepth 100000 in
theorem kX6_comes {O : OmT} {l : Launch} {V : Mem} {g : Nat → Int} {r : Rt} (hM : MR V (g, r)) (ok : okg g) (hdp : r.2.2.1.1 ≤ 16) (h0 : gN g < 10) {x y : Int} : MI O l yX6_comes wsX6_comes rX6_comes [sr 72, si x, si y] V (fun z V2 => (MR V2 (stg (rem (g, r)) (gAdd g x y)) ∧ loF V V2) ∧ z = (gN g : Int)) := by
  have n1 := ok.n
  have a1 := ok.a
  have hg : mdl V g := hM.1
  refine mi_of (cc := cX6_comes) (nL := 4) (rt := (some .int)) (by decide) rfl rfl (Nat.le_of_ble_eq_true rfl) (fun F hF C hQ => ?_)
  subst hF
  change J O F rX6_comes 4 V 0 [(0, sr 72), (1, si x), (2, si y)] []
  refine j_aload_n C dX6_comes_0 rfl ?_
  refine j_doV (st := []) (j_runV C (kX6_remembers (s := (g, r)) hM hdp) gX6_comes_X6_remembers sgX6_remembers rfl ⟨by decide, by decide⟩ (by decide) (en_72 _ _) rfl rfl rfl (Nat.le_of_ble_eq_true rfl) dX6_comes_1) (fun V_2 h_3 => ?_)
  refine j_aload_n C dX6_comes_4 rfl ?_
  refine j_get (v := sr 73) C 72 0 (by decide) (en_72 _ _) rfl (by decide) (fun w h => List.mem_cons_of_mem _ (List.mem_append_right _ h)) (List.mem_of_getElem? (i := 1) rfl) dX6_comes_5 rfl ?_
  refine j_iconst C dX6_comes_8 ?_
  refine j_iald C (row_73 O) 0 rfl (by decide) dX6_comes_9 ?_
  refine j_top (b := (gN g : Int)) (by exact ((show mdl V_2 g from h_3.1.1) 0 (by omega)).trans n1.1) ?_
  refine j_istore_n (lv' := [(0, sr 72), (1, si x), (2, si y), (3, si ((gN g : Nat) : Int))]) C dX6_comes_10 (by decide) rfl ?_
  refine j_aload_n C dX6_comes_11 rfl ?_
  refine j_get (v := sr 73) C 72 0 (by decide) (en_72 _ _) rfl (by decide) (fun w h => List.mem_cons_of_mem _ (List.mem_append_right _ h)) (List.mem_of_getElem? (i := 1) rfl) dX6_comes_12 rfl ?_
  refine j_iconst C dX6_comes_15 ?_
  refine j_iload_n C dX6_comes_16 rfl ?_
  refine j_iadd C dX6_comes_17 ?_
  refine j_iload_n C dX6_comes_18 rfl ?_
  refine j_iast C (row_73 O) (4 + (gN g)) (by omega) (by omega) dX6_comes_19 ?_
  refine j_aload_n C dX6_comes_20 rfl ?_
  refine j_get (v := sr 73) C 72 0 (by decide) (en_72 _ _) rfl (by decide) (fun w h => List.mem_cons_of_mem _ (List.mem_append_right _ h)) (List.mem_of_getElem? (i := 1) rfl) dX6_comes_21 rfl ?_
  refine j_bipush C dX6_comes_24 (by decide) ?_
  refine j_iload_n C dX6_comes_26 rfl ?_
  refine j_iadd C dX6_comes_27 ?_
  refine j_iload_n C dX6_comes_28 rfl ?_
  refine j_iast C (row_73 O) (14 + (gN g)) (by omega) (by omega) dX6_comes_29 ?_
  refine j_aload_n C dX6_comes_30 rfl ?_
  refine j_get (v := sr 73) C 72 0 (by decide) (en_72 _ _) rfl (by decide) (fun w h => List.mem_cons_of_mem _ (List.mem_append_right _ h)) (List.mem_of_getElem? (i := 1) rfl) dX6_comes_31 rfl ?_
  refine j_iconst C dX6_comes_34 ?_
  refine j_dup2 C dX6_comes_35 rfl rfl ?_
  refine j_iald C (row_73 O) 3 rfl (by decide) dX6_comes_36 ?_
  refine j_top (b := ((g 3).toNat : Int)) (by rw [ms_at, if_pos rfl, if_neg (by omega), ms_at, if_pos rfl, if_neg (by omega)]; exact ((show mdl V_2 g from h_3.1.1) 3 (by omega)).trans a1.1) ?_
  refine j_iconst C dX6_comes_37 ?_
  refine j_iload_n C dX6_comes_38 rfl ?_
  refine j_ishl C dX6_comes_39 ?_
  refine j_top (bShl_1 (by omega)) ?_
  refine j_ior C dX6_comes_40 ?_
  refine j_top (bOr_nat (by omega) (p2_31 (by omega))) ?_
  refine j_iast C (row_73 O) 3 rfl (by decide) dX6_comes_41 ?_
  refine j_aload_n C dX6_comes_42 rfl ?_
  refine j_get (v := sr 73) C 72 0 (by decide) (en_72 _ _) rfl (by decide) (fun w h => List.mem_cons_of_mem _ (List.mem_append_right _ h)) (List.mem_of_getElem? (i := 1) rfl) dX6_comes_43 rfl ?_
  refine j_iconst C dX6_comes_46 ?_
  refine j_dup2 C dX6_comes_47 rfl rfl ?_
  refine j_iald C (row_73 O) 0 rfl (by decide) dX6_comes_48 ?_
  refine j_top (b := (gN g : Int)) (by rw [ms_at, if_pos rfl, if_neg (by omega), ms_at, if_pos rfl, if_neg (by omega), ms_at, if_pos rfl, if_neg (by omega)]; exact ((show mdl V_2 g from h_3.1.1) 0 (by omega)).trans n1.1) ?_
  refine j_iconst C dX6_comes_49 ?_
  refine j_iadd C dX6_comes_50 ?_
  refine j_iast C (row_73 O) 0 rfl (by decide) dX6_comes_51 ?_
  refine j_iload_n C dX6_comes_52 rfl ?_
  refine j_iret C hQ dX6_comes_53 ?_
  have h9 := MR_add (s := rem (g, r)) (x := x) (y := y) h_3.1 ok h0
  exact ⟨⟨h9.1, loF_tr h_3.2 h9.2⟩, rfl⟩
def rX6_sets : Room := { frames := 1, cells := 0, slots := 0, locals := 21 }
theorem sgX6_sets : sg yX6_sets wsX6_sets cX6_sets 4 (some .int) rX6_sets 2 := ⟨⟨_, rfl⟩, rfl, rfl, by decide, by decide, by decide +kernel⟩
set_option maxHeartbeats 4000000 in
set_option maxRecDepth 100000 in
theorem kX6_sets {O : OmT} {l : Launch} {V : Mem} {g : Nat → Int} {r : Rt} (hM : MR V (g, r)) (ok : okg g) (hdp : r.2.2.1.1 ≤ 16) (k : Nat) (hk : k < 4) {zk x : Int} (ek : zk = (k : Int)) : MI O l yX6_sets wsX6_sets rX6_sets [sr 72, si zk, si x] V (fun z V2 => (MR V2 (stg (rem (g, r)) (updg g k x)) ∧ loF V V2) ∧ z = g k) := by
  have n1 := ok.n
  have a1 := ok.a
  have hg : mdl V g := hM.1
  refine mi_of (cc := cX6_sets) (nL := 4) (rt := (some .int)) (by decide) rfl rfl (Nat.le_of_ble_eq_true rfl) (fun F hF C hQ => ?_)
  subst hF
  subst ek
  change J O F rX6_sets 4 V 0 [(0, sr 72), (1, si (k : Int)), (2, si x)] []
  refine j_aload_n C dX6_sets_0 rfl ?_
  refine j_doV (st := []) (j_runV C (kX6_remembers (s := (g, r)) hM hdp) gX6_sets_X6_remembers sgX6_remembers rfl ⟨by decide, by decide⟩ (by decide) (en_72 _ _) rfl rfl rfl (Nat.le_of_ble_eq_true rfl) dX6_sets_1) (fun V_2 h_3 => ?_)
  refine j_aload_n C dX6_sets_4 rfl ?_
  refine j_get (v := sr 73) C 72 0 (by decide) (en_72 _ _) rfl (by decide) (fun w h => List.mem_cons_of_mem _ (List.mem_append_right _ h)) (List.mem_of_getElem? (i := 1) rfl) dX6_sets_5 rfl ?_
  refine j_iload_n C dX6_sets_8 rfl ?_
  refine j_iald C (row_73 O) k rfl (by omega) dX6_sets_9 ?_
  refine j_top (b := g k) (by exact (show mdl V_2 g from h_3.1.1) k (by omega)) ?_
  refine j_istore_n (lv' := [(0, sr 72), (1, si (k : Int)), (2, si x), (3, si (g k))]) C dX6_sets_10 (by decide) rfl ?_
  refine j_aload_n C dX6_sets_11 rfl ?_
  refine j_get (v := sr 73) C 72 0 (by decide) (en_72 _ _) rfl (by decide) (fun w h => List.mem_cons_of_mem _ (List.mem_append_right _ h)) (List.mem_of_getElem? (i := 1) rfl) dX6_sets_12 rfl ?_
  refine j_iload_n C dX6_sets_15 rfl ?_
  refine j_iload_n C dX6_sets_16 rfl ?_
  refine j_iast C (row_73 O) k rfl (by omega) dX6_sets_17 ?_
  refine j_iload_n C dX6_sets_18 rfl ?_
  refine j_iret C hQ dX6_sets_19 ?_
  have h9 := MR_set (s := rem (g, r)) (j := k) (x := x) h_3.1
  exact ⟨⟨h9.1, loF_tr h_3.2 h9.2⟩, rfl⟩
def rX6_node : Room := { frames := 2, cells := 0, slots := 0, locals := 44 }
theorem sgX6_node : sg yX6_node wsX6_node cX6_node 3 (some .int) rX6_node 2 := ⟨⟨_, rfl⟩, rfl, rfl, by decide, by decide, by decide +kernel⟩
set_option maxHeartbeats 4000000 in
set_option maxRecDepth 100000 in
theorem kX6_node {O : OmT} {l : Launch} {V : Mem} {g : Nat → Int} {r : Rt} (hM : MR V (g, r)) (os : okS (g, r)) (x : Int) (y : Int) (hx : -2147483648 ≤ x ∧ x < 2147483648) (hy : -2147483648 ≤ y ∧ y < 2147483648) : MI O l yX6_node wsX6_node rX6_node [sr 72, si x, si y] V (fun z V2 => MR V2 (dNode (g, r) x y).2 ∧ loF V V2 ∧ z = (dNode (g, r) x y).1) := by
  have ok : okg g := os.1
  have n1 := ok.n
  have a1 := ok.a
  have hg : mdl V g := hM.1
  have hdp : r.2.2.1.1 ≤ 16 := os.2.2.2.1.1
  have hbk : r.2.1.1 ≤ 20 := os.2.2.1.1
  refine mi_of (cc := cX6_node) (nL := 3) (rt := (some .int)) (by decide) rfl rfl (Nat.le_of_ble_eq_true rfl) (fun F hF C hQ => ?_)
  subst hF
  change J O F rX6_node 3 V 0 [(0, sr 72), (1, si x), (2, si y)] []
  refine j_iload_n C dX6_node_0 rfl ?_
  refine j_iload_n C dX6_node_1 rfl ?_
  refine j_doI (st := []) (j_runS C (kX6_isPlace x y (by omega) (by omega)) ggX6_node_X6_isPlace sgX6_isPlace (List.mem_of_getElem? (i := 5) rfl) (List.mem_of_getElem? (i := 7) rfl) (List.mem_of_getElem? (i := 6) rfl) ⟨by decide, by decide⟩ rfl rfl (Nat.le_of_ble_eq_true rfl) dX6_node_2) (fun z_1 V_2 h_3 => ?_)
  obtain ⟨rfl, rfl⟩ := h_3
  refine j_ifb_ne (tgt := 11) C dX6_node_5 (by decide) (fun q_4 => ?_) (fun q_4 => ?_)
  · refine j_aload_n C dX6_node_11 rfl ?_
    refine j_get (v := sr 73) C 72 0 (by decide) (en_72 _ _) rfl (by decide) (fun w h => List.mem_cons_of_mem _ (List.mem_append_right _ h)) (List.mem_of_getElem? (i := 2) rfl) dX6_node_12 rfl ?_
    refine j_iconst C dX6_node_15 ?_
    refine j_iald C (row_73 O) 0 rfl (by decide) dX6_node_16 ?_
    refine j_top (hg 0 (by omega)) ?_
    refine j_bipush C dX6_node_17 (by decide) ?_
    refine j_icmp_ne (tgt := 25) C dX6_node_19 (by decide) (by have := ok.1; omega) (by decide) (fun q_5 => ?_) (fun q_5 => ?_)
    · refine j_aload_n C dX6_node_25 rfl ?_
      refine j_iload_n C dX6_node_26 rfl ?_
      refine j_iload_n C dX6_node_27 rfl ?_
      refine j_doI (st := []) (j_runV C (kX6_nodeAt hg ok (by omega) (by omega)) gX6_node_X6_nodeAt sgX6_nodeAt rfl ⟨by decide, by decide⟩ (by decide) (en_72 _ _) rfl rfl rfl (Nat.le_of_ble_eq_true rfl) dX6_node_28) (fun z_6 V_7 h_8 => ?_)
      obtain ⟨rfl, rfl⟩ := h_8
      refine j_iconst C dX6_node_31 ?_
      refine j_icmp_ne (tgt := 44) C dX6_node_32 (by decide) (by have := gW_rg g x y (gN g); omega) (by decide) (fun q_9 => ?_) (fun q_9 => ?_)
      · refine j_ldc (n := -1000000003) C (List.mem_of_getElem? (i := 4) rfl) (by decide) dX6_node_44 ?_
        refine j_iret C hQ dX6_node_46 ?_
        have e9 : dNode (g, r) x y = (-1000000003, (g, r)) := by
          unfold dNode; dsimp only; rw [if_neg (fun z => z ‹gPl x y = true›), if_neg (by omega), if_pos (by omega)]
        rw [e9]; exact ⟨hM, loF_rf _, rfl⟩
      · refine j_aload_n C dX6_node_35 rfl ?_
        refine j_iload_n C dX6_node_36 rfl ?_
        refine j_iload_n C dX6_node_37 rfl ?_
        refine j_doI (st := []) (j_runV C (kX6_comes (g := g) (r := (g, r).2) hM ok hdp (by omega)) gX6_node_X6_comes sgX6_comes rfl ⟨by decide, by decide⟩ (by decide) (en_72 _ _) rfl rfl rfl (Nat.le_of_ble_eq_true rfl) dX6_node_38) (fun z_10 V_11 h_12 => ?_)
        obtain ⟨h_12, rfl⟩ := h_12
        have h_12 : MR V_11 (stg (rem (g, r)) (gAdd g x y)) ∧ loF _ V_11 := h_12
        refine j_goto (tgt := 46) C dX6_node_41 (by decide) ?_
        refine j_iret C hQ dX6_node_46 ?_
        have e9 : dNode (g, r) x y = (g 0, stg (rem (g, r)) (gAdd g x y)) := by
          unfold dNode; dsimp only; rw [if_neg (fun z => z ‹gPl x y = true›), if_neg (by omega), if_neg (by omega)]
        rw [e9]; exact ⟨h_12.1, h_12.2, (by omega)⟩
    · refine j_ldc (n := -1000000004) C (List.mem_of_getElem? (i := 3) rfl) (by decide) dX6_node_22 ?_
      refine j_iret C hQ dX6_node_24 ?_
      have e9 : dNode (g, r) x y = (-1000000004, (g, r)) := by
        unfold dNode; dsimp only; rw [if_neg (fun z => z ‹gPl x y = true›), if_pos (by omega)]
      rw [e9]; exact ⟨hM, loF_rf _, rfl⟩
  · refine j_ldc (n := -1000000002) C (List.mem_of_getElem? (i := 1) rfl) (by decide) dX6_node_8 ?_
    refine j_iret C hQ dX6_node_10 ?_
    have e9 : dNode (g, r) x y = (-1000000002, (g, r)) := by
      unfold dNode; dsimp only; rw [if_pos (by rw [‹gPl x y = false›]; decide)]
    rw [e9]; exact ⟨hM, loF_rf _, rfl⟩
def rX6_reach : Room := { frames := 2, cells := 0, slots := 0, locals := 44 }
theorem sgX6_reach : sg yX6_reach wsX6_reach cX6_reach 2 (some .int) rX6_reach 1 := ⟨⟨_, rfl⟩, rfl, rfl, by decide, by decide, by decide +kernel⟩
set_option maxHeartbeats 4000000 in
set_option maxRecDepth 100000 in
theorem kX6_reach {O : OmT} {l : Launch} {V : Mem} {g : Nat → Int} {r : Rt} (hM : MR V (g, r)) (os : okS (g, r)) (v : Int) (hv : -2147483648 ≤ v ∧ v < 2147483648) : MI O l yX6_reach wsX6_reach rX6_reach [sr 72, si v] V (fun z V2 => MR V2 (dReach (g, r) v).2 ∧ loF V V2 ∧ z = (dReach (g, r) v).1) := by
  have ok : okg g := os.1
  have n1 := ok.n
  have a1 := ok.a
  have hg : mdl V g := hM.1
  have hdp : r.2.2.1.1 ≤ 16 := os.2.2.2.1.1
  have hbk : r.2.1.1 ≤ 20 := os.2.2.1.1
  refine mi_of (cc := cX6_reach) (nL := 2) (rt := (some .int)) (by decide) rfl rfl (Nat.le_of_ble_eq_true rfl) (fun F hF C hQ => ?_)
  subst hF
  change J O F rX6_reach 2 V 0 [(0, sr 72), (1, si v)] []
  refine j_iload_n C dX6_reach_0 rfl ?_
  refine j_iconst C dX6_reach_1 ?_
  refine j_sipush C dX6_reach_2 (by decide) ?_
  refine j_doI (st := []) (j_runS C (kX6_in v 1 8000 (by omega) (by decide) (by decide)) ggX6_reach_X6_in sgX6_in (List.mem_of_getElem? (i := 2) rfl) (List.mem_of_getElem? (i := 4) rfl) (List.mem_of_getElem? (i := 3) rfl) ⟨by decide, by decide⟩ rfl rfl (Nat.le_of_ble_eq_true rfl) dX6_reach_5) (fun z_1 V_2 h_3 => ?_)
  obtain ⟨rfl, rfl⟩ := h_3
  refine j_ifb_eq (tgt := 20) C dX6_reach_8 (by decide) (fun q_4 => ?_) (fun q_4 => ?_)
  · refine j_ldc (n := -1000000002) C (List.mem_of_getElem? (i := 1) rfl) (by decide) dX6_reach_20 ?_
    refine j_iret C hQ dX6_reach_22 ?_
    have e9 : dReach (g, r) v = (-1000000002, (g, r)) := by
      unfold dReach; dsimp only; rw [if_pos (by simp only [Bool.and_eq_false_iff, decide_eq_false_iff_not] at *; omega)]
    rw [e9]; exact ⟨hM, loF_rf _, rfl⟩
  · refine j_aload_n C dX6_reach_11 rfl ?_
    refine j_iconst C dX6_reach_12 ?_
    refine j_iload_n C dX6_reach_13 rfl ?_
    refine j_doI (st := []) (j_runV C (kX6_sets (g := g) (r := r) hM ok hdp 1 (by decide) rfl) gX6_reach_X6_sets sgX6_sets rfl ⟨by decide, by decide⟩ (by decide) (en_72 _ _) rfl rfl rfl (Nat.le_of_ble_eq_true rfl) dX6_reach_14) (fun z_5 V_6 h_7 => ?_)
    obtain ⟨h_7, rfl⟩ := h_7
    refine j_goto (tgt := 22) C dX6_reach_17 (by decide) ?_
    refine j_iret C hQ dX6_reach_22 ?_
    have e9 : dReach (g, r) v = (g 1, stg (rem (g, r)) (updg g 1 v)) := by
      unfold dReach; dsimp only; rw [if_neg (by simp only [Bool.and_eq_true, decide_eq_true_eq] at *; omega)]
    rw [e9]; exact ⟨h_7.1, h_7.2, rfl⟩
def rX6_rule : Room := { frames := 2, cells := 0, slots := 0, locals := 44 }
theorem sgX6_rule : sg yX6_rule wsX6_rule cX6_rule 2 (some .int) rX6_rule 1 := ⟨⟨_, rfl⟩, rfl, rfl, by decide, by decide, by decide +kernel⟩
set_option maxHeartbeats 4000000 in
set_option maxRecDepth 100000 in
theorem kX6_rule {O : OmT} {l : Launch} {V : Mem} {g : Nat → Int} {r : Rt} (hM : MR V (g, r)) (os : okS (g, r)) (v : Int) (hv : -2147483648 ≤ v ∧ v < 2147483648) : MI O l yX6_rule wsX6_rule rX6_rule [sr 72, si v] V (fun z V2 => MR V2 (dRule (g, r) v).2 ∧ loF V V2 ∧ z = (dRule (g, r) v).1) := by
  have ok : okg g := os.1
  have n1 := ok.n
  have a1 := ok.a
  have hg : mdl V g := hM.1
  have hdp : r.2.2.1.1 ≤ 16 := os.2.2.2.1.1
  have hbk : r.2.1.1 ≤ 20 := os.2.2.1.1
  refine mi_of (cc := cX6_rule) (nL := 2) (rt := (some .int)) (by decide) rfl rfl (Nat.le_of_ble_eq_true rfl) (fun F hF C hQ => ?_)
  subst hF
  change J O F rX6_rule 2 V 0 [(0, sr 72), (1, si v)] []
  refine j_iload_n C dX6_rule_0 rfl ?_
  refine j_iconst C dX6_rule_1 ?_
  refine j_iconst C dX6_rule_2 ?_
  refine j_doI (st := []) (j_runS C (kX6_in v 0 1 (by omega) (by decide) (by decide)) ggX6_rule_X6_in sgX6_in (List.mem_of_getElem? (i := 2) rfl) (List.mem_of_getElem? (i := 4) rfl) (List.mem_of_getElem? (i := 3) rfl) ⟨by decide, by decide⟩ rfl rfl (Nat.le_of_ble_eq_true rfl) dX6_rule_3) (fun z_1 V_2 h_3 => ?_)
  obtain ⟨rfl, rfl⟩ := h_3
  refine j_ifb_eq (tgt := 18) C dX6_rule_6 (by decide) (fun q_4 => ?_) (fun q_4 => ?_)
  · refine j_ldc (n := -1000000002) C (List.mem_of_getElem? (i := 1) rfl) (by decide) dX6_rule_18 ?_
    refine j_iret C hQ dX6_rule_20 ?_
    have e9 : dRule (g, r) v = (-1000000002, (g, r)) := by
      unfold dRule; dsimp only; rw [if_pos (by simp only [Bool.and_eq_false_iff, decide_eq_false_iff_not] at *; omega)]
    rw [e9]; exact ⟨hM, loF_rf _, rfl⟩
  · refine j_aload_n C dX6_rule_9 rfl ?_
    refine j_iconst C dX6_rule_10 ?_
    refine j_iload_n C dX6_rule_11 rfl ?_
    refine j_doI (st := []) (j_runV C (kX6_sets (g := g) (r := r) hM ok hdp 2 (by decide) rfl) gX6_rule_X6_sets sgX6_sets rfl ⟨by decide, by decide⟩ (by decide) (en_72 _ _) rfl rfl rfl (Nat.le_of_ble_eq_true rfl) dX6_rule_12) (fun z_5 V_6 h_7 => ?_)
    obtain ⟨h_7, rfl⟩ := h_7
    refine j_goto (tgt := 20) C dX6_rule_15 (by decide) ?_
    refine j_iret C hQ dX6_rule_20 ?_
    have e9 : dRule (g, r) v = (g 2, stg (rem (g, r)) (updg g 2 v)) := by
      unfold dRule; dsimp only; rw [if_neg (by simp only [Bool.and_eq_true, decide_eq_true_eq] at *; omega)]
    rw [e9]; exact ⟨h_7.1, h_7.2, rfl⟩
def rX6_move : Room := { frames := 2, cells := 0, slots := 0, locals := 43 }
theorem sgX6_move : sg yX6_move wsX6_move cX6_move 6 (some .int) rX6_move 3 := ⟨⟨_, rfl⟩, rfl, rfl, by decide, by decide, by decide +kernel⟩
set_option maxHeartbeats 4000000 in
set_option maxRecDepth 100000 in
theorem kX6_move {O : OmT} {l : Launch} {V : Mem} {g : Nat → Int} {r : Rt} (hM : MR V (g, r)) (os : okS (g, r)) (v : Int) (x : Int) (y : Int) (hv : -2147483648 ≤ v ∧ v < 2147483648) (hx : -2147483648 ≤ x ∧ x < 2147483648) (hy : -2147483648 ≤ y ∧ y < 2147483648) : MI O l yX6_move wsX6_move rX6_move [sr 72, si v, si x, si y] V (fun z V2 => MR V2 (dMove (g, r) v x y).2 ∧ loF V V2 ∧ z = (dMove (g, r) v x y).1) := by
  have ok : okg g := os.1
  have n1 := ok.n
  have a1 := ok.a
  have hg : mdl V g := hM.1
  have hdp : r.2.2.1.1 ≤ 16 := os.2.2.2.1.1
  have hbk : r.2.1.1 ≤ 20 := os.2.2.1.1
  refine mi_of (cc := cX6_move) (nL := 6) (rt := (some .int)) (by decide) rfl rfl (Nat.le_of_ble_eq_true rfl) (fun F hF C hQ => ?_)
  subst hF
  change J O F rX6_move 6 V 0 [(0, sr 72), (1, si v), (2, si x), (3, si y)] []
  refine j_aload_n C dX6_move_0 rfl ?_
  refine j_iload_n C dX6_move_1 rfl ?_
  refine j_doI (st := []) (j_runV C (kX6_isNode hg ok v (by omega)) gX6_move_X6_isNode sgX6_isNode rfl ⟨by decide, by decide⟩ (by decide) (en_72 _ _) rfl rfl rfl (Nat.le_of_ble_eq_true rfl) dX6_move_2) (fun z_1 V_2 h_3 => ?_)
  obtain ⟨rfl, rfl⟩ := h_3
  refine j_top (b := bI (gI g v)) rfl ?_
  refine j_ifb_ne (tgt := 11) C dX6_move_5 (by decide) (fun q_4 => ?_) (fun q_4 => ?_)
  · refine j_iload_n C dX6_move_11 rfl ?_
    refine j_iload_n C dX6_move_12 rfl ?_
    refine j_doI (st := []) (j_runS C (kX6_isPlace x y (by omega) (by omega)) ggX6_move_X6_isPlace sgX6_isPlace (List.mem_of_getElem? (i := 13) rfl) (List.mem_of_getElem? (i := 8) rfl) (List.mem_of_getElem? (i := 14) rfl) ⟨by decide, by decide⟩ rfl rfl (Nat.le_of_ble_eq_true rfl) dX6_move_13) (fun z_5 V_6 h_7 => ?_)
    obtain ⟨rfl, rfl⟩ := h_7
    refine j_ifb_ne (tgt := 22) C dX6_move_16 (by decide) (fun q_8 => ?_) (fun q_8 => ?_)
    · refine j_aload_n C dX6_move_22 rfl ?_
      refine j_iload_n C dX6_move_23 rfl ?_
      refine j_iload_n C dX6_move_24 rfl ?_
      refine j_doI (st := []) (j_runV C (kX6_nodeAt hg ok (by omega) (by omega)) gX6_move_X6_nodeAt sgX6_nodeAt rfl ⟨by decide, by decide⟩ (by decide) (en_72 _ _) rfl rfl rfl (Nat.le_of_ble_eq_true rfl) dX6_move_25) (fun z_9 V_10 h_11 => ?_)
      obtain ⟨rfl, rfl⟩ := h_11
      refine j_iconst C dX6_move_28 ?_
      refine j_icmp_eq (tgt := 45) C dX6_move_29 (by decide) (by have := gW_rg g x y (gN g); omega) (by decide) (fun q_12 => ?_) (fun q_12 => ?_)
      · have nv := gI_nat ok (v := v) ‹gI g v = true›
        refine j_lv (lv' := [(0, sr 72), (1, si ((v.toNat : Nat) : Int)), (2, si x), (3, si y)]) (by rw [← nv.1]) ?_
        refine j_aload_n C dX6_move_45 rfl ?_
        refine j_doV (st := []) (j_runV C (kX6_remembers (s := (g, r)) hM hdp) gX6_move_X6_remembers sgX6_remembers rfl ⟨by decide, by decide⟩ (by decide) (en_72 _ _) rfl rfl rfl (Nat.le_of_ble_eq_true rfl) dX6_move_46) (fun V_14 h_15 => ?_)
        refine j_iload_n C dX6_move_49 rfl ?_
        refine j_aload_n C dX6_move_50 rfl ?_
        refine j_get (v := sr 73) C 72 0 (by decide) (en_72 _ _) rfl (by decide) (fun w h => List.mem_cons_of_mem _ (List.mem_append_right _ h)) (List.mem_of_getElem? (i := 4) rfl) dX6_move_51 rfl ?_
        refine j_iconst C dX6_move_54 ?_
        refine j_iload_n C dX6_move_55 rfl ?_
        refine j_iadd C dX6_move_56 ?_
        refine j_iald C (row_73 O) (4 + (v.toNat)) (by omega) (by omega) dX6_move_57 ?_
        refine j_top (b := g (4 + (v.toNat))) (by exact (show mdl V_14 g from h_15.1.1) (4 + (v.toNat)) (by omega)) ?_
        refine j_isub C dX6_move_58 ?_
        refine j_istore (lv' := [(0, sr 72), (1, si ((v.toNat : Nat) : Int)), (2, si x), (3, si y), (4, si (x - (g (4 + (v.toNat)))))]) C dX6_move_59 (by decide) rfl ?_
        refine j_iload_n C dX6_move_61 rfl ?_
        refine j_aload_n C dX6_move_62 rfl ?_
        refine j_get (v := sr 73) C 72 0 (by decide) (en_72 _ _) rfl (by decide) (fun w h => List.mem_cons_of_mem _ (List.mem_append_right _ h)) (List.mem_of_getElem? (i := 4) rfl) dX6_move_63 rfl ?_
        refine j_bipush C dX6_move_66 (by decide) ?_
        refine j_iload_n C dX6_move_68 rfl ?_
        refine j_iadd C dX6_move_69 ?_
        refine j_iald C (row_73 O) (14 + (v.toNat)) (by omega) (by omega) dX6_move_70 ?_
        refine j_top (b := g (14 + (v.toNat))) (by exact (show mdl V_14 g from h_15.1.1) (14 + (v.toNat)) (by omega)) ?_
        refine j_isub C dX6_move_71 ?_
        refine j_istore (lv' := [(0, sr 72), (1, si ((v.toNat : Nat) : Int)), (2, si x), (3, si y), (4, si (x - (g (4 + (v.toNat))))), (5, si (y - (g (14 + (v.toNat)))))]) C dX6_move_72 (by decide) rfl ?_
        refine j_aload_n C dX6_move_74 rfl ?_
        refine j_get (v := sr 73) C 72 0 (by decide) (en_72 _ _) rfl (by decide) (fun w h => List.mem_cons_of_mem _ (List.mem_append_right _ h)) (List.mem_of_getElem? (i := 4) rfl) dX6_move_75 rfl ?_
        refine j_iconst C dX6_move_78 ?_
        refine j_iload_n C dX6_move_79 rfl ?_
        refine j_iadd C dX6_move_80 ?_
        refine j_iload_n C dX6_move_81 rfl ?_
        refine j_iast C (row_73 O) (4 + (v.toNat)) (by omega) (by omega) dX6_move_82 ?_
        refine j_aload_n C dX6_move_83 rfl ?_
        refine j_get (v := sr 73) C 72 0 (by decide) (en_72 _ _) rfl (by decide) (fun w h => List.mem_cons_of_mem _ (List.mem_append_right _ h)) (List.mem_of_getElem? (i := 4) rfl) dX6_move_84 rfl ?_
        refine j_bipush C dX6_move_87 (by decide) ?_
        refine j_iload_n C dX6_move_89 rfl ?_
        refine j_iadd C dX6_move_90 ?_
        refine j_iload_n C dX6_move_91 rfl ?_
        refine j_iast C (row_73 O) (14 + (v.toNat)) (by omega) (by omega) dX6_move_92 ?_
        refine j_iload C dX6_move_93 rfl ?_
        refine j_iload C dX6_move_95 rfl ?_
        refine j_imul C dX6_move_97 ?_
        refine j_iload C dX6_move_98 rfl ?_
        refine j_iload C dX6_move_100 rfl ?_
        refine j_imul C dX6_move_102 ?_
        refine j_iadd C dX6_move_103 ?_
        refine j_iret C hQ dX6_move_104 ?_
        have h9 := MR_mv (s := rem (g, r)) (v := v.toNat) (x := x) (y := y) h_15.1 (by omega)
        have e9 : dMove (g, r) v x y = ((x - g (4 + v.toNat)) * (x - g (4 + v.toNat)) + (y - g (14 + v.toNat)) * (y - g (14 + v.toNat)), stg (rem (g, r)) (gMv g v.toNat x y)) := by
          unfold dMove; dsimp only; rw [if_neg (fun z => z ‹gI g v = true›), if_neg (fun z => z ‹gPl x y = true›), if_neg (by omega)]
        rw [e9]; exact ⟨h9.1, (loF_tr h_15.2 h9.2), rfl⟩
      · refine j_aload_n C dX6_move_32 rfl ?_
        refine j_iload_n C dX6_move_33 rfl ?_
        refine j_iload_n C dX6_move_34 rfl ?_
        refine j_doI (st := []) (j_runV C (kX6_nodeAt hg ok (by omega) (by omega)) gX6_move_X6_nodeAt sgX6_nodeAt rfl ⟨by decide, by decide⟩ (by decide) (en_72 _ _) rfl rfl rfl (Nat.le_of_ble_eq_true rfl) dX6_move_35) (fun z_16 V_17 h_18 => ?_)
        obtain ⟨rfl, rfl⟩ := h_18
        refine j_iload_n C dX6_move_38 rfl ?_
        refine j_icmp_eq (tgt := 45) C dX6_move_39 (by decide) (by have := gW_rg g x y (gN g); omega) (by omega) (fun q_19 => ?_) (fun q_19 => ?_)
        · have nv := gI_nat ok (v := v) ‹gI g v = true›
          refine j_lv (lv' := [(0, sr 72), (1, si ((v.toNat : Nat) : Int)), (2, si x), (3, si y)]) (by rw [← nv.1]) ?_
          refine j_aload_n C dX6_move_45 rfl ?_
          refine j_doV (st := []) (j_runV C (kX6_remembers (s := (g, r)) hM hdp) gX6_move_X6_remembers sgX6_remembers rfl ⟨by decide, by decide⟩ (by decide) (en_72 _ _) rfl rfl rfl (Nat.le_of_ble_eq_true rfl) dX6_move_46) (fun V_21 h_22 => ?_)
          refine j_iload_n C dX6_move_49 rfl ?_
          refine j_aload_n C dX6_move_50 rfl ?_
          refine j_get (v := sr 73) C 72 0 (by decide) (en_72 _ _) rfl (by decide) (fun w h => List.mem_cons_of_mem _ (List.mem_append_right _ h)) (List.mem_of_getElem? (i := 4) rfl) dX6_move_51 rfl ?_
          refine j_iconst C dX6_move_54 ?_
          refine j_iload_n C dX6_move_55 rfl ?_
          refine j_iadd C dX6_move_56 ?_
          refine j_iald C (row_73 O) (4 + (v.toNat)) (by omega) (by omega) dX6_move_57 ?_
          refine j_top (b := g (4 + (v.toNat))) (by exact (show mdl V_21 g from h_22.1.1) (4 + (v.toNat)) (by omega)) ?_
          refine j_isub C dX6_move_58 ?_
          refine j_istore (lv' := [(0, sr 72), (1, si ((v.toNat : Nat) : Int)), (2, si x), (3, si y), (4, si (x - (g (4 + (v.toNat)))))]) C dX6_move_59 (by decide) rfl ?_
          refine j_iload_n C dX6_move_61 rfl ?_
          refine j_aload_n C dX6_move_62 rfl ?_
          refine j_get (v := sr 73) C 72 0 (by decide) (en_72 _ _) rfl (by decide) (fun w h => List.mem_cons_of_mem _ (List.mem_append_right _ h)) (List.mem_of_getElem? (i := 4) rfl) dX6_move_63 rfl ?_
          refine j_bipush C dX6_move_66 (by decide) ?_
          refine j_iload_n C dX6_move_68 rfl ?_
          refine j_iadd C dX6_move_69 ?_
          refine j_iald C (row_73 O) (14 + (v.toNat)) (by omega) (by omega) dX6_move_70 ?_
          refine j_top (b := g (14 + (v.toNat))) (by exact (show mdl V_21 g from h_22.1.1) (14 + (v.toNat)) (by omega)) ?_
          refine j_isub C dX6_move_71 ?_
          refine j_istore (lv' := [(0, sr 72), (1, si ((v.toNat : Nat) : Int)), (2, si x), (3, si y), (4, si (x - (g (4 + (v.toNat))))), (5, si (y - (g (14 + (v.toNat)))))]) C dX6_move_72 (by decide) rfl ?_
          refine j_aload_n C dX6_move_74 rfl ?_
          refine j_get (v := sr 73) C 72 0 (by decide) (en_72 _ _) rfl (by decide) (fun w h => List.mem_cons_of_mem _ (List.mem_append_right _ h)) (List.mem_of_getElem? (i := 4) rfl) dX6_move_75 rfl ?_
          refine j_iconst C dX6_move_78 ?_
          refine j_iload_n C dX6_move_79 rfl ?_
          refine j_iadd C dX6_move_80 ?_
          refine j_iload_n C dX6_move_81 rfl ?_
          refine j_iast C (row_73 O) (4 + (v.toNat)) (by omega) (by omega) dX6_move_82 ?_
          refine j_aload_n C dX6_move_83 rfl ?_
          refine j_get (v := sr 73) C 72 0 (by decide) (en_72 _ _) rfl (by decide) (fun w h => List.mem_cons_of_mem _ (List.mem_append_right _ h)) (List.mem_of_getElem? (i := 4) rfl) dX6_move_84 rfl ?_
          refine j_bipush C dX6_move_87 (by decide) ?_
          refine j_iload_n C dX6_move_89 rfl ?_
          refine j_iadd C dX6_move_90 ?_
          refine j_iload_n C dX6_move_91 rfl ?_
          refine j_iast C (row_73 O) (14 + (v.toNat)) (by omega) (by omega) dX6_move_92 ?_
          refine j_iload C dX6_move_93 rfl ?_
          refine j_iload C dX6_move_95 rfl ?_
          refine j_imul C dX6_move_97 ?_
          refine j_iload C dX6_move_98 rfl ?_
          refine j_iload C dX6_move_100 rfl ?_
          refine j_imul C dX6_move_102 ?_
          refine j_iadd C dX6_move_103 ?_
          refine j_iret C hQ dX6_move_104 ?_
          have h9 := MR_mv (s := rem (g, r)) (v := v.toNat) (x := x) (y := y) h_22.1 (by omega)
          have e9 : dMove (g, r) v x y = ((x - g (4 + v.toNat)) * (x - g (4 + v.toNat)) + (y - g (14 + v.toNat)) * (y - g (14 + v.toNat)), stg (rem (g, r)) (gMv g v.toNat x y)) := by
            unfold dMove; dsimp only; rw [if_neg (fun z => z ‹gI g v = true›), if_neg (fun z => z ‹gPl x y = true›), if_neg (by omega)]
          rw [e9]; exact ⟨h9.1, (loF_tr h_22.2 h9.2), rfl⟩
        · refine j_ldc (n := -1000000003) C (List.mem_of_getElem? (i := 3) rfl) (by decide) dX6_move_42 ?_
          refine j_iret C hQ dX6_move_44 ?_
          have e9 : dMove (g, r) v x y = (-1000000003, (g, r)) := by
            unfold dMove; dsimp only; rw [if_neg (fun z => z ‹gI g v = true›), if_neg (fun z => z ‹gPl x y = true›), if_pos (by omega)]
          rw [e9]; exact ⟨hM, loF_rf _, rfl⟩
    · refine j_ldc (n := -1000000002) C (List.mem_of_getElem? (i := 2) rfl) (by decide) dX6_move_19 ?_
      refine j_iret C hQ dX6_move_21 ?_
      have e9 : dMove (g, r) v x y = (-1000000002, (g, r)) := by
        unfold dMove; dsimp only; rw [if_neg (fun z => z ‹gI g v = true›), if_pos (by rw [‹gPl x y = false›]; decide)]
      rw [e9]; exact ⟨hM, loF_rf _, rfl⟩
  · refine j_ldc (n := -1000000001) C (List.mem_of_getElem? (i := 1) rfl) (by decide) dX6_move_8 ?_
    refine j_iret C hQ dX6_move_10 ?_
    have e9 : dMove (g, r) v x y = (-1000000001, (g, r)) := by
      unfold dMove; dsimp only; rw [if_pos (by rw [‹gI g v = false›]; decide)]
    rw [e9]; exact ⟨hM, loF_rf _, rfl⟩
def rX6_wake : Room := { frames := 3, cells := 0, slots := 0, locals := 64 }
theorem sgX6_wake : sg yX6_wake wsX6_wake cX6_wake 3 (some .int) rX6_wake 2 := ⟨⟨_, rfl⟩, rfl, rfl, by decide, by decide, by decide +kernel⟩
set_option maxHeartbeats 4000000 in
set_option maxRecDepth 100000 in
theorem kX6_wake {O : OmT} {l : Launch} {V : Mem} {g : Nat → Int} {r : Rt} (hM : MR V (g, r)) (os : okS (g, r)) (v : Int) (b : Bool) (hv : -2147483648 ≤ v ∧ v < 2147483648) : MI O l yX6_wake wsX6_wake rX6_wake [sr 72, si v, si (bI b)] V (fun z V2 => MR V2 (dWake (g, r) v b).2 ∧ loF V V2 ∧ z = (dWake (g, r) v b).1) := by
  have ok : okg g := os.1
  have n1 := ok.n
  have a1 := ok.a
  have hg : mdl V g := hM.1
  have hdp : r.2.2.1.1 ≤ 16 := os.2.2.2.1.1
  have hbk : r.2.1.1 ≤ 20 := os.2.2.1.1
  refine mi_of (cc := cX6_wake) (nL := 3) (rt := (some .int)) (by decide) rfl rfl (Nat.le_of_ble_eq_true rfl) (fun F hF C hQ => ?_)
  subst hF
  change J O F rX6_wake 3 V 0 [(0, sr 72), (1, si v), (2, si (bI b))] []
  refine j_aload_n C dX6_wake_0 rfl ?_
  refine j_iload_n C dX6_wake_1 rfl ?_
  refine j_doI (st := []) (j_runV C (kX6_isNode hg ok v (by omega)) gX6_wake_X6_isNode sgX6_isNode rfl ⟨by decide, by decide⟩ (by decide) (en_72 _ _) rfl rfl rfl (Nat.le_of_ble_eq_true rfl) dX6_wake_2) (fun z_1 V_2 h_3 => ?_)
  obtain ⟨rfl, rfl⟩ := h_3
  refine j_top (b := bI (gI g v)) rfl ?_
  refine j_ifb_ne (tgt := 11) C dX6_wake_5 (by decide) (fun q_4 => ?_) (fun q_4 => ?_)
  · have nv := gI_nat ok (v := v) ‹gI g v = true›
    refine j_lv (lv' := [(0, sr 72), (1, si ((v.toNat : Nat) : Int)), (2, si (bI b))]) (by rw [← nv.1]) ?_
    refine j_aload_n C dX6_wake_11 rfl ?_
    refine j_doV (st := []) (j_runV C (kX6_remembers (s := (g, r)) hM hdp) gX6_wake_X6_remembers sgX6_remembers rfl ⟨by decide, by decide⟩ (by decide) (en_72 _ _) rfl rfl rfl (Nat.le_of_ble_eq_true rfl) dX6_wake_12) (fun V_6 h_7 => ?_)
    refine j_aload_n C dX6_wake_15 rfl ?_
    refine j_get (v := sr 73) C 72 0 (by decide) (en_72 _ _) rfl (by decide) (fun w h => List.mem_cons_of_mem _ (List.mem_append_right _ h)) (List.mem_of_getElem? (i := 2) rfl) dX6_wake_16 rfl ?_
    refine j_iconst C dX6_wake_19 ?_
    refine j_iload_n C dX6_wake_20 rfl ?_
    refine j_ifb_eq (tgt := 37) C dX6_wake_21 (by decide) (fun q_8 => ?_) (fun q_8 => ?_)
    · refine j_aload_n C dX6_wake_37 rfl ?_
      refine j_get (v := sr 73) C 72 0 (by decide) (en_72 _ _) rfl (by decide) (fun w h => List.mem_cons_of_mem _ (List.mem_append_right _ h)) (List.mem_of_getElem? (i := 2) rfl) dX6_wake_38 rfl ?_
      refine j_iconst C dX6_wake_41 ?_
      refine j_iald C (row_73 O) 3 rfl (by decide) dX6_wake_42 ?_
      refine j_top (b := ((g 3).toNat : Int)) (by exact ((show mdl V_6 g from h_7.1.1) 3 (by omega)).trans a1.1) ?_
      refine j_iconst C dX6_wake_43 ?_
      refine j_iload_n C dX6_wake_44 rfl ?_
      refine j_ishl C dX6_wake_45 ?_
      refine j_top (bShl_1 (by omega)) ?_
      refine j_iconst C dX6_wake_46 ?_
      refine j_ixor C dX6_wake_47 ?_
      refine j_iand C dX6_wake_48 ?_
      refine j_top (clr_and a1.2 (show v.toNat < 10 by omega)) ?_
      refine j_iast C (row_73 O) 3 rfl (by decide) dX6_wake_49 ?_
      have h9 : MR (ms V_6 73 3 ((clr (g 3).toNat v.toNat : Nat) : Int)) (stg (rem (g, r)) (gAw g v.toNat b)) ∧ loF V_6 (ms V_6 73 3 ((clr (g 3).toNat v.toNat : Nat) : Int)) := by
        have q : b = false := ‹_›
        subst q
        exact MR_aw (s := rem (g, r)) (v := v.toNat) (b := false) h_7.1
      refine j_aload_n C dX6_wake_50 rfl ?_
      refine j_doI (st := []) (j_runV C (kX6_awakeMany (g := gAw g v.toNat b) (show mdl (ms V_6 73 3 ((clr (g 3).toNat v.toNat : Nat) : Int)) (gAw g v.toNat b) from h9.1.1) (gAw_ok ok nv.2)) gX6_wake_X6_awakeMany sgX6_awakeMany rfl ⟨by decide, by decide⟩ (by decide) (en_72 _ _) rfl rfl rfl (Nat.le_of_ble_eq_true rfl) dX6_wake_51) (fun z_9 V_10 h_11 => ?_)
      obtain ⟨rfl, rfl⟩ := h_11
      refine j_iret C hQ dX6_wake_54 ?_
      have e9 : dWake (g, r) v b = (gAc (gAw g v.toNat b) (gN g), stg (rem (g, r)) (gAw g v.toNat b)) := by
        unfold dWake; dsimp only; rw [if_neg (fun z => z ‹gI g v = true›)]
      rw [e9]; exact ⟨h9.1, (loF_tr h_7.2 h9.2), rfl⟩
    · refine j_aload_n C dX6_wake_24 rfl ?_
      refine j_get (v := sr 73) C 72 0 (by decide) (en_72 _ _) rfl (by decide) (fun w h => List.mem_cons_of_mem _ (List.mem_append_right _ h)) (List.mem_of_getElem? (i := 2) rfl) dX6_wake_25 rfl ?_
      refine j_iconst C dX6_wake_28 ?_
      refine j_iald C (row_73 O) 3 rfl (by decide) dX6_wake_29 ?_
      refine j_top (b := ((g 3).toNat : Int)) (by exact ((show mdl V_6 g from h_7.1.1) 3 (by omega)).trans a1.1) ?_
      refine j_iconst C dX6_wake_30 ?_
      refine j_iload_n C dX6_wake_31 rfl ?_
      refine j_ishl C dX6_wake_32 ?_
      refine j_top (bShl_1 (by omega)) ?_
      refine j_ior C dX6_wake_33 ?_
      refine j_top (bOr_nat (by omega) (p2_31 (by omega))) ?_
      refine j_goto (tgt := 49) C dX6_wake_34 (by decide) ?_
      refine j_iast C (row_73 O) 3 rfl (by decide) dX6_wake_49 ?_
      have h9 : MR (ms V_6 73 3 ((((g 3).toNat) ||| (2 ^ (v.toNat)) : Nat) : Int)) (stg (rem (g, r)) (gAw g v.toNat b)) ∧ loF V_6 (ms V_6 73 3 ((((g 3).toNat) ||| (2 ^ (v.toNat)) : Nat) : Int)) := by
        have q : b = true := ‹_›
        subst q
        exact MR_aw (s := rem (g, r)) (v := v.toNat) (b := true) h_7.1
      refine j_aload_n C dX6_wake_50 rfl ?_
      refine j_doI (st := []) (j_runV C (kX6_awakeMany (g := gAw g v.toNat b) (show mdl (ms V_6 73 3 ((((g 3).toNat) ||| (2 ^ (v.toNat)) : Nat) : Int)) (gAw g v.toNat b) from h9.1.1) (gAw_ok ok nv.2)) gX6_wake_X6_awakeMany sgX6_awakeMany rfl ⟨by decide, by decide⟩ (by decide) (en_72 _ _) rfl rfl rfl (Nat.le_of_ble_eq_true rfl) dX6_wake_51) (fun z_12 V_13 h_14 => ?_)
      obtain ⟨rfl, rfl⟩ := h_14
      refine j_iret C hQ dX6_wake_54 ?_
      have e9 : dWake (g, r) v b = (gAc (gAw g v.toNat b) (gN g), stg (rem (g, r)) (gAw g v.toNat b)) := by
        unfold dWake; dsimp only; rw [if_neg (fun z => z ‹gI g v = true›)]
      rw [e9]; exact ⟨h9.1, (loF_tr h_7.2 h9.2), rfl⟩
  · refine j_ldc (n := -1000000001) C (List.mem_of_getElem? (i := 1) rfl) (by decide) dX6_wake_8 ?_
    refine j_iret C hQ dX6_wake_10 ?_
    have e9 : dWake (g, r) v b = (-1000000001, (g, r)) := by
      unfold dWake; dsimp only; rw [if_pos (by rw [‹gI g v = false›]; decide)]
    rw [e9]; exact ⟨hM, loF_rf _, rfl⟩
