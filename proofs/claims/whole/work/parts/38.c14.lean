def rX5_node : Room := { frames := 4, cells := 0, slots := 0, locals := 95 }
theorem sgX5_node : sg yX5_node wsX5_node cX5_node 3 (some .int) rX5_node 2 := ⟨⟨_, rfl⟩, rfl, rfl, by decide, by decide, by decide +kernel⟩
set_option maxHeartbeats 4000000 in
set_option maxRecDepth 100000 in
theorem kX5_node {O : OmT} {l : Launch} {V : Mem} {g : Nat → Int} {r : Rt} (hR : CR V (g, r)) (os : okS (g, r)) (x : Int) (y : Int) (hx : -2147483648 ≤ x ∧ x < 2147483648) (hy : -2147483648 ≤ y ∧ y < 2147483648) : MI O l yX5_node wsX5_node rX5_node [sr 0, si x, si y] V (fun z V2 => CR V2 (dNode (g, r) x y).2 ∧ hiF V V2 ∧ z = (dNode (g, r) x y).1) := by
  have ok : okg g := os.1
  have n1 := ok.n
  have a1 := ok.a
  have hn : net V g := hR.1
  have hc : cls V g := hn.1
  have hG : CG V (g, r) := hR.2
  have hdp : r.2.2.1.1 ≤ 16 := os.2.2.2.1.1
  have hbk : r.2.1.1 ≤ 20 := os.2.2.1.1
  refine mi_of (cc := cX5_node) (nL := 3) (rt := (some .int)) (by decide) rfl rfl (Nat.le_of_ble_eq_true rfl) (fun F hF C hQ => ?_)
  subst hF
  change J O F rX5_node 3 V 0 [(0, sr 0), (1, si x), (2, si y)] []
  refine j_iload_n C dX5_node_0 rfl ?_
  refine j_iload_n C dX5_node_1 rfl ?_
  refine j_doI (st := []) (j_runS C (kX5_isPlace x y (by omega) (by omega)) ggX5_node_X5_isPlace sgX5_isPlace (List.mem_of_getElem? (i := 7) rfl) (List.mem_of_getElem? (i := 9) rfl) (List.mem_of_getElem? (i := 8) rfl) ⟨by decide, by decide⟩ rfl rfl (Nat.le_of_ble_eq_true rfl) dX5_node_2) (fun z_1 V_2 h_3 => ?_)
  obtain ⟨rfl, rfl⟩ := h_3
  refine j_ifb_ne (tgt := 11) C dX5_node_5 (by decide) (fun q_4 => ?_) (fun q_4 => ?_)
  · refine j_aload_n C dX5_node_11 rfl ?_
    refine j_get (v := sr 1) C 0 0 (by decide) (en_0 _ _) rfl (by decide) (fun w h => List.mem_cons_of_mem _ (List.mem_append_left _ (List.mem_append_left _ (List.mem_append_left _ (List.mem_append_right _ h))))) (List.mem_of_getElem? (i := 2) rfl) dX5_node_12 rfl ?_
    refine j_getN (v := si (V 1 2)) C 1 2 (by decide) (en_G (c := 1) (by decide) _) rfl (by decide) (fun w h => List.mem_cons_of_mem _ (List.mem_append_left _ (List.mem_append_left _ (List.mem_append_right _ h)))) (List.mem_of_getElem? (i := 7) rfl) dX5_node_15 rfl ?_
    refine j_top hc.1 ?_
    refine j_bipush C dX5_node_18 (by decide) ?_
    refine j_icmp_lt (tgt := 26) C dX5_node_20 (by decide) (by have := ok.1; omega) (by decide) (fun q_5 => ?_) (fun q_5 => ?_)
    · refine j_aload_n C dX5_node_26 rfl ?_
      refine j_get (v := sr 1) C 0 0 (by decide) (en_0 _ _) rfl (by decide) (fun w h => List.mem_cons_of_mem _ (List.mem_append_left _ (List.mem_append_left _ (List.mem_append_left _ (List.mem_append_right _ h))))) (List.mem_of_getElem? (i := 2) rfl) dX5_node_27 rfl ?_
      refine j_iload_n C dX5_node_30 rfl ?_
      refine j_iload_n C dX5_node_31 rfl ?_
      refine j_doI (st := []) (j_runVN C (kX1_whoStandsAt hc ok (by omega) (by omega)) ggX5_node_X1_whoStandsAt sgX1_whoStandsAt rfl (List.mem_of_getElem? (i := 38) rfl) (List.mem_of_getElem? (i := 12) rfl) (List.mem_of_getElem? (i := 11) rfl) (List.mem_of_getElem? (i := 13) rfl) ⟨by decide, by decide⟩ (by decide) (en_G (c := 1) (by decide) _) rfl rfl rfl (Nat.le_of_ble_eq_true rfl) dX5_node_32) (fun z_6 V_7 h_8 => ?_)
      obtain ⟨rfl, rfl⟩ := h_8
      refine j_iconst C dX5_node_35 ?_
      refine j_icmp_eq (tgt := 42) C dX5_node_36 (by decide) (by have := gW_rg g x y (gN g); omega) (by decide) (fun q_9 => ?_) (fun q_9 => ?_)
      · refine j_aload_n C dX5_node_42 rfl ?_
        refine j_get (v := sr 15) C 0 4 (by decide) (en_0 _ _) rfl (by decide) (fun w h => List.mem_cons_of_mem _ (List.mem_append_left _ (List.mem_append_left _ (List.mem_append_left _ (List.mem_append_right _ h))))) (List.mem_of_getElem? (i := 5) rfl) dX5_node_43 rfl ?_
        refine j_aload_n C dX5_node_46 rfl ?_
        refine j_get (v := sr 1) C 0 0 (by decide) (en_0 _ _) rfl (by decide) (fun w h => List.mem_cons_of_mem _ (List.mem_append_left _ (List.mem_append_left _ (List.mem_append_left _ (List.mem_append_right _ h))))) (List.mem_of_getElem? (i := 2) rfl) dX5_node_47 rfl ?_
        refine j_doV (st := []) (j_runVN C (kX4_remember (s := (g, r)) hG hdp) ggX5_node_X4_remember sgX4_remember rfl (List.mem_of_getElem? (i := 39) rfl) (List.mem_of_getElem? (i := 19) rfl) (List.mem_of_getElem? (i := 18) rfl) (List.mem_of_getElem? (i := 20) rfl) ⟨by decide, by decide⟩ (by decide) (en_15 _ _) rfl rfl rfl (Nat.le_of_ble_eq_true rfl) dX5_node_50) (fun V_11 h_12 => ?_)
        refine j_aload_n C dX5_node_53 rfl ?_
        refine j_get (v := sr 1) C 0 0 (by decide) (en_0 _ _) rfl (by decide) (fun w h => List.mem_cons_of_mem _ (List.mem_append_left _ (List.mem_append_left _ (List.mem_append_left _ (List.mem_append_right _ h))))) (List.mem_of_getElem? (i := 2) rfl) dX5_node_54 rfl ?_
        refine j_iload_n C dX5_node_57 rfl ?_
        refine j_iload_n C dX5_node_58 rfl ?_
        refine j_doV (st := []) (j_runVN C (kX1_add (g := g) (r := (rem (g, r)).2) h_12.1 ok (by omega)) ggX5_node_X1_add sgX1_add rfl (List.mem_of_getElem? (i := 41) rfl) (List.mem_of_getElem? (i := 12) rfl) (List.mem_of_getElem? (i := 31) rfl) (List.mem_of_getElem? (i := 32) rfl) ⟨by decide, by decide⟩ (by decide) (en_G (c := 1) (by decide) _) rfl rfl rfl (Nat.le_of_ble_eq_true rfl) dX5_node_59) (fun V_14 h_15 => ?_)
        have h_15 : CG V_14 (stg (rem (g, r)) (gAdd g x y)) ∧ hiF _ V_14 := h_15
        refine j_aload_n C dX5_node_62 rfl ?_
        refine j_get (v := sr 4) C 0 1 (by decide) (en_0 _ _) rfl (by decide) (fun w h => List.mem_cons_of_mem _ (List.mem_append_left _ (List.mem_append_left _ (List.mem_append_left _ (List.mem_append_right _ h))))) (List.mem_of_getElem? (i := 6) rfl) dX5_node_63 rfl ?_
        refine j_doV (st := []) (j_runVN C (kX3_follow (g := (gAdd g x y)) (show cls V_14 (gAdd g x y) from h_15.1.1) (gAdd_ok ok (by omega) ‹gPl x y = true› (by omega))) ggX5_node_X3_follow sgX3_follow rfl (List.mem_of_getElem? (i := 42) rfl) (List.mem_of_getElem? (i := 35) rfl) (List.mem_of_getElem? (i := 34) rfl) (List.mem_of_getElem? (i := 36) rfl) ⟨by decide, by decide⟩ (by decide) (en_4 _ _) rfl rfl rfl (Nat.le_of_ble_eq_true rfl) dX5_node_66) (fun V_17 h_18 => ?_)
        have h_18 := CR_fol (s := (stg (rem (g, r)) (gAdd g x y))) h_15.1 h_18
        refine j_aload_n C dX5_node_69 rfl ?_
        refine j_get (v := sr 1) C 0 0 (by decide) (en_0 _ _) rfl (by decide) (fun w h => List.mem_cons_of_mem _ (List.mem_append_left _ (List.mem_append_left _ (List.mem_append_left _ (List.mem_append_right _ h))))) (List.mem_of_getElem? (i := 2) rfl) dX5_node_70 rfl ?_
        refine j_getN (v := si (V_17 1 2)) C 1 2 (by decide) (en_G (c := 1) (by decide) _) rfl (by decide) (fun w h => List.mem_cons_of_mem _ (List.mem_append_left _ (List.mem_append_left _ (List.mem_append_right _ h)))) (List.mem_of_getElem? (i := 7) rfl) dX5_node_73 rfl ?_
        refine j_top (show V_17 1 2 = (g 0 + 1) from h_18.1.1.1.1) ?_
        refine j_iconst C dX5_node_76 ?_
        refine j_isub C dX5_node_77 ?_
        refine j_iret C hQ dX5_node_78 ?_
        have e9 : dNode (g, r) x y = (g 0, stg (rem (g, r)) (gAdd g x y)) := by
          unfold dNode; dsimp only; rw [if_neg (fun z => z ‹gPl x y = true›), if_neg (by omega), if_neg (by omega)]
        rw [e9]; exact ⟨h_18.1, (hiF_tr (hiF_tr h_12.2 h_15.2) h_18.2), (by omega)⟩
      · refine j_ldc (n := -1000000003) C (List.mem_of_getElem? (i := 4) rfl) (by decide) dX5_node_39 ?_
        refine j_iret C hQ dX5_node_41 ?_
        have e9 : dNode (g, r) x y = (-1000000003, (g, r)) := by
          unfold dNode; dsimp only; rw [if_neg (fun z => z ‹gPl x y = true›), if_neg (by omega), if_pos (by omega)]
        rw [e9]; exact ⟨hR, hiF_rf _, rfl⟩
    · refine j_ldc (n := -1000000004) C (List.mem_of_getElem? (i := 3) rfl) (by decide) dX5_node_23 ?_
      refine j_iret C hQ dX5_node_25 ?_
      have e9 : dNode (g, r) x y = (-1000000004, (g, r)) := by
        unfold dNode; dsimp only; rw [if_neg (fun z => z ‹gPl x y = true›), if_pos (by omega)]
      rw [e9]; exact ⟨hR, hiF_rf _, rfl⟩
  · refine j_ldc (n := -1000000002) C (List.mem_of_getElem? (i := 1) rfl) (by decide) dX5_node_8 ?_
    refine j_iret C hQ dX5_node_10 ?_
    have e9 : dNode (g, r) x y = (-1000000002, (g, r)) := by
      unfold dNode; dsimp only; rw [if_pos (by rw [‹gPl x y = false›]; decide)]
    rw [e9]; exact ⟨hR, hiF_rf _, rfl⟩
def rX5_move : Room := { frames := 4, cells := 0, slots := 0, locals := 95 }
theorem sgX5_move : sg yX5_move wsX5_move cX5_move 6 (some .int) rX5_move 3 := ⟨⟨_, rfl⟩, rfl, rfl, by decide, by decide, by decide +kernel⟩
set_option maxHeartbeats 4000000 in
set_option maxRecDepth 100000 in
theorem kX5_move {O : OmT} {l : Launch} {V : Mem} {g : Nat → Int} {r : Rt} (hR : CR V (g, r)) (os : okS (g, r)) (v : Int) (x : Int) (y : Int) (hv : -2147483648 ≤ v ∧ v < 2147483648) (hx : -2147483648 ≤ x ∧ x < 2147483648) (hy : -2147483648 ≤ y ∧ y < 2147483648) : MI O l yX5_move wsX5_move rX5_move [sr 0, si v, si x, si y] V (fun z V2 => CR V2 (dMove (g, r) v x y).2 ∧ hiF V V2 ∧ z = (dMove (g, r) v x y).1) := by
  have ok : okg g := os.1
  have n1 := ok.n
  have a1 := ok.a
  have hn : net V g := hR.1
  have hc : cls V g := hn.1
  have hG : CG V (g, r) := hR.2
  have hdp : r.2.2.1.1 ≤ 16 := os.2.2.2.1.1
  have hbk : r.2.1.1 ≤ 20 := os.2.2.1.1
  refine mi_of (cc := cX5_move) (nL := 6) (rt := (some .int)) (by decide) rfl rfl (Nat.le_of_ble_eq_true rfl) (fun F hF C hQ => ?_)
  subst hF
  change J O F rX5_move 6 V 0 [(0, sr 0), (1, si v), (2, si x), (3, si y)] []
  refine j_aload_n C dX5_move_0 rfl ?_
  refine j_get (v := sr 1) C 0 0 (by decide) (en_0 _ _) rfl (by decide) (fun w h => List.mem_cons_of_mem _ (List.mem_append_left _ (List.mem_append_left _ (List.mem_append_left _ (List.mem_append_right _ h))))) (List.mem_of_getElem? (i := 1) rfl) dX5_move_1 rfl ?_
  refine j_iload_n C dX5_move_4 rfl ?_
  refine j_doI (st := []) (j_runVN C (kX1_has hc ok v (by omega)) ggX5_move_X1_has sgX1_has rfl (List.mem_of_getElem? (i := 28) rfl) (List.mem_of_getElem? (i := 8) rfl) (List.mem_of_getElem? (i := 7) rfl) (List.mem_of_getElem? (i := 9) rfl) ⟨by decide, by decide⟩ (by decide) (en_G (c := 1) (by decide) _) rfl rfl rfl (Nat.le_of_ble_eq_true rfl) dX5_move_5) (fun z_1 V_2 h_3 => ?_)
  obtain ⟨rfl, rfl⟩ := h_3
  refine j_top (b := bI (gI g v)) rfl ?_
  refine j_ifb_ne (tgt := 14) C dX5_move_8 (by decide) (fun q_4 => ?_) (fun q_4 => ?_)
  · have nv := gI_nat ok (v := v) ‹gI g v = true›
    refine j_iload_n C dX5_move_14 rfl ?_
    refine j_iload_n C dX5_move_15 rfl ?_
    refine j_doI (st := []) (j_runS C (kX5_isPlace x y (by omega) (by omega)) ggX5_move_X5_isPlace sgX5_isPlace (List.mem_of_getElem? (i := 12) rfl) (List.mem_of_getElem? (i := 14) rfl) (List.mem_of_getElem? (i := 13) rfl) ⟨by decide, by decide⟩ rfl rfl (Nat.le_of_ble_eq_true rfl) dX5_move_16) (fun z_5 V_6 h_7 => ?_)
    obtain ⟨rfl, rfl⟩ := h_7
    refine j_ifb_ne (tgt := 25) C dX5_move_19 (by decide) (fun q_8 => ?_) (fun q_8 => ?_)
    · refine j_aload_n C dX5_move_25 rfl ?_
      refine j_get (v := sr 1) C 0 0 (by decide) (en_0 _ _) rfl (by decide) (fun w h => List.mem_cons_of_mem _ (List.mem_append_left _ (List.mem_append_left _ (List.mem_append_left _ (List.mem_append_right _ h))))) (List.mem_of_getElem? (i := 1) rfl) dX5_move_26 rfl ?_
      refine j_iload_n C dX5_move_29 rfl ?_
      refine j_iload_n C dX5_move_30 rfl ?_
      refine j_doI (st := []) (j_runVN C (kX1_whoStandsAt hc ok (by omega) (by omega)) ggX5_move_X1_whoStandsAt sgX1_whoStandsAt rfl (List.mem_of_getElem? (i := 38) rfl) (List.mem_of_getElem? (i := 8) rfl) (List.mem_of_getElem? (i := 16) rfl) (List.mem_of_getElem? (i := 17) rfl) ⟨by decide, by decide⟩ (by decide) (en_G (c := 1) (by decide) _) rfl rfl rfl (Nat.le_of_ble_eq_true rfl) dX5_move_31) (fun z_9 V_10 h_11 => ?_)
      obtain ⟨rfl, rfl⟩ := h_11
      refine j_istore (lv' := [(0, sr 0), (1, si v), (2, si x), (3, si y), (4, si (gW g x y (gN g)))]) C dX5_move_34 (by decide) rfl ?_
      refine j_iload C dX5_move_36 rfl ?_
      refine j_iconst C dX5_move_38 ?_
      refine j_icmp_eq (tgt := 51) C dX5_move_39 (by decide) (by have := gW_rg g x y (gN g); omega) (by decide) (fun q_12 => ?_) (fun q_12 => ?_)
      · refine j_aload_n C dX5_move_51 rfl ?_
        refine j_get (v := sr 15) C 0 4 (by decide) (en_0 _ _) rfl (by decide) (fun w h => List.mem_cons_of_mem _ (List.mem_append_left _ (List.mem_append_left _ (List.mem_append_left _ (List.mem_append_right _ h))))) (List.mem_of_getElem? (i := 5) rfl) dX5_move_52 rfl ?_
        refine j_aload_n C dX5_move_55 rfl ?_
        refine j_get (v := sr 1) C 0 0 (by decide) (en_0 _ _) rfl (by decide) (fun w h => List.mem_cons_of_mem _ (List.mem_append_left _ (List.mem_append_left _ (List.mem_append_left _ (List.mem_append_right _ h))))) (List.mem_of_getElem? (i := 1) rfl) dX5_move_56 rfl ?_
        refine j_doV (st := []) (j_runVN C (kX4_remember (s := (g, r)) hG hdp) ggX5_move_X4_remember sgX4_remember rfl (List.mem_of_getElem? (i := 39) rfl) (List.mem_of_getElem? (i := 22) rfl) (List.mem_of_getElem? (i := 21) rfl) (List.mem_of_getElem? (i := 23) rfl) ⟨by decide, by decide⟩ (by decide) (en_15 _ _) rfl rfl rfl (Nat.le_of_ble_eq_true rfl) dX5_move_59) (fun V_14 h_15 => ?_)
        refine j_aload_n C dX5_move_62 rfl ?_
        refine j_get (v := sr 1) C 0 0 (by decide) (en_0 _ _) rfl (by decide) (fun w h => List.mem_cons_of_mem _ (List.mem_append_left _ (List.mem_append_left _ (List.mem_append_left _ (List.mem_append_right _ h))))) (List.mem_of_getElem? (i := 1) rfl) dX5_move_63 rfl ?_
        refine j_iload_n C dX5_move_66 rfl ?_
        refine j_iload_n C dX5_move_67 rfl ?_
        refine j_iload_n C dX5_move_68 rfl ?_
        refine j_doI (st := []) (j_runVN C (kX1_put (g := g) (r := (rem (g, r)).2) h_15.1 ok v.toNat nv.1 (by omega)) ggX5_move_X1_put sgX1_put rfl (List.mem_of_getElem? (i := 43) rfl) (List.mem_of_getElem? (i := 8) rfl) (List.mem_of_getElem? (i := 34) rfl) (List.mem_of_getElem? (i := 35) rfl) ⟨by decide, by decide⟩ (by decide) (en_G (c := 1) (by decide) _) rfl rfl rfl (Nat.le_of_ble_eq_true rfl) dX5_move_69) (fun z_16 V_17 h_18 => ?_)
        obtain ⟨h_18, rfl⟩ := h_18
        have h_18 : CG V_17 (stg (rem (g, r)) (gMv g v.toNat x y)) ∧ hiF _ V_17 := h_18
        refine j_istore (lv' := [(0, sr 0), (1, si v), (2, si x), (3, si y), (4, si (gW g x y (gN g))), (5, si ((x - g (4 + v.toNat)) * (x - g (4 + v.toNat)) + (y - g (14 + v.toNat)) * (y - g (14 + v.toNat))))]) C dX5_move_72 (by decide) rfl ?_
        refine j_aload_n C dX5_move_74 rfl ?_
        refine j_get (v := sr 4) C 0 1 (by decide) (en_0 _ _) rfl (by decide) (fun w h => List.mem_cons_of_mem _ (List.mem_append_left _ (List.mem_append_left _ (List.mem_append_left _ (List.mem_append_right _ h))))) (List.mem_of_getElem? (i := 6) rfl) dX5_move_75 rfl ?_
        refine j_doV (st := []) (j_runVN C (kX3_follow (g := (gMv g v.toNat x y)) (show cls V_17 (gMv g v.toNat x y) from h_18.1.1) (gMv_ok ok nv.2 ‹gPl x y = true› (by omega))) ggX5_move_X3_follow sgX3_follow rfl (List.mem_of_getElem? (i := 42) rfl) (List.mem_of_getElem? (i := 38) rfl) (List.mem_of_getElem? (i := 37) rfl) (List.mem_of_getElem? (i := 39) rfl) ⟨by decide, by decide⟩ (by decide) (en_4 _ _) rfl rfl rfl (Nat.le_of_ble_eq_true rfl) dX5_move_78) (fun V_20 h_21 => ?_)
        have h_21 := CR_fol (s := (stg (rem (g, r)) (gMv g v.toNat x y))) h_18.1 h_21
        refine j_iload C dX5_move_81 rfl ?_
        refine j_iret C hQ dX5_move_83 ?_
        have e9 : dMove (g, r) v x y = ((x - g (4 + v.toNat)) * (x - g (4 + v.toNat)) + (y - g (14 + v.toNat)) * (y - g (14 + v.toNat)), stg (rem (g, r)) (gMv g v.toNat x y)) := by
          unfold dMove; dsimp only; rw [if_neg (fun z => z ‹gI g v = true›), if_neg (fun z => z ‹gPl x y = true›), if_neg (by omega)]
        rw [e9]; exact ⟨h_21.1, (hiF_tr (hiF_tr h_15.2 h_18.2) h_21.2), rfl⟩
      · refine j_iload C dX5_move_42 rfl ?_
        refine j_iload_n C dX5_move_44 rfl ?_
        refine j_icmp_eq (tgt := 51) C dX5_move_45 (by decide) (by have := gW_rg g x y (gN g); omega) (by omega) (fun q_22 => ?_) (fun q_22 => ?_)
        · refine j_aload_n C dX5_move_51 rfl ?_
          refine j_get (v := sr 15) C 0 4 (by decide) (en_0 _ _) rfl (by decide) (fun w h => List.mem_cons_of_mem _ (List.mem_append_left _ (List.mem_append_left _ (List.mem_append_left _ (List.mem_append_right _ h))))) (List.mem_of_getElem? (i := 5) rfl) dX5_move_52 rfl ?_
          refine j_aload_n C dX5_move_55 rfl ?_
          refine j_get (v := sr 1) C 0 0 (by decide) (en_0 _ _) rfl (by decide) (fun w h => List.mem_cons_of_mem _ (List.mem_append_left _ (List.mem_append_left _ (List.mem_append_left _ (List.mem_append_right _ h))))) (List.mem_of_getElem? (i := 1) rfl) dX5_move_56 rfl ?_
          refine j_doV (st := []) (j_runVN C (kX4_remember (s := (g, r)) hG hdp) ggX5_move_X4_remember sgX4_remember rfl (List.mem_of_getElem? (i := 39) rfl) (List.mem_of_getElem? (i := 22) rfl) (List.mem_of_getElem? (i := 21) rfl) (List.mem_of_getElem? (i := 23) rfl) ⟨by decide, by decide⟩ (by decide) (en_15 _ _) rfl rfl rfl (Nat.le_of_ble_eq_true rfl) dX5_move_59) (fun V_24 h_25 => ?_)
          refine j_aload_n C dX5_move_62 rfl ?_
          refine j_get (v := sr 1) C 0 0 (by decide) (en_0 _ _) rfl (by decide) (fun w h => List.mem_cons_of_mem _ (List.mem_append_left _ (List.mem_append_left _ (List.mem_append_left _ (List.mem_append_right _ h))))) (List.mem_of_getElem? (i := 1) rfl) dX5_move_63 rfl ?_
          refine j_iload_n C dX5_move_66 rfl ?_
          refine j_iload_n C dX5_move_67 rfl ?_
          refine j_iload_n C dX5_move_68 rfl ?_
          refine j_doI (st := []) (j_runVN C (kX1_put (g := g) (r := (rem (g, r)).2) h_25.1 ok v.toNat nv.1 (by omega)) ggX5_move_X1_put sgX1_put rfl (List.mem_of_getElem? (i := 43) rfl) (List.mem_of_getElem? (i := 8) rfl) (List.mem_of_getElem? (i := 34) rfl) (List.mem_of_getElem? (i := 35) rfl) ⟨by decide, by decide⟩ (by decide) (en_G (c := 1) (by decide) _) rfl rfl rfl (Nat.le_of_ble_eq_true rfl) dX5_move_69) (fun z_26 V_27 h_28 => ?_)
          obtain ⟨h_28, rfl⟩ := h_28
          have h_28 : CG V_27 (stg (rem (g, r)) (gMv g v.toNat x y)) ∧ hiF _ V_27 := h_28
          refine j_istore (lv' := [(0, sr 0), (1, si v), (2, si x), (3, si y), (4, si (gW g x y (gN g))), (5, si ((x - g (4 + v.toNat)) * (x - g (4 + v.toNat)) + (y - g (14 + v.toNat)) * (y - g (14 + v.toNat))))]) C dX5_move_72 (by decide) rfl ?_
          refine j_aload_n C dX5_move_74 rfl ?_
          refine j_get (v := sr 4) C 0 1 (by decide) (en_0 _ _) rfl (by decide) (fun w h => List.mem_cons_of_mem _ (List.mem_append_left _ (List.mem_append_left _ (List.mem_append_left _ (List.mem_append_right _ h))))) (List.mem_of_getElem? (i := 6) rfl) dX5_move_75 rfl ?_
          refine j_doV (st := []) (j_runVN C (kX3_follow (g := (gMv g v.toNat x y)) (show cls V_27 (gMv g v.toNat x y) from h_28.1.1) (gMv_ok ok nv.2 ‹gPl x y = true› (by omega))) ggX5_move_X3_follow sgX3_follow rfl (List.mem_of_getElem? (i := 42) rfl) (List.mem_of_getElem? (i := 38) rfl) (List.mem_of_getElem? (i := 37) rfl) (List.mem_of_getElem? (i := 39) rfl) ⟨by decide, by decide⟩ (by decide) (en_4 _ _) rfl rfl rfl (Nat.le_of_ble_eq_true rfl) dX5_move_78) (fun V_30 h_31 => ?_)
          have h_31 := CR_fol (s := (stg (rem (g, r)) (gMv g v.toNat x y))) h_28.1 h_31
          refine j_iload C dX5_move_81 rfl ?_
          refine j_iret C hQ dX5_move_83 ?_
          have e9 : dMove (g, r) v x y = ((x - g (4 + v.toNat)) * (x - g (4 + v.toNat)) + (y - g (14 + v.toNat)) * (y - g (14 + v.toNat)), stg (rem (g, r)) (gMv g v.toNat x y)) := by
            unfold dMove; dsimp only; rw [if_neg (fun z => z ‹gI g v = true›), if_neg (fun z => z ‹gPl x y = true›), if_neg (by omega)]
          rw [e9]; exact ⟨h_31.1, (hiF_tr (hiF_tr h_25.2 h_28.2) h_31.2), rfl⟩
        · refine j_ldc (n := -1000000003) C (List.mem_of_getElem? (i := 4) rfl) (by decide) dX5_move_48 ?_
          refine j_iret C hQ dX5_move_50 ?_
          have e9 : dMove (g, r) v x y = (-1000000003, (g, r)) := by
            unfold dMove; dsimp only; rw [if_neg (fun z => z ‹gI g v = true›), if_neg (fun z => z ‹gPl x y = true›), if_pos (by omega)]
          rw [e9]; exact ⟨hR, hiF_rf _, rfl⟩
    · refine j_ldc (n := -1000000002) C (List.mem_of_getElem? (i := 3) rfl) (by decide) dX5_move_22 ?_
      refine j_iret C hQ dX5_move_24 ?_
      have e9 : dMove (g, r) v x y = (-1000000002, (g, r)) := by
        unfold dMove; dsimp only; rw [if_neg (fun z => z ‹gI g v = true›), if_pos (by rw [‹gPl x y = false›]; decide)]
      rw [e9]; exact ⟨hR, hiF_rf _, rfl⟩
  · refine j_ldc (n := -1000000001) C (List.mem_of_getElem? (i := 2) rfl) (by decide) dX5_move_11 ?_
    refine j_iret C hQ dX5_move_13 ?_
    have e9 : dMove (g, r) v x y = (-1000000001, (g, r)) := by
      unfold dMove; dsimp only; rw [if_pos (by rw [‹gI g v = false›]; decide)]
    rw [e9]; exact ⟨hR, hiF_rf _, rfl⟩
def rX5_take : Room := { frames := 4, cells := 0, slots := 0, locals := 95 }
theorem sgX5_take : sg yX5_take wsX5_take cX5_take 2 (some .int) rX5_take 1 := ⟨⟨_, rfl⟩, rfl, rfl, by decide, by decide, by decide +kernel⟩
set_option maxHeartbeats 4000000 in
set_option maxRecDepth 100000 in
theorem kX5_take {O : OmT} {l : Launch} {V : Mem} {g : Nat → Int} {r : Rt} (hR : CR V (g, r)) (os : okS (g, r)) (v : Int) (hv : -2147483648 ≤ v ∧ v < 2147483648) : MI O l yX5_take wsX5_take rX5_take [sr 0, si v] V (fun z V2 => CR V2 (dTake (g, r) v).2 ∧ hiF V V2 ∧ z = (dTake (g, r) v).1) := by
  have ok : okg g := os.1
  have n1 := ok.n
  have a1 := ok.a
  have hn : net V g := hR.1
  have hc : cls V g := hn.1
  have hG : CG V (g, r) := hR.2
  have hdp : r.2.2.1.1 ≤ 16 := os.2.2.2.1.1
  have hbk : r.2.1.1 ≤ 20 := os.2.2.1.1
  refine mi_of (cc := cX5_take) (nL := 2) (rt := (some .int)) (by decide) rfl rfl (Nat.le_of_ble_eq_true rfl) (fun F hF C hQ => ?_)
  subst hF
  change J O F rX5_take 2 V 0 [(0, sr 0), (1, si v)] []
  refine j_aload_n C dX5_take_0 rfl ?_
  refine j_get (v := sr 1) C 0 0 (by decide) (en_0 _ _) rfl (by decide) (fun w h => List.mem_cons_of_mem _ (List.mem_append_left _ (List.mem_append_left _ (List.mem_append_left _ (List.mem_append_right _ h))))) (List.mem_of_getElem? (i := 1) rfl) dX5_take_1 rfl ?_
  refine j_iload_n C dX5_take_4 rfl ?_
  refine j_doI (st := []) (j_runVN C (kX1_has hc ok v (by omega)) ggX5_take_X1_has sgX1_has rfl (List.mem_of_getElem? (i := 28) rfl) (List.mem_of_getElem? (i := 6) rfl) (List.mem_of_getElem? (i := 5) rfl) (List.mem_of_getElem? (i := 7) rfl) ⟨by decide, by decide⟩ (by decide) (en_G (c := 1) (by decide) _) rfl rfl rfl (Nat.le_of_ble_eq_true rfl) dX5_take_5) (fun z_1 V_2 h_3 => ?_)
  obtain ⟨rfl, rfl⟩ := h_3
  refine j_top (b := bI (gI g v)) rfl ?_
  refine j_ifb_ne (tgt := 14) C dX5_take_8 (by decide) (fun q_4 => ?_) (fun q_4 => ?_)
  · have nv := gI_nat ok (v := v) ‹gI g v = true›
    refine j_aload_n C dX5_take_14 rfl ?_
    refine j_get (v := sr 15) C 0 4 (by decide) (en_0 _ _) rfl (by decide) (fun w h => List.mem_cons_of_mem _ (List.mem_append_left _ (List.mem_append_left _ (List.mem_append_left _ (List.mem_append_right _ h))))) (List.mem_of_getElem? (i := 3) rfl) dX5_take_15 rfl ?_
    refine j_aload_n C dX5_take_18 rfl ?_
    refine j_get (v := sr 1) C 0 0 (by decide) (en_0 _ _) rfl (by decide) (fun w h => List.mem_cons_of_mem _ (List.mem_append_left _ (List.mem_append_left _ (List.mem_append_left _ (List.mem_append_right _ h))))) (List.mem_of_getElem? (i := 1) rfl) dX5_take_19 rfl ?_
    refine j_doV (st := []) (j_runVN C (kX4_remember (s := (g, r)) hG hdp) ggX5_take_X4_remember sgX4_remember rfl (List.mem_of_getElem? (i := 39) rfl) (List.mem_of_getElem? (i := 11) rfl) (List.mem_of_getElem? (i := 10) rfl) (List.mem_of_getElem? (i := 12) rfl) ⟨by decide, by decide⟩ (by decide) (en_15 _ _) rfl rfl rfl (Nat.le_of_ble_eq_true rfl) dX5_take_22) (fun V_6 h_7 => ?_)
    refine j_aload_n C dX5_take_25 rfl ?_
    refine j_get (v := sr 1) C 0 0 (by decide) (en_0 _ _) rfl (by decide) (fun w h => List.mem_cons_of_mem _ (List.mem_append_left _ (List.mem_append_left _ (List.mem_append_left _ (List.mem_append_right _ h))))) (List.mem_of_getElem? (i := 1) rfl) dX5_take_26 rfl ?_
    refine j_iload_n C dX5_take_29 rfl ?_
    refine j_doV (st := []) (j_runVN C (kX1_remove (g := g) (r := (rem (g, r)).2) h_7.1 ok v.toNat nv.1 (by omega) nv.2) ggX5_take_X1_remove sgX1_remove rfl (List.mem_of_getElem? (i := 45) rfl) (List.mem_of_getElem? (i := 6) rfl) (List.mem_of_getElem? (i := 25) rfl) (List.mem_of_getElem? (i := 26) rfl) ⟨by decide, by decide⟩ (by decide) (en_G (c := 1) (by decide) _) rfl rfl rfl (Nat.le_of_ble_eq_true rfl) dX5_take_30) (fun V_9 h_10 => ?_)
    have h_10 : CG V_9 (stg (rem (g, r)) (gTk g v.toNat)) ∧ hiF _ V_9 := h_10
    refine j_aload_n C dX5_take_33 rfl ?_
    refine j_get (v := sr 4) C 0 1 (by decide) (en_0 _ _) rfl (by decide) (fun w h => List.mem_cons_of_mem _ (List.mem_append_left _ (List.mem_append_left _ (List.mem_append_left _ (List.mem_append_right _ h))))) (List.mem_of_getElem? (i := 4) rfl) dX5_take_34 rfl ?_
    refine j_doV (st := []) (j_runVN C (kX3_follow (g := (gTk g v.toNat)) (show cls V_9 (gTk g v.toNat) from h_10.1.1) (gTk_ok ok nv.2)) ggX5_take_X3_follow sgX3_follow rfl (List.mem_of_getElem? (i := 42) rfl) (List.mem_of_getElem? (i := 29) rfl) (List.mem_of_getElem? (i := 28) rfl) (List.mem_of_getElem? (i := 30) rfl) ⟨by decide, by decide⟩ (by decide) (en_4 _ _) rfl rfl rfl (Nat.le_of_ble_eq_true rfl) dX5_take_37) (fun V_12 h_13 => ?_)
    have h_13 := CR_fol (s := (stg (rem (g, r)) (gTk g v.toNat))) h_10.1 h_13
    refine j_aload_n C dX5_take_40 rfl ?_
    refine j_get (v := sr 1) C 0 0 (by decide) (en_0 _ _) rfl (by decide) (fun w h => List.mem_cons_of_mem _ (List.mem_append_left _ (List.mem_append_left _ (List.mem_append_left _ (List.mem_append_right _ h))))) (List.mem_of_getElem? (i := 1) rfl) dX5_take_41 rfl ?_
    refine j_getN (v := si (V_12 1 2)) C 1 2 (by decide) (en_G (c := 1) (by decide) _) rfl (by decide) (fun w h => List.mem_cons_of_mem _ (List.mem_append_left _ (List.mem_append_left _ (List.mem_append_right _ h)))) (List.mem_of_getElem? (i := 7) rfl) dX5_take_44 rfl ?_
    refine j_top (show V_12 1 2 = (g 0 - 1) from h_13.1.1.1.1) ?_
    refine j_iret C hQ dX5_take_47 ?_
    have e9 : dTake (g, r) v = (g 0 - 1, stg (rem (g, r)) (gTk g v.toNat)) := by
      unfold dTake; dsimp only; rw [if_neg (fun z => z ‹gI g v = true›)]
    rw [e9]; exact ⟨h_13.1, (hiF_tr (hiF_tr h_7.2 h_10.2) h_13.2), rfl⟩
  · refine j_ldc (n := -1000000001) C (List.mem_of_getElem? (i := 2) rfl) (by decide) dX5_take_11 ?_
    refine j_iret C hQ dX5_take_13 ?_
    have e9 : dTake (g, r) v = (-1000000001, (g, r)) := by
      unfold dTake; dsimp only; rw [if_pos (by rw [‹gI g v = false›]; decide)]
    rw [e9]; exact ⟨hR, hiF_rf _, rfl⟩
def rX5_wake : Room := { frames := 4, cells := 0, slots := 0, locals := 95 }
theorem sgX5_wake : sg yX5_wake wsX5_wake cX5_wake 3 (some .int) rX5_wake 2 := ⟨⟨_, rfl⟩, rfl, rfl, by decide, by decide, by decide +kernel⟩
set_option maxHeartbeats 4000000 in
set_option maxRecDepth 100000 in
theorem kX5_wake {O : OmT} {l : Launch} {V : Mem} {g : Nat → Int} {r : Rt} (hR : CR V (g, r)) (os : okS (g, r)) (v : Int) (b : Bool) (hv : -2147483648 ≤ v ∧ v < 2147483648) : MI O l yX5_wake wsX5_wake rX5_wake [sr 0, si v, si (bI b)] V (fun z V2 => CR V2 (dWake (g, r) v b).2 ∧ hiF V V2 ∧ z = (dWake (g, r) v b).1) := by
  have ok : okg g := os.1
  have n1 := ok.n
  have a1 := ok.a
  have hn : net V g := hR.1
  have hc : cls V g := hn.1
  have hG : CG V (g, r) := hR.2
  have hdp : r.2.2.1.1 ≤ 16 := os.2.2.2.1.1
  have hbk : r.2.1.1 ≤ 20 := os.2.2.1.1
  refine mi_of (cc := cX5_wake) (nL := 3) (rt := (some .int)) (by decide) rfl rfl (Nat.le_of_ble_eq_true rfl) (fun F hF C hQ => ?_)
  subst hF
  change J O F rX5_wake 3 V 0 [(0, sr 0), (1, si v), (2, si (bI b))] []
  refine j_aload_n C dX5_wake_0 rfl ?_
  refine j_get (v := sr 1) C 0 0 (by decide) (en_0 _ _) rfl (by decide) (fun w h => List.mem_cons_of_mem _ (List.mem_append_left _ (List.mem_append_left _ (List.mem_append_left _ (List.mem_append_right _ h))))) (List.mem_of_getElem? (i := 1) rfl) dX5_wake_1 rfl ?_
  refine j_iload_n C dX5_wake_4 rfl ?_
  refine j_doI (st := []) (j_runVN C (kX1_has hc ok v (by omega)) ggX5_wake_X1_has sgX1_has rfl (List.mem_of_getElem? (i := 28) rfl) (List.mem_of_getElem? (i := 6) rfl) (List.mem_of_getElem? (i := 5) rfl) (List.mem_of_getElem? (i := 7) rfl) ⟨by decide, by decide⟩ (by decide) (en_G (c := 1) (by decide) _) rfl rfl rfl (Nat.le_of_ble_eq_true rfl) dX5_wake_5) (fun z_1 V_2 h_3 => ?_)
  obtain ⟨rfl, rfl⟩ := h_3
  refine j_top (b := bI (gI g v)) rfl ?_
  refine j_ifb_ne (tgt := 14) C dX5_wake_8 (by decide) (fun q_4 => ?_) (fun q_4 => ?_)
  · have nv := gI_nat ok (v := v) ‹gI g v = true›
    refine j_aload_n C dX5_wake_14 rfl ?_
    refine j_get (v := sr 15) C 0 4 (by decide) (en_0 _ _) rfl (by decide) (fun w h => List.mem_cons_of_mem _ (List.mem_append_left _ (List.mem_append_left _ (List.mem_append_left _ (List.mem_append_right _ h))))) (List.mem_of_getElem? (i := 3) rfl) dX5_wake_15 rfl ?_
    refine j_aload_n C dX5_wake_18 rfl ?_
    refine j_get (v := sr 1) C 0 0 (by decide) (en_0 _ _) rfl (by decide) (fun w h => List.mem_cons_of_mem _ (List.mem_append_left _ (List.mem_append_left _ (List.mem_append_left _ (List.mem_append_right _ h))))) (List.mem_of_getElem? (i := 1) rfl) dX5_wake_19 rfl ?_
    refine j_doV (st := []) (j_runVN C (kX4_remember (s := (g, r)) hG hdp) ggX5_wake_X4_remember sgX4_remember rfl (List.mem_of_getElem? (i := 39) rfl) (List.mem_of_getElem? (i := 11) rfl) (List.mem_of_getElem? (i := 10) rfl) (List.mem_of_getElem? (i := 12) rfl) ⟨by decide, by decide⟩ (by decide) (en_15 _ _) rfl rfl rfl (Nat.le_of_ble_eq_true rfl) dX5_wake_22) (fun V_6 h_7 => ?_)
    refine j_aload_n C dX5_wake_25 rfl ?_
    refine j_get (v := sr 1) C 0 0 (by decide) (en_0 _ _) rfl (by decide) (fun w h => List.mem_cons_of_mem _ (List.mem_append_left _ (List.mem_append_left _ (List.mem_append_left _ (List.mem_append_right _ h))))) (List.mem_of_getElem? (i := 1) rfl) dX5_wake_26 rfl ?_
    refine j_iload_n C dX5_wake_29 rfl ?_
    refine j_iload_n C dX5_wake_30 rfl ?_
    refine j_doV (st := []) (j_runVN C (kX1_setAwake (g := g) (r := (rem (g, r)).2) h_7.1 ok v.toNat b nv.1 (by omega)) ggX5_wake_X1_setAwake sgX1_setAwake rfl (List.mem_of_getElem? (i := 44) rfl) (List.mem_of_getElem? (i := 6) rfl) (List.mem_of_getElem? (i := 25) rfl) (List.mem_of_getElem? (i := 26) rfl) ⟨by decide, by decide⟩ (by decide) (en_G (c := 1) (by decide) _) rfl rfl rfl (Nat.le_of_ble_eq_true rfl) dX5_wake_31) (fun V_9 h_10 => ?_)
    have h_10 : CG V_9 (stg (rem (g, r)) (gAw g v.toNat b)) ∧ hiF _ V_9 := h_10
    refine j_aload_n C dX5_wake_34 rfl ?_
    refine j_get (v := sr 4) C 0 1 (by decide) (en_0 _ _) rfl (by decide) (fun w h => List.mem_cons_of_mem _ (List.mem_append_left _ (List.mem_append_left _ (List.mem_append_left _ (List.mem_append_right _ h))))) (List.mem_of_getElem? (i := 4) rfl) dX5_wake_35 rfl ?_
    refine j_doV (st := []) (j_runVN C (kX3_follow (g := (gAw g v.toNat b)) (show cls V_9 (gAw g v.toNat b) from h_10.1.1) (gAw_ok ok nv.2)) ggX5_wake_X3_follow sgX3_follow rfl (List.mem_of_getElem? (i := 42) rfl) (List.mem_of_getElem? (i := 29) rfl) (List.mem_of_getElem? (i := 28) rfl) (List.mem_of_getElem? (i := 30) rfl) ⟨by decide, by decide⟩ (by decide) (en_4 _ _) rfl rfl rfl (Nat.le_of_ble_eq_true rfl) dX5_wake_38) (fun V_12 h_13 => ?_)
    have h_13 := CR_fol (s := (stg (rem (g, r)) (gAw g v.toNat b))) h_10.1 h_13
    refine j_aload_n C dX5_wake_41 rfl ?_
    refine j_get (v := sr 1) C 0 0 (by decide) (en_0 _ _) rfl (by decide) (fun w h => List.mem_cons_of_mem _ (List.mem_append_left _ (List.mem_append_left _ (List.mem_append_left _ (List.mem_append_right _ h))))) (List.mem_of_getElem? (i := 1) rfl) dX5_wake_42 rfl ?_
    refine j_getN (v := si (V_12 1 3)) C 1 3 (by decide) (en_G (c := 1) (by decide) _) rfl (by decide) (fun w h => List.mem_cons_of_mem _ (List.mem_append_left _ (List.mem_append_left _ (List.mem_append_right _ h)))) (List.mem_of_getElem? (i := 9) rfl) dX5_wake_45 rfl ?_
    refine j_top (show V_12 1 3 = (((gAw g v.toNat b 3).toNat : Nat) : Int) from (show _ = _ from (h_13.1.1.1.2.1).trans (gAw_ok (b := b) ok nv.2).a.1)) ?_
    refine j_doI (st := []) (j_runS C (kJ6_bitCount_0f7a4 ((gAw g v.toNat b 3).toNat) rfl (gAw_ok (b := b) ok nv.2).a.2) ggX5_wake_J6_bitCount_0f7a4 sgJ6_bitCount_0f7a4 (List.mem_of_getElem? (i := 64) rfl) (List.mem_of_getElem? (i := 66) rfl) (List.mem_of_getElem? (i := 65) rfl) ⟨by decide, by decide⟩ rfl rfl (Nat.le_of_ble_eq_true rfl) dX5_wake_48) (fun z_14 V_15 h_16 => ?_)
    obtain ⟨rfl, rfl⟩ := h_16
    refine j_iret C hQ dX5_wake_51 ?_
    have e9 : dWake (g, r) v b = (gAc (gAw g v.toNat b) (gN g), stg (rem (g, r)) (gAw g v.toNat b)) := by
      unfold dWake; dsimp only; rw [if_neg (fun z => z ‹gI g v = true›)]
    rw [e9]; exact ⟨h_13.1, (hiF_tr (hiF_tr h_7.2 h_10.2) h_13.2), (pcN_gAc (gAw_ok (b := b) ok nv.2))⟩
  · refine j_ldc (n := -1000000001) C (List.mem_of_getElem? (i := 2) rfl) (by decide) dX5_wake_11 ?_
    refine j_iret C hQ dX5_wake_13 ?_
    have e9 : dWake (g, r) v b = (-1000000001, (g, r)) := by
      unfold dWake; dsimp only; rw [if_pos (by rw [‹gI g v = false›]; decide)]
    rw [e9]; exact ⟨hR, hiF_rf _, rfl⟩
def rX5_reach : Room := { frames := 4, cells := 0, slots := 0, locals := 95 }
theorem sgX5_reach : sg yX5_reach wsX5_reach cX5_reach 3 (some .int) rX5_reach 1 := ⟨⟨_, rfl⟩, rfl, rfl, by decide, by decide, by decide +kernel⟩
set_option maxHeartbeats 4000000 in
set_option maxRecDepth 100000 in
theorem kX5_reach {O : OmT} {l : Launch} {V : Mem} {g : Nat → Int} {r : Rt} (hR : CR V (g, r)) (os : okS (g, r)) (v : Int) (hv : -2147483648 ≤ v ∧ v < 2147483648) : MI O l yX5_reach wsX5_reach rX5_reach [sr 0, si v] V (fun z V2 => CR V2 (dReach (g, r) v).2 ∧ hiF V V2 ∧ z = (dReach (g, r) v).1) := by
  have ok : okg g := os.1
  have n1 := ok.n
  have a1 := ok.a
  have hn : net V g := hR.1
  have hc : cls V g := hn.1
  have hG : CG V (g, r) := hR.2
  have hdp : r.2.2.1.1 ≤ 16 := os.2.2.2.1.1
  have hbk : r.2.1.1 ≤ 20 := os.2.2.1.1
  refine mi_of (cc := cX5_reach) (nL := 3) (rt := (some .int)) (by decide) rfl rfl (Nat.le_of_ble_eq_true rfl) (fun F hF C hQ => ?_)
  subst hF
  change J O F rX5_reach 3 V 0 [(0, sr 0), (1, si v)] []
  refine j_iload_n C dX5_reach_0 rfl ?_
  refine j_iconst C dX5_reach_1 ?_
  refine j_icmp_lt (tgt := 12) C dX5_reach_2 (by decide) (by omega) (by decide) (fun q_1 => ?_) (fun q_1 => ?_)
  · refine j_ldc (n := -1000000002) C (List.mem_of_getElem? (i := 1) rfl) (by decide) dX5_reach_12 ?_
    refine j_iret C hQ dX5_reach_14 ?_
    have e9 : dReach (g, r) v = (-1000000002, (g, r)) := by
      unfold dReach; dsimp only; rw [if_pos (by omega)]
    rw [e9]; exact ⟨hR, hiF_rf _, rfl⟩
  · refine j_iload_n C dX5_reach_5 rfl ?_
    refine j_sipush C dX5_reach_6 (by decide) ?_
    refine j_icmp_le (tgt := 15) C dX5_reach_9 (by decide) (by omega) (by decide) (fun q_2 => ?_) (fun q_2 => ?_)
    · refine j_aload_n C dX5_reach_15 rfl ?_
      refine j_get (v := sr 1) C 0 0 (by decide) (en_0 _ _) rfl (by decide) (fun w h => List.mem_cons_of_mem _ (List.mem_append_left _ (List.mem_append_left _ (List.mem_append_left _ (List.mem_append_right _ h))))) (List.mem_of_getElem? (i := 2) rfl) dX5_reach_16 rfl ?_
      refine j_getN (v := si (V 1 4)) C 1 4 (by decide) (en_G (c := 1) (by decide) _) rfl (by decide) (fun w h => List.mem_cons_of_mem _ (List.mem_append_left _ (List.mem_append_left _ (List.mem_append_right _ h)))) (List.mem_of_getElem? (i := 10) rfl) dX5_reach_19 rfl ?_
      refine j_top hc.2.2.1 ?_
      refine j_istore_n (lv' := [(0, sr 0), (1, si v), (2, si (g 1))]) C dX5_reach_22 (by decide) rfl ?_
      refine j_aload_n C dX5_reach_23 rfl ?_
      refine j_get (v := sr 15) C 0 4 (by decide) (en_0 _ _) rfl (by decide) (fun w h => List.mem_cons_of_mem _ (List.mem_append_left _ (List.mem_append_left _ (List.mem_append_left _ (List.mem_append_right _ h))))) (List.mem_of_getElem? (i := 3) rfl) dX5_reach_24 rfl ?_
      refine j_aload_n C dX5_reach_27 rfl ?_
      refine j_get (v := sr 1) C 0 0 (by decide) (en_0 _ _) rfl (by decide) (fun w h => List.mem_cons_of_mem _ (List.mem_append_left _ (List.mem_append_left _ (List.mem_append_left _ (List.mem_append_right _ h))))) (List.mem_of_getElem? (i := 2) rfl) dX5_reach_28 rfl ?_
      refine j_doV (st := []) (j_runVN C (kX4_remember (s := (g, r)) hG hdp) ggX5_reach_X4_remember sgX4_remember rfl (List.mem_of_getElem? (i := 39) rfl) (List.mem_of_getElem? (i := 6) rfl) (List.mem_of_getElem? (i := 5) rfl) (List.mem_of_getElem? (i := 7) rfl) ⟨by decide, by decide⟩ (by decide) (en_15 _ _) rfl rfl rfl (Nat.le_of_ble_eq_true rfl) dX5_reach_31) (fun V_4 h_5 => ?_)
      refine j_aload_n C dX5_reach_34 rfl ?_
      refine j_get (v := sr 1) C 0 0 (by decide) (en_0 _ _) rfl (by decide) (fun w h => List.mem_cons_of_mem _ (List.mem_append_left _ (List.mem_append_left _ (List.mem_append_left _ (List.mem_append_right _ h))))) (List.mem_of_getElem? (i := 2) rfl) dX5_reach_35 rfl ?_
      refine j_iload_n C dX5_reach_38 rfl ?_
      refine j_putN C 1 4 (by decide) (en_G (c := 1) (by decide) _) (by rw [(en_G (c := 1) (by decide) _)]; rfl) pcl1 (by decide) (fun w h => List.mem_cons_of_mem _ (List.mem_append_left _ (List.mem_append_left _ (List.mem_append_right _ h)))) (List.mem_of_getElem? (i := 10) rfl) rfl rfl (fit_i _) (Nat.le_of_ble_eq_true rfl) dX5_reach_39 ?_
      have h_6 := CG_re (V := V_4) (s := (rem (g, r))) (x := v) h_5.1
      have h_6 : CG (ms V_4 1 4 v) (stg (rem (g, r)) (updg g 1 v)) ∧ hiF _ (ms V_4 1 4 v) := h_6
      refine j_aload_n C dX5_reach_42 rfl ?_
      refine j_get (v := sr 4) C 0 1 (by decide) (en_0 _ _) rfl (by decide) (fun w h => List.mem_cons_of_mem _ (List.mem_append_left _ (List.mem_append_left _ (List.mem_append_left _ (List.mem_append_right _ h))))) (List.mem_of_getElem? (i := 4) rfl) dX5_reach_43 rfl ?_
      refine j_doV (st := []) (j_runVN C (kX3_follow (g := (updg g 1 v)) (show cls (ms V_4 1 4 v) (updg g 1 v) from h_6.1.1) (upd1_ok ok (by omega))) ggX5_reach_X3_follow sgX3_follow rfl (List.mem_of_getElem? (i := 42) rfl) (List.mem_of_getElem? (i := 23) rfl) (List.mem_of_getElem? (i := 22) rfl) (List.mem_of_getElem? (i := 24) rfl) ⟨by decide, by decide⟩ (by decide) (en_4 _ _) rfl rfl rfl (Nat.le_of_ble_eq_true rfl) dX5_reach_46) (fun V_8 h_9 => ?_)
      have h_9 := CR_fol (s := (stg (rem (g, r)) (updg g 1 v))) h_6.1 h_9
      refine j_iload_n C dX5_reach_49 rfl ?_
      refine j_iret C hQ dX5_reach_50 ?_
      have e9 : dReach (g, r) v = (g 1, stg (rem (g, r)) (updg g 1 v)) := by
        unfold dReach; dsimp only; rw [if_neg (by omega)]
      rw [e9]; exact ⟨h_9.1, (hiF_tr (hiF_tr h_5.2 h_6.2) h_9.2), rfl⟩
    · refine j_ldc (n := -1000000002) C (List.mem_of_getElem? (i := 1) rfl) (by decide) dX5_reach_12 ?_
      refine j_iret C hQ dX5_reach_14 ?_
      have e9 : dReach (g, r) v = (-1000000002, (g, r)) := by
        unfold dReach; dsimp only; rw [if_pos (by omega)]
      rw [e9]; exact ⟨hR, hiF_rf _, rfl⟩
def rX5_rule : Room := { frames := 4, cells := 0, slots := 0, locals := 95 }
theorem sgX5_rule : sg yX5_rule wsX5_rule cX5_rule 3 (some .int) rX5_rule 1 := ⟨⟨_, rfl⟩, rfl, rfl, by decide, by decide, by decide +kernel⟩
set_option maxHeartbeats 4000000 in
set_option maxRecDepth 100000 in
theorem kX5_rule {O : OmT} {l : Launch} {V : Mem} {g : Nat → Int} {r : Rt} (hR : CR V (g, r)) (os : okS (g, r)) (v : Int) (hv : -2147483648 ≤ v ∧ v < 2147483648) : MI O l yX5_rule wsX5_rule rX5_rule [sr 0, si v] V (fun z V2 => CR V2 (dRule (g, r) v).2 ∧ hiF V V2 ∧ z = (dRule (g, r) v).1) := by
  have ok : okg g := os.1
  have n1 := ok.n
  have a1 := ok.a
  have hn : net V g := hR.1
  have hc : cls V g := hn.1
  have hG : CG V (g, r) := hR.2
  have hdp : r.2.2.1.1 ≤ 16 := os.2.2.2.1.1
  have hbk : r.2.1.1 ≤ 20 := os.2.2.1.1
  refine mi_of (cc := cX5_rule) (nL := 3) (rt := (some .int)) (by decide) rfl rfl (Nat.le_of_ble_eq_true rfl) (fun F hF C hQ => ?_)
  subst hF
  change J O F rX5_rule 3 V 0 [(0, sr 0), (1, si v)] []
  refine j_iload_n C dX5_rule_0 rfl ?_
  refine j_if_lt (tgt := 9) C dX5_rule_1 (by decide) (by omega) (fun q_1 => ?_) (fun q_1 => ?_)
  · refine j_ldc (n := -1000000002) C (List.mem_of_getElem? (i := 1) rfl) (by decide) dX5_rule_9 ?_
    refine j_iret C hQ dX5_rule_11 ?_
    have e9 : dRule (g, r) v = (-1000000002, (g, r)) := by
      unfold dRule; dsimp only; rw [if_pos (by omega)]
    rw [e9]; exact ⟨hR, hiF_rf _, rfl⟩
  · refine j_iload_n C dX5_rule_4 rfl ?_
    refine j_iconst C dX5_rule_5 ?_
    refine j_icmp_le (tgt := 12) C dX5_rule_6 (by decide) (by omega) (by decide) (fun q_2 => ?_) (fun q_2 => ?_)
    · refine j_aload_n C dX5_rule_12 rfl ?_
      refine j_get (v := sr 1) C 0 0 (by decide) (en_0 _ _) rfl (by decide) (fun w h => List.mem_cons_of_mem _ (List.mem_append_left _ (List.mem_append_left _ (List.mem_append_left _ (List.mem_append_right _ h))))) (List.mem_of_getElem? (i := 2) rfl) dX5_rule_13 rfl ?_
      refine j_getN (v := si (V 1 5)) C 1 5 (by decide) (en_G (c := 1) (by decide) _) rfl (by decide) (fun w h => List.mem_cons_of_mem _ (List.mem_append_left _ (List.mem_append_left _ (List.mem_append_right _ h)))) (List.mem_of_getElem? (i := 12) rfl) dX5_rule_16 rfl ?_
      refine j_top hc.2.2.2.1 ?_
      refine j_istore_n (lv' := [(0, sr 0), (1, si v), (2, si (g 2))]) C dX5_rule_19 (by decide) rfl ?_
      refine j_aload_n C dX5_rule_20 rfl ?_
      refine j_get (v := sr 15) C 0 4 (by decide) (en_0 _ _) rfl (by decide) (fun w h => List.mem_cons_of_mem _ (List.mem_append_left _ (List.mem_append_left _ (List.mem_append_left _ (List.mem_append_right _ h))))) (List.mem_of_getElem? (i := 3) rfl) dX5_rule_21 rfl ?_
      refine j_aload_n C dX5_rule_24 rfl ?_
      refine j_get (v := sr 1) C 0 0 (by decide) (en_0 _ _) rfl (by decide) (fun w h => List.mem_cons_of_mem _ (List.mem_append_left _ (List.mem_append_left _ (List.mem_append_left _ (List.mem_append_right _ h))))) (List.mem_of_getElem? (i := 2) rfl) dX5_rule_25 rfl ?_
      refine j_doV (st := []) (j_runVN C (kX4_remember (s := (g, r)) hG hdp) ggX5_rule_X4_remember sgX4_remember rfl (List.mem_of_getElem? (i := 39) rfl) (List.mem_of_getElem? (i := 6) rfl) (List.mem_of_getElem? (i := 5) rfl) (List.mem_of_getElem? (i := 7) rfl) ⟨by decide, by decide⟩ (by decide) (en_15 _ _) rfl rfl rfl (Nat.le_of_ble_eq_true rfl) dX5_rule_28) (fun V_4 h_5 => ?_)
      refine j_aload_n C dX5_rule_31 rfl ?_
      refine j_get (v := sr 1) C 0 0 (by decide) (en_0 _ _) rfl (by decide) (fun w h => List.mem_cons_of_mem _ (List.mem_append_left _ (List.mem_append_left _ (List.mem_append_left _ (List.mem_append_right _ h))))) (List.mem_of_getElem? (i := 2) rfl) dX5_rule_32 rfl ?_
      refine j_iload_n C dX5_rule_35 rfl ?_
      refine j_putN C 1 5 (by decide) (en_G (c := 1) (by decide) _) (by rw [(en_G (c := 1) (by decide) _)]; rfl) pcl1 (by decide) (fun w h => List.mem_cons_of_mem _ (List.mem_append_left _ (List.mem_append_left _ (List.mem_append_right _ h)))) (List.mem_of_getElem? (i := 12) rfl) rfl rfl (fit_i _) (Nat.le_of_ble_eq_true rfl) dX5_rule_36 ?_
      have h_6 := CG_ru (V := V_4) (s := (rem (g, r))) (x := v) h_5.1
      have h_6 : CG (ms V_4 1 5 v) (stg (rem (g, r)) (updg g 2 v)) ∧ hiF _ (ms V_4 1 5 v) := h_6
      refine j_aload_n C dX5_rule_39 rfl ?_
      refine j_get (v := sr 4) C 0 1 (by decide) (en_0 _ _) rfl (by decide) (fun w h => List.mem_cons_of_mem _ (List.mem_append_left _ (List.mem_append_left _ (List.mem_append_left _ (List.mem_append_right _ h))))) (List.mem_of_getElem? (i := 4) rfl) dX5_rule_40 rfl ?_
      refine j_doV (st := []) (j_runVN C (kX3_follow (g := (updg g 2 v)) (show cls (ms V_4 1 5 v) (updg g 2 v) from h_6.1.1) (upd2_ok ok (by omega))) ggX5_rule_X3_follow sgX3_follow rfl (List.mem_of_getElem? (i := 42) rfl) (List.mem_of_getElem? (i := 23) rfl) (List.mem_of_getElem? (i := 22) rfl) (List.mem_of_getElem? (i := 24) rfl) ⟨by decide, by decide⟩ (by decide) (en_4 _ _) rfl rfl rfl (Nat.le_of_ble_eq_true rfl) dX5_rule_43) (fun V_8 h_9 => ?_)
      have h_9 := CR_fol (s := (stg (rem (g, r)) (updg g 2 v))) h_6.1 h_9
      refine j_iload_n C dX5_rule_46 rfl ?_
      refine j_iret C hQ dX5_rule_47 ?_
      have e9 : dRule (g, r) v = (g 2, stg (rem (g, r)) (updg g 2 v)) := by
        unfold dRule; dsimp only; rw [if_neg (by omega)]
      rw [e9]; exact ⟨h_9.1, (hiF_tr (hiF_tr h_5.2 h_6.2) h_9.2), rfl⟩
    · refine j_ldc (n := -1000000002) C (List.mem_of_getElem? (i := 1) rfl) (by decide) dX5_rule_9 ?_
      refine j_iret C hQ dX5_rule_11 ?_
      have e9 : dRule (g, r) v = (-1000000002, (g, r)) := by
        unfold dRule; dsimp only; rw [if_pos (by omega)]
      rw [e9]; exact ⟨hR, hiF_rf _, rfl⟩
