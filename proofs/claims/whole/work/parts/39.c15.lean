def rX5_undo : Room := { frames := 4, cells := 0, slots := 0, locals := 95 }
theorem sgX5_undo : sg yX5_undo wsX5_undo cX5_undo 2 (some .int) rX5_undo 1 := ⟨⟨_, rfl⟩, rfl, rfl, by decide, by decide, by decide +kernel⟩
set_option maxHeartbeats 4000000 in
set_option maxRecDepth 100000 in
theorem kX5_undo {O : OmT} {l : Launch} {V : Mem} {g : Nat → Int} {r : Rt} (hR : CR V (g, r)) (os : okS (g, r)) (n : Int) (hn : -2147483648 ≤ n ∧ n < 2147483648) : MI O l yX5_undo wsX5_undo rX5_undo [sr 0, si n] V (fun z V2 => CR V2 (dUndo (g, r) n).2 ∧ hiF V V2 ∧ z = (dUndo (g, r) n).1) := by
  have ok : okg g := os.1
  have n1 := ok.n
  have a1 := ok.a
  have hn : net V g := hR.1
  have hc : cls V g := hn.1
  have hG : CG V (g, r) := hR.2
  have hdp : r.2.2.1.1 ≤ 16 := os.2.2.2.1.1
  have hbk : r.2.1.1 ≤ 20 := os.2.2.1.1
  refine mi_of (cc := cX5_undo) (nL := 2) (rt := (some .int)) (by decide) rfl rfl (Nat.le_of_ble_eq_true rfl) (fun F hF C hQ => ?_)
  subst hF
  change J O F rX5_undo 2 V 0 [(0, sr 0), (1, si n)] []
  refine j_iload_n C dX5_undo_0 rfl ?_
  refine j_iconst C dX5_undo_1 ?_
  refine j_icmp_lt (tgt := 11) C dX5_undo_2 (by decide) (by omega) (by decide) (fun q_1 => ?_) (fun q_1 => ?_)
  · refine j_ldc (n := -1000000002) C (List.mem_of_getElem? (i := 1) rfl) (by decide) dX5_undo_11 ?_
    refine j_iret C hQ dX5_undo_13 ?_
    have e9 : dUndo (g, r) n = (-1000000002, (g, r)) := by
      unfold dUndo; dsimp only; rw [if_pos (by omega)]
    rw [e9]; exact ⟨hR, hiF_rf _, rfl⟩
  · refine j_iload_n C dX5_undo_5 rfl ?_
    refine j_bipush C dX5_undo_6 (by decide) ?_
    refine j_icmp_le (tgt := 14) C dX5_undo_8 (by decide) (by omega) (by decide) (fun q_2 => ?_) (fun q_2 => ?_)
    · refine j_iload_n C dX5_undo_14 rfl ?_
      refine j_aload_n C dX5_undo_15 rfl ?_
      refine j_get (v := sr 15) C 0 4 (by decide) (en_0 _ _) rfl (by decide) (fun w h => List.mem_cons_of_mem _ (List.mem_append_left _ (List.mem_append_left _ (List.mem_append_left _ (List.mem_append_right _ h))))) (List.mem_of_getElem? (i := 2) rfl) dX5_undo_16 rfl ?_
      refine j_getN (v := si (V 15 2)) C 15 2 (by decide) (en_15 _ _) rfl (by decide) (fun w h => List.mem_cons_of_mem _ (List.mem_append_left _ (List.mem_append_left _ (List.mem_append_right _ h)))) (List.mem_of_getElem? (i := 23) rfl) dX5_undo_19 rfl ?_
      refine j_top (b := ((r.2.2.1.1 : Nat) : Int)) hG.2.2.2.2.1.1 ?_
      refine j_icmp_le (tgt := 28) C dX5_undo_22 (by decide) (by omega) (by omega) (fun q_3 => ?_) (fun q_3 => ?_)
      · refine j_aload_n C dX5_undo_28 rfl ?_
        refine j_get (v := sr 15) C 0 4 (by decide) (en_0 _ _) rfl (by decide) (fun w h => List.mem_cons_of_mem _ (List.mem_append_left _ (List.mem_append_left _ (List.mem_append_left _ (List.mem_append_right _ h))))) (List.mem_of_getElem? (i := 2) rfl) dX5_undo_29 rfl ?_
        refine j_iload_n C dX5_undo_32 rfl ?_
        refine j_aload_n C dX5_undo_33 rfl ?_
        refine j_get (v := sr 1) C 0 0 (by decide) (en_0 _ _) rfl (by decide) (fun w h => List.mem_cons_of_mem _ (List.mem_append_left _ (List.mem_append_left _ (List.mem_append_left _ (List.mem_append_right _ h))))) (List.mem_of_getElem? (i := 4) rfl) dX5_undo_34 rfl ?_
        refine j_doV (st := []) (j_runVN C (kX4_giveBack (s := (g, r)) hG hdp n.toNat (by omega) (by omega) (show n.toNat ≤ r.2.2.1.1 by omega)) ggX5_undo_X4_giveBack sgX4_giveBack rfl (List.mem_of_getElem? (i := 47) rfl) (List.mem_of_getElem? (i := 7) rfl) (List.mem_of_getElem? (i := 6) rfl) (List.mem_of_getElem? (i := 8) rfl) ⟨by decide, by decide⟩ (by decide) (en_15 _ _) rfl rfl rfl (Nat.le_of_ble_eq_true rfl) dX5_undo_37) (fun V_5 h_6 => ?_)
        refine j_aload_n C dX5_undo_40 rfl ?_
        refine j_get (v := sr 4) C 0 1 (by decide) (en_0 _ _) rfl (by decide) (fun w h => List.mem_cons_of_mem _ (List.mem_append_left _ (List.mem_append_left _ (List.mem_append_left _ (List.mem_append_right _ h))))) (List.mem_of_getElem? (i := 5) rfl) dX5_undo_41 rfl ?_
        refine j_doV (st := []) (j_runVN C (kX3_follow (g := (r.2.2.1.2 (n.toNat - 1))) (show cls V_5 (r.2.2.1.2 (n.toNat - 1)) from h_6.1.1) (show okg (r.2.2.1.2 (n.toNat - 1)) from os.2.2.2.1.2 _ (show n.toNat - 1 < r.2.2.1.1 by omega))) ggX5_undo_X3_follow sgX3_follow rfl (List.mem_of_getElem? (i := 42) rfl) (List.mem_of_getElem? (i := 28) rfl) (List.mem_of_getElem? (i := 27) rfl) (List.mem_of_getElem? (i := 29) rfl) ⟨by decide, by decide⟩ (by decide) (en_4 _ _) rfl rfl rfl (Nat.le_of_ble_eq_true rfl) dX5_undo_44) (fun V_8 h_9 => ?_)
        have h_9 := CR_fol (s := (unS (g, r) n.toNat)) h_6.1 h_9
        refine j_aload_n C dX5_undo_47 rfl ?_
        refine j_get (v := sr 15) C 0 4 (by decide) (en_0 _ _) rfl (by decide) (fun w h => List.mem_cons_of_mem _ (List.mem_append_left _ (List.mem_append_left _ (List.mem_append_left _ (List.mem_append_right _ h))))) (List.mem_of_getElem? (i := 2) rfl) dX5_undo_48 rfl ?_
        refine j_getN (v := si (V_8 15 2)) C 15 2 (by decide) (en_15 _ _) rfl (by decide) (fun w h => List.mem_cons_of_mem _ (List.mem_append_left _ (List.mem_append_left _ (List.mem_append_right _ h)))) (List.mem_of_getElem? (i := 23) rfl) dX5_undo_51 rfl ?_
        refine j_top (show V_8 15 2 = ((r.2.2.1.1 - n.toNat : Nat) : Int) from h_9.1.2.2.2.2.2.1.1) ?_
        refine j_iret C hQ dX5_undo_54 ?_
        have e9 : dUndo (g, r) n = ((r.2.2.1.1 : Int) - n, unS (g, r) n.toNat) := by
          unfold dUndo; dsimp only; rw [if_neg (by omega), if_neg (by omega)]; rfl
        rw [e9]; exact ⟨h_9.1, (hiF_tr h_6.2 h_9.2), (by omega)⟩
      · refine j_ldc (n := -1000000003) C (List.mem_of_getElem? (i := 3) rfl) (by decide) dX5_undo_25 ?_
        refine j_iret C hQ dX5_undo_27 ?_
        have e9 : dUndo (g, r) n = (-1000000003, (g, r)) := by
          unfold dUndo; dsimp only; rw [if_neg (by omega), if_pos (by omega)]
        rw [e9]; exact ⟨hR, hiF_rf _, rfl⟩
    · refine j_ldc (n := -1000000002) C (List.mem_of_getElem? (i := 1) rfl) (by decide) dX5_undo_11 ?_
      refine j_iret C hQ dX5_undo_13 ?_
      have e9 : dUndo (g, r) n = (-1000000002, (g, r)) := by
        unfold dUndo; dsimp only; rw [if_pos (by omega)]
      rw [e9]; exact ⟨hR, hiF_rf _, rfl⟩
def rX5_write : Room := { frames := 1, cells := 0, slots := 0, locals := 23 }
theorem sgX5_write : sg yX5_write wsX5_write cX5_write 4 (some .int) rX5_write 3 := ⟨⟨_, rfl⟩, rfl, rfl, by decide, by decide, by decide +kernel⟩
set_option maxHeartbeats 4000000 in
set_option maxRecDepth 100000 in
theorem kX5_write {O : OmT} {l : Launch} {V : Mem} {g : Nat → Int} {r : Rt} (hR : CR V (g, r)) (os : okS (g, r)) (s : Int) (t : Int) (v : Int) (hs : -2147483648 ≤ s ∧ s < 2147483648) (ht : -2147483648 ≤ t ∧ t < 2147483648) (hv : -2147483648 ≤ v ∧ v < 2147483648) : MI O l yX5_write wsX5_write rX5_write [sr 0, si s, si t, si v] V (fun z V2 => CR V2 (dWrite (g, r) s t v).2 ∧ hiF V V2 ∧ z = (dWrite (g, r) s t v).1) := by
  have ok : okg g := os.1
  have n1 := ok.n
  have a1 := ok.a
  have hn : net V g := hR.1
  have hc : cls V g := hn.1
  have hG : CG V (g, r) := hR.2
  have hdp : r.2.2.1.1 ≤ 16 := os.2.2.2.1.1
  have hbk : r.2.1.1 ≤ 20 := os.2.2.1.1
  refine mi_of (cc := cX5_write) (nL := 4) (rt := (some .int)) (by decide) rfl rfl (Nat.le_of_ble_eq_true rfl) (fun F hF C hQ => ?_)
  subst hF
  change J O F rX5_write 4 V 0 [(0, sr 0), (1, si s), (2, si t), (3, si v)] []
  refine j_aload_n C dX5_write_0 rfl ?_
  refine j_get (v := sr 1) C 0 0 (by decide) (en_0 _ _) rfl (by decide) (fun w h => List.mem_cons_of_mem _ (List.mem_append_left _ (List.mem_append_left _ (List.mem_append_right _ h)))) (List.mem_of_getElem? (i := 1) rfl) dX5_write_1 rfl ?_
  refine j_iload_n C dX5_write_4 rfl ?_
  refine j_doI (st := []) (j_runVN C (kX1_has hc ok s (by omega)) ggX5_write_X1_has sgX1_has rfl (List.mem_of_getElem? (i := 28) rfl) (List.mem_of_getElem? (i := 6) rfl) (List.mem_of_getElem? (i := 5) rfl) (List.mem_of_getElem? (i := 7) rfl) ⟨by decide, by decide⟩ (by decide) (en_G (c := 1) (by decide) _) rfl rfl rfl (Nat.le_of_ble_eq_true rfl) dX5_write_5) (fun z_1 V_2 h_3 => ?_)
  obtain ⟨rfl, rfl⟩ := h_3
  refine j_top (b := bI (gI g s)) rfl ?_
  refine j_ifb_eq (tgt := 22) C dX5_write_8 (by decide) (fun q_4 => ?_) (fun q_4 => ?_)
  · refine j_ldc (n := -1000000001) C (List.mem_of_getElem? (i := 2) rfl) (by decide) dX5_write_22 ?_
    refine j_iret C hQ dX5_write_24 ?_
    have e9 : dWrite (g, r) s t v = (-1000000001, (g, r)) := by
      unfold dWrite; dsimp only; rw [if_pos (by rintro ⟨z1, z2⟩; simp_all)]
    rw [e9]; exact ⟨hR, hiF_rf _, rfl⟩
  · refine j_aload_n C dX5_write_11 rfl ?_
    refine j_get (v := sr 1) C 0 0 (by decide) (en_0 _ _) rfl (by decide) (fun w h => List.mem_cons_of_mem _ (List.mem_append_left _ (List.mem_append_left _ (List.mem_append_right _ h)))) (List.mem_of_getElem? (i := 1) rfl) dX5_write_12 rfl ?_
    refine j_iload_n C dX5_write_15 rfl ?_
    refine j_doI (st := []) (j_runVN C (kX1_has hc ok t (by omega)) ggX5_write_X1_has sgX1_has rfl (List.mem_of_getElem? (i := 28) rfl) (List.mem_of_getElem? (i := 6) rfl) (List.mem_of_getElem? (i := 5) rfl) (List.mem_of_getElem? (i := 7) rfl) ⟨by decide, by decide⟩ (by decide) (en_G (c := 1) (by decide) _) rfl rfl rfl (Nat.le_of_ble_eq_true rfl) dX5_write_16) (fun z_5 V_6 h_7 => ?_)
    obtain ⟨rfl, rfl⟩ := h_7
    refine j_top (b := bI (gI g t)) rfl ?_
    refine j_ifb_ne (tgt := 25) C dX5_write_19 (by decide) (fun q_8 => ?_) (fun q_8 => ?_)
    · refine j_aload_n C dX5_write_25 rfl ?_
      refine j_get (v := sr 11) C 0 3 (by decide) (en_0 _ _) rfl (by decide) (fun w h => List.mem_cons_of_mem _ (List.mem_append_left _ (List.mem_append_left _ (List.mem_append_right _ h)))) (List.mem_of_getElem? (i := 3) rfl) dX5_write_26 rfl ?_
      refine j_getN (v := si (V 11 3)) C 11 3 (by decide) (en_11 _ _) rfl (by decide) (fun w h => List.mem_cons_of_mem _ (List.mem_append_left _ (List.mem_append_right _ h))) (List.mem_of_getElem? (i := 22) rfl) dX5_write_29 rfl ?_
      refine j_top (b := ((r.2.1.1 : Nat) : Int)) hG.2.2.2.1.1 ?_
      refine j_bipush C dX5_write_32 (by decide) ?_
      refine j_icmp_lt (tgt := 40) C dX5_write_34 (by decide) (by omega) (by decide) (fun q_9 => ?_) (fun q_9 => ?_)
      · refine j_aload_n C dX5_write_40 rfl ?_
        refine j_get (v := sr 11) C 0 3 (by decide) (en_0 _ _) rfl (by decide) (fun w h => List.mem_cons_of_mem _ (List.mem_append_left _ (List.mem_append_left _ (List.mem_append_right _ h)))) (List.mem_of_getElem? (i := 3) rfl) dX5_write_41 rfl ?_
        refine j_iload_n C dX5_write_44 rfl ?_
        refine j_iload_n C dX5_write_45 rfl ?_
        refine j_iload_n C dX5_write_46 rfl ?_
        refine j_doV (st := []) (j_runVN C (kX0_enter (bk := r.2.1.1) hG.2.2.2.1.1 (by omega)) ggX5_write_X0_enter sgX0_enter rfl (List.mem_of_getElem? (i := 48) rfl) (List.mem_of_getElem? (i := 11) rfl) (List.mem_of_getElem? (i := 10) rfl) (List.mem_of_getElem? (i := 12) rfl) ⟨by decide, by decide⟩ (by decide) (en_11 _ _) rfl rfl rfl (Nat.le_of_ble_eq_true rfl) dX5_write_47) (fun V_11 h_12 => ?_)
        subst h_12
        have h_13 := CR_wr (s := (g, r)) (a := s) (b := t) (v := v) hR
        refine j_aload_n C dX5_write_50 rfl ?_
        refine j_get (v := sr 11) C 0 3 (by decide) (en_0 _ _) rfl (by decide) (fun w h => List.mem_cons_of_mem _ (List.mem_append_left _ (List.mem_append_left _ (List.mem_append_right _ h)))) (List.mem_of_getElem? (i := 3) rfl) dX5_write_51 rfl ?_
        refine j_getN (v := si ((ms (ms (ms (ms V 12 r.2.1.1 s) 13 r.2.1.1 t) 14 r.2.1.1 v) 11 3 ((r.2.1.1 : Int) + 1)) 11 3)) C 11 3 (by decide) (en_11 _ _) rfl (by decide) (fun w h => List.mem_cons_of_mem _ (List.mem_append_left _ (List.mem_append_right _ h))) (List.mem_of_getElem? (i := 22) rfl) dX5_write_54 rfl ?_
        refine j_top (show (ms (ms (ms (ms V 12 r.2.1.1 s) 13 r.2.1.1 t) 14 r.2.1.1 v) 11 3 ((r.2.1.1 : Int) + 1)) 11 3 = ((r.2.1.1 : Nat) : Int) + 1 from rfl) ?_
        refine j_iret C hQ dX5_write_57 ?_
        have e9 : dWrite (g, r) s t v = ((r.2.1.1 : Int) + 1, (g, r.1, (r.2.1.1 + 1, updg r.2.1.2.1 r.2.1.1 s, updg r.2.1.2.2.1 r.2.1.1 t, updg r.2.1.2.2.2 r.2.1.1 v), r.2.2)) := by
          unfold dWrite; dsimp only; rw [if_neg (fun z => z ⟨‹gI g s = true›, ‹gI g t = true›⟩), if_neg (by omega)]
        rw [e9]; exact ⟨h_13.1, h_13.2, rfl⟩
      · refine j_ldc (n := -1000000004) C (List.mem_of_getElem? (i := 4) rfl) (by decide) dX5_write_37 ?_
        refine j_iret C hQ dX5_write_39 ?_
        have e9 : dWrite (g, r) s t v = (-1000000004, (g, r)) := by
          unfold dWrite; dsimp only; rw [if_neg (fun z => z ⟨‹gI g s = true›, ‹gI g t = true›⟩), if_pos (by have : r.2.1.1 ≤ 20 := os.2.2.1.1; omega)]
        rw [e9]; exact ⟨hR, hiF_rf _, rfl⟩
    · refine j_ldc (n := -1000000001) C (List.mem_of_getElem? (i := 2) rfl) (by decide) dX5_write_22 ?_
      refine j_iret C hQ dX5_write_24 ?_
      have e9 : dWrite (g, r) s t v = (-1000000001, (g, r)) := by
        unfold dWrite; dsimp only; rw [if_pos (by rintro ⟨z1, z2⟩; simp_all)]
      rw [e9]; exact ⟨hR, hiF_rf _, rfl⟩
def rX5_tear : Room := { frames := 0, cells := 0, slots := 0, locals := 0 }
theorem sgX5_tear : sg yX5_tear wsX5_tear cX5_tear 2 (some .int) rX5_tear 0 := ⟨⟨_, rfl⟩, rfl, rfl, by decide, by decide, by decide +kernel⟩
set_option maxHeartbeats 4000000 in
set_option maxRecDepth 100000 in
theorem kX5_tear {O : OmT} {l : Launch} {V : Mem} {g : Nat → Int} {r : Rt} (hR : CR V (g, r)) (os : okS (g, r))  : MI O l yX5_tear wsX5_tear rX5_tear [sr 0] V (fun z V2 => CR V2 (dTear (g, r)).2 ∧ hiF V V2 ∧ z = (dTear (g, r)).1) := by
  have ok : okg g := os.1
  have n1 := ok.n
  have a1 := ok.a
  have hn : net V g := hR.1
  have hc : cls V g := hn.1
  have hG : CG V (g, r) := hR.2
  have hdp : r.2.2.1.1 ≤ 16 := os.2.2.2.1.1
  have hbk : r.2.1.1 ≤ 20 := os.2.2.1.1
  refine mi_of (cc := cX5_tear) (nL := 2) (rt := (some .int)) (by decide) rfl rfl (Nat.le_of_ble_eq_true rfl) (fun F hF C hQ => ?_)
  subst hF
  change J O F rX5_tear 2 V 0 [(0, sr 0)] []
  refine j_aload_n C dX5_tear_0 rfl ?_
  refine j_get (v := sr 11) C 0 3 (by decide) (en_0 _ _) rfl (by decide) (fun w h => List.mem_cons_of_mem _ (List.mem_append_left _ (List.mem_append_right _ h))) (List.mem_of_getElem? (i := 1) rfl) dX5_tear_1 rfl ?_
  refine j_getN (v := si (V 11 3)) C 11 3 (by decide) (en_11 _ _) rfl (by decide) (fun w h => List.mem_cons_of_mem _ (List.mem_append_right _ h)) (List.mem_of_getElem? (i := 22) rfl) dX5_tear_4 rfl ?_
  refine j_top (b := ((r.2.1.1 : Nat) : Int)) hG.2.2.2.1.1 ?_
  refine j_istore_n (lv' := [(0, sr 0), (1, si ((r.2.1.1 : Nat) : Int))]) C dX5_tear_7 (by decide) rfl ?_
  refine j_aload_n C dX5_tear_8 rfl ?_
  refine j_get (v := sr 11) C 0 3 (by decide) (en_0 _ _) rfl (by decide) (fun w h => List.mem_cons_of_mem _ (List.mem_append_left _ (List.mem_append_right _ h))) (List.mem_of_getElem? (i := 1) rfl) dX5_tear_9 rfl ?_
  refine j_iconst C dX5_tear_12 ?_
  refine j_putN C 11 3 (by decide) (en_11 _ _) rfl pcl0 (by decide) (fun w h => List.mem_cons_of_mem _ (List.mem_append_right _ h)) (List.mem_of_getElem? (i := 22) rfl) rfl rfl (fit_i _) (Nat.le_of_ble_eq_true rfl) dX5_tear_13 ?_
  have h_1 := CR_te (s := (g, r)) hR
  refine j_iload_n C dX5_tear_16 rfl ?_
  refine j_iret C hQ dX5_tear_17 ?_
  have e9 : dTear (g, r) = ((r.2.1.1 : Int), (dTear (g, r)).2) := by
    unfold dTear; dsimp only; all_goals rfl
  rw [e9]; exact ⟨h_1.1, h_1.2, rfl⟩
def rX5_seed : Room := { frames := 0, cells := 0, slots := 0, locals := 0 }
theorem sgX5_seed : sg yX5_seed wsX5_seed cX5_seed 3 (some .int) rX5_seed 1 := ⟨⟨_, rfl⟩, rfl, rfl, by decide, by decide, by decide +kernel⟩
set_option maxHeartbeats 4000000 in
set_option maxRecDepth 100000 in
theorem kX5_seed {O : OmT} {l : Launch} {V : Mem} {g : Nat → Int} {r : Rt} (hR : CR V (g, r)) (os : okS (g, r)) (v : Int) (hv : -2147483648 ≤ v ∧ v < 2147483648) : MI O l yX5_seed wsX5_seed rX5_seed [sr 0, si v] V (fun z V2 => CR V2 (dSeed (g, r) v).2 ∧ hiF V V2 ∧ z = (dSeed (g, r) v).1) := by
  have ok : okg g := os.1
  have n1 := ok.n
  have a1 := ok.a
  have hn : net V g := hR.1
  have hc : cls V g := hn.1
  have hG : CG V (g, r) := hR.2
  have hdp : r.2.2.1.1 ≤ 16 := os.2.2.2.1.1
  have hbk : r.2.1.1 ≤ 20 := os.2.2.1.1
  refine mi_of (cc := cX5_seed) (nL := 3) (rt := (some .int)) (by decide) rfl rfl (Nat.le_of_ble_eq_true rfl) (fun F hF C hQ => ?_)
  subst hF
  change J O F rX5_seed 3 V 0 [(0, sr 0), (1, si v)] []
  refine j_iload_n C dX5_seed_0 rfl ?_
  refine j_if_ge (tgt := 7) C dX5_seed_1 (by decide) (by omega) (fun q_1 => ?_) (fun q_1 => ?_)
  · refine j_aload_n C dX5_seed_7 rfl ?_
    refine j_get (v := sr 1) C 0 0 (by decide) (en_0 _ _) rfl (by decide) (fun w h => List.mem_cons_of_mem _ (List.mem_append_left _ (List.mem_append_right _ h))) (List.mem_of_getElem? (i := 2) rfl) dX5_seed_8 rfl ?_
    refine j_getN (v := si (V 1 6)) C 1 6 (by decide) (en_G (c := 1) (by decide) _) rfl (by decide) (fun w h => List.mem_cons_of_mem _ (List.mem_append_right _ h)) (List.mem_of_getElem? (i := 14) rfl) dX5_seed_11 rfl ?_
    refine j_top (show V 1 6 = r.1 from hG.2.1) ?_
    refine j_istore_n (lv' := [(0, sr 0), (1, si v), (2, si r.1)]) C dX5_seed_14 (by decide) rfl ?_
    refine j_aload_n C dX5_seed_15 rfl ?_
    refine j_get (v := sr 1) C 0 0 (by decide) (en_0 _ _) rfl (by decide) (fun w h => List.mem_cons_of_mem _ (List.mem_append_left _ (List.mem_append_right _ h))) (List.mem_of_getElem? (i := 2) rfl) dX5_seed_16 rfl ?_
    refine j_iload_n C dX5_seed_19 rfl ?_
    refine j_putN C 1 6 (by decide) (en_G (c := 1) (by decide) _) (by rw [(en_G (c := 1) (by decide) _)]; rfl) pcl1 (by decide) (fun w h => List.mem_cons_of_mem _ (List.mem_append_right _ h)) (List.mem_of_getElem? (i := 14) rfl) rfl rfl (fit_i _) (Nat.le_of_ble_eq_true rfl) dX5_seed_20 ?_
    have h_2 := CR_sd (s := (g, r)) (x := v) hR
    refine j_iload_n C dX5_seed_23 rfl ?_
    refine j_iret C hQ dX5_seed_24 ?_
    have e9 : dSeed (g, r) v = (r.1, sds (g, r) v) := by
      unfold dSeed; dsimp only; rw [if_neg (by omega)]
    rw [e9]; exact ⟨h_2.1, h_2.2, rfl⟩
  · refine j_ldc (n := -1000000002) C (List.mem_of_getElem? (i := 1) rfl) (by decide) dX5_seed_4 ?_
    refine j_iret C hQ dX5_seed_6 ?_
    have e9 : dSeed (g, r) v = (-1000000002, (g, r)) := by
      unfold dSeed; dsimp only; rw [if_pos (by omega)]
    rw [e9]; exact ⟨hR, hiF_rf _, rfl⟩
def rX5_keep : Room := { frames := 1, cells := 0, slots := 0, locals := 22 }
theorem sgX5_keep : sg yX5_keep wsX5_keep cX5_keep 2 (some .int) rX5_keep 1 := ⟨⟨_, rfl⟩, rfl, rfl, by decide, by decide, by decide +kernel⟩
set_option maxHeartbeats 4000000 in
set_option maxRecDepth 100000 in
theorem kX5_keep {O : OmT} {l : Launch} {V : Mem} {g : Nat → Int} {r : Rt} (hR : CR V (g, r)) (os : okS (g, r)) (i : Int) (hi : -2147483648 ≤ i ∧ i < 2147483648) : MI O l yX5_keep wsX5_keep rX5_keep [sr 0, si i] V (fun z V2 => CR V2 (dKeep (g, r) i).2 ∧ hiF V V2 ∧ z = (dKeep (g, r) i).1) := by
  have ok : okg g := os.1
  have n1 := ok.n
  have a1 := ok.a
  have hn : net V g := hR.1
  have hc : cls V g := hn.1
  have hG : CG V (g, r) := hR.2
  have hdp : r.2.2.1.1 ≤ 16 := os.2.2.2.1.1
  have hbk : r.2.1.1 ≤ 20 := os.2.2.1.1
  obtain ⟨⟨kb, hk4, hk6, hkb⟩, hki⟩ := hG.2.2.2.2.2
  refine mi_of (cc := cX5_keep) (nL := 2) (rt := (some .int)) (by decide) rfl rfl (Nat.le_of_ble_eq_true rfl) (fun F hF C hQ => ?_)
  subst hF
  change J O F rX5_keep 2 V 0 [(0, sr 0), (1, si i)] []
  refine j_iload_n C dX5_keep_0 rfl ?_
  refine j_if_lt (tgt := 9) C dX5_keep_1 (by decide) (by omega) (fun q_1 => ?_) (fun q_1 => ?_)
  · refine j_ldc (n := -1000000001) C (List.mem_of_getElem? (i := 1) rfl) (by decide) dX5_keep_9 ?_
    refine j_iret C hQ dX5_keep_11 ?_
    have e9 : dKeep (g, r) i = (-1000000001, (g, r)) := by
      unfold dKeep; dsimp only; rw [if_pos (by omega)]
    rw [e9]; exact ⟨hR, hiF_rf _, rfl⟩
  · refine j_iload_n C dX5_keep_4 rfl ?_
    refine j_iconst C dX5_keep_5 ?_
    refine j_icmp_lt (tgt := 12) C dX5_keep_6 (by decide) (by omega) (by decide) (fun q_2 => ?_) (fun q_2 => ?_)
    · refine j_aload_n C dX5_keep_12 rfl ?_
      refine j_get (v := sr 65) C 0 5 (by decide) (en_0 _ _) rfl (by decide) (fun w h => List.mem_cons_of_mem _ (List.mem_append_left _ (List.mem_append_left _ (List.mem_append_right _ h)))) (List.mem_of_getElem? (i := 2) rfl) dX5_keep_13 rfl ?_
      refine j_iload_n C dX5_keep_16 rfl ?_
      refine j_aald C 65 66 2 (by decide) (en_65 _ _) (by decide) i.toNat (by omega) (by omega) dX5_keep_17 ?_
      refine j_aload_n C dX5_keep_18 rfl ?_
      refine j_get (v := sr 1) C 0 0 (by decide) (en_0 _ _) rfl (by decide) (fun w h => List.mem_cons_of_mem _ (List.mem_append_left _ (List.mem_append_left _ (List.mem_append_right _ h)))) (List.mem_of_getElem? (i := 3) rfl) dX5_keep_19 rfl ?_
      refine j_doV (st := []) (j_runVN C (kX1_copyNet (c := (66 + 3 * i.toNat)) (d := 1) (gb_i (by omega)) rfl (by omega) (show gnd V 1 g from hc)) ggX5_keep_X1_copyNet sgX1_copyNet rfl (List.mem_of_getElem? (i := 49) rfl) (List.mem_of_getElem? (i := 7) rfl) (List.mem_of_getElem? (i := 6) rfl) (List.mem_of_getElem? (i := 8) rfl) ⟨by decide, by decide⟩ (by omega) (en_G (c := (66 + 3 * i.toNat)) (gb_i (by omega)) _) rfl rfl rfl (Nat.le_of_ble_eq_true rfl) dX5_keep_22) (fun V_4 h_5 => ?_)
      refine j_aload_n C dX5_keep_25 rfl ?_
      refine j_get (v := sr 65) C 0 5 (by decide) (en_0 _ _) rfl (by decide) (fun w h => List.mem_cons_of_mem _ (List.mem_append_left _ (List.mem_append_left _ (List.mem_append_right _ h)))) (List.mem_of_getElem? (i := 2) rfl) dX5_keep_26 rfl ?_
      refine j_iload_n C dX5_keep_29 rfl ?_
      refine j_aald C 65 66 2 (by decide) (en_65 _ _) (by decide) i.toNat (by omega) (by omega) dX5_keep_30 ?_
      refine j_aload_n C dX5_keep_31 rfl ?_
      refine j_get (v := sr 1) C 0 0 (by decide) (en_0 _ _) rfl (by decide) (fun w h => List.mem_cons_of_mem _ (List.mem_append_left _ (List.mem_append_left _ (List.mem_append_right _ h)))) (List.mem_of_getElem? (i := 3) rfl) dX5_keep_32 rfl ?_
      refine j_getN (v := si (V_4 1 6)) C 1 6 (by decide) (en_G (c := 1) (by decide) _) rfl (by decide) (fun w h => List.mem_cons_of_mem _ (List.mem_append_left _ (List.mem_append_right _ h))) (List.mem_of_getElem? (i := 14) rfl) dX5_keep_35 rfl ?_
      refine j_top (b := r.1) (by rw [h_5.2.2 1 (by omega) (by omega) (by omega)]; exact hG.2.1) ?_
      refine j_putN C (66 + 3 * i.toNat) 6 (by omega) (en_G (c := (66 + 3 * i.toNat)) (gb_i (by omega)) _) (by rw [(en_G (c := (66 + 3 * i.toNat)) (gb_i (by omega)) _)]; rfl) pcl1 (by decide) (fun w h => List.mem_cons_of_mem _ (List.mem_append_left _ (List.mem_append_right _ h))) (List.mem_of_getElem? (i := 14) rfl) rfl rfl (fit_i _) (Nat.le_of_ble_eq_true rfl) dX5_keep_38 ?_
      refine j_aload_n C dX5_keep_41 rfl ?_
      refine j_dup C dX5_keep_42 rfl ?_
      refine j_get (v := si ((ms V_4 (66 + 3 * i.toNat) 6 r.1) 0 6)) C 0 6 (by decide) (en_0 _ _) rfl (by decide) (fun w h => List.mem_cons_of_mem _ (List.mem_append_left _ (List.mem_append_left _ (List.mem_append_right _ h)))) (List.mem_of_getElem? (i := 4) rfl) dX5_keep_43 rfl ?_
      refine j_top (b := (kb : Int)) (by rw [ms_ne _ (by omega), h_5.2.2 0 (by omega) (by omega) (by omega)]; exact hk6) ?_
      refine j_iconst C dX5_keep_46 ?_
      refine j_iload_n C dX5_keep_47 rfl ?_
      refine j_ishl C dX5_keep_48 ?_
      refine j_top (b := ((2 ^ i.toNat : Nat) : Int)) (by rw [show i = (i.toNat : Int) by omega, bShl_1 (by omega)]; rfl) ?_
      refine j_ior C dX5_keep_49 ?_
      refine j_top (bOr_nat (by omega) (p2_31 (by omega))) ?_
      refine j_put C 0 6 (by decide) (en_0 _ _) rfl pcl5 (by decide) (fun w h => List.mem_cons_of_mem _ (List.mem_append_left _ (List.mem_append_left _ (List.mem_append_right _ h)))) (List.mem_of_getElem? (i := 4) rfl) rfl rfl (fit_i _) (Nat.le_of_ble_eq_true rfl) dX5_keep_50 ?_
      refine j_aload_n C dX5_keep_53 rfl ?_
      refine j_get (v := sr 15) C 0 4 (by decide) (en_0 _ _) rfl (by decide) (fun w h => List.mem_cons_of_mem _ (List.mem_append_left _ (List.mem_append_left _ (List.mem_append_right _ h)))) (List.mem_of_getElem? (i := 5) rfl) dX5_keep_54 rfl ?_
      refine j_iconst C dX5_keep_57 ?_
      refine j_putN C 15 2 (by decide) (en_15 _ _) rfl pcl4 (by decide) (fun w h => List.mem_cons_of_mem _ (List.mem_append_right _ h)) (List.mem_of_getElem? (i := 23) rfl) rfl rfl (fit_i _) (Nat.le_of_ble_eq_true rfl) dX5_keep_58 ?_
      have h_6 : CR (ms (ms (ms V_4 (66 + 3 * i.toNat) 6 r.1) 0 6 ((kb ||| 2 ^ i.toNat : Nat) : Int)) 15 2 0) (kpS (g, r) i.toNat) ∧ hiF V (ms (ms (ms V_4 (66 + 3 * i.toNat) 6 r.1) 0 6 ((kb ||| 2 ^ i.toNat : Nat) : Int)) 15 2 0) := CR_kp (s := (g, r)) (i := i.toNat) (b := kb) hR (by omega) hk4 hkb rfl rfl (by show (ms V_4 (66 + 3 * i.toNat) 6 r.1) 15 1 = _; rw [ms_ne _ (by omega), h_5.2.2 15 (by omega) (by omega) (by omega)]) (gnd_kp (by omega) (by omega) (by omega) h_5.1) (by rw [ms_ne _ (by omega), ms_ne _ (by omega), ms_at, if_pos rfl, if_pos rfl]) (fun c h1 h2 h3 h4 h5 => by rw [ms_ne _ h2, ms_ne _ h1, ms_ne _ h3]; exact h_5.2.2 c h3 h4 h5)
      refine j_iconst C dX5_keep_61 ?_
      refine j_iret C hQ dX5_keep_62 ?_
      have e9 : dKeep (g, r) i = (1, kpS (g, r) i.toNat) := by
        unfold dKeep; dsimp only; rw [if_neg (by omega)]; rfl
      rw [e9]; exact ⟨h_6.1, h_6.2, rfl⟩
    · refine j_ldc (n := -1000000001) C (List.mem_of_getElem? (i := 1) rfl) (by decide) dX5_keep_9 ?_
      refine j_iret C hQ dX5_keep_11 ?_
      have e9 : dKeep (g, r) i = (-1000000001, (g, r)) := by
        unfold dKeep; dsimp only; rw [if_pos (by omega)]
      rw [e9]; exact ⟨hR, hiF_rf _, rfl⟩
