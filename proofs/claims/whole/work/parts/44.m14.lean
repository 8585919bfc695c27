def rX6_undo : Room := { frames := 1, cells := 0, slots := 0, locals := 22 }
theorem sgX6_undo : sg yX6_undo wsX6_undo cX6_undo 3 (some .int) rX6_undo 1 := ⟨⟨_, rfl⟩, rfl, rfl, by decide, by decide, by decide +kernel⟩
set_option maxHeartbeats 4000000 in
set_option maxRecDepth 100000 in
theorem lpX6_undo {O : OmT} {F : PhT} {V : Mem} (C : cx O F RX6 cX6_undo 3 (some .int) wsX6_undo) {p q : Nat} (hq : q < 16) (h3 : V 72 3 = (q : Int)) (kx : J O F rX6_undo 3 (cpm V 73 0 (fun i => V 74 (24 * q + i)) 24) 84 [(0, sr 72), (1, si (p : Int)), (2, si (24 : Int))] []) : ∀ (fuel : Nat) (w : Nat), (w ≤ 24) → 24 - w < fuel → J O F rX6_undo 3 (cpm V 73 0 (fun i => V 74 (24 * q + i)) w) 52 [(0, sr 72), (1, si (p : Int)), (2, si (w : Int))] [] := by
  intro fuel
  induction fuel with
  | zero => intro w hw hf; exact absurd hf (Nat.not_lt_zero _)
  | succ fuel ih =>
    intro w hw hf
    refine j_iload_n C dX6_undo_52 rfl ?_
    refine j_bipush C dX6_undo_53 (by decide) ?_
    refine j_icmp_ge (tgt := 84) C dX6_undo_55 (by decide) (by omega) (by decide) (fun q_1 => ?_) (fun q_1 => ?_)
    · have e : w = 24 := by omega
      rw [e]
      exact kx
    · refine j_aload_n C dX6_undo_58 rfl ?_
      refine j_get (v := sr 73) C 72 0 (by decide) (en_72 _ _) rfl (by decide) (fun w h => List.mem_cons_of_mem _ (List.mem_append_right _ h)) (List.mem_of_getElem? (i := 5) rfl) dX6_undo_59 rfl ?_
      refine j_iload_n C dX6_undo_62 rfl ?_
      refine j_aload_n C dX6_undo_63 rfl ?_
      refine j_get (v := sr 74) C 72 1 (by decide) (en_72 _ _) rfl (by decide) (fun w h => List.mem_cons_of_mem _ (List.mem_append_right _ h)) (List.mem_of_getElem? (i := 6) rfl) dX6_undo_64 rfl ?_
      refine j_bipush C dX6_undo_67 (by decide) ?_
      refine j_aload_n C dX6_undo_69 rfl ?_
      refine j_get (v := si ((cpm V 73 0 (fun i => V 74 (24 * q + i)) w) 72 3)) C 72 3 (by decide) (en_72 _ _) rfl (by decide) (fun w h => List.mem_cons_of_mem _ (List.mem_append_right _ h)) (List.mem_of_getElem? (i := 4) rfl) dX6_undo_70 rfl ?_
      refine j_top (show (cpm V 73 0 (fun i => V 74 (24 * q + i)) w) 72 3 = (q : Int) from h3) ?_
      refine j_imul C dX6_undo_73 ?_
      refine j_iload_n C dX6_undo_74 rfl ?_
      refine j_iadd C dX6_undo_75 ?_
      refine j_iald C (row_74 O) ((24 * q) + w) (by omega) (by omega) dX6_undo_76 ?_
      refine j_top (show (cpm V 73 0 (fun i => V 74 (24 * q + i)) w) 74 ((24 * q) + w) = V 74 ((24 * q) + w) from rfl) ?_
      refine j_iast C (row_73 O) w rfl (by omega) dX6_undo_77 ?_
      refine j_iinc (lv' := [(0, sr 72), (1, si (p : Int)), (2, si ((w : Int) + 1))]) C dX6_undo_78 rfl (by decide) rfl ?_
      refine j_goto (tgt := 52) C dX6_undo_81 (by decide) ?_
      refine j_mem (V2 := (cpm V 73 0 (fun i => V 74 (24 * q + i)) (w + 1))) (cpm_s V 73 0 _ w rfl (by omega)) ?_
      exact ih (w + 1) (by omega) (by omega)
set_option maxHeartbeats 4000000 in
set_option maxRecDepth 100000 in
theorem kX6_undo {O : OmT} {l : Launch} {V : Mem} {g : Nat → Int} {r : Rt} (hM : MR V (g, r)) (os : okS (g, r)) (n : Int) (hn : -2147483648 ≤ n ∧ n < 2147483648) : MI O l yX6_undo wsX6_undo rX6_undo [sr 72, si n] V (fun z V2 => MR V2 (dUndo (g, r) n).2 ∧ loF V V2 ∧ z = (dUndo (g, r) n).1) := by
  have ok : okg g := os.1
  have n1 := ok.n
  have a1 := ok.a
  have hg : mdl V g := hM.1
  have hdp : r.2.2.1.1 ≤ 16 := os.2.2.2.1.1
  have hbk : r.2.1.1 ≤ 20 := os.2.2.1.1
  obtain ⟨hp2, ua, hua, hp3, hp⟩ := hM.2.2.2.1
  have hp2 : V 72 2 = ((r.2.2.1.1 : Nat) : Int) := hp2
  refine mi_of (cc := cX6_undo) (nL := 3) (rt := (some .int)) (by decide) rfl rfl (Nat.le_of_ble_eq_true rfl) (fun F hF C hQ => ?_)
  subst hF
  change J O F rX6_undo 3 V 0 [(0, sr 72), (1, si n)] []
  refine j_iload_n C dX6_undo_0 rfl ?_
  refine j_iconst C dX6_undo_1 ?_
  refine j_bipush C dX6_undo_2 (by decide) ?_
  refine j_doI (st := []) (j_runS C (kX6_in n 1 16 (by omega) (by decide) (by decide)) ggX6_undo_X6_in sgX6_in (List.mem_of_getElem? (i := 7) rfl) (List.mem_of_getElem? (i := 9) rfl) (List.mem_of_getElem? (i := 8) rfl) ⟨by decide, by decide⟩ rfl rfl (Nat.le_of_ble_eq_true rfl) dX6_undo_4) (fun z_1 V_2 h_3 => ?_)
  obtain ⟨rfl, rfl⟩ := h_3
  refine j_ifb_ne (tgt := 13) C dX6_undo_7 (by decide) (fun q_4 => ?_) (fun q_4 => ?_)
  · refine j_iload_n C dX6_undo_13 rfl ?_
    refine j_aload_n C dX6_undo_14 rfl ?_
    refine j_get (v := si (V 72 2)) C 72 2 (by decide) (en_72 _ _) rfl (by decide) (fun w h => List.mem_cons_of_mem _ (List.mem_append_right _ h)) (List.mem_of_getElem? (i := 2) rfl) dX6_undo_15 rfl ?_
    refine j_top (b := ((r.2.2.1.1 : Nat) : Int)) hp2 ?_
    refine j_icmp_le (tgt := 24) C dX6_undo_18 (by decide) (by omega) (by omega) (fun q_5 => ?_) (fun q_5 => ?_)
    · have hq : 1 ≤ n ∧ n ≤ 16 := by simp only [Bool.and_eq_true, decide_eq_true_eq] at *; omega
      have nn : n = (n.toNat : Int) := by omega
      refine j_lv (lv' := [(0, sr 72), (1, si ((n.toNat : Nat) : Int))]) (by rw [← nn]) ?_
      refine j_aload_n C dX6_undo_24 rfl ?_
      refine j_aload_n C dX6_undo_25 rfl ?_
      refine j_get (v := si (V 72 3)) C 72 3 (by decide) (en_72 _ _) rfl (by decide) (fun w h => List.mem_cons_of_mem _ (List.mem_append_right _ h)) (List.mem_of_getElem? (i := 4) rfl) dX6_undo_26 rfl ?_
      refine j_top hp3 ?_
      refine j_bipush C dX6_undo_29 (by decide) ?_
      refine j_iadd C dX6_undo_31 ?_
      refine j_iload_n C dX6_undo_32 rfl ?_
      refine j_isub C dX6_undo_33 ?_
      refine j_bipush C dX6_undo_34 (by decide) ?_
      refine j_irem C dX6_undo_36 (by decide) (by decide) ?_
      refine j_top (b := ((((ua + 16 - n.toNat) % 16) : Nat) : Int)) (by rw [show (ua : Int) + 16 - ((n.toNat : Nat) : Int) = ((ua + 16 - n.toNat : Nat) : Int) by omega]; exact bRem_nat (b := 16) (by omega) (by decide) (by decide)) ?_
      refine j_put C 72 3 (by decide) (en_72 _ _) rfl pcl6 (by decide) (fun w h => List.mem_cons_of_mem _ (List.mem_append_right _ h)) (List.mem_of_getElem? (i := 4) rfl) rfl rfl (fit_i _) (Nat.le_of_ble_eq_true rfl) dX6_undo_37 ?_
      refine j_aload_n C dX6_undo_40 rfl ?_
      refine j_dup C dX6_undo_41 rfl ?_
      refine j_get (v := si ((ms V 72 3 (((ua + 16 - n.toNat) % 16 : Nat) : Int)) 72 2)) C 72 2 (by decide) (en_72 _ _) rfl (by decide) (fun w h => List.mem_cons_of_mem _ (List.mem_append_right _ h)) (List.mem_of_getElem? (i := 2) rfl) dX6_undo_42 rfl ?_
      refine j_top (show (ms V 72 3 (((ua + 16 - n.toNat) % 16 : Nat) : Int)) 72 2 = ((r.2.2.1.1 : Nat) : Int) from hp2) ?_
      refine j_iload_n C dX6_undo_45 rfl ?_
      refine j_isub C dX6_undo_46 ?_
      refine j_put C 72 2 (by decide) (en_72 _ _) rfl pcl6 (by decide) (fun w h => List.mem_cons_of_mem _ (List.mem_append_right _ h)) (List.mem_of_getElem? (i := 2) rfl) rfl rfl (fit_i _) (Nat.le_of_ble_eq_true rfl) dX6_undo_47 ?_
      refine j_iconst C dX6_undo_50 ?_
      refine j_istore_n (lv' := [(0, sr 72), (1, si ((n.toNat : Nat) : Int)), (2, si 0)]) C dX6_undo_51 (by decide) rfl ?_
      refine j_mem (V2 := (cpm (ms (ms V 72 3 (((ua + 16 - n.toNat) % 16 : Nat) : Int)) 72 2 (((r.2.2.1.1 : Nat) : Int) - ((n.toNat : Nat) : Int))) 73 0 (fun i => (ms (ms V 72 3 (((ua + 16 - n.toNat) % 16 : Nat) : Int)) 72 2 (((r.2.2.1.1 : Nat) : Int) - ((n.toNat : Nat) : Int))) 74 (24 * ((ua + 16 - n.toNat) % 16) + i)) 0)) (cpm_0 _ 73 0 _) ?_
      refine lpX6_undo C (p := n.toNat) (q := ((ua + 16 - n.toNat) % 16)) (Nat.mod_lt _ (by decide)) rfl ?_ _ 0 (Nat.zero_le _) (Nat.lt_succ_self _)
      refine j_aload_n C dX6_undo_84 rfl ?_
      refine j_get (v := si ((cpm (ms (ms V 72 3 (((ua + 16 - n.toNat) % 16 : Nat) : Int)) 72 2 (((r.2.2.1.1 : Nat) : Int) - ((n.toNat : Nat) : Int))) 73 0 (fun i => (ms (ms V 72 3 (((ua + 16 - n.toNat) % 16 : Nat) : Int)) 72 2 (((r.2.2.1.1 : Nat) : Int) - ((n.toNat : Nat) : Int))) 74 (24 * ((ua + 16 - n.toNat) % 16) + i)) 24) 72 2)) C 72 2 (by decide) (en_72 _ _) rfl (by decide) (fun w h => List.mem_cons_of_mem _ (List.mem_append_right _ h)) (List.mem_of_getElem? (i := 2) rfl) dX6_undo_85 rfl ?_
      refine j_top (show (cpm (ms (ms V 72 3 (((ua + 16 - n.toNat) % 16 : Nat) : Int)) 72 2 (((r.2.2.1.1 : Nat) : Int) - ((n.toNat : Nat) : Int))) 73 0 (fun i => (ms (ms V 72 3 (((ua + 16 - n.toNat) % 16 : Nat) : Int)) 72 2 (((r.2.2.1.1 : Nat) : Int) - ((n.toNat : Nat) : Int))) 74 (24 * ((ua + 16 - n.toNat) % 16) + i)) 24) 72 2 = ((r.2.2.1.1 : Nat) : Int) - ((n.toNat : Nat) : Int) from rfl) ?_
      refine j_iret C hQ dX6_undo_88 ?_
      have h9 : MR (cpm (ms (ms V 72 3 (((ua + 16 - n.toNat) % 16 : Nat) : Int)) 72 2 (((r.2.2.1.1 : Nat) : Int) - ((n.toNat : Nat) : Int))) 73 0 (fun i => (ms (ms V 72 3 (((ua + 16 - n.toNat) % 16 : Nat) : Int)) 72 2 (((r.2.2.1.1 : Nat) : Int) - ((n.toNat : Nat) : Int))) 74 (24 * ((ua + 16 - n.toNat) % 16) + i)) 24) (unS (g, r) n.toNat) ∧ loF V (cpm (ms (ms V 72 3 (((ua + 16 - n.toNat) % 16 : Nat) : Int)) 72 2 (((r.2.2.1.1 : Nat) : Int) - ((n.toNat : Nat) : Int))) 73 0 (fun i => (ms (ms V 72 3 (((ua + 16 - n.toNat) % 16 : Nat) : Int)) 72 2 (((r.2.2.1.1 : Nat) : Int) - ((n.toNat : Nat) : Int))) 74 (24 * ((ua + 16 - n.toNat) % 16) + i)) 24) := MR_un (s := (g, r)) (n := n.toNat) hM hua hp (by omega) (show n.toNat ≤ r.2.2.1.1 by omega) hdp (show ((r.2.2.1.1 : Nat) : Int) - ((n.toNat : Nat) : Int) = ((r.2.2.1.1 - n.toNat : Nat) : Int) by omega) rfl rfl rfl (fun k hk => by rw [cpm_in (Nat.zero_le _) (by omega)]; rfl) (fun c h1 h2 => by rw [cpm_ne h2, ms_ne _ h1, ms_ne _ h1])
      have e9 : dUndo (g, r) n = ((r.2.2.1.1 : Int) - n, unS (g, r) n.toNat) := by
        unfold dUndo; dsimp only; rw [if_neg (by simp only [Bool.and_eq_true, decide_eq_true_eq] at *; omega), if_neg (by omega)]; rfl
      rw [e9]; exact ⟨h9.1, h9.2, (by omega)⟩
    · refine j_ldc (n := -1000000003) C (List.mem_of_getElem? (i := 3) rfl) (by decide) dX6_undo_21 ?_
      refine j_iret C hQ dX6_undo_23 ?_
      have e9 : dUndo (g, r) n = (-1000000003, (g, r)) := by
        unfold dUndo; dsimp only; rw [if_neg (by simp only [Bool.and_eq_true, decide_eq_true_eq] at *; omega), if_pos (by omega)]
      rw [e9]; exact ⟨hM, loF_rf _, rfl⟩
  · refine j_ldc (n := -1000000002) C (List.mem_of_getElem? (i := 1) rfl) (by decide) dX6_undo_10 ?_
    refine j_iret C hQ dX6_undo_12 ?_
    have e9 : dUndo (g, r) n = (-1000000002, (g, r)) := by
      unfold dUndo; dsimp only; rw [if_pos (by simp only [Bool.and_eq_false_iff, decide_eq_false_iff_not] at *; omega)]
    rw [e9]; exact ⟨hM, loF_rf _, rfl⟩
def rX6_write : Room := { frames := 2, cells := 0, slots := 0, locals := 43 }
theorem sgX6_write : sg yX6_write wsX6_write cX6_write 4 (some .int) rX6_write 3 := ⟨⟨_, rfl⟩, rfl, rfl, by decide, by decide, by decide +kernel⟩
set_option maxHeartbeats 4000000 in
set_option maxRecDepth 100000 in
theorem kX6_write {O : OmT} {l : Launch} {V : Mem} {g : Nat → Int} {r : Rt} (hM : MR V (g, r)) (os : okS (g, r)) (s : Int) (t : Int) (v : Int) (hs : -2147483648 ≤ s ∧ s < 2147483648) (ht : -2147483648 ≤ t ∧ t < 2147483648) (hv : -2147483648 ≤ v ∧ v < 2147483648) : MI O l yX6_write wsX6_write rX6_write [sr 72, si s, si t, si v] V (fun z V2 => MR V2 (dWrite (g, r) s t v).2 ∧ loF V V2 ∧ z = (dWrite (g, r) s t v).1) := by
  have ok : okg g := os.1
  have n1 := ok.n
  have a1 := ok.a
  have hg : mdl V g := hM.1
  have hdp : r.2.2.1.1 ≤ 16 := os.2.2.2.1.1
  have hbk : r.2.1.1 ≤ 20 := os.2.2.1.1
  refine mi_of (cc := cX6_write) (nL := 4) (rt := (some .int)) (by decide) rfl rfl (Nat.le_of_ble_eq_true rfl) (fun F hF C hQ => ?_)
  subst hF
  change J O F rX6_write 4 V 0 [(0, sr 72), (1, si s), (2, si t), (3, si v)] []
  refine j_aload_n C dX6_write_0 rfl ?_
  refine j_iload_n C dX6_write_1 rfl ?_
  refine j_doI (st := []) (j_runV C (kX6_isNode hg ok s (by omega)) gX6_write_X6_isNode sgX6_isNode rfl ⟨by decide, by decide⟩ (by decide) (en_72 _ _) rfl rfl rfl (Nat.le_of_ble_eq_true rfl) dX6_write_2) (fun z_1 V_2 h_3 => ?_)
  obtain ⟨rfl, rfl⟩ := h_3
  refine j_top (b := bI (gI g s)) rfl ?_
  refine j_ifb_eq (tgt := 16) C dX6_write_5 (by decide) (fun q_4 => ?_) (fun q_4 => ?_)
  · refine j_ldc (n := -1000000001) C (List.mem_of_getElem? (i := 1) rfl) (by decide) dX6_write_16 ?_
    refine j_iret C hQ dX6_write_18 ?_
    have e9 : dWrite (g, r) s t v = (-1000000001, (g, r)) := by
      unfold dWrite; dsimp only; rw [if_pos (by rintro ⟨z1, z2⟩; simp_all)]
    rw [e9]; exact ⟨hM, loF_rf _, rfl⟩
  · refine j_aload_n C dX6_write_8 rfl ?_
    refine j_iload_n C dX6_write_9 rfl ?_
    refine j_doI (st := []) (j_runV C (kX6_isNode hg ok t (by omega)) gX6_write_X6_isNode sgX6_isNode rfl ⟨by decide, by decide⟩ (by decide) (en_72 _ _) rfl rfl rfl (Nat.le_of_ble_eq_true rfl) dX6_write_10) (fun z_5 V_6 h_7 => ?_)
    obtain ⟨rfl, rfl⟩ := h_7
    refine j_top (b := bI (gI g t)) rfl ?_
    refine j_ifb_ne (tgt := 19) C dX6_write_13 (by decide) (fun q_8 => ?_) (fun q_8 => ?_)
    · refine j_aload_n C dX6_write_19 rfl ?_
      refine j_get (v := si (V 72 7)) C 72 7 (by decide) (en_72 _ _) rfl (by decide) (fun w h => List.mem_cons_of_mem _ (List.mem_append_right _ h)) (List.mem_of_getElem? (i := 2) rfl) dX6_write_20 rfl ?_
      refine j_top (show V 72 7 = ((r.2.1.1 : Nat) : Int) from hM.2.2.1.1) ?_
      refine j_bipush C dX6_write_23 (by decide) ?_
      refine j_icmp_ne (tgt := 31) C dX6_write_25 (by decide) (by omega) (by decide) (fun q_9 => ?_) (fun q_9 => ?_)
      · refine j_aload_n C dX6_write_31 rfl ?_
        refine j_get (v := sr 77) C 72 8 (by decide) (en_72 _ _) rfl (by decide) (fun w h => List.mem_cons_of_mem _ (List.mem_append_right _ h)) (List.mem_of_getElem? (i := 4) rfl) dX6_write_32 rfl ?_
        refine j_aload_n C dX6_write_35 rfl ?_
        refine j_get (v := si (V 72 7)) C 72 7 (by decide) (en_72 _ _) rfl (by decide) (fun w h => List.mem_cons_of_mem _ (List.mem_append_right _ h)) (List.mem_of_getElem? (i := 2) rfl) dX6_write_36 rfl ?_
        refine j_top (show V 72 7 = ((r.2.1.1 : Nat) : Int) from hM.2.2.1.1) ?_
        refine j_iload_n C dX6_write_39 rfl ?_
        refine j_iast C (row_77 O) (r.2.1.1) rfl (by omega) dX6_write_40 ?_
        refine j_aload_n C dX6_write_41 rfl ?_
        refine j_get (v := sr 78) C 72 9 (by decide) (en_72 _ _) rfl (by decide) (fun w h => List.mem_cons_of_mem _ (List.mem_append_right _ h)) (List.mem_of_getElem? (i := 5) rfl) dX6_write_42 rfl ?_
        refine j_aload_n C dX6_write_45 rfl ?_
        refine j_get (v := si ((ms V 77 (r.2.1.1) s) 72 7)) C 72 7 (by decide) (en_72 _ _) rfl (by decide) (fun w h => List.mem_cons_of_mem _ (List.mem_append_right _ h)) (List.mem_of_getElem? (i := 2) rfl) dX6_write_46 rfl ?_
        refine j_top (show (ms V 77 (r.2.1.1) s) 72 7 = ((r.2.1.1 : Nat) : Int) from hM.2.2.1.1) ?_
        refine j_iload_n C dX6_write_49 rfl ?_
        refine j_iast C (row_78 O) (r.2.1.1) rfl (by omega) dX6_write_50 ?_
        refine j_aload_n C dX6_write_51 rfl ?_
        refine j_get (v := sr 79) C 72 10 (by decide) (en_72 _ _) rfl (by decide) (fun w h => List.mem_cons_of_mem _ (List.mem_append_right _ h)) (List.mem_of_getElem? (i := 6) rfl) dX6_write_52 rfl ?_
        refine j_aload_n C dX6_write_55 rfl ?_
        refine j_get (v := si ((ms (ms V 77 (r.2.1.1) s) 78 (r.2.1.1) t) 72 7)) C 72 7 (by decide) (en_72 _ _) rfl (by decide) (fun w h => List.mem_cons_of_mem _ (List.mem_append_right _ h)) (List.mem_of_getElem? (i := 2) rfl) dX6_write_56 rfl ?_
        refine j_top (show (ms (ms V 77 (r.2.1.1) s) 78 (r.2.1.1) t) 72 7 = ((r.2.1.1 : Nat) : Int) from hM.2.2.1.1) ?_
        refine j_iload_n C dX6_write_59 rfl ?_
        refine j_iast C (row_79 O) (r.2.1.1) rfl (by omega) dX6_write_60 ?_
        refine j_aload_n C dX6_write_61 rfl ?_
        refine j_dup C dX6_write_62 rfl ?_
        refine j_get (v := si ((ms (ms (ms V 77 (r.2.1.1) s) 78 (r.2.1.1) t) 79 (r.2.1.1) v) 72 7)) C 72 7 (by decide) (en_72 _ _) rfl (by decide) (fun w h => List.mem_cons_of_mem _ (List.mem_append_right _ h)) (List.mem_of_getElem? (i := 2) rfl) dX6_write_63 rfl ?_
        refine j_top (show (ms (ms (ms V 77 (r.2.1.1) s) 78 (r.2.1.1) t) 79 (r.2.1.1) v) 72 7 = ((r.2.1.1 : Nat) : Int) from hM.2.2.1.1) ?_
        refine j_iconst C dX6_write_66 ?_
        refine j_iadd C dX6_write_67 ?_
        refine j_put C 72 7 (by decide) (en_72 _ _) rfl pcl6 (by decide) (fun w h => List.mem_cons_of_mem _ (List.mem_append_right _ h)) (List.mem_of_getElem? (i := 2) rfl) rfl rfl (fit_i _) (Nat.le_of_ble_eq_true rfl) dX6_write_68 ?_
        refine j_aload_n C dX6_write_71 rfl ?_
        refine j_get (v := si (((r.2.1.1 : Nat) : Int) + 1)) C 72 7 (by decide) (en_72 _ _) rfl (by decide) (fun w h => List.mem_cons_of_mem _ (List.mem_append_right _ h)) (List.mem_of_getElem? (i := 2) rfl) dX6_write_72 rfl ?_
        refine j_iret C hQ dX6_write_75 ?_
        have h9 := MR_wr (s := (g, r)) (a := s) (b := t) (v := v) hM
        have e9 : dWrite (g, r) s t v = ((r.2.1.1 : Int) + 1, (g, r.1, (r.2.1.1 + 1, updg r.2.1.2.1 r.2.1.1 s, updg r.2.1.2.2.1 r.2.1.1 t, updg r.2.1.2.2.2 r.2.1.1 v), r.2.2)) := by
          unfold dWrite; dsimp only; rw [if_neg (fun z => z ⟨‹gI g s = true›, ‹gI g t = true›⟩), if_neg (by omega)]
        rw [e9]; exact ⟨h9.1, h9.2, rfl⟩
      · refine j_ldc (n := -1000000004) C (List.mem_of_getElem? (i := 3) rfl) (by decide) dX6_write_28 ?_
        refine j_iret C hQ dX6_write_30 ?_
        have e9 : dWrite (g, r) s t v = (-1000000004, (g, r)) := by
          unfold dWrite; dsimp only; rw [if_neg (fun z => z ⟨‹gI g s = true›, ‹gI g t = true›⟩), if_pos (by omega)]
        rw [e9]; exact ⟨hM, loF_rf _, rfl⟩
    · refine j_ldc (n := -1000000001) C (List.mem_of_getElem? (i := 1) rfl) (by decide) dX6_write_16 ?_
      refine j_iret C hQ dX6_write_18 ?_
      have e9 : dWrite (g, r) s t v = (-1000000001, (g, r)) := by
        unfold dWrite; dsimp only; rw [if_pos (by rintro ⟨z1, z2⟩; simp_all)]
      rw [e9]; exact ⟨hM, loF_rf _, rfl⟩
def rX6_tear : Room := { frames := 0, cells := 0, slots := 0, locals := 0 }
theorem sgX6_tear : sg yX6_tear wsX6_tear cX6_tear 2 (some .int) rX6_tear 0 := ⟨⟨_, rfl⟩, rfl, rfl, by decide, by decide, by decide +kernel⟩
set_option maxHeartbeats 4000000 in
set_option maxRecDepth 100000 in
theorem kX6_tear {O : OmT} {l : Launch} {V : Mem} {g : Nat → Int} {r : Rt} (hM : MR V (g, r)) (os : okS (g, r))  : MI O l yX6_tear wsX6_tear rX6_tear [sr 72] V (fun z V2 => MR V2 (dTear (g, r)).2 ∧ loF V V2 ∧ z = (dTear (g, r)).1) := by
  have ok : okg g := os.1
  have n1 := ok.n
  have a1 := ok.a
  have hg : mdl V g := hM.1
  have hdp : r.2.2.1.1 ≤ 16 := os.2.2.2.1.1
  have hbk : r.2.1.1 ≤ 20 := os.2.2.1.1
  refine mi_of (cc := cX6_tear) (nL := 2) (rt := (some .int)) (by decide) rfl rfl (Nat.le_of_ble_eq_true rfl) (fun F hF C hQ => ?_)
  subst hF
  change J O F rX6_tear 2 V 0 [(0, sr 72)] []
  refine j_aload_n C dX6_tear_0 rfl ?_
  refine j_get (v := si (V 72 7)) C 72 7 (by decide) (en_72 _ _) rfl (by decide) (fun w h => List.mem_cons_of_mem _ (List.mem_append_right _ h)) (List.mem_of_getElem? (i := 1) rfl) dX6_tear_1 rfl ?_
  refine j_top (show V 72 7 = ((r.2.1.1 : Nat) : Int) from hM.2.2.1.1) ?_
  refine j_istore_n (lv' := [(0, sr 72), (1, si ((r.2.1.1 : Nat) : Int))]) C dX6_tear_4 (by decide) rfl ?_
  refine j_aload_n C dX6_tear_5 rfl ?_
  refine j_iconst C dX6_tear_6 ?_
  refine j_put C 72 7 (by decide) (en_72 _ _) rfl pcl6 (by decide) (fun w h => List.mem_cons_of_mem _ (List.mem_append_right _ h)) (List.mem_of_getElem? (i := 1) rfl) rfl rfl (fit_i _) (Nat.le_of_ble_eq_true rfl) dX6_tear_7 ?_
  refine j_iload_n C dX6_tear_10 rfl ?_
  refine j_iret C hQ dX6_tear_11 ?_
  have h9 := MR_te (s := (g, r)) hM
  have e9 : dTear (g, r) = ((r.2.1.1 : Int), (dTear (g, r)).2) := by
    unfold dTear; dsimp only; all_goals rfl
  rw [e9]; exact ⟨h9.1, h9.2, rfl⟩
def rX6_seed : Room := { frames := 0, cells := 0, slots := 0, locals := 0 }
theorem sgX6_seed : sg yX6_seed wsX6_seed cX6_seed 3 (some .int) rX6_seed 1 := ⟨⟨_, rfl⟩, rfl, rfl, by decide, by decide, by decide +kernel⟩
set_option maxHeartbeats 4000000 in
set_option maxRecDepth 100000 in
theorem kX6_seed {O : OmT} {l : Launch} {V : Mem} {g : Nat → Int} {r : Rt} (hM : MR V (g, r)) (os : okS (g, r)) (v : Int) (hv : -2147483648 ≤ v ∧ v < 2147483648) : MI O l yX6_seed wsX6_seed rX6_seed [sr 72, si v] V (fun z V2 => MR V2 (dSeed (g, r) v).2 ∧ loF V V2 ∧ z = (dSeed (g, r) v).1) := by
  have ok : okg g := os.1
  have n1 := ok.n
  have a1 := ok.a
  have hg : mdl V g := hM.1
  have hdp : r.2.2.1.1 ≤ 16 := os.2.2.2.1.1
  have hbk : r.2.1.1 ≤ 20 := os.2.2.1.1
  refine mi_of (cc := cX6_seed) (nL := 3) (rt := (some .int)) (by decide) rfl rfl (Nat.le_of_ble_eq_true rfl) (fun F hF C hQ => ?_)
  subst hF
  change J O F rX6_seed 3 V 0 [(0, sr 72), (1, si v)] []
  refine j_iload_n C dX6_seed_0 rfl ?_
  refine j_if_ge (tgt := 7) C dX6_seed_1 (by decide) (by omega) (fun q_1 => ?_) (fun q_1 => ?_)
  · refine j_aload_n C dX6_seed_7 rfl ?_
    refine j_get (v := si (V 72 6)) C 72 6 (by decide) (en_72 _ _) rfl (by decide) (fun w h => List.mem_cons_of_mem _ (List.mem_append_right _ h)) (List.mem_of_getElem? (i := 2) rfl) dX6_seed_8 rfl ?_
    refine j_top (show V 72 6 = r.1 from hM.2.1) ?_
    refine j_istore_n (lv' := [(0, sr 72), (1, si v), (2, si r.1)]) C dX6_seed_11 (by decide) rfl ?_
    refine j_aload_n C dX6_seed_12 rfl ?_
    refine j_iload_n C dX6_seed_13 rfl ?_
    refine j_put C 72 6 (by decide) (en_72 _ _) rfl pcl6 (by decide) (fun w h => List.mem_cons_of_mem _ (List.mem_append_right _ h)) (List.mem_of_getElem? (i := 2) rfl) rfl rfl (fit_i _) (Nat.le_of_ble_eq_true rfl) dX6_seed_14 ?_
    refine j_iload_n C dX6_seed_17 rfl ?_
    refine j_iret C hQ dX6_seed_18 ?_
    have h9 := MR_sd (s := (g, r)) (x := v) hM
    have e9 : dSeed (g, r) v = (r.1, sds (g, r) v) := by
      unfold dSeed; dsimp only; rw [if_neg (by omega)]
    rw [e9]; exact ⟨h9.1, h9.2, rfl⟩
  · refine j_ldc (n := -1000000002) C (List.mem_of_getElem? (i := 1) rfl) (by decide) dX6_seed_4 ?_
    refine j_iret C hQ dX6_seed_6 ?_
    have e9 : dSeed (g, r) v = (-1000000002, (g, r)) := by
      unfold dSeed; dsimp only; rw [if_pos (by omega)]
    rw [e9]; exact ⟨hM, loF_rf _, rfl⟩
def rX6_keep : Room := { frames := 1, cells := 0, slots := 0, locals := 22 }
theorem sgX6_keep : sg yX6_keep wsX6_keep cX6_keep 3 (some .int) rX6_keep 1 := ⟨⟨_, rfl⟩, rfl, rfl, by decide, by decide, by decide +kernel⟩
set_option maxHeartbeats 4000000 in
set_option maxRecDepth 100000 in
theorem lpX6_keep {O : OmT} {F : PhT} {V : Mem} (C : cx O F RX6 cX6_keep 3 (some .int) wsX6_keep) {p : Nat} (hp : p < 2) (kx : J O F rX6_keep 3 (cpm V 76 (25 * p) (fun i => V 73 i) 24) 50 [(0, sr 72), (1, si (p : Int)), (2, si (24 : Int))] []) : ∀ (fuel : Nat) (w : Nat), (w ≤ 24) → 24 - w < fuel → J O F rX6_keep 3 (cpm V 76 (25 * p) (fun i => V 73 i) w) 21 [(0, sr 72), (1, si (p : Int)), (2, si (w : Int))] [] := by
  intro fuel
  induction fuel with
  | zero => intro w hw hf; exact absurd hf (Nat.not_lt_zero _)
  | succ fuel ih =>
    intro w hw hf
    refine j_iload_n C dX6_keep_21 rfl ?_
    refine j_bipush C dX6_keep_22 (by decide) ?_
    refine j_icmp_ge (tgt := 50) C dX6_keep_24 (by decide) (by omega) (by decide) (fun q_1 => ?_) (fun q_1 => ?_)
    · have e : w = 24 := by omega
      rw [e]
      exact kx
    · refine j_aload_n C dX6_keep_27 rfl ?_
      refine j_get (v := sr 76) C 72 5 (by decide) (en_72 _ _) rfl (by decide) (fun w h => List.mem_cons_of_mem _ (List.mem_append_right _ h)) (List.mem_of_getElem? (i := 3) rfl) dX6_keep_28 rfl ?_
      refine j_bipush C dX6_keep_31 (by decide) ?_
      refine j_iload_n C dX6_keep_33 rfl ?_
      refine j_imul C dX6_keep_34 ?_
      refine j_iload_n C dX6_keep_35 rfl ?_
      refine j_iadd C dX6_keep_36 ?_
      refine j_aload_n C dX6_keep_37 rfl ?_
      refine j_get (v := sr 73) C 72 0 (by decide) (en_72 _ _) rfl (by decide) (fun w h => List.mem_cons_of_mem _ (List.mem_append_right _ h)) (List.mem_of_getElem? (i := 4) rfl) dX6_keep_38 rfl ?_
      refine j_iload_n C dX6_keep_41 rfl ?_
      refine j_iald C (row_73 O) w rfl (by omega) dX6_keep_42 ?_
      refine j_top (show (cpm V 76 (25 * p) (fun i => V 73 i) w) 73 w = V 73 w from rfl) ?_
      refine j_iast C (row_76 O) ((25 * p) + w) (by omega) (by omega) dX6_keep_43 ?_
      refine j_iinc (lv' := [(0, sr 72), (1, si (p : Int)), (2, si ((w : Int) + 1))]) C dX6_keep_44 rfl (by decide) rfl ?_
      refine j_goto (tgt := 21) C dX6_keep_47 (by decide) ?_
      refine j_mem (V2 := (cpm V 76 (25 * p) (fun i => V 73 i) (w + 1))) (cpm_s V 76 (25 * p) _ w rfl rfl) ?_
      exact ih (w + 1) (by omega) (by omega)
set_option maxHeartbeats 4000000 in
set_option maxRecDepth 100000 in
theorem kX6_keep {O : OmT} {l : Launch} {V : Mem} {g : Nat → Int} {r : Rt} (hM : MR V (g, r)) (os : okS (g, r)) (i : Int) (hi : -2147483648 ≤ i ∧ i < 2147483648) : MI O l yX6_keep wsX6_keep rX6_keep [sr 72, si i] V (fun z V2 => MR V2 (dKeep (g, r) i).2 ∧ loF V V2 ∧ z = (dKeep (g, r) i).1) := by
  have ok : okg g := os.1
  have n1 := ok.n
  have a1 := ok.a
  have hg : mdl V g := hM.1
  have hdp : r.2.2.1.1 ≤ 16 := os.2.2.2.1.1
  have hbk : r.2.1.1 ≤ 20 := os.2.2.1.1
  refine mi_of (cc := cX6_keep) (nL := 3) (rt := (some .int)) (by decide) rfl rfl (Nat.le_of_ble_eq_true rfl) (fun F hF C hQ => ?_)
  subst hF
  change J O F rX6_keep 3 V 0 [(0, sr 72), (1, si i)] []
  refine j_iload_n C dX6_keep_0 rfl ?_
  refine j_iconst C dX6_keep_1 ?_
  refine j_iconst C dX6_keep_2 ?_
  refine j_doI (st := []) (j_runS C (kX6_in i 0 1 (by omega) (by decide) (by decide)) ggX6_keep_X6_in sgX6_in (List.mem_of_getElem? (i := 7) rfl) (List.mem_of_getElem? (i := 9) rfl) (List.mem_of_getElem? (i := 8) rfl) ⟨by decide, by decide⟩ rfl rfl (Nat.le_of_ble_eq_true rfl) dX6_keep_3) (fun z_1 V_2 h_3 => ?_)
  obtain ⟨rfl, rfl⟩ := h_3
  refine j_ifb_ne (tgt := 12) C dX6_keep_6 (by decide) (fun q_4 => ?_) (fun q_4 => ?_)
  · have hi2 : 0 ≤ i ∧ i ≤ 1 := by simp only [Bool.and_eq_true, decide_eq_true_eq] at *; omega
    have ni : i = (i.toNat : Int) := by omega
    have ni2 : i.toNat < 2 := by omega
    refine j_lv (lv' := [(0, sr 72), (1, si ((i.toNat : Nat) : Int))]) (by rw [← ni]) ?_
    refine j_aload_n C dX6_keep_12 rfl ?_
    refine j_get (v := sr 75) C 72 4 (by decide) (en_72 _ _) rfl (by decide) (fun w h => List.mem_cons_of_mem _ (List.mem_append_right _ h)) (List.mem_of_getElem? (i := 2) rfl) dX6_keep_13 rfl ?_
    refine j_iload_n C dX6_keep_16 rfl ?_
    refine j_iconst C dX6_keep_17 ?_
    refine j_zast C (by decide) (i.toNat) rfl (by omega) dX6_keep_18 ?_
    refine j_iconst C dX6_keep_19 ?_
    refine j_istore_n (lv' := [(0, sr 72), (1, si ((i.toNat : Nat) : Int)), (2, si 0)]) C dX6_keep_20 (by decide) rfl ?_
    refine j_mem (V2 := (cpm (ms V 75 (i.toNat) 1) 76 (25 * i.toNat) (fun j => (ms V 75 (i.toNat) 1) 73 j) 0)) (cpm_0 _ 76 _ _) ?_
    refine lpX6_keep C (p := i.toNat) ni2 ?_ _ 0 (Nat.zero_le _) (Nat.lt_succ_self _)
    refine j_aload_n C dX6_keep_50 rfl ?_
    refine j_get (v := sr 76) C 72 5 (by decide) (en_72 _ _) rfl (by decide) (fun w h => List.mem_cons_of_mem _ (List.mem_append_right _ h)) (List.mem_of_getElem? (i := 3) rfl) dX6_keep_51 rfl ?_
    refine j_bipush C dX6_keep_54 (by decide) ?_
    refine j_iload_n C dX6_keep_56 rfl ?_
    refine j_imul C dX6_keep_57 ?_
    refine j_bipush C dX6_keep_58 (by decide) ?_
    refine j_iadd C dX6_keep_60 ?_
    refine j_aload_n C dX6_keep_61 rfl ?_
    refine j_get (v := si ((cpm (ms V 75 (i.toNat) 1) 76 (25 * i.toNat) (fun j => (ms V 75 (i.toNat) 1) 73 j) 24) 72 6)) C 72 6 (by decide) (en_72 _ _) rfl (by decide) (fun w h => List.mem_cons_of_mem _ (List.mem_append_right _ h)) (List.mem_of_getElem? (i := 5) rfl) dX6_keep_62 rfl ?_
    refine j_top (show (cpm (ms V 75 (i.toNat) 1) 76 (25 * i.toNat) (fun j => (ms V 75 (i.toNat) 1) 73 j) 24) 72 6 = r.1 from hM.2.1) ?_
    refine j_iast C (row_76 O) ((25 * (i.toNat)) + 24) (by omega) (by omega) dX6_keep_65 ?_
    refine j_aload_n C dX6_keep_66 rfl ?_
    refine j_iconst C dX6_keep_67 ?_
    refine j_put C 72 2 (by decide) (en_72 _ _) rfl pcl6 (by decide) (fun w h => List.mem_cons_of_mem _ (List.mem_append_right _ h)) (List.mem_of_getElem? (i := 6) rfl) rfl rfl (fit_i _) (Nat.le_of_ble_eq_true rfl) dX6_keep_68 ?_
    refine j_iconst C dX6_keep_71 ?_
    refine j_iret C hQ dX6_keep_72 ?_
    have h9 : MR (ms (ms (cpm (ms V 75 (i.toNat) 1) 76 (25 * i.toNat) (fun j => (ms V 75 (i.toNat) 1) 73 j) 24) 76 ((25 * (i.toNat)) + 24) r.1) 72 2 0) (kpS (g, r) i.toNat) ∧ loF V (ms (ms (cpm (ms V 75 (i.toNat) 1) 76 (25 * i.toNat) (fun j => (ms V 75 (i.toNat) 1) 73 j) 24) 76 ((25 * (i.toNat)) + 24) r.1) 72 2 0) := MR_kp (s := (g, r)) (i := i.toNat) hM ni2 (by show (ms V 75 i.toNat 1) 75 i.toNat = 1; rw [ms_at, if_pos rfl, if_pos rfl]) (fun j hj => by show (ms V 75 i.toNat 1) 75 j = _; rw [ms_at, if_pos rfl, if_neg hj]) (fun k hk => by rw [ms_ne _ (by decide), ms_at, if_pos rfl, if_neg (by omega), cpm_in (by omega) (by omega), show 25 * i.toNat + k - 25 * i.toNat = k by omega]; rfl) (by rw [ms_ne _ (by decide), ms_at, if_pos rfl, if_pos (by omega)]; exact hM.2.1.symm) (fun j hj => by rw [ms_ne _ (by decide), ms_at, if_pos rfl, if_neg (by omega), cpm_out (by omega)]; rfl) rfl rfl rfl rfl (fun c h1 h2 h3 => by rw [ms_ne _ h1, ms_ne _ h3, cpm_ne h3, ms_ne _ h2])
    have e9 : dKeep (g, r) i = (1, kpS (g, r) i.toNat) := by
      unfold dKeep; dsimp only; rw [if_neg (by simp only [Bool.and_eq_true, decide_eq_true_eq] at *; omega)]; rfl
    rw [e9]; exact ⟨h9.1, h9.2, rfl⟩
  · refine j_ldc (n := -1000000001) C (List.mem_of_getElem? (i := 1) rfl) (by decide) dX6_keep_9 ?_
    refine j_iret C hQ dX6_keep_11 ?_
    have e9 : dKeep (g, r) i = (-1000000001, (g, r)) := by
      unfold dKeep; dsimp only; rw [if_pos (by simp only [Bool.and_eq_false_iff, decide_eq_false_iff_not] at *; omega)]
    rw [e9]; exact ⟨hM, loF_rf _, rfl⟩
def rX6_goBack : Room := { frames := 1, cells := 0, slots := 0, locals := 22 }
theorem sgX6_goBack : sg yX6_goBack wsX6_goBack cX6_goBack 3 (some .int) rX6_goBack 1 := ⟨⟨_, rfl⟩, rfl, rfl, by decide, by decide, by decide +kernel⟩
set_option maxHeartbeats 4000000 in
set_option maxRecDepth 100000 in
theorem lpX6_goBack {O : OmT} {F : PhT} {V : Mem} (C : cx O F RX6 cX6_goBack 3 (some .int) wsX6_goBack) {p : Nat} (hp : p < 2) (kx : J O F rX6_goBack 3 (cpm V 73 0 (fun i => V 76 (25 * p + i)) 24) 55 [(0, sr 72), (1, si (p : Int)), (2, si (24 : Int))] []) : ∀ (fuel : Nat) (w : Nat), (w ≤ 24) → 24 - w < fuel → J O F rX6_goBack 3 (cpm V 73 0 (fun i => V 76 (25 * p + i)) w) 26 [(0, sr 72), (1, si (p : Int)), (2, si (w : Int))] [] := by
  intro fuel
  induction fuel with
  | zero => intro w hw hf; exact absurd hf (Nat.not_lt_zero _)
  | succ fuel ih =>
    intro w hw hf
    refine j_iload_n C dX6_goBack_26 rfl ?_
    refine j_bipush C dX6_goBack_27 (by decide) ?_
    refine j_icmp_ge (tgt := 55) C dX6_goBack_29 (by decide) (by omega) (by decide) (fun q_1 => ?_) (fun q_1 => ?_)
    · have e : w = 24 := by omega
      rw [e]
      exact kx
    · refine j_aload_n C dX6_goBack_32 rfl ?_
      refine j_get (v := sr 73) C 72 0 (by decide) (en_72 _ _) rfl (by decide) (fun w h => List.mem_cons_of_mem _ (List.mem_append_right _ h)) (List.mem_of_getElem? (i := 4) rfl) dX6_goBack_33 rfl ?_
      refine j_iload_n C dX6_goBack_36 rfl ?_
      refine j_aload_n C dX6_goBack_37 rfl ?_
      refine j_get (v := sr 76) C 72 5 (by decide) (en_72 _ _) rfl (by decide) (fun w h => List.mem_cons_of_mem _ (List.mem_append_right _ h)) (List.mem_of_getElem? (i := 5) rfl) dX6_goBack_38 rfl ?_
      refine j_bipush C dX6_goBack_41 (by decide) ?_
      refine j_iload_n C dX6_goBack_43 rfl ?_
      refine j_imul C dX6_goBack_44 ?_
      refine j_iload_n C dX6_goBack_45 rfl ?_
      refine j_iadd C dX6_goBack_46 ?_
      refine j_iald C (row_76 O) ((25 * p) + w) (by omega) (by omega) dX6_goBack_47 ?_
      refine j_top (show (cpm V 73 0 (fun i => V 76 (25 * p + i)) w) 76 ((25 * p) + w) = V 76 ((25 * p) + w) from rfl) ?_
      refine j_iast C (row_73 O) w rfl (by omega) dX6_goBack_48 ?_
      refine j_iinc (lv' := [(0, sr 72), (1, si (p : Int)), (2, si ((w : Int) + 1))]) C dX6_goBack_49 rfl (by decide) rfl ?_
      refine j_goto (tgt := 26) C dX6_goBack_52 (by decide) ?_
      refine j_mem (V2 := (cpm V 73 0 (fun i => V 76 (25 * p + i)) (w + 1))) (cpm_s V 73 0 _ w rfl (by omega)) ?_
      exact ih (w + 1) (by omega) (by omega)
set_option maxHeartbeats 4000000 in
set_option maxRecDepth 100000 in
theorem kX6_goBack {O : OmT} {l : Launch} {V : Mem} {g : Nat → Int} {r : Rt} (hM : MR V (g, r)) (os : okS (g, r)) (i : Int) (hi : -2147483648 ≤ i ∧ i < 2147483648) : MI O l yX6_goBack wsX6_goBack rX6_goBack [sr 72, si i] V (fun z V2 => MR V2 (dBack (g, r) i).2 ∧ loF V V2 ∧ z = (dBack (g, r) i).1) := by
  have ok : okg g := os.1
  have n1 := ok.n
  have a1 := ok.a
  have hg : mdl V g := hM.1
  have hdp : r.2.2.1.1 ≤ 16 := os.2.2.2.1.1
  have hbk : r.2.1.1 ≤ 20 := os.2.2.1.1
  refine mi_of (cc := cX6_goBack) (nL := 3) (rt := (some .int)) (by decide) rfl rfl (Nat.le_of_ble_eq_true rfl) (fun F hF C hQ => ?_)
  subst hF
  change J O F rX6_goBack 3 V 0 [(0, sr 72), (1, si i)] []
  refine j_iload_n C dX6_goBack_0 rfl ?_
  refine j_iconst C dX6_goBack_1 ?_
  refine j_iconst C dX6_goBack_2 ?_
  refine j_doI (st := []) (j_runS C (kX6_in i 0 1 (by omega) (by decide) (by decide)) ggX6_goBack_X6_in sgX6_in (List.mem_of_getElem? (i := 8) rfl) (List.mem_of_getElem? (i := 10) rfl) (List.mem_of_getElem? (i := 9) rfl) ⟨by decide, by decide⟩ rfl rfl (Nat.le_of_ble_eq_true rfl) dX6_goBack_3) (fun z_1 V_2 h_3 => ?_)
  obtain ⟨rfl, rfl⟩ := h_3
  refine j_ifb_ne (tgt := 12) C dX6_goBack_6 (by decide) (fun q_4 => ?_) (fun q_4 => ?_)
  · have hi2 : 0 ≤ i ∧ i ≤ 1 := by simp only [Bool.and_eq_true, decide_eq_true_eq] at *; omega
    have ni : i = (i.toNat : Int) := by omega
    have ni2 : i.toNat < 2 := by omega
    refine j_lv (lv' := [(0, sr 72), (1, si ((i.toNat : Nat) : Int))]) (by rw [← ni]) ?_
    refine j_aload_n C dX6_goBack_12 rfl ?_
    refine j_get (v := sr 75) C 72 4 (by decide) (en_72 _ _) rfl (by decide) (fun w h => List.mem_cons_of_mem _ (List.mem_append_right _ h)) (List.mem_of_getElem? (i := 2) rfl) dX6_goBack_13 rfl ?_
    refine j_iload_n C dX6_goBack_16 rfl ?_
    refine j_zald C (i.toNat) rfl (by omega) dX6_goBack_17 ?_
    refine j_top (hM.2.2.2.2 i.toNat ni2).1 ?_
    refine j_ifb_ne (tgt := 24) C dX6_goBack_18 (by decide) (fun q_5 => ?_) (fun q_5 => ?_)
    · refine j_iconst C dX6_goBack_24 ?_
      refine j_istore_n (lv' := [(0, sr 72), (1, si ((i.toNat : Nat) : Int)), (2, si 0)]) C dX6_goBack_25 (by decide) rfl ?_
      refine j_mem (V2 := (cpm V 73 0 (fun j => V 76 (25 * i.toNat + j)) 0)) (cpm_0 _ 73 0 _) ?_
      refine lpX6_goBack C (p := i.toNat) ni2 ?_ _ 0 (Nat.zero_le _) (Nat.lt_succ_self _)
      refine j_aload_n C dX6_goBack_55 rfl ?_
      refine j_aload_n C dX6_goBack_56 rfl ?_
      refine j_get (v := sr 76) C 72 5 (by decide) (en_72 _ _) rfl (by decide) (fun w h => List.mem_cons_of_mem _ (List.mem_append_right _ h)) (List.mem_of_getElem? (i := 5) rfl) dX6_goBack_57 rfl ?_
      refine j_bipush C dX6_goBack_60 (by decide) ?_
      refine j_iload_n C dX6_goBack_62 rfl ?_
      refine j_imul C dX6_goBack_63 ?_
      refine j_bipush C dX6_goBack_64 (by decide) ?_
      refine j_iadd C dX6_goBack_66 ?_
      refine j_iald C (row_76 O) ((25 * (i.toNat)) + 24) (by omega) (by omega) dX6_goBack_67 ?_
      refine j_top (show (cpm V 73 0 (fun j => V 76 (25 * i.toNat + j)) 24) 76 ((25 * (i.toNat)) + 24) = V 76 ((25 * (i.toNat)) + 24) from rfl) ?_
      refine j_put C 72 6 (by decide) (en_72 _ _) rfl pcl6 (by decide) (fun w h => List.mem_cons_of_mem _ (List.mem_append_right _ h)) (List.mem_of_getElem? (i := 6) rfl) rfl rfl (fit_i _) (Nat.le_of_ble_eq_true rfl) dX6_goBack_68 ?_
      refine j_aload_n C dX6_goBack_71 rfl ?_
      refine j_iconst C dX6_goBack_72 ?_
      refine j_put C 72 2 (by decide) (en_72 _ _) rfl pcl6 (by decide) (fun w h => List.mem_cons_of_mem _ (List.mem_append_right _ h)) (List.mem_of_getElem? (i := 7) rfl) rfl rfl (fit_i _) (Nat.le_of_ble_eq_true rfl) dX6_goBack_73 ?_
      refine j_iconst C dX6_goBack_76 ?_
      refine j_iret C hQ dX6_goBack_77 ?_
      have h9 : MR (ms (ms (cpm V 73 0 (fun j => V 76 (25 * i.toNat + j)) 24) 72 6 (V 76 ((25 * (i.toNat)) + 24))) 72 2 0) (gbS (g, r) i.toNat) ∧ loF V (ms (ms (cpm V 73 0 (fun j => V 76 (25 * i.toNat + j)) 24) 72 6 (V 76 ((25 * (i.toNat)) + 24))) 72 2 0) := MR_gb (s := (g, r)) (i := i.toNat) hM ni2 ‹_› (fun k hk => by rw [ms_ne _ (by decide), ms_ne _ (by decide), cpm_in (Nat.zero_le _) (by omega)]; rfl) rfl rfl rfl rfl (fun c h1 h2 => by rw [ms_ne _ h1, ms_ne _ h1, cpm_ne h2])
      have e9 : dBack (g, r) i = (1, gbS (g, r) i.toNat) := by
        unfold dBack; dsimp only; rw [if_neg (by omega), if_neg (fun z => z ‹r.2.2.2.1 i.toNat = true›)]; rfl
      rw [e9]; exact ⟨h9.1, h9.2, rfl⟩
    · refine j_ldc (n := -1000000003) C (List.mem_of_getElem? (i := 3) rfl) (by decide) dX6_goBack_21 ?_
      refine j_iret C hQ dX6_goBack_23 ?_
      have e9 : dBack (g, r) i = (-1000000003, (g, r)) := by
        unfold dBack; dsimp only; rw [if_neg (by omega), if_pos (by rw [‹r.2.2.2.1 i.toNat = false›]; decide)]
      rw [e9]; exact ⟨hM, loF_rf _, rfl⟩
  · refine j_ldc (n := -1000000001) C (List.mem_of_getElem? (i := 1) rfl) (by decide) dX6_goBack_9 ?_
    refine j_iret C hQ dX6_goBack_11 ?_
    have e9 : dBack (g, r) i = (-1000000001, (g, r)) := by
      unfold dBack; dsimp only; rw [if_pos (by simp only [Bool.and_eq_false_iff, decide_eq_false_iff_not] at *; omega)]
    rw [e9]; exact ⟨hM, loF_rf _, rfl⟩
