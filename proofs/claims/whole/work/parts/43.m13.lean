set_option maxHeartbeats 4000000 in
set_option maxRecDepth 100000 in
theorem kX6_isAwakeB {O : OmT} {l : Launch} {V : Mem} {m : Nat} (h3 : V 73 3 = (m : Int)) (hm : m < 1024) {zv : Int} (v : Nat) (ev : zv = (v : Int)) (hv : v < 10) : MI O l yX6_isAwake wsX6_isAwake rX6_isAwake [sr 72, si zv] V (fun z V2 => V = V2 ∧ z = bI (m.testBit v)) := by
  refine mi_of (cc := cX6_isAwake) (nL := 2) (rt := (some .boolean)) (by decide) rfl rfl (Nat.le_of_ble_eq_true rfl) (fun F hF C hQ => ?_)
  subst hF
  subst ev
  change J O F rX6_isAwake 2 V 0 [(0, sr 72), (1, si (v : Int))] []
  refine j_aload_n C dX6_isAwake_0 rfl ?_
  refine j_get (v := sr 73) C 72 0 (by decide) (en_72 _ _) rfl (by decide) (fun w h => List.mem_cons_of_mem _ (List.mem_append_right _ h)) (List.mem_of_getElem? (i := 1) rfl) dX6_isAwake_1 rfl ?_
  refine j_iconst C dX6_isAwake_4 ?_
  refine j_iald C (row_73 O) 3 rfl (by decide) dX6_isAwake_5 ?_
  refine j_top h3 ?_
  refine j_iload_n C dX6_isAwake_6 rfl ?_
  refine j_doI (st := []) (j_runS C (kX6_has m v rfl rfl (by omega) (by omega)) ggX6_isAwake_X6_has sgX6_has (List.mem_of_getElem? (i := 2) rfl) (List.mem_of_getElem? (i := 4) rfl) (List.mem_of_getElem? (i := 3) rfl) ⟨by decide, by decide⟩ rfl rfl (Nat.le_of_ble_eq_true rfl) dX6_isAwake_7) (fun z_1 V_2 h_3 => ?_)
  obtain ⟨rfl, rfl⟩ := h_3
  refine j_zret C hQ (bI_or _) dX6_isAwake_10 ?_
  exact ⟨rfl, rfl⟩
def rX6_take : Room := { frames := 2, cells := 0, slots := 0, locals := 43 }
theorem sgX6_take : sg yX6_take wsX6_take cX6_take 4 (some .int) rX6_take 1 := ⟨⟨_, rfl⟩, rfl, rfl, by decide, by decide, by decide +kernel⟩
set_option maxHeartbeats 4000000 in
set_option maxRecDepth 100000 in
theorem lpX6_take {O : OmT} {F : PhT} {V : Mem} {g : Nat → Int} (C : cx O F RX6 cX6_take 4 (some .int) wsX6_take) (hg : mdl V g) (ok : okg g) {v : Nat} (hvn : v < gN g) (kx : J O F rX6_take 4 (tkM V v (gN g - 1 - v)) 106 [(0, sr 72), (1, si (v : Int)), (2, si ((rmf (g 3).toNat v (gN g - 1 - v) : Nat) : Int)), (3, si ((v + (gN g - 1 - v) : Nat) : Int))] []) : ∀ (fuel : Nat) (j : Nat), (j ≤ gN g - 1 - v) → gN g - 1 - v - j < fuel → J O F rX6_take 4 (tkM V v j) 30 [(0, sr 72), (1, si (v : Int)), (2, si ((rmf (g 3).toNat v j : Nat) : Int)), (3, si ((v + j : Nat) : Int))] [] := by
  intro fuel
  induction fuel with
  | zero => intro j hw hf; exact absurd hf (Nat.not_lt_zero _)
  | succ fuel ih =>
    intro j hw hf
    have n1 := ok.n
    have a1 := ok.a
    have rl := rmf_lt (v := v) a1.2 j (by omega)
    refine j_iload_n C dX6_take_30 rfl ?_
    refine j_iconst C dX6_take_31 ?_
    refine j_iadd C dX6_take_32 ?_
    refine j_aload_n C dX6_take_33 rfl ?_
    refine j_get (v := sr 73) C 72 0 (by decide) (en_72 _ _) rfl (by decide) (fun w h => List.mem_cons_of_mem _ (List.mem_append_right _ h)) (List.mem_of_getElem? (i := 2) rfl) dX6_take_34 rfl ?_
    refine j_iconst C dX6_take_37 ?_
    refine j_iald C (row_73 O) 0 rfl (by decide) dX6_take_38 ?_
    refine j_top (b := (gN g : Int)) (by rw [tkM_at, if_neg (by omega), if_neg (by omega)]; exact (hg 0 (by omega)).trans n1.1) ?_
    refine j_icmp_ge (tgt := 106) C dX6_take_39 (by decide) (by omega) (by omega) (fun q_1 => ?_) (fun q_1 => ?_)
    · have e : j = gN g - 1 - v := by omega
      rw [e]
      exact kx
    · refine j_aload_n C dX6_take_42 rfl ?_
      refine j_get (v := sr 73) C 72 0 (by decide) (en_72 _ _) rfl (by decide) (fun w h => List.mem_cons_of_mem _ (List.mem_append_right _ h)) (List.mem_of_getElem? (i := 2) rfl) dX6_take_43 rfl ?_
      refine j_iconst C dX6_take_46 ?_
      refine j_iload_n C dX6_take_47 rfl ?_
      refine j_iadd C dX6_take_48 ?_
      refine j_aload_n C dX6_take_49 rfl ?_
      refine j_get (v := sr 73) C 72 0 (by decide) (en_72 _ _) rfl (by decide) (fun w h => List.mem_cons_of_mem _ (List.mem_append_right _ h)) (List.mem_of_getElem? (i := 2) rfl) dX6_take_50 rfl ?_
      refine j_iconst C dX6_take_53 ?_
      refine j_iload_n C dX6_take_54 rfl ?_
      refine j_iadd C dX6_take_55 ?_
      refine j_iconst C dX6_take_56 ?_
      refine j_iadd C dX6_take_57 ?_
      refine j_iald C (row_73 O) ((4 + (v + j)) + 1) (by omega) (by omega) dX6_take_58 ?_
      refine j_top (b := V 73 (4 + v + j + 1)) (by rw [tkM_at, if_neg (by omega), if_neg (by omega)]; congr 1; omega) ?_
      refine j_iast C (row_73 O) (4 + (v + j)) (by omega) (by omega) dX6_take_59 ?_
      refine j_aload_n C dX6_take_60 rfl ?_
      refine j_get (v := sr 73) C 72 0 (by decide) (en_72 _ _) rfl (by decide) (fun w h => List.mem_cons_of_mem _ (List.mem_append_right _ h)) (List.mem_of_getElem? (i := 2) rfl) dX6_take_61 rfl ?_
      refine j_bipush C dX6_take_64 (by decide) ?_
      refine j_iload_n C dX6_take_66 rfl ?_
      refine j_iadd C dX6_take_67 ?_
      refine j_aload_n C dX6_take_68 rfl ?_
      refine j_get (v := sr 73) C 72 0 (by decide) (en_72 _ _) rfl (by decide) (fun w h => List.mem_cons_of_mem _ (List.mem_append_right _ h)) (List.mem_of_getElem? (i := 2) rfl) dX6_take_69 rfl ?_
      refine j_bipush C dX6_take_72 (by decide) ?_
      refine j_iload_n C dX6_take_74 rfl ?_
      refine j_iadd C dX6_take_75 ?_
      refine j_iconst C dX6_take_76 ?_
      refine j_iadd C dX6_take_77 ?_
      refine j_iald C (row_73 O) ((14 + (v + j)) + 1) (by omega) (by omega) dX6_take_78 ?_
      refine j_top (b := V 73 (14 + v + j + 1)) (by rw [ms_at, if_pos rfl, if_neg (by omega), tkM_at, if_neg (by omega), if_neg (by omega)]; congr 1; omega) ?_
      refine j_iast C (row_73 O) (14 + (v + j)) (by omega) (by omega) dX6_take_79 ?_
      refine j_iload_n C dX6_take_80 rfl ?_
      refine j_aload_n C dX6_take_81 rfl ?_
      refine j_iload_n C dX6_take_82 rfl ?_
      refine j_iconst C dX6_take_83 ?_
      refine j_iadd C dX6_take_84 ?_
      refine j_doI (st := [si ((rmf (g 3).toNat v j : Nat) : Int)]) (j_runV C (kX6_isAwakeB (m := (g 3).toNat) (by rw [ms_at, if_pos rfl, if_neg (by omega), ms_at, if_pos rfl, if_neg (by omega), tkM_at, if_neg (by omega), if_neg (by omega)]; exact (hg 3 (by omega)).trans a1.1) (by omega) (v + j + 1) (by omega) (by omega)) gX6_take_X6_isAwake sgX6_isAwake rfl ⟨by decide, by decide⟩ (by decide) (en_72 _ _) rfl rfl rfl (Nat.le_of_ble_eq_true rfl) dX6_take_85) (fun z_2 V_3 h_4 => ?_)
      obtain ⟨rfl, rfl⟩ := h_4
      refine j_ifb_eq (tgt := 97) C dX6_take_88 (by decide) (fun q_5 => ?_) (fun q_5 => ?_)
      · refine j_iconst C dX6_take_97 ?_
        refine j_ior C dX6_take_98 ?_
        refine j_top (bOr_nat (by omega) (by decide)) ?_
        refine j_istore_n (lv' := [(0, sr 72), (1, si (v : Int)), (2, si (((rmf (g 3).toNat v j) ||| 0 : Nat) : Int)), (3, si ((v + j : Nat) : Int))]) C dX6_take_99 (by decide) rfl ?_
        refine j_iinc (lv' := [(0, sr 72), (1, si (v : Int)), (2, si (((rmf (g 3).toNat v j) ||| 0 : Nat) : Int)), (3, si (((v + j : Nat) : Int) + 1))]) C dX6_take_100 rfl (by decide) rfl ?_
        refine j_goto (tgt := 30) C dX6_take_103 (by decide) ?_
        have e2 : ((rmf (g 3).toNat v (j + 1) : Nat) : Int) = (((rmf (g 3).toNat v j) ||| 0 : Nat) : Int) := by
          rw [rmf_s, if_neg (by rw [‹(g 3).toNat.testBit (v + j + 1) = false›]; decide)]
        refine j_mem (V2 := (tkM V v (j + 1))) (tkM_s (by omega) rfl rfl (by omega) (by omega)) ?_
        refine j_lv (lv' := [(0, sr 72), (1, si ((v : Nat) : Int)), (2, si ((rmf (g 3).toNat v (j + 1) : Nat) : Int)), (3, si (((v + (j + 1)) : Nat) : Int))]) (by rw [e2]; rfl) ?_
        exact ih (j + 1) (by omega) (by omega)
      · refine j_iconst C dX6_take_91 ?_
        refine j_iload_n C dX6_take_92 rfl ?_
        refine j_ishl C dX6_take_93 ?_
        refine j_top (bShl_1 (by omega)) ?_
        refine j_goto (tgt := 98) C dX6_take_94 (by decide) ?_
        refine j_ior C dX6_take_98 ?_
        refine j_top (bOr_nat (by omega) (p2_31 (by omega))) ?_
        refine j_istore_n (lv' := [(0, sr 72), (1, si (v : Int)), (2, si (((rmf (g 3).toNat v j) ||| (2 ^ (v + j)) : Nat) : Int)), (3, si ((v + j : Nat) : Int))]) C dX6_take_99 (by decide) rfl ?_
        refine j_iinc (lv' := [(0, sr 72), (1, si (v : Int)), (2, si (((rmf (g 3).toNat v j) ||| (2 ^ (v + j)) : Nat) : Int)), (3, si (((v + j : Nat) : Int) + 1))]) C dX6_take_100 rfl (by decide) rfl ?_
        refine j_goto (tgt := 30) C dX6_take_103 (by decide) ?_
        have e2 : ((rmf (g 3).toNat v (j + 1) : Nat) : Int) = (((rmf (g 3).toNat v j) ||| (2 ^ (v + j)) : Nat) : Int) := by
          rw [rmf_s, if_pos ‹(g 3).toNat.testBit (v + j + 1) = true›]
        refine j_mem (V2 := (tkM V v (j + 1))) (tkM_s (by omega) rfl rfl (by omega) (by omega)) ?_
        refine j_lv (lv' := [(0, sr 72), (1, si ((v : Nat) : Int)), (2, si ((rmf (g 3).toNat v (j + 1) : Nat) : Int)), (3, si (((v + (j + 1)) : Nat) : Int))]) (by rw [e2]; rfl) ?_
        exact ih (j + 1) (by omega) (by omega)
set_option maxHeartbeats 4000000 in
set_option maxRecDepth 100000 in
theorem kX6_take {O : OmT} {l : Launch} {V : Mem} {g : Nat → Int} {r : Rt} (hM : MR V (g, r)) (os : okS (g, r)) (v : Int) (hv : -2147483648 ≤ v ∧ v < 2147483648) : MI O l yX6_take wsX6_take rX6_take [sr 72, si v] V (fun z V2 => MR V2 (dTake (g, r) v).2 ∧ loF V V2 ∧ z = (dTake (g, r) v).1) := by
  have ok : okg g := os.1
  have n1 := ok.n
  have a1 := ok.a
  have hg : mdl V g := hM.1
  have hdp : r.2.2.1.1 ≤ 16 := os.2.2.2.1.1
  have hbk : r.2.1.1 ≤ 20 := os.2.2.1.1
  refine mi_of (cc := cX6_take) (nL := 4) (rt := (some .int)) (by decide) rfl rfl (Nat.le_of_ble_eq_true rfl) (fun F hF C hQ => ?_)
  subst hF
  change J O F rX6_take 4 V 0 [(0, sr 72), (1, si v)] []
  refine j_aload_n C dX6_take_0 rfl ?_
  refine j_iload_n C dX6_take_1 rfl ?_
  refine j_doI (st := []) (j_runV C (kX6_isNode hg ok v (by omega)) gX6_take_X6_isNode sgX6_isNode rfl ⟨by decide, by decide⟩ (by decide) (en_72 _ _) rfl rfl rfl (Nat.le_of_ble_eq_true rfl) dX6_take_2) (fun z_1 V_2 h_3 => ?_)
  obtain ⟨rfl, rfl⟩ := h_3
  refine j_top (b := bI (gI g v)) rfl ?_
  refine j_ifb_ne (tgt := 11) C dX6_take_5 (by decide) (fun q_4 => ?_) (fun q_4 => ?_)
  · have nv := gI_nat ok (v := v) ‹gI g v = true›
    refine j_lv (lv' := [(0, sr 72), (1, si ((v.toNat : Nat) : Int))]) (by rw [← nv.1]) ?_
    refine j_aload_n C dX6_take_11 rfl ?_
    refine j_doV (st := []) (j_runV C (kX6_remembers (s := (g, r)) hM hdp) gX6_take_X6_remembers sgX6_remembers rfl ⟨by decide, by decide⟩ (by decide) (en_72 _ _) rfl rfl rfl (Nat.le_of_ble_eq_true rfl) dX6_take_12) (fun V_6 h_7 => ?_)
    refine j_aload_n C dX6_take_15 rfl ?_
    refine j_get (v := sr 73) C 72 0 (by decide) (en_72 _ _) rfl (by decide) (fun w h => List.mem_cons_of_mem _ (List.mem_append_right _ h)) (List.mem_of_getElem? (i := 2) rfl) dX6_take_16 rfl ?_
    refine j_iconst C dX6_take_19 ?_
    refine j_iald C (row_73 O) 3 rfl (by decide) dX6_take_20 ?_
    refine j_top (b := ((g 3).toNat : Int)) (by exact ((show mdl V_6 g from h_7.1.1) 3 (by omega)).trans a1.1) ?_
    refine j_iconst C dX6_take_21 ?_
    refine j_iload_n C dX6_take_22 rfl ?_
    refine j_ishl C dX6_take_23 ?_
    refine j_top (bShl_1 (by omega)) ?_
    refine j_iconst C dX6_take_24 ?_
    refine j_isub C dX6_take_25 ?_
    have hp1 : 1 ≤ 2 ^ v.toNat := Nat.one_le_two_pow
    refine j_top (b := ((2 ^ v.toNat - 1 : Nat) : Int)) (by omega) ?_
    refine j_iand C dX6_take_26 ?_
    refine j_top (b := ((rmf (g 3).toNat v.toNat 0 : Nat) : Int)) (bAnd_nat (b := 2 ^ v.toNat - 1) (by omega)) ?_
    refine j_istore_n (lv' := [(0, sr 72), (1, si ((v.toNat : Nat) : Int)), (2, si ((rmf (g 3).toNat v.toNat 0 : Nat) : Int))]) C dX6_take_27 (by decide) rfl ?_
    refine j_iload_n C dX6_take_28 rfl ?_
    refine j_istore_n (lv' := [(0, sr 72), (1, si ((v.toNat : Nat) : Int)), (2, si ((rmf (g 3).toNat v.toNat 0 : Nat) : Int)), (3, si ((v.toNat : Nat) : Int))]) C dX6_take_29 (by decide) rfl ?_
    refine j_mem (V2 := (tkM V_6 v.toNat 0)) (tkM_0 _ _) ?_
    refine lpX6_take C (show mdl V_6 g from h_7.1.1) ok nv.2 ?_ _ 0 (Nat.zero_le _) (Nat.lt_succ_self _)
    refine j_aload_n C dX6_take_106 rfl ?_
    refine j_get (v := sr 73) C 72 0 (by decide) (en_72 _ _) rfl (by decide) (fun w h => List.mem_cons_of_mem _ (List.mem_append_right _ h)) (List.mem_of_getElem? (i := 2) rfl) dX6_take_107 rfl ?_
    refine j_iconst C dX6_take_110 ?_
    refine j_iload_n C dX6_take_111 rfl ?_
    refine j_iast C (row_73 O) 3 rfl (by decide) dX6_take_112 ?_
    refine j_aload_n C dX6_take_113 rfl ?_
    refine j_get (v := sr 73) C 72 0 (by decide) (en_72 _ _) rfl (by decide) (fun w h => List.mem_cons_of_mem _ (List.mem_append_right _ h)) (List.mem_of_getElem? (i := 2) rfl) dX6_take_114 rfl ?_
    refine j_iconst C dX6_take_117 ?_
    refine j_dup2 C dX6_take_118 rfl rfl ?_
    refine j_iald C (row_73 O) 0 rfl (by decide) dX6_take_119 ?_
    refine j_top (b := (gN g : Int)) (by rw [ms_at, if_pos rfl, if_neg (by omega), tkM_at, if_neg (by omega), if_neg (by omega)]; exact (show mdl V_6 g from h_7.1.1) 0 (by omega) |>.trans n1.1) ?_
    refine j_iconst C dX6_take_120 ?_
    refine j_isub C dX6_take_121 ?_
    refine j_iast C (row_73 O) 0 rfl (by decide) dX6_take_122 ?_
    refine j_aload_n C dX6_take_123 rfl ?_
    refine j_get (v := sr 73) C 72 0 (by decide) (en_72 _ _) rfl (by decide) (fun w h => List.mem_cons_of_mem _ (List.mem_append_right _ h)) (List.mem_of_getElem? (i := 2) rfl) dX6_take_124 rfl ?_
    refine j_iconst C dX6_take_127 ?_
    refine j_iald C (row_73 O) 0 rfl (by decide) dX6_take_128 ?_
    refine j_top (show (ms (ms (tkM V_6 v.toNat (gN g - 1 - v.toNat)) 73 3 ((rmf (g 3).toNat v.toNat (gN g - 1 - v.toNat) : Nat) : Int)) 73 0 (((gN g : Nat) : Int) - 1)) 73 0 = (gN g : Int) - 1 from rfl) ?_
    refine j_iret C hQ dX6_take_129 ?_
    have h9 := MR_tk (s := rem (g, r)) (v := v.toNat) h_7.1 ok nv.2
    have e9 : dTake (g, r) v = (g 0 - 1, stg (rem (g, r)) (gTk g v.toNat)) := by
      unfold dTake; dsimp only; rw [if_neg (fun z => z ‹gI g v = true›)]
    rw [e9]; exact ⟨h9.1, (loF_tr h_7.2 h9.2), (by omega)⟩
  · refine j_ldc (n := -1000000001) C (List.mem_of_getElem? (i := 1) rfl) (by decide) dX6_take_8 ?_
    refine j_iret C hQ dX6_take_10 ?_
    have e9 : dTake (g, r) v = (-1000000001, (g, r)) := by
      unfold dTake; dsimp only; rw [if_pos (by rw [‹gI g v = false›]; decide)]
    rw [e9]; exact ⟨hM, loF_rf _, rfl⟩
def rX6_draw : Room := { frames := 0, cells := 0, slots := 0, locals := 0 }
theorem sgX6_draw : sg yX6_draw wsX6_draw cX6_draw 2 (some .int) rX6_draw 1 := ⟨⟨_, rfl⟩, rfl, rfl, by decide, by decide, by decide +kernel⟩
set_option maxHeartbeats 4000000 in
set_option maxRecDepth 100000 in
theorem kX6_draw {O : OmT} {l : Launch} {V : Mem} {sd : Int} (hsd : V 72 6 = sd) (hs : 0 ≤ sd ∧ sd < 2147483648) : MI O l yX6_draw wsX6_draw rX6_draw [sr 72, si 64] V (fun z V2 => V2 = ms V 72 6 (nxs sd) ∧ z = plc (nxs sd)) := by
  refine mi_of (cc := cX6_draw) (nL := 2) (rt := (some .int)) (by decide) rfl rfl (Nat.le_of_ble_eq_true rfl) (fun F hF C hQ => ?_)
  subst hF
  change J O F rX6_draw 2 V 0 [(0, sr 72), (1, si 64)] []
  refine j_aload_n C dX6_draw_0 rfl ?_
  refine j_aload_n C dX6_draw_1 rfl ?_
  refine j_get (v := si (V 72 6)) C 72 6 (by decide) (en_72 _ _) rfl (by decide) (fun w h => List.mem_cons_of_mem _ (List.mem_append_right _ h)) (List.mem_of_getElem? (i := 1) rfl) dX6_draw_2 rfl ?_
  refine j_top hsd ?_
  refine j_i2l C dX6_draw_5 (by omega) ?_
  refine j_ldc2 (n := 1103515245) C (List.mem_of_getElem? (i := 2) rfl) (by decide) dX6_draw_6 ?_
  refine j_lmul C dX6_draw_9 ?_
  refine j_ldc2 (n := 12345) C (List.mem_of_getElem? (i := 3) rfl) (by decide) dX6_draw_10 ?_
  refine j_ladd C dX6_draw_13 ?_
  refine j_ldc2 (n := 2147483647) C (List.mem_of_getElem? (i := 4) rfl) (by decide) dX6_draw_14 ?_
  refine j_land31 C dX6_draw_17 (by omega) ?_
  refine j_l2i C dX6_draw_18 (by omega) ?_
  refine j_put C 72 6 (by decide) (en_72 _ _) rfl pcl6 (by decide) (fun w h => List.mem_cons_of_mem _ (List.mem_append_right _ h)) (List.mem_of_getElem? (i := 1) rfl) rfl rfl (fit_i _) (Nat.le_of_ble_eq_true rfl) dX6_draw_19 ?_
  refine j_aload_n C dX6_draw_22 rfl ?_
  refine j_get (v := si (((sd * 1103515245) + 12345) % 2147483648)) C 72 6 (by decide) (en_72 _ _) rfl (by decide) (fun w h => List.mem_cons_of_mem _ (List.mem_append_right _ h)) (List.mem_of_getElem? (i := 1) rfl) dX6_draw_23 rfl ?_
  refine j_ldc (n := 65536) C (List.mem_of_getElem? (i := 5) rfl) (by decide) dX6_draw_26 ?_
  refine j_idiv C dX6_draw_28 (by decide) (by decide) ?_
  refine j_top (b := nxs sd / 65536) (div_z (nxs_rg sd)) ?_
  refine j_iload_n C dX6_draw_29 rfl ?_
  refine j_irem C dX6_draw_30 (by decide) (by decide) ?_
  refine j_top (b := plc (nxs sd)) (rem_z (nxs_rg sd)) ?_
  refine j_iret C hQ dX6_draw_31 ?_
  exact ⟨rfl, rfl⟩
def rX6_drift : Room := { frames := 2, cells := 0, slots := 0, locals := 44 }
theorem sgX6_drift : sg yX6_drift wsX6_drift cX6_drift 5 (some .int) rX6_drift 1 := ⟨⟨_, rfl⟩, rfl, rfl, by decide, by decide, by decide +kernel⟩
set_option maxHeartbeats 4000000 in
set_option maxRecDepth 100000 in
theorem lpX6_drift {O : OmT} {F : PhT} {V : Mem} (C : cx O F RX6 cX6_drift 5 (some .int) wsX6_drift) {post : Int → Mem → Prop} (hQ : qI O F post) {n : Nat} {sF : St} (hn10 : n ≤ 10) (hpo : ∀ z V2, MR V2 sF ∧ loF V V2 ∧ z = sF.1 0 → post z V2) : ∀ (fuel : Nat) (k : Nat) (g : Nat → Int) (r : Rt) (W : Mem), (MR W (g, r)) → (okS (g, r)) → (loF V W) → (k ≤ n) → (drf (n - k) (g, r) = sF) → (n + 1 = k + fuel) → J O F rX6_drift 5 W 15 [(0, sr 72), (1, si (n : Int)), (2, si (k : Int))] [] := by
  intro fuel
  induction fuel with
  | zero => intro k g r W hM os hW hkn hfin hf; exfalso; omega
  | succ fuel ih =>
    intro k g r W hM os hW hkn hfin hf
    have ok : okg g := os.1
    have n1 := ok.n
    have hg : mdl W g := hM.1
    have hdp : r.2.2.1.1 ≤ 16 := os.2.2.2.1.1
    have hsd : 0 ≤ r.1 ∧ r.1 < 2147483648 := os.2.1
    refine j_iload_n C dX6_drift_15 rfl ?_
    refine j_iload_n C dX6_drift_16 rfl ?_
    refine j_icmp_ge (tgt := 71) C dX6_drift_17 (by decide) (by omega) (by omega) (fun q_1 => ?_) (fun q_1 => ?_)
    · have e1 : drf (n - k) (g, r) = (g, r) := by first | (rw [show n - k = 0 by omega]; rfl) | (cases hz : n - k with | zero => rfl | succ m => show (if g 0 < 10 then _ else _) = _; rw [if_neg (by omega)])
      rw [e1] at hfin; subst hfin
      refine j_aload_n C dX6_drift_71 rfl ?_
      refine j_get (v := sr 73) C 72 0 (by decide) (en_72 _ _) rfl (by decide) (fun w h => List.mem_cons_of_mem _ (List.mem_append_right _ h)) (List.mem_of_getElem? (i := 2) rfl) dX6_drift_72 rfl ?_
      refine j_iconst C dX6_drift_75 ?_
      refine j_iald C (row_73 O) 0 rfl (by decide) dX6_drift_76 ?_
      refine j_top (b := g 0) (hg 0 (by omega)) ?_
      refine j_iret C hQ dX6_drift_77 ?_
      exact hpo _ _ ⟨hM, hW, rfl⟩
    · refine j_aload_n C dX6_drift_20 rfl ?_
      refine j_get (v := sr 73) C 72 0 (by decide) (en_72 _ _) rfl (by decide) (fun w h => List.mem_cons_of_mem _ (List.mem_append_right _ h)) (List.mem_of_getElem? (i := 2) rfl) dX6_drift_21 rfl ?_
      refine j_iconst C dX6_drift_24 ?_
      refine j_iald C (row_73 O) 0 rfl (by decide) dX6_drift_25 ?_
      refine j_top (b := g 0) (hg 0 (by omega)) ?_
      refine j_bipush C dX6_drift_26 (by decide) ?_
      refine j_icmp_ge (tgt := 71) C dX6_drift_28 (by decide) (by have := ok.1; omega) (by decide) (fun q_2 => ?_) (fun q_2 => ?_)
      · have e1 : drf (n - k) (g, r) = (g, r) := by first | (rw [show n - k = 0 by omega]; rfl) | (cases hz : n - k with | zero => rfl | succ m => show (if g 0 < 10 then _ else _) = _; rw [if_neg (by omega)])
        rw [e1] at hfin; subst hfin
        refine j_aload_n C dX6_drift_71 rfl ?_
        refine j_get (v := sr 73) C 72 0 (by decide) (en_72 _ _) rfl (by decide) (fun w h => List.mem_cons_of_mem _ (List.mem_append_right _ h)) (List.mem_of_getElem? (i := 2) rfl) dX6_drift_72 rfl ?_
        refine j_iconst C dX6_drift_75 ?_
        refine j_iald C (row_73 O) 0 rfl (by decide) dX6_drift_76 ?_
        refine j_top (b := g 0) (hg 0 (by omega)) ?_
        refine j_iret C hQ dX6_drift_77 ?_
        exact hpo _ _ ⟨hM, hW, rfl⟩
      · refine j_aload_n C dX6_drift_31 rfl ?_
        refine j_bipush C dX6_drift_32 (by decide) ?_
        refine j_doI (st := []) (j_runV C (kX6_draw (sd := r.1) hM.2.1 hsd) gX6_drift_X6_draw sgX6_draw rfl ⟨by decide, by decide⟩ (by decide) (en_72 _ _) rfl rfl rfl (Nat.le_of_ble_eq_true rfl) dX6_drift_34) (fun z_3 V_4 h_5 => ?_)
        obtain ⟨rfl, rfl⟩ := h_5
        refine j_istore_n (lv' := [(0, sr 72), (1, si (n : Int)), (2, si (k : Int)), (3, si (plc (nxs r.1)))]) C dX6_drift_37 (by decide) rfl ?_
        refine j_aload_n C dX6_drift_38 rfl ?_
        refine j_bipush C dX6_drift_39 (by decide) ?_
        refine j_doI (st := []) (j_runV C (kX6_draw (sd := (nxs r.1)) rfl (nxs_rg r.1)) gX6_drift_X6_draw sgX6_draw rfl ⟨by decide, by decide⟩ (by decide) (en_72 _ _) rfl rfl rfl (Nat.le_of_ble_eq_true rfl) dX6_drift_41) (fun z_6 V_7 h_8 => ?_)
        obtain ⟨rfl, rfl⟩ := h_8
        refine j_mem (V2 := (ms W 72 6 (nxs (nxs r.1)))) (ms_same _ _ _ _ _) ?_
        have h_9 := MR_sd (s := (g, r)) (x := nxs (nxs r.1)) hM
        refine j_istore (lv' := [(0, sr 72), (1, si (n : Int)), (2, si (k : Int)), (3, si (plc (nxs r.1))), (4, si (plc (nxs (nxs r.1))))]) C dX6_drift_44 (by decide) rfl ?_
        refine j_aload_n C dX6_drift_46 rfl ?_
        refine j_iload_n C dX6_drift_47 rfl ?_
        refine j_iload C dX6_drift_48 rfl ?_
        refine j_doI (st := []) (j_runV C (kX6_nodeAt (g := g) (show mdl (ms W 72 6 (nxs (nxs r.1))) g from h_9.1.1) ok (by have := plc_rg (nxs_rg r.1); have := plc_rg (nxs_rg (nxs r.1)); omega) (by have := plc_rg (nxs_rg r.1); have := plc_rg (nxs_rg (nxs r.1)); omega)) gX6_drift_X6_nodeAt sgX6_nodeAt rfl ⟨by decide, by decide⟩ (by decide) (en_72 _ _) rfl rfl rfl (Nat.le_of_ble_eq_true rfl) dX6_drift_50) (fun z_10 V_11 h_12 => ?_)
        obtain ⟨rfl, rfl⟩ := h_12
        refine j_iconst C dX6_drift_53 ?_
        refine j_icmp_ne (tgt := 65) C dX6_drift_54 (by decide) (by have := gW_rg g (plc (nxs r.1)) (plc (nxs (nxs r.1))) (gN g); omega) (by decide) (fun q_13 => ?_) (fun q_13 => ?_)
        · refine j_iinc (lv' := [(0, sr 72), (1, si (n : Int)), (2, si ((k : Int) + 1)), (3, si (plc (nxs r.1))), (4, si (plc (nxs (nxs r.1))))]) C dX6_drift_65 rfl (by decide) rfl ?_
          refine j_goto (tgt := 15) C dX6_drift_68 (by decide) ?_
          have hm : n - k = (n - (k + 1)) + 1 := by omega
          have e1 : dr1 (g, r) = (sds (g, r) (nxs (nxs r.1))) := by unfold dr1; dsimp only; rw [if_neg ‹_›]
          have e2 : drf (n - (k + 1)) (sds (g, r) (nxs (nxs r.1))) = sF := by rw [← hfin, hm, ← e1]; show _ = (if g 0 < 10 then _ else _); rw [if_pos (by omega)]
          have o2 : okS (sds (g, r) (nxs (nxs r.1))) := by rw [← e1]; exact dr1_ok os (by show g 0 < 10; omega)
          refine j_pick (lv' := [(0, sr 72), (1, si (n : Int)), (2, si ((k : Int) + 1))]) [0, 1, 2] rfl ?_
          exact ih (k + 1) g (sds (g, r) (nxs (nxs r.1))).2 (ms W 72 6 (nxs (nxs r.1))) h_9.1 o2 (loF_tr hW h_9.2) (by omega) e2 (by omega)
        · refine j_aload_n C dX6_drift_57 rfl ?_
          refine j_iload_n C dX6_drift_58 rfl ?_
          refine j_iload C dX6_drift_59 rfl ?_
          refine j_doI (st := []) (j_runV C (kX6_comes (g := g) (r := (sds (g, r) (nxs (nxs r.1))).2) h_9.1 ok hdp (by omega)) gX6_drift_X6_comes sgX6_comes rfl ⟨by decide, by decide⟩ (by decide) (en_72 _ _) rfl rfl rfl (Nat.le_of_ble_eq_true rfl) dX6_drift_61) (fun z_14 V_15 h_16 => ?_)
          obtain ⟨h_16, rfl⟩ := h_16
          have h_16 : MR V_15 (stg (rem (sds (g, r) (nxs (nxs r.1)))) (gAdd g (plc (nxs r.1)) (plc (nxs (nxs r.1))))) ∧ loF _ V_15 := h_16
          refine j_pop C dX6_drift_64 rfl ?_
          refine j_iinc (lv' := [(0, sr 72), (1, si (n : Int)), (2, si ((k : Int) + 1)), (3, si (plc (nxs r.1))), (4, si (plc (nxs (nxs r.1))))]) C dX6_drift_65 rfl (by decide) rfl ?_
          refine j_goto (tgt := 15) C dX6_drift_68 (by decide) ?_
          have hm : n - k = (n - (k + 1)) + 1 := by omega
          have e1 : dr1 (g, r) = (stg (rem (sds (g, r) (nxs (nxs r.1)))) (gAdd g (plc (nxs r.1)) (plc (nxs (nxs r.1))))) := by unfold dr1; dsimp only; rw [if_pos ‹_›]
          have e2 : drf (n - (k + 1)) (stg (rem (sds (g, r) (nxs (nxs r.1)))) (gAdd g (plc (nxs r.1)) (plc (nxs (nxs r.1))))) = sF := by rw [← hfin, hm, ← e1]; show _ = (if g 0 < 10 then _ else _); rw [if_pos (by omega)]
          have o2 : okS (stg (rem (sds (g, r) (nxs (nxs r.1)))) (gAdd g (plc (nxs r.1)) (plc (nxs (nxs r.1))))) := by rw [← e1]; exact dr1_ok os (by show g 0 < 10; omega)
          refine j_pick (lv' := [(0, sr 72), (1, si (n : Int)), (2, si ((k : Int) + 1))]) [0, 1, 2] rfl ?_
          exact ih (k + 1) (gAdd g (plc (nxs r.1)) (plc (nxs (nxs r.1)))) (stg (rem (sds (g, r) (nxs (nxs r.1)))) (gAdd g (plc (nxs r.1)) (plc (nxs (nxs r.1))))).2 V_15 h_16.1 o2 (loF_tr (loF_tr hW h_9.2) h_16.2) (by omega) e2 (by omega)
set_option maxHeartbeats 4000000 in
set_option maxRecDepth 100000 in
theorem kX6_drift {O : OmT} {l : Launch} {V : Mem} {g : Nat → Int} {r : Rt} (hM : MR V (g, r)) (os : okS (g, r)) (n : Int) (hn : -2147483648 ≤ n ∧ n < 2147483648) : MI O l yX6_drift wsX6_drift rX6_drift [sr 72, si n] V (fun z V2 => MR V2 (dDrift (g, r) n).2 ∧ loF V V2 ∧ z = (dDrift (g, r) n).1) := by
  have ok : okg g := os.1
  have n1 := ok.n
  have a1 := ok.a
  have hg : mdl V g := hM.1
  have hdp : r.2.2.1.1 ≤ 16 := os.2.2.2.1.1
  have hbk : r.2.1.1 ≤ 20 := os.2.2.1.1
  refine mi_of (cc := cX6_drift) (nL := 5) (rt := (some .int)) (by decide) rfl rfl (Nat.le_of_ble_eq_true rfl) (fun F hF C hQ => ?_)
  subst hF
  change J O F rX6_drift 5 V 0 [(0, sr 72), (1, si n)] []
  refine j_iload_n C dX6_drift_0 rfl ?_
  refine j_iconst C dX6_drift_1 ?_
  refine j_bipush C dX6_drift_2 (by decide) ?_
  refine j_doI (st := []) (j_runS C (kX6_in n 1 10 (by omega) (by decide) (by decide)) ggX6_drift_X6_in sgX6_in (List.mem_of_getElem? (i := 3) rfl) (List.mem_of_getElem? (i := 5) rfl) (List.mem_of_getElem? (i := 4) rfl) ⟨by decide, by decide⟩ rfl rfl (Nat.le_of_ble_eq_true rfl) dX6_drift_4) (fun z_1 V_2 h_3 => ?_)
  obtain ⟨rfl, rfl⟩ := h_3
  refine j_ifb_ne (tgt := 13) C dX6_drift_7 (by decide) (fun q_4 => ?_) (fun q_4 => ?_)
  · refine j_iconst C dX6_drift_13 ?_
    refine j_istore_n (lv' := [(0, sr 72), (1, si n), (2, si 0)]) C dX6_drift_14 (by decide) rfl ?_
    have hq : 1 ≤ n ∧ n ≤ 10 := by simp only [Bool.and_eq_true, decide_eq_true_eq] at *; omega
    obtain ⟨m, hm⟩ : ∃ m : Nat, n = (m : Int) := ⟨n.toNat, by omega⟩
    subst hm
    have e9 : dDrift (g, r) (m : Int) = ((drf m (g, r)).1 0, drf m (g, r)) := by unfold dDrift; rw [if_neg (by omega), Int.toNat_natCast]
    exact lpX6_drift C hQ (n := m) (sF := drf m (g, r)) (by omega) (fun z V2 h => by rw [e9]; exact h) (m + 1) 0 g r V hM os (loF_rf _) (Nat.zero_le _) rfl (by omega)
  · refine j_ldc (n := -1000000002) C (List.mem_of_getElem? (i := 1) rfl) (by decide) dX6_drift_10 ?_
    refine j_iret C hQ dX6_drift_12 ?_
    have e9 : dDrift (g, r) n = (-1000000002, (g, r)) := by
      unfold dDrift; rw [if_pos (by simp only [Bool.and_eq_false_iff, decide_eq_false_iff_not] at *; omega)]
    rw [e9]; exact ⟨hM, loF_rf _, rfl⟩
