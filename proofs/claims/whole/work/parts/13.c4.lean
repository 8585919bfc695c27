def rX3_countPairs : Room := { frames := 1, cells := 0, slots := 0, locals := 20 }
theorem sgX3_countPairs : sg yX3_countPairs wsX3_countPairs cX3_countPairs 4 (some .int) rX3_countPairs 1 := ⟨⟨_, rfl⟩, rfl, rfl, by decide, by decide, by decide +kernel⟩
set_option maxHeartbeats 4000000 in
set_option maxRecDepth 100000 in
theorem lpX3_countPairs {O : OmT} {F : PhT} {V : Mem} {g : Nat → Int} (C : cx O F RX3 cX3_countPairs 4 (some .int) wsX3_countPairs) {post : Int → Mem → Prop} (hQ : qI O F post) (hc : cls V g) (ok : okg g) {c : Nat} {b : Bool} (hrw : rowI O c 10) (hr : ∀ u, u < 10 → V c u = (gSt g b u (gN g) : Int)) (hpo : post (gPp g b (gN g)) V) : ∀ (fuel : Nat) (w : Nat), (w ≤ gN g) → gN g - w < fuel → J O F rX3_countPairs 4 V 4 [(0, sr 4), (1, sr c), (2, si (gBc g b w)), (3, si (w : Int))] [] := by
  intro fuel
  induction fuel with
  | zero => intro w hw hf; exact absurd hf (Nat.not_lt_zero _)
  | succ fuel ih =>
    intro w hw hf
    have n1 := ok.n
    have b1 := gBc_rg g b w
    refine j_iload_n C dX3_countPairs_4 rfl ?_
    refine j_aload_n C dX3_countPairs_5 rfl ?_
    refine j_get (v := sr 1) C 4 0 (by decide) (en_4 _ _) rfl (by decide) (fun w h => List.mem_cons_of_mem _ (List.mem_append_left _ (List.mem_append_right _ h))) (List.mem_of_getElem? (i := 1) rfl) dX3_countPairs_6 rfl ?_
    refine j_getN (v := si (V 1 2)) C 1 2 (by decide) (en_G (c := 1) (by decide) _) rfl (by decide) (fun w h => List.mem_cons_of_mem _ (List.mem_append_right _ h)) (List.mem_of_getElem? (i := 6) rfl) dX3_countPairs_9 rfl ?_
    refine j_top hc.1 ?_
    refine j_icmp_ge (tgt := 30) C dX3_countPairs_12 (by decide) (by omega) (by have := ok.1; omega) (fun q_1 => ?_) (fun q_1 => ?_)
    · refine j_iload_n C dX3_countPairs_30 rfl ?_
      refine j_iconst C dX3_countPairs_31 ?_
      refine j_idiv C dX3_countPairs_32 (by decide) (by decide) ?_
      refine j_iret C hQ dX3_countPairs_33 ?_
      have e : w = gN g := by omega
      subst e
      have g1 := gPp_rg ok b (gN g)
      rw [gBc_2 ok b, bDiv_2 g1.1 (by omega)]; exact hpo
    · refine j_iload_n C dX3_countPairs_15 rfl ?_
      refine j_aload_n C dX3_countPairs_16 rfl ?_
      refine j_iload_n C dX3_countPairs_17 rfl ?_
      refine j_iald C hrw w rfl (by omega) dX3_countPairs_18 ?_
      refine j_top (hr w (by omega)) ?_
      refine j_doI (st := [si (gBc g b w)]) (j_runS C (kJ6_bitCount_0f7a4 (gSt g b w (gN g)) rfl (Nat.lt_of_lt_of_le (gSt_lt g b w (gN g)) (Nat.pow_le_pow_right (by decide) ok.n.2))) ggX3_countPairs_J6_bitCount_0f7a4 sgJ6_bitCount_0f7a4 (List.mem_of_getElem? (i := 2) rfl) (List.mem_of_getElem? (i := 4) rfl) (List.mem_of_getElem? (i := 3) rfl) ⟨by decide, by decide⟩ rfl rfl (Nat.le_of_ble_eq_true rfl) dX3_countPairs_19) (fun z_2 V_3 h_4 => ?_)
      obtain ⟨rfl, rfl⟩ := h_4
      refine j_iadd C dX3_countPairs_22 ?_
      refine j_istore_n (lv' := [(0, sr 4), (1, sr c), (2, si ((gBc g b w) + (pcN (gSt g b w (gN g)) 10))), (3, si (w : Int))]) C dX3_countPairs_23 (by decide) rfl ?_
      refine j_iinc (lv' := [(0, sr 4), (1, sr c), (2, si ((gBc g b w) + (pcN (gSt g b w (gN g)) 10))), (3, si ((w : Int) + 1))]) C dX3_countPairs_24 rfl (by decide) rfl ?_
      refine j_goto (tgt := 4) C dX3_countPairs_27 (by decide) ?_
      have e2 : (gBc g b (w + 1)) = ((gBc g b w) + (pcN (gSt g b w (gN g)) 10)) := by
        rfl
      refine j_lv (lv' := [(0, sr 4), (1, sr c), (2, si (gBc g b (w + 1))), (3, si ((w : Int) + 1))]) (by rw [e2]) ?_
      exact ih (w + 1) (by omega) (by omega)
set_option maxHeartbeats 4000000 in
set_option maxRecDepth 100000 in
theorem kX3_countPairs {O : OmT} {l : Launch} {V : Mem} {g : Nat → Int} (hc : cls V g) (ok : okg g) {c : Nat} {b : Bool} (hrw : rowI O c 10) (hr : ∀ u, u < 10 → V c u = (gSt g b u (gN g) : Int)) : MI O l yX3_countPairs wsX3_countPairs rX3_countPairs [sr 4, sr c] V (fun z V2 => V = V2 ∧ z = gPp g b (gN g)) := by
  refine mi_of (cc := cX3_countPairs) (nL := 4) (rt := (some .int)) (by decide) rfl rfl (Nat.le_of_ble_eq_true rfl) (fun F hF C hQ => ?_)
  subst hF
  change J O F rX3_countPairs 4 V 0 [(0, sr 4), (1, sr c)] []
  refine j_iconst C dX3_countPairs_0 ?_
  refine j_istore_n (lv' := [(0, sr 4), (1, sr c), (2, si 0)]) C dX3_countPairs_1 (by decide) rfl ?_
  refine j_iconst C dX3_countPairs_2 ?_
  refine j_istore_n (lv' := [(0, sr 4), (1, sr c), (2, si 0), (3, si 0)]) C dX3_countPairs_3 (by decide) rfl ?_
  exact lpX3_countPairs C hQ hc ok hrw hr ⟨rfl, rfl⟩ _ 0 (Nat.zero_le _) (Nat.lt_succ_self _)
def rX3_aimsAstray : Room := { frames := 2, cells := 0, slots := 0, locals := 49 }
theorem sgX3_aimsAstray : sg yX3_aimsAstray wsX3_aimsAstray cX3_aimsAstray 4 (some .int) rX3_aimsAstray 1 := ⟨⟨_, rfl⟩, rfl, rfl, by decide, by decide, by decide +kernel⟩
set_option maxHeartbeats 4000000 in
set_option maxRecDepth 100000 in
theorem lpX3_aimsAstray {O : OmT} {F : PhT} {V : Mem} {g : Nat → Int} (C : cx O F RX3 cX3_aimsAstray 4 (some .int) wsX3_aimsAstray) {post : Int → Mem → Prop} (hQ : qI O F post) (hn : net V g) (ok : okg g) {v : Nat} (hv : v < 10) (ha : gA g v = true) (hpo : post (gXs g v (gN g) : Int) V) : ∀ (fuel : Nat) (w : Nat), (w ≤ gN g) → gN g - w < fuel → J O F rX3_aimsAstray 4 V 17 [(0, sr 4), (1, si (v : Int)), (2, si ((gXs g v w : Nat) : Int)), (3, si (w : Int))] [] := by
  intro fuel
  induction fuel with
  | zero => intro w hw hf; exact absurd hf (Nat.not_lt_zero _)
  | succ fuel ih =>
    intro w hw hf
    have n1 := ok.n
    refine j_iload_n C dX3_aimsAstray_17 rfl ?_
    refine j_aload_n C dX3_aimsAstray_18 rfl ?_
    refine j_get (v := sr 1) C 4 0 (by decide) (en_4 _ _) rfl (by decide) (fun w h => List.mem_cons_of_mem _ (List.mem_append_left _ (List.mem_append_right _ h))) (List.mem_of_getElem? (i := 1) rfl) dX3_aimsAstray_19 rfl ?_
    refine j_getN (v := si (V 1 2)) C 1 2 (by decide) (en_G (c := 1) (by decide) _) rfl (by decide) (fun w h => List.mem_cons_of_mem _ (List.mem_append_right _ h)) (List.mem_of_getElem? (i := 6) rfl) dX3_aimsAstray_22 rfl ?_
    refine j_top hn.1.1 ?_
    refine j_icmp_ge (tgt := 66) C dX3_aimsAstray_25 (by decide) (by omega) (by have := ok.1; omega) (fun q_1 => ?_) (fun q_1 => ?_)
    · refine j_iload_n C dX3_aimsAstray_66 rfl ?_
      refine j_iret C hQ dX3_aimsAstray_67 ?_
      have e : w = gN g := by omega
      subst e; exact hpo
    · refine j_iload_n C dX3_aimsAstray_28 rfl ?_
      refine j_iload_n C dX3_aimsAstray_29 rfl ?_
      refine j_icmp_eq (tgt := 60) C dX3_aimsAstray_30 (by decide) (by omega) (by omega) (fun q_2 => ?_) (fun q_2 => ?_)
      · refine j_iinc (lv' := [(0, sr 4), (1, si (v : Int)), (2, si ((gXs g v w : Nat) : Int)), (3, si ((w : Int) + 1))]) C dX3_aimsAstray_60 rfl (by decide) rfl ?_
        refine j_goto (tgt := 17) C dX3_aimsAstray_63 (by decide) ?_
        have e2 : ((gXs g v (w + 1) : Nat) : Int) = ((gXs g v w : Nat) : Int) := by
          rw [gXs_s]
          have ew : (w : Int) = (v : Int) ↔ w = v := Int.ofNat_inj
          rw [ew] at q_2
          simp [gXt, *]
        refine j_lv (lv' := [(0, sr 4), (1, si (v : Int)), (2, si ((gXs g v (w + 1) : Nat) : Int)), (3, si ((w : Int) + 1))]) (by rw [e2]) ?_
        exact ih (w + 1) (by omega) (by omega)
      · refine j_aload_n C dX3_aimsAstray_33 rfl ?_
        refine j_get (v := sr 1) C 4 0 (by decide) (en_4 _ _) rfl (by decide) (fun w h => List.mem_cons_of_mem _ (List.mem_append_left _ (List.mem_append_right _ h))) (List.mem_of_getElem? (i := 1) rfl) dX3_aimsAstray_34 rfl ?_
        refine j_iload_n C dX3_aimsAstray_37 rfl ?_
        refine j_doI (st := []) (j_runVN C (kX1_isAwake hn.1 ok (w : Int) (by omega)) ggX3_aimsAstray_X1_isAwake sgX1_isAwake rfl (List.mem_of_getElem? (i := 13) rfl) (List.mem_of_getElem? (i := 3) rfl) (List.mem_of_getElem? (i := 2) rfl) (List.mem_of_getElem? (i := 4) rfl) ⟨by decide, by decide⟩ (by decide) (en_G (c := 1) (by decide) _) rfl rfl rfl (Nat.le_of_ble_eq_true rfl) dX3_aimsAstray_38) (fun z_3 V_4 h_5 => ?_)
        obtain ⟨rfl, rfl⟩ := h_5
        refine j_top (b := bI (gA g w)) (by simp) ?_
        refine j_ifb_eq (tgt := 60) C dX3_aimsAstray_41 (by decide) (fun q_6 => ?_) (fun q_6 => ?_)
        · refine j_iinc (lv' := [(0, sr 4), (1, si (v : Int)), (2, si ((gXs g v w : Nat) : Int)), (3, si ((w : Int) + 1))]) C dX3_aimsAstray_60 rfl (by decide) rfl ?_
          refine j_goto (tgt := 17) C dX3_aimsAstray_63 (by decide) ?_
          have e2 : ((gXs g v (w + 1) : Nat) : Int) = ((gXs g v w : Nat) : Int) := by
            rw [gXs_s]
            have ew : (w : Int) = (v : Int) ↔ w = v := Int.ofNat_inj
            rw [ew] at q_2
            simp [gXt, *]
          refine j_lv (lv' := [(0, sr 4), (1, si (v : Int)), (2, si ((gXs g v (w + 1) : Nat) : Int)), (3, si ((w : Int) + 1))]) (by rw [e2]) ?_
          exact ih (w + 1) (by omega) (by omega)
        · refine j_aload_n C dX3_aimsAstray_44 rfl ?_
          refine j_iload_n C dX3_aimsAstray_45 rfl ?_
          refine j_iload_n C dX3_aimsAstray_46 rfl ?_
          refine j_doI (st := []) (j_runV C (kX3_nearerThan hn ok v w rfl rfl (by omega) (by omega)) gX3_aimsAstray_X3_nearerThan sgX3_nearerThan rfl ⟨by decide, by decide⟩ (by decide) (en_4 _ _) rfl rfl rfl (Nat.le_of_ble_eq_true rfl) dX3_aimsAstray_47) (fun z_7 V_8 h_9 => ?_)
          obtain ⟨rfl, rfl⟩ := h_9
          refine j_iconst C dX3_aimsAstray_50 ?_
          refine j_icmp_ne (tgt := 60) C dX3_aimsAstray_51 (by decide) (by have := gR_rg g v w (gN g); omega) (by decide) (fun q_10 => ?_) (fun q_10 => ?_)
          · refine j_iinc (lv' := [(0, sr 4), (1, si (v : Int)), (2, si ((gXs g v w : Nat) : Int)), (3, si ((w : Int) + 1))]) C dX3_aimsAstray_60 rfl (by decide) rfl ?_
            refine j_goto (tgt := 17) C dX3_aimsAstray_63 (by decide) ?_
            have e2 : ((gXs g v (w + 1) : Nat) : Int) = ((gXs g v w : Nat) : Int) := by
              rw [gXs_s]
              have ew : (w : Int) = (v : Int) ↔ w = v := Int.ofNat_inj
              rw [ew] at q_2
              simp [gXt, *]
            refine j_lv (lv' := [(0, sr 4), (1, si (v : Int)), (2, si ((gXs g v (w + 1) : Nat) : Int)), (3, si ((w : Int) + 1))]) (by rw [e2]) ?_
            exact ih (w + 1) (by omega) (by omega)
          · refine j_iload_n C dX3_aimsAstray_54 rfl ?_
            refine j_iconst C dX3_aimsAstray_55 ?_
            refine j_iload_n C dX3_aimsAstray_56 rfl ?_
            refine j_ishl C dX3_aimsAstray_57 ?_
            refine j_top (bShl_1 (by omega)) ?_
            refine j_ior C dX3_aimsAstray_58 ?_
            refine j_top (bOr_nat (gXs_31 (by omega)) (p2_31 (by omega))) ?_
            refine j_istore_n (lv' := [(0, sr 4), (1, si (v : Int)), (2, si (((gXs g v w) ||| (2 ^ w) : Nat) : Int)), (3, si (w : Int))]) C dX3_aimsAstray_59 (by decide) rfl ?_
            refine j_iinc (lv' := [(0, sr 4), (1, si (v : Int)), (2, si (((gXs g v w) ||| (2 ^ w) : Nat) : Int)), (3, si ((w : Int) + 1))]) C dX3_aimsAstray_60 rfl (by decide) rfl ?_
            refine j_goto (tgt := 17) C dX3_aimsAstray_63 (by decide) ?_
            have e2 : ((gXs g v (w + 1) : Nat) : Int) = (((gXs g v w) ||| (2 ^ w) : Nat) : Int) := by
              rw [gXs_s]
              have ew : (w : Int) = (v : Int) ↔ w = v := Int.ofNat_inj
              rw [ew] at q_2
              simp [gXt, *]
            refine j_lv (lv' := [(0, sr 4), (1, si (v : Int)), (2, si ((gXs g v (w + 1) : Nat) : Int)), (3, si ((w : Int) + 1))]) (by rw [e2]) ?_
            exact ih (w + 1) (by omega) (by omega)
set_option maxHeartbeats 4000000 in
set_option maxRecDepth 100000 in
theorem kX3_aimsAstray {O : OmT} {l : Launch} {V : Mem} {g : Nat → Int} (hn : net V g) (ok : okg g) {zv : Int} (v : Nat) (ev : zv = (v : Int)) (hv : v < 10) : MI O l yX3_aimsAstray wsX3_aimsAstray rX3_aimsAstray [sr 4, si zv] V (fun z V2 => V = V2 ∧ z = (gXs g v (gN g) : Int)) := by
  refine mi_of (cc := cX3_aimsAstray) (nL := 4) (rt := (some .int)) (by decide) rfl rfl (Nat.le_of_ble_eq_true rfl) (fun F hF C hQ => ?_)
  subst hF
  subst ev
  change J O F rX3_aimsAstray 4 V 0 [(0, sr 4), (1, si (v : Int))] []
  refine j_aload_n C dX3_aimsAstray_0 rfl ?_
  refine j_get (v := sr 1) C 4 0 (by decide) (en_4 _ _) rfl (by decide) (fun w h => List.mem_cons_of_mem _ (List.mem_append_left _ (List.mem_append_right _ h))) (List.mem_of_getElem? (i := 1) rfl) dX3_aimsAstray_1 rfl ?_
  refine j_iload_n C dX3_aimsAstray_4 rfl ?_
  refine j_doI (st := []) (j_runVN C (kX1_isAwake hn.1 ok (v : Int) (by omega)) ggX3_aimsAstray_X1_isAwake sgX1_isAwake rfl (List.mem_of_getElem? (i := 13) rfl) (List.mem_of_getElem? (i := 3) rfl) (List.mem_of_getElem? (i := 2) rfl) (List.mem_of_getElem? (i := 4) rfl) ⟨by decide, by decide⟩ (by decide) (en_G (c := 1) (by decide) _) rfl rfl rfl (Nat.le_of_ble_eq_true rfl) dX3_aimsAstray_5) (fun z_1 V_2 h_3 => ?_)
  obtain ⟨rfl, rfl⟩ := h_3
  refine j_top (b := bI (gA g v)) (by simp) ?_
  refine j_ifb_ne (tgt := 13) C dX3_aimsAstray_8 (by decide) (fun q_4 => ?_) (fun q_4 => ?_)
  · refine j_iconst C dX3_aimsAstray_13 ?_
    refine j_istore_n (lv' := [(0, sr 4), (1, si (v : Int)), (2, si 0)]) C dX3_aimsAstray_14 (by decide) rfl ?_
    refine j_iconst C dX3_aimsAstray_15 ?_
    refine j_istore_n (lv' := [(0, sr 4), (1, si (v : Int)), (2, si 0), (3, si 0)]) C dX3_aimsAstray_16 (by decide) rfl ?_
    exact lpX3_aimsAstray C hQ hn ok hv ‹_› ⟨rfl, rfl⟩ _ 0 (Nat.zero_le _) (Nat.lt_succ_self _)
  · refine j_iconst C dX3_aimsAstray_11 ?_
    refine j_iret C hQ dX3_aimsAstray_12 ?_
    refine ⟨rfl, ?_⟩
    rw [gXs_no ‹_›]; rfl
def rX5_areTwo : Room := { frames := 1, cells := 0, slots := 0, locals := 21 }
theorem sgX5_areTwo : sg yX5_areTwo wsX5_areTwo cX5_areTwo 3 (some .boolean) rX5_areTwo 2 := ⟨⟨_, rfl⟩, rfl, rfl, by decide, by decide, by decide +kernel⟩
set_option maxHeartbeats 4000000 in
set_option maxRecDepth 100000 in
theorem kX5_areTwo {O : OmT} {l : Launch} {V : Mem} {g : Nat → Int} (hc : cls V g) (ok : okg g) (u : Int) (v : Int) (hu : -2147483648 ≤ u ∧ u < 2147483648) (hv : -2147483648 ≤ v ∧ v < 2147483648) : MI O l yX5_areTwo wsX5_areTwo rX5_areTwo [sr 0, si u, si v] V (fun z V2 => V = V2 ∧ z = bI (aTwo g u v)) := by
  refine mi_of (cc := cX5_areTwo) (nL := 3) (rt := (some .boolean)) (by decide) rfl rfl (Nat.le_of_ble_eq_true rfl) (fun F hF C hQ => ?_)
  subst hF
  change J O F rX5_areTwo 3 V 0 [(0, sr 0), (1, si u), (2, si v)] []
  refine j_iload_n C dX5_areTwo_0 rfl ?_
  refine j_iload_n C dX5_areTwo_1 rfl ?_
  refine j_icmp_eq (tgt := 31) C dX5_areTwo_2 (by decide) (by omega) (by omega) (fun q_1 => ?_) (fun q_1 => ?_)
  · refine j_iconst C dX5_areTwo_31 ?_
    refine j_zret C hQ (by decide) dX5_areTwo_32 ?_
    refine ⟨rfl, ?_⟩
    unfold aTwo gI
    simp_all [bI] <;> omega
  · refine j_aload_n C dX5_areTwo_5 rfl ?_
    refine j_get (v := sr 1) C 0 0 (by decide) (en_0 _ _) rfl (by decide) (fun w h => List.mem_cons_of_mem _ (List.mem_append_left _ (List.mem_append_right _ h))) (List.mem_of_getElem? (i := 1) rfl) dX5_areTwo_6 rfl ?_
    refine j_iload_n C dX5_areTwo_9 rfl ?_
    refine j_doI (st := []) (j_runVN C (kX1_has hc ok u (by omega)) ggX5_areTwo_X1_has sgX1_has rfl (List.mem_of_getElem? (i := 28) rfl) (List.mem_of_getElem? (i := 3) rfl) (List.mem_of_getElem? (i := 2) rfl) (List.mem_of_getElem? (i := 4) rfl) ⟨by decide, by decide⟩ (by decide) (en_G (c := 1) (by decide) _) rfl rfl rfl (Nat.le_of_ble_eq_true rfl) dX5_areTwo_10) (fun z_2 V_3 h_4 => ?_)
    obtain ⟨rfl, rfl⟩ := h_4
    refine j_ifb_eq (tgt := 31) C dX5_areTwo_13 (by decide) (fun q_5 => ?_) (fun q_5 => ?_)
    · refine j_iconst C dX5_areTwo_31 ?_
      refine j_zret C hQ (by decide) dX5_areTwo_32 ?_
      refine ⟨rfl, ?_⟩
      unfold aTwo gI
      simp_all [bI] <;> omega
    · refine j_aload_n C dX5_areTwo_16 rfl ?_
      refine j_get (v := sr 1) C 0 0 (by decide) (en_0 _ _) rfl (by decide) (fun w h => List.mem_cons_of_mem _ (List.mem_append_left _ (List.mem_append_right _ h))) (List.mem_of_getElem? (i := 1) rfl) dX5_areTwo_17 rfl ?_
      refine j_iload_n C dX5_areTwo_20 rfl ?_
      refine j_doI (st := []) (j_runVN C (kX1_has hc ok v (by omega)) ggX5_areTwo_X1_has sgX1_has rfl (List.mem_of_getElem? (i := 28) rfl) (List.mem_of_getElem? (i := 3) rfl) (List.mem_of_getElem? (i := 2) rfl) (List.mem_of_getElem? (i := 4) rfl) ⟨by decide, by decide⟩ (by decide) (en_G (c := 1) (by decide) _) rfl rfl rfl (Nat.le_of_ble_eq_true rfl) dX5_areTwo_21) (fun z_6 V_7 h_8 => ?_)
      obtain ⟨rfl, rfl⟩ := h_8
      refine j_ifb_eq (tgt := 31) C dX5_areTwo_24 (by decide) (fun q_9 => ?_) (fun q_9 => ?_)
      · refine j_iconst C dX5_areTwo_31 ?_
        refine j_zret C hQ (by decide) dX5_areTwo_32 ?_
        refine ⟨rfl, ?_⟩
        unfold aTwo gI
        simp_all [bI] <;> omega
      · refine j_iconst C dX5_areTwo_27 ?_
        refine j_goto (tgt := 32) C dX5_areTwo_28 (by decide) ?_
        refine j_zret C hQ (by decide) dX5_areTwo_32 ?_
        refine ⟨rfl, ?_⟩
        unfold aTwo gI
        simp_all [bI] <;> omega
def rX5_isPlace : Room := { frames := 0, cells := 0, slots := 0, locals := 0 }
theorem sgX5_isPlace : sg yX5_isPlace wsX5_isPlace cX5_isPlace 2 (some .boolean) rX5_isPlace 2 := ⟨⟨_, rfl⟩, rfl, rfl, by decide, by decide, by decide +kernel⟩
set_option maxHeartbeats 4000000 in
set_option maxRecDepth 100000 in
theorem kX5_isPlace {O : OmT} {l : Launch} {V : Mem} (x : Int) (y : Int) (hx : -2147483648 ≤ x ∧ x < 2147483648) (hy : -2147483648 ≤ y ∧ y < 2147483648) : MI O l yX5_isPlace wsX5_isPlace rX5_isPlace [si x, si y] V (fun z V2 => V = V2 ∧ z = bI (gPl x y)) := by
  refine mi_of (cc := cX5_isPlace) (nL := 2) (rt := (some .boolean)) (by decide) rfl rfl (Nat.le_of_ble_eq_true rfl) (fun F hF C hQ => ?_)
  subst hF
  change J O F rX5_isPlace 2 V 0 [(0, si x), (1, si y)] []
  refine j_iload_n C dX5_isPlace_0 rfl ?_
  refine j_if_lt (tgt := 24) C dX5_isPlace_1 (by decide) (by omega) (fun q_1 => ?_) (fun q_1 => ?_)
  · refine j_iconst C dX5_isPlace_24 ?_
    refine j_zret C hQ (by decide) dX5_isPlace_25 ?_
    refine ⟨rfl, ?_⟩
    unfold gPl
    simp_all [bI] <;> omega
  · refine j_iload_n C dX5_isPlace_4 rfl ?_
    refine j_bipush C dX5_isPlace_5 (by decide) ?_
    refine j_icmp_ge (tgt := 24) C dX5_isPlace_7 (by decide) (by omega) (by decide) (fun q_2 => ?_) (fun q_2 => ?_)
    · refine j_iconst C dX5_isPlace_24 ?_
      refine j_zret C hQ (by decide) dX5_isPlace_25 ?_
      refine ⟨rfl, ?_⟩
      unfold gPl
      simp_all [bI] <;> omega
    · refine j_iload_n C dX5_isPlace_10 rfl ?_
      refine j_if_lt (tgt := 24) C dX5_isPlace_11 (by decide) (by omega) (fun q_3 => ?_) (fun q_3 => ?_)
      · refine j_iconst C dX5_isPlace_24 ?_
        refine j_zret C hQ (by decide) dX5_isPlace_25 ?_
        refine ⟨rfl, ?_⟩
        unfold gPl
        simp_all [bI] <;> omega
      · refine j_iload_n C dX5_isPlace_14 rfl ?_
        refine j_bipush C dX5_isPlace_15 (by decide) ?_
        refine j_icmp_ge (tgt := 24) C dX5_isPlace_17 (by decide) (by omega) (by decide) (fun q_4 => ?_) (fun q_4 => ?_)
        · refine j_iconst C dX5_isPlace_24 ?_
          refine j_zret C hQ (by decide) dX5_isPlace_25 ?_
          refine ⟨rfl, ?_⟩
          unfold gPl
          simp_all [bI] <;> omega
        · refine j_iconst C dX5_isPlace_20 ?_
          refine j_goto (tgt := 25) C dX5_isPlace_21 (by decide) ?_
          refine j_zret C hQ (by decide) dX5_isPlace_25 ?_
          refine ⟨rfl, ?_⟩
          unfold gPl
          simp_all [bI] <;> omega
def rX5_far : Room := { frames := 1, cells := 0, slots := 0, locals := 24 }
theorem sgX5_far : sg yX5_far wsX5_far cX5_far 3 (some .int) rX5_far 2 := ⟨⟨_, rfl⟩, rfl, rfl, by decide, by decide, by decide +kernel⟩
set_option maxHeartbeats 4000000 in
set_option maxRecDepth 100000 in
theorem kX5_far {O : OmT} {l : Launch} {V : Mem} {g : Nat → Int} (hc : cls V g) (ok : okg g) (u : Int) (v : Int) (hu : -2147483648 ≤ u ∧ u < 2147483648) (hv : -2147483648 ≤ v ∧ v < 2147483648) : MI O l yX5_far wsX5_far rX5_far [sr 0, si u, si v] V (fun z V2 => V = V2 ∧ z = aFar g u v) := by
  refine mi_of (cc := cX5_far) (nL := 3) (rt := (some .int)) (by decide) rfl rfl (Nat.le_of_ble_eq_true rfl) (fun F hF C hQ => ?_)
  subst hF
  change J O F rX5_far 3 V 0 [(0, sr 0), (1, si u), (2, si v)] []
  refine j_aload_n C dX5_far_0 rfl ?_
  refine j_get (v := sr 1) C 0 0 (by decide) (en_0 _ _) rfl (by decide) (fun w h => List.mem_cons_of_mem _ (List.mem_append_left _ (List.mem_append_right _ h))) (List.mem_of_getElem? (i := 1) rfl) dX5_far_1 rfl ?_
  refine j_iload_n C dX5_far_4 rfl ?_
  refine j_doI (st := []) (j_runVN C (kX1_has hc ok u (by omega)) ggX5_far_X1_has sgX1_has rfl (List.mem_of_getElem? (i := 28) rfl) (List.mem_of_getElem? (i := 4) rfl) (List.mem_of_getElem? (i := 3) rfl) (List.mem_of_getElem? (i := 5) rfl) ⟨by decide, by decide⟩ (by decide) (en_G (c := 1) (by decide) _) rfl rfl rfl (Nat.le_of_ble_eq_true rfl) dX5_far_5) (fun z_1 V_2 h_3 => ?_)
  obtain ⟨rfl, rfl⟩ := h_3
  refine j_ifb_eq (tgt := 22) C dX5_far_8 (by decide) (fun q_4 => ?_) (fun q_4 => ?_)
  · refine j_ldc (n := -1000000001) C (List.mem_of_getElem? (i := 2) rfl) (by decide) dX5_far_22 ?_
    refine j_iret C hQ dX5_far_24 ?_
    refine ⟨rfl, ?_⟩
    unfold aFar gI
    simp_all
    try (intros; omega)
  · refine j_aload_n C dX5_far_11 rfl ?_
    refine j_get (v := sr 1) C 0 0 (by decide) (en_0 _ _) rfl (by decide) (fun w h => List.mem_cons_of_mem _ (List.mem_append_left _ (List.mem_append_right _ h))) (List.mem_of_getElem? (i := 1) rfl) dX5_far_12 rfl ?_
    refine j_iload_n C dX5_far_15 rfl ?_
    refine j_doI (st := []) (j_runVN C (kX1_has hc ok v (by omega)) ggX5_far_X1_has sgX1_has rfl (List.mem_of_getElem? (i := 28) rfl) (List.mem_of_getElem? (i := 4) rfl) (List.mem_of_getElem? (i := 3) rfl) (List.mem_of_getElem? (i := 5) rfl) ⟨by decide, by decide⟩ (by decide) (en_G (c := 1) (by decide) _) rfl rfl rfl (Nat.le_of_ble_eq_true rfl) dX5_far_16) (fun z_5 V_6 h_7 => ?_)
    obtain ⟨rfl, rfl⟩ := h_7
    refine j_ifb_ne (tgt := 25) C dX5_far_19 (by decide) (fun q_8 => ?_) (fun q_8 => ?_)
    · refine j_aload_n C dX5_far_25 rfl ?_
      refine j_get (v := sr 1) C 0 0 (by decide) (en_0 _ _) rfl (by decide) (fun w h => List.mem_cons_of_mem _ (List.mem_append_left _ (List.mem_append_right _ h))) (List.mem_of_getElem? (i := 1) rfl) dX5_far_26 rfl ?_
      refine j_iload_n C dX5_far_29 rfl ?_
      refine j_iload_n C dX5_far_30 rfl ?_
      refine j_doI (st := []) (j_runVN C (kX1_apart hc u.toNat v.toNat (by have := ok.n; simp only [aTwo, gI, Bool.and_eq_true, decide_eq_true_eq] at *; omega) (by have := ok.n; simp only [aTwo, gI, Bool.and_eq_true, decide_eq_true_eq] at *; omega) (by have := ok.n; simp only [aTwo, gI, Bool.and_eq_true, decide_eq_true_eq] at *; omega) (by have := ok.n; simp only [aTwo, gI, Bool.and_eq_true, decide_eq_true_eq] at *; omega)) ggX5_far_X1_apart sgX1_apart rfl (List.mem_of_getElem? (i := 31) rfl) (List.mem_of_getElem? (i := 4) rfl) (List.mem_of_getElem? (i := 8) rfl) (List.mem_of_getElem? (i := 9) rfl) ⟨by decide, by decide⟩ (by decide) (en_G (c := 1) (by decide) _) rfl rfl rfl (Nat.le_of_ble_eq_true rfl) dX5_far_31) (fun z_9 V_10 h_11 => ?_)
      obtain ⟨rfl, rfl⟩ := h_11
      refine j_iret C hQ dX5_far_34 ?_
      refine ⟨rfl, ?_⟩
      unfold aFar gI
      simp_all
      try (intros; omega)
    · refine j_ldc (n := -1000000001) C (List.mem_of_getElem? (i := 2) rfl) (by decide) dX5_far_22 ?_
      refine j_iret C hQ dX5_far_24 ?_
      refine ⟨rfl, ?_⟩
      unfold aFar gI
      simp_all
      try (intros; omega)
def rX5_turning : Room := { frames := 3, cells := 0, slots := 0, locals := 75 }
theorem sgX5_turning : sg yX5_turning wsX5_turning cX5_turning 3 (some .int) rX5_turning 2 := ⟨⟨_, rfl⟩, rfl, rfl, by decide, by decide, by decide +kernel⟩
set_option maxHeartbeats 4000000 in
set_option maxRecDepth 100000 in
theorem kX5_turning {O : OmT} {l : Launch} {V : Mem} {g : Nat → Int} (hn : net V g) (ok : okg g) (u : Int) (v : Int) (hu : -2147483648 ≤ u ∧ u < 2147483648) (hv : -2147483648 ≤ v ∧ v < 2147483648) : MI O l yX5_turning wsX5_turning rX5_turning [sr 0, si u, si v] V (fun z V2 => V = V2 ∧ z = aTurn g u v) := by
  refine mi_of (cc := cX5_turning) (nL := 3) (rt := (some .int)) (by decide) rfl rfl (Nat.le_of_ble_eq_true rfl) (fun F hF C hQ => ?_)
  subst hF
  change J O F rX5_turning 3 V 0 [(0, sr 0), (1, si u), (2, si v)] []
  refine j_aload_n C dX5_turning_0 rfl ?_
  refine j_iload_n C dX5_turning_1 rfl ?_
  refine j_iload_n C dX5_turning_2 rfl ?_
  refine j_doI (st := []) (j_runV C (kX5_areTwo hn.1 ok u v (by omega) (by omega)) gX5_turning_X5_areTwo sgX5_areTwo rfl ⟨by decide, by decide⟩ (by decide) (en_0 _ _) rfl rfl rfl (Nat.le_of_ble_eq_true rfl) dX5_turning_3) (fun z_1 V_2 h_3 => ?_)
  obtain ⟨rfl, rfl⟩ := h_3
  refine j_ifb_ne (tgt := 12) C dX5_turning_6 (by decide) (fun q_4 => ?_) (fun q_4 => ?_)
  · refine j_aload_n C dX5_turning_12 rfl ?_
    refine j_get (v := sr 4) C 0 1 (by decide) (en_0 _ _) rfl (by decide) (fun w h => List.mem_cons_of_mem _ (List.mem_append_left _ (List.mem_append_left _ (List.mem_append_right _ h)))) (List.mem_of_getElem? (i := 2) rfl) dX5_turning_13 rfl ?_
    refine j_iload_n C dX5_turning_16 rfl ?_
    refine j_iload_n C dX5_turning_17 rfl ?_
    refine j_doI (st := []) (j_runVN C (kX3_turnFrom hn ok u.toNat v.toNat (by have := ok.n; simp only [aTwo, gI, Bool.and_eq_true, decide_eq_true_eq] at *; omega) (by have := ok.n; simp only [aTwo, gI, Bool.and_eq_true, decide_eq_true_eq] at *; omega) (by have := ok.n; simp only [aTwo, gI, Bool.and_eq_true, decide_eq_true_eq] at *; omega) (by have := ok.n; simp only [aTwo, gI, Bool.and_eq_true, decide_eq_true_eq] at *; omega) (by have := ok.n; simp only [aTwo, gI, Bool.and_eq_true, decide_eq_true_eq] at *; omega) (by have := ok.n; simp only [aTwo, gI, Bool.and_eq_true, decide_eq_true_eq] at *; omega) (by have := ok.n; simp only [aTwo, gI, Bool.and_eq_true, decide_eq_true_eq] at *; omega)) ggX5_turning_X3_turnFrom sgX3_turnFrom rfl (List.mem_of_getElem? (i := 32) rfl) (List.mem_of_getElem? (i := 15) rfl) (List.mem_of_getElem? (i := 14) rfl) (List.mem_of_getElem? (i := 16) rfl) ⟨by decide, by decide⟩ (by decide) (en_4 _ _) rfl rfl rfl (Nat.le_of_ble_eq_true rfl) dX5_turning_18) (fun z_5 V_6 h_7 => ?_)
    obtain ⟨rfl, rfl⟩ := h_7
    refine j_iret C hQ dX5_turning_21 ?_
    refine ⟨rfl, ?_⟩
    unfold aTurn
    simp_all
  · refine j_ldc (n := -1000000001) C (List.mem_of_getElem? (i := 1) rfl) (by decide) dX5_turning_9 ?_
    refine j_iret C hQ dX5_turning_11 ?_
    refine ⟨rfl, ?_⟩
    unfold aTurn
    simp_all
