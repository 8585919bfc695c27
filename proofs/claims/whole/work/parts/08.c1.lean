def rX5_holds : Room := { frames := 0, cells := 0, slots := 0, locals := 0 }
theorem sgX5_holds : sg yX5_holds wsX5_holds cX5_holds 2 (some .boolean) rX5_holds 2 := ⟨⟨_, rfl⟩, rfl, rfl, by decide, by decide, by decide +kernel⟩
set_option maxHeartbeats 4000000 in
set_option maxRecDepth 100000 in
theorem kX5_holds {O : OmT} {l : Launch} {V : Mem} {zm zk : Int} (m k : Nat) (em : zm = (m : Int)) (ek : zk = (k : Int)) (hm : m < 2147483648) (hk : k < 32) : MI O l yX5_holds wsX5_holds rX5_holds [si zm, si zk] V (fun z V2 => V = V2 ∧ z = bI (m.testBit k)) := by
  refine mi_of (cc := cX5_holds) (nL := 2) (rt := (some .boolean)) (by decide) rfl rfl (Nat.le_of_ble_eq_true rfl) (fun F hF C hQ => ?_)
  subst hF
  subst em ek
  change J O F rX5_holds 2 V 0 [(0, si (m : Int)), (1, si (k : Int))] []
  refine j_iload_n C dX5_holds_0 rfl ?_
  refine j_iload_n C dX5_holds_1 rfl ?_
  refine j_ishr C dX5_holds_2 ?_
  refine j_iconst C dX5_holds_3 ?_
  refine j_iand C dX5_holds_4 ?_
  refine j_top (has_bit hm hk) ?_
  refine j_iconst C dX5_holds_5 ?_
  refine j_icmp_ne (tgt := 13) C dX5_holds_6 (by decide) (bI_rg _) (by decide) (fun q_1 => ?_) (fun q_1 => ?_)
  · refine j_iconst C dX5_holds_13 ?_
    refine j_zret C hQ (by decide) dX5_holds_14 ?_
    exact ⟨rfl, by rcases bI_or (m.testBit k) with e | e <;> simp_all⟩
  · refine j_iconst C dX5_holds_9 ?_
    refine j_goto (tgt := 14) C dX5_holds_10 (by decide) ?_
    refine j_zret C hQ (by decide) dX5_holds_14 ?_
    exact ⟨rfl, by rcases bI_or (m.testBit k) with e | e <;> simp_all⟩
def rX1_has : Room := { frames := 0, cells := 0, slots := 0, locals := 0 }
theorem sgX1_has : sg yX1_has wsX1_has cX1_has 2 (some .boolean) rX1_has 1 := ⟨⟨_, rfl⟩, rfl, rfl, by decide, by decide, by decide +kernel⟩
set_option maxHeartbeats 4000000 in
set_option maxRecDepth 100000 in
theorem kX1_has {O : OmT} {l : Launch} {V : Mem} {g : Nat → Int} (hc : cls V g) (ok : okg g) (v : Int) (hv : -2147483648 ≤ v ∧ v < 2147483648) : MI O l yX1_has wsX1_has rX1_has [sr 1, si v] V (fun z V2 => V = V2 ∧ z = bI (decide (0 ≤ v) && decide (v ≤ g 0 - 1))) := by
  refine mi_of (cc := cX1_has) (nL := 2) (rt := (some .boolean)) (by decide) rfl rfl (Nat.le_of_ble_eq_true rfl) (fun F hF C hQ => ?_)
  subst hF
  have := ok.1
  change J O F rX1_has 2 V 0 [(0, sr 1), (1, si v)] []
  refine j_iload_n C dX1_has_0 rfl ?_
  refine j_if_lt (tgt := 16) C dX1_has_1 (by decide) (by omega) (fun q_1 => ?_) (fun q_1 => ?_)
  · refine j_iconst C dX1_has_16 ?_
    refine j_zret C hQ (by decide) dX1_has_17 ?_
    refine ⟨rfl, ?_⟩
    simp [bI]; omega
  · refine j_iload_n C dX1_has_4 rfl ?_
    refine j_aload_n C dX1_has_5 rfl ?_
    refine j_get (v := si (V 1 2)) C 1 2 (by decide) (en_G (c := 1) (by decide) _) rfl (by decide) (fun w h => List.mem_cons_of_mem _ (List.mem_append_right _ h)) (List.mem_of_getElem? (i := 1) rfl) dX1_has_6 rfl ?_
    refine j_top hc.1 ?_
    refine j_icmp_ge (tgt := 16) C dX1_has_9 (by decide) (by omega) (by have := ok.1; omega) (fun q_2 => ?_) (fun q_2 => ?_)
    · refine j_iconst C dX1_has_16 ?_
      refine j_zret C hQ (by decide) dX1_has_17 ?_
      refine ⟨rfl, ?_⟩
      simp [bI]; omega
    · refine j_iconst C dX1_has_12 ?_
      refine j_goto (tgt := 17) C dX1_has_13 (by decide) ?_
      refine j_zret C hQ (by decide) dX1_has_17 ?_
      refine ⟨rfl, ?_⟩
      simp [bI]; omega
def rX1_isAwake : Room := { frames := 1, cells := 0, slots := 0, locals := 21 }
theorem sgX1_isAwake : sg yX1_isAwake wsX1_isAwake cX1_isAwake 2 (some .boolean) rX1_isAwake 1 := ⟨⟨_, rfl⟩, rfl, rfl, by decide, by decide, by decide +kernel⟩
set_option maxHeartbeats 4000000 in
set_option maxRecDepth 100000 in
theorem kX1_isAwake {O : OmT} {l : Launch} {V : Mem} {g : Nat → Int} (hc : cls V g) (ok : okg g) (v : Int) (hv : -2147483648 ≤ v ∧ v < 2147483648) : MI O l yX1_isAwake wsX1_isAwake rX1_isAwake [sr 1, si v] V (fun z V2 => V = V2 ∧ z = bI (decide (0 ≤ v) && gA g v.toNat)) := by
  refine mi_of (cc := cX1_isAwake) (nL := 2) (rt := (some .boolean)) (by decide) rfl rfl (Nat.le_of_ble_eq_true rfl) (fun F hF C hQ => ?_)
  subst hF
  have n0 := ok.n
  change J O F rX1_isAwake 2 V 0 [(0, sr 1), (1, si v)] []
  refine j_aload_n C dX1_isAwake_0 rfl ?_
  refine j_iload_n C dX1_isAwake_1 rfl ?_
  refine j_doI (st := []) (j_runV C (kX1_has hc ok v (by omega)) gX1_isAwake_X1_has sgX1_has rfl ⟨by decide, by decide⟩ (by decide) (en_G (c := 1) (by decide) _) rfl rfl rfl (Nat.le_of_ble_eq_true rfl) dX1_isAwake_2) (fun z_1 V_2 h_3 => ?_)
  obtain ⟨rfl, rfl⟩ := h_3
  refine j_ifb_eq (tgt := 23) C dX1_isAwake_5 (by decide) (fun q_4 => ?_) (fun q_4 => ?_)
  · refine j_iconst C dX1_isAwake_23 ?_
    refine j_zret C hQ (by decide) dX1_isAwake_24 ?_
    refine ⟨rfl, ?_⟩
    first
      | (have e : (decide (0 ≤ v) && gA g v.toNat) = false := by
           by_cases h0 : 0 ≤ v
           · rw [gA_ge ok (show gN g ≤ v.toNat by have := ok.n; simp [h0] at q_4; omega), Bool.and_false]
           · simp [h0]
         rw [e]; rfl)
      | (have h0 : 0 ≤ v := by simp at q_4; omega
         simp only [gA]
         simp_all [bI])
  · refine j_aload_n C dX1_isAwake_8 rfl ?_
    refine j_get (v := si (V 1 3)) C 1 3 (by decide) (en_G (c := 1) (by decide) _) rfl (by decide) (fun w h => List.mem_cons_of_mem _ (List.mem_append_right _ h)) (List.mem_of_getElem? (i := 1) rfl) dX1_isAwake_9 rfl ?_
    refine j_top hc.2.1 ?_
    refine j_iload_n C dX1_isAwake_12 rfl ?_
    refine j_doI (st := []) (j_runSN C (kX5_holds (g 3).toNat v.toNat ok.a.1 (by simp at q_4; omega) (by have := ok.a.2; omega) (by simp at q_4; omega)) ggX1_isAwake_X5_holds sgX5_holds (List.mem_of_getElem? (i := 14) rfl) (List.mem_of_getElem? (i := 9) rfl) (List.mem_of_getElem? (i := 8) rfl) ⟨by decide, by decide⟩ rfl rfl (Nat.le_of_ble_eq_true rfl) dX1_isAwake_13) (fun z_5 V_6 h_7 => ?_)
    obtain ⟨rfl, rfl⟩ := h_7
    refine j_ifb_eq (tgt := 23) C dX1_isAwake_16 (by decide) (fun q_8 => ?_) (fun q_8 => ?_)
    · refine j_iconst C dX1_isAwake_23 ?_
      refine j_zret C hQ (by decide) dX1_isAwake_24 ?_
      refine ⟨rfl, ?_⟩
      first
        | (have e : (decide (0 ≤ v) && gA g v.toNat) = false := by
             by_cases h0 : 0 ≤ v
             · rw [gA_ge ok (show gN g ≤ v.toNat by have := ok.n; simp [h0] at q_4; omega), Bool.and_false]
             · simp [h0]
           rw [e]; rfl)
        | (have h0 : 0 ≤ v := by simp at q_4; omega
           simp only [gA]
           simp_all [bI])
    · refine j_iconst C dX1_isAwake_19 ?_
      refine j_goto (tgt := 24) C dX1_isAwake_20 (by decide) ?_
      refine j_zret C hQ (by decide) dX1_isAwake_24 ?_
      refine ⟨rfl, ?_⟩
      first
        | (have e : (decide (0 ≤ v) && gA g v.toNat) = false := by
             by_cases h0 : 0 ≤ v
             · rw [gA_ge ok (show gN g ≤ v.toNat by have := ok.n; simp [h0] at q_4; omega), Bool.and_false]
             · simp [h0]
           rw [e]; rfl)
        | (have h0 : 0 ≤ v := by simp at q_4; omega
           simp only [gA]
           simp_all [bI])
def rX1_apart : Room := { frames := 0, cells := 0, slots := 0, locals := 0 }
theorem sgX1_apart : sg yX1_apart wsX1_apart cX1_apart 5 (some .int) rX1_apart 2 := ⟨⟨_, rfl⟩, rfl, rfl, by decide, by decide, by decide +kernel⟩
set_option maxHeartbeats 4000000 in
set_option maxRecDepth 100000 in
theorem kX1_apart {O : OmT} {l : Launch} {V : Mem} {g : Nat → Int} (hc : cls V g) {zu : Int} {zv : Int} (u v : Nat) (eu : zu = (u : Int)) (ev : zv = (v : Int)) (hu : u < 10) (hv : v < 10) : MI O l yX1_apart wsX1_apart rX1_apart [sr 1, si zu, si zv] V (fun z V2 => V = V2 ∧ z = gF g u v) := by
  refine mi_of (cc := cX1_apart) (nL := 5) (rt := (some .int)) (by decide) rfl rfl (Nat.le_of_ble_eq_true rfl) (fun F hF C hQ => ?_)
  subst hF
  subst eu ev
  change J O F rX1_apart 5 V 0 [(0, sr 1), (1, si (u : Int)), (2, si (v : Int))] []
  refine j_aload_n C dX1_apart_0 rfl ?_
  refine j_get (v := sr 2) C 1 0 (by decide) (en_G (c := 1) (by decide) _) rfl (by decide) (fun w h => List.mem_cons_of_mem _ (List.mem_append_right _ h)) (List.mem_of_getElem? (i := 1) rfl) dX1_apart_1 rfl ?_
  refine j_iload_n C dX1_apart_4 rfl ?_
  refine j_iald C (row_2 O) u rfl (by omega) dX1_apart_5 ?_
  refine j_top (hc.2.2.2.2.1 u (by omega)) ?_
  refine j_aload_n C dX1_apart_6 rfl ?_
  refine j_get (v := sr 2) C 1 0 (by decide) (en_G (c := 1) (by decide) _) rfl (by decide) (fun w h => List.mem_cons_of_mem _ (List.mem_append_right _ h)) (List.mem_of_getElem? (i := 1) rfl) dX1_apart_7 rfl ?_
  refine j_iload_n C dX1_apart_10 rfl ?_
  refine j_iald C (row_2 O) v rfl (by omega) dX1_apart_11 ?_
  refine j_top (hc.2.2.2.2.1 v (by omega)) ?_
  refine j_isub C dX1_apart_12 ?_
  refine j_istore_n (lv' := [(0, sr 1), (1, si (u : Int)), (2, si (v : Int)), (3, si ((g (4 + u)) - (g (4 + v))))]) C dX1_apart_13 (by decide) rfl ?_
  refine j_aload_n C dX1_apart_14 rfl ?_
  refine j_get (v := sr 3) C 1 1 (by decide) (en_G (c := 1) (by decide) _) rfl (by decide) (fun w h => List.mem_cons_of_mem _ (List.mem_append_right _ h)) (List.mem_of_getElem? (i := 2) rfl) dX1_apart_15 rfl ?_
  refine j_iload_n C dX1_apart_18 rfl ?_
  refine j_iald C (row_3 O) u rfl (by omega) dX1_apart_19 ?_
  refine j_top (hc.2.2.2.2.2 u (by omega)) ?_
  refine j_aload_n C dX1_apart_20 rfl ?_
  refine j_get (v := sr 3) C 1 1 (by decide) (en_G (c := 1) (by decide) _) rfl (by decide) (fun w h => List.mem_cons_of_mem _ (List.mem_append_right _ h)) (List.mem_of_getElem? (i := 2) rfl) dX1_apart_21 rfl ?_
  refine j_iload_n C dX1_apart_24 rfl ?_
  refine j_iald C (row_3 O) v rfl (by omega) dX1_apart_25 ?_
  refine j_top (hc.2.2.2.2.2 v (by omega)) ?_
  refine j_isub C dX1_apart_26 ?_
  refine j_istore (lv' := [(0, sr 1), (1, si (u : Int)), (2, si (v : Int)), (3, si ((g (4 + u)) - (g (4 + v)))), (4, si ((g (14 + u)) - (g (14 + v))))]) C dX1_apart_27 (by decide) rfl ?_
  refine j_iload_n C dX1_apart_29 rfl ?_
  refine j_iload_n C dX1_apart_30 rfl ?_
  refine j_imul C dX1_apart_31 ?_
  refine j_iload C dX1_apart_32 rfl ?_
  refine j_iload C dX1_apart_34 rfl ?_
  refine j_imul C dX1_apart_36 ?_
  refine j_iadd C dX1_apart_37 ?_
  refine j_iret C hQ dX1_apart_38 ?_
  exact ⟨rfl, rfl⟩
def rX1_sideOf : Room := { frames := 0, cells := 0, slots := 0, locals := 0 }
theorem sgX1_sideOf : sg yX1_sideOf wsX1_sideOf cX1_sideOf 4 (some .int) rX1_sideOf 3 := ⟨⟨_, rfl⟩, rfl, rfl, by decide, by decide, by decide +kernel⟩
set_option maxHeartbeats 4000000 in
set_option maxRecDepth 100000 in
theorem kX1_sideOf {O : OmT} {l : Launch} {V : Mem} {g : Nat → Int} (hc : cls V g) {za : Int} {zb : Int} {zd : Int} (a b d : Nat) (ea : za = (a : Int)) (eb : zb = (b : Int)) (ed : zd = (d : Int)) (ha : a < 10) (hb : b < 10) (hd : d < 10) : MI O l yX1_sideOf wsX1_sideOf rX1_sideOf [sr 1, si za, si zb, si zd] V (fun z V2 => V = V2 ∧ z = gS g a b d) := by
  refine mi_of (cc := cX1_sideOf) (nL := 4) (rt := (some .int)) (by decide) rfl rfl (Nat.le_of_ble_eq_true rfl) (fun F hF C hQ => ?_)
  subst hF
  subst ea eb ed
  change J O F rX1_sideOf 4 V 0 [(0, sr 1), (1, si (a : Int)), (2, si (b : Int)), (3, si (d : Int))] []
  refine j_aload_n C dX1_sideOf_0 rfl ?_
  refine j_get (v := sr 2) C 1 0 (by decide) (en_G (c := 1) (by decide) _) rfl (by decide) (fun w h => List.mem_cons_of_mem _ (List.mem_append_right _ h)) (List.mem_of_getElem? (i := 1) rfl) dX1_sideOf_1 rfl ?_
  refine j_iload_n C dX1_sideOf_4 rfl ?_
  refine j_iald C (row_2 O) b rfl (by omega) dX1_sideOf_5 ?_
  refine j_top (hc.2.2.2.2.1 b (by omega)) ?_
  refine j_aload_n C dX1_sideOf_6 rfl ?_
  refine j_get (v := sr 2) C 1 0 (by decide) (en_G (c := 1) (by decide) _) rfl (by decide) (fun w h => List.mem_cons_of_mem _ (List.mem_append_right _ h)) (List.mem_of_getElem? (i := 1) rfl) dX1_sideOf_7 rfl ?_
  refine j_iload_n C dX1_sideOf_10 rfl ?_
  refine j_iald C (row_2 O) a rfl (by omega) dX1_sideOf_11 ?_
  refine j_top (hc.2.2.2.2.1 a (by omega)) ?_
  refine j_isub C dX1_sideOf_12 ?_
  refine j_aload_n C dX1_sideOf_13 rfl ?_
  refine j_get (v := sr 3) C 1 1 (by decide) (en_G (c := 1) (by decide) _) rfl (by decide) (fun w h => List.mem_cons_of_mem _ (List.mem_append_right _ h)) (List.mem_of_getElem? (i := 2) rfl) dX1_sideOf_14 rfl ?_
  refine j_iload_n C dX1_sideOf_17 rfl ?_
  refine j_iald C (row_3 O) d rfl (by omega) dX1_sideOf_18 ?_
  refine j_top (hc.2.2.2.2.2 d (by omega)) ?_
  refine j_aload_n C dX1_sideOf_19 rfl ?_
  refine j_get (v := sr 3) C 1 1 (by decide) (en_G (c := 1) (by decide) _) rfl (by decide) (fun w h => List.mem_cons_of_mem _ (List.mem_append_right _ h)) (List.mem_of_getElem? (i := 2) rfl) dX1_sideOf_20 rfl ?_
  refine j_iload_n C dX1_sideOf_23 rfl ?_
  refine j_iald C (row_3 O) a rfl (by omega) dX1_sideOf_24 ?_
  refine j_top (hc.2.2.2.2.2 a (by omega)) ?_
  refine j_isub C dX1_sideOf_25 ?_
  refine j_imul C dX1_sideOf_26 ?_
  refine j_aload_n C dX1_sideOf_27 rfl ?_
  refine j_get (v := sr 3) C 1 1 (by decide) (en_G (c := 1) (by decide) _) rfl (by decide) (fun w h => List.mem_cons_of_mem _ (List.mem_append_right _ h)) (List.mem_of_getElem? (i := 2) rfl) dX1_sideOf_28 rfl ?_
  refine j_iload_n C dX1_sideOf_31 rfl ?_
  refine j_iald C (row_3 O) b rfl (by omega) dX1_sideOf_32 ?_
  refine j_top (hc.2.2.2.2.2 b (by omega)) ?_
  refine j_aload_n C dX1_sideOf_33 rfl ?_
  refine j_get (v := sr 3) C 1 1 (by decide) (en_G (c := 1) (by decide) _) rfl (by decide) (fun w h => List.mem_cons_of_mem _ (List.mem_append_right _ h)) (List.mem_of_getElem? (i := 2) rfl) dX1_sideOf_34 rfl ?_
  refine j_iload_n C dX1_sideOf_37 rfl ?_
  refine j_iald C (row_3 O) a rfl (by omega) dX1_sideOf_38 ?_
  refine j_top (hc.2.2.2.2.2 a (by omega)) ?_
  refine j_isub C dX1_sideOf_39 ?_
  refine j_aload_n C dX1_sideOf_40 rfl ?_
  refine j_get (v := sr 2) C 1 0 (by decide) (en_G (c := 1) (by decide) _) rfl (by decide) (fun w h => List.mem_cons_of_mem _ (List.mem_append_right _ h)) (List.mem_of_getElem? (i := 1) rfl) dX1_sideOf_41 rfl ?_
  refine j_iload_n C dX1_sideOf_44 rfl ?_
  refine j_iald C (row_2 O) d rfl (by omega) dX1_sideOf_45 ?_
  refine j_top (hc.2.2.2.2.1 d (by omega)) ?_
  refine j_aload_n C dX1_sideOf_46 rfl ?_
  refine j_get (v := sr 2) C 1 0 (by decide) (en_G (c := 1) (by decide) _) rfl (by decide) (fun w h => List.mem_cons_of_mem _ (List.mem_append_right _ h)) (List.mem_of_getElem? (i := 1) rfl) dX1_sideOf_47 rfl ?_
  refine j_iload_n C dX1_sideOf_50 rfl ?_
  refine j_iald C (row_2 O) a rfl (by omega) dX1_sideOf_51 ?_
  refine j_top (hc.2.2.2.2.1 a (by omega)) ?_
  refine j_isub C dX1_sideOf_52 ?_
  refine j_imul C dX1_sideOf_53 ?_
  refine j_isub C dX1_sideOf_54 ?_
  refine j_iret C hQ dX1_sideOf_55 ?_
  exact ⟨rfl, rfl⟩
def rX1_aheadOf : Room := { frames := 0, cells := 0, slots := 0, locals := 0 }
theorem sgX1_aheadOf : sg yX1_aheadOf wsX1_aheadOf cX1_aheadOf 4 (some .int) rX1_aheadOf 3 := ⟨⟨_, rfl⟩, rfl, rfl, by decide, by decide, by decide +kernel⟩
set_option maxHeartbeats 4000000 in
set_option maxRecDepth 100000 in
theorem kX1_aheadOf {O : OmT} {l : Launch} {V : Mem} {g : Nat → Int} (hc : cls V g) {za : Int} {zb : Int} {zd : Int} (a b d : Nat) (ea : za = (a : Int)) (eb : zb = (b : Int)) (ed : zd = (d : Int)) (ha : a < 10) (hb : b < 10) (hd : d < 10) : MI O l yX1_aheadOf wsX1_aheadOf rX1_aheadOf [sr 1, si za, si zb, si zd] V (fun z V2 => V = V2 ∧ z = gD g a b d) := by
  refine mi_of (cc := cX1_aheadOf) (nL := 4) (rt := (some .int)) (by decide) rfl rfl (Nat.le_of_ble_eq_true rfl) (fun F hF C hQ => ?_)
  subst hF
  subst ea eb ed
  change J O F rX1_aheadOf 4 V 0 [(0, sr 1), (1, si (a : Int)), (2, si (b : Int)), (3, si (d : Int))] []
  refine j_aload_n C dX1_aheadOf_0 rfl ?_
  refine j_get (v := sr 2) C 1 0 (by decide) (en_G (c := 1) (by decide) _) rfl (by decide) (fun w h => List.mem_cons_of_mem _ (List.mem_append_right _ h)) (List.mem_of_getElem? (i := 1) rfl) dX1_aheadOf_1 rfl ?_
  refine j_iload_n C dX1_aheadOf_4 rfl ?_
  refine j_iald C (row_2 O) b rfl (by omega) dX1_aheadOf_5 ?_
  refine j_top (hc.2.2.2.2.1 b (by omega)) ?_
  refine j_aload_n C dX1_aheadOf_6 rfl ?_
  refine j_get (v := sr 2) C 1 0 (by decide) (en_G (c := 1) (by decide) _) rfl (by decide) (fun w h => List.mem_cons_of_mem _ (List.mem_append_right _ h)) (List.mem_of_getElem? (i := 1) rfl) dX1_aheadOf_7 rfl ?_
  refine j_iload_n C dX1_aheadOf_10 rfl ?_
  refine j_iald C (row_2 O) a rfl (by omega) dX1_aheadOf_11 ?_
  refine j_top (hc.2.2.2.2.1 a (by omega)) ?_
  refine j_isub C dX1_aheadOf_12 ?_
  refine j_aload_n C dX1_aheadOf_13 rfl ?_
  refine j_get (v := sr 2) C 1 0 (by decide) (en_G (c := 1) (by decide) _) rfl (by decide) (fun w h => List.mem_cons_of_mem _ (List.mem_append_right _ h)) (List.mem_of_getElem? (i := 1) rfl) dX1_aheadOf_14 rfl ?_
  refine j_iload_n C dX1_aheadOf_17 rfl ?_
  refine j_iald C (row_2 O) d rfl (by omega) dX1_aheadOf_18 ?_
  refine j_top (hc.2.2.2.2.1 d (by omega)) ?_
  refine j_aload_n C dX1_aheadOf_19 rfl ?_
  refine j_get (v := sr 2) C 1 0 (by decide) (en_G (c := 1) (by decide) _) rfl (by decide) (fun w h => List.mem_cons_of_mem _ (List.mem_append_right _ h)) (List.mem_of_getElem? (i := 1) rfl) dX1_aheadOf_20 rfl ?_
  refine j_iload_n C dX1_aheadOf_23 rfl ?_
  refine j_iald C (row_2 O) a rfl (by omega) dX1_aheadOf_24 ?_
  refine j_top (hc.2.2.2.2.1 a (by omega)) ?_
  refine j_isub C dX1_aheadOf_25 ?_
  refine j_imul C dX1_aheadOf_26 ?_
  refine j_aload_n C dX1_aheadOf_27 rfl ?_
  refine j_get (v := sr 3) C 1 1 (by decide) (en_G (c := 1) (by decide) _) rfl (by decide) (fun w h => List.mem_cons_of_mem _ (List.mem_append_right _ h)) (List.mem_of_getElem? (i := 2) rfl) dX1_aheadOf_28 rfl ?_
  refine j_iload_n C dX1_aheadOf_31 rfl ?_
  refine j_iald C (row_3 O) b rfl (by omega) dX1_aheadOf_32 ?_
  refine j_top (hc.2.2.2.2.2 b (by omega)) ?_
  refine j_aload_n C dX1_aheadOf_33 rfl ?_
  refine j_get (v := sr 3) C 1 1 (by decide) (en_G (c := 1) (by decide) _) rfl (by decide) (fun w h => List.mem_cons_of_mem _ (List.mem_append_right _ h)) (List.mem_of_getElem? (i := 2) rfl) dX1_aheadOf_34 rfl ?_
  refine j_iload_n C dX1_aheadOf_37 rfl ?_
  refine j_iald C (row_3 O) a rfl (by omega) dX1_aheadOf_38 ?_
  refine j_top (hc.2.2.2.2.2 a (by omega)) ?_
  refine j_isub C dX1_aheadOf_39 ?_
  refine j_aload_n C dX1_aheadOf_40 rfl ?_
  refine j_get (v := sr 3) C 1 1 (by decide) (en_G (c := 1) (by decide) _) rfl (by decide) (fun w h => List.mem_cons_of_mem _ (List.mem_append_right _ h)) (List.mem_of_getElem? (i := 2) rfl) dX1_aheadOf_41 rfl ?_
  refine j_iload_n C dX1_aheadOf_44 rfl ?_
  refine j_iald C (row_3 O) d rfl (by omega) dX1_aheadOf_45 ?_
  refine j_top (hc.2.2.2.2.2 d (by omega)) ?_
  refine j_aload_n C dX1_aheadOf_46 rfl ?_
  refine j_get (v := sr 3) C 1 1 (by decide) (en_G (c := 1) (by decide) _) rfl (by decide) (fun w h => List.mem_cons_of_mem _ (List.mem_append_right _ h)) (List.mem_of_getElem? (i := 2) rfl) dX1_aheadOf_47 rfl ?_
  refine j_iload_n C dX1_aheadOf_50 rfl ?_
  refine j_iald C (row_3 O) a rfl (by omega) dX1_aheadOf_51 ?_
  refine j_top (hc.2.2.2.2.2 a (by omega)) ?_
  refine j_isub C dX1_aheadOf_52 ?_
  refine j_imul C dX1_aheadOf_53 ?_
  refine j_iadd C dX1_aheadOf_54 ?_
  refine j_iret C hQ dX1_aheadOf_55 ?_
  exact ⟨rfl, rfl⟩
def rX1_whoStandsAt : Room := { frames := 0, cells := 0, slots := 0, locals := 0 }
theorem sgX1_whoStandsAt : sg yX1_whoStandsAt wsX1_whoStandsAt cX1_whoStandsAt 4 (some .int) rX1_whoStandsAt 2 := ⟨⟨_, rfl⟩, rfl, rfl, by decide, by decide, by decide +kernel⟩
set_option maxHeartbeats 4000000 in
set_option maxRecDepth 100000 in
theorem lpX1_whoStandsAt {O : OmT} {F : PhT} {V : Mem} {g : Nat → Int} {post : Int → Mem → Prop} (C : cx O F RX1 cX1_whoStandsAt 4 (some .int) wsX1_whoStandsAt) (hQ : qI O F post) (hc : cls V g) (ok : okg g) {px py : Int} (hpx : -2147483648 ≤ px ∧ px < 2147483648) (hpy : -2147483648 ≤ py ∧ py < 2147483648) (hpo : post (gW g px py (gN g)) V) : ∀ (fuel : Nat) (w : Nat), (w ≤ gN g) → (gW g px py w = -1) → gN g - w < fuel → J O F rX1_whoStandsAt 4 V 2 [(0, sr 1), (1, si px), (2, si py), (3, si (w : Int))] [] := by
  intro fuel
  induction fuel with
  | zero => intro w hw hw2 hf; exact absurd hf (Nat.not_lt_zero _)
  | succ fuel ih =>
    intro w hw hw2 hf
    have n1 := ok.n
    refine j_iload_n C dX1_whoStandsAt_2 rfl ?_
    refine j_aload_n C dX1_whoStandsAt_3 rfl ?_
    refine j_get (v := si (V 1 2)) C 1 2 (by decide) (en_G (c := 1) (by decide) _) rfl (by decide) (fun w h => List.mem_cons_of_mem _ (List.mem_append_right _ h)) (List.mem_of_getElem? (i := 1) rfl) dX1_whoStandsAt_4 rfl ?_
    refine j_top hc.1 ?_
    refine j_icmp_ge (tgt := 38) C dX1_whoStandsAt_7 (by decide) (by omega) (by have := ok.1; omega) (fun q_1 => ?_) (fun q_1 => ?_)
    · refine j_iconst C dX1_whoStandsAt_38 ?_
      refine j_iret C hQ dX1_whoStandsAt_39 ?_
      first
        | (have e : w = gN g := by omega
           subst e; rw [← hw2]; exact hpo)
        | (have e : gW g px py (gN g) = (w : Int) := gW_at (by omega) hw2 (by simp_all) (by simp_all)
           rw [← e]; exact hpo)
    · refine j_aload_n C dX1_whoStandsAt_10 rfl ?_
      refine j_get (v := sr 2) C 1 0 (by decide) (en_G (c := 1) (by decide) _) rfl (by decide) (fun w h => List.mem_cons_of_mem _ (List.mem_append_right _ h)) (List.mem_of_getElem? (i := 2) rfl) dX1_whoStandsAt_11 rfl ?_
      refine j_iload_n C dX1_whoStandsAt_14 rfl ?_
      refine j_iald C (row_2 O) w rfl (by omega) dX1_whoStandsAt_15 ?_
      refine j_top (hc.2.2.2.2.1 w (by omega)) ?_
      refine j_iload_n C dX1_whoStandsAt_16 rfl ?_
      refine j_icmp_ne (tgt := 32) C dX1_whoStandsAt_17 (by decide) (by have := ok.x (i := w) (by omega); omega) (by omega) (fun q_2 => ?_) (fun q_2 => ?_)
      · refine j_iinc (lv' := [(0, sr 1), (1, si px), (2, si py), (3, si ((w : Int) + 1))]) C dX1_whoStandsAt_32 rfl (by decide) rfl ?_
        refine j_goto (tgt := 2) C dX1_whoStandsAt_35 (by decide) ?_
        exact ih (w + 1) (by omega) (by rw [show gW g px py (w + 1) = if gW g px py w ≠ -1 then gW g px py w else if g (4 + w) = px ∧ g (14 + w) = py then (w : Int) else -1 from rfl, if_neg (by simp [hw2]), if_neg (by simp_all)]) (by omega)
      · refine j_aload_n C dX1_whoStandsAt_20 rfl ?_
        refine j_get (v := sr 3) C 1 1 (by decide) (en_G (c := 1) (by decide) _) rfl (by decide) (fun w h => List.mem_cons_of_mem _ (List.mem_append_right _ h)) (List.mem_of_getElem? (i := 3) rfl) dX1_whoStandsAt_21 rfl ?_
        refine j_iload_n C dX1_whoStandsAt_24 rfl ?_
        refine j_iald C (row_3 O) w rfl (by omega) dX1_whoStandsAt_25 ?_
        refine j_top (hc.2.2.2.2.2 w (by omega)) ?_
        refine j_iload_n C dX1_whoStandsAt_26 rfl ?_
        refine j_icmp_ne (tgt := 32) C dX1_whoStandsAt_27 (by decide) (by have := ok.y (i := w) (by omega); omega) (by omega) (fun q_3 => ?_) (fun q_3 => ?_)
        · refine j_iinc (lv' := [(0, sr 1), (1, si px), (2, si py), (3, si ((w : Int) + 1))]) C dX1_whoStandsAt_32 rfl (by decide) rfl ?_
          refine j_goto (tgt := 2) C dX1_whoStandsAt_35 (by decide) ?_
          exact ih (w + 1) (by omega) (by rw [show gW g px py (w + 1) = if gW g px py w ≠ -1 then gW g px py w else if g (4 + w) = px ∧ g (14 + w) = py then (w : Int) else -1 from rfl, if_neg (by simp [hw2]), if_neg (by simp_all)]) (by omega)
        · refine j_iload_n C dX1_whoStandsAt_30 rfl ?_
          refine j_iret C hQ dX1_whoStandsAt_31 ?_
          first
            | (have e : w = gN g := by omega
               subst e; rw [← hw2]; exact hpo)
            | (have e : gW g px py (gN g) = (w : Int) := gW_at (by omega) hw2 (by simp_all) (by simp_all)
               rw [← e]; exact hpo)
set_option maxHeartbeats 4000000 in
set_option maxRecDepth 100000 in
theorem kX1_whoStandsAt {O : OmT} {l : Launch} {V : Mem} {g : Nat → Int} (hc : cls V g) (ok : okg g) {px py : Int} (hpx : -2147483648 ≤ px ∧ px < 2147483648) (hpy : -2147483648 ≤ py ∧ py < 2147483648) : MI O l yX1_whoStandsAt wsX1_whoStandsAt rX1_whoStandsAt [sr 1, si px, si py] V (fun z V2 => V = V2 ∧ z = gW g px py (gN g)) := by
  refine mi_of (cc := cX1_whoStandsAt) (nL := 4) (rt := (some .int)) (by decide) rfl rfl (Nat.le_of_ble_eq_true rfl) (fun F hF C hQ => ?_)
  subst hF
  change J O F rX1_whoStandsAt 4 V 0 [(0, sr 1), (1, si px), (2, si py)] []
  refine j_iconst C dX1_whoStandsAt_0 ?_
  refine j_istore_n (lv' := [(0, sr 1), (1, si px), (2, si py), (3, si 0)]) C dX1_whoStandsAt_1 (by decide) rfl ?_
  exact lpX1_whoStandsAt C hQ hc ok hpx hpy ⟨rfl, rfl⟩ _ 0 (Nat.zero_le _) rfl (Nat.lt_succ_self _)
