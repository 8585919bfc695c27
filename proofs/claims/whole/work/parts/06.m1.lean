def rX6_in : Room := { frames := 0, cells := 0, slots := 0, locals := 0 }
theorem sgX6_in : sg yX6_in wsX6_in cX6_in 3 (some .boolean) rX6_in 3 := ⟨⟨_, rfl⟩, rfl, rfl, by decide, by decide, by decide +kernel⟩
set_option maxHeartbeats 4000000 in
set_option maxRecDepth 100000 in
theorem kX6_in {O : OmT} {l : Launch} {V : Mem} (v lo hi : Int) (hv : -2147483648 ≤ v ∧ v < 2147483648) (hlo : -2147483648 ≤ lo ∧ lo < 2147483648) (hhi : -2147483648 ≤ hi ∧ hi < 2147483648) : MI O l yX6_in wsX6_in rX6_in [si v, si lo, si hi] V (fun z V2 => V = V2 ∧ z = bI (decide (lo ≤ v) && decide (v ≤ hi))) := by
  refine mi_of (cc := cX6_in) (nL := 3) (rt := (some .boolean)) (by decide) rfl rfl (Nat.le_of_ble_eq_true rfl) (fun F hF C hQ => ?_)
  subst hF
  change J O F rX6_in 3 V 0 [(0, si v), (1, si lo), (2, si hi)] []
  refine j_iload_n C dX6_in_0 rfl ?_
  refine j_iload_n C dX6_in_1 rfl ?_
  refine j_icmp_lt (tgt := 14) C dX6_in_2 (by decide) (by omega) (by omega) (fun q_1 => ?_) (fun q_1 => ?_)
  · refine j_iconst C dX6_in_14 ?_
    refine j_zret C hQ (by decide) dX6_in_15 ?_
    refine ⟨rfl, ?_⟩
    simp [bI]; omega
  · refine j_iload_n C dX6_in_5 rfl ?_
    refine j_iload_n C dX6_in_6 rfl ?_
    refine j_icmp_gt (tgt := 14) C dX6_in_7 (by decide) (by omega) (by omega) (fun q_2 => ?_) (fun q_2 => ?_)
    · refine j_iconst C dX6_in_14 ?_
      refine j_zret C hQ (by decide) dX6_in_15 ?_
      refine ⟨rfl, ?_⟩
      simp [bI]; omega
    · refine j_iconst C dX6_in_10 ?_
      refine j_goto (tgt := 15) C dX6_in_11 (by decide) ?_
      refine j_zret C hQ (by decide) dX6_in_15 ?_
      refine ⟨rfl, ?_⟩
      simp [bI]; omega
def rX6_has : Room := { frames := 0, cells := 0, slots := 0, locals := 0 }
theorem sgX6_has : sg yX6_has wsX6_has cX6_has 2 (some .boolean) rX6_has 2 := ⟨⟨_, rfl⟩, rfl, rfl, by decide, by decide, by decide +kernel⟩
set_option maxHeartbeats 4000000 in
set_option maxRecDepth 100000 in
theorem kX6_has {O : OmT} {l : Launch} {V : Mem} {zm zk : Int} (m k : Nat) (em : zm = (m : Int)) (ek : zk = (k : Int)) (hm : m < 2147483648) (hk : k < 32) : MI O l yX6_has wsX6_has rX6_has [si zm, si zk] V (fun z V2 => V = V2 ∧ z = bI (m.testBit k)) := by
  refine mi_of (cc := cX6_has) (nL := 2) (rt := (some .boolean)) (by decide) rfl rfl (Nat.le_of_ble_eq_true rfl) (fun F hF C hQ => ?_)
  subst hF
  subst em ek
  change J O F rX6_has 2 V 0 [(0, si (m : Int)), (1, si (k : Int))] []
  refine j_iload_n C dX6_has_0 rfl ?_
  refine j_iload_n C dX6_has_1 rfl ?_
  refine j_ishr C dX6_has_2 ?_
  refine j_iconst C dX6_has_3 ?_
  refine j_iand C dX6_has_4 ?_
  refine j_top (has_bit hm hk) ?_
  refine j_iconst C dX6_has_5 ?_
  refine j_icmp_ne (tgt := 13) C dX6_has_6 (by decide) (bI_rg _) (by decide) (fun q_1 => ?_) (fun q_1 => ?_)
  · refine j_iconst C dX6_has_13 ?_
    refine j_zret C hQ (by decide) dX6_has_14 ?_
    exact ⟨rfl, by rcases bI_or (m.testBit k) with e | e <;> simp_all⟩
  · refine j_iconst C dX6_has_9 ?_
    refine j_goto (tgt := 14) C dX6_has_10 (by decide) ?_
    refine j_zret C hQ (by decide) dX6_has_14 ?_
    exact ⟨rfl, by rcases bI_or (m.testBit k) with e | e <;> simp_all⟩
def rX6_isNode : Room := { frames := 1, cells := 0, slots := 0, locals := 22 }
theorem sgX6_isNode : sg yX6_isNode wsX6_isNode cX6_isNode 2 (some .boolean) rX6_isNode 1 := ⟨⟨_, rfl⟩, rfl, rfl, by decide, by decide, by decide +kernel⟩
set_option maxHeartbeats 4000000 in
set_option maxRecDepth 100000 in
theorem kX6_isNode {O : OmT} {l : Launch} {V : Mem} {g : Nat → Int} (hg : mdl V g) (ok : okg g) (v : Int) (hv : -2147483648 ≤ v ∧ v < 2147483648) : MI O l yX6_isNode wsX6_isNode rX6_isNode [sr 72, si v] V (fun z V2 => V = V2 ∧ z = bI (decide (0 ≤ v) && decide (v ≤ g 0 - 1))) := by
  refine mi_of (cc := cX6_isNode) (nL := 2) (rt := (some .boolean)) (by decide) rfl rfl (Nat.le_of_ble_eq_true rfl) (fun F hF C hQ => ?_)
  subst hF
  have := ok.1
  change J O F rX6_isNode 2 V 0 [(0, sr 72), (1, si v)] []
  refine j_iload_n C dX6_isNode_0 rfl ?_
  refine j_iconst C dX6_isNode_1 ?_
  refine j_aload_n C dX6_isNode_2 rfl ?_
  refine j_get (v := sr 73) C 72 0 (by decide) (en_72 _ _) rfl (by decide) (fun w h => List.mem_cons_of_mem _ (List.mem_append_right _ h)) (List.mem_of_getElem? (i := 1) rfl) dX6_isNode_3 rfl ?_
  refine j_iconst C dX6_isNode_6 ?_
  refine j_iald C (row_73 O) 0 rfl (by decide) dX6_isNode_7 ?_
  refine j_top (hg 0 (by omega)) ?_
  refine j_iconst C dX6_isNode_8 ?_
  refine j_isub C dX6_isNode_9 ?_
  refine j_doI (st := []) (j_runS C (kX6_in v 0 ((g 0) - 1) (by omega) (by decide) (by omega)) ggX6_isNode_X6_in sgX6_in (List.mem_of_getElem? (i := 2) rfl) (List.mem_of_getElem? (i := 4) rfl) (List.mem_of_getElem? (i := 3) rfl) ⟨by decide, by decide⟩ rfl rfl (Nat.le_of_ble_eq_true rfl) dX6_isNode_10) (fun z_1 V_2 h_3 => ?_)
  obtain ⟨rfl, rfl⟩ := h_3
  refine j_zret C hQ (bI_or _) dX6_isNode_13 ?_
  exact ⟨rfl, rfl⟩
def rX6_isAwake : Room := { frames := 1, cells := 0, slots := 0, locals := 21 }
theorem sgX6_isAwake : sg yX6_isAwake wsX6_isAwake cX6_isAwake 2 (some .boolean) rX6_isAwake 1 := ⟨⟨_, rfl⟩, rfl, rfl, by decide, by decide, by decide +kernel⟩
set_option maxHeartbeats 4000000 in
set_option maxRecDepth 100000 in
theorem kX6_isAwake {O : OmT} {l : Launch} {V : Mem} {g : Nat → Int} (hg : mdl V g) (ok : okg g) {zv : Int} (v : Nat) (ev : zv = (v : Int)) (hv : v < 10) : MI O l yX6_isAwake wsX6_isAwake rX6_isAwake [sr 72, si zv] V (fun z V2 => V = V2 ∧ z = bI (gA g v)) := by
  refine mi_of (cc := cX6_isAwake) (nL := 2) (rt := (some .boolean)) (by decide) rfl rfl (Nat.le_of_ble_eq_true rfl) (fun F hF C hQ => ?_)
  subst hF
  subst ev
  change J O F rX6_isAwake 2 V 0 [(0, sr 72), (1, si (v : Int))] []
  refine j_aload_n C dX6_isAwake_0 rfl ?_
  refine j_get (v := sr 73) C 72 0 (by decide) (en_72 _ _) rfl (by decide) (fun w h => List.mem_cons_of_mem _ (List.mem_append_right _ h)) (List.mem_of_getElem? (i := 1) rfl) dX6_isAwake_1 rfl ?_
  refine j_iconst C dX6_isAwake_4 ?_
  refine j_iald C (row_73 O) 3 rfl (by decide) dX6_isAwake_5 ?_
  refine j_top (hg 3 (by omega)) ?_
  refine j_iload_n C dX6_isAwake_6 rfl ?_
  refine j_doI (st := []) (j_runS C (kX6_has (g 3).toNat v ok.a.1 rfl (by have := ok.a.2; omega) (by omega)) ggX6_isAwake_X6_has sgX6_has (List.mem_of_getElem? (i := 2) rfl) (List.mem_of_getElem? (i := 4) rfl) (List.mem_of_getElem? (i := 3) rfl) ⟨by decide, by decide⟩ rfl rfl (Nat.le_of_ble_eq_true rfl) dX6_isAwake_7) (fun z_1 V_2 h_3 => ?_)
  obtain ⟨rfl, rfl⟩ := h_3
  refine j_zret C hQ (bI_or _) dX6_isAwake_10 ?_
  exact ⟨rfl, rfl⟩
def rX6_farOf : Room := { frames := 0, cells := 0, slots := 0, locals := 0 }
theorem sgX6_farOf : sg yX6_farOf wsX6_farOf cX6_farOf 5 (some .int) rX6_farOf 2 := ⟨⟨_, rfl⟩, rfl, rfl, by decide, by decide, by decide +kernel⟩
set_option maxHeartbeats 4000000 in
set_option maxRecDepth 100000 in
theorem kX6_farOf {O : OmT} {l : Launch} {V : Mem} {g : Nat → Int} (hg : mdl V g) {zu : Int} {zv : Int} (u v : Nat) (eu : zu = (u : Int)) (ev : zv = (v : Int)) (hu : u < 10) (hv : v < 10) : MI O l yX6_farOf wsX6_farOf rX6_farOf [sr 72, si zu, si zv] V (fun z V2 => V = V2 ∧ z = gF g u v) := by
  refine mi_of (cc := cX6_farOf) (nL := 5) (rt := (some .int)) (by decide) rfl rfl (Nat.le_of_ble_eq_true rfl) (fun F hF C hQ => ?_)
  subst hF
  subst eu ev
  change J O F rX6_farOf 5 V 0 [(0, sr 72), (1, si (u : Int)), (2, si (v : Int))] []
  refine j_aload_n C dX6_farOf_0 rfl ?_
  refine j_get (v := sr 73) C 72 0 (by decide) (en_72 _ _) rfl (by decide) (fun w h => List.mem_cons_of_mem _ (List.mem_append_right _ h)) (List.mem_of_getElem? (i := 1) rfl) dX6_farOf_1 rfl ?_
  refine j_iconst C dX6_farOf_4 ?_
  refine j_iload_n C dX6_farOf_5 rfl ?_
  refine j_iadd C dX6_farOf_6 ?_
  refine j_iald C (row_73 O) (4 + u) (by omega) (by omega) dX6_farOf_7 ?_
  refine j_top (hg (4 + u) (by omega)) ?_
  refine j_aload_n C dX6_farOf_8 rfl ?_
  refine j_get (v := sr 73) C 72 0 (by decide) (en_72 _ _) rfl (by decide) (fun w h => List.mem_cons_of_mem _ (List.mem_append_right _ h)) (List.mem_of_getElem? (i := 1) rfl) dX6_farOf_9 rfl ?_
  refine j_iconst C dX6_farOf_12 ?_
  refine j_iload_n C dX6_farOf_13 rfl ?_
  refine j_iadd C dX6_farOf_14 ?_
  refine j_iald C (row_73 O) (4 + v) (by omega) (by omega) dX6_farOf_15 ?_
  refine j_top (hg (4 + v) (by omega)) ?_
  refine j_isub C dX6_farOf_16 ?_
  refine j_istore_n (lv' := [(0, sr 72), (1, si (u : Int)), (2, si (v : Int)), (3, si ((g (4 + u)) - (g (4 + v))))]) C dX6_farOf_17 (by decide) rfl ?_
  refine j_aload_n C dX6_farOf_18 rfl ?_
  refine j_get (v := sr 73) C 72 0 (by decide) (en_72 _ _) rfl (by decide) (fun w h => List.mem_cons_of_mem _ (List.mem_append_right _ h)) (List.mem_of_getElem? (i := 1) rfl) dX6_farOf_19 rfl ?_
  refine j_bipush C dX6_farOf_22 (by decide) ?_
  refine j_iload_n C dX6_farOf_24 rfl ?_
  refine j_iadd C dX6_farOf_25 ?_
  refine j_iald C (row_73 O) (14 + u) (by omega) (by omega) dX6_farOf_26 ?_
  refine j_top (hg (14 + u) (by omega)) ?_
  refine j_aload_n C dX6_farOf_27 rfl ?_
  refine j_get (v := sr 73) C 72 0 (by decide) (en_72 _ _) rfl (by decide) (fun w h => List.mem_cons_of_mem _ (List.mem_append_right _ h)) (List.mem_of_getElem? (i := 1) rfl) dX6_farOf_28 rfl ?_
  refine j_bipush C dX6_farOf_31 (by decide) ?_
  refine j_iload_n C dX6_farOf_33 rfl ?_
  refine j_iadd C dX6_farOf_34 ?_
  refine j_iald C (row_73 O) (14 + v) (by omega) (by omega) dX6_farOf_35 ?_
  refine j_top (hg (14 + v) (by omega)) ?_
  refine j_isub C dX6_farOf_36 ?_
  refine j_istore (lv' := [(0, sr 72), (1, si (u : Int)), (2, si (v : Int)), (3, si ((g (4 + u)) - (g (4 + v)))), (4, si ((g (14 + u)) - (g (14 + v))))]) C dX6_farOf_37 (by decide) rfl ?_
  refine j_iload_n C dX6_farOf_39 rfl ?_
  refine j_iload_n C dX6_farOf_40 rfl ?_
  refine j_imul C dX6_farOf_41 ?_
  refine j_iload C dX6_farOf_42 rfl ?_
  refine j_iload C dX6_farOf_44 rfl ?_
  refine j_imul C dX6_farOf_46 ?_
  refine j_iadd C dX6_farOf_47 ?_
  refine j_iret C hQ dX6_farOf_48 ?_
  exact ⟨rfl, rfl⟩
def rX6_areLinked : Room := { frames := 2, cells := 0, slots := 0, locals := 42 }
theorem sgX6_areLinked : sg yX6_areLinked wsX6_areLinked cX6_areLinked 3 (some .boolean) rX6_areLinked 2 := ⟨⟨_, rfl⟩, rfl, rfl, by decide, by decide, by decide +kernel⟩
set_option maxHeartbeats 4000000 in
set_option maxRecDepth 100000 in
theorem kX6_areLinked {O : OmT} {l : Launch} {V : Mem} {g : Nat → Int} (hg : mdl V g) (ok : okg g) {zu : Int} {zv : Int} (u v : Nat) (eu : zu = (u : Int)) (ev : zv = (v : Int)) (hu : u < 10) (hv : v < 10) : MI O l yX6_areLinked wsX6_areLinked rX6_areLinked [sr 72, si zu, si zv] V (fun z V2 => V = V2 ∧ z = bI (gL g u v)) := by
  refine mi_of (cc := cX6_areLinked) (nL := 3) (rt := (some .boolean)) (by decide) rfl rfl (Nat.le_of_ble_eq_true rfl) (fun F hF C hQ => ?_)
  subst hF
  subst eu ev
  change J O F rX6_areLinked 3 V 0 [(0, sr 72), (1, si (u : Int)), (2, si (v : Int))] []
  refine j_iload_n C dX6_areLinked_0 rfl ?_
  refine j_iload_n C dX6_areLinked_1 rfl ?_
  refine j_icmp_eq (tgt := 40) C dX6_areLinked_2 (by decide) (by omega) (by omega) (fun q_1 => ?_) (fun q_1 => ?_)
  · refine j_iconst C dX6_areLinked_40 ?_
    refine j_zret C hQ (by decide) dX6_areLinked_41 ?_
    refine ⟨rfl, ?_⟩
    unfold gL
    simp_all [bI] <;> omega
  · refine j_aload_n C dX6_areLinked_5 rfl ?_
    refine j_iload_n C dX6_areLinked_6 rfl ?_
    refine j_doI (st := []) (j_runV C (kX6_isAwake hg ok u rfl (by omega)) gX6_areLinked_X6_isAwake sgX6_isAwake rfl ⟨by decide, by decide⟩ (by decide) (en_72 _ _) rfl rfl rfl (Nat.le_of_ble_eq_true rfl) dX6_areLinked_7) (fun z_2 V_3 h_4 => ?_)
    obtain ⟨rfl, rfl⟩ := h_4
    refine j_ifb_eq (tgt := 40) C dX6_areLinked_10 (by decide) (fun q_5 => ?_) (fun q_5 => ?_)
    · refine j_iconst C dX6_areLinked_40 ?_
      refine j_zret C hQ (by decide) dX6_areLinked_41 ?_
      refine ⟨rfl, ?_⟩
      unfold gL
      simp_all [bI] <;> omega
    · refine j_aload_n C dX6_areLinked_13 rfl ?_
      refine j_iload_n C dX6_areLinked_14 rfl ?_
      refine j_doI (st := []) (j_runV C (kX6_isAwake hg ok v rfl (by omega)) gX6_areLinked_X6_isAwake sgX6_isAwake rfl ⟨by decide, by decide⟩ (by decide) (en_72 _ _) rfl rfl rfl (Nat.le_of_ble_eq_true rfl) dX6_areLinked_15) (fun z_6 V_7 h_8 => ?_)
      obtain ⟨rfl, rfl⟩ := h_8
      refine j_ifb_eq (tgt := 40) C dX6_areLinked_18 (by decide) (fun q_9 => ?_) (fun q_9 => ?_)
      · refine j_iconst C dX6_areLinked_40 ?_
        refine j_zret C hQ (by decide) dX6_areLinked_41 ?_
        refine ⟨rfl, ?_⟩
        unfold gL
        simp_all [bI] <;> omega
      · refine j_aload_n C dX6_areLinked_21 rfl ?_
        refine j_iload_n C dX6_areLinked_22 rfl ?_
        refine j_iload_n C dX6_areLinked_23 rfl ?_
        refine j_doI (st := []) (j_runV C (kX6_farOf hg u v rfl rfl (by omega) (by omega)) gX6_areLinked_X6_farOf sgX6_farOf rfl ⟨by decide, by decide⟩ (by decide) (en_72 _ _) rfl rfl rfl (Nat.le_of_ble_eq_true rfl) dX6_areLinked_24) (fun z_10 V_11 h_12 => ?_)
        obtain ⟨rfl, rfl⟩ := h_12
        refine j_aload_n C dX6_areLinked_27 rfl ?_
        refine j_get (v := sr 73) C 72 0 (by decide) (en_72 _ _) rfl (by decide) (fun w h => List.mem_cons_of_mem _ (List.mem_append_right _ h)) (List.mem_of_getElem? (i := 1) rfl) dX6_areLinked_28 rfl ?_
        refine j_iconst C dX6_areLinked_31 ?_
        refine j_iald C (row_73 O) 1 rfl (by decide) dX6_areLinked_32 ?_
        refine j_top (hg 1 (by omega)) ?_
        refine j_icmp_gt (tgt := 40) C dX6_areLinked_33 (by decide) (by have := ok.f (u := u) (v := v) (by omega) (by omega); omega) (by have := ok.2.1; omega) (fun q_13 => ?_) (fun q_13 => ?_)
        · refine j_iconst C dX6_areLinked_40 ?_
          refine j_zret C hQ (by decide) dX6_areLinked_41 ?_
          refine ⟨rfl, ?_⟩
          unfold gL
          simp_all [bI] <;> omega
        · refine j_iconst C dX6_areLinked_36 ?_
          refine j_goto (tgt := 41) C dX6_areLinked_37 (by decide) ?_
          refine j_zret C hQ (by decide) dX6_areLinked_41 ?_
          refine ⟨rfl, ?_⟩
          unfold gL
          simp_all [bI] <;> omega
def rX6_side : Room := { frames := 0, cells := 0, slots := 0, locals := 0 }
theorem sgX6_side : sg yX6_side wsX6_side cX6_side 4 (some .int) rX6_side 3 := ⟨⟨_, rfl⟩, rfl, rfl, by decide, by decide, by decide +kernel⟩
set_option maxHeartbeats 4000000 in
set_option maxRecDepth 100000 in
theorem kX6_side {O : OmT} {l : Launch} {V : Mem} {g : Nat → Int} (hg : mdl V g) {za : Int} {zb : Int} {zc : Int} (a b c : Nat) (ea : za = (a : Int)) (eb : zb = (b : Int)) (ec : zc = (c : Int)) (ha : a < 10) (hb : b < 10) (hc : c < 10) : MI O l yX6_side wsX6_side rX6_side [sr 72, si za, si zb, si zc] V (fun z V2 => V = V2 ∧ z = gS g a b c) := by
  refine mi_of (cc := cX6_side) (nL := 4) (rt := (some .int)) (by decide) rfl rfl (Nat.le_of_ble_eq_true rfl) (fun F hF C hQ => ?_)
  subst hF
  subst ea eb ec
  change J O F rX6_side 4 V 0 [(0, sr 72), (1, si (a : Int)), (2, si (b : Int)), (3, si (c : Int))] []
  refine j_aload_n C dX6_side_0 rfl ?_
  refine j_get (v := sr 73) C 72 0 (by decide) (en_72 _ _) rfl (by decide) (fun w h => List.mem_cons_of_mem _ (List.mem_append_right _ h)) (List.mem_of_getElem? (i := 1) rfl) dX6_side_1 rfl ?_
  refine j_iconst C dX6_side_4 ?_
  refine j_iload_n C dX6_side_5 rfl ?_
  refine j_iadd C dX6_side_6 ?_
  refine j_iald C (row_73 O) (4 + b) (by omega) (by omega) dX6_side_7 ?_
  refine j_top (hg (4 + b) (by omega)) ?_
  refine j_aload_n C dX6_side_8 rfl ?_
  refine j_get (v := sr 73) C 72 0 (by decide) (en_72 _ _) rfl (by decide) (fun w h => List.mem_cons_of_mem _ (List.mem_append_right _ h)) (List.mem_of_getElem? (i := 1) rfl) dX6_side_9 rfl ?_
  refine j_iconst C dX6_side_12 ?_
  refine j_iload_n C dX6_side_13 rfl ?_
  refine j_iadd C dX6_side_14 ?_
  refine j_iald C (row_73 O) (4 + a) (by omega) (by omega) dX6_side_15 ?_
  refine j_top (hg (4 + a) (by omega)) ?_
  refine j_isub C dX6_side_16 ?_
  refine j_aload_n C dX6_side_17 rfl ?_
  refine j_get (v := sr 73) C 72 0 (by decide) (en_72 _ _) rfl (by decide) (fun w h => List.mem_cons_of_mem _ (List.mem_append_right _ h)) (List.mem_of_getElem? (i := 1) rfl) dX6_side_18 rfl ?_
  refine j_bipush C dX6_side_21 (by decide) ?_
  refine j_iload_n C dX6_side_23 rfl ?_
  refine j_iadd C dX6_side_24 ?_
  refine j_iald C (row_73 O) (14 + c) (by omega) (by omega) dX6_side_25 ?_
  refine j_top (hg (14 + c) (by omega)) ?_
  refine j_aload_n C dX6_side_26 rfl ?_
  refine j_get (v := sr 73) C 72 0 (by decide) (en_72 _ _) rfl (by decide) (fun w h => List.mem_cons_of_mem _ (List.mem_append_right _ h)) (List.mem_of_getElem? (i := 1) rfl) dX6_side_27 rfl ?_
  refine j_bipush C dX6_side_30 (by decide) ?_
  refine j_iload_n C dX6_side_32 rfl ?_
  refine j_iadd C dX6_side_33 ?_
  refine j_iald C (row_73 O) (14 + a) (by omega) (by omega) dX6_side_34 ?_
  refine j_top (hg (14 + a) (by omega)) ?_
  refine j_isub C dX6_side_35 ?_
  refine j_imul C dX6_side_36 ?_
  refine j_aload_n C dX6_side_37 rfl ?_
  refine j_get (v := sr 73) C 72 0 (by decide) (en_72 _ _) rfl (by decide) (fun w h => List.mem_cons_of_mem _ (List.mem_append_right _ h)) (List.mem_of_getElem? (i := 1) rfl) dX6_side_38 rfl ?_
  refine j_bipush C dX6_side_41 (by decide) ?_
  refine j_iload_n C dX6_side_43 rfl ?_
  refine j_iadd C dX6_side_44 ?_
  refine j_iald C (row_73 O) (14 + b) (by omega) (by omega) dX6_side_45 ?_
  refine j_top (hg (14 + b) (by omega)) ?_
  refine j_aload_n C dX6_side_46 rfl ?_
  refine j_get (v := sr 73) C 72 0 (by decide) (en_72 _ _) rfl (by decide) (fun w h => List.mem_cons_of_mem _ (List.mem_append_right _ h)) (List.mem_of_getElem? (i := 1) rfl) dX6_side_47 rfl ?_
  refine j_bipush C dX6_side_50 (by decide) ?_
  refine j_iload_n C dX6_side_52 rfl ?_
  refine j_iadd C dX6_side_53 ?_
  refine j_iald C (row_73 O) (14 + a) (by omega) (by omega) dX6_side_54 ?_
  refine j_top (hg (14 + a) (by omega)) ?_
  refine j_isub C dX6_side_55 ?_
  refine j_aload_n C dX6_side_56 rfl ?_
  refine j_get (v := sr 73) C 72 0 (by decide) (en_72 _ _) rfl (by decide) (fun w h => List.mem_cons_of_mem _ (List.mem_append_right _ h)) (List.mem_of_getElem? (i := 1) rfl) dX6_side_57 rfl ?_
  refine j_iconst C dX6_side_60 ?_
  refine j_iload_n C dX6_side_61 rfl ?_
  refine j_iadd C dX6_side_62 ?_
  refine j_iald C (row_73 O) (4 + c) (by omega) (by omega) dX6_side_63 ?_
  refine j_top (hg (4 + c) (by omega)) ?_
  refine j_aload_n C dX6_side_64 rfl ?_
  refine j_get (v := sr 73) C 72 0 (by decide) (en_72 _ _) rfl (by decide) (fun w h => List.mem_cons_of_mem _ (List.mem_append_right _ h)) (List.mem_of_getElem? (i := 1) rfl) dX6_side_65 rfl ?_
  refine j_iconst C dX6_side_68 ?_
  refine j_iload_n C dX6_side_69 rfl ?_
  refine j_iadd C dX6_side_70 ?_
  refine j_iald C (row_73 O) (4 + a) (by omega) (by omega) dX6_side_71 ?_
  refine j_top (hg (4 + a) (by omega)) ?_
  refine j_isub C dX6_side_72 ?_
  refine j_imul C dX6_side_73 ?_
  refine j_isub C dX6_side_74 ?_
  refine j_iret C hQ dX6_side_75 ?_
  exact ⟨rfl, rfl⟩
