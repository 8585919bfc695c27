def rX3_isBetween : Room := { frames := 1, cells := 0, slots := 0, locals := 24 }
theorem sgX3_isBetween : sg yX3_isBetween wsX3_isBetween cX3_isBetween 7 (some .boolean) rX3_isBetween 3 := ⟨⟨_, rfl⟩, rfl, rfl, by decide, by decide, by decide +kernel⟩
set_option maxHeartbeats 4000000 in
set_option maxRecDepth 100000 in
theorem kX3_isBetween {O : OmT} {l : Launch} {V : Mem} {g : Nat → Int} (hc : cls V g) (ok : okg g) {zu : Int} {zv : Int} {zw : Int} (u v w : Nat) (eu : zu = (u : Int)) (ev : zv = (v : Int)) (ew : zw = (w : Int)) (hu : u < 10) (hv : v < 10) (hw : w < 10) : MI O l yX3_isBetween wsX3_isBetween rX3_isBetween [sr 4, si zu, si zv, si zw] V (fun z V2 => V = V2 ∧ z = bI (gB g u v w)) := by
  refine mi_of (cc := cX3_isBetween) (nL := 7) (rt := (some .boolean)) (by decide) rfl rfl (Nat.le_of_ble_eq_true rfl) (fun F hF C hQ => ?_)
  subst hF
  subst eu ev ew
  change J O F rX3_isBetween 7 V 0 [(0, sr 4), (1, si (u : Int)), (2, si (v : Int)), (3, si (w : Int))] []
  refine j_aload_n C dX3_isBetween_0 rfl ?_
  refine j_get (v := sr 1) C 4 0 (by decide) (en_4 _ _) rfl (by decide) (fun w h => List.mem_cons_of_mem _ (List.mem_append_left _ (List.mem_append_right _ h))) (List.mem_of_getElem? (i := 1) rfl) dX3_isBetween_1 rfl ?_
  refine j_iload_n C dX3_isBetween_4 rfl ?_
  refine j_iload_n C dX3_isBetween_5 rfl ?_
  refine j_doI (st := []) (j_runVN C (kX1_apart hc u v rfl rfl (by omega) (by omega)) ggX3_isBetween_X1_apart sgX1_apart rfl (List.mem_of_getElem? (i := 11) rfl) (List.mem_of_getElem? (i := 3) rfl) (List.mem_of_getElem? (i := 2) rfl) (List.mem_of_getElem? (i := 4) rfl) ⟨by decide, by decide⟩ (by decide) (en_G (c := 1) (by decide) _) rfl rfl rfl (Nat.le_of_ble_eq_true rfl) dX3_isBetween_6) (fun z_1 V_2 h_3 => ?_)
  obtain ⟨rfl, rfl⟩ := h_3
  refine j_istore (lv' := [(0, sr 4), (1, si (u : Int)), (2, si (v : Int)), (3, si (w : Int)), (4, si (gF g u v))]) C dX3_isBetween_9 (by decide) rfl ?_
  refine j_aload_n C dX3_isBetween_11 rfl ?_
  refine j_get (v := sr 1) C 4 0 (by decide) (en_4 _ _) rfl (by decide) (fun w h => List.mem_cons_of_mem _ (List.mem_append_left _ (List.mem_append_right _ h))) (List.mem_of_getElem? (i := 1) rfl) dX3_isBetween_12 rfl ?_
  refine j_iload_n C dX3_isBetween_15 rfl ?_
  refine j_iload_n C dX3_isBetween_16 rfl ?_
  refine j_doI (st := []) (j_runVN C (kX1_apart hc u w rfl rfl (by omega) (by omega)) ggX3_isBetween_X1_apart sgX1_apart rfl (List.mem_of_getElem? (i := 11) rfl) (List.mem_of_getElem? (i := 3) rfl) (List.mem_of_getElem? (i := 2) rfl) (List.mem_of_getElem? (i := 4) rfl) ⟨by decide, by decide⟩ (by decide) (en_G (c := 1) (by decide) _) rfl rfl rfl (Nat.le_of_ble_eq_true rfl) dX3_isBetween_17) (fun z_4 V_5 h_6 => ?_)
  obtain ⟨rfl, rfl⟩ := h_6
  refine j_istore (lv' := [(0, sr 4), (1, si (u : Int)), (2, si (v : Int)), (3, si (w : Int)), (4, si (gF g u v)), (5, si (gF g u w))]) C dX3_isBetween_20 (by decide) rfl ?_
  refine j_aload_n C dX3_isBetween_22 rfl ?_
  refine j_get (v := sr 1) C 4 0 (by decide) (en_4 _ _) rfl (by decide) (fun w h => List.mem_cons_of_mem _ (List.mem_append_left _ (List.mem_append_right _ h))) (List.mem_of_getElem? (i := 1) rfl) dX3_isBetween_23 rfl ?_
  refine j_iload_n C dX3_isBetween_26 rfl ?_
  refine j_iload_n C dX3_isBetween_27 rfl ?_
  refine j_doI (st := []) (j_runVN C (kX1_apart hc w v rfl rfl (by omega) (by omega)) ggX3_isBetween_X1_apart sgX1_apart rfl (List.mem_of_getElem? (i := 11) rfl) (List.mem_of_getElem? (i := 3) rfl) (List.mem_of_getElem? (i := 2) rfl) (List.mem_of_getElem? (i := 4) rfl) ⟨by decide, by decide⟩ (by decide) (en_G (c := 1) (by decide) _) rfl rfl rfl (Nat.le_of_ble_eq_true rfl) dX3_isBetween_28) (fun z_7 V_8 h_9 => ?_)
  obtain ⟨rfl, rfl⟩ := h_9
  refine j_istore (lv' := [(0, sr 4), (1, si (u : Int)), (2, si (v : Int)), (3, si (w : Int)), (4, si (gF g u v)), (5, si (gF g u w)), (6, si (gF g w v))]) C dX3_isBetween_31 (by decide) rfl ?_
  refine j_aload_n C dX3_isBetween_33 rfl ?_
  refine j_get (v := sr 1) C 4 0 (by decide) (en_4 _ _) rfl (by decide) (fun w h => List.mem_cons_of_mem _ (List.mem_append_left _ (List.mem_append_right _ h))) (List.mem_of_getElem? (i := 1) rfl) dX3_isBetween_34 rfl ?_
  refine j_getN (v := si (V 1 5)) C 1 5 (by decide) (en_G (c := 1) (by decide) _) rfl (by decide) (fun w h => List.mem_cons_of_mem _ (List.mem_append_right _ h)) (List.mem_of_getElem? (i := 13) rfl) dX3_isBetween_37 rfl ?_
  refine j_top hc.2.2.2.1 ?_
  refine j_if_ne (tgt := 61) C dX3_isBetween_40 (by decide) (by have := ok.2.2.1; omega) (fun q_10 => ?_) (fun q_10 => ?_)
  · refine j_iload C dX3_isBetween_61 rfl ?_
    refine j_iload C dX3_isBetween_63 rfl ?_
    refine j_icmp_ge (tgt := 79) C dX3_isBetween_65 (by decide) (by have := ok.f (u := u) (v := w) (by omega) (by omega); omega) (by have := ok.f (u := u) (v := v) (by omega) (by omega); omega) (fun q_11 => ?_) (fun q_11 => ?_)
    · refine j_iconst C dX3_isBetween_79 ?_
      refine j_zret C hQ (by decide) dX3_isBetween_80 ?_
      refine ⟨rfl, ?_⟩
      unfold gB
      simp_all [bI] <;> omega
    · refine j_iload C dX3_isBetween_68 rfl ?_
      refine j_iload C dX3_isBetween_70 rfl ?_
      refine j_icmp_ge (tgt := 79) C dX3_isBetween_72 (by decide) (by have := ok.f (u := w) (v := v) (by omega) (by omega); omega) (by have := ok.f (u := u) (v := v) (by omega) (by omega); omega) (fun q_12 => ?_) (fun q_12 => ?_)
      · refine j_iconst C dX3_isBetween_79 ?_
        refine j_zret C hQ (by decide) dX3_isBetween_80 ?_
        refine ⟨rfl, ?_⟩
        unfold gB
        simp_all [bI] <;> omega
      · refine j_iconst C dX3_isBetween_75 ?_
        refine j_goto (tgt := 80) C dX3_isBetween_76 (by decide) ?_
        refine j_zret C hQ (by decide) dX3_isBetween_80 ?_
        refine ⟨rfl, ?_⟩
        unfold gB
        simp_all [bI] <;> omega
  · refine j_iload C dX3_isBetween_43 rfl ?_
    refine j_iload C dX3_isBetween_45 rfl ?_
    refine j_iadd C dX3_isBetween_47 ?_
    refine j_iload C dX3_isBetween_48 rfl ?_
    refine j_icmp_gt (tgt := 57) C dX3_isBetween_50 (by decide) (by have := ok.f (u := u) (v := w) (by omega) (by omega); have := ok.f (u := w) (v := v) (by omega) (by omega); omega) (by have := ok.f (u := u) (v := v) (by omega) (by omega); omega) (fun q_13 => ?_) (fun q_13 => ?_)
    · refine j_iconst C dX3_isBetween_57 ?_
      refine j_goto (tgt := 80) C dX3_isBetween_58 (by decide) ?_
      refine j_zret C hQ (by decide) dX3_isBetween_80 ?_
      refine ⟨rfl, ?_⟩
      unfold gB
      simp_all [bI] <;> omega
    · refine j_iconst C dX3_isBetween_53 ?_
      refine j_goto (tgt := 80) C dX3_isBetween_54 (by decide) ?_
      refine j_zret C hQ (by decide) dX3_isBetween_80 ?_
      refine ⟨rfl, ?_⟩
      unfold gB
      simp_all [bI] <;> omega
def rX3_areNear : Room := { frames := 2, cells := 0, slots := 0, locals := 42 }
theorem sgX3_areNear : sg yX3_areNear wsX3_areNear cX3_areNear 3 (some .boolean) rX3_areNear 2 := ⟨⟨_, rfl⟩, rfl, rfl, by decide, by decide, by decide +kernel⟩
set_option maxHeartbeats 4000000 in
set_option maxRecDepth 100000 in
theorem kX3_areNear {O : OmT} {l : Launch} {V : Mem} {g : Nat → Int} (hc : cls V g) (ok : okg g) {zu : Int} {zv : Int} (u v : Nat) (eu : zu = (u : Int)) (ev : zv = (v : Int)) (hu : u < 10) (hv : v < 10) (huv : u ≠ v) : MI O l yX3_areNear wsX3_areNear rX3_areNear [sr 4, si zu, si zv] V (fun z V2 => V = V2 ∧ z = bI (gL g u v)) := by
  refine mi_of (cc := cX3_areNear) (nL := 3) (rt := (some .boolean)) (by decide) rfl rfl (Nat.le_of_ble_eq_true rfl) (fun F hF C hQ => ?_)
  subst hF
  subst eu ev
  change J O F rX3_areNear 3 V 0 [(0, sr 4), (1, si (u : Int)), (2, si (v : Int))] []
  refine j_aload_n C dX3_areNear_0 rfl ?_
  refine j_get (v := sr 1) C 4 0 (by decide) (en_4 _ _) rfl (by decide) (fun w h => List.mem_cons_of_mem _ (List.mem_append_left _ (List.mem_append_right _ h))) (List.mem_of_getElem? (i := 1) rfl) dX3_areNear_1 rfl ?_
  refine j_iload_n C dX3_areNear_4 rfl ?_
  refine j_doI (st := []) (j_runVN C (kX1_isAwake hc ok (u : Int) (by omega)) ggX3_areNear_X1_isAwake sgX1_isAwake rfl (List.mem_of_getElem? (i := 13) rfl) (List.mem_of_getElem? (i := 3) rfl) (List.mem_of_getElem? (i := 2) rfl) (List.mem_of_getElem? (i := 4) rfl) ⟨by decide, by decide⟩ (by decide) (en_G (c := 1) (by decide) _) rfl rfl rfl (Nat.le_of_ble_eq_true rfl) dX3_areNear_5) (fun z_1 V_2 h_3 => ?_)
  obtain ⟨rfl, rfl⟩ := h_3
  refine j_top (b := bI (gA g u)) (by simp) ?_
  refine j_ifb_eq (tgt := 45) C dX3_areNear_8 (by decide) (fun q_4 => ?_) (fun q_4 => ?_)
  · refine j_iconst C dX3_areNear_45 ?_
    refine j_zret C hQ (by decide) dX3_areNear_46 ?_
    refine ⟨rfl, ?_⟩
    unfold gL
    simp_all [bI] <;> omega
  · refine j_aload_n C dX3_areNear_11 rfl ?_
    refine j_get (v := sr 1) C 4 0 (by decide) (en_4 _ _) rfl (by decide) (fun w h => List.mem_cons_of_mem _ (List.mem_append_left _ (List.mem_append_right _ h))) (List.mem_of_getElem? (i := 1) rfl) dX3_areNear_12 rfl ?_
    refine j_iload_n C dX3_areNear_15 rfl ?_
    refine j_doI (st := []) (j_runVN C (kX1_isAwake hc ok (v : Int) (by omega)) ggX3_areNear_X1_isAwake sgX1_isAwake rfl (List.mem_of_getElem? (i := 13) rfl) (List.mem_of_getElem? (i := 3) rfl) (List.mem_of_getElem? (i := 2) rfl) (List.mem_of_getElem? (i := 4) rfl) ⟨by decide, by decide⟩ (by decide) (en_G (c := 1) (by decide) _) rfl rfl rfl (Nat.le_of_ble_eq_true rfl) dX3_areNear_16) (fun z_5 V_6 h_7 => ?_)
    obtain ⟨rfl, rfl⟩ := h_7
    refine j_top (b := bI (gA g v)) (by simp) ?_
    refine j_ifb_eq (tgt := 45) C dX3_areNear_19 (by decide) (fun q_8 => ?_) (fun q_8 => ?_)
    · refine j_iconst C dX3_areNear_45 ?_
      refine j_zret C hQ (by decide) dX3_areNear_46 ?_
      refine ⟨rfl, ?_⟩
      unfold gL
      simp_all [bI] <;> omega
    · refine j_aload_n C dX3_areNear_22 rfl ?_
      refine j_get (v := sr 1) C 4 0 (by decide) (en_4 _ _) rfl (by decide) (fun w h => List.mem_cons_of_mem _ (List.mem_append_left _ (List.mem_append_right _ h))) (List.mem_of_getElem? (i := 1) rfl) dX3_areNear_23 rfl ?_
      refine j_iload_n C dX3_areNear_26 rfl ?_
      refine j_iload_n C dX3_areNear_27 rfl ?_
      refine j_doI (st := []) (j_runVN C (kX1_apart hc u v rfl rfl (by omega) (by omega)) ggX3_areNear_X1_apart sgX1_apart rfl (List.mem_of_getElem? (i := 11) rfl) (List.mem_of_getElem? (i := 3) rfl) (List.mem_of_getElem? (i := 15) rfl) (List.mem_of_getElem? (i := 16) rfl) ⟨by decide, by decide⟩ (by decide) (en_G (c := 1) (by decide) _) rfl rfl rfl (Nat.le_of_ble_eq_true rfl) dX3_areNear_28) (fun z_9 V_10 h_11 => ?_)
      obtain ⟨rfl, rfl⟩ := h_11
      refine j_aload_n C dX3_areNear_31 rfl ?_
      refine j_get (v := sr 1) C 4 0 (by decide) (en_4 _ _) rfl (by decide) (fun w h => List.mem_cons_of_mem _ (List.mem_append_left _ (List.mem_append_right _ h))) (List.mem_of_getElem? (i := 1) rfl) dX3_areNear_32 rfl ?_
      refine j_getN (v := si (V 1 4)) C 1 4 (by decide) (en_G (c := 1) (by decide) _) rfl (by decide) (fun w h => List.mem_cons_of_mem _ (List.mem_append_right _ h)) (List.mem_of_getElem? (i := 11) rfl) dX3_areNear_35 rfl ?_
      refine j_top hc.2.2.1 ?_
      refine j_icmp_gt (tgt := 45) C dX3_areNear_38 (by decide) (by have := ok.f (u := u) (v := v) (by omega) (by omega); omega) (by have := ok.2.1; omega) (fun q_12 => ?_) (fun q_12 => ?_)
      · refine j_iconst C dX3_areNear_45 ?_
        refine j_zret C hQ (by decide) dX3_areNear_46 ?_
        refine ⟨rfl, ?_⟩
        unfold gL
        simp_all [bI] <;> omega
      · refine j_iconst C dX3_areNear_41 ?_
        refine j_goto (tgt := 46) C dX3_areNear_42 (by decide) ?_
        refine j_zret C hQ (by decide) dX3_areNear_46 ?_
        refine ⟨rfl, ?_⟩
        unfold gL
        simp_all [bI] <;> omega
def rX3_isClear : Room := { frames := 2, cells := 0, slots := 0, locals := 50 }
theorem sgX3_isClear : sg yX3_isClear wsX3_isClear cX3_isClear 4 (some .boolean) rX3_isClear 2 := ⟨⟨_, rfl⟩, rfl, rfl, by decide, by decide, by decide +kernel⟩
set_option maxHeartbeats 4000000 in
set_option maxRecDepth 100000 in
theorem lpX3_isClear {O : OmT} {F : PhT} {V : Mem} {g : Nat → Int} {post : Int → Mem → Prop} (C : cx O F RX3 cX3_isClear 4 (some .boolean) wsX3_isClear) (hQ : qI O F post) (hc : cls V g) (ok : okg g) {u v : Nat} (hu : u < 10) (hv : v < 10) (hpo : post (bI (gKs g u v (gN g))) V) : ∀ (fuel : Nat) (w : Nat), (w ≤ gN g) → (gKs g u v w = true) → gN g - w < fuel → J O F rX3_isClear 4 V 2 [(0, sr 4), (1, si (u : Int)), (2, si (v : Int)), (3, si (w : Int))] [] := by
  intro fuel
  induction fuel with
  | zero => intro w hw hw2 hf; exact absurd hf (Nat.not_lt_zero _)
  | succ fuel ih =>
    intro w hw hw2 hf
    have n1 := ok.n
    refine j_iload_n C dX3_isClear_2 rfl ?_
    refine j_aload_n C dX3_isClear_3 rfl ?_
    refine j_get (v := sr 1) C 4 0 (by decide) (en_4 _ _) rfl (by decide) (fun w h => List.mem_cons_of_mem _ (List.mem_append_left _ (List.mem_append_right _ h))) (List.mem_of_getElem? (i := 1) rfl) dX3_isClear_4 rfl ?_
    refine j_getN (v := si (V 1 2)) C 1 2 (by decide) (en_G (c := 1) (by decide) _) rfl (by decide) (fun w h => List.mem_cons_of_mem _ (List.mem_append_right _ h)) (List.mem_of_getElem? (i := 6) rfl) dX3_isClear_7 rfl ?_
    refine j_top hc.1 ?_
    refine j_icmp_ge (tgt := 52) C dX3_isClear_10 (by decide) (by omega) (by have := ok.1; omega) (fun q_1 => ?_) (fun q_1 => ?_)
    · refine j_iconst C dX3_isClear_52 ?_
      refine j_zret C hQ (by decide) dX3_isClear_53 ?_
      first
        | (have e : w = gN g := by omega
           subst e; rw [hw2] at hpo; exact hpo)
        | (have e : gKs g u v (gN g) = false := by
             cases h9 : gKs g u v (gN g) with
             | false => rfl
             | true =>
               have h8 := gKs_mono (show w + 1 ≤ gN g by omega) h9
               rw [show gKs g u v (w + 1) = (gKs g u v w && gK g u v w) from rfl] at h8
               unfold gK at h8
               simp_all <;> omega
           rw [e] at hpo; exact hpo)
    · refine j_iload_n C dX3_isClear_13 rfl ?_
      refine j_iload_n C dX3_isClear_14 rfl ?_
      refine j_icmp_eq (tgt := 46) C dX3_isClear_15 (by decide) (by omega) (by omega) (fun q_2 => ?_) (fun q_2 => ?_)
      · refine j_iinc (lv' := [(0, sr 4), (1, si (u : Int)), (2, si (v : Int)), (3, si ((w : Int) + 1))]) C dX3_isClear_46 rfl (by decide) rfl ?_
        refine j_goto (tgt := 2) C dX3_isClear_49 (by decide) ?_
        exact ih (w + 1) (by omega) (by rw [show gKs g u v (w + 1) = (gKs g u v w && gK g u v w) from rfl, hw2]; unfold gK; simp_all <;> omega) (by omega)
      · refine j_iload_n C dX3_isClear_18 rfl ?_
        refine j_iload_n C dX3_isClear_19 rfl ?_
        refine j_icmp_eq (tgt := 46) C dX3_isClear_20 (by decide) (by omega) (by omega) (fun q_3 => ?_) (fun q_3 => ?_)
        · refine j_iinc (lv' := [(0, sr 4), (1, si (u : Int)), (2, si (v : Int)), (3, si ((w : Int) + 1))]) C dX3_isClear_46 rfl (by decide) rfl ?_
          refine j_goto (tgt := 2) C dX3_isClear_49 (by decide) ?_
          exact ih (w + 1) (by omega) (by rw [show gKs g u v (w + 1) = (gKs g u v w && gK g u v w) from rfl, hw2]; unfold gK; simp_all <;> omega) (by omega)
        · refine j_aload_n C dX3_isClear_23 rfl ?_
          refine j_get (v := sr 1) C 4 0 (by decide) (en_4 _ _) rfl (by decide) (fun w h => List.mem_cons_of_mem _ (List.mem_append_left _ (List.mem_append_right _ h))) (List.mem_of_getElem? (i := 1) rfl) dX3_isClear_24 rfl ?_
          refine j_iload_n C dX3_isClear_27 rfl ?_
          refine j_doI (st := []) (j_runVN C (kX1_isAwake hc ok (w : Int) (by omega)) ggX3_isClear_X1_isAwake sgX1_isAwake rfl (List.mem_of_getElem? (i := 13) rfl) (List.mem_of_getElem? (i := 3) rfl) (List.mem_of_getElem? (i := 2) rfl) (List.mem_of_getElem? (i := 4) rfl) ⟨by decide, by decide⟩ (by decide) (en_G (c := 1) (by decide) _) rfl rfl rfl (Nat.le_of_ble_eq_true rfl) dX3_isClear_28) (fun z_4 V_5 h_6 => ?_)
          obtain ⟨rfl, rfl⟩ := h_6
          refine j_top (b := bI (gA g w)) (by simp) ?_
          refine j_ifb_eq (tgt := 46) C dX3_isClear_31 (by decide) (fun q_7 => ?_) (fun q_7 => ?_)
          · refine j_iinc (lv' := [(0, sr 4), (1, si (u : Int)), (2, si (v : Int)), (3, si ((w : Int) + 1))]) C dX3_isClear_46 rfl (by decide) rfl ?_
            refine j_goto (tgt := 2) C dX3_isClear_49 (by decide) ?_
            exact ih (w + 1) (by omega) (by rw [show gKs g u v (w + 1) = (gKs g u v w && gK g u v w) from rfl, hw2]; unfold gK; simp_all <;> omega) (by omega)
          · refine j_aload_n C dX3_isClear_34 rfl ?_
            refine j_iload_n C dX3_isClear_35 rfl ?_
            refine j_iload_n C dX3_isClear_36 rfl ?_
            refine j_iload_n C dX3_isClear_37 rfl ?_
            refine j_doI (st := []) (j_runV C (kX3_isBetween hc ok u v w rfl rfl rfl (by omega) (by omega) (by omega)) gX3_isClear_X3_isBetween sgX3_isBetween rfl ⟨by decide, by decide⟩ (by decide) (en_4 _ _) rfl rfl rfl (Nat.le_of_ble_eq_true rfl) dX3_isClear_38) (fun z_8 V_9 h_10 => ?_)
            obtain ⟨rfl, rfl⟩ := h_10
            refine j_ifb_eq (tgt := 46) C dX3_isClear_41 (by decide) (fun q_11 => ?_) (fun q_11 => ?_)
            · refine j_iinc (lv' := [(0, sr 4), (1, si (u : Int)), (2, si (v : Int)), (3, si ((w : Int) + 1))]) C dX3_isClear_46 rfl (by decide) rfl ?_
              refine j_goto (tgt := 2) C dX3_isClear_49 (by decide) ?_
              exact ih (w + 1) (by omega) (by rw [show gKs g u v (w + 1) = (gKs g u v w && gK g u v w) from rfl, hw2]; unfold gK; simp_all <;> omega) (by omega)
            · refine j_iconst C dX3_isClear_44 ?_
              refine j_zret C hQ (by decide) dX3_isClear_45 ?_
              first
                | (have e : w = gN g := by omega
                   subst e; rw [hw2] at hpo; exact hpo)
                | (have e : gKs g u v (gN g) = false := by
                     cases h9 : gKs g u v (gN g) with
                     | false => rfl
                     | true =>
                       have h8 := gKs_mono (show w + 1 ≤ gN g by omega) h9
                       rw [show gKs g u v (w + 1) = (gKs g u v w && gK g u v w) from rfl] at h8
                       unfold gK at h8
                       simp_all <;> omega
                   rw [e] at hpo; exact hpo)
set_option maxHeartbeats 4000000 in
set_option maxRecDepth 100000 in
theorem kX3_isClear {O : OmT} {l : Launch} {V : Mem} {g : Nat → Int} (hc : cls V g) (ok : okg g) {zu : Int} {zv : Int} (u v : Nat) (eu : zu = (u : Int)) (ev : zv = (v : Int)) (hu : u < 10) (hv : v < 10) : MI O l yX3_isClear wsX3_isClear rX3_isClear [sr 4, si zu, si zv] V (fun z V2 => V = V2 ∧ z = bI (gKs g u v (gN g))) := by
  refine mi_of (cc := cX3_isClear) (nL := 4) (rt := (some .boolean)) (by decide) rfl rfl (Nat.le_of_ble_eq_true rfl) (fun F hF C hQ => ?_)
  subst hF
  subst eu ev
  change J O F rX3_isClear 4 V 0 [(0, sr 4), (1, si (u : Int)), (2, si (v : Int))] []
  refine j_iconst C dX3_isClear_0 ?_
  refine j_istore_n (lv' := [(0, sr 4), (1, si (u : Int)), (2, si (v : Int)), (3, si 0)]) C dX3_isClear_1 (by decide) rfl ?_
  exact lpX3_isClear C hQ hc ok hu hv ⟨rfl, rfl⟩ _ 0 (Nat.zero_le _) rfl (Nat.lt_succ_self _)
def rX3_isHalfRound : Room := { frames := 1, cells := 0, slots := 0, locals := 23 }
theorem sgX3_isHalfRound : sg yX3_isHalfRound wsX3_isHalfRound cX3_isHalfRound 5 (some .boolean) rX3_isHalfRound 3 := ⟨⟨_, rfl⟩, rfl, rfl, by decide, by decide, by decide +kernel⟩
set_option maxHeartbeats 4000000 in
set_option maxRecDepth 100000 in
theorem kX3_isHalfRound {O : OmT} {l : Launch} {V : Mem} {g : Nat → Int} (hc : cls V g) (ok : okg g) {zu : Int} {zp : Int} {zw : Int} (u p w : Nat) (eu : zu = (u : Int)) (ep : zp = (p : Int)) (ew : zw = (w : Int)) (hu : u < 10) (hp : p < 10) (hw : w < 10) : MI O l yX3_isHalfRound wsX3_isHalfRound rX3_isHalfRound [sr 4, si zu, si zp, si zw] V (fun z V2 => V = V2 ∧ z = bI (gBh g u p w)) := by
  refine mi_of (cc := cX3_isHalfRound) (nL := 5) (rt := (some .boolean)) (by decide) rfl rfl (Nat.le_of_ble_eq_true rfl) (fun F hF C hQ => ?_)
  subst hF
  subst eu ep ew
  change J O F rX3_isHalfRound 5 V 0 [(0, sr 4), (1, si (u : Int)), (2, si (p : Int)), (3, si (w : Int))] []
  refine j_aload_n C dX3_isHalfRound_0 rfl ?_
  refine j_get (v := sr 1) C 4 0 (by decide) (en_4 _ _) rfl (by decide) (fun w h => List.mem_cons_of_mem _ (List.mem_append_left _ (List.mem_append_right _ h))) (List.mem_of_getElem? (i := 1) rfl) dX3_isHalfRound_1 rfl ?_
  refine j_iload_n C dX3_isHalfRound_4 rfl ?_
  refine j_iload_n C dX3_isHalfRound_5 rfl ?_
  refine j_iload_n C dX3_isHalfRound_6 rfl ?_
  refine j_doI (st := []) (j_runVN C (kX1_sideOf hc u p w rfl rfl rfl (by omega) (by omega) (by omega)) ggX3_isHalfRound_X1_sideOf sgX1_sideOf rfl (List.mem_of_getElem? (i := 9) rfl) (List.mem_of_getElem? (i := 3) rfl) (List.mem_of_getElem? (i := 2) rfl) (List.mem_of_getElem? (i := 4) rfl) ⟨by decide, by decide⟩ (by decide) (en_G (c := 1) (by decide) _) rfl rfl rfl (Nat.le_of_ble_eq_true rfl) dX3_isHalfRound_7) (fun z_1 V_2 h_3 => ?_)
  obtain ⟨rfl, rfl⟩ := h_3
  refine j_istore (lv' := [(0, sr 4), (1, si (u : Int)), (2, si (p : Int)), (3, si (w : Int)), (4, si (gS g u p w))]) C dX3_isHalfRound_10 (by decide) rfl ?_
  refine j_iload C dX3_isHalfRound_12 rfl ?_
  refine j_if_lt (tgt := 35) C dX3_isHalfRound_14 (by decide) (by have := ok.s (a := u) (b := p) (c := w) (by omega) (by omega) (by omega); omega) (fun q_4 => ?_) (fun q_4 => ?_)
  · refine j_iconst C dX3_isHalfRound_35 ?_
    refine j_goto (tgt := 40) C dX3_isHalfRound_36 (by decide) ?_
    refine j_zret C hQ (by decide) dX3_isHalfRound_40 ?_
    refine ⟨rfl, ?_⟩
    unfold gBh
    simp_all [bI] <;> omega
  · refine j_iload C dX3_isHalfRound_17 rfl ?_
    refine j_if_ne (tgt := 39) C dX3_isHalfRound_19 (by decide) (by have := ok.s (a := u) (b := p) (c := w) (by omega) (by omega) (by omega); omega) (fun q_5 => ?_) (fun q_5 => ?_)
    · refine j_iconst C dX3_isHalfRound_39 ?_
      refine j_zret C hQ (by decide) dX3_isHalfRound_40 ?_
      refine ⟨rfl, ?_⟩
      unfold gBh
      simp_all [bI] <;> omega
    · refine j_aload_n C dX3_isHalfRound_22 rfl ?_
      refine j_get (v := sr 1) C 4 0 (by decide) (en_4 _ _) rfl (by decide) (fun w h => List.mem_cons_of_mem _ (List.mem_append_left _ (List.mem_append_right _ h))) (List.mem_of_getElem? (i := 1) rfl) dX3_isHalfRound_23 rfl ?_
      refine j_iload_n C dX3_isHalfRound_26 rfl ?_
      refine j_iload_n C dX3_isHalfRound_27 rfl ?_
      refine j_iload_n C dX3_isHalfRound_28 rfl ?_
      refine j_doI (st := []) (j_runVN C (kX1_aheadOf hc u p w rfl rfl rfl (by omega) (by omega) (by omega)) ggX3_isHalfRound_X1_aheadOf sgX1_aheadOf rfl (List.mem_of_getElem? (i := 10) rfl) (List.mem_of_getElem? (i := 3) rfl) (List.mem_of_getElem? (i := 8) rfl) (List.mem_of_getElem? (i := 9) rfl) ⟨by decide, by decide⟩ (by decide) (en_G (c := 1) (by decide) _) rfl rfl rfl (Nat.le_of_ble_eq_true rfl) dX3_isHalfRound_29) (fun z_6 V_7 h_8 => ?_)
      obtain ⟨rfl, rfl⟩ := h_8
      refine j_if_ge (tgt := 39) C dX3_isHalfRound_32 (by decide) (by have := ok.d (a := u) (b := p) (c := w) (by omega) (by omega) (by omega); omega) (fun q_9 => ?_) (fun q_9 => ?_)
      · refine j_iconst C dX3_isHalfRound_39 ?_
        refine j_zret C hQ (by decide) dX3_isHalfRound_40 ?_
        refine ⟨rfl, ?_⟩
        unfold gBh
        simp_all [bI] <;> omega
      · refine j_iconst C dX3_isHalfRound_35 ?_
        refine j_goto (tgt := 40) C dX3_isHalfRound_36 (by decide) ?_
        refine j_zret C hQ (by decide) dX3_isHalfRound_40 ?_
        refine ⟨rfl, ?_⟩
        unfold gBh
        simp_all [bI] <;> omega
def rX3_isSooner : Room := { frames := 1, cells := 0, slots := 0, locals := 24 }
theorem sgX3_isSooner : sg yX3_isSooner wsX3_isSooner cX3_isSooner 5 (some .boolean) rX3_isSooner 3 := ⟨⟨_, rfl⟩, rfl, rfl, by decide, by decide, by decide +kernel⟩
set_option maxHeartbeats 4000000 in
set_option maxRecDepth 100000 in
theorem kX3_isSooner {O : OmT} {l : Launch} {V : Mem} {g : Nat → Int} (hc : cls V g) (ok : okg g) {zu : Int} {zw : Int} {zf : Int} (u w f : Nat) (eu : zu = (u : Int)) (ew : zw = (w : Int)) (ef : zf = (f : Int)) (hu : u < 10) (hw : w < 10) (hf : f < 10) : MI O l yX3_isSooner wsX3_isSooner rX3_isSooner [sr 4, si zu, si zw, si zf] V (fun z V2 => V = V2 ∧ z = bI (gSo g u w f)) := by
  refine mi_of (cc := cX3_isSooner) (nL := 5) (rt := (some .boolean)) (by decide) rfl rfl (Nat.le_of_ble_eq_true rfl) (fun F hF C hQ => ?_)
  subst hF
  subst eu ew ef
  change J O F rX3_isSooner 5 V 0 [(0, sr 4), (1, si (u : Int)), (2, si (w : Int)), (3, si (f : Int))] []
  refine j_aload_n C dX3_isSooner_0 rfl ?_
  refine j_get (v := sr 1) C 4 0 (by decide) (en_4 _ _) rfl (by decide) (fun w h => List.mem_cons_of_mem _ (List.mem_append_left _ (List.mem_append_right _ h))) (List.mem_of_getElem? (i := 1) rfl) dX3_isSooner_1 rfl ?_
  refine j_iload_n C dX3_isSooner_4 rfl ?_
  refine j_iload_n C dX3_isSooner_5 rfl ?_
  refine j_iload_n C dX3_isSooner_6 rfl ?_
  refine j_doI (st := []) (j_runVN C (kX1_sideOf hc u w f rfl rfl rfl (by omega) (by omega) (by omega)) ggX3_isSooner_X1_sideOf sgX1_sideOf rfl (List.mem_of_getElem? (i := 9) rfl) (List.mem_of_getElem? (i := 3) rfl) (List.mem_of_getElem? (i := 2) rfl) (List.mem_of_getElem? (i := 4) rfl) ⟨by decide, by decide⟩ (by decide) (en_G (c := 1) (by decide) _) rfl rfl rfl (Nat.le_of_ble_eq_true rfl) dX3_isSooner_7) (fun z_1 V_2 h_3 => ?_)
  obtain ⟨rfl, rfl⟩ := h_3
  refine j_istore (lv' := [(0, sr 4), (1, si (u : Int)), (2, si (w : Int)), (3, si (f : Int)), (4, si (gS g u w f))]) C dX3_isSooner_10 (by decide) rfl ?_
  refine j_iload C dX3_isSooner_12 rfl ?_
  refine j_if_gt (tgt := 43) C dX3_isSooner_14 (by decide) (by have := ok.s (a := u) (b := w) (c := f) (by omega) (by omega) (by omega); omega) (fun q_4 => ?_) (fun q_4 => ?_)
  · refine j_iconst C dX3_isSooner_43 ?_
    refine j_goto (tgt := 48) C dX3_isSooner_44 (by decide) ?_
    refine j_zret C hQ (by decide) dX3_isSooner_48 ?_
    refine ⟨rfl, ?_⟩
    unfold gSo
    simp_all [bI] <;> omega
  · refine j_iload C dX3_isSooner_17 rfl ?_
    refine j_if_ne (tgt := 47) C dX3_isSooner_19 (by decide) (by have := ok.s (a := u) (b := w) (c := f) (by omega) (by omega) (by omega); omega) (fun q_5 => ?_) (fun q_5 => ?_)
    · refine j_iconst C dX3_isSooner_47 ?_
      refine j_zret C hQ (by decide) dX3_isSooner_48 ?_
      refine ⟨rfl, ?_⟩
      unfold gSo
      simp_all [bI] <;> omega
    · refine j_aload_n C dX3_isSooner_22 rfl ?_
      refine j_get (v := sr 1) C 4 0 (by decide) (en_4 _ _) rfl (by decide) (fun w h => List.mem_cons_of_mem _ (List.mem_append_left _ (List.mem_append_right _ h))) (List.mem_of_getElem? (i := 1) rfl) dX3_isSooner_23 rfl ?_
      refine j_iload_n C dX3_isSooner_26 rfl ?_
      refine j_iload_n C dX3_isSooner_27 rfl ?_
      refine j_doI (st := []) (j_runVN C (kX1_apart hc u w rfl rfl (by omega) (by omega)) ggX3_isSooner_X1_apart sgX1_apart rfl (List.mem_of_getElem? (i := 11) rfl) (List.mem_of_getElem? (i := 3) rfl) (List.mem_of_getElem? (i := 8) rfl) (List.mem_of_getElem? (i := 9) rfl) ⟨by decide, by decide⟩ (by decide) (en_G (c := 1) (by decide) _) rfl rfl rfl (Nat.le_of_ble_eq_true rfl) dX3_isSooner_28) (fun z_6 V_7 h_8 => ?_)
      obtain ⟨rfl, rfl⟩ := h_8
      refine j_aload_n C dX3_isSooner_31 rfl ?_
      refine j_get (v := sr 1) C 4 0 (by decide) (en_4 _ _) rfl (by decide) (fun w h => List.mem_cons_of_mem _ (List.mem_append_left _ (List.mem_append_right _ h))) (List.mem_of_getElem? (i := 1) rfl) dX3_isSooner_32 rfl ?_
      refine j_iload_n C dX3_isSooner_35 rfl ?_
      refine j_iload_n C dX3_isSooner_36 rfl ?_
      refine j_doI (st := [si (gF g u w)]) (j_runVN C (kX1_apart hc u f rfl rfl (by omega) (by omega)) ggX3_isSooner_X1_apart sgX1_apart rfl (List.mem_of_getElem? (i := 11) rfl) (List.mem_of_getElem? (i := 3) rfl) (List.mem_of_getElem? (i := 8) rfl) (List.mem_of_getElem? (i := 9) rfl) ⟨by decide, by decide⟩ (by decide) (en_G (c := 1) (by decide) _) rfl rfl rfl (Nat.le_of_ble_eq_true rfl) dX3_isSooner_37) (fun z_9 V_10 h_11 => ?_)
      obtain ⟨rfl, rfl⟩ := h_11
      refine j_icmp_ge (tgt := 47) C dX3_isSooner_40 (by decide) (by have := ok.f (u := u) (v := w) (by omega) (by omega); omega) (by have := ok.f (u := u) (v := f) (by omega) (by omega); omega) (fun q_12 => ?_) (fun q_12 => ?_)
      · refine j_iconst C dX3_isSooner_47 ?_
        refine j_zret C hQ (by decide) dX3_isSooner_48 ?_
        refine ⟨rfl, ?_⟩
        unfold gSo
        simp_all [bI] <;> omega
      · refine j_iconst C dX3_isSooner_43 ?_
        refine j_goto (tgt := 48) C dX3_isSooner_44 (by decide) ?_
        refine j_zret C hQ (by decide) dX3_isSooner_48 ?_
        refine ⟨rfl, ?_⟩
        unfold gSo
        simp_all [bI] <;> omega
def rX3_nearerThan : Room := { frames := 1, cells := 0, slots := 0, locals := 24 }
theorem sgX3_nearerThan : sg yX3_nearerThan wsX3_nearerThan cX3_nearerThan 6 (some .int) rX3_nearerThan 2 := ⟨⟨_, rfl⟩, rfl, rfl, by decide, by decide, by decide +kernel⟩
set_option maxHeartbeats 4000000 in
set_option maxRecDepth 100000 in
theorem lpX3_nearerThan {O : OmT} {F : PhT} {V : Mem} {g : Nat → Int} {post : Int → Mem → Prop} (C : cx O F RX3 cX3_nearerThan 6 (some .int) wsX3_nearerThan) (hQ : qI O F post) (hn : net V g) (ok : okg g) {u t : Nat} (hu : u < 10) (ht : t < 10) (hpo : post (gR g u t (gN g)) V) : ∀ (fuel : Nat) (w : Nat), (w ≤ gN g) → gN g - w < fuel → J O F rX3_nearerThan 6 V 16 [(0, sr 4), (1, si (u : Int)), (2, si (t : Int)), (3, si (gR g u t w)), (4, si (gRl g u t w)), (5, si (w : Int))] [] := by
  intro fuel
  induction fuel with
  | zero => intro w hw hf; exact absurd hf (Nat.not_lt_zero _)
  | succ fuel ih =>
    intro w hw hf
    have n1 := ok.n
    have o1 := gR_rg g u t w
    have o2 : 0 ≤ gRl g u t w ∧ gRl g u t w ≤ 7938 := by
      unfold gRl; split
      · exact ok.f hu ht
      · exact ok.f (by omega) ht
    refine j_iload C dX3_nearerThan_16 rfl ?_
    refine j_aload_n C dX3_nearerThan_18 rfl ?_
    refine j_get (v := sr 1) C 4 0 (by decide) (en_4 _ _) rfl (by decide) (fun w h => List.mem_cons_of_mem _ (List.mem_append_left _ (List.mem_append_right _ h))) (List.mem_of_getElem? (i := 1) rfl) dX3_nearerThan_19 rfl ?_
    refine j_getN (v := si (V 1 2)) C 1 2 (by decide) (en_G (c := 1) (by decide) _) rfl (by decide) (fun w h => List.mem_cons_of_mem _ (List.mem_append_right _ h)) (List.mem_of_getElem? (i := 6) rfl) dX3_nearerThan_22 rfl ?_
    refine j_top hn.1.1 ?_
    refine j_icmp_ge (tgt := 78) C dX3_nearerThan_25 (by decide) (by omega) (by have := ok.1; omega) (fun q_1 => ?_) (fun q_1 => ?_)
    · refine j_iload_n C dX3_nearerThan_78 rfl ?_
      refine j_iret C hQ dX3_nearerThan_79 ?_
      have e : w = gN g := by omega
      subst e; exact hpo
    · refine j_aload_n C dX3_nearerThan_28 rfl ?_
      refine j_get (v := sr 5) C 4 1 (by decide) (en_4 _ _) rfl (by decide) (fun w h => List.mem_cons_of_mem _ (List.mem_append_left _ (List.mem_append_right _ h))) (List.mem_of_getElem? (i := 2) rfl) dX3_nearerThan_29 rfl ?_
      refine j_iload_n C dX3_nearerThan_32 rfl ?_
      refine j_iald C (row_5 O) u rfl (by omega) dX3_nearerThan_33 ?_
      refine j_top (hn.2.1 u (by omega)) ?_
      refine j_iload C dX3_nearerThan_34 rfl ?_
      refine j_doI (st := []) (j_runSN C (kX5_holds (gLs g u (gN g)) w rfl rfl (by have := gLs_31 ok u; omega) (by omega)) ggX3_nearerThan_X5_holds sgX5_holds (List.mem_of_getElem? (i := 8) rfl) (List.mem_of_getElem? (i := 10) rfl) (List.mem_of_getElem? (i := 9) rfl) ⟨by decide, by decide⟩ rfl rfl (Nat.le_of_ble_eq_true rfl) dX3_nearerThan_36) (fun z_2 V_3 h_4 => ?_)
      obtain ⟨rfl, rfl⟩ := h_4
      refine j_top (b := bI (gL g u w)) (by rw [gLs_bit, decide_eq_true (show w < gN g by omega), Bool.true_and]) ?_
      refine j_ifb_eq (tgt := 72) C dX3_nearerThan_39 (by decide) (fun q_5 => ?_) (fun q_5 => ?_)
      · refine j_iinc (lv' := [(0, sr 4), (1, si (u : Int)), (2, si (t : Int)), (3, si (gR g u t w)), (4, si (gRl g u t w)), (5, si ((w : Int) + 1))]) C dX3_nearerThan_72 rfl (by decide) rfl ?_
        refine j_goto (tgt := 16) C dX3_nearerThan_75 (by decide) ?_
        have e3 : gR g u t (w + 1) = (gR g u t w) := by rw [gR_c]; simp [*] <;> omega
        have e4 : gRl g u t (w + 1) = (gRl g u t w) := by rw [gRl_c e3]; rfl
        refine j_lv (lv' := [(0, sr 4), (1, si (u : Int)), (2, si (t : Int)), (3, si (gR g u t (w + 1))), (4, si (gRl g u t (w + 1))), (5, si ((w : Int) + 1))]) (by rw [e3, e4]) ?_
        exact ih (w + 1) (by omega) (by omega)
      · refine j_aload_n C dX3_nearerThan_42 rfl ?_
        refine j_get (v := sr 1) C 4 0 (by decide) (en_4 _ _) rfl (by decide) (fun w h => List.mem_cons_of_mem _ (List.mem_append_left _ (List.mem_append_right _ h))) (List.mem_of_getElem? (i := 1) rfl) dX3_nearerThan_43 rfl ?_
        refine j_iload C dX3_nearerThan_46 rfl ?_
        refine j_iload_n C dX3_nearerThan_48 rfl ?_
        refine j_doI (st := []) (j_runVN C (kX1_apart hn.1 w t rfl rfl (by omega) (by omega)) ggX3_nearerThan_X1_apart sgX1_apart rfl (List.mem_of_getElem? (i := 11) rfl) (List.mem_of_getElem? (i := 4) rfl) (List.mem_of_getElem? (i := 3) rfl) (List.mem_of_getElem? (i := 5) rfl) ⟨by decide, by decide⟩ (by decide) (en_G (c := 1) (by decide) _) rfl rfl rfl (Nat.le_of_ble_eq_true rfl) dX3_nearerThan_49) (fun z_6 V_7 h_8 => ?_)
        obtain ⟨rfl, rfl⟩ := h_8
        refine j_iload C dX3_nearerThan_52 rfl ?_
        refine j_icmp_ge (tgt := 72) C dX3_nearerThan_54 (by decide) (by have := ok.f (u := w) (v := t) (by omega) (by omega); omega) (by omega) (fun q_9 => ?_) (fun q_9 => ?_)
        · refine j_iinc (lv' := [(0, sr 4), (1, si (u : Int)), (2, si (t : Int)), (3, si (gR g u t w)), (4, si (gRl g u t w)), (5, si ((w : Int) + 1))]) C dX3_nearerThan_72 rfl (by decide) rfl ?_
          refine j_goto (tgt := 16) C dX3_nearerThan_75 (by decide) ?_
          have e3 : gR g u t (w + 1) = (gR g u t w) := by rw [gR_c]; simp [*] <;> omega
          have e4 : gRl g u t (w + 1) = (gRl g u t w) := by rw [gRl_c e3]; rfl
          refine j_lv (lv' := [(0, sr 4), (1, si (u : Int)), (2, si (t : Int)), (3, si (gR g u t (w + 1))), (4, si (gRl g u t (w + 1))), (5, si ((w : Int) + 1))]) (by rw [e3, e4]) ?_
          exact ih (w + 1) (by omega) (by omega)
        · refine j_iload C dX3_nearerThan_57 rfl ?_
          refine j_istore_n (lv' := [(0, sr 4), (1, si (u : Int)), (2, si (t : Int)), (3, si (w : Int)), (4, si (gRl g u t w)), (5, si (w : Int))]) C dX3_nearerThan_59 (by decide) rfl ?_
          refine j_aload_n C dX3_nearerThan_60 rfl ?_
          refine j_get (v := sr 1) C 4 0 (by decide) (en_4 _ _) rfl (by decide) (fun w h => List.mem_cons_of_mem _ (List.mem_append_left _ (List.mem_append_right _ h))) (List.mem_of_getElem? (i := 1) rfl) dX3_nearerThan_61 rfl ?_
          refine j_iload C dX3_nearerThan_64 rfl ?_
          refine j_iload_n C dX3_nearerThan_66 rfl ?_
          refine j_doI (st := []) (j_runVN C (kX1_apart hn.1 w t rfl rfl (by omega) (by omega)) ggX3_nearerThan_X1_apart sgX1_apart rfl (List.mem_of_getElem? (i := 11) rfl) (List.mem_of_getElem? (i := 4) rfl) (List.mem_of_getElem? (i := 3) rfl) (List.mem_of_getElem? (i := 5) rfl) ⟨by decide, by decide⟩ (by decide) (en_G (c := 1) (by decide) _) rfl rfl rfl (Nat.le_of_ble_eq_true rfl) dX3_nearerThan_67) (fun z_10 V_11 h_12 => ?_)
          obtain ⟨rfl, rfl⟩ := h_12
          refine j_istore (lv' := [(0, sr 4), (1, si (u : Int)), (2, si (t : Int)), (3, si (w : Int)), (4, si (gF g w t)), (5, si (w : Int))]) C dX3_nearerThan_70 (by decide) rfl ?_
          refine j_iinc (lv' := [(0, sr 4), (1, si (u : Int)), (2, si (t : Int)), (3, si (w : Int)), (4, si (gF g w t)), (5, si ((w : Int) + 1))]) C dX3_nearerThan_72 rfl (by decide) rfl ?_
          refine j_goto (tgt := 16) C dX3_nearerThan_75 (by decide) ?_
          have e3 : gR g u t (w + 1) = (w : Int) := by rw [gR_c]; simp [*] <;> omega
          have e4 : gRl g u t (w + 1) = (gF g w t) := by rw [gRl_c e3]; simp
          refine j_lv (lv' := [(0, sr 4), (1, si (u : Int)), (2, si (t : Int)), (3, si (gR g u t (w + 1))), (4, si (gRl g u t (w + 1))), (5, si ((w : Int) + 1))]) (by rw [e3, e4]) ?_
          exact ih (w + 1) (by omega) (by omega)
set_option maxHeartbeats 4000000 in
set_option maxRecDepth 100000 in
theorem kX3_nearerThan {O : OmT} {l : Launch} {V : Mem} {g : Nat → Int} (hn : net V g) (ok : okg g) {zu : Int} {zt : Int} (u t : Nat) (eu : zu = (u : Int)) (et : zt = (t : Int)) (hu : u < 10) (ht : t < 10) : MI O l yX3_nearerThan wsX3_nearerThan rX3_nearerThan [sr 4, si zu, si zt] V (fun z V2 => V = V2 ∧ z = gR g u t (gN g)) := by
  refine mi_of (cc := cX3_nearerThan) (nL := 6) (rt := (some .int)) (by decide) rfl rfl (Nat.le_of_ble_eq_true rfl) (fun F hF C hQ => ?_)
  subst hF
  subst eu et
  change J O F rX3_nearerThan 6 V 0 [(0, sr 4), (1, si (u : Int)), (2, si (t : Int))] []
  refine j_iconst C dX3_nearerThan_0 ?_
  refine j_istore_n (lv' := [(0, sr 4), (1, si (u : Int)), (2, si (t : Int)), (3, si (-1))]) C dX3_nearerThan_1 (by decide) rfl ?_
  refine j_aload_n C dX3_nearerThan_2 rfl ?_
  refine j_get (v := sr 1) C 4 0 (by decide) (en_4 _ _) rfl (by decide) (fun w h => List.mem_cons_of_mem _ (List.mem_append_left _ (List.mem_append_right _ h))) (List.mem_of_getElem? (i := 1) rfl) dX3_nearerThan_3 rfl ?_
  refine j_iload_n C dX3_nearerThan_6 rfl ?_
  refine j_iload_n C dX3_nearerThan_7 rfl ?_
  refine j_doI (st := []) (j_runVN C (kX1_apart hn.1 u t rfl rfl (by omega) (by omega)) ggX3_nearerThan_X1_apart sgX1_apart rfl (List.mem_of_getElem? (i := 11) rfl) (List.mem_of_getElem? (i := 4) rfl) (List.mem_of_getElem? (i := 3) rfl) (List.mem_of_getElem? (i := 5) rfl) ⟨by decide, by decide⟩ (by decide) (en_G (c := 1) (by decide) _) rfl rfl rfl (Nat.le_of_ble_eq_true rfl) dX3_nearerThan_8) (fun z_1 V_2 h_3 => ?_)
  obtain ⟨rfl, rfl⟩ := h_3
  refine j_istore (lv' := [(0, sr 4), (1, si (u : Int)), (2, si (t : Int)), (3, si (-1)), (4, si (gF g u t))]) C dX3_nearerThan_11 (by decide) rfl ?_
  refine j_iconst C dX3_nearerThan_13 ?_
  refine j_istore (lv' := [(0, sr 4), (1, si (u : Int)), (2, si (t : Int)), (3, si (-1)), (4, si (gF g u t)), (5, si 0)]) C dX3_nearerThan_14 (by decide) rfl ?_
  exact lpX3_nearerThan C hQ hn ok hu ht ⟨rfl, rfl⟩ _ 0 (Nat.zero_le _) (Nat.lt_succ_self _)
def rX3_turnFrom : Room := { frames := 2, cells := 0, slots := 0, locals := 48 }
theorem sgX3_turnFrom : sg yX3_turnFrom wsX3_turnFrom cX3_turnFrom 8 (some .int) rX3_turnFrom 2 := ⟨⟨_, rfl⟩, rfl, rfl, by decide, by decide, by decide +kernel⟩
set_option maxHeartbeats 4000000 in
set_option maxRecDepth 100000 in
theorem lpX3_turnFrom {O : OmT} {F : PhT} {V : Mem} {g : Nat → Int} {post : Int → Mem → Prop} (C : cx O F RX3 cX3_turnFrom 8 (some .int) wsX3_turnFrom) (hQ : qI O F post) (hn : net V g) (ok : okg g) {u v : Nat} (hu : u < 10) (hv : v < 10) (hun : u < gN g) (hvn : v < gN g) (huv : u ≠ v) (hpo : post (gU g u v) V) : ∀ (fuel : Nat) (w : Nat), (w ≤ gN g) → gN g - w < fuel → J O F rX3_turnFrom 8 V 22 [(0, sr 4), (1, si (u : Int)), (2, si (v : Int)), (3, si ((clr (gTs g u (gN g)) v : Nat) : Int)), (4, si (gO g u v v w)), (5, si (bI (gFb g u v w))), (6, si (w : Int))] [] := by
  intro fuel
  induction fuel with
  | zero => intro w hw hf; exact absurd hf (Nat.not_lt_zero _)
  | succ fuel ih =>
    intro w hw hf
    have n1 := ok.n
    have o1 := gO_rg g u v v w
    refine j_iload C dX3_turnFrom_22 rfl ?_
    refine j_aload_n C dX3_turnFrom_24 rfl ?_
    refine j_get (v := sr 1) C 4 0 (by decide) (en_4 _ _) rfl (by decide) (fun w h => List.mem_cons_of_mem _ (List.mem_append_left _ (List.mem_append_right _ h))) (List.mem_of_getElem? (i := 2) rfl) dX3_turnFrom_25 rfl ?_
    refine j_getN (v := si (V 1 2)) C 1 2 (by decide) (en_G (c := 1) (by decide) _) rfl (by decide) (fun w h => List.mem_cons_of_mem _ (List.mem_append_right _ h)) (List.mem_of_getElem? (i := 6) rfl) dX3_turnFrom_28 rfl ?_
    refine j_top hn.1.1 ?_
    refine j_icmp_ge (tgt := 103) C dX3_turnFrom_31 (by decide) (by omega) (by have := ok.1; omega) (fun q_1 => ?_) (fun q_1 => ?_)
    · refine j_iload C dX3_turnFrom_103 rfl ?_
      refine j_iconst C dX3_turnFrom_105 ?_
      refine j_icmp_eq (tgt := 112) C dX3_turnFrom_106 (by decide) (by omega) (by decide) (fun q_2 => ?_) (fun q_2 => ?_)
      · refine j_aload_n C dX3_turnFrom_112 rfl ?_
        refine j_get (v := sr 6) C 4 2 (by decide) (en_4 _ _) rfl (by decide) (fun w h => List.mem_cons_of_mem _ (List.mem_append_left _ (List.mem_append_right _ h))) (List.mem_of_getElem? (i := 1) rfl) dX3_turnFrom_113 rfl ?_
        refine j_iload_n C dX3_turnFrom_116 rfl ?_
        refine j_iald C (row_6 O) u rfl (by omega) dX3_turnFrom_117 ?_
        refine j_top (hn.2.2 u (by omega)) ?_
        refine j_iload_n C dX3_turnFrom_118 rfl ?_
        refine j_doI (st := []) (j_runSN C (kX5_holds (gTs g u (gN g)) v rfl rfl (by have := gTs_31 ok u; omega) (by omega)) ggX3_turnFrom_X5_holds sgX5_holds (List.mem_of_getElem? (i := 8) rfl) (List.mem_of_getElem? (i := 4) rfl) (List.mem_of_getElem? (i := 3) rfl) ⟨by decide, by decide⟩ rfl rfl (Nat.le_of_ble_eq_true rfl) dX3_turnFrom_119) (fun z_3 V_4 h_5 => ?_)
        obtain ⟨rfl, rfl⟩ := h_5
        refine j_top (b := bI (gT g u v)) (by rw [gTs_bit, decide_eq_true (show v < gN g by omega), Bool.true_and]) ?_
        refine j_ifb_eq (tgt := 129) C dX3_turnFrom_122 (by decide) (fun q_6 => ?_) (fun q_6 => ?_)
        · refine j_iconst C dX3_turnFrom_129 ?_
          refine j_iret C hQ dX3_turnFrom_130 ?_
          have e : w = gN g := by omega
          subst e
          unfold gU at hpo
          simp_all
        · refine j_iload_n C dX3_turnFrom_125 rfl ?_
          refine j_goto (tgt := 130) C dX3_turnFrom_126 (by decide) ?_
          refine j_iret C hQ dX3_turnFrom_130 ?_
          have e : w = gN g := by omega
          subst e
          unfold gU at hpo
          simp_all
      · refine j_iload C dX3_turnFrom_109 rfl ?_
        refine j_iret C hQ dX3_turnFrom_111 ?_
        have e : w = gN g := by omega
        subst e
        unfold gU at hpo
        simp_all
    · refine j_iload_n C dX3_turnFrom_34 rfl ?_
      refine j_iload C dX3_turnFrom_35 rfl ?_
      refine j_doI (st := []) (j_runSN C (kX5_holds (clr (gTs g u (gN g)) v) w rfl rfl (by have := clr_lt (v := v) (gTs_31 ok u); omega) (by omega)) ggX3_turnFrom_X5_holds sgX5_holds (List.mem_of_getElem? (i := 8) rfl) (List.mem_of_getElem? (i := 4) rfl) (List.mem_of_getElem? (i := 3) rfl) ⟨by decide, by decide⟩ rfl rfl (Nat.le_of_ble_eq_true rfl) dX3_turnFrom_37) (fun z_7 V_8 h_9 => ?_)
      obtain ⟨rfl, rfl⟩ := h_9
      refine j_top (b := bI (gT g u w && decide (w ≠ v))) (by rw [clr_bit hv (by omega), gTs_bit, decide_eq_true (show w < gN g by omega), Bool.true_and]) ?_
      refine j_ifb_ne (tgt := 46) C dX3_turnFrom_40 (by decide) (fun q_10 => ?_) (fun q_10 => ?_)
      · refine j_aload_n C dX3_turnFrom_46 rfl ?_
        refine j_iload_n C dX3_turnFrom_47 rfl ?_
        refine j_iload_n C dX3_turnFrom_48 rfl ?_
        refine j_iload C dX3_turnFrom_49 rfl ?_
        refine j_doI (st := []) (j_runV C (kX3_isHalfRound hn.1 ok u v w rfl rfl rfl (by omega) (by omega) (by omega)) gX3_turnFrom_X3_isHalfRound sgX3_isHalfRound rfl ⟨by decide, by decide⟩ (by decide) (en_4 _ _) rfl rfl rfl (Nat.le_of_ble_eq_true rfl) dX3_turnFrom_51) (fun z_11 V_12 h_13 => ?_)
        obtain ⟨rfl, rfl⟩ := h_13
        refine j_istore (lv' := [(0, sr 4), (1, si (u : Int)), (2, si (v : Int)), (3, si ((clr (gTs g u (gN g)) v : Nat) : Int)), (4, si (gO g u v v w)), (5, si (bI (gFb g u v w))), (6, si (w : Int)), (7, si (bI (gBh g u v w)))]) C dX3_turnFrom_54 (by decide) rfl ?_
        refine j_iload C dX3_turnFrom_56 rfl ?_
        refine j_iconst C dX3_turnFrom_58 ?_
        refine j_icmp_eq (tgt := 89) C dX3_turnFrom_59 (by decide) (by omega) (by decide) (fun q_14 => ?_) (fun q_14 => ?_)
        · refine j_iload C dX3_turnFrom_89 rfl ?_
          refine j_istore (lv' := [(0, sr 4), (1, si (u : Int)), (2, si (v : Int)), (3, si ((clr (gTs g u (gN g)) v : Nat) : Int)), (4, si (w : Int)), (5, si (bI (gFb g u v w))), (6, si (w : Int)), (7, si (bI (gBh g u v w)))]) C dX3_turnFrom_91 (by decide) rfl ?_
          refine j_iload C dX3_turnFrom_93 rfl ?_
          refine j_istore (lv' := [(0, sr 4), (1, si (u : Int)), (2, si (v : Int)), (3, si ((clr (gTs g u (gN g)) v : Nat) : Int)), (4, si (w : Int)), (5, si (bI (gBh g u v w))), (6, si (w : Int)), (7, si (bI (gBh g u v w)))]) C dX3_turnFrom_95 (by decide) rfl ?_
          refine j_iinc (lv' := [(0, sr 4), (1, si (u : Int)), (2, si (v : Int)), (3, si ((clr (gTs g u (gN g)) v : Nat) : Int)), (4, si (w : Int)), (5, si (bI (gBh g u v w))), (6, si ((w : Int) + 1)), (7, si (bI (gBh g u v w)))]) C dX3_turnFrom_97 rfl (by decide) rfl ?_
          refine j_goto (tgt := 22) C dX3_turnFrom_100 (by decide) ?_
          have e4 : gO g u v v (w + 1) = (w : Int) := by rw [gO_c ok hun hvn huv (by omega)]; first | (simp_all [bI_inj]; done) | grind [bI_inj]
          have e5 : bI (gFb g u v (w + 1)) = (bI (gBh g u v w)) := by rw [gFb_c e4]; simp
          refine j_pick (lv' := [(0, sr 4), (1, si (u : Int)), (2, si (v : Int)), (3, si ((clr (gTs g u (gN g)) v : Nat) : Int)), (4, si (w : Int)), (5, si (bI (gBh g u v w))), (6, si ((w : Int) + 1))]) [0, 1, 2, 3, 4, 5, 6] rfl ?_
          refine j_lv (lv' := [(0, sr 4), (1, si (u : Int)), (2, si (v : Int)), (3, si ((clr (gTs g u (gN g)) v : Nat) : Int)), (4, si (gO g u v v (w + 1))), (5, si (bI (gFb g u v (w + 1)))), (6, si ((w : Int) + 1))]) (by rw [e4, e5]) ?_
          exact ih (w + 1) (by omega) (by omega)
        · refine j_iload C dX3_turnFrom_62 rfl ?_
          refine j_iload C dX3_turnFrom_64 rfl ?_
          refine j_icmp_ne (tgt := 84) C dX3_turnFrom_66 (by decide) (bI_rg _) (bI_rg _) (fun q_15 => ?_) (fun q_15 => ?_)
          · refine j_iload C dX3_turnFrom_84 rfl ?_
            refine j_ifb_eq (tgt := 97) C dX3_turnFrom_86 (by decide) (fun q_16 => ?_) (fun q_16 => ?_)
            · refine j_iinc (lv' := [(0, sr 4), (1, si (u : Int)), (2, si (v : Int)), (3, si ((clr (gTs g u (gN g)) v : Nat) : Int)), (4, si (gO g u v v w)), (5, si (bI (gFb g u v w))), (6, si ((w : Int) + 1)), (7, si (bI (gBh g u v w)))]) C dX3_turnFrom_97 rfl (by decide) rfl ?_
              refine j_goto (tgt := 22) C dX3_turnFrom_100 (by decide) ?_
              have e4 : gO g u v v (w + 1) = (gO g u v v w) := by rw [gO_c ok hun hvn huv (by omega)]; first | (simp_all [bI_inj]; done) | grind [bI_inj]
              have e5 : bI (gFb g u v (w + 1)) = (bI (gFb g u v w)) := by rw [gFb_c e4]; rfl
              refine j_pick (lv' := [(0, sr 4), (1, si (u : Int)), (2, si (v : Int)), (3, si ((clr (gTs g u (gN g)) v : Nat) : Int)), (4, si (gO g u v v w)), (5, si (bI (gFb g u v w))), (6, si ((w : Int) + 1))]) [0, 1, 2, 3, 4, 5, 6] rfl ?_
              refine j_lv (lv' := [(0, sr 4), (1, si (u : Int)), (2, si (v : Int)), (3, si ((clr (gTs g u (gN g)) v : Nat) : Int)), (4, si (gO g u v v (w + 1))), (5, si (bI (gFb g u v (w + 1)))), (6, si ((w : Int) + 1))]) (by rw [e4, e5]) ?_
              exact ih (w + 1) (by omega) (by omega)
            · refine j_iload C dX3_turnFrom_89 rfl ?_
              refine j_istore (lv' := [(0, sr 4), (1, si (u : Int)), (2, si (v : Int)), (3, si ((clr (gTs g u (gN g)) v : Nat) : Int)), (4, si (w : Int)), (5, si (bI (gFb g u v w))), (6, si (w : Int)), (7, si (bI (gBh g u v w)))]) C dX3_turnFrom_91 (by decide) rfl ?_
              refine j_iload C dX3_turnFrom_93 rfl ?_
              refine j_istore (lv' := [(0, sr 4), (1, si (u : Int)), (2, si (v : Int)), (3, si ((clr (gTs g u (gN g)) v : Nat) : Int)), (4, si (w : Int)), (5, si (bI (gBh g u v w))), (6, si (w : Int)), (7, si (bI (gBh g u v w)))]) C dX3_turnFrom_95 (by decide) rfl ?_
              refine j_iinc (lv' := [(0, sr 4), (1, si (u : Int)), (2, si (v : Int)), (3, si ((clr (gTs g u (gN g)) v : Nat) : Int)), (4, si (w : Int)), (5, si (bI (gBh g u v w))), (6, si ((w : Int) + 1)), (7, si (bI (gBh g u v w)))]) C dX3_turnFrom_97 rfl (by decide) rfl ?_
              refine j_goto (tgt := 22) C dX3_turnFrom_100 (by decide) ?_
              have e4 : gO g u v v (w + 1) = (w : Int) := by rw [gO_c ok hun hvn huv (by omega)]; first | (simp_all [bI_inj]; done) | grind [bI_inj]
              have e5 : bI (gFb g u v (w + 1)) = (bI (gBh g u v w)) := by rw [gFb_c e4]; simp
              refine j_pick (lv' := [(0, sr 4), (1, si (u : Int)), (2, si (v : Int)), (3, si ((clr (gTs g u (gN g)) v : Nat) : Int)), (4, si (w : Int)), (5, si (bI (gBh g u v w))), (6, si ((w : Int) + 1))]) [0, 1, 2, 3, 4, 5, 6] rfl ?_
              refine j_lv (lv' := [(0, sr 4), (1, si (u : Int)), (2, si (v : Int)), (3, si ((clr (gTs g u (gN g)) v : Nat) : Int)), (4, si (gO g u v v (w + 1))), (5, si (bI (gFb g u v (w + 1)))), (6, si ((w : Int) + 1))]) (by rw [e4, e5]) ?_
              exact ih (w + 1) (by omega) (by omega)
          · refine j_aload_n C dX3_turnFrom_69 rfl ?_
            refine j_iload_n C dX3_turnFrom_70 rfl ?_
            refine j_iload C dX3_turnFrom_71 rfl ?_
            refine j_iload C dX3_turnFrom_73 rfl ?_
            refine j_doI (st := []) (j_runV C (kX3_isSooner hn.1 ok u w (gO g u v v w).toNat rfl rfl (by omega) (by omega) (by omega) (by omega)) gX3_turnFrom_X3_isSooner sgX3_isSooner rfl ⟨by decide, by decide⟩ (by decide) (en_4 _ _) rfl rfl rfl (Nat.le_of_ble_eq_true rfl) dX3_turnFrom_75) (fun z_17 V_18 h_19 => ?_)
            obtain ⟨rfl, rfl⟩ := h_19
            refine j_ifb_eq (tgt := 97) C dX3_turnFrom_78 (by decide) (fun q_20 => ?_) (fun q_20 => ?_)
            · refine j_iinc (lv' := [(0, sr 4), (1, si (u : Int)), (2, si (v : Int)), (3, si ((clr (gTs g u (gN g)) v : Nat) : Int)), (4, si (gO g u v v w)), (5, si (bI (gFb g u v w))), (6, si ((w : Int) + 1)), (7, si (bI (gBh g u v w)))]) C dX3_turnFrom_97 rfl (by decide) rfl ?_
              refine j_goto (tgt := 22) C dX3_turnFrom_100 (by decide) ?_
              have e4 : gO g u v v (w + 1) = (gO g u v v w) := by rw [gO_c ok hun hvn huv (by omega)]; first | (simp_all [bI_inj]; done) | grind [bI_inj]
              have e5 : bI (gFb g u v (w + 1)) = (bI (gFb g u v w)) := by rw [gFb_c e4]; rfl
              refine j_pick (lv' := [(0, sr 4), (1, si (u : Int)), (2, si (v : Int)), (3, si ((clr (gTs g u (gN g)) v : Nat) : Int)), (4, si (gO g u v v w)), (5, si (bI (gFb g u v w))), (6, si ((w : Int) + 1))]) [0, 1, 2, 3, 4, 5, 6] rfl ?_
              refine j_lv (lv' := [(0, sr 4), (1, si (u : Int)), (2, si (v : Int)), (3, si ((clr (gTs g u (gN g)) v : Nat) : Int)), (4, si (gO g u v v (w + 1))), (5, si (bI (gFb g u v (w + 1)))), (6, si ((w : Int) + 1))]) (by rw [e4, e5]) ?_
              exact ih (w + 1) (by omega) (by omega)
            · refine j_goto (tgt := 89) C dX3_turnFrom_81 (by decide) ?_
              refine j_iload C dX3_turnFrom_89 rfl ?_
              refine j_istore (lv' := [(0, sr 4), (1, si (u : Int)), (2, si (v : Int)), (3, si ((clr (gTs g u (gN g)) v : Nat) : Int)), (4, si (w : Int)), (5, si (bI (gFb g u v w))), (6, si (w : Int)), (7, si (bI (gBh g u v w)))]) C dX3_turnFrom_91 (by decide) rfl ?_
              refine j_iload C dX3_turnFrom_93 rfl ?_
              refine j_istore (lv' := [(0, sr 4), (1, si (u : Int)), (2, si (v : Int)), (3, si ((clr (gTs g u (gN g)) v : Nat) : Int)), (4, si (w : Int)), (5, si (bI (gBh g u v w))), (6, si (w : Int)), (7, si (bI (gBh g u v w)))]) C dX3_turnFrom_95 (by decide) rfl ?_
              refine j_iinc (lv' := [(0, sr 4), (1, si (u : Int)), (2, si (v : Int)), (3, si ((clr (gTs g u (gN g)) v : Nat) : Int)), (4, si (w : Int)), (5, si (bI (gBh g u v w))), (6, si ((w : Int) + 1)), (7, si (bI (gBh g u v w)))]) C dX3_turnFrom_97 rfl (by decide) rfl ?_
              refine j_goto (tgt := 22) C dX3_turnFrom_100 (by decide) ?_
              have e4 : gO g u v v (w + 1) = (w : Int) := by rw [gO_c ok hun hvn huv (by omega)]; first | (simp_all [bI_inj]; done) | grind [bI_inj]
              have e5 : bI (gFb g u v (w + 1)) = (bI (gBh g u v w)) := by rw [gFb_c e4]; simp
              refine j_pick (lv' := [(0, sr 4), (1, si (u : Int)), (2, si (v : Int)), (3, si ((clr (gTs g u (gN g)) v : Nat) : Int)), (4, si (w : Int)), (5, si (bI (gBh g u v w))), (6, si ((w : Int) + 1))]) [0, 1, 2, 3, 4, 5, 6] rfl ?_
              refine j_lv (lv' := [(0, sr 4), (1, si (u : Int)), (2, si (v : Int)), (3, si ((clr (gTs g u (gN g)) v : Nat) : Int)), (4, si (gO g u v v (w + 1))), (5, si (bI (gFb g u v (w + 1)))), (6, si ((w : Int) + 1))]) (by rw [e4, e5]) ?_
              exact ih (w + 1) (by omega) (by omega)
      · refine j_goto (tgt := 97) C dX3_turnFrom_43 (by decide) ?_
        refine j_iinc (lv' := [(0, sr 4), (1, si (u : Int)), (2, si (v : Int)), (3, si ((clr (gTs g u (gN g)) v : Nat) : Int)), (4, si (gO g u v v w)), (5, si (bI (gFb g u v w))), (6, si ((w : Int) + 1))]) C dX3_turnFrom_97 rfl (by decide) rfl ?_
        refine j_goto (tgt := 22) C dX3_turnFrom_100 (by decide) ?_
        have e4 : gO g u v v (w + 1) = (gO g u v v w) := by rw [gO_c ok hun hvn huv (by omega)]; first | (simp_all [bI_inj]; done) | grind [bI_inj]
        have e5 : bI (gFb g u v (w + 1)) = (bI (gFb g u v w)) := by rw [gFb_c e4]; rfl
        refine j_lv (lv' := [(0, sr 4), (1, si (u : Int)), (2, si (v : Int)), (3, si ((clr (gTs g u (gN g)) v : Nat) : Int)), (4, si (gO g u v v (w + 1))), (5, si (bI (gFb g u v (w + 1)))), (6, si ((w : Int) + 1))]) (by rw [e4, e5]) ?_
        exact ih (w + 1) (by omega) (by omega)
set_option maxHeartbeats 4000000 in
set_option maxRecDepth 100000 in
theorem kX3_turnFrom {O : OmT} {l : Launch} {V : Mem} {g : Nat → Int} (hn : net V g) (ok : okg g) {zu : Int} {zv : Int} (u v : Nat) (eu : zu = (u : Int)) (ev : zv = (v : Int)) (hu : u < 10) (hv : v < 10) (hun : u < gN g) (hvn : v < gN g) (huv : u ≠ v) : MI O l yX3_turnFrom wsX3_turnFrom rX3_turnFrom [sr 4, si zu, si zv] V (fun z V2 => V = V2 ∧ z = gU g u v) := by
  refine mi_of (cc := cX3_turnFrom) (nL := 8) (rt := (some .int)) (by decide) rfl rfl (Nat.le_of_ble_eq_true rfl) (fun F hF C hQ => ?_)
  subst hF
  subst eu ev
  change J O F rX3_turnFrom 8 V 0 [(0, sr 4), (1, si (u : Int)), (2, si (v : Int))] []
  refine j_aload_n C dX3_turnFrom_0 rfl ?_
  refine j_get (v := sr 6) C 4 2 (by decide) (en_4 _ _) rfl (by decide) (fun w h => List.mem_cons_of_mem _ (List.mem_append_left _ (List.mem_append_right _ h))) (List.mem_of_getElem? (i := 1) rfl) dX3_turnFrom_1 rfl ?_
  refine j_iload_n C dX3_turnFrom_4 rfl ?_
  refine j_iald C (row_6 O) u rfl (by omega) dX3_turnFrom_5 ?_
  refine j_top (hn.2.2 u (by omega)) ?_
  refine j_iconst C dX3_turnFrom_6 ?_
  refine j_iload_n C dX3_turnFrom_7 rfl ?_
  refine j_ishl C dX3_turnFrom_8 ?_
  refine j_top (bShl_1 (by omega)) ?_
  refine j_iconst C dX3_turnFrom_9 ?_
  refine j_ixor C dX3_turnFrom_10 ?_
  refine j_iand C dX3_turnFrom_11 ?_
  refine j_top (clr_and (gTs_31 ok u) hv) ?_
  refine j_istore_n (lv' := [(0, sr 4), (1, si (u : Int)), (2, si (v : Int)), (3, si ((clr (gTs g u (gN g)) v : Nat) : Int))]) C dX3_turnFrom_12 (by decide) rfl ?_
  refine j_iconst C dX3_turnFrom_13 ?_
  refine j_istore (lv' := [(0, sr 4), (1, si (u : Int)), (2, si (v : Int)), (3, si ((clr (gTs g u (gN g)) v : Nat) : Int)), (4, si (-1))]) C dX3_turnFrom_14 (by decide) rfl ?_
  refine j_iconst C dX3_turnFrom_16 ?_
  refine j_istore (lv' := [(0, sr 4), (1, si (u : Int)), (2, si (v : Int)), (3, si ((clr (gTs g u (gN g)) v : Nat) : Int)), (4, si (-1)), (5, si 0)]) C dX3_turnFrom_17 (by decide) rfl ?_
  refine j_iconst C dX3_turnFrom_19 ?_
  refine j_istore (lv' := [(0, sr 4), (1, si (u : Int)), (2, si (v : Int)), (3, si ((clr (gTs g u (gN g)) v : Nat) : Int)), (4, si (-1)), (5, si 0), (6, si 0)]) C dX3_turnFrom_20 (by decide) rfl ?_
  exact lpX3_turnFrom C hQ hn ok hu hv hun hvn huv ⟨rfl, rfl⟩ _ 0 (Nat.zero_le _) (Nat.lt_succ_self _)
def rX3_linkedWithAny : Room := { frames := 1, cells := 0, slots := 0, locals := 21 }
theorem sgX3_linkedWithAny : sg yX3_linkedWithAny wsX3_linkedWithAny cX3_linkedWithAny 4 (some .int) rX3_linkedWithAny 1 := ⟨⟨_, rfl⟩, rfl, rfl, by decide, by decide, by decide +kernel⟩
set_option maxHeartbeats 4000000 in
set_option maxRecDepth 100000 in
theorem lpX3_linkedWithAny {O : OmT} {F : PhT} {V : Mem} {g : Nat → Int} {post : Int → Mem → Prop} (C : cx O F RX3 cX3_linkedWithAny 4 (some .int) wsX3_linkedWithAny) (hQ : qI O F post) (hn : net V g) (ok : okg g) {m : Nat} (hm : m < 1024) (hpo : post (gLa g m (gN g) : Int) V) : ∀ (fuel : Nat) (w : Nat), (w ≤ gN g) → gN g - w < fuel → J O F rX3_linkedWithAny 4 V 4 [(0, sr 4), (1, si (m : Int)), (2, si ((gLa g m w : Nat) : Int)), (3, si (w : Int))] [] := by
  intro fuel
  induction fuel with
  | zero => intro w hw hf; exact absurd hf (Nat.not_lt_zero _)
  | succ fuel ih =>
    intro w hw hf
    have n1 := ok.n
    refine j_iload_n C dX3_linkedWithAny_4 rfl ?_
    refine j_aload_n C dX3_linkedWithAny_5 rfl ?_
    refine j_get (v := sr 1) C 4 0 (by decide) (en_4 _ _) rfl (by decide) (fun w h => List.mem_cons_of_mem _ (List.mem_append_left _ (List.mem_append_right _ h))) (List.mem_of_getElem? (i := 1) rfl) dX3_linkedWithAny_6 rfl ?_
    refine j_getN (v := si (V 1 2)) C 1 2 (by decide) (en_G (c := 1) (by decide) _) rfl (by decide) (fun w h => List.mem_cons_of_mem _ (List.mem_append_right _ h)) (List.mem_of_getElem? (i := 6) rfl) dX3_linkedWithAny_9 rfl ?_
    refine j_top hn.1.1 ?_
    refine j_icmp_ge (tgt := 38) C dX3_linkedWithAny_12 (by decide) (by omega) (by have := ok.1; omega) (fun q_1 => ?_) (fun q_1 => ?_)
    · refine j_iload_n C dX3_linkedWithAny_38 rfl ?_
      refine j_iret C hQ dX3_linkedWithAny_39 ?_
      have e : w = gN g := by omega
      subst e; exact hpo
    · refine j_iload_n C dX3_linkedWithAny_15 rfl ?_
      refine j_iload_n C dX3_linkedWithAny_16 rfl ?_
      refine j_doI (st := []) (j_runSN C (kX5_holds m w rfl rfl (by omega) (by omega)) ggX3_linkedWithAny_X5_holds sgX5_holds (List.mem_of_getElem? (i := 8) rfl) (List.mem_of_getElem? (i := 4) rfl) (List.mem_of_getElem? (i := 3) rfl) ⟨by decide, by decide⟩ rfl rfl (Nat.le_of_ble_eq_true rfl) dX3_linkedWithAny_17) (fun z_2 V_3 h_4 => ?_)
      obtain ⟨rfl, rfl⟩ := h_4
      refine j_ifb_eq (tgt := 32) C dX3_linkedWithAny_20 (by decide) (fun q_5 => ?_) (fun q_5 => ?_)
      · refine j_iinc (lv' := [(0, sr 4), (1, si (m : Int)), (2, si ((gLa g m w : Nat) : Int)), (3, si ((w : Int) + 1))]) C dX3_linkedWithAny_32 rfl (by decide) rfl ?_
        refine j_goto (tgt := 4) C dX3_linkedWithAny_35 (by decide) ?_
        have e2 : ((gLa g m (w + 1) : Nat) : Int) = ((gLa g m w : Nat) : Int) := by
          rw [show gLa g m (w + 1) = gLa g m w ||| (if m.testBit w then gLs g w (gN g) else 0) from rfl]
          simp [*]
        refine j_lv (lv' := [(0, sr 4), (1, si (m : Int)), (2, si ((gLa g m (w + 1) : Nat) : Int)), (3, si ((w : Int) + 1))]) (by rw [e2]) ?_
        exact ih (w + 1) (by omega) (by omega)
      · refine j_iload_n C dX3_linkedWithAny_23 rfl ?_
        refine j_aload_n C dX3_linkedWithAny_24 rfl ?_
        refine j_get (v := sr 5) C 4 1 (by decide) (en_4 _ _) rfl (by decide) (fun w h => List.mem_cons_of_mem _ (List.mem_append_left _ (List.mem_append_right _ h))) (List.mem_of_getElem? (i := 2) rfl) dX3_linkedWithAny_25 rfl ?_
        refine j_iload_n C dX3_linkedWithAny_28 rfl ?_
        refine j_iald C (row_5 O) w rfl (by omega) dX3_linkedWithAny_29 ?_
        refine j_top (hn.2.1 w (by omega)) ?_
        refine j_ior C dX3_linkedWithAny_30 ?_
        refine j_top (bOr_nat (by have := gLa_lt ok m w; omega) (by have := gLs_31 ok w; omega)) ?_
        refine j_istore_n (lv' := [(0, sr 4), (1, si (m : Int)), (2, si (((gLa g m w) ||| (gLs g w (gN g)) : Nat) : Int)), (3, si (w : Int))]) C dX3_linkedWithAny_31 (by decide) rfl ?_
        refine j_iinc (lv' := [(0, sr 4), (1, si (m : Int)), (2, si (((gLa g m w) ||| (gLs g w (gN g)) : Nat) : Int)), (3, si ((w : Int) + 1))]) C dX3_linkedWithAny_32 rfl (by decide) rfl ?_
        refine j_goto (tgt := 4) C dX3_linkedWithAny_35 (by decide) ?_
        have e2 : ((gLa g m (w + 1) : Nat) : Int) = (((gLa g m w) ||| (gLs g w (gN g)) : Nat) : Int) := by
          rw [show gLa g m (w + 1) = gLa g m w ||| (if m.testBit w then gLs g w (gN g) else 0) from rfl]
          simp [*]
        refine j_lv (lv' := [(0, sr 4), (1, si (m : Int)), (2, si ((gLa g m (w + 1) : Nat) : Int)), (3, si ((w : Int) + 1))]) (by rw [e2]) ?_
        exact ih (w + 1) (by omega) (by omega)
set_option maxHeartbeats 4000000 in
set_option maxRecDepth 100000 in
theorem kX3_linkedWithAny {O : OmT} {l : Launch} {V : Mem} {g : Nat → Int} (hn : net V g) (ok : okg g) {zm : Int} (m : Nat) (em : zm = (m : Int)) (hm : m < 1024) : MI O l yX3_linkedWithAny wsX3_linkedWithAny rX3_linkedWithAny [sr 4, si zm] V (fun z V2 => V = V2 ∧ z = (gLa g m (gN g) : Int)) := by
  refine mi_of (cc := cX3_linkedWithAny) (nL := 4) (rt := (some .int)) (by decide) rfl rfl (Nat.le_of_ble_eq_true rfl) (fun F hF C hQ => ?_)
  subst hF
  subst em
  change J O F rX3_linkedWithAny 4 V 0 [(0, sr 4), (1, si (m : Int))] []
  refine j_iconst C dX3_linkedWithAny_0 ?_
  refine j_istore_n (lv' := [(0, sr 4), (1, si (m : Int)), (2, si 0)]) C dX3_linkedWithAny_1 (by decide) rfl ?_
  refine j_iconst C dX3_linkedWithAny_2 ?_
  refine j_istore_n (lv' := [(0, sr 4), (1, si (m : Int)), (2, si 0), (3, si 0)]) C dX3_linkedWithAny_3 (by decide) rfl ?_
  exact lpX3_linkedWithAny C hQ hn ok hm ⟨rfl, rfl⟩ _ 0 (Nat.zero_le _) (Nat.lt_succ_self _)
