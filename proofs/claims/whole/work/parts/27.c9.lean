def rX3_fewestLinks : Room := { frames := 2, cells := 0, slots := 0, locals := 44 }
theorem sgX3_fewestLinks : sg yX3_fewestLinks wsX3_fewestLinks cX3_fewestLinks 5 (some .int) rX3_fewestLinks 2 := ⟨⟨_, rfl⟩, rfl, rfl, by decide, by decide, by decide +kernel⟩
set_option maxHeartbeats 4000000 in
set_option maxRecDepth 100000 in
theorem lpX3_fewestLinks {O : OmT} {F : PhT} {V : Mem} {g : Nat → Int} (C : cx O F RX3 cX3_fewestLinks 5 (some .int) wsX3_fewestLinks) {post : Int → Mem → Prop} (hQ : qI O F post) (hn : net V g) (ok : okg g) {u t : Nat} (ht : t < 10) : ∀ (fuel m h : Nat), m < 1024 → fuel + h = 10 → post (gFw g t fuel m h) V → J O F rX3_fewestLinks 5 V 7 [(0, sr 4), (1, si (u : Int)), (2, si (t : Int)), (3, si (m : Int)), (4, si (h : Int))] [] := by
  intro fuel
  induction fuel with
  | zero =>
    intro m h hm hf hpo
    refine j_iload C dX3_fewestLinks_7 rfl ?_
    refine j_bipush C dX3_fewestLinks_9 (by decide) ?_
    refine j_icmp_ge (tgt := 39) C dX3_fewestLinks_11 (by decide) (by omega) (by decide) (fun q_1 => ?_) (fun q_1 => ?_)
    · refine j_iconst C dX3_fewestLinks_39 ?_
      refine j_iret C hQ dX3_fewestLinks_40 ?_
      exact hpo
    · omega
  | succ fuel ih =>
    intro m h hm hf hpo
    refine j_iload C dX3_fewestLinks_7 rfl ?_
    refine j_bipush C dX3_fewestLinks_9 (by decide) ?_
    refine j_icmp_ge (tgt := 39) C dX3_fewestLinks_11 (by decide) (by omega) (by decide) (fun q_1 => ?_) (fun q_1 => ?_)
    · omega
    · refine j_iload_n C dX3_fewestLinks_14 rfl ?_
      refine j_iload_n C dX3_fewestLinks_15 rfl ?_
      refine j_doI (st := []) (j_runSN C (kX5_holds m t rfl rfl (by omega) (by omega)) ggX3_fewestLinks_X5_holds sgX5_holds (List.mem_of_getElem? (i := 8) rfl) (List.mem_of_getElem? (i := 2) rfl) (List.mem_of_getElem? (i := 1) rfl) ⟨by decide, by decide⟩ rfl rfl (Nat.le_of_ble_eq_true rfl) dX3_fewestLinks_16) (fun z_2 V_3 h_4 => ?_)
      obtain ⟨rfl, rfl⟩ := h_4
      refine j_ifb_eq (tgt := 25) C dX3_fewestLinks_19 (by decide) (fun q_5 => ?_) (fun q_5 => ?_)
      · refine j_iload_n C dX3_fewestLinks_25 rfl ?_
        refine j_aload_n C dX3_fewestLinks_26 rfl ?_
        refine j_iload_n C dX3_fewestLinks_27 rfl ?_
        refine j_doI (st := [si (m : Int)]) (j_runV C (kX3_linkedWithAny hn ok m rfl (by omega)) gX3_fewestLinks_X3_linkedWithAny sgX3_linkedWithAny rfl ⟨by decide, by decide⟩ (by decide) (en_4 _ _) rfl rfl rfl (Nat.le_of_ble_eq_true rfl) dX3_fewestLinks_28) (fun z_6 V_7 h_8 => ?_)
        obtain ⟨rfl, rfl⟩ := h_8
        refine j_ior C dX3_fewestLinks_31 ?_
        refine j_top (bOr_nat (by omega) (by have := gLa_lt ok m (gN g); omega)) ?_
        refine j_istore_n (lv' := [(0, sr 4), (1, si (u : Int)), (2, si (t : Int)), (3, si ((m ||| (gLa g m (gN g)) : Nat) : Int)), (4, si (h : Int))]) C dX3_fewestLinks_32 (by decide) rfl ?_
        refine j_iinc (lv' := [(0, sr 4), (1, si (u : Int)), (2, si (t : Int)), (3, si ((m ||| (gLa g m (gN g)) : Nat) : Int)), (4, si ((h : Int) + 1))]) C dX3_fewestLinks_33 rfl (by decide) rfl ?_
        refine j_goto (tgt := 7) C dX3_fewestLinks_36 (by decide) ?_
        refine j_lv (lv' := [(0, sr 4), (1, si (u : Int)), (2, si (t : Int)), (3, si ((gNx g m : Nat) : Int)), (4, si ((h : Int) + 1))]) rfl ?_
        exact ih (gNx g m) (h + 1) (gNx_lt ok hm) (by omega) (by rw [show gFw g t (fuel + 1) m h = gFw g t fuel (gNx g m) (h + 1) by rw [gFw, if_neg (by simp_all)]] at hpo; exact hpo)
      · refine j_iload C dX3_fewestLinks_22 rfl ?_
        refine j_iret C hQ dX3_fewestLinks_24 ?_
        first
          | (rw [show gFw g t (fuel + 1) m h = (h : Int) by rw [gFw, if_pos (by simp_all)]] at hpo; exact hpo)
set_option maxHeartbeats 4000000 in
set_option maxRecDepth 100000 in
theorem kX3_fewestLinks {O : OmT} {l : Launch} {V : Mem} {g : Nat → Int} (hn : net V g) (ok : okg g) {zu : Int} {zt : Int} (u t : Nat) (eu : zu = (u : Int)) (et : zt = (t : Int)) (hu : u < 10) (ht : t < 10) : MI O l yX3_fewestLinks wsX3_fewestLinks rX3_fewestLinks [sr 4, si zu, si zt] V (fun z V2 => V = V2 ∧ z = gHops g u t) := by
  refine mi_of (cc := cX3_fewestLinks) (nL := 5) (rt := (some .int)) (by decide) rfl rfl (Nat.le_of_ble_eq_true rfl) (fun F hF C hQ => ?_)
  subst hF
  subst eu et
  change J O F rX3_fewestLinks 5 V 0 [(0, sr 4), (1, si (u : Int)), (2, si (t : Int))] []
  refine j_iconst C dX3_fewestLinks_0 ?_
  refine j_iload_n C dX3_fewestLinks_1 rfl ?_
  refine j_ishl C dX3_fewestLinks_2 ?_
  refine j_top (bShl_1 (by omega)) ?_
  refine j_istore_n (lv' := [(0, sr 4), (1, si (u : Int)), (2, si (t : Int)), (3, si ((2 ^ u : Nat) : Int))]) C dX3_fewestLinks_3 (by decide) rfl ?_
  refine j_iconst C dX3_fewestLinks_4 ?_
  refine j_istore (lv' := [(0, sr 4), (1, si (u : Int)), (2, si (t : Int)), (3, si ((2 ^ u : Nat) : Int)), (4, si 0)]) C dX3_fewestLinks_5 (by decide) rfl ?_
  exact lpX3_fewestLinks C hQ hn ok ht 10 (2 ^ u) 0 (p2_10 hu) rfl ⟨rfl, (gHops_Fw ok hu)⟩
def rX5_hops : Room := { frames := 3, cells := 0, slots := 0, locals := 68 }
theorem sgX5_hops : sg yX5_hops wsX5_hops cX5_hops 3 (some .int) rX5_hops 2 := ⟨⟨_, rfl⟩, rfl, rfl, by decide, by decide, by decide +kernel⟩
set_option maxHeartbeats 4000000 in
set_option maxRecDepth 100000 in
theorem kX5_hops {O : OmT} {l : Launch} {V : Mem} {g : Nat → Int} (hn : net V g) (ok : okg g) (s : Int) (t : Int) (hs : -2147483648 ≤ s ∧ s < 2147483648) (ht : -2147483648 ≤ t ∧ t < 2147483648) : MI O l yX5_hops wsX5_hops rX5_hops [sr 0, si s, si t] V (fun z V2 => V = V2 ∧ z = aHops g s t) := by
  refine mi_of (cc := cX5_hops) (nL := 3) (rt := (some .int)) (by decide) rfl rfl (Nat.le_of_ble_eq_true rfl) (fun F hF C hQ => ?_)
  subst hF
  change J O F rX5_hops 3 V 0 [(0, sr 0), (1, si s), (2, si t)] []
  refine j_aload_n C dX5_hops_0 rfl ?_
  refine j_get (v := sr 1) C 0 0 (by decide) (en_0 _ _) rfl (by decide) (fun w h => List.mem_cons_of_mem _ (List.mem_append_left _ (List.mem_append_left _ (List.mem_append_right _ h)))) (List.mem_of_getElem? (i := 1) rfl) dX5_hops_1 rfl ?_
  refine j_iload_n C dX5_hops_4 rfl ?_
  refine j_doI (st := []) (j_runVN C (kX1_has hn.1 ok s (by omega)) ggX5_hops_X1_has sgX1_has rfl (List.mem_of_getElem? (i := 28) rfl) (List.mem_of_getElem? (i := 6) rfl) (List.mem_of_getElem? (i := 5) rfl) (List.mem_of_getElem? (i := 7) rfl) ⟨by decide, by decide⟩ (by decide) (en_G (c := 1) (by decide) _) rfl rfl rfl (Nat.le_of_ble_eq_true rfl) dX5_hops_5) (fun z_1 V_2 h_3 => ?_)
  obtain ⟨rfl, rfl⟩ := h_3
  refine j_ifb_eq (tgt := 22) C dX5_hops_8 (by decide) (fun q_4 => ?_) (fun q_4 => ?_)
  · refine j_ldc (n := -1000000001) C (List.mem_of_getElem? (i := 2) rfl) (by decide) dX5_hops_22 ?_
    refine j_iret C hQ dX5_hops_24 ?_
    refine ⟨rfl, ?_⟩
    unfold aHops gI
    simp_all
    try omega
  · refine j_aload_n C dX5_hops_11 rfl ?_
    refine j_get (v := sr 1) C 0 0 (by decide) (en_0 _ _) rfl (by decide) (fun w h => List.mem_cons_of_mem _ (List.mem_append_left _ (List.mem_append_left _ (List.mem_append_right _ h)))) (List.mem_of_getElem? (i := 1) rfl) dX5_hops_12 rfl ?_
    refine j_iload_n C dX5_hops_15 rfl ?_
    refine j_doI (st := []) (j_runVN C (kX1_has hn.1 ok t (by omega)) ggX5_hops_X1_has sgX1_has rfl (List.mem_of_getElem? (i := 28) rfl) (List.mem_of_getElem? (i := 6) rfl) (List.mem_of_getElem? (i := 5) rfl) (List.mem_of_getElem? (i := 7) rfl) ⟨by decide, by decide⟩ (by decide) (en_G (c := 1) (by decide) _) rfl rfl rfl (Nat.le_of_ble_eq_true rfl) dX5_hops_16) (fun z_5 V_6 h_7 => ?_)
    obtain ⟨rfl, rfl⟩ := h_7
    refine j_ifb_ne (tgt := 25) C dX5_hops_19 (by decide) (fun q_8 => ?_) (fun q_8 => ?_)
    · refine j_aload_n C dX5_hops_25 rfl ?_
      refine j_get (v := sr 1) C 0 0 (by decide) (en_0 _ _) rfl (by decide) (fun w h => List.mem_cons_of_mem _ (List.mem_append_left _ (List.mem_append_left _ (List.mem_append_right _ h)))) (List.mem_of_getElem? (i := 1) rfl) dX5_hops_26 rfl ?_
      refine j_iload_n C dX5_hops_29 rfl ?_
      refine j_doI (st := []) (j_runVN C (kX1_isAwake hn.1 ok s (by omega)) ggX5_hops_X1_isAwake sgX1_isAwake rfl (List.mem_of_getElem? (i := 29) rfl) (List.mem_of_getElem? (i := 6) rfl) (List.mem_of_getElem? (i := 10) rfl) (List.mem_of_getElem? (i := 11) rfl) ⟨by decide, by decide⟩ (by decide) (en_G (c := 1) (by decide) _) rfl rfl rfl (Nat.le_of_ble_eq_true rfl) dX5_hops_30) (fun z_9 V_10 h_11 => ?_)
      obtain ⟨rfl, rfl⟩ := h_11
      refine j_top (b := bI (gA g s.toNat)) (by rw [decide_eq_true (show 0 ≤ s by have := ok.n; simp only [gI, Bool.and_eq_true, decide_eq_true_eq] at *; omega), Bool.true_and]) ?_
      refine j_ifb_eq (tgt := 47) C dX5_hops_33 (by decide) (fun q_12 => ?_) (fun q_12 => ?_)
      · refine j_ldc (n := -1000000003) C (List.mem_of_getElem? (i := 3) rfl) (by decide) dX5_hops_47 ?_
        refine j_iret C hQ dX5_hops_49 ?_
        refine ⟨rfl, ?_⟩
        unfold aHops gI
        simp_all
        try omega
      · refine j_aload_n C dX5_hops_36 rfl ?_
        refine j_get (v := sr 1) C 0 0 (by decide) (en_0 _ _) rfl (by decide) (fun w h => List.mem_cons_of_mem _ (List.mem_append_left _ (List.mem_append_left _ (List.mem_append_right _ h)))) (List.mem_of_getElem? (i := 1) rfl) dX5_hops_37 rfl ?_
        refine j_iload_n C dX5_hops_40 rfl ?_
        refine j_doI (st := []) (j_runVN C (kX1_isAwake hn.1 ok t (by omega)) ggX5_hops_X1_isAwake sgX1_isAwake rfl (List.mem_of_getElem? (i := 29) rfl) (List.mem_of_getElem? (i := 6) rfl) (List.mem_of_getElem? (i := 10) rfl) (List.mem_of_getElem? (i := 11) rfl) ⟨by decide, by decide⟩ (by decide) (en_G (c := 1) (by decide) _) rfl rfl rfl (Nat.le_of_ble_eq_true rfl) dX5_hops_41) (fun z_13 V_14 h_15 => ?_)
        obtain ⟨rfl, rfl⟩ := h_15
        refine j_top (b := bI (gA g t.toNat)) (by rw [decide_eq_true (show 0 ≤ t by have := ok.n; simp only [gI, Bool.and_eq_true, decide_eq_true_eq] at *; omega), Bool.true_and]) ?_
        refine j_ifb_ne (tgt := 50) C dX5_hops_44 (by decide) (fun q_16 => ?_) (fun q_16 => ?_)
        · refine j_aload_n C dX5_hops_50 rfl ?_
          refine j_get (v := sr 4) C 0 1 (by decide) (en_0 _ _) rfl (by decide) (fun w h => List.mem_cons_of_mem _ (List.mem_append_left _ (List.mem_append_left _ (List.mem_append_right _ h)))) (List.mem_of_getElem? (i := 4) rfl) dX5_hops_51 rfl ?_
          refine j_iload_n C dX5_hops_54 rfl ?_
          refine j_iload_n C dX5_hops_55 rfl ?_
          refine j_doI (st := []) (j_runVN C (kX3_fewestLinks hn ok s.toNat t.toNat (by have := ok.n; simp only [gI, Bool.and_eq_true, decide_eq_true_eq] at *; omega) (by have := ok.n; simp only [gI, Bool.and_eq_true, decide_eq_true_eq] at *; omega) (by have := ok.n; simp only [gI, Bool.and_eq_true, decide_eq_true_eq] at *; omega) (by have := ok.n; simp only [gI, Bool.and_eq_true, decide_eq_true_eq] at *; omega)) ggX5_hops_X3_fewestLinks sgX3_fewestLinks rfl (List.mem_of_getElem? (i := 37) rfl) (List.mem_of_getElem? (i := 19) rfl) (List.mem_of_getElem? (i := 18) rfl) (List.mem_of_getElem? (i := 20) rfl) ⟨by decide, by decide⟩ (by decide) (en_4 _ _) rfl rfl rfl (Nat.le_of_ble_eq_true rfl) dX5_hops_56) (fun z_17 V_18 h_19 => ?_)
          obtain ⟨rfl, rfl⟩ := h_19
          refine j_iret C hQ dX5_hops_59 ?_
          refine ⟨rfl, ?_⟩
          unfold aHops gI
          simp_all
          try omega
        · refine j_ldc (n := -1000000003) C (List.mem_of_getElem? (i := 3) rfl) (by decide) dX5_hops_47 ?_
          refine j_iret C hQ dX5_hops_49 ?_
          refine ⟨rfl, ?_⟩
          unfold aHops gI
          simp_all
          try omega
    · refine j_ldc (n := -1000000001) C (List.mem_of_getElem? (i := 2) rfl) (by decide) dX5_hops_22 ?_
      refine j_iret C hQ dX5_hops_24 ?_
      refine ⟨rfl, ?_⟩
      unfold aHops gI
      simp_all
      try omega
def rX3_partOf : Room := { frames := 2, cells := 0, slots := 0, locals := 44 }
theorem sgX3_partOf : sg yX3_partOf wsX3_partOf cX3_partOf 4 (some .int) rX3_partOf 1 := ⟨⟨_, rfl⟩, rfl, rfl, by decide, by decide, by decide +kernel⟩
set_option maxHeartbeats 4000000 in
set_option maxRecDepth 100000 in
theorem lpX3_partOf {O : OmT} {F : PhT} {V : Mem} {g : Nat → Int} (C : cx O F RX3 cX3_partOf 4 (some .int) wsX3_partOf) {post : Int → Mem → Prop} (hQ : qI O F post) (hn : net V g) (ok : okg g) {v : Nat} (hv : v < 10) (hpo : post (gCl g v : Int) V) : ∀ (fuel : Nat) (w : Nat), (w ≤ 10) → 10 - w < fuel → J O F rX3_partOf 4 V 6 [(0, sr 4), (1, si (v : Int)), (2, si ((gIt g w (2 ^ v) : Nat) : Int)), (3, si (w : Int))] [] := by
  intro fuel
  induction fuel with
  | zero => intro w hw hf; exact absurd hf (Nat.not_lt_zero _)
  | succ fuel ih =>
    intro w hw hf
    have n1 := ok.n
    have im := gIt_lt ok w (p2_10 hv)
    refine j_iload_n C dX3_partOf_6 rfl ?_
    refine j_bipush C dX3_partOf_7 (by decide) ?_
    refine j_icmp_ge (tgt := 26) C dX3_partOf_9 (by decide) (by omega) (by decide) (fun q_1 => ?_) (fun q_1 => ?_)
    · refine j_iload_n C dX3_partOf_26 rfl ?_
      refine j_iret C hQ dX3_partOf_27 ?_
      have e : w = 10 := by omega
      subst e; exact hpo
    · refine j_iload_n C dX3_partOf_12 rfl ?_
      refine j_aload_n C dX3_partOf_13 rfl ?_
      refine j_iload_n C dX3_partOf_14 rfl ?_
      refine j_doI (st := [si ((gIt g w (2 ^ v) : Nat) : Int)]) (j_runV C (kX3_linkedWithAny hn ok (gIt g w (2 ^ v)) rfl im) gX3_partOf_X3_linkedWithAny sgX3_linkedWithAny rfl ⟨by decide, by decide⟩ (by decide) (en_4 _ _) rfl rfl rfl (Nat.le_of_ble_eq_true rfl) dX3_partOf_15) (fun z_2 V_3 h_4 => ?_)
      obtain ⟨rfl, rfl⟩ := h_4
      refine j_ior C dX3_partOf_18 ?_
      refine j_top (bOr_nat (by omega) (by have := gLa_lt ok (gIt g w (2 ^ v)) (gN g); omega)) ?_
      refine j_istore_n (lv' := [(0, sr 4), (1, si (v : Int)), (2, si (((gIt g w (2 ^ v)) ||| (gLa g (gIt g w (2 ^ v)) (gN g)) : Nat) : Int)), (3, si (w : Int))]) C dX3_partOf_19 (by decide) rfl ?_
      refine j_iinc (lv' := [(0, sr 4), (1, si (v : Int)), (2, si (((gIt g w (2 ^ v)) ||| (gLa g (gIt g w (2 ^ v)) (gN g)) : Nat) : Int)), (3, si ((w : Int) + 1))]) C dX3_partOf_20 rfl (by decide) rfl ?_
      refine j_goto (tgt := 6) C dX3_partOf_23 (by decide) ?_
      have e2 : ((gIt g (w + 1) (2 ^ v) : Nat) : Int) = (((gIt g w (2 ^ v)) ||| (gLa g (gIt g w (2 ^ v)) (gN g)) : Nat) : Int) := by
        rw [gIt_s]; rfl
      refine j_lv (lv' := [(0, sr 4), (1, si (v : Int)), (2, si ((gIt g (w + 1) (2 ^ v) : Nat) : Int)), (3, si ((w : Int) + 1))]) (by rw [e2]) ?_
      exact ih (w + 1) (by omega) (by omega)
set_option maxHeartbeats 4000000 in
set_option maxRecDepth 100000 in
theorem kX3_partOf {O : OmT} {l : Launch} {V : Mem} {g : Nat → Int} (hn : net V g) (ok : okg g) {zv : Int} (v : Nat) (ev : zv = (v : Int)) (hv : v < 10) : MI O l yX3_partOf wsX3_partOf rX3_partOf [sr 4, si zv] V (fun z V2 => V = V2 ∧ z = (gCl g v : Int)) := by
  refine mi_of (cc := cX3_partOf) (nL := 4) (rt := (some .int)) (by decide) rfl rfl (Nat.le_of_ble_eq_true rfl) (fun F hF C hQ => ?_)
  subst hF
  subst ev
  change J O F rX3_partOf 4 V 0 [(0, sr 4), (1, si (v : Int))] []
  refine j_iconst C dX3_partOf_0 ?_
  refine j_iload_n C dX3_partOf_1 rfl ?_
  refine j_ishl C dX3_partOf_2 ?_
  refine j_top (bShl_1 (by omega)) ?_
  refine j_istore_n (lv' := [(0, sr 4), (1, si (v : Int)), (2, si ((2 ^ v : Nat) : Int))]) C dX3_partOf_3 (by decide) rfl ?_
  refine j_iconst C dX3_partOf_4 ?_
  refine j_istore_n (lv' := [(0, sr 4), (1, si (v : Int)), (2, si ((2 ^ v : Nat) : Int)), (3, si 0)]) C dX3_partOf_5 (by decide) rfl ?_
  exact lpX3_partOf C hQ hn ok hv ⟨rfl, rfl⟩ _ 0 (Nat.zero_le _) (Nat.lt_succ_self _)
def rX3_countParts : Room := { frames := 3, cells := 0, slots := 0, locals := 67 }
theorem sgX3_countParts : sg yX3_countParts wsX3_countParts cX3_countParts 4 (some .int) rX3_countParts 0 := ⟨⟨_, rfl⟩, rfl, rfl, by decide, by decide, by decide +kernel⟩
set_option maxHeartbeats 4000000 in
set_option maxRecDepth 100000 in
theorem lpX3_countParts {O : OmT} {F : PhT} {V : Mem} {g : Nat → Int} (C : cx O F RX3 cX3_countParts 4 (some .int) wsX3_countParts) {post : Int → Mem → Prop} (hQ : qI O F post) (hn : net V g) (ok : okg g) (hpo : post (gPt g (gN g)).1 V) : ∀ (fuel : Nat) (w : Nat), (w ≤ gN g) → gN g - w < fuel → J O F rX3_countParts 4 V 6 [(0, sr 4), (1, si ((gPt g w).1)), (2, si (((gPt g w).2 : Nat) : Int)), (3, si (w : Int))] [] := by
  intro fuel
  induction fuel with
  | zero => intro w hw hf; exact absurd hf (Nat.not_lt_zero _)
  | succ fuel ih =>
    intro w hw hf
    have n1 := ok.n
    have pl := gPt_lt ok w (by omega)
    refine j_iload_n C dX3_countParts_6 rfl ?_
    refine j_aload_n C dX3_countParts_7 rfl ?_
    refine j_get (v := sr 1) C 4 0 (by decide) (en_4 _ _) rfl (by decide) (fun w h => List.mem_cons_of_mem _ (List.mem_append_left _ (List.mem_append_right _ h))) (List.mem_of_getElem? (i := 1) rfl) dX3_countParts_8 rfl ?_
    refine j_getN (v := si (V 1 2)) C 1 2 (by decide) (en_G (c := 1) (by decide) _) rfl (by decide) (fun w h => List.mem_cons_of_mem _ (List.mem_append_right _ h)) (List.mem_of_getElem? (i := 6) rfl) dX3_countParts_11 rfl ?_
    refine j_top hn.1.1 ?_
    refine j_icmp_ge (tgt := 53) C dX3_countParts_14 (by decide) (by omega) (by have := ok.1; omega) (fun q_1 => ?_) (fun q_1 => ?_)
    · refine j_iload_n C dX3_countParts_53 rfl ?_
      refine j_iret C hQ dX3_countParts_54 ?_
      have e : w = gN g := by omega
      subst e; exact hpo
    · refine j_aload_n C dX3_countParts_17 rfl ?_
      refine j_get (v := sr 1) C 4 0 (by decide) (en_4 _ _) rfl (by decide) (fun w h => List.mem_cons_of_mem _ (List.mem_append_left _ (List.mem_append_right _ h))) (List.mem_of_getElem? (i := 1) rfl) dX3_countParts_18 rfl ?_
      refine j_iload_n C dX3_countParts_21 rfl ?_
      refine j_doI (st := []) (j_runVN C (kX1_isAwake hn.1 ok (w : Int) (by omega)) ggX3_countParts_X1_isAwake sgX1_isAwake rfl (List.mem_of_getElem? (i := 13) rfl) (List.mem_of_getElem? (i := 3) rfl) (List.mem_of_getElem? (i := 2) rfl) (List.mem_of_getElem? (i := 4) rfl) ⟨by decide, by decide⟩ (by decide) (en_G (c := 1) (by decide) _) rfl rfl rfl (Nat.le_of_ble_eq_true rfl) dX3_countParts_22) (fun z_2 V_3 h_4 => ?_)
      obtain ⟨rfl, rfl⟩ := h_4
      refine j_top (b := bI (gA g w)) (by simp) ?_
      refine j_ifb_eq (tgt := 47) C dX3_countParts_25 (by decide) (fun q_5 => ?_) (fun q_5 => ?_)
      · refine j_iinc (lv' := [(0, sr 4), (1, si ((gPt g w).1)), (2, si (((gPt g w).2 : Nat) : Int)), (3, si ((w : Int) + 1))]) C dX3_countParts_47 rfl (by decide) rfl ?_
        refine j_goto (tgt := 6) C dX3_countParts_50 (by decide) ?_
        have e1 : ((gPt g (w + 1)).1) = ((gPt g w).1) := by
          rw [gPt_s]; simp_all
        have e2 : (((gPt g (w + 1)).2 : Nat) : Int) = (((gPt g w).2 : Nat) : Int) := by
          rw [gPt_s]; simp_all
        refine j_lv (lv' := [(0, sr 4), (1, si ((gPt g (w + 1)).1)), (2, si (((gPt g (w + 1)).2 : Nat) : Int)), (3, si ((w : Int) + 1))]) (by rw [e1, e2]) ?_
        exact ih (w + 1) (by omega) (by omega)
      · refine j_iload_n C dX3_countParts_28 rfl ?_
        refine j_iload_n C dX3_countParts_29 rfl ?_
        refine j_doI (st := []) (j_runSN C (kX5_holds ((gPt g w).2) w rfl rfl (by omega) (by omega)) ggX3_countParts_X5_holds sgX5_holds (List.mem_of_getElem? (i := 8) rfl) (List.mem_of_getElem? (i := 13) rfl) (List.mem_of_getElem? (i := 12) rfl) ⟨by decide, by decide⟩ rfl rfl (Nat.le_of_ble_eq_true rfl) dX3_countParts_30) (fun z_6 V_7 h_8 => ?_)
        obtain ⟨rfl, rfl⟩ := h_8
        refine j_ifb_ne (tgt := 47) C dX3_countParts_33 (by decide) (fun q_9 => ?_) (fun q_9 => ?_)
        · refine j_iinc (lv' := [(0, sr 4), (1, si ((gPt g w).1)), (2, si (((gPt g w).2 : Nat) : Int)), (3, si ((w : Int) + 1))]) C dX3_countParts_47 rfl (by decide) rfl ?_
          refine j_goto (tgt := 6) C dX3_countParts_50 (by decide) ?_
          have e1 : ((gPt g (w + 1)).1) = ((gPt g w).1) := by
            rw [gPt_s]; simp_all
          have e2 : (((gPt g (w + 1)).2 : Nat) : Int) = (((gPt g w).2 : Nat) : Int) := by
            rw [gPt_s]; simp_all
          refine j_lv (lv' := [(0, sr 4), (1, si ((gPt g (w + 1)).1)), (2, si (((gPt g (w + 1)).2 : Nat) : Int)), (3, si ((w : Int) + 1))]) (by rw [e1, e2]) ?_
          exact ih (w + 1) (by omega) (by omega)
        · refine j_iinc (lv' := [(0, sr 4), (1, si (((gPt g w).1) + 1)), (2, si (((gPt g w).2 : Nat) : Int)), (3, si (w : Int))]) C dX3_countParts_36 rfl (by decide) rfl ?_
          refine j_iload_n C dX3_countParts_39 rfl ?_
          refine j_aload_n C dX3_countParts_40 rfl ?_
          refine j_iload_n C dX3_countParts_41 rfl ?_
          refine j_doI (st := [si (((gPt g w).2 : Nat) : Int)]) (j_runV C (kX3_partOf hn ok w rfl (by omega)) gX3_countParts_X3_partOf sgX3_partOf rfl ⟨by decide, by decide⟩ (by decide) (en_4 _ _) rfl rfl rfl (Nat.le_of_ble_eq_true rfl) dX3_countParts_42) (fun z_10 V_11 h_12 => ?_)
          obtain ⟨rfl, rfl⟩ := h_12
          refine j_ior C dX3_countParts_45 ?_
          refine j_top (bOr_nat (by omega) (by have := gCl_lt ok (show w < 10 by omega); omega)) ?_
          refine j_istore_n (lv' := [(0, sr 4), (1, si (((gPt g w).1) + 1)), (2, si ((((gPt g w).2) ||| (gCl g w) : Nat) : Int)), (3, si (w : Int))]) C dX3_countParts_46 (by decide) rfl ?_
          refine j_iinc (lv' := [(0, sr 4), (1, si (((gPt g w).1) + 1)), (2, si ((((gPt g w).2) ||| (gCl g w) : Nat) : Int)), (3, si ((w : Int) + 1))]) C dX3_countParts_47 rfl (by decide) rfl ?_
          refine j_goto (tgt := 6) C dX3_countParts_50 (by decide) ?_
          have e1 : ((gPt g (w + 1)).1) = (((gPt g w).1) + 1) := by
            rw [gPt_s]; simp_all
          have e2 : (((gPt g (w + 1)).2 : Nat) : Int) = ((((gPt g w).2) ||| (gCl g w) : Nat) : Int) := by
            rw [gPt_s]; simp_all
          refine j_lv (lv' := [(0, sr 4), (1, si ((gPt g (w + 1)).1)), (2, si (((gPt g (w + 1)).2 : Nat) : Int)), (3, si ((w : Int) + 1))]) (by rw [e1, e2]) ?_
          exact ih (w + 1) (by omega) (by omega)
set_option maxHeartbeats 4000000 in
set_option maxRecDepth 100000 in
theorem kX3_countParts {O : OmT} {l : Launch} {V : Mem} {g : Nat → Int} (hn : net V g) (ok : okg g) : MI O l yX3_countParts wsX3_countParts rX3_countParts [sr 4] V (fun z V2 => V = V2 ∧ z = (gPt g (gN g)).1) := by
  refine mi_of (cc := cX3_countParts) (nL := 4) (rt := (some .int)) (by decide) rfl rfl (Nat.le_of_ble_eq_true rfl) (fun F hF C hQ => ?_)
  subst hF
  change J O F rX3_countParts 4 V 0 [(0, sr 4)] []
  refine j_iconst C dX3_countParts_0 ?_
  refine j_istore_n (lv' := [(0, sr 4), (1, si 0)]) C dX3_countParts_1 (by decide) rfl ?_
  refine j_iconst C dX3_countParts_2 ?_
  refine j_istore_n (lv' := [(0, sr 4), (1, si 0), (2, si 0)]) C dX3_countParts_3 (by decide) rfl ?_
  refine j_iconst C dX3_countParts_4 ?_
  refine j_istore_n (lv' := [(0, sr 4), (1, si 0), (2, si 0), (3, si 0)]) C dX3_countParts_5 (by decide) rfl ?_
  exact lpX3_countParts C hQ hn ok ⟨rfl, rfl⟩ _ 0 (Nat.zero_le _) (Nat.lt_succ_self _)
def rX6_hops : Room := { frames := 5, cells := 0, slots := 0, locals := 115 }
theorem sgX6_hops : sg yX6_hops wsX6_hops cX6_hops 7 (some .int) rX6_hops 2 := ⟨⟨_, rfl⟩, rfl, rfl, by decide, by decide, by decide +kernel⟩
set_option maxHeartbeats 4000000 in
set_option maxRecDepth 100000 in
theorem lpX6_hops2 {O : OmT} {F : PhT} {V : Mem} {g : Nat → Int} (C : cx O F RX6 cX6_hops 7 (some .int) wsX6_hops) (hg : mdl V g) (ok : okg g) {s : Int} {tn m h : Nat} (hm : m < 1024) (kx : J O F rX6_hops 7 V 100 [(0, sr 72), (1, si s), (2, si (tn : Int)), (3, si ((m ||| gLa g m (gN g) : Nat) : Int)), (4, si (h : Int)), (5, si (m : Int)), (6, si ((gN g : Nat) : Int))] []) : ∀ (fuel : Nat) (w : Nat), (w ≤ gN g) → gN g - w < fuel → J O F rX6_hops 7 V 59 [(0, sr 72), (1, si s), (2, si (tn : Int)), (3, si ((m ||| gLa g m w : Nat) : Int)), (4, si (h : Int)), (5, si (m : Int)), (6, si (w : Int))] [] := by
  intro fuel
  induction fuel with
  | zero => intro w hw hf; exact absurd hf (Nat.not_lt_zero _)
  | succ fuel ih =>
    intro w hw hf
    have n1 := ok.n
    refine j_iload C dX6_hops_59 rfl ?_
    refine j_aload_n C dX6_hops_61 rfl ?_
    refine j_get (v := sr 73) C 72 0 (by decide) (en_72 _ _) rfl (by decide) (fun w h => List.mem_cons_of_mem _ (List.mem_append_right _ h)) (List.mem_of_getElem? (i := 3) rfl) dX6_hops_62 rfl ?_
    refine j_iconst C dX6_hops_65 ?_
    refine j_iald C (row_73 O) 0 rfl (by decide) dX6_hops_66 ?_
    refine j_top (hg 0 (by omega)) ?_
    refine j_icmp_ge (tgt := 100) C dX6_hops_67 (by decide) (by omega) (by have := ok.1; omega) (fun q_1 => ?_) (fun q_1 => ?_)
    · have e : w = gN g := by omega
      rw [e]
      exact kx
    · refine j_iload_n C dX6_hops_70 rfl ?_
      refine j_iload C dX6_hops_71 rfl ?_
      refine j_iload C dX6_hops_73 rfl ?_
      refine j_doI (st := [si ((m ||| gLa g m w : Nat) : Int)]) (j_runS C (kX6_has m w rfl rfl (by omega) (by omega)) ggX6_hops_X6_has sgX6_has (List.mem_of_getElem? (i := 16) rfl) (List.mem_of_getElem? (i := 7) rfl) (List.mem_of_getElem? (i := 17) rfl) ⟨by decide, by decide⟩ rfl rfl (Nat.le_of_ble_eq_true rfl) dX6_hops_75) (fun z_2 V_3 h_4 => ?_)
      obtain ⟨rfl, rfl⟩ := h_4
      refine j_ifb_eq (tgt := 91) C dX6_hops_78 (by decide) (fun q_5 => ?_) (fun q_5 => ?_)
      · refine j_iconst C dX6_hops_91 ?_
        refine j_ior C dX6_hops_92 ?_
        refine j_top (bOr_nat (Nat.lt_trans (Nat.or_lt_two_pow (n := 10) hm (gLa_lt ok m w)) (by decide)) (by decide)) ?_
        refine j_istore_n (lv' := [(0, sr 72), (1, si s), (2, si (tn : Int)), (3, si (((m ||| gLa g m w) ||| 0 : Nat) : Int)), (4, si (h : Int)), (5, si (m : Int)), (6, si (w : Int))]) C dX6_hops_93 (by decide) rfl ?_
        refine j_iinc (lv' := [(0, sr 72), (1, si s), (2, si (tn : Int)), (3, si (((m ||| gLa g m w) ||| 0 : Nat) : Int)), (4, si (h : Int)), (5, si (m : Int)), (6, si ((w : Int) + 1))]) C dX6_hops_94 rfl (by decide) rfl ?_
        refine j_goto (tgt := 59) C dX6_hops_97 (by decide) ?_
        have e3 : ((m ||| gLa g m (w + 1) : Nat) : Int) = (((m ||| gLa g m w) ||| 0 : Nat) : Int) := by
          rw [show gLa g m (w + 1) = gLa g m w ||| (if m.testBit w then gLs g w (gN g) else 0) from rfl, ← Nat.or_assoc]
          simp_all [gSt]
        refine j_lv (lv' := [(0, sr 72), (1, si s), (2, si (tn : Int)), (3, si ((m ||| gLa g m (w + 1) : Nat) : Int)), (4, si (h : Int)), (5, si (m : Int)), (6, si ((w : Int) + 1))]) (by rw [e3]) ?_
        exact ih (w + 1) (by omega) (by omega)
      · refine j_aload_n C dX6_hops_81 rfl ?_
        refine j_iload C dX6_hops_82 rfl ?_
        refine j_iconst C dX6_hops_84 ?_
        refine j_doI (st := [si ((m ||| gLa g m w : Nat) : Int)]) (j_runV C (kX6_setOf hg ok w false rfl (by omega)) gX6_hops_X6_setOf sgX6_setOf rfl ⟨by decide, by decide⟩ (by decide) (en_72 _ _) rfl rfl rfl (Nat.le_of_ble_eq_true rfl) dX6_hops_85) (fun z_6 V_7 h_8 => ?_)
        obtain ⟨rfl, rfl⟩ := h_8
        refine j_goto (tgt := 92) C dX6_hops_88 (by decide) ?_
        refine j_ior C dX6_hops_92 ?_
        refine j_top (bOr_nat (Nat.lt_trans (Nat.or_lt_two_pow (n := 10) hm (gLa_lt ok m w)) (by decide)) (Nat.lt_trans (gSt_lt g false w (gN g)) (p2_31 (by omega)))) ?_
        refine j_istore_n (lv' := [(0, sr 72), (1, si s), (2, si (tn : Int)), (3, si (((m ||| gLa g m w) ||| (gSt g false w (gN g)) : Nat) : Int)), (4, si (h : Int)), (5, si (m : Int)), (6, si (w : Int))]) C dX6_hops_93 (by decide) rfl ?_
        refine j_iinc (lv' := [(0, sr 72), (1, si s), (2, si (tn : Int)), (3, si (((m ||| gLa g m w) ||| (gSt g false w (gN g)) : Nat) : Int)), (4, si (h : Int)), (5, si (m : Int)), (6, si ((w : Int) + 1))]) C dX6_hops_94 rfl (by decide) rfl ?_
        refine j_goto (tgt := 59) C dX6_hops_97 (by decide) ?_
        have e3 : ((m ||| gLa g m (w + 1) : Nat) : Int) = (((m ||| gLa g m w) ||| (gSt g false w (gN g)) : Nat) : Int) := by
          rw [show gLa g m (w + 1) = gLa g m w ||| (if m.testBit w then gLs g w (gN g) else 0) from rfl, ← Nat.or_assoc]
          simp_all [gSt]
        refine j_lv (lv' := [(0, sr 72), (1, si s), (2, si (tn : Int)), (3, si ((m ||| gLa g m (w + 1) : Nat) : Int)), (4, si (h : Int)), (5, si (m : Int)), (6, si ((w : Int) + 1))]) (by rw [e3]) ?_
        exact ih (w + 1) (by omega) (by omega)
set_option maxHeartbeats 4000000 in
set_option maxRecDepth 100000 in
theorem lpX6_hops {O : OmT} {F : PhT} {V : Mem} {g : Nat → Int} (C : cx O F RX6 cX6_hops 7 (some .int) wsX6_hops) {post : Int → Mem → Prop} (hQ : qI O F post) (hg : mdl V g) (ok : okg g) {s : Int} {tn : Nat} (ht : tn < 10) : ∀ (fuel : Nat) (m : Nat) (h : Nat), (m < 1024) → ((h : Int) + 1 ≤ pcN m 10) → (fuel + h = 11) → (post (gHp g tn fuel m h) V) → J O F rX6_hops 7 V 45 [(0, sr 72), (1, si s), (2, si (tn : Int)), (3, si (m : Int)), (4, si (h : Int))] [] := by
  intro fuel
  induction fuel with
  | zero => intro m h hm hp hf hpo; exfalso; have := pcN_rg m 10; omega
  | succ fuel ih =>
    intro m h hm hp hf hpo
    have n1 := ok.n
    refine j_iload_n C dX6_hops_45 rfl ?_
    refine j_iload_n C dX6_hops_46 rfl ?_
    refine j_doI (st := []) (j_runS C (kX6_has m tn rfl rfl (by omega) (by omega)) ggX6_hops_X6_has sgX6_has (List.mem_of_getElem? (i := 16) rfl) (List.mem_of_getElem? (i := 7) rfl) (List.mem_of_getElem? (i := 17) rfl) ⟨by decide, by decide⟩ rfl rfl (Nat.le_of_ble_eq_true rfl) dX6_hops_47) (fun z_1 V_2 h_3 => ?_)
    obtain ⟨rfl, rfl⟩ := h_3
    refine j_ifb_ne (tgt := 114) C dX6_hops_50 (by decide) (fun q_4 => ?_) (fun q_4 => ?_)
    · refine j_iload C dX6_hops_114 rfl ?_
      refine j_iret C hQ dX6_hops_116 ?_
      first
        | (rw [show gHp g tn (fuel + 1) m h = (h : Int) by rw [gHp, if_pos (by simp_all)]] at hpo; exact hpo)
        | (rw [show gHp g tn (fuel + 1) m h = -1 by rw [gHp, if_neg (by simp_all), if_pos (by unfold gNx; omega)]] at hpo; exact hpo)
    · refine j_iload_n C dX6_hops_53 rfl ?_
      refine j_istore (lv' := [(0, sr 72), (1, si s), (2, si (tn : Int)), (3, si (m : Int)), (4, si (h : Int)), (5, si (m : Int))]) C dX6_hops_54 (by decide) rfl ?_
      refine j_iconst C dX6_hops_56 ?_
      refine j_istore (lv' := [(0, sr 72), (1, si s), (2, si (tn : Int)), (3, si (m : Int)), (4, si (h : Int)), (5, si (m : Int)), (6, si 0)]) C dX6_hops_57 (by decide) rfl ?_
      refine j_lv (lv' := [(0, sr 72), (1, si s), (2, si (tn : Int)), (3, si ((m ||| gLa g m 0 : Nat) : Int)), (4, si (h : Int)), (5, si (m : Int)), (6, si (0 : Int))]) (by rw [show gLa g m 0 = 0 from rfl, Nat.or_zero]) ?_
      refine lpX6_hops2 C hg ok hm ?_ _ 0 (Nat.zero_le _) (Nat.lt_succ_self _)
      refine j_iload_n C dX6_hops_100 rfl ?_
      refine j_iload C dX6_hops_101 rfl ?_
      refine j_icmp_ne (tgt := 108) C dX6_hops_103 (by decide) (by have := gNx_lt ok hm; unfold gNx at this; omega) (by omega) (fun q_5 => ?_) (fun q_5 => ?_)
      · refine j_iinc (lv' := [(0, sr 72), (1, si s), (2, si (tn : Int)), (3, si ((m ||| gLa g m (gN g) : Nat) : Int)), (4, si ((h : Int) + 1)), (5, si (m : Int)), (6, si ((gN g : Nat) : Int))]) C dX6_hops_108 rfl (by decide) rfl ?_
        refine j_goto (tgt := 45) C dX6_hops_111 (by decide) ?_
        refine j_pick (lv' := [(0, sr 72), (1, si s), (2, si (tn : Int)), (3, si ((m ||| gLa g m (gN g) : Nat) : Int)), (4, si ((h : Int) + 1))]) [0, 1, 2, 3, 4] rfl ?_
        have h9 : ¬ gNx g m = m := fun q => by unfold gNx at q; omega
        refine ih (gNx g m) (h + 1) (gNx_lt ok hm) (by have := pcN_lt hm (gNx_lt ok hm) (gNx_sub g m) h9; omega) (by omega) (by rw [show gHp g tn (fuel + 1) m h = gHp g tn fuel (gNx g m) (h + 1) by rw [gHp, if_neg (by simp_all), if_neg h9]] at hpo; exact hpo)
      · refine j_iconst C dX6_hops_106 ?_
        refine j_iret C hQ dX6_hops_107 ?_
        first
          | (rw [show gHp g tn (fuel + 1) m h = (h : Int) by rw [gHp, if_pos (by simp_all)]] at hpo; exact hpo)
          | (rw [show gHp g tn (fuel + 1) m h = -1 by rw [gHp, if_neg (by simp_all), if_pos (by unfold gNx; omega)]] at hpo; exact hpo)
set_option maxHeartbeats 4000000 in
set_option maxRecDepth 100000 in
theorem kX6_hops {O : OmT} {l : Launch} {V : Mem} {g : Nat → Int} (hg : mdl V g) (ok : okg g) (s : Int) (t : Int) (hs : -2147483648 ≤ s ∧ s < 2147483648) (ht : -2147483648 ≤ t ∧ t < 2147483648) : MI O l yX6_hops wsX6_hops rX6_hops [sr 72, si s, si t] V (fun z V2 => V = V2 ∧ z = aHops g s t) := by
  refine mi_of (cc := cX6_hops) (nL := 7) (rt := (some .int)) (by decide) rfl rfl (Nat.le_of_ble_eq_true rfl) (fun F hF C hQ => ?_)
  subst hF
  change J O F rX6_hops 7 V 0 [(0, sr 72), (1, si s), (2, si t)] []
  refine j_aload_n C dX6_hops_0 rfl ?_
  refine j_iload_n C dX6_hops_1 rfl ?_
  refine j_doI (st := []) (j_runV C (kX6_isNode hg ok s (by omega)) gX6_hops_X6_isNode sgX6_isNode rfl ⟨by decide, by decide⟩ (by decide) (en_72 _ _) rfl rfl rfl (Nat.le_of_ble_eq_true rfl) dX6_hops_2) (fun z_1 V_2 h_3 => ?_)
  obtain ⟨rfl, rfl⟩ := h_3
  refine j_ifb_eq (tgt := 16) C dX6_hops_5 (by decide) (fun q_4 => ?_) (fun q_4 => ?_)
  · refine j_ldc (n := -1000000001) C (List.mem_of_getElem? (i := 1) rfl) (by decide) dX6_hops_16 ?_
    refine j_iret C hQ dX6_hops_18 ?_
    refine ⟨rfl, ?_⟩
    unfold aHops gI
    simp_all
    try omega
  · refine j_aload_n C dX6_hops_8 rfl ?_
    refine j_iload_n C dX6_hops_9 rfl ?_
    refine j_doI (st := []) (j_runV C (kX6_isNode hg ok t (by omega)) gX6_hops_X6_isNode sgX6_isNode rfl ⟨by decide, by decide⟩ (by decide) (en_72 _ _) rfl rfl rfl (Nat.le_of_ble_eq_true rfl) dX6_hops_10) (fun z_5 V_6 h_7 => ?_)
    obtain ⟨rfl, rfl⟩ := h_7
    refine j_ifb_ne (tgt := 19) C dX6_hops_13 (by decide) (fun q_8 => ?_) (fun q_8 => ?_)
    · refine j_aload_n C dX6_hops_19 rfl ?_
      refine j_iload_n C dX6_hops_20 rfl ?_
      refine j_doI (st := []) (j_runV C (kX6_isAwake hg ok s.toNat (by have := ok.n; simp only [gI, Bool.and_eq_true, decide_eq_true_eq] at *; omega) (by have := ok.n; simp only [gI, Bool.and_eq_true, decide_eq_true_eq] at *; omega)) gX6_hops_X6_isAwake sgX6_isAwake rfl ⟨by decide, by decide⟩ (by decide) (en_72 _ _) rfl rfl rfl (Nat.le_of_ble_eq_true rfl) dX6_hops_21) (fun z_9 V_10 h_11 => ?_)
      obtain ⟨rfl, rfl⟩ := h_11
      refine j_ifb_eq (tgt := 35) C dX6_hops_24 (by decide) (fun q_12 => ?_) (fun q_12 => ?_)
      · refine j_ldc (n := -1000000003) C (List.mem_of_getElem? (i := 2) rfl) (by decide) dX6_hops_35 ?_
        refine j_iret C hQ dX6_hops_37 ?_
        refine ⟨rfl, ?_⟩
        unfold aHops gI
        simp_all
        try omega
      · refine j_aload_n C dX6_hops_27 rfl ?_
        refine j_iload_n C dX6_hops_28 rfl ?_
        refine j_doI (st := []) (j_runV C (kX6_isAwake hg ok t.toNat (by have := ok.n; simp only [gI, Bool.and_eq_true, decide_eq_true_eq] at *; omega) (by have := ok.n; simp only [gI, Bool.and_eq_true, decide_eq_true_eq] at *; omega)) gX6_hops_X6_isAwake sgX6_isAwake rfl ⟨by decide, by decide⟩ (by decide) (en_72 _ _) rfl rfl rfl (Nat.le_of_ble_eq_true rfl) dX6_hops_29) (fun z_13 V_14 h_15 => ?_)
        obtain ⟨rfl, rfl⟩ := h_15
        refine j_ifb_ne (tgt := 38) C dX6_hops_32 (by decide) (fun q_16 => ?_) (fun q_16 => ?_)
        · refine j_iconst C dX6_hops_38 ?_
          refine j_iload_n C dX6_hops_39 rfl ?_
          refine j_ishl C dX6_hops_40 ?_
          refine j_istore_n (lv' := [(0, sr 72), (1, si s), (2, si t), (3, si (bShl 1 s))]) C dX6_hops_41 (by decide) rfl ?_
          refine j_iconst C dX6_hops_42 ?_
          refine j_istore (lv' := [(0, sr 72), (1, si s), (2, si t), (3, si (bShl 1 s)), (4, si 0)]) C dX6_hops_43 (by decide) rfl ?_
          obtain ⟨tn, htn⟩ : ∃ tn : Nat, t = (tn : Int) := ⟨t.toNat, (by have := ok.n; simp only [gI, Bool.and_eq_true, decide_eq_true_eq] at *; omega)⟩
          obtain ⟨sn, hsn⟩ : ∃ sn : Nat, s = (sn : Int) := ⟨s.toNat, (by have := ok.n; simp only [gI, Bool.and_eq_true, decide_eq_true_eq] at *; omega)⟩
          have hb1 : sn < 10 := by have := ok.n; simp only [gI, Bool.and_eq_true, decide_eq_true_eq] at *; omega
          have hb2 : tn < 10 := by have := ok.n; simp only [gI, Bool.and_eq_true, decide_eq_true_eq] at *; omega
          subst htn hsn
          refine j_lv (lv' := [(0, sr 72), (1, si (sn : Int)), (2, si (tn : Int)), (3, si ((2 ^ sn : Nat) : Int)), (4, si ((0 : Nat) : Int))]) (by rw [bShl_1 (by omega)]; rfl) ?_
          exact lpX6_hops C hQ hg ok hb2 11 (2 ^ sn) 0 (p2_10 hb1) (by rw [pcN_p2 sn hb1]; decide) rfl ⟨rfl, (by unfold aHops gHops gI; simp_all)⟩
        · refine j_ldc (n := -1000000003) C (List.mem_of_getElem? (i := 2) rfl) (by decide) dX6_hops_35 ?_
          refine j_iret C hQ dX6_hops_37 ?_
          refine ⟨rfl, ?_⟩
          unfold aHops gI
          simp_all
          try omega
    · refine j_ldc (n := -1000000001) C (List.mem_of_getElem? (i := 1) rfl) (by decide) dX6_hops_16 ?_
      refine j_iret C hQ dX6_hops_18 ?_
      refine ⟨rfl, ?_⟩
      unfold aHops gI
      simp_all
      try omega
