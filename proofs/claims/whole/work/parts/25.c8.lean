def rX0_firstWrong : Room := { frames := 5, cells := 0, slots := 0, locals := 119 }
theorem sgX0_firstWrong : sg yX0_firstWrong wsX0_firstWrong cX0_firstWrong 4 (some .int) rX0_firstWrong 2 := ⟨⟨_, rfl⟩, rfl, rfl, by decide, by decide, by decide +kernel⟩
set_option maxHeartbeats 4000000 in
set_option maxRecDepth 100000 in
theorem lpX0_firstWrong {O : OmT} {F : PhT} {V : Mem} {g : Nat → Int} (C : cx O F RX0 cX0_firstWrong 4 (some .int) wsX0_firstWrong) {post : Int → Mem → Prop} (hQ : qI O F post) (hn : net V g) (ok : okg g) {bk : Nat} {bf bt bs : Nat → Int} (hbk : V 11 3 = (bk : Int)) (hb2 : bk ≤ 20) (hbf : ∀ i, i < bk → V 12 i = bf i) (hbt : ∀ i, i < bk → V 13 i = bt i) (hbs : ∀ i, i < bk → V 14 i = bs i) (hrf : ∀ i, i < bk → 0 ≤ bf i ∧ bf i < 10) (hrt : ∀ i, i < bk → 0 ≤ bt i ∧ bt i < 10) (hrs : ∀ i, i < bk → -2147483648 ≤ bs i ∧ bs i < 2147483648) (hpo : ∀ V2, cFr V V2 → post (gWg g bf bt bs bk) V2) : ∀ (fuel w : Nat) (W : Mem), (w ≤ bk) → (gWg g bf bt bs w = -1) → cFr V W → bk - w < fuel → J O F rX0_firstWrong 4 W 2 [(0, sr 11), (1, sr 1), (2, sr 8), (3, si (w : Int))] [] := by
  intro fuel
  induction fuel with
  | zero => intro w W hw hno hW hf; exact absurd hf (Nat.not_lt_zero _)
  | succ fuel ih =>
    intro w W hw hno hW hf
    have n1 := ok.n
    refine j_iload_n C dX0_firstWrong_2 rfl ?_
    refine j_aload_n C dX0_firstWrong_3 rfl ?_
    refine j_get (v := si (W 11 3)) C 11 3 (by decide) (en_11 _ _) rfl (by decide) (fun w h => List.mem_cons_of_mem _ (List.mem_append_left _ (List.mem_append_left _ (List.mem_append_left _ (List.mem_append_right _ h))))) (List.mem_of_getElem? (i := 1) rfl) dX0_firstWrong_4 rfl ?_
    refine j_top (b := (bk : Int)) (by rw [hW 11 (by decide) (by decide) (by decide)]; exact hbk) ?_
    refine j_icmp_ge (tgt := 75) C dX0_firstWrong_7 (by decide) (by omega) (by omega) (fun q_1 => ?_) (fun q_1 => ?_)
    · refine j_iconst C dX0_firstWrong_75 ?_
      refine j_iret C hQ dX0_firstWrong_76 ?_
      first
        | (have e : w = bk := by omega
           subst e; have h9 := hpo _ hW; rw [hno] at h9; exact h9)
        | (have e : gWg g bf bt bs bk = (w : Int) := gWg_at (by omega) hno (by unfold gBd wSt; first | (simp_all; done) | grind)
           have h9 := hpo _ hW; rw [e] at h9; exact h9)
    · refine j_aload_n C dX0_firstWrong_10 rfl ?_
      refine j_aload_n C dX0_firstWrong_11 rfl ?_
      refine j_get (v := sr 12) C 11 0 (by decide) (en_11 _ _) rfl (by decide) (fun w h => List.mem_cons_of_mem _ (List.mem_append_left _ (List.mem_append_left _ (List.mem_append_left _ (List.mem_append_right _ h))))) (List.mem_of_getElem? (i := 2) rfl) dX0_firstWrong_12 rfl ?_
      refine j_iload_n C dX0_firstWrong_15 rfl ?_
      refine j_iald C (row_12 O) w rfl (by omega) dX0_firstWrong_16 ?_
      refine j_top (b := bf w) (by rw [hW 12 (by decide) (by decide) (by decide)]; exact hbf w (by omega)) ?_
      refine j_doI (st := []) (j_runVN C (kX1_isAwake (cFr_net hW hn).1 ok (bf w) (by have := hrf w (by omega); omega)) ggX0_firstWrong_X1_isAwake sgX1_isAwake rfl (List.mem_of_getElem? (i := 25) rfl) (List.mem_of_getElem? (i := 6) rfl) (List.mem_of_getElem? (i := 5) rfl) (List.mem_of_getElem? (i := 7) rfl) ⟨by decide, by decide⟩ (by decide) (en_G (c := 1) (by decide) _) rfl rfl rfl (Nat.le_of_ble_eq_true rfl) dX0_firstWrong_17) (fun z_2 V_3 h_4 => ?_)
      obtain ⟨rfl, rfl⟩ := h_4
      refine j_top (b := bI (gI g (bf w) && gA g (bf w).toNat)) (by rw [gA_I ok (hrf w (by omega)).1]) ?_
      refine j_ifb_eq (tgt := 36) C dX0_firstWrong_20 (by decide) (fun q_5 => ?_) (fun q_5 => ?_)
      · refine j_iload_n C dX0_firstWrong_36 rfl ?_
        refine j_iret C hQ dX0_firstWrong_37 ?_
        first
          | (have e : w = bk := by omega
             subst e; have h9 := hpo _ hW; rw [hno] at h9; exact h9)
          | (have e : gWg g bf bt bs bk = (w : Int) := gWg_at (by omega) hno (by unfold gBd wSt; first | (simp_all; done) | grind)
             have h9 := hpo _ hW; rw [e] at h9; exact h9)
      · refine j_aload_n C dX0_firstWrong_23 rfl ?_
        refine j_aload_n C dX0_firstWrong_24 rfl ?_
        refine j_get (v := sr 13) C 11 1 (by decide) (en_11 _ _) rfl (by decide) (fun w h => List.mem_cons_of_mem _ (List.mem_append_left _ (List.mem_append_left _ (List.mem_append_left _ (List.mem_append_right _ h))))) (List.mem_of_getElem? (i := 3) rfl) dX0_firstWrong_25 rfl ?_
        refine j_iload_n C dX0_firstWrong_28 rfl ?_
        refine j_iald C (row_13 O) w rfl (by omega) dX0_firstWrong_29 ?_
        refine j_top (b := bt w) (by rw [hW 13 (by decide) (by decide) (by decide)]; exact hbt w (by omega)) ?_
        refine j_doI (st := []) (j_runVN C (kX1_isAwake (cFr_net hW hn).1 ok (bt w) (by have := hrt w (by omega); omega)) ggX0_firstWrong_X1_isAwake sgX1_isAwake rfl (List.mem_of_getElem? (i := 25) rfl) (List.mem_of_getElem? (i := 6) rfl) (List.mem_of_getElem? (i := 5) rfl) (List.mem_of_getElem? (i := 7) rfl) ⟨by decide, by decide⟩ (by decide) (en_G (c := 1) (by decide) _) rfl rfl rfl (Nat.le_of_ble_eq_true rfl) dX0_firstWrong_30) (fun z_6 V_7 h_8 => ?_)
        obtain ⟨rfl, rfl⟩ := h_8
        refine j_top (b := bI (gI g (bt w) && gA g (bt w).toNat)) (by rw [gA_I ok (hrt w (by omega)).1]) ?_
        refine j_ifb_ne (tgt := 38) C dX0_firstWrong_33 (by decide) (fun q_9 => ?_) (fun q_9 => ?_)
        · refine j_aload_n C dX0_firstWrong_38 rfl ?_
          refine j_aload_n C dX0_firstWrong_39 rfl ?_
          refine j_get (v := sr 12) C 11 0 (by decide) (en_11 _ _) rfl (by decide) (fun w h => List.mem_cons_of_mem _ (List.mem_append_left _ (List.mem_append_left _ (List.mem_append_left _ (List.mem_append_right _ h))))) (List.mem_of_getElem? (i := 2) rfl) dX0_firstWrong_40 rfl ?_
          refine j_iload_n C dX0_firstWrong_43 rfl ?_
          refine j_iald C (row_12 O) w rfl (by omega) dX0_firstWrong_44 ?_
          refine j_top (b := bf w) (by rw [hW 12 (by decide) (by decide) (by decide)]; exact hbf w (by omega)) ?_
          refine j_aload_n C dX0_firstWrong_45 rfl ?_
          refine j_get (v := sr 13) C 11 1 (by decide) (en_11 _ _) rfl (by decide) (fun w h => List.mem_cons_of_mem _ (List.mem_append_left _ (List.mem_append_left _ (List.mem_append_left _ (List.mem_append_right _ h))))) (List.mem_of_getElem? (i := 3) rfl) dX0_firstWrong_46 rfl ?_
          refine j_iload_n C dX0_firstWrong_49 rfl ?_
          refine j_iald C (row_13 O) w rfl (by omega) dX0_firstWrong_50 ?_
          refine j_top (b := bt w) (by rw [hW 13 (by decide) (by decide) (by decide)]; exact hbt w (by omega)) ?_
          refine j_doV (st := []) (j_runVN C (kX2_walk (cFr_net hW hn) ok (bf w).toNat (bt w).toNat (by have := hrf w (by omega); omega) (by have := hrt w (by omega); omega) (by have := ok.n; have := hrf w (by omega); have := hrt w (by omega); simp only [gI, Bool.and_eq_true, decide_eq_true_eq] at *; omega) (by have := ok.n; have := hrf w (by omega); have := hrt w (by omega); simp only [gI, Bool.and_eq_true, decide_eq_true_eq] at *; omega) (by simp only [Bool.and_eq_true] at *; simp_all) (by simp only [Bool.and_eq_true] at *; simp_all)) ggX0_firstWrong_X2_walk sgX2_walk rfl (List.mem_of_getElem? (i := 26) rfl) (List.mem_of_getElem? (i := 19) rfl) (List.mem_of_getElem? (i := 18) rfl) (List.mem_of_getElem? (i := 20) rfl) ⟨by decide, by decide⟩ (by decide) (en_8 _ _) rfl rfl rfl (Nat.le_of_ble_eq_true rfl) dX0_firstWrong_51) (fun V_11 h_12 => ?_)
          refine j_aload_n C dX0_firstWrong_54 rfl ?_
          refine j_doI (st := []) (j_runVN C (kX2_stepsOrNone _ _ h_12.1 h_12.2.1) ggX0_firstWrong_X2_stepsOrNone sgX2_stepsOrNone rfl (List.mem_of_getElem? (i := 27) rfl) (List.mem_of_getElem? (i := 19) rfl) (List.mem_of_getElem? (i := 100) rfl) (List.mem_of_getElem? (i := 101) rfl) ⟨by decide, by decide⟩ (by decide) (en_8 _ _) rfl rfl rfl (Nat.le_of_ble_eq_true rfl) dX0_firstWrong_55) (fun z_13 V_14 h_15 => ?_)
          obtain ⟨rfl, rfl⟩ := h_15
          refine j_aload_n C dX0_firstWrong_58 rfl ?_
          refine j_get (v := sr 14) C 11 2 (by decide) (en_11 _ _) rfl (by decide) (fun w h => List.mem_cons_of_mem _ (List.mem_append_left _ (List.mem_append_left _ (List.mem_append_left _ (List.mem_append_right _ h))))) (List.mem_of_getElem? (i := 4) rfl) dX0_firstWrong_59 rfl ?_
          refine j_iload_n C dX0_firstWrong_62 rfl ?_
          refine j_iald C (row_14 O) w rfl (by omega) dX0_firstWrong_63 ?_
          refine j_top (b := bs w) (by rw [(cFr_tr hW h_12.2.2.2.2.2.2.2) 14 (by decide) (by decide) (by decide)]; exact hbs w (by omega)) ?_
          refine j_icmp_eq (tgt := 69) C dX0_firstWrong_64 (by decide) (wSt_rg _ _ _) (by have := hrs w (by omega); omega) (fun q_16 => ?_) (fun q_16 => ?_)
          · refine j_iinc (lv' := [(0, sr 11), (1, sr 1), (2, sr 8), (3, si ((w : Int) + 1))]) C dX0_firstWrong_69 rfl (by decide) rfl ?_
            refine j_goto (tgt := 2) C dX0_firstWrong_72 (by decide) ?_
            exact ih (w + 1) _ (by omega) (by rw [gWg_s, if_neg (by simp [hno]), if_neg (by unfold gBd wSt; first | (simp_all; done) | grind)]) (cFr_tr hW h_12.2.2.2.2.2.2.2) (by omega)
          · refine j_iload_n C dX0_firstWrong_67 rfl ?_
            refine j_iret C hQ dX0_firstWrong_68 ?_
            first
              | (have e : w = bk := by omega
                 subst e; have h9 := hpo _ (cFr_tr hW h_12.2.2.2.2.2.2.2); rw [hno] at h9; exact h9)
              | (have e : gWg g bf bt bs bk = (w : Int) := gWg_at (by omega) hno (by unfold gBd wSt; first | (simp_all; done) | grind)
                 have h9 := hpo _ (cFr_tr hW h_12.2.2.2.2.2.2.2); rw [e] at h9; exact h9)
        · refine j_iload_n C dX0_firstWrong_36 rfl ?_
          refine j_iret C hQ dX0_firstWrong_37 ?_
          first
            | (have e : w = bk := by omega
               subst e; have h9 := hpo _ hW; rw [hno] at h9; exact h9)
            | (have e : gWg g bf bt bs bk = (w : Int) := gWg_at (by omega) hno (by unfold gBd wSt; first | (simp_all; done) | grind)
               have h9 := hpo _ hW; rw [e] at h9; exact h9)
set_option maxHeartbeats 4000000 in
set_option maxRecDepth 100000 in
theorem kX0_firstWrong {O : OmT} {l : Launch} {V : Mem} {g : Nat → Int} (hn : net V g) (ok : okg g) {bk : Nat} {bf bt bs : Nat → Int} (hbk : V 11 3 = (bk : Int)) (hb2 : bk ≤ 20) (hbf : ∀ i, i < bk → V 12 i = bf i) (hbt : ∀ i, i < bk → V 13 i = bt i) (hbs : ∀ i, i < bk → V 14 i = bs i) (hrf : ∀ i, i < bk → 0 ≤ bf i ∧ bf i < 10) (hrt : ∀ i, i < bk → 0 ≤ bt i ∧ bt i < 10) (hrs : ∀ i, i < bk → -2147483648 ≤ bs i ∧ bs i < 2147483648) : MI O l yX0_firstWrong wsX0_firstWrong rX0_firstWrong [sr 11, sr 1, sr 8] V (fun z V2 => cFr V V2 ∧ z = gWg g bf bt bs bk) := by
  refine mi_of (cc := cX0_firstWrong) (nL := 4) (rt := (some .int)) (by decide) rfl rfl (Nat.le_of_ble_eq_true rfl) (fun F hF C hQ => ?_)
  subst hF
  change J O F rX0_firstWrong 4 V 0 [(0, sr 11), (1, sr 1), (2, sr 8)] []
  refine j_iconst C dX0_firstWrong_0 ?_
  refine j_istore_n (lv' := [(0, sr 11), (1, sr 1), (2, sr 8), (3, si 0)]) C dX0_firstWrong_1 (by decide) rfl ?_
  exact lpX0_firstWrong C hQ hn ok hbk hb2 hbf hbt hbs hrf hrt hrs (fun V2 h => ⟨h, rfl⟩) _ 0 _ (Nat.zero_le _) rfl (cFr_rf _) (Nat.lt_succ_self _)
def rX5_way : Room := { frames := 5, cells := 0, slots := 0, locals := 119 }
theorem sgX5_way : sg yX5_way wsX5_way cX5_way 4 (some .int) rX5_way 3 := ⟨⟨_, rfl⟩, rfl, rfl, by decide, by decide, by decide +kernel⟩
set_option maxHeartbeats 4000000 in
set_option maxRecDepth 100000 in
theorem kX5_way {O : OmT} {l : Launch} {V : Mem} {g : Nat → Int} (hn : net V g) (ok : okg g) (s : Int) (t : Int) (what : Int) (hs : -2147483648 ≤ s ∧ s < 2147483648) (ht : -2147483648 ≤ t ∧ t < 2147483648) (hwhat : -2147483648 ≤ what ∧ what < 2147483648) : MI O l yX5_way wsX5_way rX5_way [sr 0, si s, si t, si what] V (fun z V2 => cFr V V2 ∧ z = aWay g s t what) := by
  refine mi_of (cc := cX5_way) (nL := 4) (rt := (some .int)) (by decide) rfl rfl (Nat.le_of_ble_eq_true rfl) (fun F hF C hQ => ?_)
  subst hF
  change J O F rX5_way 4 V 0 [(0, sr 0), (1, si s), (2, si t), (3, si what)] []
  refine j_aload_n C dX5_way_0 rfl ?_
  refine j_get (v := sr 1) C 0 0 (by decide) (en_0 _ _) rfl (by decide) (fun w h => List.mem_cons_of_mem _ (List.mem_append_left _ (List.mem_append_left _ (List.mem_append_left _ (List.mem_append_right _ h))))) (List.mem_of_getElem? (i := 1) rfl) dX5_way_1 rfl ?_
  refine j_iload_n C dX5_way_4 rfl ?_
  refine j_doI (st := []) (j_runVN C (kX1_has hn.1 ok s (by omega)) ggX5_way_X1_has sgX1_has rfl (List.mem_of_getElem? (i := 28) rfl) (List.mem_of_getElem? (i := 7) rfl) (List.mem_of_getElem? (i := 6) rfl) (List.mem_of_getElem? (i := 8) rfl) ⟨by decide, by decide⟩ (by decide) (en_G (c := 1) (by decide) _) rfl rfl rfl (Nat.le_of_ble_eq_true rfl) dX5_way_5) (fun z_1 V_2 h_3 => ?_)
  obtain ⟨rfl, rfl⟩ := h_3
  refine j_ifb_eq (tgt := 22) C dX5_way_8 (by decide) (fun q_4 => ?_) (fun q_4 => ?_)
  · refine j_ldc (n := -1000000001) C (List.mem_of_getElem? (i := 2) rfl) (by decide) dX5_way_22 ?_
    refine j_iret C hQ dX5_way_24 ?_
    refine ⟨(cFr_rf _), ?_⟩
    unfold aWay gI
    simp_all
    try omega
  · refine j_aload_n C dX5_way_11 rfl ?_
    refine j_get (v := sr 1) C 0 0 (by decide) (en_0 _ _) rfl (by decide) (fun w h => List.mem_cons_of_mem _ (List.mem_append_left _ (List.mem_append_left _ (List.mem_append_left _ (List.mem_append_right _ h))))) (List.mem_of_getElem? (i := 1) rfl) dX5_way_12 rfl ?_
    refine j_iload_n C dX5_way_15 rfl ?_
    refine j_doI (st := []) (j_runVN C (kX1_has hn.1 ok t (by omega)) ggX5_way_X1_has sgX1_has rfl (List.mem_of_getElem? (i := 28) rfl) (List.mem_of_getElem? (i := 7) rfl) (List.mem_of_getElem? (i := 6) rfl) (List.mem_of_getElem? (i := 8) rfl) ⟨by decide, by decide⟩ (by decide) (en_G (c := 1) (by decide) _) rfl rfl rfl (Nat.le_of_ble_eq_true rfl) dX5_way_16) (fun z_5 V_6 h_7 => ?_)
    obtain ⟨rfl, rfl⟩ := h_7
    refine j_ifb_ne (tgt := 25) C dX5_way_19 (by decide) (fun q_8 => ?_) (fun q_8 => ?_)
    · refine j_iload_n C dX5_way_25 rfl ?_
      refine j_if_lt (tgt := 34) C dX5_way_26 (by decide) (by omega) (fun q_9 => ?_) (fun q_9 => ?_)
      · refine j_ldc (n := -1000000002) C (List.mem_of_getElem? (i := 3) rfl) (by decide) dX5_way_34 ?_
        refine j_iret C hQ dX5_way_36 ?_
        refine ⟨(cFr_rf _), ?_⟩
        unfold aWay gI
        simp_all
        try omega
      · refine j_iload_n C dX5_way_29 rfl ?_
        refine j_iconst C dX5_way_30 ?_
        refine j_icmp_le (tgt := 37) C dX5_way_31 (by decide) (by omega) (by decide) (fun q_10 => ?_) (fun q_10 => ?_)
        · refine j_aload_n C dX5_way_37 rfl ?_
          refine j_get (v := sr 1) C 0 0 (by decide) (en_0 _ _) rfl (by decide) (fun w h => List.mem_cons_of_mem _ (List.mem_append_left _ (List.mem_append_left _ (List.mem_append_left _ (List.mem_append_right _ h))))) (List.mem_of_getElem? (i := 1) rfl) dX5_way_38 rfl ?_
          refine j_iload_n C dX5_way_41 rfl ?_
          refine j_doI (st := []) (j_runVN C (kX1_isAwake hn.1 ok s (by omega)) ggX5_way_X1_isAwake sgX1_isAwake rfl (List.mem_of_getElem? (i := 29) rfl) (List.mem_of_getElem? (i := 7) rfl) (List.mem_of_getElem? (i := 11) rfl) (List.mem_of_getElem? (i := 12) rfl) ⟨by decide, by decide⟩ (by decide) (en_G (c := 1) (by decide) _) rfl rfl rfl (Nat.le_of_ble_eq_true rfl) dX5_way_42) (fun z_11 V_12 h_13 => ?_)
          obtain ⟨rfl, rfl⟩ := h_13
          refine j_top (b := bI (gA g s.toNat)) (by rw [decide_eq_true (show 0 ≤ s by have := ok.n; simp only [gI, Bool.and_eq_true, decide_eq_true_eq] at *; omega), Bool.true_and]) ?_
          refine j_ifb_eq (tgt := 59) C dX5_way_45 (by decide) (fun q_14 => ?_) (fun q_14 => ?_)
          · refine j_ldc (n := -1000000003) C (List.mem_of_getElem? (i := 4) rfl) (by decide) dX5_way_59 ?_
            refine j_iret C hQ dX5_way_61 ?_
            refine ⟨(cFr_rf _), ?_⟩
            unfold aWay gI
            simp_all
            try omega
          · refine j_aload_n C dX5_way_48 rfl ?_
            refine j_get (v := sr 1) C 0 0 (by decide) (en_0 _ _) rfl (by decide) (fun w h => List.mem_cons_of_mem _ (List.mem_append_left _ (List.mem_append_left _ (List.mem_append_left _ (List.mem_append_right _ h))))) (List.mem_of_getElem? (i := 1) rfl) dX5_way_49 rfl ?_
            refine j_iload_n C dX5_way_52 rfl ?_
            refine j_doI (st := []) (j_runVN C (kX1_isAwake hn.1 ok t (by omega)) ggX5_way_X1_isAwake sgX1_isAwake rfl (List.mem_of_getElem? (i := 29) rfl) (List.mem_of_getElem? (i := 7) rfl) (List.mem_of_getElem? (i := 11) rfl) (List.mem_of_getElem? (i := 12) rfl) ⟨by decide, by decide⟩ (by decide) (en_G (c := 1) (by decide) _) rfl rfl rfl (Nat.le_of_ble_eq_true rfl) dX5_way_53) (fun z_15 V_16 h_17 => ?_)
            obtain ⟨rfl, rfl⟩ := h_17
            refine j_top (b := bI (gA g t.toNat)) (by rw [decide_eq_true (show 0 ≤ t by have := ok.n; simp only [gI, Bool.and_eq_true, decide_eq_true_eq] at *; omega), Bool.true_and]) ?_
            refine j_ifb_ne (tgt := 62) C dX5_way_56 (by decide) (fun q_18 => ?_) (fun q_18 => ?_)
            · refine j_aload_n C dX5_way_62 rfl ?_
              refine j_get (v := sr 8) C 0 2 (by decide) (en_0 _ _) rfl (by decide) (fun w h => List.mem_cons_of_mem _ (List.mem_append_left _ (List.mem_append_left _ (List.mem_append_left _ (List.mem_append_right _ h))))) (List.mem_of_getElem? (i := 5) rfl) dX5_way_63 rfl ?_
              refine j_iload_n C dX5_way_66 rfl ?_
              refine j_iload_n C dX5_way_67 rfl ?_
              refine j_doV (st := []) (j_runVN C (kX2_walk hn ok s.toNat t.toNat (by have := ok.n; simp only [gI, Bool.and_eq_true, decide_eq_true_eq] at *; omega) (by have := ok.n; simp only [gI, Bool.and_eq_true, decide_eq_true_eq] at *; omega) (by have := ok.n; simp only [gI, Bool.and_eq_true, decide_eq_true_eq] at *; omega) (by have := ok.n; simp only [gI, Bool.and_eq_true, decide_eq_true_eq] at *; omega) ‹_› ‹_›) ggX5_way_X2_walk sgX2_walk rfl (List.mem_of_getElem? (i := 34) rfl) (List.mem_of_getElem? (i := 20) rfl) (List.mem_of_getElem? (i := 19) rfl) (List.mem_of_getElem? (i := 21) rfl) ⟨by decide, by decide⟩ (by decide) (en_8 _ _) rfl rfl rfl (Nat.le_of_ble_eq_true rfl) dX5_way_68) (fun V_20 h_21 => ?_)
              refine j_iload_n C dX5_way_71 rfl ?_
              rcases (show what = 0 ∨ what = 1 ∨ what = 2 ∨ what = 3 ∨ what = 4 ∨ (what < 0 ∨ 4 < what) by omega) with q_22 | q_22 | q_22 | q_22 | q_22 | q_22
              · refine j_top q_22 ?_
                refine j_tabIn (tgt := 108) (off := 36) C dX5_way_72 (by decide) (by decide) (by decide) (by decide) (by decide) ?_
                refine j_aload_n C dX5_way_108 rfl ?_
                refine j_get (v := sr 8) C 0 2 (by decide) (en_0 _ _) rfl (by decide) (fun w h => List.mem_cons_of_mem _ (List.mem_append_left _ (List.mem_append_left _ (List.mem_append_left _ (List.mem_append_right _ h))))) (List.mem_of_getElem? (i := 5) rfl) dX5_way_109 rfl ?_
                refine j_doI (st := []) (j_runVN C (kX2_howItEnded _ _ h_21.2.2.1 h_21.2.1 (wkR_rg _ _ _).2.1) ggX5_way_X2_howItEnded sgX2_howItEnded rfl (List.mem_of_getElem? (i := 35) rfl) (List.mem_of_getElem? (i := 20) rfl) (List.mem_of_getElem? (i := 101) rfl) (List.mem_of_getElem? (i := 102) rfl) ⟨by decide, by decide⟩ (by decide) (en_8 _ _) rfl rfl rfl (Nat.le_of_ble_eq_true rfl) dX5_way_112) (fun z_23 V_24 h_25 => ?_)
                obtain ⟨rfl, rfl⟩ := h_25
                refine j_iret C hQ dX5_way_115 ?_
                refine ⟨h_21.2.2.2.2.2.2.2, ?_⟩
                unfold aWay gI
                simp_all
                try omega
              · refine j_top q_22 ?_
                refine j_tabIn (tgt := 116) (off := 44) C dX5_way_72 (by decide) (by decide) (by decide) (by decide) (by decide) ?_
                refine j_aload_n C dX5_way_116 rfl ?_
                refine j_get (v := sr 8) C 0 2 (by decide) (en_0 _ _) rfl (by decide) (fun w h => List.mem_cons_of_mem _ (List.mem_append_left _ (List.mem_append_left _ (List.mem_append_left _ (List.mem_append_right _ h))))) (List.mem_of_getElem? (i := 5) rfl) dX5_way_117 rfl ?_
                refine j_getN (v := si (V_20 8 10)) C 8 10 (by decide) (en_8 _ _) rfl (by decide) (fun w h => List.mem_cons_of_mem _ (List.mem_append_left _ (List.mem_append_left _ (List.mem_append_right _ h)))) (List.mem_of_getElem? (i := 17) rfl) dX5_way_120 rfl ?_
                refine j_top h_21.1 ?_
                refine j_iret C hQ dX5_way_123 ?_
                refine ⟨h_21.2.2.2.2.2.2.2, ?_⟩
                unfold aWay gI
                simp_all
                try omega
              · refine j_top q_22 ?_
                refine j_tabIn (tgt := 124) (off := 52) C dX5_way_72 (by decide) (by decide) (by decide) (by decide) (by decide) ?_
                refine j_aload_n C dX5_way_124 rfl ?_
                refine j_get (v := sr 8) C 0 2 (by decide) (en_0 _ _) rfl (by decide) (fun w h => List.mem_cons_of_mem _ (List.mem_append_left _ (List.mem_append_left _ (List.mem_append_left _ (List.mem_append_right _ h))))) (List.mem_of_getElem? (i := 5) rfl) dX5_way_125 rfl ?_
                refine j_getN (v := si (V_20 8 11)) C 8 11 (by decide) (en_8 _ _) rfl (by decide) (fun w h => List.mem_cons_of_mem _ (List.mem_append_left _ (List.mem_append_left _ (List.mem_append_right _ h)))) (List.mem_of_getElem? (i := 18) rfl) dX5_way_128 rfl ?_
                refine j_top h_21.2.2.1 ?_
                refine j_iret C hQ dX5_way_131 ?_
                refine ⟨h_21.2.2.2.2.2.2.2, ?_⟩
                unfold aWay gI
                simp_all
                try omega
              · refine j_top q_22 ?_
                refine j_tabIn (tgt := 132) (off := 60) C dX5_way_72 (by decide) (by decide) (by decide) (by decide) (by decide) ?_
                refine j_aload_n C dX5_way_132 rfl ?_
                refine j_get (v := sr 8) C 0 2 (by decide) (en_0 _ _) rfl (by decide) (fun w h => List.mem_cons_of_mem _ (List.mem_append_left _ (List.mem_append_left _ (List.mem_append_left _ (List.mem_append_right _ h))))) (List.mem_of_getElem? (i := 5) rfl) dX5_way_133 rfl ?_
                refine j_getN (v := si (V_20 8 12)) C 8 12 (by decide) (en_8 _ _) rfl (by decide) (fun w h => List.mem_cons_of_mem _ (List.mem_append_left _ (List.mem_append_left _ (List.mem_append_right _ h)))) (List.mem_of_getElem? (i := 19) rfl) dX5_way_136 rfl ?_
                refine j_top h_21.2.2.2.1 ?_
                refine j_iret C hQ dX5_way_139 ?_
                refine ⟨h_21.2.2.2.2.2.2.2, ?_⟩
                unfold aWay gI
                simp_all
                try omega
              · refine j_top q_22 ?_
                refine j_tabIn (tgt := 140) (off := 68) C dX5_way_72 (by decide) (by decide) (by decide) (by decide) (by decide) ?_
                refine j_aload_n C dX5_way_140 rfl ?_
                refine j_get (v := sr 8) C 0 2 (by decide) (en_0 _ _) rfl (by decide) (fun w h => List.mem_cons_of_mem _ (List.mem_append_left _ (List.mem_append_left _ (List.mem_append_left _ (List.mem_append_right _ h))))) (List.mem_of_getElem? (i := 5) rfl) dX5_way_141 rfl ?_
                refine j_getN (v := si (V_20 8 13)) C 8 13 (by decide) (en_8 _ _) rfl (by decide) (fun w h => List.mem_cons_of_mem _ (List.mem_append_left _ (List.mem_append_left _ (List.mem_append_right _ h)))) (List.mem_of_getElem? (i := 20) rfl) dX5_way_144 rfl ?_
                refine j_top h_21.2.2.2.2.1 ?_
                refine j_iret C hQ dX5_way_147 ?_
                refine ⟨h_21.2.2.2.2.2.2.2, ?_⟩
                unfold aWay gI
                simp_all
                try omega
              · refine j_tabOut (tgt := 148) C dX5_way_72 (by omega) q_22 (by decide) ?_
                refine j_aload_n C dX5_way_148 rfl ?_
                refine j_get (v := sr 8) C 0 2 (by decide) (en_0 _ _) rfl (by decide) (fun w h => List.mem_cons_of_mem _ (List.mem_append_left _ (List.mem_append_left _ (List.mem_append_left _ (List.mem_append_right _ h))))) (List.mem_of_getElem? (i := 5) rfl) dX5_way_149 rfl ?_
                refine j_getN (v := si (V_20 8 14)) C 8 14 (by decide) (en_8 _ _) rfl (by decide) (fun w h => List.mem_cons_of_mem _ (List.mem_append_left _ (List.mem_append_left _ (List.mem_append_right _ h)))) (List.mem_of_getElem? (i := 21) rfl) dX5_way_152 rfl ?_
                refine j_top h_21.2.2.2.2.2.1 ?_
                refine j_iret C hQ dX5_way_155 ?_
                refine ⟨h_21.2.2.2.2.2.2.2, ?_⟩
                unfold aWay gI
                simp_all
                try omega
            · refine j_ldc (n := -1000000003) C (List.mem_of_getElem? (i := 4) rfl) (by decide) dX5_way_59 ?_
              refine j_iret C hQ dX5_way_61 ?_
              refine ⟨(cFr_rf _), ?_⟩
              unfold aWay gI
              simp_all
              try omega
        · refine j_ldc (n := -1000000002) C (List.mem_of_getElem? (i := 3) rfl) (by decide) dX5_way_34 ?_
          refine j_iret C hQ dX5_way_36 ?_
          refine ⟨(cFr_rf _), ?_⟩
          unfold aWay gI
          simp_all
          try omega
    · refine j_ldc (n := -1000000001) C (List.mem_of_getElem? (i := 2) rfl) (by decide) dX5_way_22 ?_
      refine j_iret C hQ dX5_way_24 ?_
      refine ⟨(cFr_rf _), ?_⟩
      unfold aWay gI
      simp_all
      try omega
def rX5_step : Room := { frames := 5, cells := 0, slots := 0, locals := 119 }
theorem sgX5_step : sg yX5_step wsX5_step cX5_step 4 (some .int) rX5_step 3 := ⟨⟨_, rfl⟩, rfl, rfl, by decide, by decide, by decide +kernel⟩
set_option maxHeartbeats 4000000 in
set_option maxRecDepth 100000 in
theorem kX5_step {O : OmT} {l : Launch} {V : Mem} {g : Nat → Int} (hn : net V g) (ok : okg g) (s : Int) (t : Int) (i : Int) (hs : -2147483648 ≤ s ∧ s < 2147483648) (ht : -2147483648 ≤ t ∧ t < 2147483648) (hi : -2147483648 ≤ i ∧ i < 2147483648) : MI O l yX5_step wsX5_step rX5_step [sr 0, si s, si t, si i] V (fun z V2 => cFr V V2 ∧ z = aStep g s t i) := by
  refine mi_of (cc := cX5_step) (nL := 4) (rt := (some .int)) (by decide) rfl rfl (Nat.le_of_ble_eq_true rfl) (fun F hF C hQ => ?_)
  subst hF
  change J O F rX5_step 4 V 0 [(0, sr 0), (1, si s), (2, si t), (3, si i)] []
  refine j_aload_n C dX5_step_0 rfl ?_
  refine j_get (v := sr 1) C 0 0 (by decide) (en_0 _ _) rfl (by decide) (fun w h => List.mem_cons_of_mem _ (List.mem_append_left _ (List.mem_append_left _ (List.mem_append_left _ (List.mem_append_right _ h))))) (List.mem_of_getElem? (i := 1) rfl) dX5_step_1 rfl ?_
  refine j_iload_n C dX5_step_4 rfl ?_
  refine j_doI (st := []) (j_runVN C (kX1_has hn.1 ok s (by omega)) ggX5_step_X1_has sgX1_has rfl (List.mem_of_getElem? (i := 28) rfl) (List.mem_of_getElem? (i := 7) rfl) (List.mem_of_getElem? (i := 6) rfl) (List.mem_of_getElem? (i := 8) rfl) ⟨by decide, by decide⟩ (by decide) (en_G (c := 1) (by decide) _) rfl rfl rfl (Nat.le_of_ble_eq_true rfl) dX5_step_5) (fun z_1 V_2 h_3 => ?_)
  obtain ⟨rfl, rfl⟩ := h_3
  refine j_ifb_eq (tgt := 22) C dX5_step_8 (by decide) (fun q_4 => ?_) (fun q_4 => ?_)
  · refine j_ldc (n := -1000000001) C (List.mem_of_getElem? (i := 2) rfl) (by decide) dX5_step_22 ?_
    refine j_iret C hQ dX5_step_24 ?_
    refine ⟨(cFr_rf _), ?_⟩
    unfold aStep gI
    simp_all
    try omega
  · refine j_aload_n C dX5_step_11 rfl ?_
    refine j_get (v := sr 1) C 0 0 (by decide) (en_0 _ _) rfl (by decide) (fun w h => List.mem_cons_of_mem _ (List.mem_append_left _ (List.mem_append_left _ (List.mem_append_left _ (List.mem_append_right _ h))))) (List.mem_of_getElem? (i := 1) rfl) dX5_step_12 rfl ?_
    refine j_iload_n C dX5_step_15 rfl ?_
    refine j_doI (st := []) (j_runVN C (kX1_has hn.1 ok t (by omega)) ggX5_step_X1_has sgX1_has rfl (List.mem_of_getElem? (i := 28) rfl) (List.mem_of_getElem? (i := 7) rfl) (List.mem_of_getElem? (i := 6) rfl) (List.mem_of_getElem? (i := 8) rfl) ⟨by decide, by decide⟩ (by decide) (en_G (c := 1) (by decide) _) rfl rfl rfl (Nat.le_of_ble_eq_true rfl) dX5_step_16) (fun z_5 V_6 h_7 => ?_)
    obtain ⟨rfl, rfl⟩ := h_7
    refine j_ifb_ne (tgt := 25) C dX5_step_19 (by decide) (fun q_8 => ?_) (fun q_8 => ?_)
    · refine j_iload_n C dX5_step_25 rfl ?_
      refine j_if_ge (tgt := 32) C dX5_step_26 (by decide) (by omega) (fun q_9 => ?_) (fun q_9 => ?_)
      · refine j_aload_n C dX5_step_32 rfl ?_
        refine j_get (v := sr 1) C 0 0 (by decide) (en_0 _ _) rfl (by decide) (fun w h => List.mem_cons_of_mem _ (List.mem_append_left _ (List.mem_append_left _ (List.mem_append_left _ (List.mem_append_right _ h))))) (List.mem_of_getElem? (i := 1) rfl) dX5_step_33 rfl ?_
        refine j_iload_n C dX5_step_36 rfl ?_
        refine j_doI (st := []) (j_runVN C (kX1_isAwake hn.1 ok s (by omega)) ggX5_step_X1_isAwake sgX1_isAwake rfl (List.mem_of_getElem? (i := 29) rfl) (List.mem_of_getElem? (i := 7) rfl) (List.mem_of_getElem? (i := 11) rfl) (List.mem_of_getElem? (i := 12) rfl) ⟨by decide, by decide⟩ (by decide) (en_G (c := 1) (by decide) _) rfl rfl rfl (Nat.le_of_ble_eq_true rfl) dX5_step_37) (fun z_10 V_11 h_12 => ?_)
        obtain ⟨rfl, rfl⟩ := h_12
        refine j_top (b := bI (gA g s.toNat)) (by rw [decide_eq_true (show 0 ≤ s by have := ok.n; simp only [gI, Bool.and_eq_true, decide_eq_true_eq] at *; omega), Bool.true_and]) ?_
        refine j_ifb_eq (tgt := 54) C dX5_step_40 (by decide) (fun q_13 => ?_) (fun q_13 => ?_)
        · refine j_ldc (n := -1000000003) C (List.mem_of_getElem? (i := 4) rfl) (by decide) dX5_step_54 ?_
          refine j_iret C hQ dX5_step_56 ?_
          refine ⟨(cFr_rf _), ?_⟩
          unfold aStep gI
          simp_all
          try omega
        · refine j_aload_n C dX5_step_43 rfl ?_
          refine j_get (v := sr 1) C 0 0 (by decide) (en_0 _ _) rfl (by decide) (fun w h => List.mem_cons_of_mem _ (List.mem_append_left _ (List.mem_append_left _ (List.mem_append_left _ (List.mem_append_right _ h))))) (List.mem_of_getElem? (i := 1) rfl) dX5_step_44 rfl ?_
          refine j_iload_n C dX5_step_47 rfl ?_
          refine j_doI (st := []) (j_runVN C (kX1_isAwake hn.1 ok t (by omega)) ggX5_step_X1_isAwake sgX1_isAwake rfl (List.mem_of_getElem? (i := 29) rfl) (List.mem_of_getElem? (i := 7) rfl) (List.mem_of_getElem? (i := 11) rfl) (List.mem_of_getElem? (i := 12) rfl) ⟨by decide, by decide⟩ (by decide) (en_G (c := 1) (by decide) _) rfl rfl rfl (Nat.le_of_ble_eq_true rfl) dX5_step_48) (fun z_14 V_15 h_16 => ?_)
          obtain ⟨rfl, rfl⟩ := h_16
          refine j_top (b := bI (gA g t.toNat)) (by rw [decide_eq_true (show 0 ≤ t by have := ok.n; simp only [gI, Bool.and_eq_true, decide_eq_true_eq] at *; omega), Bool.true_and]) ?_
          refine j_ifb_ne (tgt := 57) C dX5_step_51 (by decide) (fun q_17 => ?_) (fun q_17 => ?_)
          · refine j_aload_n C dX5_step_57 rfl ?_
            refine j_get (v := sr 8) C 0 2 (by decide) (en_0 _ _) rfl (by decide) (fun w h => List.mem_cons_of_mem _ (List.mem_append_left _ (List.mem_append_left _ (List.mem_append_left _ (List.mem_append_right _ h))))) (List.mem_of_getElem? (i := 5) rfl) dX5_step_58 rfl ?_
            refine j_iload_n C dX5_step_61 rfl ?_
            refine j_iload_n C dX5_step_62 rfl ?_
            refine j_doV (st := []) (j_runVN C (kX2_walk hn ok s.toNat t.toNat (by have := ok.n; simp only [gI, Bool.and_eq_true, decide_eq_true_eq] at *; omega) (by have := ok.n; simp only [gI, Bool.and_eq_true, decide_eq_true_eq] at *; omega) (by have := ok.n; simp only [gI, Bool.and_eq_true, decide_eq_true_eq] at *; omega) (by have := ok.n; simp only [gI, Bool.and_eq_true, decide_eq_true_eq] at *; omega) ‹_› ‹_›) ggX5_step_X2_walk sgX2_walk rfl (List.mem_of_getElem? (i := 34) rfl) (List.mem_of_getElem? (i := 20) rfl) (List.mem_of_getElem? (i := 19) rfl) (List.mem_of_getElem? (i := 21) rfl) ⟨by decide, by decide⟩ (by decide) (en_8 _ _) rfl rfl rfl (Nat.le_of_ble_eq_true rfl) dX5_step_63) (fun V_19 h_20 => ?_)
            refine j_aload_n C dX5_step_66 rfl ?_
            refine j_get (v := sr 8) C 0 2 (by decide) (en_0 _ _) rfl (by decide) (fun w h => List.mem_cons_of_mem _ (List.mem_append_left _ (List.mem_append_left _ (List.mem_append_left _ (List.mem_append_right _ h))))) (List.mem_of_getElem? (i := 5) rfl) dX5_step_67 rfl ?_
            refine j_iload_n C dX5_step_70 rfl ?_
            refine j_doI (st := []) (j_runVN C (kX2_nodeBehind i _ _ (by omega) h_20.1 (wkR_rg _ _ _).1 h_20.2.2.2.2.2.2.1) ggX5_step_X2_nodeBehind sgX2_nodeBehind rfl (List.mem_of_getElem? (i := 36) rfl) (List.mem_of_getElem? (i := 20) rfl) (List.mem_of_getElem? (i := 101) rfl) (List.mem_of_getElem? (i := 102) rfl) ⟨by decide, by decide⟩ (by decide) (en_8 _ _) rfl rfl rfl (Nat.le_of_ble_eq_true rfl) dX5_step_71) (fun z_21 V_22 h_23 => ?_)
            obtain ⟨rfl, rfl⟩ := h_23
            refine j_iret C hQ dX5_step_74 ?_
            refine ⟨h_20.2.2.2.2.2.2.2, ?_⟩
            unfold aStep gI
            simp_all
            try omega
          · refine j_ldc (n := -1000000003) C (List.mem_of_getElem? (i := 4) rfl) (by decide) dX5_step_54 ?_
            refine j_iret C hQ dX5_step_56 ?_
            refine ⟨(cFr_rf _), ?_⟩
            unfold aStep gI
            simp_all
            try omega
      · refine j_ldc (n := -1000000002) C (List.mem_of_getElem? (i := 3) rfl) (by decide) dX5_step_29 ?_
        refine j_iret C hQ dX5_step_31 ?_
        refine ⟨(cFr_rf _), ?_⟩
        unfold aStep gI
        simp_all
        try omega
    · refine j_ldc (n := -1000000001) C (List.mem_of_getElem? (i := 2) rfl) (by decide) dX5_step_22 ?_
      refine j_iret C hQ dX5_step_24 ?_
      refine ⟨(cFr_rf _), ?_⟩
      unfold aStep gI
      simp_all
      try omega
def rX5_at : Room := { frames := 3, cells := 0, slots := 0, locals := 72 }
theorem sgX5_at : sg yX5_at wsX5_at cX5_at 3 (some .int) rX5_at 2 := ⟨⟨_, rfl⟩, rfl, rfl, by decide, by decide, by decide +kernel⟩
set_option maxHeartbeats 4000000 in
set_option maxRecDepth 100000 in
theorem kX5_at {O : OmT} {l : Launch} {V : Mem} {g : Nat → Int} (hn : net V g) (ok : okg g) (v : Int) (what : Int) (hv : -2147483648 ≤ v ∧ v < 2147483648) (hwhat : -2147483648 ≤ what ∧ what < 2147483648) : MI O l yX5_at wsX5_at rX5_at [sr 0, si v, si what] V (fun z V2 => V = V2 ∧ z = aAt g v what) := by
  refine mi_of (cc := cX5_at) (nL := 3) (rt := (some .int)) (by decide) rfl rfl (Nat.le_of_ble_eq_true rfl) (fun F hF C hQ => ?_)
  subst hF
  change J O F rX5_at 3 V 0 [(0, sr 0), (1, si v), (2, si what)] []
  refine j_aload_n C dX5_at_0 rfl ?_
  refine j_get (v := sr 1) C 0 0 (by decide) (en_0 _ _) rfl (by decide) (fun w h => List.mem_cons_of_mem _ (List.mem_append_left _ (List.mem_append_left _ (List.mem_append_right _ h)))) (List.mem_of_getElem? (i := 1) rfl) dX5_at_1 rfl ?_
  refine j_iload_n C dX5_at_4 rfl ?_
  refine j_doI (st := []) (j_runVN C (kX1_has hn.1 ok v (by omega)) ggX5_at_X1_has sgX1_has rfl (List.mem_of_getElem? (i := 28) rfl) (List.mem_of_getElem? (i := 6) rfl) (List.mem_of_getElem? (i := 5) rfl) (List.mem_of_getElem? (i := 7) rfl) ⟨by decide, by decide⟩ (by decide) (en_G (c := 1) (by decide) _) rfl rfl rfl (Nat.le_of_ble_eq_true rfl) dX5_at_5) (fun z_1 V_2 h_3 => ?_)
  obtain ⟨rfl, rfl⟩ := h_3
  refine j_ifb_ne (tgt := 14) C dX5_at_8 (by decide) (fun q_4 => ?_) (fun q_4 => ?_)
  · refine j_iload_n C dX5_at_14 rfl ?_
    refine j_if_lt (tgt := 23) C dX5_at_15 (by decide) (by omega) (fun q_5 => ?_) (fun q_5 => ?_)
    · refine j_ldc (n := -1000000002) C (List.mem_of_getElem? (i := 3) rfl) (by decide) dX5_at_23 ?_
      refine j_iret C hQ dX5_at_25 ?_
      refine ⟨rfl, ?_⟩
      unfold aAt gI gSt
      simp_all [bI]
      try omega
    · refine j_iload_n C dX5_at_18 rfl ?_
      refine j_iconst C dX5_at_19 ?_
      refine j_icmp_le (tgt := 26) C dX5_at_20 (by decide) (by omega) (by decide) (fun q_6 => ?_) (fun q_6 => ?_)
      · refine j_iload_n C dX5_at_26 rfl ?_
        rcases (show what = 0 ∨ what = 1 ∨ what = 2 ∨ what = 3 ∨ what = 4 ∨ (what < 0 ∨ 4 < what) by omega) with q_7 | q_7 | q_7 | q_7 | q_7 | q_7
        · refine j_top q_7 ?_
          refine j_tabIn (tgt := 60) (off := 33) C dX5_at_27 (by decide) (by decide) (by decide) (by decide) (by decide) ?_
          refine j_aload_n C dX5_at_60 rfl ?_
          refine j_get (v := sr 1) C 0 0 (by decide) (en_0 _ _) rfl (by decide) (fun w h => List.mem_cons_of_mem _ (List.mem_append_left _ (List.mem_append_left _ (List.mem_append_right _ h)))) (List.mem_of_getElem? (i := 1) rfl) dX5_at_61 rfl ?_
          refine j_getN (v := sr 2) C 1 0 (by decide) (en_G (c := 1) (by decide) _) rfl (by decide) (fun w h => List.mem_cons_of_mem _ (List.mem_append_left _ (List.mem_append_right _ h))) (List.mem_of_getElem? (i := 0) rfl) dX5_at_64 rfl ?_
          refine j_iload_n C dX5_at_67 rfl ?_
          refine j_iald C (row_2 O) v.toNat (by have := ok.n; simp only [gI, Bool.and_eq_true, decide_eq_true_eq] at *; omega) (by have := ok.n; simp only [gI, Bool.and_eq_true, decide_eq_true_eq] at *; omega) dX5_at_68 ?_
          refine j_top (hn.1.2.2.2.2.1 v.toNat (by have := ok.n; simp only [gI, Bool.and_eq_true, decide_eq_true_eq] at *; omega)) ?_
          refine j_iret C hQ dX5_at_69 ?_
          refine ⟨rfl, ?_⟩
          unfold aAt gI gSt
          simp_all [bI]
          try omega
        · refine j_top q_7 ?_
          refine j_tabIn (tgt := 70) (off := 43) C dX5_at_27 (by decide) (by decide) (by decide) (by decide) (by decide) ?_
          refine j_aload_n C dX5_at_70 rfl ?_
          refine j_get (v := sr 1) C 0 0 (by decide) (en_0 _ _) rfl (by decide) (fun w h => List.mem_cons_of_mem _ (List.mem_append_left _ (List.mem_append_left _ (List.mem_append_right _ h)))) (List.mem_of_getElem? (i := 1) rfl) dX5_at_71 rfl ?_
          refine j_getN (v := sr 3) C 1 1 (by decide) (en_G (c := 1) (by decide) _) rfl (by decide) (fun w h => List.mem_cons_of_mem _ (List.mem_append_left _ (List.mem_append_right _ h))) (List.mem_of_getElem? (i := 3) rfl) dX5_at_74 rfl ?_
          refine j_iload_n C dX5_at_77 rfl ?_
          refine j_iald C (row_3 O) v.toNat (by have := ok.n; simp only [gI, Bool.and_eq_true, decide_eq_true_eq] at *; omega) (by have := ok.n; simp only [gI, Bool.and_eq_true, decide_eq_true_eq] at *; omega) dX5_at_78 ?_
          refine j_top (hn.1.2.2.2.2.2 v.toNat (by have := ok.n; simp only [gI, Bool.and_eq_true, decide_eq_true_eq] at *; omega)) ?_
          refine j_iret C hQ dX5_at_79 ?_
          refine ⟨rfl, ?_⟩
          unfold aAt gI gSt
          simp_all [bI]
          try omega
        · refine j_top q_7 ?_
          refine j_tabIn (tgt := 80) (off := 53) C dX5_at_27 (by decide) (by decide) (by decide) (by decide) (by decide) ?_
          refine j_aload_n C dX5_at_80 rfl ?_
          refine j_get (v := sr 1) C 0 0 (by decide) (en_0 _ _) rfl (by decide) (fun w h => List.mem_cons_of_mem _ (List.mem_append_left _ (List.mem_append_left _ (List.mem_append_right _ h)))) (List.mem_of_getElem? (i := 1) rfl) dX5_at_81 rfl ?_
          refine j_iload_n C dX5_at_84 rfl ?_
          refine j_doI (st := []) (j_runVN C (kX1_isAwake hn.1 ok v (by omega)) ggX5_at_X1_isAwake sgX1_isAwake rfl (List.mem_of_getElem? (i := 29) rfl) (List.mem_of_getElem? (i := 6) rfl) (List.mem_of_getElem? (i := 10) rfl) (List.mem_of_getElem? (i := 11) rfl) ⟨by decide, by decide⟩ (by decide) (en_G (c := 1) (by decide) _) rfl rfl rfl (Nat.le_of_ble_eq_true rfl) dX5_at_85) (fun z_8 V_9 h_10 => ?_)
          obtain ⟨rfl, rfl⟩ := h_10
          refine j_top (b := bI (gA g v.toNat)) (by rw [decide_eq_true (show 0 ≤ v by have := ok.n; simp only [gI, Bool.and_eq_true, decide_eq_true_eq] at *; omega), Bool.true_and]) ?_
          refine j_ifb_eq (tgt := 95) C dX5_at_88 (by decide) (fun q_11 => ?_) (fun q_11 => ?_)
          · refine j_iconst C dX5_at_95 ?_
            refine j_iret C hQ dX5_at_96 ?_
            refine ⟨rfl, ?_⟩
            unfold aAt gI gSt
            simp_all [bI]
            try omega
          · refine j_iconst C dX5_at_91 ?_
            refine j_goto (tgt := 96) C dX5_at_92 (by decide) ?_
            refine j_iret C hQ dX5_at_96 ?_
            refine ⟨rfl, ?_⟩
            unfold aAt gI gSt
            simp_all [bI]
            try omega
        · refine j_top q_7 ?_
          refine j_tabIn (tgt := 97) (off := 70) C dX5_at_27 (by decide) (by decide) (by decide) (by decide) (by decide) ?_
          refine j_aload_n C dX5_at_97 rfl ?_
          refine j_get (v := sr 4) C 0 1 (by decide) (en_0 _ _) rfl (by decide) (fun w h => List.mem_cons_of_mem _ (List.mem_append_left _ (List.mem_append_left _ (List.mem_append_right _ h)))) (List.mem_of_getElem? (i := 4) rfl) dX5_at_98 rfl ?_
          refine j_getN (v := sr 5) C 4 1 (by decide) (en_4 _ _) rfl (by decide) (fun w h => List.mem_cons_of_mem _ (List.mem_append_right _ h)) (List.mem_of_getElem? (i := 15) rfl) dX5_at_101 rfl ?_
          refine j_iload_n C dX5_at_104 rfl ?_
          refine j_iald C (row_5 O) v.toNat (by have := ok.n; simp only [gI, Bool.and_eq_true, decide_eq_true_eq] at *; omega) (by have := ok.n; simp only [gI, Bool.and_eq_true, decide_eq_true_eq] at *; omega) dX5_at_105 ?_
          refine j_top (hn.2.1 v.toNat (by have := ok.n; simp only [gI, Bool.and_eq_true, decide_eq_true_eq] at *; omega)) ?_
          refine j_iret C hQ dX5_at_106 ?_
          refine ⟨rfl, ?_⟩
          unfold aAt gI gSt
          simp_all [bI]
          try omega
        · refine j_top q_7 ?_
          refine j_tabIn (tgt := 107) (off := 80) C dX5_at_27 (by decide) (by decide) (by decide) (by decide) (by decide) ?_
          refine j_aload_n C dX5_at_107 rfl ?_
          refine j_get (v := sr 4) C 0 1 (by decide) (en_0 _ _) rfl (by decide) (fun w h => List.mem_cons_of_mem _ (List.mem_append_left _ (List.mem_append_left _ (List.mem_append_right _ h)))) (List.mem_of_getElem? (i := 4) rfl) dX5_at_108 rfl ?_
          refine j_getN (v := sr 6) C 4 2 (by decide) (en_4 _ _) rfl (by decide) (fun w h => List.mem_cons_of_mem _ (List.mem_append_right _ h)) (List.mem_of_getElem? (i := 16) rfl) dX5_at_111 rfl ?_
          refine j_iload_n C dX5_at_114 rfl ?_
          refine j_iald C (row_6 O) v.toNat (by have := ok.n; simp only [gI, Bool.and_eq_true, decide_eq_true_eq] at *; omega) (by have := ok.n; simp only [gI, Bool.and_eq_true, decide_eq_true_eq] at *; omega) dX5_at_115 ?_
          refine j_top (hn.2.2 v.toNat (by have := ok.n; simp only [gI, Bool.and_eq_true, decide_eq_true_eq] at *; omega)) ?_
          refine j_iret C hQ dX5_at_116 ?_
          refine ⟨rfl, ?_⟩
          unfold aAt gI gSt
          simp_all [bI]
          try omega
        · refine j_tabOut (tgt := 117) C dX5_at_27 (by omega) q_7 (by decide) ?_
          refine j_aload_n C dX5_at_117 rfl ?_
          refine j_get (v := sr 4) C 0 1 (by decide) (en_0 _ _) rfl (by decide) (fun w h => List.mem_cons_of_mem _ (List.mem_append_left _ (List.mem_append_left _ (List.mem_append_right _ h)))) (List.mem_of_getElem? (i := 4) rfl) dX5_at_118 rfl ?_
          refine j_iload_n C dX5_at_121 rfl ?_
          refine j_doI (st := []) (j_runVN C (kX3_aimsAstray hn ok v.toNat (by have := ok.n; simp only [gI, Bool.and_eq_true, decide_eq_true_eq] at *; omega) (by have := ok.n; simp only [gI, Bool.and_eq_true, decide_eq_true_eq] at *; omega)) ggX5_at_X3_aimsAstray sgX3_aimsAstray rfl (List.mem_of_getElem? (i := 30) rfl) (List.mem_of_getElem? (i := 19) rfl) (List.mem_of_getElem? (i := 18) rfl) (List.mem_of_getElem? (i := 20) rfl) ⟨by decide, by decide⟩ (by decide) (en_4 _ _) rfl rfl rfl (Nat.le_of_ble_eq_true rfl) dX5_at_122) (fun z_12 V_13 h_14 => ?_)
          obtain ⟨rfl, rfl⟩ := h_14
          refine j_iret C hQ dX5_at_125 ?_
          refine ⟨rfl, ?_⟩
          unfold aAt gI gSt
          simp_all [bI]
          try omega
      · refine j_ldc (n := -1000000002) C (List.mem_of_getElem? (i := 3) rfl) (by decide) dX5_at_23 ?_
        refine j_iret C hQ dX5_at_25 ?_
        refine ⟨rfl, ?_⟩
        unfold aAt gI gSt
        simp_all [bI]
        try omega
  · refine j_ldc (n := -1000000001) C (List.mem_of_getElem? (i := 2) rfl) (by decide) dX5_at_11 ?_
    refine j_iret C hQ dX5_at_13 ?_
    refine ⟨rfl, ?_⟩
    unfold aAt gI gSt
    simp_all [bI]
    try omega
