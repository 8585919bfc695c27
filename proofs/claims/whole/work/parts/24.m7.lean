def rX6_way : Room := { frames := 7, cells := 0, slots := 0, locals := 169 }
theorem sgX6_way : sg yX6_way wsX6_way cX6_way 4 (some .int) rX6_way 3 := ⟨⟨_, rfl⟩, rfl, rfl, by decide, by decide, by decide +kernel⟩
set_option maxHeartbeats 4000000 in
set_option maxRecDepth 100000 in
theorem kX6_way {O : OmT} {l : Launch} {V : Mem} {g : Nat → Int} (hg : mdl V g) (ok : okg g) (s : Int) (t : Int) (what : Int) (hs : -2147483648 ≤ s ∧ s < 2147483648) (ht : -2147483648 ≤ t ∧ t < 2147483648) (hwhat : -2147483648 ≤ what ∧ what < 2147483648) : MI O l yX6_way wsX6_way rX6_way [sr 72, si s, si t, si what] V (fun z V2 => mFr V V2 ∧ z = aWay g s t what) := by
  refine mi_of (cc := cX6_way) (nL := 4) (rt := (some .int)) (by decide) rfl rfl (Nat.le_of_ble_eq_true rfl) (fun F hF C hQ => ?_)
  subst hF
  change J O F rX6_way 4 V 0 [(0, sr 72), (1, si s), (2, si t), (3, si what)] []
  refine j_aload_n C dX6_way_0 rfl ?_
  refine j_iload_n C dX6_way_1 rfl ?_
  refine j_doI (st := []) (j_runV C (kX6_isNode hg ok s (by omega)) gX6_way_X6_isNode sgX6_isNode rfl ⟨by decide, by decide⟩ (by decide) (en_72 _ _) rfl rfl rfl (Nat.le_of_ble_eq_true rfl) dX6_way_2) (fun z_1 V_2 h_3 => ?_)
  obtain ⟨rfl, rfl⟩ := h_3
  refine j_ifb_eq (tgt := 16) C dX6_way_5 (by decide) (fun q_4 => ?_) (fun q_4 => ?_)
  · refine j_ldc (n := -1000000001) C (List.mem_of_getElem? (i := 1) rfl) (by decide) dX6_way_16 ?_
    refine j_iret C hQ dX6_way_18 ?_
    refine ⟨(mFr_rf _), ?_⟩
    unfold aWay gI
    simp_all
    try omega
  · refine j_aload_n C dX6_way_8 rfl ?_
    refine j_iload_n C dX6_way_9 rfl ?_
    refine j_doI (st := []) (j_runV C (kX6_isNode hg ok t (by omega)) gX6_way_X6_isNode sgX6_isNode rfl ⟨by decide, by decide⟩ (by decide) (en_72 _ _) rfl rfl rfl (Nat.le_of_ble_eq_true rfl) dX6_way_10) (fun z_5 V_6 h_7 => ?_)
    obtain ⟨rfl, rfl⟩ := h_7
    refine j_ifb_ne (tgt := 19) C dX6_way_13 (by decide) (fun q_8 => ?_) (fun q_8 => ?_)
    · refine j_iload_n C dX6_way_19 rfl ?_
      refine j_iconst C dX6_way_20 ?_
      refine j_iconst C dX6_way_21 ?_
      refine j_doI (st := []) (j_runS C (kX6_in what 0 5 (by omega) (by decide) (by decide)) ggX6_way_X6_in sgX6_in (List.mem_of_getElem? (i := 15) rfl) (List.mem_of_getElem? (i := 12) rfl) (List.mem_of_getElem? (i := 16) rfl) ⟨by decide, by decide⟩ rfl rfl (Nat.le_of_ble_eq_true rfl) dX6_way_22) (fun z_9 V_10 h_11 => ?_)
      obtain ⟨rfl, rfl⟩ := h_11
      refine j_ifb_ne (tgt := 31) C dX6_way_25 (by decide) (fun q_12 => ?_) (fun q_12 => ?_)
      · refine j_aload_n C dX6_way_31 rfl ?_
        refine j_iload_n C dX6_way_32 rfl ?_
        refine j_doI (st := []) (j_runV C (kX6_isAwake hg ok s.toNat (by have := ok.n; simp only [gI, Bool.and_eq_true, decide_eq_true_eq] at *; omega) (by have := ok.n; simp only [gI, Bool.and_eq_true, decide_eq_true_eq] at *; omega)) gX6_way_X6_isAwake sgX6_isAwake rfl ⟨by decide, by decide⟩ (by decide) (en_72 _ _) rfl rfl rfl (Nat.le_of_ble_eq_true rfl) dX6_way_33) (fun z_13 V_14 h_15 => ?_)
        obtain ⟨rfl, rfl⟩ := h_15
        refine j_ifb_eq (tgt := 47) C dX6_way_36 (by decide) (fun q_16 => ?_) (fun q_16 => ?_)
        · refine j_ldc (n := -1000000003) C (List.mem_of_getElem? (i := 3) rfl) (by decide) dX6_way_47 ?_
          refine j_iret C hQ dX6_way_49 ?_
          refine ⟨(mFr_rf _), ?_⟩
          unfold aWay gI
          simp_all
          try omega
        · refine j_aload_n C dX6_way_39 rfl ?_
          refine j_iload_n C dX6_way_40 rfl ?_
          refine j_doI (st := []) (j_runV C (kX6_isAwake hg ok t.toNat (by have := ok.n; simp only [gI, Bool.and_eq_true, decide_eq_true_eq] at *; omega) (by have := ok.n; simp only [gI, Bool.and_eq_true, decide_eq_true_eq] at *; omega)) gX6_way_X6_isAwake sgX6_isAwake rfl ⟨by decide, by decide⟩ (by decide) (en_72 _ _) rfl rfl rfl (Nat.le_of_ble_eq_true rfl) dX6_way_41) (fun z_17 V_18 h_19 => ?_)
          obtain ⟨rfl, rfl⟩ := h_19
          refine j_ifb_ne (tgt := 50) C dX6_way_44 (by decide) (fun q_20 => ?_) (fun q_20 => ?_)
          · refine j_aload_n C dX6_way_50 rfl ?_
            refine j_iload_n C dX6_way_51 rfl ?_
            refine j_iload_n C dX6_way_52 rfl ?_
            refine j_doV (st := []) (j_runV C (kX6_walks hg ok s.toNat t.toNat (by have := ok.n; simp only [gI, Bool.and_eq_true, decide_eq_true_eq] at *; omega) (by have := ok.n; simp only [gI, Bool.and_eq_true, decide_eq_true_eq] at *; omega) (by have := ok.n; simp only [gI, Bool.and_eq_true, decide_eq_true_eq] at *; omega) (by have := ok.n; simp only [gI, Bool.and_eq_true, decide_eq_true_eq] at *; omega) ‹_› ‹_›) gX6_way_X6_walks sgX6_walks rfl ⟨by decide, by decide⟩ (by decide) (en_72 _ _) rfl rfl rfl (Nat.le_of_ble_eq_true rfl) dX6_way_53) (fun V_22 h_23 => ?_)
            refine j_iload_n C dX6_way_56 rfl ?_
            rcases (show what = 0 ∨ what = 1 ∨ what = 2 ∨ what = 3 ∨ what = 4 ∨ (what < 0 ∨ 4 < what) by omega) with q_24 | q_24 | q_24 | q_24 | q_24 | q_24
            · refine j_top q_24 ?_
              refine j_tabIn (tgt := 92) (off := 35) C dX6_way_57 (by decide) (by decide) (by decide) (by decide) (by decide) ?_
              refine j_aload_n C dX6_way_92 rfl ?_
              refine j_get (v := si (V_22 72 15)) C 72 15 (by decide) (en_72 _ _) rfl (by decide) (fun w h => List.mem_cons_of_mem _ (List.mem_append_right _ h)) (List.mem_of_getElem? (i := 4) rfl) dX6_way_93 rfl ?_
              refine j_top h_23.2.1 ?_
              refine j_ifb_eq (tgt := 103) C dX6_way_96 (by decide) (fun q_25 => ?_) (fun q_25 => ?_)
              · refine j_aload_n C dX6_way_103 rfl ?_
                refine j_get (v := si (V_22 72 16)) C 72 16 (by decide) (en_72 _ _) rfl (by decide) (fun w h => List.mem_cons_of_mem _ (List.mem_append_right _ h)) (List.mem_of_getElem? (i := 5) rfl) dX6_way_104 rfl ?_
                refine j_top h_23.2.2.1 ?_
                refine j_if_le (tgt := 114) C dX6_way_107 (by decide) (by have := wkR_rg g s.toNat t.toNat; omega) (fun q_26 => ?_) (fun q_26 => ?_)
                · refine j_iconst C dX6_way_114 ?_
                  refine j_iret C hQ dX6_way_115 ?_
                  refine ⟨h_23.2.2.2.2.2.2, ?_⟩
                  unfold aWay gI
                  simp_all
                  try omega
                · refine j_iconst C dX6_way_110 ?_
                  refine j_goto (tgt := 115) C dX6_way_111 (by decide) ?_
                  refine j_iret C hQ dX6_way_115 ?_
                  refine ⟨h_23.2.2.2.2.2.2, ?_⟩
                  unfold aWay gI
                  simp_all
                  try omega
              · refine j_iconst C dX6_way_99 ?_
                refine j_goto (tgt := 115) C dX6_way_100 (by decide) ?_
                refine j_iret C hQ dX6_way_115 ?_
                refine ⟨h_23.2.2.2.2.2.2, ?_⟩
                unfold aWay gI
                simp_all
                try omega
            · refine j_top q_24 ?_
              refine j_tabIn (tgt := 116) (off := 59) C dX6_way_57 (by decide) (by decide) (by decide) (by decide) (by decide) ?_
              refine j_aload_n C dX6_way_116 rfl ?_
              refine j_get (v := si (V_22 72 13)) C 72 13 (by decide) (en_72 _ _) rfl (by decide) (fun w h => List.mem_cons_of_mem _ (List.mem_append_right _ h)) (List.mem_of_getElem? (i := 6) rfl) dX6_way_117 rfl ?_
              refine j_top h_23.1 ?_
              refine j_iret C hQ dX6_way_120 ?_
              refine ⟨h_23.2.2.2.2.2.2, ?_⟩
              unfold aWay gI
              simp_all
              try omega
            · refine j_top q_24 ?_
              refine j_tabIn (tgt := 121) (off := 64) C dX6_way_57 (by decide) (by decide) (by decide) (by decide) (by decide) ?_
              refine j_aload_n C dX6_way_121 rfl ?_
              refine j_get (v := si (V_22 72 16)) C 72 16 (by decide) (en_72 _ _) rfl (by decide) (fun w h => List.mem_cons_of_mem _ (List.mem_append_right _ h)) (List.mem_of_getElem? (i := 5) rfl) dX6_way_122 rfl ?_
              refine j_top h_23.2.2.1 ?_
              refine j_iret C hQ dX6_way_125 ?_
              refine ⟨h_23.2.2.2.2.2.2, ?_⟩
              unfold aWay gI
              simp_all
              try omega
            · refine j_top q_24 ?_
              refine j_tabIn (tgt := 126) (off := 69) C dX6_way_57 (by decide) (by decide) (by decide) (by decide) (by decide) ?_
              refine j_aload_n C dX6_way_126 rfl ?_
              refine j_get (v := si (V_22 72 17)) C 72 17 (by decide) (en_72 _ _) rfl (by decide) (fun w h => List.mem_cons_of_mem _ (List.mem_append_right _ h)) (List.mem_of_getElem? (i := 7) rfl) dX6_way_127 rfl ?_
              refine j_top h_23.2.2.2.1 ?_
              refine j_iret C hQ dX6_way_130 ?_
              refine ⟨h_23.2.2.2.2.2.2, ?_⟩
              unfold aWay gI
              simp_all
              try omega
            · refine j_top q_24 ?_
              refine j_tabIn (tgt := 131) (off := 74) C dX6_way_57 (by decide) (by decide) (by decide) (by decide) (by decide) ?_
              refine j_aload_n C dX6_way_131 rfl ?_
              refine j_get (v := si (V_22 72 18)) C 72 18 (by decide) (en_72 _ _) rfl (by decide) (fun w h => List.mem_cons_of_mem _ (List.mem_append_right _ h)) (List.mem_of_getElem? (i := 8) rfl) dX6_way_132 rfl ?_
              refine j_top h_23.2.2.2.2.1 ?_
              refine j_iret C hQ dX6_way_135 ?_
              refine ⟨h_23.2.2.2.2.2.2, ?_⟩
              unfold aWay gI
              simp_all
              try omega
            · refine j_tabOut (tgt := 136) C dX6_way_57 (by omega) q_24 (by decide) ?_
              refine j_aload_n C dX6_way_136 rfl ?_
              refine j_doI (st := []) (j_runV C (kX6_stoodSet _ _ h_23.1 (wkR_rg _ _ _).1 h_23.2.2.2.2.2.1 (fun k hk => by have := wkR_path ok (by have := ok.n; simp only [gI, Bool.and_eq_true, decide_eq_true_eq] at *; omega) (by have := ok.n; simp only [gI, Bool.and_eq_true, decide_eq_true_eq] at *; omega) ‹_› k hk; have := ok.n; omega)) gX6_way_X6_stoodSet sgX6_stoodSet rfl ⟨by decide, by decide⟩ (by decide) (en_72 _ _) rfl rfl rfl (Nat.le_of_ble_eq_true rfl) dX6_way_137) (fun z_27 V_28 h_29 => ?_)
              obtain ⟨rfl, rfl⟩ := h_29
              refine j_iret C hQ dX6_way_140 ?_
              refine ⟨h_23.2.2.2.2.2.2, ?_⟩
              unfold aWay gI
              simp_all
              try omega
          · refine j_ldc (n := -1000000003) C (List.mem_of_getElem? (i := 3) rfl) (by decide) dX6_way_47 ?_
            refine j_iret C hQ dX6_way_49 ?_
            refine ⟨(mFr_rf _), ?_⟩
            unfold aWay gI
            simp_all
            try omega
      · refine j_ldc (n := -1000000002) C (List.mem_of_getElem? (i := 2) rfl) (by decide) dX6_way_28 ?_
        refine j_iret C hQ dX6_way_30 ?_
        refine ⟨(mFr_rf _), ?_⟩
        unfold aWay gI
        simp_all
        try omega
    · refine j_ldc (n := -1000000001) C (List.mem_of_getElem? (i := 1) rfl) (by decide) dX6_way_16 ?_
      refine j_iret C hQ dX6_way_18 ?_
      refine ⟨(mFr_rf _), ?_⟩
      unfold aWay gI
      simp_all
      try omega
def rX6_step : Room := { frames := 7, cells := 0, slots := 0, locals := 169 }
theorem sgX6_step : sg yX6_step wsX6_step cX6_step 4 (some .int) rX6_step 3 := ⟨⟨_, rfl⟩, rfl, rfl, by decide, by decide, by decide +kernel⟩
set_option maxHeartbeats 4000000 in
set_option maxRecDepth 100000 in
theorem kX6_step {O : OmT} {l : Launch} {V : Mem} {g : Nat → Int} (hg : mdl V g) (ok : okg g) (s : Int) (t : Int) (i : Int) (hs : -2147483648 ≤ s ∧ s < 2147483648) (ht : -2147483648 ≤ t ∧ t < 2147483648) (hi : -2147483648 ≤ i ∧ i < 2147483648) : MI O l yX6_step wsX6_step rX6_step [sr 72, si s, si t, si i] V (fun z V2 => mFr V V2 ∧ z = aStep g s t i) := by
  refine mi_of (cc := cX6_step) (nL := 4) (rt := (some .int)) (by decide) rfl rfl (Nat.le_of_ble_eq_true rfl) (fun F hF C hQ => ?_)
  subst hF
  change J O F rX6_step 4 V 0 [(0, sr 72), (1, si s), (2, si t), (3, si i)] []
  refine j_aload_n C dX6_step_0 rfl ?_
  refine j_iload_n C dX6_step_1 rfl ?_
  refine j_doI (st := []) (j_runV C (kX6_isNode hg ok s (by omega)) gX6_step_X6_isNode sgX6_isNode rfl ⟨by decide, by decide⟩ (by decide) (en_72 _ _) rfl rfl rfl (Nat.le_of_ble_eq_true rfl) dX6_step_2) (fun z_1 V_2 h_3 => ?_)
  obtain ⟨rfl, rfl⟩ := h_3
  refine j_ifb_eq (tgt := 16) C dX6_step_5 (by decide) (fun q_4 => ?_) (fun q_4 => ?_)
  · refine j_ldc (n := -1000000001) C (List.mem_of_getElem? (i := 1) rfl) (by decide) dX6_step_16 ?_
    refine j_iret C hQ dX6_step_18 ?_
    refine ⟨(mFr_rf _), ?_⟩
    unfold aStep gI
    simp_all
    try omega
  · refine j_aload_n C dX6_step_8 rfl ?_
    refine j_iload_n C dX6_step_9 rfl ?_
    refine j_doI (st := []) (j_runV C (kX6_isNode hg ok t (by omega)) gX6_step_X6_isNode sgX6_isNode rfl ⟨by decide, by decide⟩ (by decide) (en_72 _ _) rfl rfl rfl (Nat.le_of_ble_eq_true rfl) dX6_step_10) (fun z_5 V_6 h_7 => ?_)
    obtain ⟨rfl, rfl⟩ := h_7
    refine j_ifb_ne (tgt := 19) C dX6_step_13 (by decide) (fun q_8 => ?_) (fun q_8 => ?_)
    · refine j_iload_n C dX6_step_19 rfl ?_
      refine j_if_ge (tgt := 26) C dX6_step_20 (by decide) (by omega) (fun q_9 => ?_) (fun q_9 => ?_)
      · refine j_aload_n C dX6_step_26 rfl ?_
        refine j_iload_n C dX6_step_27 rfl ?_
        refine j_doI (st := []) (j_runV C (kX6_isAwake hg ok s.toNat (by have := ok.n; simp only [gI, Bool.and_eq_true, decide_eq_true_eq] at *; omega) (by have := ok.n; simp only [gI, Bool.and_eq_true, decide_eq_true_eq] at *; omega)) gX6_step_X6_isAwake sgX6_isAwake rfl ⟨by decide, by decide⟩ (by decide) (en_72 _ _) rfl rfl rfl (Nat.le_of_ble_eq_true rfl) dX6_step_28) (fun z_10 V_11 h_12 => ?_)
        obtain ⟨rfl, rfl⟩ := h_12
        refine j_ifb_eq (tgt := 42) C dX6_step_31 (by decide) (fun q_13 => ?_) (fun q_13 => ?_)
        · refine j_ldc (n := -1000000003) C (List.mem_of_getElem? (i := 3) rfl) (by decide) dX6_step_42 ?_
          refine j_iret C hQ dX6_step_44 ?_
          refine ⟨(mFr_rf _), ?_⟩
          unfold aStep gI
          simp_all
          try omega
        · refine j_aload_n C dX6_step_34 rfl ?_
          refine j_iload_n C dX6_step_35 rfl ?_
          refine j_doI (st := []) (j_runV C (kX6_isAwake hg ok t.toNat (by have := ok.n; simp only [gI, Bool.and_eq_true, decide_eq_true_eq] at *; omega) (by have := ok.n; simp only [gI, Bool.and_eq_true, decide_eq_true_eq] at *; omega)) gX6_step_X6_isAwake sgX6_isAwake rfl ⟨by decide, by decide⟩ (by decide) (en_72 _ _) rfl rfl rfl (Nat.le_of_ble_eq_true rfl) dX6_step_36) (fun z_14 V_15 h_16 => ?_)
          obtain ⟨rfl, rfl⟩ := h_16
          refine j_ifb_ne (tgt := 45) C dX6_step_39 (by decide) (fun q_17 => ?_) (fun q_17 => ?_)
          · refine j_aload_n C dX6_step_45 rfl ?_
            refine j_iload_n C dX6_step_46 rfl ?_
            refine j_iload_n C dX6_step_47 rfl ?_
            refine j_doV (st := []) (j_runV C (kX6_walks hg ok s.toNat t.toNat (by have := ok.n; simp only [gI, Bool.and_eq_true, decide_eq_true_eq] at *; omega) (by have := ok.n; simp only [gI, Bool.and_eq_true, decide_eq_true_eq] at *; omega) (by have := ok.n; simp only [gI, Bool.and_eq_true, decide_eq_true_eq] at *; omega) (by have := ok.n; simp only [gI, Bool.and_eq_true, decide_eq_true_eq] at *; omega) ‹_› ‹_›) gX6_step_X6_walks sgX6_walks rfl ⟨by decide, by decide⟩ (by decide) (en_72 _ _) rfl rfl rfl (Nat.le_of_ble_eq_true rfl) dX6_step_48) (fun V_19 h_20 => ?_)
            refine j_iload_n C dX6_step_51 rfl ?_
            refine j_aload_n C dX6_step_52 rfl ?_
            refine j_get (v := si (V_19 72 13)) C 72 13 (by decide) (en_72 _ _) rfl (by decide) (fun w h => List.mem_cons_of_mem _ (List.mem_append_right _ h)) (List.mem_of_getElem? (i := 4) rfl) dX6_step_53 rfl ?_
            refine j_top h_20.1 ?_
            refine j_icmp_gt (tgt := 68) C dX6_step_56 (by decide) (by omega) (by have := wkR_rg g s.toNat t.toNat; omega) (fun q_21 => ?_) (fun q_21 => ?_)
            · refine j_iconst C dX6_step_68 ?_
              refine j_iret C hQ dX6_step_69 ?_
              refine ⟨h_20.2.2.2.2.2.2, ?_⟩
              unfold aStep gI
              simp_all
              try omega
            · refine j_aload_n C dX6_step_59 rfl ?_
              refine j_get (v := sr 80) C 72 14 (by decide) (en_72 _ _) rfl (by decide) (fun w h => List.mem_cons_of_mem _ (List.mem_append_right _ h)) (List.mem_of_getElem? (i := 5) rfl) dX6_step_60 rfl ?_
              refine j_iload_n C dX6_step_63 rfl ?_
              refine j_iald C (row_80 O) i.toNat (by omega) (by have := wkR_rg g s.toNat t.toNat; omega) dX6_step_64 ?_
              refine j_top (h_20.2.2.2.2.2.1 i.toNat (by omega)) ?_
              refine j_goto (tgt := 69) C dX6_step_65 (by decide) ?_
              refine j_iret C hQ dX6_step_69 ?_
              refine ⟨h_20.2.2.2.2.2.2, ?_⟩
              unfold aStep gI
              simp_all
              try omega
          · refine j_ldc (n := -1000000003) C (List.mem_of_getElem? (i := 3) rfl) (by decide) dX6_step_42 ?_
            refine j_iret C hQ dX6_step_44 ?_
            refine ⟨(mFr_rf _), ?_⟩
            unfold aStep gI
            simp_all
            try omega
      · refine j_ldc (n := -1000000002) C (List.mem_of_getElem? (i := 2) rfl) (by decide) dX6_step_23 ?_
        refine j_iret C hQ dX6_step_25 ?_
        refine ⟨(mFr_rf _), ?_⟩
        unfold aStep gI
        simp_all
        try omega
    · refine j_ldc (n := -1000000001) C (List.mem_of_getElem? (i := 1) rfl) (by decide) dX6_step_16 ?_
      refine j_iret C hQ dX6_step_18 ?_
      refine ⟨(mFr_rf _), ?_⟩
      unfold aStep gI
      simp_all
      try omega
def rX6_at : Room := { frames := 5, cells := 0, slots := 0, locals := 115 }
theorem sgX6_at : sg yX6_at wsX6_at cX6_at 3 (some .int) rX6_at 2 := ⟨⟨_, rfl⟩, rfl, rfl, by decide, by decide, by decide +kernel⟩
set_option maxHeartbeats 4000000 in
set_option maxRecDepth 100000 in
theorem kX6_at {O : OmT} {l : Launch} {V : Mem} {g : Nat → Int} (hg : mdl V g) (ok : okg g) (v : Int) (what : Int) (hv : -2147483648 ≤ v ∧ v < 2147483648) (hwhat : -2147483648 ≤ what ∧ what < 2147483648) : MI O l yX6_at wsX6_at rX6_at [sr 72, si v, si what] V (fun z V2 => V = V2 ∧ z = aAt g v what) := by
  refine mi_of (cc := cX6_at) (nL := 3) (rt := (some .int)) (by decide) rfl rfl (Nat.le_of_ble_eq_true rfl) (fun F hF C hQ => ?_)
  subst hF
  change J O F rX6_at 3 V 0 [(0, sr 72), (1, si v), (2, si what)] []
  refine j_aload_n C dX6_at_0 rfl ?_
  refine j_iload_n C dX6_at_1 rfl ?_
  refine j_doI (st := []) (j_runV C (kX6_isNode hg ok v (by omega)) gX6_at_X6_isNode sgX6_isNode rfl ⟨by decide, by decide⟩ (by decide) (en_72 _ _) rfl rfl rfl (Nat.le_of_ble_eq_true rfl) dX6_at_2) (fun z_1 V_2 h_3 => ?_)
  obtain ⟨rfl, rfl⟩ := h_3
  refine j_ifb_ne (tgt := 11) C dX6_at_5 (by decide) (fun q_4 => ?_) (fun q_4 => ?_)
  · refine j_iload_n C dX6_at_11 rfl ?_
    rcases (show what = 0 ∨ what = 1 ∨ what = 2 ∨ what = 3 ∨ what = 4 ∨ what = 5 ∨ (what < 0 ∨ 5 < what) by omega) with q_5 | q_5 | q_5 | q_5 | q_5 | q_5 | q_5
    · refine j_top q_5 ?_
      refine j_tabIn (tgt := 52) (off := 40) C dX6_at_12 (by decide) (by decide) (by decide) (by decide) (by decide) ?_
      refine j_aload_n C dX6_at_52 rfl ?_
      refine j_get (v := sr 73) C 72 0 (by decide) (en_72 _ _) rfl (by decide) (fun w h => List.mem_cons_of_mem _ (List.mem_append_right _ h)) (List.mem_of_getElem? (i := 2) rfl) dX6_at_53 rfl ?_
      refine j_iconst C dX6_at_56 ?_
      refine j_iload_n C dX6_at_57 rfl ?_
      refine j_iadd C dX6_at_58 ?_
      refine j_iald C (row_73 O) (4 + v.toNat) (by have := ok.n; simp only [gI, Bool.and_eq_true, decide_eq_true_eq] at *; omega) (by have := ok.n; simp only [gI, Bool.and_eq_true, decide_eq_true_eq] at *; omega) dX6_at_59 ?_
      refine j_top (hg (4 + v.toNat) (by have := ok.n; simp only [gI, Bool.and_eq_true, decide_eq_true_eq] at *; omega)) ?_
      refine j_iret C hQ dX6_at_60 ?_
      refine ⟨rfl, ?_⟩
      unfold aAt gI
      simp_all [bI]
      try omega
    · refine j_top q_5 ?_
      refine j_tabIn (tgt := 61) (off := 49) C dX6_at_12 (by decide) (by decide) (by decide) (by decide) (by decide) ?_
      refine j_aload_n C dX6_at_61 rfl ?_
      refine j_get (v := sr 73) C 72 0 (by decide) (en_72 _ _) rfl (by decide) (fun w h => List.mem_cons_of_mem _ (List.mem_append_right _ h)) (List.mem_of_getElem? (i := 2) rfl) dX6_at_62 rfl ?_
      refine j_bipush C dX6_at_65 (by decide) ?_
      refine j_iload_n C dX6_at_67 rfl ?_
      refine j_iadd C dX6_at_68 ?_
      refine j_iald C (row_73 O) (14 + v.toNat) (by have := ok.n; simp only [gI, Bool.and_eq_true, decide_eq_true_eq] at *; omega) (by have := ok.n; simp only [gI, Bool.and_eq_true, decide_eq_true_eq] at *; omega) dX6_at_69 ?_
      refine j_top (hg (14 + v.toNat) (by have := ok.n; simp only [gI, Bool.and_eq_true, decide_eq_true_eq] at *; omega)) ?_
      refine j_iret C hQ dX6_at_70 ?_
      refine ⟨rfl, ?_⟩
      unfold aAt gI
      simp_all [bI]
      try omega
    · refine j_top q_5 ?_
      refine j_tabIn (tgt := 71) (off := 59) C dX6_at_12 (by decide) (by decide) (by decide) (by decide) (by decide) ?_
      refine j_aload_n C dX6_at_71 rfl ?_
      refine j_iload_n C dX6_at_72 rfl ?_
      refine j_doI (st := []) (j_runV C (kX6_isAwake hg ok v.toNat (by have := ok.n; simp only [gI, Bool.and_eq_true, decide_eq_true_eq] at *; omega) (by have := ok.n; simp only [gI, Bool.and_eq_true, decide_eq_true_eq] at *; omega)) gX6_at_X6_isAwake sgX6_isAwake rfl ⟨by decide, by decide⟩ (by decide) (en_72 _ _) rfl rfl rfl (Nat.le_of_ble_eq_true rfl) dX6_at_73) (fun z_6 V_7 h_8 => ?_)
      obtain ⟨rfl, rfl⟩ := h_8
      refine j_ifb_eq (tgt := 83) C dX6_at_76 (by decide) (fun q_9 => ?_) (fun q_9 => ?_)
      · refine j_iconst C dX6_at_83 ?_
        refine j_iret C hQ dX6_at_84 ?_
        refine ⟨rfl, ?_⟩
        unfold aAt gI
        simp_all [bI]
        try omega
      · refine j_iconst C dX6_at_79 ?_
        refine j_goto (tgt := 84) C dX6_at_80 (by decide) ?_
        refine j_iret C hQ dX6_at_84 ?_
        refine ⟨rfl, ?_⟩
        unfold aAt gI
        simp_all [bI]
        try omega
    · refine j_top q_5 ?_
      refine j_tabIn (tgt := 85) (off := 73) C dX6_at_12 (by decide) (by decide) (by decide) (by decide) (by decide) ?_
      refine j_aload_n C dX6_at_85 rfl ?_
      refine j_iload_n C dX6_at_86 rfl ?_
      refine j_iconst C dX6_at_87 ?_
      refine j_doI (st := []) (j_runV C (kX6_setOf hg ok v.toNat false (by have := ok.n; simp only [gI, Bool.and_eq_true, decide_eq_true_eq] at *; omega) (by have := ok.n; simp only [gI, Bool.and_eq_true, decide_eq_true_eq] at *; omega)) gX6_at_X6_setOf sgX6_setOf rfl ⟨by decide, by decide⟩ (by decide) (en_72 _ _) rfl rfl rfl (Nat.le_of_ble_eq_true rfl) dX6_at_88) (fun z_10 V_11 h_12 => ?_)
      obtain ⟨rfl, rfl⟩ := h_12
      refine j_iret C hQ dX6_at_91 ?_
      refine ⟨rfl, ?_⟩
      unfold aAt gI
      simp_all [bI]
      try omega
    · refine j_top q_5 ?_
      refine j_tabIn (tgt := 92) (off := 80) C dX6_at_12 (by decide) (by decide) (by decide) (by decide) (by decide) ?_
      refine j_aload_n C dX6_at_92 rfl ?_
      refine j_iload_n C dX6_at_93 rfl ?_
      refine j_iconst C dX6_at_94 ?_
      refine j_doI (st := []) (j_runV C (kX6_setOf hg ok v.toNat true (by have := ok.n; simp only [gI, Bool.and_eq_true, decide_eq_true_eq] at *; omega) (by have := ok.n; simp only [gI, Bool.and_eq_true, decide_eq_true_eq] at *; omega)) gX6_at_X6_setOf sgX6_setOf rfl ⟨by decide, by decide⟩ (by decide) (en_72 _ _) rfl rfl rfl (Nat.le_of_ble_eq_true rfl) dX6_at_95) (fun z_13 V_14 h_15 => ?_)
      obtain ⟨rfl, rfl⟩ := h_15
      refine j_iret C hQ dX6_at_98 ?_
      refine ⟨rfl, ?_⟩
      unfold aAt gI
      simp_all [bI]
      try omega
    · refine j_top q_5 ?_
      refine j_tabIn (tgt := 99) (off := 87) C dX6_at_12 (by decide) (by decide) (by decide) (by decide) (by decide) ?_
      refine j_aload_n C dX6_at_99 rfl ?_
      refine j_iload_n C dX6_at_100 rfl ?_
      refine j_doI (st := []) (j_runV C (kX6_strays hg ok v.toNat (by have := ok.n; simp only [gI, Bool.and_eq_true, decide_eq_true_eq] at *; omega) (by have := ok.n; simp only [gI, Bool.and_eq_true, decide_eq_true_eq] at *; omega)) gX6_at_X6_strays sgX6_strays rfl ⟨by decide, by decide⟩ (by decide) (en_72 _ _) rfl rfl rfl (Nat.le_of_ble_eq_true rfl) dX6_at_101) (fun z_16 V_17 h_18 => ?_)
      obtain ⟨rfl, rfl⟩ := h_18
      refine j_iret C hQ dX6_at_104 ?_
      refine ⟨rfl, ?_⟩
      unfold aAt gI
      simp_all [bI]
      try omega
    · refine j_tabOut (tgt := 105) C dX6_at_12 (by omega) q_5 (by decide) ?_
      refine j_ldc (n := -1000000002) C (List.mem_of_getElem? (i := 3) rfl) (by decide) dX6_at_105 ?_
      refine j_iret C hQ dX6_at_107 ?_
      refine ⟨rfl, ?_⟩
      unfold aAt gI
      simp_all [bI]
      try omega
  · refine j_ldc (n := -1000000001) C (List.mem_of_getElem? (i := 1) rfl) (by decide) dX6_at_8 ?_
    refine j_iret C hQ dX6_at_10 ?_
    refine ⟨rfl, ?_⟩
    unfold aAt gI
    simp_all [bI]
    try omega
set_option maxHeartbeats 4000000 in
set_option maxRecDepth 100000 in
theorem kX2_walk {O : OmT} {l : Launch} {V : Mem} {g : Nat → Int} (hn : net V g) (ok : okg g) {zs zt : Int} (s t : Nat) (es : zs = (s : Int)) (et : zt = (t : Int)) (hsn : s < gN g) (htn : t < gN g) (has : gA g s = true) (hat : gA g t = true) : MV O l yX2_walk wsX2_walk rX2_walk [sr 8, si zs, si zt] V (fun V2 => cRes V V2 (wkR g s t)) := by
  refine mv_of (cc := cX2_walk) (nL := 4) (rt := none) (by decide) rfl rfl (Nat.le_of_ble_eq_true rfl) (fun F hF C hQ => ?_)
  subst hF
  subst es et
  have n1 := ok.n
  change J O F rX2_walk 4 V 0 [(0, sr 8), (1, si (s : Int)), (2, si (t : Int))] []
  refine j_aload_n C dX2_walk_0 rfl ?_
  refine j_iload_n C dX2_walk_1 rfl ?_
  refine j_iload_n C dX2_walk_2 rfl ?_
  refine j_doV (st := []) (j_runV C (kX2_standAt s t rfl rfl (by omega)) gX2_walk_X2_standAt sgX2_standAt rfl ⟨by decide, by decide⟩ (by decide) (en_8 _ _) rfl rfl rfl (Nat.le_of_ble_eq_true rfl) dX2_walk_3) (fun V_2 h_3 => ?_)
  subst h_3
  refine j_iconst C dX2_walk_6 ?_
  refine j_istore_n (lv' := [(0, sr 8), (1, si (s : Int)), (2, si (t : Int)), (3, si 0)]) C dX2_walk_7 (by decide) rfl ?_
  refine wkc_loop C hQ ok htn hat hn 402 _ s none 0 [] 0 0 0 (fun _ => s) 0 ?_ (fun e q => by cases q) ?_ (by decide) (by decide) (fun V' h => h)
  · refine ⟨rfl, rfl, rfl, rfl, rfl, rfl, rfl, rfl, rfl, fun k hk => ?_, ?_⟩
    · have : k = 0 := by omega
      subst this; rfl
    · exact cFr_tr (cFr_tr (cFr_tr (cFr_tr (cFr_tr (cFr_tr (cFr_tr (cFr_tr (cFr_tr (cFr_ms (Or.inl rfl)) (cFr_ms (Or.inl rfl))) (cFr_ms (Or.inl rfl))) (cFr_ms (Or.inl rfl))) (cFr_ms (Or.inl rfl))) (cFr_ms (Or.inl rfl))) (cFr_ms (Or.inl rfl))) (cFr_ms (Or.inr (Or.inl rfl)))) (cFr_ms (Or.inl rfl))) (cFr_ms (Or.inl rfl))
  · exact ⟨hsn, has, by omega, Nat.le_refl _, fun _ _ => hsn, rfl, fun e q => by cases q⟩
def rX2_howItEnded : Room := { frames := 0, cells := 0, slots := 0, locals := 0 }
theorem sgX2_howItEnded : sg yX2_howItEnded wsX2_howItEnded cX2_howItEnded 1 (some .int) rX2_howItEnded 0 := ⟨⟨_, rfl⟩, rfl, rfl, by decide, by decide, by decide +kernel⟩
set_option maxHeartbeats 4000000 in
set_option maxRecDepth 100000 in
theorem kX2_howItEnded {O : OmT} {l : Launch} {V : Mem} (as : Nat) (lo : Bool) (has : V 8 11 = (as : Int)) (hlo : V 8 16 = bI lo) (h3 : as ≤ 402) : MI O l yX2_howItEnded wsX2_howItEnded rX2_howItEnded [sr 8] V (fun z V2 => V = V2 ∧ z = if lo = true then 2 else if as = 0 then 0 else 1) := by
  refine mi_of (cc := cX2_howItEnded) (nL := 1) (rt := (some .int)) (by decide) rfl rfl (Nat.le_of_ble_eq_true rfl) (fun F hF C hQ => ?_)
  subst hF
  change J O F rX2_howItEnded 1 V 0 [(0, sr 8)] []
  refine j_aload_n C dX2_howItEnded_0 rfl ?_
  refine j_get (v := si (V 8 16)) C 8 16 (by decide) (en_8 _ _) rfl (by decide) (fun w h => List.mem_cons_of_mem _ (List.mem_append_right _ h)) (List.mem_of_getElem? (i := 1) rfl) dX2_howItEnded_1 rfl ?_
  refine j_top hlo ?_
  refine j_ifb_eq (tgt := 9) C dX2_howItEnded_4 (by decide) (fun q_1 => ?_) (fun q_1 => ?_)
  · refine j_aload_n C dX2_howItEnded_9 rfl ?_
    refine j_get (v := si (V 8 11)) C 8 11 (by decide) (en_8 _ _) rfl (by decide) (fun w h => List.mem_cons_of_mem _ (List.mem_append_right _ h)) (List.mem_of_getElem? (i := 2) rfl) dX2_howItEnded_10 rfl ?_
    refine j_top has ?_
    refine j_if_ne (tgt := 20) C dX2_howItEnded_13 (by decide) (by omega) (fun q_2 => ?_) (fun q_2 => ?_)
    · refine j_iconst C dX2_howItEnded_20 ?_
      refine j_iret C hQ dX2_howItEnded_21 ?_
      refine ⟨rfl, ?_⟩
      simp_all
      try omega
    · refine j_iconst C dX2_howItEnded_16 ?_
      refine j_goto (tgt := 21) C dX2_howItEnded_17 (by decide) ?_
      refine j_iret C hQ dX2_howItEnded_21 ?_
      refine ⟨rfl, ?_⟩
      simp_all
      try omega
  · refine j_iconst C dX2_howItEnded_7 ?_
    refine j_iret C hQ dX2_howItEnded_8 ?_
    refine ⟨rfl, ?_⟩
    simp_all
    try omega
def rX2_stepsOrNone : Room := { frames := 0, cells := 0, slots := 0, locals := 0 }
theorem sgX2_stepsOrNone : sg yX2_stepsOrNone wsX2_stepsOrNone cX2_stepsOrNone 1 (some .int) rX2_stepsOrNone 0 := ⟨⟨_, rfl⟩, rfl, rfl, by decide, by decide, by decide +kernel⟩
set_option maxHeartbeats 4000000 in
set_option maxRecDepth 100000 in
theorem kX2_stepsOrNone {O : OmT} {l : Launch} {V : Mem} (st : Nat) (lo : Bool) (hst : V 8 10 = (st : Int)) (hlo : V 8 16 = bI lo) : MI O l yX2_stepsOrNone wsX2_stepsOrNone rX2_stepsOrNone [sr 8] V (fun z V2 => V = V2 ∧ z = if lo = true then -1 else (st : Int)) := by
  refine mi_of (cc := cX2_stepsOrNone) (nL := 1) (rt := (some .int)) (by decide) rfl rfl (Nat.le_of_ble_eq_true rfl) (fun F hF C hQ => ?_)
  subst hF
  change J O F rX2_stepsOrNone 1 V 0 [(0, sr 8)] []
  refine j_aload_n C dX2_stepsOrNone_0 rfl ?_
  refine j_get (v := si (V 8 16)) C 8 16 (by decide) (en_8 _ _) rfl (by decide) (fun w h => List.mem_cons_of_mem _ (List.mem_append_right _ h)) (List.mem_of_getElem? (i := 1) rfl) dX2_stepsOrNone_1 rfl ?_
  refine j_top hlo ?_
  refine j_ifb_eq (tgt := 11) C dX2_stepsOrNone_4 (by decide) (fun q_1 => ?_) (fun q_1 => ?_)
  · refine j_aload_n C dX2_stepsOrNone_11 rfl ?_
    refine j_get (v := si (V 8 10)) C 8 10 (by decide) (en_8 _ _) rfl (by decide) (fun w h => List.mem_cons_of_mem _ (List.mem_append_right _ h)) (List.mem_of_getElem? (i := 2) rfl) dX2_stepsOrNone_12 rfl ?_
    refine j_top hst ?_
    refine j_iret C hQ dX2_stepsOrNone_15 ?_
    refine ⟨rfl, ?_⟩
    simp_all
  · refine j_iconst C dX2_stepsOrNone_7 ?_
    refine j_goto (tgt := 15) C dX2_stepsOrNone_8 (by decide) ?_
    refine j_iret C hQ dX2_stepsOrNone_15 ?_
    refine ⟨rfl, ?_⟩
    simp_all
def rX2_nodeBehind : Room := { frames := 0, cells := 0, slots := 0, locals := 0 }
theorem sgX2_nodeBehind : sg yX2_nodeBehind wsX2_nodeBehind cX2_nodeBehind 2 (some .int) rX2_nodeBehind 1 := ⟨⟨_, rfl⟩, rfl, rfl, by decide, by decide, by decide +kernel⟩
set_option maxHeartbeats 4000000 in
set_option maxRecDepth 100000 in
theorem kX2_nodeBehind {O : OmT} {l : Launch} {V : Mem} (i : Int) (st : Nat) (pa : Nat → Nat) (hi : -2147483648 ≤ i ∧ i < 2147483648) (hst : V 8 10 = (st : Int)) (h2 : st ≤ 200) (hpa : ∀ k, k ≤ st → V 9 k = (pa k : Int)) : MI O l yX2_nodeBehind wsX2_nodeBehind rX2_nodeBehind [sr 8, si i] V (fun z V2 => V = V2 ∧ z = if 0 ≤ i ∧ i ≤ (st : Int) then (pa i.toNat : Int) else -1) := by
  refine mi_of (cc := cX2_nodeBehind) (nL := 2) (rt := (some .int)) (by decide) rfl rfl (Nat.le_of_ble_eq_true rfl) (fun F hF C hQ => ?_)
  subst hF
  change J O F rX2_nodeBehind 2 V 0 [(0, sr 8), (1, si i)] []
  refine j_iload_n C dX2_nodeBehind_0 rfl ?_
  refine j_if_lt (tgt := 28) C dX2_nodeBehind_1 (by decide) (by omega) (fun q_1 => ?_) (fun q_1 => ?_)
  · refine j_iconst C dX2_nodeBehind_28 ?_
    refine j_iret C hQ dX2_nodeBehind_29 ?_
    refine ⟨rfl, ?_⟩
    first
      | (rw [if_pos (by omega)]; done)
      | (rw [if_neg (by omega)]; done)
  · refine j_iload_n C dX2_nodeBehind_4 rfl ?_
    refine j_aload_n C dX2_nodeBehind_5 rfl ?_
    refine j_get (v := si (V 8 10)) C 8 10 (by decide) (en_8 _ _) rfl (by decide) (fun w h => List.mem_cons_of_mem _ (List.mem_append_right _ h)) (List.mem_of_getElem? (i := 1) rfl) dX2_nodeBehind_6 rfl ?_
    refine j_top hst ?_
    refine j_icmp_gt (tgt := 28) C dX2_nodeBehind_9 (by decide) (by omega) (by omega) (fun q_2 => ?_) (fun q_2 => ?_)
    · refine j_iconst C dX2_nodeBehind_28 ?_
      refine j_iret C hQ dX2_nodeBehind_29 ?_
      refine ⟨rfl, ?_⟩
      first
        | (rw [if_pos (by omega)]; done)
        | (rw [if_neg (by omega)]; done)
    · refine j_iload_n C dX2_nodeBehind_12 rfl ?_
      refine j_sipush C dX2_nodeBehind_13 (by decide) ?_
      refine j_icmp_gt (tgt := 28) C dX2_nodeBehind_16 (by decide) (by omega) (by decide) (fun q_3 => ?_) (fun q_3 => ?_)
      · refine j_iconst C dX2_nodeBehind_28 ?_
        refine j_iret C hQ dX2_nodeBehind_29 ?_
        refine ⟨rfl, ?_⟩
        first
          | (rw [if_pos (by omega)]; done)
          | (rw [if_neg (by omega)]; done)
      · refine j_aload_n C dX2_nodeBehind_19 rfl ?_
        refine j_get (v := sr 9) C 8 2 (by decide) (en_8 _ _) rfl (by decide) (fun w h => List.mem_cons_of_mem _ (List.mem_append_right _ h)) (List.mem_of_getElem? (i := 2) rfl) dX2_nodeBehind_20 rfl ?_
        refine j_iload_n C dX2_nodeBehind_23 rfl ?_
        refine j_iald C (row_9 O) i.toNat (by omega) (by omega) dX2_nodeBehind_24 ?_
        refine j_top (hpa i.toNat (by omega)) ?_
        refine j_goto (tgt := 29) C dX2_nodeBehind_25 (by decide) ?_
        refine j_iret C hQ dX2_nodeBehind_29 ?_
        refine ⟨rfl, ?_⟩
        first
          | (rw [if_pos (by omega)]; done)
          | (rw [if_neg (by omega)]; done)
def rX2_countEnding : Room := { frames := 5, cells := 0, slots := 0, locals := 119 }
theorem sgX2_countEnding : sg yX2_countEnding wsX2_countEnding cX2_countEnding 5 (some .int) rX2_countEnding 1 := ⟨⟨_, rfl⟩, rfl, rfl, by decide, by decide, by decide +kernel⟩
set_option maxHeartbeats 4000000 in
set_option maxRecDepth 100000 in
theorem lpX2_count2 {O : OmT} {F : PhT} {V : Mem} {g : Nat → Int} (C : cx O F RX2 cX2_countEnding 5 (some .int) wsX2_countEnding) (hn : net V g) (ok : okg g) {s : Nat} {how : Int} {b : Bool} (hh : (how = 0 ∧ b = false) ∨ (how = 2 ∧ b = true)) (hs : s < gN g) (kx : ∀ W : Mem, cFr V W → J O F rX2_countEnding 5 W 86 [(0, sr 8), (1, si how), (2, si (gWw g b s + gWr g b s (gN g))), (3, si (s : Int)), (4, si ((gN g : Nat) : Int))] []) : ∀ (fuel t : Nat) (W : Mem), (t ≤ gN g) → cFr V W → gN g - t < fuel → J O F rX2_countEnding 5 W 18 [(0, sr 8), (1, si how), (2, si (gWw g b s + gWr g b s t)), (3, si (s : Int)), (4, si (t : Int))] [] := by
  intro fuel
  induction fuel with
  | zero => intro t W hw hW hf; exact absurd hf (Nat.not_lt_zero _)
  | succ fuel ih =>
    intro t W hw hW hf
    have n1 := ok.n
    refine j_iload C dX2_countEnding_18 rfl ?_
    refine j_aload_n C dX2_countEnding_20 rfl ?_
    refine j_get (v := sr 1) C 8 0 (by decide) (en_8 _ _) rfl (by decide) (fun w h => List.mem_cons_of_mem _ (List.mem_append_left _ (List.mem_append_left _ (List.mem_append_right _ h)))) (List.mem_of_getElem? (i := 1) rfl) dX2_countEnding_21 rfl ?_
    refine j_getN (v := si (W 1 2)) C 1 2 (by decide) (en_G (c := 1) (by decide) _) rfl (by decide) (fun w h => List.mem_cons_of_mem _ (List.mem_append_left _ (List.mem_append_right _ h))) (List.mem_of_getElem? (i := 8) rfl) dX2_countEnding_24 rfl ?_
    refine j_top (cFr_net hW hn).1.1 ?_
    refine j_icmp_ge (tgt := 86) C dX2_countEnding_27 (by decide) (by omega) (by have := ok.1; omega) (fun q_1 => ?_) (fun q_1 => ?_)
    · have e : t = gN g := by omega
      rw [e]
      exact kx _ hW
    · refine j_iload_n C dX2_countEnding_30 rfl ?_
      refine j_iload C dX2_countEnding_31 rfl ?_
      refine j_icmp_eq (tgt := 80) C dX2_countEnding_33 (by decide) (by omega) (by omega) (fun q_2 => ?_) (fun q_2 => ?_)
      · refine j_iinc (lv' := [(0, sr 8), (1, si how), (2, si (gWw g b s + gWr g b s t)), (3, si (s : Int)), (4, si ((t : Int) + 1))]) C dX2_countEnding_80 rfl (by decide) rfl ?_
        refine j_goto (tgt := 18) C dX2_countEnding_83 (by decide) ?_
        have e2 : (gWw g b s + gWr g b s (t + 1)) = (gWw g b s + gWr g b s t) := by
          rw [gWr_s]
          have ew : (s : Int) = (t : Int) ↔ s = t := Int.ofNat_inj
          have gn := @wkR_green g ok s t
          unfold gWq
          rcases hh with ⟨hh1, hh2⟩ | ⟨hh1, hh2⟩ <;> subst hh1 hh2 <;> simp_all [bI] <;> grind
        refine j_lv (lv' := [(0, sr 8), (1, si how), (2, si (gWw g b s + gWr g b s (t + 1))), (3, si (s : Int)), (4, si ((t : Int) + 1))]) (by rw [e2]) ?_
        exact ih (t + 1) _ (by omega) hW (by omega)
      · refine j_aload_n C dX2_countEnding_36 rfl ?_
        refine j_get (v := sr 1) C 8 0 (by decide) (en_8 _ _) rfl (by decide) (fun w h => List.mem_cons_of_mem _ (List.mem_append_left _ (List.mem_append_left _ (List.mem_append_right _ h)))) (List.mem_of_getElem? (i := 1) rfl) dX2_countEnding_37 rfl ?_
        refine j_iload_n C dX2_countEnding_40 rfl ?_
        refine j_doI (st := []) (j_runVN C (kX1_isAwake (cFr_net hW hn).1 ok (s : Int) (by omega)) ggX2_countEnding_X1_isAwake sgX1_isAwake rfl (List.mem_of_getElem? (i := 18) rfl) (List.mem_of_getElem? (i := 3) rfl) (List.mem_of_getElem? (i := 2) rfl) (List.mem_of_getElem? (i := 4) rfl) ⟨by decide, by decide⟩ (by decide) (en_G (c := 1) (by decide) _) rfl rfl rfl (Nat.le_of_ble_eq_true rfl) dX2_countEnding_41) (fun z_3 V_4 h_5 => ?_)
        obtain ⟨rfl, rfl⟩ := h_5
        refine j_top (b := bI (gA g s)) (by simp) ?_
        refine j_ifb_eq (tgt := 80) C dX2_countEnding_44 (by decide) (fun q_6 => ?_) (fun q_6 => ?_)
        · refine j_iinc (lv' := [(0, sr 8), (1, si how), (2, si (gWw g b s + gWr g b s t)), (3, si (s : Int)), (4, si ((t : Int) + 1))]) C dX2_countEnding_80 rfl (by decide) rfl ?_
          refine j_goto (tgt := 18) C dX2_countEnding_83 (by decide) ?_
          have e2 : (gWw g b s + gWr g b s (t + 1)) = (gWw g b s + gWr g b s t) := by
            rw [gWr_s]
            have ew : (s : Int) = (t : Int) ↔ s = t := Int.ofNat_inj
            have gn := @wkR_green g ok s t
            unfold gWq
            rcases hh with ⟨hh1, hh2⟩ | ⟨hh1, hh2⟩ <;> subst hh1 hh2 <;> simp_all [bI] <;> grind
          refine j_lv (lv' := [(0, sr 8), (1, si how), (2, si (gWw g b s + gWr g b s (t + 1))), (3, si (s : Int)), (4, si ((t : Int) + 1))]) (by rw [e2]) ?_
          exact ih (t + 1) _ (by omega) hW (by omega)
        · refine j_aload_n C dX2_countEnding_47 rfl ?_
          refine j_get (v := sr 1) C 8 0 (by decide) (en_8 _ _) rfl (by decide) (fun w h => List.mem_cons_of_mem _ (List.mem_append_left _ (List.mem_append_left _ (List.mem_append_right _ h)))) (List.mem_of_getElem? (i := 1) rfl) dX2_countEnding_48 rfl ?_
          refine j_iload C dX2_countEnding_51 rfl ?_
          refine j_doI (st := []) (j_runVN C (kX1_isAwake (cFr_net hW hn).1 ok (t : Int) (by omega)) ggX2_countEnding_X1_isAwake sgX1_isAwake rfl (List.mem_of_getElem? (i := 18) rfl) (List.mem_of_getElem? (i := 3) rfl) (List.mem_of_getElem? (i := 2) rfl) (List.mem_of_getElem? (i := 4) rfl) ⟨by decide, by decide⟩ (by decide) (en_G (c := 1) (by decide) _) rfl rfl rfl (Nat.le_of_ble_eq_true rfl) dX2_countEnding_53) (fun z_7 V_8 h_9 => ?_)
          obtain ⟨rfl, rfl⟩ := h_9
          refine j_top (b := bI (gA g t)) (by simp) ?_
          refine j_ifb_ne (tgt := 62) C dX2_countEnding_56 (by decide) (fun q_10 => ?_) (fun q_10 => ?_)
          · refine j_aload_n C dX2_countEnding_62 rfl ?_
            refine j_iload_n C dX2_countEnding_63 rfl ?_
            refine j_iload C dX2_countEnding_64 rfl ?_
            refine j_doV (st := []) (j_runV C (kX2_walk (cFr_net hW hn) ok s t rfl rfl (by omega) (by omega) ‹_› ‹_›) gX2_countEnding_X2_walk sgX2_walk rfl ⟨by decide, by decide⟩ (by decide) (en_8 _ _) rfl rfl rfl (Nat.le_of_ble_eq_true rfl) dX2_countEnding_66) (fun V_12 h_13 => ?_)
            refine j_aload_n C dX2_countEnding_69 rfl ?_
            refine j_doI (st := []) (j_runV C (kX2_howItEnded _ _ h_13.2.2.1 h_13.2.1 (wkR_rg _ _ _).2.1) gX2_countEnding_X2_howItEnded sgX2_howItEnded rfl ⟨by decide, by decide⟩ (by decide) (en_8 _ _) rfl rfl rfl (Nat.le_of_ble_eq_true rfl) dX2_countEnding_70) (fun z_14 V_15 h_16 => ?_)
            obtain ⟨rfl, rfl⟩ := h_16
            refine j_iload_n C dX2_countEnding_73 rfl ?_
            refine j_icmp_ne (tgt := 80) C dX2_countEnding_74 (by decide) (by split <;> (try split) <;> omega) (by rcases hh with ⟨h, -⟩ | ⟨h, -⟩ <;> omega) (fun q_17 => ?_) (fun q_17 => ?_)
            · refine j_iinc (lv' := [(0, sr 8), (1, si how), (2, si (gWw g b s + gWr g b s t)), (3, si (s : Int)), (4, si ((t : Int) + 1))]) C dX2_countEnding_80 rfl (by decide) rfl ?_
              refine j_goto (tgt := 18) C dX2_countEnding_83 (by decide) ?_
              have e2 : (gWw g b s + gWr g b s (t + 1)) = (gWw g b s + gWr g b s t) := by
                rw [gWr_s]
                have ew : (s : Int) = (t : Int) ↔ s = t := Int.ofNat_inj
                have gn := @wkR_green g ok s t
                unfold gWq
                rcases hh with ⟨hh1, hh2⟩ | ⟨hh1, hh2⟩ <;> subst hh1 hh2 <;> simp_all [bI] <;> grind
              refine j_lv (lv' := [(0, sr 8), (1, si how), (2, si (gWw g b s + gWr g b s (t + 1))), (3, si (s : Int)), (4, si ((t : Int) + 1))]) (by rw [e2]) ?_
              exact ih (t + 1) _ (by omega) (cFr_tr hW h_13.2.2.2.2.2.2.2) (by omega)
            · refine j_iinc (lv' := [(0, sr 8), (1, si how), (2, si ((gWw g b s + gWr g b s t) + 1)), (3, si (s : Int)), (4, si (t : Int))]) C dX2_countEnding_77 rfl (by decide) rfl ?_
              refine j_iinc (lv' := [(0, sr 8), (1, si how), (2, si ((gWw g b s + gWr g b s t) + 1)), (3, si (s : Int)), (4, si ((t : Int) + 1))]) C dX2_countEnding_80 rfl (by decide) rfl ?_
              refine j_goto (tgt := 18) C dX2_countEnding_83 (by decide) ?_
              have e2 : (gWw g b s + gWr g b s (t + 1)) = ((gWw g b s + gWr g b s t) + 1) := by
                rw [gWr_s]
                have ew : (s : Int) = (t : Int) ↔ s = t := Int.ofNat_inj
                have gn := @wkR_green g ok s t
                unfold gWq
                rcases hh with ⟨hh1, hh2⟩ | ⟨hh1, hh2⟩ <;> subst hh1 hh2 <;> simp_all [bI] <;> grind
              refine j_lv (lv' := [(0, sr 8), (1, si how), (2, si (gWw g b s + gWr g b s (t + 1))), (3, si (s : Int)), (4, si ((t : Int) + 1))]) (by rw [e2]) ?_
              exact ih (t + 1) _ (by omega) (cFr_tr hW h_13.2.2.2.2.2.2.2) (by omega)
          · refine j_goto (tgt := 80) C dX2_countEnding_59 (by decide) ?_
            refine j_iinc (lv' := [(0, sr 8), (1, si how), (2, si (gWw g b s + gWr g b s t)), (3, si (s : Int)), (4, si ((t : Int) + 1))]) C dX2_countEnding_80 rfl (by decide) rfl ?_
            refine j_goto (tgt := 18) C dX2_countEnding_83 (by decide) ?_
            have e2 : (gWw g b s + gWr g b s (t + 1)) = (gWw g b s + gWr g b s t) := by
              rw [gWr_s]
              have ew : (s : Int) = (t : Int) ↔ s = t := Int.ofNat_inj
              have gn := @wkR_green g ok s t
              unfold gWq
              rcases hh with ⟨hh1, hh2⟩ | ⟨hh1, hh2⟩ <;> subst hh1 hh2 <;> simp_all [bI] <;> grind
            refine j_lv (lv' := [(0, sr 8), (1, si how), (2, si (gWw g b s + gWr g b s (t + 1))), (3, si (s : Int)), (4, si ((t : Int) + 1))]) (by rw [e2]) ?_
            exact ih (t + 1) _ (by omega) hW (by omega)
set_option maxHeartbeats 4000000 in
set_option maxRecDepth 100000 in
theorem lpX2_count {O : OmT} {F : PhT} {V : Mem} {g : Nat → Int} (C : cx O F RX2 cX2_countEnding 5 (some .int) wsX2_countEnding) {post : Int → Mem → Prop} (hQ : qI O F post) (hn : net V g) (ok : okg g) {how : Int} {b : Bool} (hh : (how = 0 ∧ b = false) ∨ (how = 2 ∧ b = true)) (hpo : ∀ V2, cFr V V2 → post (gWw g b (gN g)) V2) : ∀ (fuel s : Nat) (W : Mem), (s ≤ gN g) → cFr V W → gN g - s < fuel → J O F rX2_countEnding 5 W 4 [(0, sr 8), (1, si how), (2, si (gWw g b s)), (3, si (s : Int))] [] := by
  intro fuel
  induction fuel with
  | zero => intro s W hw hW hf; exact absurd hf (Nat.not_lt_zero _)
  | succ fuel ih =>
    intro s W hw hW hf
    have n1 := ok.n
    refine j_iload_n C dX2_countEnding_4 rfl ?_
    refine j_aload_n C dX2_countEnding_5 rfl ?_
    refine j_get (v := sr 1) C 8 0 (by decide) (en_8 _ _) rfl (by decide) (fun w h => List.mem_cons_of_mem _ (List.mem_append_left _ (List.mem_append_left _ (List.mem_append_right _ h)))) (List.mem_of_getElem? (i := 1) rfl) dX2_countEnding_6 rfl ?_
    refine j_getN (v := si (W 1 2)) C 1 2 (by decide) (en_G (c := 1) (by decide) _) rfl (by decide) (fun w h => List.mem_cons_of_mem _ (List.mem_append_left _ (List.mem_append_right _ h))) (List.mem_of_getElem? (i := 8) rfl) dX2_countEnding_9 rfl ?_
    refine j_top (cFr_net hW hn).1.1 ?_
    refine j_icmp_ge (tgt := 92) C dX2_countEnding_12 (by decide) (by omega) (by have := ok.1; omega) (fun q_1 => ?_) (fun q_1 => ?_)
    · refine j_iload_n C dX2_countEnding_92 rfl ?_
      refine j_iret C hQ dX2_countEnding_93 ?_
      have e : s = gN g := by omega
      subst e; exact hpo _ hW
    · refine j_iconst C dX2_countEnding_15 ?_
      refine j_istore (lv' := [(0, sr 8), (1, si how), (2, si (gWw g b s)), (3, si (s : Int)), (4, si 0)]) C dX2_countEnding_16 (by decide) rfl ?_
      refine j_lv (lv' := [(0, sr 8), (1, si how), (2, si (gWw g b s + gWr g b s 0)), (3, si (s : Int)), (4, si (0 : Int))]) (by rw [show gWr g b s 0 = 0 from rfl, Int.add_zero]) ?_
      refine lpX2_count2 C hn ok hh (by omega) (fun W_2 hW_3 => ?_) _ 0 _ (Nat.zero_le _) hW (Nat.lt_succ_self _)
      refine j_iinc (lv' := [(0, sr 8), (1, si how), (2, si (gWw g b s + gWr g b s (gN g))), (3, si ((s : Int) + 1)), (4, si ((gN g : Nat) : Int))]) C dX2_countEnding_86 rfl (by decide) rfl ?_
      refine j_goto (tgt := 4) C dX2_countEnding_89 (by decide) ?_
      have e2 : (gWw g b (s + 1)) = (gWw g b s + gWr g b s (gN g)) := by
        rfl
      refine j_pick (lv' := [(0, sr 8), (1, si how), (2, si (gWw g b s + gWr g b s (gN g))), (3, si ((s : Int) + 1))]) [0, 1, 2, 3] rfl ?_
      refine j_lv (lv' := [(0, sr 8), (1, si how), (2, si (gWw g b (s + 1))), (3, si ((s : Int) + 1))]) (by rw [e2]) ?_
      exact ih (s + 1) _ (by omega) hW_3 (by omega)
set_option maxHeartbeats 4000000 in
set_option maxRecDepth 100000 in
theorem kX2_countEnding {O : OmT} {l : Launch} {V : Mem} {g : Nat → Int} (hn : net V g) (ok : okg g) {how : Int} {b : Bool} (hh : (how = 0 ∧ b = false) ∨ (how = 2 ∧ b = true)) : MI O l yX2_countEnding wsX2_countEnding rX2_countEnding [sr 8, si how] V (fun z V2 => cFr V V2 ∧ z = gWw g b (gN g)) := by
  refine mi_of (cc := cX2_countEnding) (nL := 5) (rt := (some .int)) (by decide) rfl rfl (Nat.le_of_ble_eq_true rfl) (fun F hF C hQ => ?_)
  subst hF
  change J O F rX2_countEnding 5 V 0 [(0, sr 8), (1, si how)] []
  refine j_iconst C dX2_countEnding_0 ?_
  refine j_istore_n (lv' := [(0, sr 8), (1, si how), (2, si 0)]) C dX2_countEnding_1 (by decide) rfl ?_
  refine j_iconst C dX2_countEnding_2 ?_
  refine j_istore_n (lv' := [(0, sr 8), (1, si how), (2, si 0), (3, si 0)]) C dX2_countEnding_3 (by decide) rfl ?_
  exact lpX2_count C hQ hn ok hh (fun V2 h => ⟨h, rfl⟩) _ 0 _ (Nat.zero_le _) (cFr_rf _) (Nat.lt_succ_self _)
