def rX6_told : Room := { frames := 8, cells := 0, slots := 0, locals := 193 }
theorem sgX6_told : sg yX6_told wsX6_told cX6_told 2 (some .int) rX6_told 1 := ⟨⟨_, rfl⟩, rfl, rfl, by decide, by decide, by decide +kernel⟩
set_option maxHeartbeats 4000000 in
set_option maxRecDepth 100000 in
theorem kX6_told {O : OmT} {l : Launch} {V : Mem} {g : Nat → Int} {r : Rt} (hM : MR V (g, r)) (os : okS (g, r)) (what : Int) (hwhat : -2147483648 ≤ what ∧ what < 2147483648) : MI O l yX6_told wsX6_told rX6_told [sr 72, si what] V (fun z V2 => MR V2 (g, r) ∧ loF V V2 ∧ z = aTold (g, r) what) := by
  have ok : okg g := os.1
  have n1 := ok.n
  have a1 := ok.a
  have hg : mdl V g := hM.1
  have hdp : r.2.2.1.1 ≤ 16 := os.2.2.2.1.1
  have hbk : r.2.1.1 ≤ 20 := os.2.2.1.1
  refine mi_of (cc := cX6_told) (nL := 2) (rt := (some .int)) (by decide) rfl rfl (Nat.le_of_ble_eq_true rfl) (fun F hF C hQ => ?_)
  subst hF
  change J O F rX6_told 2 V 0 [(0, sr 72), (1, si what)] []
  refine j_iload_n C dX6_told_0 rfl ?_
  rcases (show what = 0 ∨ what = 1 ∨ what = 2 ∨ what = 3 ∨ what = 4 ∨ what = 5 ∨ what = 6 ∨ what = 7 ∨ what = 8 ∨ what = 9 ∨ what = 10 ∨ what = 11 ∨ what = 12 ∨ what = 13 ∨ what = 14 ∨ what = 15 ∨ (what < 0 ∨ 15 < what) by omega) with q_1 | q_1 | q_1 | q_1 | q_1 | q_1 | q_1 | q_1 | q_1 | q_1 | q_1 | q_1 | q_1 | q_1 | q_1 | q_1 | q_1
  · refine j_top q_1 ?_
    refine j_tabIn (tgt := 80) (off := 79) C dX6_told_1 (by decide) (by decide) (by decide) (by decide) (by decide) ?_
    refine j_aload_n C dX6_told_80 rfl ?_
    refine j_get (v := sr 73) C 72 0 (by decide) (en_72 _ _) rfl (by decide) (fun w h => List.mem_cons_of_mem _ (List.mem_append_right _ h)) (List.mem_of_getElem? (i := 1) rfl) dX6_told_81 rfl ?_
    refine j_iconst C dX6_told_84 ?_
    refine j_iald C (row_73 O) 0 rfl (by decide) dX6_told_85 ?_
    refine j_top (hg 0 (by omega)) ?_
    refine j_iret C hQ dX6_told_86 ?_
    exact ⟨MR_m hM (mFr_rf _), mFr_lo (mFr_rf _), (by rw [q_1]; rfl)⟩
  · refine j_top q_1 ?_
    refine j_tabIn (tgt := 87) (off := 86) C dX6_told_1 (by decide) (by decide) (by decide) (by decide) (by decide) ?_
    refine j_aload_n C dX6_told_87 rfl ?_
    refine j_doI (st := []) (j_runV C (kX6_awakeMany hg ok) gX6_told_X6_awakeMany sgX6_awakeMany rfl ⟨by decide, by decide⟩ (by decide) (en_72 _ _) rfl rfl rfl (Nat.le_of_ble_eq_true rfl) dX6_told_88) (fun z_2 V_3 h_4 => ?_)
    obtain ⟨rfl, rfl⟩ := h_4
    refine j_iret C hQ dX6_told_91 ?_
    exact ⟨MR_m hM (mFr_rf _), mFr_lo (mFr_rf _), (by rw [q_1]; rfl)⟩
  · refine j_top q_1 ?_
    refine j_tabIn (tgt := 92) (off := 91) C dX6_told_1 (by decide) (by decide) (by decide) (by decide) (by decide) ?_
    refine j_aload_n C dX6_told_92 rfl ?_
    refine j_get (v := sr 73) C 72 0 (by decide) (en_72 _ _) rfl (by decide) (fun w h => List.mem_cons_of_mem _ (List.mem_append_right _ h)) (List.mem_of_getElem? (i := 1) rfl) dX6_told_93 rfl ?_
    refine j_iconst C dX6_told_96 ?_
    refine j_iald C (row_73 O) 1 rfl (by decide) dX6_told_97 ?_
    refine j_top (hg 1 (by omega)) ?_
    refine j_iret C hQ dX6_told_98 ?_
    exact ⟨MR_m hM (mFr_rf _), mFr_lo (mFr_rf _), (by rw [q_1]; rfl)⟩
  · refine j_top q_1 ?_
    refine j_tabIn (tgt := 99) (off := 98) C dX6_told_1 (by decide) (by decide) (by decide) (by decide) (by decide) ?_
    refine j_aload_n C dX6_told_99 rfl ?_
    refine j_get (v := sr 73) C 72 0 (by decide) (en_72 _ _) rfl (by decide) (fun w h => List.mem_cons_of_mem _ (List.mem_append_right _ h)) (List.mem_of_getElem? (i := 1) rfl) dX6_told_100 rfl ?_
    refine j_iconst C dX6_told_103 ?_
    refine j_iald C (row_73 O) 2 rfl (by decide) dX6_told_104 ?_
    refine j_top (hg 2 (by omega)) ?_
    refine j_iret C hQ dX6_told_105 ?_
    exact ⟨MR_m hM (mFr_rf _), mFr_lo (mFr_rf _), (by rw [q_1]; rfl)⟩
  · refine j_top q_1 ?_
    refine j_tabIn (tgt := 106) (off := 105) C dX6_told_1 (by decide) (by decide) (by decide) (by decide) (by decide) ?_
    refine j_aload_n C dX6_told_106 rfl ?_
    refine j_iconst C dX6_told_107 ?_
    refine j_doI (st := []) (j_runV C (kX6_pairs hg ok false) gX6_told_X6_pairs sgX6_pairs rfl ⟨by decide, by decide⟩ (by decide) (en_72 _ _) rfl rfl rfl (Nat.le_of_ble_eq_true rfl) dX6_told_108) (fun z_5 V_6 h_7 => ?_)
    obtain ⟨rfl, rfl⟩ := h_7
    refine j_iret C hQ dX6_told_111 ?_
    exact ⟨MR_m hM (mFr_rf _), mFr_lo (mFr_rf _), (by rw [q_1]; rfl)⟩
  · refine j_top q_1 ?_
    refine j_tabIn (tgt := 112) (off := 111) C dX6_told_1 (by decide) (by decide) (by decide) (by decide) (by decide) ?_
    refine j_aload_n C dX6_told_112 rfl ?_
    refine j_iconst C dX6_told_113 ?_
    refine j_doI (st := []) (j_runV C (kX6_pairs hg ok true) gX6_told_X6_pairs sgX6_pairs rfl ⟨by decide, by decide⟩ (by decide) (en_72 _ _) rfl rfl rfl (Nat.le_of_ble_eq_true rfl) dX6_told_114) (fun z_8 V_9 h_10 => ?_)
    obtain ⟨rfl, rfl⟩ := h_10
    refine j_iret C hQ dX6_told_117 ?_
    exact ⟨MR_m hM (mFr_rf _), mFr_lo (mFr_rf _), (by rw [q_1]; rfl)⟩
  · refine j_top q_1 ?_
    refine j_tabIn (tgt := 118) (off := 117) C dX6_told_1 (by decide) (by decide) (by decide) (by decide) (by decide) ?_
    refine j_aload_n C dX6_told_118 rfl ?_
    refine j_doV (st := []) (j_runV C (kX6_laysFaces hg ok) gX6_told_X6_laysFaces sgX6_laysFaces rfl ⟨by decide, by decide⟩ (by decide) (en_72 _ _) rfl rfl rfl (Nat.le_of_ble_eq_true rfl) dX6_told_119) (fun V_12 h_13 => ?_)
    subst h_13
    refine j_aload_n C dX6_told_122 rfl ?_
    refine j_get (v := si ((ms (ms V 72 11 (lF g (gN g * gN g)).1) 72 12 (lF g (gN g * gN g)).2) 72 11)) C 72 11 (by decide) (en_72 _ _) rfl (by decide) (fun w h => List.mem_cons_of_mem _ (List.mem_append_right _ h)) (List.mem_of_getElem? (i := 2) rfl) dX6_told_123 rfl ?_
    refine j_top (show (ms (ms V 72 11 (lF g (gN g * gN g)).1) 72 12 (lF g (gN g * gN g)).2) 72 11 = (lF g (gN g * gN g)).1 from rfl) ?_
    refine j_iret C hQ dX6_told_126 ?_
    exact ⟨MR_m hM mFr_lay, mFr_lo mFr_lay, (by rw [q_1]; rfl)⟩
  · refine j_top q_1 ?_
    refine j_tabIn (tgt := 127) (off := 126) C dX6_told_1 (by decide) (by decide) (by decide) (by decide) (by decide) ?_
    refine j_aload_n C dX6_told_127 rfl ?_
    refine j_doI (st := []) (j_runV C (kX6_partsOf hg ok) gX6_told_X6_partsOf sgX6_partsOf rfl ⟨by decide, by decide⟩ (by decide) (en_72 _ _) rfl rfl rfl (Nat.le_of_ble_eq_true rfl) dX6_told_128) (fun z_14 V_15 h_16 => ?_)
    obtain ⟨rfl, rfl⟩ := h_16
    refine j_iret C hQ dX6_told_131 ?_
    exact ⟨MR_m hM (mFr_rf _), mFr_lo (mFr_rf _), (by rw [q_1]; rfl)⟩
  · refine j_top q_1 ?_
    refine j_tabIn (tgt := 132) (off := 131) C dX6_told_1 (by decide) (by decide) (by decide) (by decide) (by decide) ?_
    refine j_aload_n C dX6_told_132 rfl ?_
    refine j_doI (st := []) (j_runV C (kX6_crossings hg ok) gX6_told_X6_crossings sgX6_crossings rfl ⟨by decide, by decide⟩ (by decide) (en_72 _ _) rfl rfl rfl (Nat.le_of_ble_eq_true rfl) dX6_told_133) (fun z_17 V_18 h_19 => ?_)
    obtain ⟨rfl, rfl⟩ := h_19
    refine j_iret C hQ dX6_told_136 ?_
    exact ⟨MR_m hM (mFr_rf _), mFr_lo (mFr_rf _), (by rw [q_1]; rfl)⟩
  · refine j_top q_1 ?_
    refine j_tabIn (tgt := 137) (off := 136) C dX6_told_1 (by decide) (by decide) (by decide) (by decide) (by decide) ?_
    refine j_aload_n C dX6_told_137 rfl ?_
    refine j_doV (st := []) (j_runV C (kX6_laysFaces hg ok) gX6_told_X6_laysFaces sgX6_laysFaces rfl ⟨by decide, by decide⟩ (by decide) (en_72 _ _) rfl rfl rfl (Nat.le_of_ble_eq_true rfl) dX6_told_138) (fun V_21 h_22 => ?_)
    subst h_22
    refine j_aload_n C dX6_told_141 rfl ?_
    refine j_get (v := si ((ms (ms V 72 11 (lF g (gN g * gN g)).1) 72 12 (lF g (gN g * gN g)).2) 72 12)) C 72 12 (by decide) (en_72 _ _) rfl (by decide) (fun w h => List.mem_cons_of_mem _ (List.mem_append_right _ h)) (List.mem_of_getElem? (i := 3) rfl) dX6_told_142 rfl ?_
    refine j_top (show (ms (ms V 72 11 (lF g (gN g * gN g)).1) 72 12 (lF g (gN g * gN g)).2) 72 12 = (lF g (gN g * gN g)).2 from rfl) ?_
    refine j_iret C hQ dX6_told_145 ?_
    exact ⟨MR_m hM mFr_lay, mFr_lo mFr_lay, (by rw [q_1]; rfl)⟩
  · refine j_top q_1 ?_
    refine j_tabIn (tgt := 146) (off := 145) C dX6_told_1 (by decide) (by decide) (by decide) (by decide) (by decide) ?_
    refine j_aload_n C dX6_told_146 rfl ?_
    refine j_iconst C dX6_told_147 ?_
    refine j_doI (st := []) (j_runV C (kX6_ways hg ok false) gX6_told_X6_ways sgX6_ways rfl ⟨by decide, by decide⟩ (by decide) (en_72 _ _) rfl rfl rfl (Nat.le_of_ble_eq_true rfl) dX6_told_148) (fun z_23 V_24 h_25 => ?_)
    obtain ⟨h_25, rfl⟩ := h_25
    refine j_iret C hQ dX6_told_151 ?_
    exact ⟨MR_m hM h_25, mFr_lo h_25, (by rw [q_1]; rfl)⟩
  · refine j_top q_1 ?_
    refine j_tabIn (tgt := 152) (off := 151) C dX6_told_1 (by decide) (by decide) (by decide) (by decide) (by decide) ?_
    refine j_aload_n C dX6_told_152 rfl ?_
    refine j_iconst C dX6_told_153 ?_
    refine j_doI (st := []) (j_runV C (kX6_ways hg ok true) gX6_told_X6_ways sgX6_ways rfl ⟨by decide, by decide⟩ (by decide) (en_72 _ _) rfl rfl rfl (Nat.le_of_ble_eq_true rfl) dX6_told_154) (fun z_26 V_27 h_28 => ?_)
    obtain ⟨h_28, rfl⟩ := h_28
    refine j_iret C hQ dX6_told_157 ?_
    exact ⟨MR_m hM h_28, mFr_lo h_28, (by rw [q_1]; rfl)⟩
  · refine j_top q_1 ?_
    refine j_tabIn (tgt := 158) (off := 157) C dX6_told_1 (by decide) (by decide) (by decide) (by decide) (by decide) ?_
    refine j_aload_n C dX6_told_158 rfl ?_
    refine j_get (v := si (V 72 7)) C 72 7 (by decide) (en_72 _ _) rfl (by decide) (fun w h => List.mem_cons_of_mem _ (List.mem_append_right _ h)) (List.mem_of_getElem? (i := 4) rfl) dX6_told_159 rfl ?_
    refine j_top (b := ((r.2.1.1 : Nat) : Int)) hM.2.2.1.1 ?_
    refine j_iret C hQ dX6_told_162 ?_
    exact ⟨MR_m hM (mFr_rf _), mFr_lo (mFr_rf _), (by rw [q_1]; rfl)⟩
  · refine j_top q_1 ?_
    refine j_tabIn (tgt := 163) (off := 162) C dX6_told_1 (by decide) (by decide) (by decide) (by decide) (by decide) ?_
    refine j_aload_n C dX6_told_163 rfl ?_
    refine j_doI (st := []) (j_runV C (kX6_wrong (bk := r.2.1.1) (bf := r.2.1.2.1) (bt := r.2.1.2.2.1) (bs := r.2.1.2.2.2) hg ok hM.2.2.1.1 hbk hM.2.2.1.2.1 hM.2.2.1.2.2.1 hM.2.2.1.2.2.2 os.2.2.1.2.1 os.2.2.1.2.2.1 os.2.2.1.2.2.2) gX6_told_X6_wrong sgX6_wrong rfl ⟨by decide, by decide⟩ (by decide) (en_72 _ _) rfl rfl rfl (Nat.le_of_ble_eq_true rfl) dX6_told_164) (fun z_29 V_30 h_31 => ?_)
    obtain ⟨h_31, rfl⟩ := h_31
    refine j_iret C hQ dX6_told_167 ?_
    exact ⟨MR_m hM h_31, mFr_lo h_31, (by rw [q_1]; rfl)⟩
  · refine j_top q_1 ?_
    refine j_tabIn (tgt := 168) (off := 167) C dX6_told_1 (by decide) (by decide) (by decide) (by decide) (by decide) ?_
    refine j_aload_n C dX6_told_168 rfl ?_
    refine j_get (v := si (V 72 2)) C 72 2 (by decide) (en_72 _ _) rfl (by decide) (fun w h => List.mem_cons_of_mem _ (List.mem_append_right _ h)) (List.mem_of_getElem? (i := 5) rfl) dX6_told_169 rfl ?_
    refine j_top (b := ((r.2.2.1.1 : Nat) : Int)) hM.2.2.2.1.1 ?_
    refine j_iret C hQ dX6_told_172 ?_
    exact ⟨MR_m hM (mFr_rf _), mFr_lo (mFr_rf _), (by rw [q_1]; rfl)⟩
  · refine j_top q_1 ?_
    refine j_tabIn (tgt := 173) (off := 172) C dX6_told_1 (by decide) (by decide) (by decide) (by decide) (by decide) ?_
    refine j_aload_n C dX6_told_173 rfl ?_
    refine j_get (v := si (V 72 6)) C 72 6 (by decide) (en_72 _ _) rfl (by decide) (fun w h => List.mem_cons_of_mem _ (List.mem_append_right _ h)) (List.mem_of_getElem? (i := 6) rfl) dX6_told_174 rfl ?_
    refine j_top (b := r.1) hM.2.1 ?_
    refine j_iret C hQ dX6_told_177 ?_
    exact ⟨MR_m hM (mFr_rf _), mFr_lo (mFr_rf _), (by rw [q_1]; rfl)⟩
  · refine j_tabOut (tgt := 178) C dX6_told_1 (by omega) q_1 (by decide) ?_
    refine j_ldc (n := -1000000002) C (List.mem_of_getElem? (i := 7) rfl) (by decide) dX6_told_178 ?_
    refine j_iret C hQ dX6_told_180 ?_
    exact ⟨MR_m hM (mFr_rf _), mFr_lo (mFr_rf _), (aTold_out q_1).symm⟩
