def rX5_told : Room := { frames := 6, cells := 0, slots := 0, locals := 143 }
theorem sgX5_told : sg yX5_told wsX5_told cX5_told 2 (some .int) rX5_told 1 := ⟨⟨_, rfl⟩, rfl, rfl, by decide, by decide, by decide +kernel⟩
set_option maxHeartbeats 4000000 in
set_option maxRecDepth 100000 in
theorem kX5_told {O : OmT} {l : Launch} {V : Mem} {g : Nat → Int} {r : Rt} (hR : CR V (g, r)) (os : okS (g, r)) (what : Int) (hwhat : -2147483648 ≤ what ∧ what < 2147483648) : MI O l yX5_told wsX5_told rX5_told [sr 0, si what] V (fun z V2 => CR V2 (g, r) ∧ hiF V V2 ∧ z = aTold (g, r) what) := by
  have ok : okg g := os.1
  have n1 := ok.n
  have a1 := ok.a
  have hn : net V g := hR.1
  have hc : cls V g := hn.1
  have hG : CG V (g, r) := hR.2
  have hdp : r.2.2.1.1 ≤ 16 := os.2.2.2.1.1
  have hbk : r.2.1.1 ≤ 20 := os.2.2.1.1
  refine mi_of (cc := cX5_told) (nL := 2) (rt := (some .int)) (by decide) rfl rfl (Nat.le_of_ble_eq_true rfl) (fun F hF C hQ => ?_)
  subst hF
  change J O F rX5_told 2 V 0 [(0, sr 0), (1, si what)] []
  refine j_iload_n C dX5_told_0 rfl ?_
  rcases (show what = 0 ∨ what = 1 ∨ what = 2 ∨ what = 3 ∨ what = 4 ∨ what = 5 ∨ what = 6 ∨ what = 7 ∨ what = 8 ∨ what = 9 ∨ what = 10 ∨ what = 11 ∨ what = 12 ∨ what = 13 ∨ what = 14 ∨ what = 15 ∨ (what < 0 ∨ 15 < what) by omega) with q_1 | q_1 | q_1 | q_1 | q_1 | q_1 | q_1 | q_1 | q_1 | q_1 | q_1 | q_1 | q_1 | q_1 | q_1 | q_1 | q_1
  · refine j_top q_1 ?_
    refine j_tabIn (tgt := 80) (off := 79) C dX5_told_1 (by decide) (by decide) (by decide) (by decide) (by decide) ?_
    refine j_aload_n C dX5_told_80 rfl ?_
    refine j_get (v := sr 1) C 0 0 (by decide) (en_0 _ _) rfl (by decide) (fun w h => List.mem_cons_of_mem _ (List.mem_append_left _ (List.mem_append_left _ (List.mem_append_left _ (List.mem_append_left _ (List.mem_append_left _ (List.mem_append_right _ h))))))) (List.mem_of_getElem? (i := 1) rfl) dX5_told_81 rfl ?_
    refine j_getN (v := si (V 1 2)) C 1 2 (by decide) (en_G (c := 1) (by decide) _) rfl (by decide) (fun w h => List.mem_cons_of_mem _ (List.mem_append_left _ (List.mem_append_left _ (List.mem_append_left _ (List.mem_append_left _ (List.mem_append_right _ h)))))) (List.mem_of_getElem? (i := 7) rfl) dX5_told_84 rfl ?_
    refine j_top hc.1 ?_
    refine j_iret C hQ dX5_told_87 ?_
    exact ⟨CR_s hR (cFs_rf hG.2.2.1), cFs_hi (cFs_rf hG.2.2.1), (by rw [q_1]; exact rfl)⟩
  · refine j_top q_1 ?_
    refine j_tabIn (tgt := 88) (off := 87) C dX5_told_1 (by decide) (by decide) (by decide) (by decide) (by decide) ?_
    refine j_aload_n C dX5_told_88 rfl ?_
    refine j_get (v := sr 1) C 0 0 (by decide) (en_0 _ _) rfl (by decide) (fun w h => List.mem_cons_of_mem _ (List.mem_append_left _ (List.mem_append_left _ (List.mem_append_left _ (List.mem_append_left _ (List.mem_append_left _ (List.mem_append_right _ h))))))) (List.mem_of_getElem? (i := 1) rfl) dX5_told_89 rfl ?_
    refine j_getN (v := si (V 1 3)) C 1 3 (by decide) (en_G (c := 1) (by decide) _) rfl (by decide) (fun w h => List.mem_cons_of_mem _ (List.mem_append_left _ (List.mem_append_left _ (List.mem_append_left _ (List.mem_append_left _ (List.mem_append_right _ h)))))) (List.mem_of_getElem? (i := 9) rfl) dX5_told_92 rfl ?_
    refine j_top (b := ((g 3).toNat : Int)) (hc.2.1.trans a1.1) ?_
    refine j_doI (st := []) (j_runS C (kJ6_bitCount_0f7a4 ((g 3).toNat) rfl a1.2) ggX5_told_J6_bitCount_0f7a4 sgJ6_bitCount_0f7a4 (List.mem_of_getElem? (i := 7) rfl) (List.mem_of_getElem? (i := 9) rfl) (List.mem_of_getElem? (i := 8) rfl) ⟨by decide, by decide⟩ rfl rfl (Nat.le_of_ble_eq_true rfl) dX5_told_95) (fun z_2 V_3 h_4 => ?_)
    obtain ⟨rfl, rfl⟩ := h_4
    refine j_iret C hQ dX5_told_98 ?_
    exact ⟨CR_s hR (cFs_rf hG.2.2.1), cFs_hi (cFs_rf hG.2.2.1), (by rw [q_1]; exact (pcN_gAc ok))⟩
  · refine j_top q_1 ?_
    refine j_tabIn (tgt := 99) (off := 98) C dX5_told_1 (by decide) (by decide) (by decide) (by decide) (by decide) ?_
    refine j_aload_n C dX5_told_99 rfl ?_
    refine j_get (v := sr 1) C 0 0 (by decide) (en_0 _ _) rfl (by decide) (fun w h => List.mem_cons_of_mem _ (List.mem_append_left _ (List.mem_append_left _ (List.mem_append_left _ (List.mem_append_left _ (List.mem_append_left _ (List.mem_append_right _ h))))))) (List.mem_of_getElem? (i := 1) rfl) dX5_told_100 rfl ?_
    refine j_getN (v := si (V 1 4)) C 1 4 (by decide) (en_G (c := 1) (by decide) _) rfl (by decide) (fun w h => List.mem_cons_of_mem _ (List.mem_append_left _ (List.mem_append_left _ (List.mem_append_left _ (List.mem_append_left _ (List.mem_append_right _ h)))))) (List.mem_of_getElem? (i := 10) rfl) dX5_told_103 rfl ?_
    refine j_top hc.2.2.1 ?_
    refine j_iret C hQ dX5_told_106 ?_
    exact ⟨CR_s hR (cFs_rf hG.2.2.1), cFs_hi (cFs_rf hG.2.2.1), (by rw [q_1]; exact rfl)⟩
  · refine j_top q_1 ?_
    refine j_tabIn (tgt := 107) (off := 106) C dX5_told_1 (by decide) (by decide) (by decide) (by decide) (by decide) ?_
    refine j_aload_n C dX5_told_107 rfl ?_
    refine j_get (v := sr 1) C 0 0 (by decide) (en_0 _ _) rfl (by decide) (fun w h => List.mem_cons_of_mem _ (List.mem_append_left _ (List.mem_append_left _ (List.mem_append_left _ (List.mem_append_left _ (List.mem_append_left _ (List.mem_append_right _ h))))))) (List.mem_of_getElem? (i := 1) rfl) dX5_told_108 rfl ?_
    refine j_getN (v := si (V 1 5)) C 1 5 (by decide) (en_G (c := 1) (by decide) _) rfl (by decide) (fun w h => List.mem_cons_of_mem _ (List.mem_append_left _ (List.mem_append_left _ (List.mem_append_left _ (List.mem_append_left _ (List.mem_append_right _ h)))))) (List.mem_of_getElem? (i := 12) rfl) dX5_told_111 rfl ?_
    refine j_top hc.2.2.2.1 ?_
    refine j_iret C hQ dX5_told_114 ?_
    exact ⟨CR_s hR (cFs_rf hG.2.2.1), cFs_hi (cFs_rf hG.2.2.1), (by rw [q_1]; exact rfl)⟩
  · refine j_top q_1 ?_
    refine j_tabIn (tgt := 115) (off := 114) C dX5_told_1 (by decide) (by decide) (by decide) (by decide) (by decide) ?_
    refine j_aload_n C dX5_told_115 rfl ?_
    refine j_get (v := sr 4) C 0 1 (by decide) (en_0 _ _) rfl (by decide) (fun w h => List.mem_cons_of_mem _ (List.mem_append_left _ (List.mem_append_left _ (List.mem_append_left _ (List.mem_append_left _ (List.mem_append_left _ (List.mem_append_right _ h))))))) (List.mem_of_getElem? (i := 2) rfl) dX5_told_116 rfl ?_
    refine j_aload_n C dX5_told_119 rfl ?_
    refine j_get (v := sr 4) C 0 1 (by decide) (en_0 _ _) rfl (by decide) (fun w h => List.mem_cons_of_mem _ (List.mem_append_left _ (List.mem_append_left _ (List.mem_append_left _ (List.mem_append_left _ (List.mem_append_left _ (List.mem_append_right _ h))))))) (List.mem_of_getElem? (i := 2) rfl) dX5_told_120 rfl ?_
    refine j_getN (v := sr 5) C 4 1 (by decide) (en_4 _ _) rfl (by decide) (fun w h => List.mem_cons_of_mem _ (List.mem_append_left _ (List.mem_append_left _ (List.mem_append_left _ (List.mem_append_right _ h))))) (List.mem_of_getElem? (i := 15) rfl) dX5_told_123 rfl ?_
    refine j_doI (st := []) (j_runVN C (kX3_countPairs hn.1 ok (b := false) (row_5 O) hn.2.1) ggX5_told_X3_countPairs sgX3_countPairs rfl (List.mem_of_getElem? (i := 6) rfl) (List.mem_of_getElem? (i := 15) rfl) (List.mem_of_getElem? (i := 14) rfl) (List.mem_of_getElem? (i := 16) rfl) ⟨by decide, by decide⟩ (by decide) (en_4 _ _) rfl rfl rfl (Nat.le_of_ble_eq_true rfl) dX5_told_126) (fun z_5 V_6 h_7 => ?_)
    obtain ⟨rfl, rfl⟩ := h_7
    refine j_iret C hQ dX5_told_129 ?_
    exact ⟨CR_s hR (cFs_rf hG.2.2.1), cFs_hi (cFs_rf hG.2.2.1), (by rw [q_1]; exact rfl)⟩
  · refine j_top q_1 ?_
    refine j_tabIn (tgt := 130) (off := 129) C dX5_told_1 (by decide) (by decide) (by decide) (by decide) (by decide) ?_
    refine j_aload_n C dX5_told_130 rfl ?_
    refine j_get (v := sr 4) C 0 1 (by decide) (en_0 _ _) rfl (by decide) (fun w h => List.mem_cons_of_mem _ (List.mem_append_left _ (List.mem_append_left _ (List.mem_append_left _ (List.mem_append_left _ (List.mem_append_left _ (List.mem_append_right _ h))))))) (List.mem_of_getElem? (i := 2) rfl) dX5_told_131 rfl ?_
    refine j_aload_n C dX5_told_134 rfl ?_
    refine j_get (v := sr 4) C 0 1 (by decide) (en_0 _ _) rfl (by decide) (fun w h => List.mem_cons_of_mem _ (List.mem_append_left _ (List.mem_append_left _ (List.mem_append_left _ (List.mem_append_left _ (List.mem_append_left _ (List.mem_append_right _ h))))))) (List.mem_of_getElem? (i := 2) rfl) dX5_told_135 rfl ?_
    refine j_getN (v := sr 6) C 4 2 (by decide) (en_4 _ _) rfl (by decide) (fun w h => List.mem_cons_of_mem _ (List.mem_append_left _ (List.mem_append_left _ (List.mem_append_left _ (List.mem_append_right _ h))))) (List.mem_of_getElem? (i := 16) rfl) dX5_told_138 rfl ?_
    refine j_doI (st := []) (j_runVN C (kX3_countPairs hn.1 ok (b := true) (row_6 O) hn.2.2) ggX5_told_X3_countPairs sgX3_countPairs rfl (List.mem_of_getElem? (i := 6) rfl) (List.mem_of_getElem? (i := 15) rfl) (List.mem_of_getElem? (i := 14) rfl) (List.mem_of_getElem? (i := 16) rfl) ⟨by decide, by decide⟩ (by decide) (en_4 _ _) rfl rfl rfl (Nat.le_of_ble_eq_true rfl) dX5_told_141) (fun z_8 V_9 h_10 => ?_)
    obtain ⟨rfl, rfl⟩ := h_10
    refine j_iret C hQ dX5_told_144 ?_
    exact ⟨CR_s hR (cFs_rf hG.2.2.1), cFs_hi (cFs_rf hG.2.2.1), (by rw [q_1]; exact rfl)⟩
  · refine j_top q_1 ?_
    refine j_tabIn (tgt := 145) (off := 144) C dX5_told_1 (by decide) (by decide) (by decide) (by decide) (by decide) ?_
    refine j_aload_n C dX5_told_145 rfl ?_
    refine j_get (v := sr 4) C 0 1 (by decide) (en_0 _ _) rfl (by decide) (fun w h => List.mem_cons_of_mem _ (List.mem_append_left _ (List.mem_append_left _ (List.mem_append_left _ (List.mem_append_left _ (List.mem_append_left _ (List.mem_append_right _ h))))))) (List.mem_of_getElem? (i := 2) rfl) dX5_told_146 rfl ?_
    refine j_doI (st := []) (j_runVN C (kX3_countFaces hn ok) ggX5_told_X3_countFaces sgX3_countFaces rfl (List.mem_of_getElem? (i := 7) rfl) (List.mem_of_getElem? (i := 15) rfl) (List.mem_of_getElem? (i := 20) rfl) (List.mem_of_getElem? (i := 21) rfl) ⟨by decide, by decide⟩ (by decide) (en_4 _ _) rfl rfl rfl (Nat.le_of_ble_eq_true rfl) dX5_told_149) (fun z_11 V_12 h_13 => ?_)
    obtain ⟨rfl, rfl⟩ := h_13
    refine j_iret C hQ dX5_told_152 ?_
    exact ⟨CR_s hR (cFs_7 (fcO_ok ok false (gN g)).1), cFs_hi (cFs_7 (fcO_ok ok false (gN g)).1), (by rw [q_1]; exact (faces_eq ok))⟩
  · refine j_top q_1 ?_
    refine j_tabIn (tgt := 153) (off := 152) C dX5_told_1 (by decide) (by decide) (by decide) (by decide) (by decide) ?_
    refine j_aload_n C dX5_told_153 rfl ?_
    refine j_get (v := sr 4) C 0 1 (by decide) (en_0 _ _) rfl (by decide) (fun w h => List.mem_cons_of_mem _ (List.mem_append_left _ (List.mem_append_left _ (List.mem_append_left _ (List.mem_append_left _ (List.mem_append_left _ (List.mem_append_right _ h))))))) (List.mem_of_getElem? (i := 2) rfl) dX5_told_154 rfl ?_
    refine j_doI (st := []) (j_runVN C (kX3_countParts hn ok) ggX5_told_X3_countParts sgX3_countParts rfl (List.mem_of_getElem? (i := 12) rfl) (List.mem_of_getElem? (i := 15) rfl) (List.mem_of_getElem? (i := 60) rfl) (List.mem_of_getElem? (i := 61) rfl) ⟨by decide, by decide⟩ (by decide) (en_4 _ _) rfl rfl rfl (Nat.le_of_ble_eq_true rfl) dX5_told_157) (fun z_14 V_15 h_16 => ?_)
    obtain ⟨rfl, rfl⟩ := h_16
    refine j_iret C hQ dX5_told_160 ?_
    exact ⟨CR_s hR (cFs_rf hG.2.2.1), cFs_hi (cFs_rf hG.2.2.1), (by rw [q_1]; exact rfl)⟩
  · refine j_top q_1 ?_
    refine j_tabIn (tgt := 161) (off := 160) C dX5_told_1 (by decide) (by decide) (by decide) (by decide) (by decide) ?_
    refine j_aload_n C dX5_told_161 rfl ?_
    refine j_get (v := sr 4) C 0 1 (by decide) (en_0 _ _) rfl (by decide) (fun w h => List.mem_cons_of_mem _ (List.mem_append_left _ (List.mem_append_left _ (List.mem_append_left _ (List.mem_append_left _ (List.mem_append_left _ (List.mem_append_right _ h))))))) (List.mem_of_getElem? (i := 2) rfl) dX5_told_162 rfl ?_
    refine j_doI (st := []) (j_runVN C (kX3_countCrossings hn ok) ggX5_told_X3_countCrossings sgX3_countCrossings rfl (List.mem_of_getElem? (i := 15) rfl) (List.mem_of_getElem? (i := 15) rfl) (List.mem_of_getElem? (i := 81) rfl) (List.mem_of_getElem? (i := 82) rfl) ⟨by decide, by decide⟩ (by decide) (en_4 _ _) rfl rfl rfl (Nat.le_of_ble_eq_true rfl) dX5_told_165) (fun z_17 V_18 h_19 => ?_)
    obtain ⟨rfl, rfl⟩ := h_19
    refine j_iret C hQ dX5_told_168 ?_
    exact ⟨CR_s hR (cFs_rf hG.2.2.1), cFs_hi (cFs_rf hG.2.2.1), (by rw [q_1]; exact (cross_eq ok).symm)⟩
  · refine j_top q_1 ?_
    refine j_tabIn (tgt := 169) (off := 168) C dX5_told_1 (by decide) (by decide) (by decide) (by decide) (by decide) ?_
    refine j_aload_n C dX5_told_169 rfl ?_
    refine j_get (v := sr 4) C 0 1 (by decide) (en_0 _ _) rfl (by decide) (fun w h => List.mem_cons_of_mem _ (List.mem_append_left _ (List.mem_append_left _ (List.mem_append_left _ (List.mem_append_left _ (List.mem_append_left _ (List.mem_append_right _ h))))))) (List.mem_of_getElem? (i := 2) rfl) dX5_told_170 rfl ?_
    refine j_doI (st := []) (j_runVN C (kX3_greatestFace hn ok) ggX5_told_X3_greatestFace sgX3_greatestFace rfl (List.mem_of_getElem? (i := 16) rfl) (List.mem_of_getElem? (i := 15) rfl) (List.mem_of_getElem? (i := 106) rfl) (List.mem_of_getElem? (i := 107) rfl) ⟨by decide, by decide⟩ (by decide) (en_4 _ _) rfl rfl rfl (Nat.le_of_ble_eq_true rfl) dX5_told_173) (fun z_20 V_21 h_22 => ?_)
    obtain ⟨rfl, rfl⟩ := h_22
    refine j_iret C hQ dX5_told_176 ?_
    exact ⟨CR_s hR (cFs_7 (fcO_ok ok true (gN g)).1), cFs_hi (cFs_7 (fcO_ok ok true (gN g)).1), (by rw [q_1]; exact (great_eq ok))⟩
  · refine j_top q_1 ?_
    refine j_tabIn (tgt := 177) (off := 176) C dX5_told_1 (by decide) (by decide) (by decide) (by decide) (by decide) ?_
    refine j_aload_n C dX5_told_177 rfl ?_
    refine j_get (v := sr 8) C 0 2 (by decide) (en_0 _ _) rfl (by decide) (fun w h => List.mem_cons_of_mem _ (List.mem_append_left _ (List.mem_append_left _ (List.mem_append_left _ (List.mem_append_left _ (List.mem_append_left _ (List.mem_append_right _ h))))))) (List.mem_of_getElem? (i := 3) rfl) dX5_told_178 rfl ?_
    refine j_iconst C dX5_told_181 ?_
    refine j_doI (st := []) (j_runVN C (kX2_countEnding hn ok (b := false) (Or.inl ⟨rfl, rfl⟩)) ggX5_told_X2_countEnding sgX2_countEnding rfl (List.mem_of_getElem? (i := 17) rfl) (List.mem_of_getElem? (i := 110) rfl) (List.mem_of_getElem? (i := 109) rfl) (List.mem_of_getElem? (i := 111) rfl) ⟨by decide, by decide⟩ (by decide) (en_8 _ _) rfl rfl rfl (Nat.le_of_ble_eq_true rfl) dX5_told_182) (fun z_23 V_24 h_25 => ?_)
    obtain ⟨h_25, rfl⟩ := h_25
    refine j_iret C hQ dX5_told_185 ?_
    exact ⟨CR_s hR (cFs_c h_25 hG.2.2.1), cFs_hi (cFs_c h_25 hG.2.2.1), (by rw [q_1]; exact rfl)⟩
  · refine j_top q_1 ?_
    refine j_tabIn (tgt := 186) (off := 185) C dX5_told_1 (by decide) (by decide) (by decide) (by decide) (by decide) ?_
    refine j_aload_n C dX5_told_186 rfl ?_
    refine j_get (v := sr 8) C 0 2 (by decide) (en_0 _ _) rfl (by decide) (fun w h => List.mem_cons_of_mem _ (List.mem_append_left _ (List.mem_append_left _ (List.mem_append_left _ (List.mem_append_left _ (List.mem_append_left _ (List.mem_append_right _ h))))))) (List.mem_of_getElem? (i := 3) rfl) dX5_told_187 rfl ?_
    refine j_iconst C dX5_told_190 ?_
    refine j_doI (st := []) (j_runVN C (kX2_countEnding hn ok (b := true) (Or.inr ⟨rfl, rfl⟩)) ggX5_told_X2_countEnding sgX2_countEnding rfl (List.mem_of_getElem? (i := 17) rfl) (List.mem_of_getElem? (i := 110) rfl) (List.mem_of_getElem? (i := 109) rfl) (List.mem_of_getElem? (i := 111) rfl) ⟨by decide, by decide⟩ (by decide) (en_8 _ _) rfl rfl rfl (Nat.le_of_ble_eq_true rfl) dX5_told_191) (fun z_26 V_27 h_28 => ?_)
    obtain ⟨h_28, rfl⟩ := h_28
    refine j_iret C hQ dX5_told_194 ?_
    exact ⟨CR_s hR (cFs_c h_28 hG.2.2.1), cFs_hi (cFs_c h_28 hG.2.2.1), (by rw [q_1]; exact rfl)⟩
  · refine j_top q_1 ?_
    refine j_tabIn (tgt := 195) (off := 194) C dX5_told_1 (by decide) (by decide) (by decide) (by decide) (by decide) ?_
    refine j_aload_n C dX5_told_195 rfl ?_
    refine j_get (v := sr 11) C 0 3 (by decide) (en_0 _ _) rfl (by decide) (fun w h => List.mem_cons_of_mem _ (List.mem_append_left _ (List.mem_append_left _ (List.mem_append_left _ (List.mem_append_left _ (List.mem_append_left _ (List.mem_append_right _ h))))))) (List.mem_of_getElem? (i := 4) rfl) dX5_told_196 rfl ?_
    refine j_getN (v := si (V 11 3)) C 11 3 (by decide) (en_11 _ _) rfl (by decide) (fun w h => List.mem_cons_of_mem _ (List.mem_append_left _ (List.mem_append_left _ (List.mem_append_right _ h)))) (List.mem_of_getElem? (i := 22) rfl) dX5_told_199 rfl ?_
    refine j_top (b := ((r.2.1.1 : Nat) : Int)) hG.2.2.2.1.1 ?_
    refine j_iret C hQ dX5_told_202 ?_
    exact ⟨CR_s hR (cFs_rf hG.2.2.1), cFs_hi (cFs_rf hG.2.2.1), (by rw [q_1]; exact rfl)⟩
  · refine j_top q_1 ?_
    refine j_tabIn (tgt := 203) (off := 202) C dX5_told_1 (by decide) (by decide) (by decide) (by decide) (by decide) ?_
    refine j_aload_n C dX5_told_203 rfl ?_
    refine j_get (v := sr 11) C 0 3 (by decide) (en_0 _ _) rfl (by decide) (fun w h => List.mem_cons_of_mem _ (List.mem_append_left _ (List.mem_append_left _ (List.mem_append_left _ (List.mem_append_left _ (List.mem_append_left _ (List.mem_append_right _ h))))))) (List.mem_of_getElem? (i := 4) rfl) dX5_told_204 rfl ?_
    refine j_aload_n C dX5_told_207 rfl ?_
    refine j_get (v := sr 1) C 0 0 (by decide) (en_0 _ _) rfl (by decide) (fun w h => List.mem_cons_of_mem _ (List.mem_append_left _ (List.mem_append_left _ (List.mem_append_left _ (List.mem_append_left _ (List.mem_append_left _ (List.mem_append_right _ h))))))) (List.mem_of_getElem? (i := 1) rfl) dX5_told_208 rfl ?_
    refine j_aload_n C dX5_told_211 rfl ?_
    refine j_get (v := sr 8) C 0 2 (by decide) (en_0 _ _) rfl (by decide) (fun w h => List.mem_cons_of_mem _ (List.mem_append_left _ (List.mem_append_left _ (List.mem_append_left _ (List.mem_append_left _ (List.mem_append_left _ (List.mem_append_right _ h))))))) (List.mem_of_getElem? (i := 3) rfl) dX5_told_212 rfl ?_
    refine j_doI (st := []) (j_runVN C (kX0_firstWrong (bk := r.2.1.1) (bf := r.2.1.2.1) (bt := r.2.1.2.2.1) (bs := r.2.1.2.2.2) hn ok hG.2.2.2.1.1 hbk hG.2.2.2.1.2.1 hG.2.2.2.1.2.2.1 hG.2.2.2.1.2.2.2 os.2.2.1.2.1 os.2.2.1.2.2.1 os.2.2.1.2.2.2) ggX5_told_X0_firstWrong sgX0_firstWrong rfl (List.mem_of_getElem? (i := 24) rfl) (List.mem_of_getElem? (i := 171) rfl) (List.mem_of_getElem? (i := 170) rfl) (List.mem_of_getElem? (i := 172) rfl) ⟨by decide, by decide⟩ (by decide) (en_11 _ _) rfl rfl rfl (Nat.le_of_ble_eq_true rfl) dX5_told_215) (fun z_29 V_30 h_31 => ?_)
    obtain ⟨h_31, rfl⟩ := h_31
    refine j_iret C hQ dX5_told_218 ?_
    exact ⟨CR_s hR (cFs_c h_31 hG.2.2.1), cFs_hi (cFs_c h_31 hG.2.2.1), (by rw [q_1]; exact rfl)⟩
  · refine j_top q_1 ?_
    refine j_tabIn (tgt := 219) (off := 218) C dX5_told_1 (by decide) (by decide) (by decide) (by decide) (by decide) ?_
    refine j_aload_n C dX5_told_219 rfl ?_
    refine j_get (v := sr 15) C 0 4 (by decide) (en_0 _ _) rfl (by decide) (fun w h => List.mem_cons_of_mem _ (List.mem_append_left _ (List.mem_append_left _ (List.mem_append_left _ (List.mem_append_left _ (List.mem_append_left _ (List.mem_append_right _ h))))))) (List.mem_of_getElem? (i := 5) rfl) dX5_told_220 rfl ?_
    refine j_getN (v := si (V 15 2)) C 15 2 (by decide) (en_15 _ _) rfl (by decide) (fun w h => List.mem_cons_of_mem _ (List.mem_append_left _ (List.mem_append_right _ h))) (List.mem_of_getElem? (i := 23) rfl) dX5_told_223 rfl ?_
    refine j_top (b := ((r.2.2.1.1 : Nat) : Int)) hG.2.2.2.2.1.1 ?_
    refine j_iret C hQ dX5_told_226 ?_
    exact ⟨CR_s hR (cFs_rf hG.2.2.1), cFs_hi (cFs_rf hG.2.2.1), (by rw [q_1]; exact rfl)⟩
  · refine j_top q_1 ?_
    refine j_tabIn (tgt := 227) (off := 226) C dX5_told_1 (by decide) (by decide) (by decide) (by decide) (by decide) ?_
    refine j_aload_n C dX5_told_227 rfl ?_
    refine j_get (v := sr 1) C 0 0 (by decide) (en_0 _ _) rfl (by decide) (fun w h => List.mem_cons_of_mem _ (List.mem_append_left _ (List.mem_append_left _ (List.mem_append_left _ (List.mem_append_left _ (List.mem_append_left _ (List.mem_append_right _ h))))))) (List.mem_of_getElem? (i := 1) rfl) dX5_told_228 rfl ?_
    refine j_getN (v := si (V 1 6)) C 1 6 (by decide) (en_G (c := 1) (by decide) _) rfl (by decide) (fun w h => List.mem_cons_of_mem _ (List.mem_append_left _ (List.mem_append_left _ (List.mem_append_left _ (List.mem_append_left _ (List.mem_append_right _ h)))))) (List.mem_of_getElem? (i := 14) rfl) dX5_told_231 rfl ?_
    refine j_top (b := r.1) hG.2.1 ?_
    refine j_iret C hQ dX5_told_234 ?_
    exact ⟨CR_s hR (cFs_rf hG.2.2.1), cFs_hi (cFs_rf hG.2.2.1), (by rw [q_1]; exact rfl)⟩
  · refine j_tabOut (tgt := 235) C dX5_told_1 (by omega) q_1 (by decide) ?_
    refine j_ldc (n := -1000000002) C (List.mem_of_getElem? (i := 6) rfl) (by decide) dX5_told_235 ?_
    refine j_iret C hQ dX5_told_237 ?_
    exact ⟨CR_s hR (cFs_rf hG.2.2.1), cFs_hi (cFs_rf hG.2.2.1), (aTold_out q_1).symm⟩
