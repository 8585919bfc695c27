def rX2_takesGreaterShare : Room := { frames := 1, cells := 0, slots := 0, locals := 23 }
theorem sgX2_takesGreaterShare : sg yX2_takesGreaterShare wsX2_takesGreaterShare cX2_takesGreaterShare 7 (some .boolean) rX2_takesGreaterShare 0 := ⟨⟨_, rfl⟩, rfl, rfl, by decide, by decide, by decide +kernel⟩
set_option maxHeartbeats 4000000 in
set_option maxRecDepth 100000 in
theorem kX2_takesGreaterShare {O : OmT} {l : Launch} {V : Mem} {g : Nat → Int} (hc : cls V g) (ok : okg g) (t u e v : Nat) (hu : V 8 4 = (u : Int)) (hm : V 8 5 = (t : Int)) (he : V 8 6 = (e : Int)) (hx : V 8 7 = (v : Int)) (hs1 : V 8 8 = 0) (hs2 : V 8 9 = 1) (hen : e < gN g) (htn : t < gN g) (hae : gA g e = true) (hat : gA g t = true) (het : e ≠ t) (hut : u ≠ t) (hR : gR g e t (gN g) = -1) (hT : gT g u v = true) (hF : gF g e t ≤ gF g u t) : MI O l yX2_takesGreaterShare wsX2_takesGreaterShare rX2_takesGreaterShare [sr 8] V (fun z V2 => V = V2 ∧ z = 0) := by
  refine mi_of (cc := cX2_takesGreaterShare) (nL := 7) (rt := (some .boolean)) (by decide) rfl rfl (Nat.le_of_ble_eq_true rfl) (fun F hF C hQ => ?_)
  subst hF
  have n1 := ok.n
  have hl := gT_lt ok hT
  change J O F rX2_takesGreaterShare 7 V 0 [(0, sr 8)] []
  refine j_aload_n C dX2_takesGreaterShare_0 rfl ?_
  refine j_get (v := sr 1) C 8 0 (by decide) (en_8 _ _) rfl (by decide) (fun w h => List.mem_cons_of_mem _ (List.mem_append_left _ (List.mem_append_right _ h))) (List.mem_of_getElem? (i := 1) rfl) dX2_takesGreaterShare_1 rfl ?_
  refine j_aload_n C dX2_takesGreaterShare_4 rfl ?_
  refine j_get (v := si (V 8 6)) C 8 6 (by decide) (en_8 _ _) rfl (by decide) (fun w h => List.mem_cons_of_mem _ (List.mem_append_left _ (List.mem_append_right _ h))) (List.mem_of_getElem? (i := 2) rfl) dX2_takesGreaterShare_5 rfl ?_
  refine j_top he ?_
  refine j_aload_n C dX2_takesGreaterShare_8 rfl ?_
  refine j_get (v := si (V 8 5)) C 8 5 (by decide) (en_8 _ _) rfl (by decide) (fun w h => List.mem_cons_of_mem _ (List.mem_append_left _ (List.mem_append_right _ h))) (List.mem_of_getElem? (i := 3) rfl) dX2_takesGreaterShare_9 rfl ?_
  refine j_top hm ?_
  refine j_aload_n C dX2_takesGreaterShare_12 rfl ?_
  refine j_get (v := si (V 8 4)) C 8 4 (by decide) (en_8 _ _) rfl (by decide) (fun w h => List.mem_cons_of_mem _ (List.mem_append_left _ (List.mem_append_right _ h))) (List.mem_of_getElem? (i := 4) rfl) dX2_takesGreaterShare_13 rfl ?_
  refine j_top hu ?_
  refine j_doI (st := []) (j_runVN C (kX1_sideOf hc e t u rfl rfl rfl (by omega) (by omega) (by omega)) ggX2_takesGreaterShare_X1_sideOf sgX1_sideOf rfl (List.mem_of_getElem? (i := 19) rfl) (List.mem_of_getElem? (i := 9) rfl) (List.mem_of_getElem? (i := 8) rfl) (List.mem_of_getElem? (i := 10) rfl) ⟨by decide, by decide⟩ (by decide) (en_G (c := 1) (by decide) _) rfl rfl rfl (Nat.le_of_ble_eq_true rfl) dX2_takesGreaterShare_16) (fun z_1 V_2 h_3 => ?_)
  obtain ⟨rfl, rfl⟩ := h_3
  refine j_istore_n (lv' := [(0, sr 8), (1, si (gS g e t u))]) C dX2_takesGreaterShare_19 (by decide) rfl ?_
  refine j_aload_n C dX2_takesGreaterShare_20 rfl ?_
  refine j_get (v := sr 1) C 8 0 (by decide) (en_8 _ _) rfl (by decide) (fun w h => List.mem_cons_of_mem _ (List.mem_append_left _ (List.mem_append_right _ h))) (List.mem_of_getElem? (i := 1) rfl) dX2_takesGreaterShare_21 rfl ?_
  refine j_aload_n C dX2_takesGreaterShare_24 rfl ?_
  refine j_get (v := si (V 8 6)) C 8 6 (by decide) (en_8 _ _) rfl (by decide) (fun w h => List.mem_cons_of_mem _ (List.mem_append_left _ (List.mem_append_right _ h))) (List.mem_of_getElem? (i := 2) rfl) dX2_takesGreaterShare_25 rfl ?_
  refine j_top he ?_
  refine j_aload_n C dX2_takesGreaterShare_28 rfl ?_
  refine j_get (v := si (V 8 5)) C 8 5 (by decide) (en_8 _ _) rfl (by decide) (fun w h => List.mem_cons_of_mem _ (List.mem_append_left _ (List.mem_append_right _ h))) (List.mem_of_getElem? (i := 3) rfl) dX2_takesGreaterShare_29 rfl ?_
  refine j_top hm ?_
  refine j_aload_n C dX2_takesGreaterShare_32 rfl ?_
  refine j_get (v := si (V 8 7)) C 8 7 (by decide) (en_8 _ _) rfl (by decide) (fun w h => List.mem_cons_of_mem _ (List.mem_append_left _ (List.mem_append_right _ h))) (List.mem_of_getElem? (i := 5) rfl) dX2_takesGreaterShare_33 rfl ?_
  refine j_top hx ?_
  refine j_doI (st := []) (j_runVN C (kX1_sideOf hc e t v rfl rfl rfl (by omega) (by omega) (by omega)) ggX2_takesGreaterShare_X1_sideOf sgX1_sideOf rfl (List.mem_of_getElem? (i := 19) rfl) (List.mem_of_getElem? (i := 9) rfl) (List.mem_of_getElem? (i := 8) rfl) (List.mem_of_getElem? (i := 10) rfl) ⟨by decide, by decide⟩ (by decide) (en_G (c := 1) (by decide) _) rfl rfl rfl (Nat.le_of_ble_eq_true rfl) dX2_takesGreaterShare_36) (fun z_4 V_5 h_6 => ?_)
  obtain ⟨rfl, rfl⟩ := h_6
  refine j_istore_n (lv' := [(0, sr 8), (1, si (gS g e t u)), (2, si (gS g e t v))]) C dX2_takesGreaterShare_39 (by decide) rfl ?_
  refine j_iload_n C dX2_takesGreaterShare_40 rfl ?_
  refine j_if_lt (tgt := 48) C dX2_takesGreaterShare_41 (by decide) (by have := ok.s (a := e) (b := t) (c := u) (by omega) (by omega) (by omega); omega) (fun q_7 => ?_) (fun q_7 => ?_)
  · refine j_iconst C dX2_takesGreaterShare_48 ?_
    refine j_iload_n C dX2_takesGreaterShare_49 rfl ?_
    refine j_if_lt (tgt := 57) C dX2_takesGreaterShare_50 (by decide) (by have := ok.s (a := e) (b := t) (c := v) (by omega) (by omega) (by omega); omega) (fun q_8 => ?_) (fun q_8 => ?_)
    · refine j_iconst C dX2_takesGreaterShare_57 ?_
      refine j_icmp_ne (tgt := 63) C dX2_takesGreaterShare_58 (by decide) (by decide) (by decide) (fun q_9 => ?_) (fun q_9 => ?_)
      · omega
      · refine j_iconst C dX2_takesGreaterShare_61 ?_
        refine j_zret C hQ (by decide) dX2_takesGreaterShare_62 ?_
        exact ⟨rfl, rfl⟩
    · refine j_iconst C dX2_takesGreaterShare_53 ?_
      refine j_goto (tgt := 58) C dX2_takesGreaterShare_54 (by decide) ?_
      refine j_icmp_ne (tgt := 63) C dX2_takesGreaterShare_58 (by decide) (by decide) (by decide) (fun q_10 => ?_) (fun q_10 => ?_)
      · refine j_aload_n C dX2_takesGreaterShare_63 rfl ?_
        refine j_get (v := sr 1) C 8 0 (by decide) (en_8 _ _) rfl (by decide) (fun w h => List.mem_cons_of_mem _ (List.mem_append_left _ (List.mem_append_right _ h))) (List.mem_of_getElem? (i := 1) rfl) dX2_takesGreaterShare_64 rfl ?_
        refine j_getN (v := sr 2) C 1 0 (by decide) (en_G (c := 1) (by decide) _) rfl (by decide) (fun w h => List.mem_cons_of_mem _ (List.mem_append_right _ h)) (List.mem_of_getElem? (i := 1) rfl) dX2_takesGreaterShare_67 rfl ?_
        refine j_aload_n C dX2_takesGreaterShare_70 rfl ?_
        refine j_get (v := si (V 8 7)) C 8 7 (by decide) (en_8 _ _) rfl (by decide) (fun w h => List.mem_cons_of_mem _ (List.mem_append_left _ (List.mem_append_right _ h))) (List.mem_of_getElem? (i := 5) rfl) dX2_takesGreaterShare_71 rfl ?_
        refine j_top hx ?_
        refine j_iald C (row_2 O) v rfl (by omega) dX2_takesGreaterShare_74 ?_
        refine j_top (hc.2.2.2.2.1 v (by omega)) ?_
        refine j_aload_n C dX2_takesGreaterShare_75 rfl ?_
        refine j_get (v := sr 1) C 8 0 (by decide) (en_8 _ _) rfl (by decide) (fun w h => List.mem_cons_of_mem _ (List.mem_append_left _ (List.mem_append_right _ h))) (List.mem_of_getElem? (i := 1) rfl) dX2_takesGreaterShare_76 rfl ?_
        refine j_getN (v := sr 2) C 1 0 (by decide) (en_G (c := 1) (by decide) _) rfl (by decide) (fun w h => List.mem_cons_of_mem _ (List.mem_append_right _ h)) (List.mem_of_getElem? (i := 1) rfl) dX2_takesGreaterShare_79 rfl ?_
        refine j_aload_n C dX2_takesGreaterShare_82 rfl ?_
        refine j_get (v := si (V 8 4)) C 8 4 (by decide) (en_8 _ _) rfl (by decide) (fun w h => List.mem_cons_of_mem _ (List.mem_append_left _ (List.mem_append_right _ h))) (List.mem_of_getElem? (i := 4) rfl) dX2_takesGreaterShare_83 rfl ?_
        refine j_top hu ?_
        refine j_iald C (row_2 O) u rfl (by omega) dX2_takesGreaterShare_86 ?_
        refine j_top (hc.2.2.2.2.1 u (by omega)) ?_
        refine j_isub C dX2_takesGreaterShare_87 ?_
        refine j_istore_n (lv' := [(0, sr 8), (1, si (gS g e t u)), (2, si (gS g e t v)), (3, si ((g (4 + v)) - (g (4 + u))))]) C dX2_takesGreaterShare_88 (by decide) rfl ?_
        refine j_aload_n C dX2_takesGreaterShare_89 rfl ?_
        refine j_get (v := sr 1) C 8 0 (by decide) (en_8 _ _) rfl (by decide) (fun w h => List.mem_cons_of_mem _ (List.mem_append_left _ (List.mem_append_right _ h))) (List.mem_of_getElem? (i := 1) rfl) dX2_takesGreaterShare_90 rfl ?_
        refine j_getN (v := sr 3) C 1 1 (by decide) (en_G (c := 1) (by decide) _) rfl (by decide) (fun w h => List.mem_cons_of_mem _ (List.mem_append_right _ h)) (List.mem_of_getElem? (i := 4) rfl) dX2_takesGreaterShare_93 rfl ?_
        refine j_aload_n C dX2_takesGreaterShare_96 rfl ?_
        refine j_get (v := si (V 8 7)) C 8 7 (by decide) (en_8 _ _) rfl (by decide) (fun w h => List.mem_cons_of_mem _ (List.mem_append_left _ (List.mem_append_right _ h))) (List.mem_of_getElem? (i := 5) rfl) dX2_takesGreaterShare_97 rfl ?_
        refine j_top hx ?_
        refine j_iald C (row_3 O) v rfl (by omega) dX2_takesGreaterShare_100 ?_
        refine j_top (hc.2.2.2.2.2 v (by omega)) ?_
        refine j_aload_n C dX2_takesGreaterShare_101 rfl ?_
        refine j_get (v := sr 1) C 8 0 (by decide) (en_8 _ _) rfl (by decide) (fun w h => List.mem_cons_of_mem _ (List.mem_append_left _ (List.mem_append_right _ h))) (List.mem_of_getElem? (i := 1) rfl) dX2_takesGreaterShare_102 rfl ?_
        refine j_getN (v := sr 3) C 1 1 (by decide) (en_G (c := 1) (by decide) _) rfl (by decide) (fun w h => List.mem_cons_of_mem _ (List.mem_append_right _ h)) (List.mem_of_getElem? (i := 4) rfl) dX2_takesGreaterShare_105 rfl ?_
        refine j_aload_n C dX2_takesGreaterShare_108 rfl ?_
        refine j_get (v := si (V 8 4)) C 8 4 (by decide) (en_8 _ _) rfl (by decide) (fun w h => List.mem_cons_of_mem _ (List.mem_append_left _ (List.mem_append_right _ h))) (List.mem_of_getElem? (i := 4) rfl) dX2_takesGreaterShare_109 rfl ?_
        refine j_top hu ?_
        refine j_iald C (row_3 O) u rfl (by omega) dX2_takesGreaterShare_112 ?_
        refine j_top (hc.2.2.2.2.2 u (by omega)) ?_
        refine j_isub C dX2_takesGreaterShare_113 ?_
        refine j_istore (lv' := [(0, sr 8), (1, si (gS g e t u)), (2, si (gS g e t v)), (3, si ((g (4 + v)) - (g (4 + u)))), (4, si ((g (14 + v)) - (g (14 + u))))]) C dX2_takesGreaterShare_114 (by decide) rfl ?_
        refine j_aload_n C dX2_takesGreaterShare_116 rfl ?_
        refine j_get (v := sr 1) C 8 0 (by decide) (en_8 _ _) rfl (by decide) (fun w h => List.mem_cons_of_mem _ (List.mem_append_left _ (List.mem_append_right _ h))) (List.mem_of_getElem? (i := 1) rfl) dX2_takesGreaterShare_117 rfl ?_
        refine j_getN (v := sr 2) C 1 0 (by decide) (en_G (c := 1) (by decide) _) rfl (by decide) (fun w h => List.mem_cons_of_mem _ (List.mem_append_right _ h)) (List.mem_of_getElem? (i := 1) rfl) dX2_takesGreaterShare_120 rfl ?_
        refine j_aload_n C dX2_takesGreaterShare_123 rfl ?_
        refine j_get (v := si (V 8 4)) C 8 4 (by decide) (en_8 _ _) rfl (by decide) (fun w h => List.mem_cons_of_mem _ (List.mem_append_left _ (List.mem_append_right _ h))) (List.mem_of_getElem? (i := 4) rfl) dX2_takesGreaterShare_124 rfl ?_
        refine j_top hu ?_
        refine j_iald C (row_2 O) u rfl (by omega) dX2_takesGreaterShare_127 ?_
        refine j_top (hc.2.2.2.2.1 u (by omega)) ?_
        refine j_aload_n C dX2_takesGreaterShare_128 rfl ?_
        refine j_get (v := sr 1) C 8 0 (by decide) (en_8 _ _) rfl (by decide) (fun w h => List.mem_cons_of_mem _ (List.mem_append_left _ (List.mem_append_right _ h))) (List.mem_of_getElem? (i := 1) rfl) dX2_takesGreaterShare_129 rfl ?_
        refine j_getN (v := sr 2) C 1 0 (by decide) (en_G (c := 1) (by decide) _) rfl (by decide) (fun w h => List.mem_cons_of_mem _ (List.mem_append_right _ h)) (List.mem_of_getElem? (i := 1) rfl) dX2_takesGreaterShare_132 rfl ?_
        refine j_aload_n C dX2_takesGreaterShare_135 rfl ?_
        refine j_get (v := si (V 8 6)) C 8 6 (by decide) (en_8 _ _) rfl (by decide) (fun w h => List.mem_cons_of_mem _ (List.mem_append_left _ (List.mem_append_right _ h))) (List.mem_of_getElem? (i := 2) rfl) dX2_takesGreaterShare_136 rfl ?_
        refine j_top he ?_
        refine j_iald C (row_2 O) e rfl (by omega) dX2_takesGreaterShare_139 ?_
        refine j_top (hc.2.2.2.2.1 e (by omega)) ?_
        refine j_isub C dX2_takesGreaterShare_140 ?_
        refine j_iload C dX2_takesGreaterShare_141 rfl ?_
        refine j_imul C dX2_takesGreaterShare_143 ?_
        refine j_aload_n C dX2_takesGreaterShare_144 rfl ?_
        refine j_get (v := sr 1) C 8 0 (by decide) (en_8 _ _) rfl (by decide) (fun w h => List.mem_cons_of_mem _ (List.mem_append_left _ (List.mem_append_right _ h))) (List.mem_of_getElem? (i := 1) rfl) dX2_takesGreaterShare_145 rfl ?_
        refine j_getN (v := sr 3) C 1 1 (by decide) (en_G (c := 1) (by decide) _) rfl (by decide) (fun w h => List.mem_cons_of_mem _ (List.mem_append_right _ h)) (List.mem_of_getElem? (i := 4) rfl) dX2_takesGreaterShare_148 rfl ?_
        refine j_aload_n C dX2_takesGreaterShare_151 rfl ?_
        refine j_get (v := si (V 8 4)) C 8 4 (by decide) (en_8 _ _) rfl (by decide) (fun w h => List.mem_cons_of_mem _ (List.mem_append_left _ (List.mem_append_right _ h))) (List.mem_of_getElem? (i := 4) rfl) dX2_takesGreaterShare_152 rfl ?_
        refine j_top hu ?_
        refine j_iald C (row_3 O) u rfl (by omega) dX2_takesGreaterShare_155 ?_
        refine j_top (hc.2.2.2.2.2 u (by omega)) ?_
        refine j_aload_n C dX2_takesGreaterShare_156 rfl ?_
        refine j_get (v := sr 1) C 8 0 (by decide) (en_8 _ _) rfl (by decide) (fun w h => List.mem_cons_of_mem _ (List.mem_append_left _ (List.mem_append_right _ h))) (List.mem_of_getElem? (i := 1) rfl) dX2_takesGreaterShare_157 rfl ?_
        refine j_getN (v := sr 3) C 1 1 (by decide) (en_G (c := 1) (by decide) _) rfl (by decide) (fun w h => List.mem_cons_of_mem _ (List.mem_append_right _ h)) (List.mem_of_getElem? (i := 4) rfl) dX2_takesGreaterShare_160 rfl ?_
        refine j_aload_n C dX2_takesGreaterShare_163 rfl ?_
        refine j_get (v := si (V 8 6)) C 8 6 (by decide) (en_8 _ _) rfl (by decide) (fun w h => List.mem_cons_of_mem _ (List.mem_append_left _ (List.mem_append_right _ h))) (List.mem_of_getElem? (i := 2) rfl) dX2_takesGreaterShare_164 rfl ?_
        refine j_top he ?_
        refine j_iald C (row_3 O) e rfl (by omega) dX2_takesGreaterShare_167 ?_
        refine j_top (hc.2.2.2.2.2 e (by omega)) ?_
        refine j_isub C dX2_takesGreaterShare_168 ?_
        refine j_iload_n C dX2_takesGreaterShare_169 rfl ?_
        refine j_imul C dX2_takesGreaterShare_170 ?_
        refine j_isub C dX2_takesGreaterShare_171 ?_
        refine j_istore (lv' := [(0, sr 8), (1, si (gS g e t u)), (2, si (gS g e t v)), (3, si ((g (4 + v)) - (g (4 + u)))), (4, si ((g (14 + v)) - (g (14 + u)))), (5, si ((((g (4 + u)) - (g (4 + e))) * ((g (14 + v)) - (g (14 + u)))) - (((g (14 + u)) - (g (14 + e))) * ((g (4 + v)) - (g (4 + u))))))]) C dX2_takesGreaterShare_172 (by decide) rfl ?_
        refine j_iload_n C dX2_takesGreaterShare_174 rfl ?_
        refine j_iload_n C dX2_takesGreaterShare_175 rfl ?_
        refine j_isub C dX2_takesGreaterShare_176 ?_
        refine j_istore (lv' := [(0, sr 8), (1, si (gS g e t u)), (2, si (gS g e t v)), (3, si ((g (4 + v)) - (g (4 + u)))), (4, si ((g (14 + v)) - (g (14 + u)))), (5, si ((((g (4 + u)) - (g (4 + e))) * ((g (14 + v)) - (g (14 + u)))) - (((g (14 + u)) - (g (14 + e))) * ((g (4 + v)) - (g (4 + u)))))), (6, si ((gS g e t v) - (gS g e t u)))]) C dX2_takesGreaterShare_177 (by decide) rfl ?_
        refine j_iload C dX2_takesGreaterShare_179 rfl ?_
        refine j_if_ge (tgt := 194) C dX2_takesGreaterShare_181 (by decide) (by have := ok.s (a := e) (b := t) (c := v) (by omega) (by omega) (by omega); have := ok.s (a := e) (b := t) (c := u) (by omega) (by omega) (by omega); omega) (fun q_11 => ?_) (fun q_11 => ?_)
        · refine j_iload C dX2_takesGreaterShare_194 rfl ?_
          refine j_iload C dX2_takesGreaterShare_196 rfl ?_
          refine j_icmp_ge (tgt := 218) C dX2_takesGreaterShare_198 (by decide) (by have z1 := dx_rg ok (show u < 10 by omega) (show e < 10 by omega) (show t < 10 by omega) (show v < 10 by omega); omega) (by have := ok.s (a := e) (b := t) (c := v) (by omega) (by omega) (by omega); have := ok.s (a := e) (b := t) (c := u) (by omega) (by omega) (by omega); omega) (fun q_12 => ?_) (fun q_12 => ?_)
          · refine j_iconst C dX2_takesGreaterShare_218 ?_
            refine j_zret C hQ (by decide) dX2_takesGreaterShare_219 ?_
            exact ⟨rfl, rfl⟩
          · refine j_iload C dX2_takesGreaterShare_201 rfl ?_
            refine j_aload_n C dX2_takesGreaterShare_203 rfl ?_
            refine j_get (v := si (V 8 9)) C 8 9 (by decide) (en_8 _ _) rfl (by decide) (fun w h => List.mem_cons_of_mem _ (List.mem_append_left _ (List.mem_append_right _ h))) (List.mem_of_getElem? (i := 6) rfl) dX2_takesGreaterShare_204 rfl ?_
            refine j_top hs2 ?_
            refine j_imul C dX2_takesGreaterShare_207 ?_
            refine j_aload_n C dX2_takesGreaterShare_208 rfl ?_
            refine j_get (v := si (V 8 8)) C 8 8 (by decide) (en_8 _ _) rfl (by decide) (fun w h => List.mem_cons_of_mem _ (List.mem_append_left _ (List.mem_append_right _ h))) (List.mem_of_getElem? (i := 7) rfl) dX2_takesGreaterShare_209 rfl ?_
            refine j_top hs1 ?_
            refine j_iload C dX2_takesGreaterShare_212 rfl ?_
            refine j_imul C dX2_takesGreaterShare_214 ?_
            refine j_icmp_gt (tgt := 220) C dX2_takesGreaterShare_215 (by decide) (by have z1 := dx_rg ok (show u < 10 by omega) (show e < 10 by omega) (show t < 10 by omega) (show v < 10 by omega); omega) (by have := ok.s (a := e) (b := t) (c := v) (by omega) (by omega) (by omega); have := ok.s (a := e) (b := t) (c := u) (by omega) (by omega) (by omega); omega) (fun q_13 => ?_) (fun q_13 => ?_)
            · exact (cf_no ok hen htn hae hat het hut hR hT hF (by omega) (dn := gS g e t v - gS g e t u) rfl (by unfold gS; grind) (by omega)).elim
            · refine j_iconst C dX2_takesGreaterShare_218 ?_
              refine j_zret C hQ (by decide) dX2_takesGreaterShare_219 ?_
              exact ⟨rfl, rfl⟩
        · refine j_iload C dX2_takesGreaterShare_184 rfl ?_
          refine j_ineg C dX2_takesGreaterShare_186 ?_
          refine j_istore (lv' := [(0, sr 8), (1, si (gS g e t u)), (2, si (gS g e t v)), (3, si ((g (4 + v)) - (g (4 + u)))), (4, si ((g (14 + v)) - (g (14 + u)))), (5, si (-((((g (4 + u)) - (g (4 + e))) * ((g (14 + v)) - (g (14 + u)))) - (((g (14 + u)) - (g (14 + e))) * ((g (4 + v)) - (g (4 + u))))))), (6, si ((gS g e t v) - (gS g e t u)))]) C dX2_takesGreaterShare_187 (by decide) rfl ?_
          refine j_iload C dX2_takesGreaterShare_189 rfl ?_
          refine j_ineg C dX2_takesGreaterShare_191 ?_
          refine j_istore (lv' := [(0, sr 8), (1, si (gS g e t u)), (2, si (gS g e t v)), (3, si ((g (4 + v)) - (g (4 + u)))), (4, si ((g (14 + v)) - (g (14 + u)))), (5, si (-((((g (4 + u)) - (g (4 + e))) * ((g (14 + v)) - (g (14 + u)))) - (((g (14 + u)) - (g (14 + e))) * ((g (4 + v)) - (g (4 + u))))))), (6, si (-((gS g e t v) - (gS g e t u))))]) C dX2_takesGreaterShare_192 (by decide) rfl ?_
          refine j_iload C dX2_takesGreaterShare_194 rfl ?_
          refine j_iload C dX2_takesGreaterShare_196 rfl ?_
          refine j_icmp_ge (tgt := 218) C dX2_takesGreaterShare_198 (by decide) (by have z1 := dx_rg ok (show u < 10 by omega) (show e < 10 by omega) (show t < 10 by omega) (show v < 10 by omega); omega) (by have := ok.s (a := e) (b := t) (c := v) (by omega) (by omega) (by omega); have := ok.s (a := e) (b := t) (c := u) (by omega) (by omega) (by omega); omega) (fun q_14 => ?_) (fun q_14 => ?_)
          · refine j_iconst C dX2_takesGreaterShare_218 ?_
            refine j_zret C hQ (by decide) dX2_takesGreaterShare_219 ?_
            exact ⟨rfl, rfl⟩
          · refine j_iload C dX2_takesGreaterShare_201 rfl ?_
            refine j_aload_n C dX2_takesGreaterShare_203 rfl ?_
            refine j_get (v := si (V 8 9)) C 8 9 (by decide) (en_8 _ _) rfl (by decide) (fun w h => List.mem_cons_of_mem _ (List.mem_append_left _ (List.mem_append_right _ h))) (List.mem_of_getElem? (i := 6) rfl) dX2_takesGreaterShare_204 rfl ?_
            refine j_top hs2 ?_
            refine j_imul C dX2_takesGreaterShare_207 ?_
            refine j_aload_n C dX2_takesGreaterShare_208 rfl ?_
            refine j_get (v := si (V 8 8)) C 8 8 (by decide) (en_8 _ _) rfl (by decide) (fun w h => List.mem_cons_of_mem _ (List.mem_append_left _ (List.mem_append_right _ h))) (List.mem_of_getElem? (i := 7) rfl) dX2_takesGreaterShare_209 rfl ?_
            refine j_top hs1 ?_
            refine j_iload C dX2_takesGreaterShare_212 rfl ?_
            refine j_imul C dX2_takesGreaterShare_214 ?_
            refine j_icmp_gt (tgt := 220) C dX2_takesGreaterShare_215 (by decide) (by have z1 := dx_rg ok (show u < 10 by omega) (show e < 10 by omega) (show t < 10 by omega) (show v < 10 by omega); omega) (by have := ok.s (a := e) (b := t) (c := v) (by omega) (by omega) (by omega); have := ok.s (a := e) (b := t) (c := u) (by omega) (by omega) (by omega); omega) (fun q_15 => ?_) (fun q_15 => ?_)
            · exact (cf_no ok hen htn hae hat het hut hR hT hF (by omega) (dn := gS g e t v - gS g e t u) rfl (by unfold gS; grind) (by omega)).elim
            · refine j_iconst C dX2_takesGreaterShare_218 ?_
              refine j_zret C hQ (by decide) dX2_takesGreaterShare_219 ?_
              exact ⟨rfl, rfl⟩
      · omega
  · refine j_iconst C dX2_takesGreaterShare_44 ?_
    refine j_goto (tgt := 49) C dX2_takesGreaterShare_45 (by decide) ?_
    refine j_iload_n C dX2_takesGreaterShare_49 rfl ?_
    refine j_if_lt (tgt := 57) C dX2_takesGreaterShare_50 (by decide) (by have := ok.s (a := e) (b := t) (c := v) (by omega) (by omega) (by omega); omega) (fun q_16 => ?_) (fun q_16 => ?_)
    · refine j_iconst C dX2_takesGreaterShare_57 ?_
      refine j_icmp_ne (tgt := 63) C dX2_takesGreaterShare_58 (by decide) (by decide) (by decide) (fun q_17 => ?_) (fun q_17 => ?_)
      · refine j_aload_n C dX2_takesGreaterShare_63 rfl ?_
        refine j_get (v := sr 1) C 8 0 (by decide) (en_8 _ _) rfl (by decide) (fun w h => List.mem_cons_of_mem _ (List.mem_append_left _ (List.mem_append_right _ h))) (List.mem_of_getElem? (i := 1) rfl) dX2_takesGreaterShare_64 rfl ?_
        refine j_getN (v := sr 2) C 1 0 (by decide) (en_G (c := 1) (by decide) _) rfl (by decide) (fun w h => List.mem_cons_of_mem _ (List.mem_append_right _ h)) (List.mem_of_getElem? (i := 1) rfl) dX2_takesGreaterShare_67 rfl ?_
        refine j_aload_n C dX2_takesGreaterShare_70 rfl ?_
        refine j_get (v := si (V 8 7)) C 8 7 (by decide) (en_8 _ _) rfl (by decide) (fun w h => List.mem_cons_of_mem _ (List.mem_append_left _ (List.mem_append_right _ h))) (List.mem_of_getElem? (i := 5) rfl) dX2_takesGreaterShare_71 rfl ?_
        refine j_top hx ?_
        refine j_iald C (row_2 O) v rfl (by omega) dX2_takesGreaterShare_74 ?_
        refine j_top (hc.2.2.2.2.1 v (by omega)) ?_
        refine j_aload_n C dX2_takesGreaterShare_75 rfl ?_
        refine j_get (v := sr 1) C 8 0 (by decide) (en_8 _ _) rfl (by decide) (fun w h => List.mem_cons_of_mem _ (List.mem_append_left _ (List.mem_append_right _ h))) (List.mem_of_getElem? (i := 1) rfl) dX2_takesGreaterShare_76 rfl ?_
        refine j_getN (v := sr 2) C 1 0 (by decide) (en_G (c := 1) (by decide) _) rfl (by decide) (fun w h => List.mem_cons_of_mem _ (List.mem_append_right _ h)) (List.mem_of_getElem? (i := 1) rfl) dX2_takesGreaterShare_79 rfl ?_
        refine j_aload_n C dX2_takesGreaterShare_82 rfl ?_
        refine j_get (v := si (V 8 4)) C 8 4 (by decide) (en_8 _ _) rfl (by decide) (fun w h => List.mem_cons_of_mem _ (List.mem_append_left _ (List.mem_append_right _ h))) (List.mem_of_getElem? (i := 4) rfl) dX2_takesGreaterShare_83 rfl ?_
        refine j_top hu ?_
        refine j_iald C (row_2 O) u rfl (by omega) dX2_takesGreaterShare_86 ?_
        refine j_top (hc.2.2.2.2.1 u (by omega)) ?_
        refine j_isub C dX2_takesGreaterShare_87 ?_
        refine j_istore_n (lv' := [(0, sr 8), (1, si (gS g e t u)), (2, si (gS g e t v)), (3, si ((g (4 + v)) - (g (4 + u))))]) C dX2_takesGreaterShare_88 (by decide) rfl ?_
        refine j_aload_n C dX2_takesGreaterShare_89 rfl ?_
        refine j_get (v := sr 1) C 8 0 (by decide) (en_8 _ _) rfl (by decide) (fun w h => List.mem_cons_of_mem _ (List.mem_append_left _ (List.mem_append_right _ h))) (List.mem_of_getElem? (i := 1) rfl) dX2_takesGreaterShare_90 rfl ?_
        refine j_getN (v := sr 3) C 1 1 (by decide) (en_G (c := 1) (by decide) _) rfl (by decide) (fun w h => List.mem_cons_of_mem _ (List.mem_append_right _ h)) (List.mem_of_getElem? (i := 4) rfl) dX2_takesGreaterShare_93 rfl ?_
        refine j_aload_n C dX2_takesGreaterShare_96 rfl ?_
        refine j_get (v := si (V 8 7)) C 8 7 (by decide) (en_8 _ _) rfl (by decide) (fun w h => List.mem_cons_of_mem _ (List.mem_append_left _ (List.mem_append_right _ h))) (List.mem_of_getElem? (i := 5) rfl) dX2_takesGreaterShare_97 rfl ?_
        refine j_top hx ?_
        refine j_iald C (row_3 O) v rfl (by omega) dX2_takesGreaterShare_100 ?_
        refine j_top (hc.2.2.2.2.2 v (by omega)) ?_
        refine j_aload_n C dX2_takesGreaterShare_101 rfl ?_
        refine j_get (v := sr 1) C 8 0 (by decide) (en_8 _ _) rfl (by decide) (fun w h => List.mem_cons_of_mem _ (List.mem_append_left _ (List.mem_append_right _ h))) (List.mem_of_getElem? (i := 1) rfl) dX2_takesGreaterShare_102 rfl ?_
        refine j_getN (v := sr 3) C 1 1 (by decide) (en_G (c := 1) (by decide) _) rfl (by decide) (fun w h => List.mem_cons_of_mem _ (List.mem_append_right _ h)) (List.mem_of_getElem? (i := 4) rfl) dX2_takesGreaterShare_105 rfl ?_
        refine j_aload_n C dX2_takesGreaterShare_108 rfl ?_
        refine j_get (v := si (V 8 4)) C 8 4 (by decide) (en_8 _ _) rfl (by decide) (fun w h => List.mem_cons_of_mem _ (List.mem_append_left _ (List.mem_append_right _ h))) (List.mem_of_getElem? (i := 4) rfl) dX2_takesGreaterShare_109 rfl ?_
        refine j_top hu ?_
        refine j_iald C (row_3 O) u rfl (by omega) dX2_takesGreaterShare_112 ?_
        refine j_top (hc.2.2.2.2.2 u (by omega)) ?_
        refine j_isub C dX2_takesGreaterShare_113 ?_
        refine j_istore (lv' := [(0, sr 8), (1, si (gS g e t u)), (2, si (gS g e t v)), (3, si ((g (4 + v)) - (g (4 + u)))), (4, si ((g (14 + v)) - (g (14 + u))))]) C dX2_takesGreaterShare_114 (by decide) rfl ?_
        refine j_aload_n C dX2_takesGreaterShare_116 rfl ?_
        refine j_get (v := sr 1) C 8 0 (by decide) (en_8 _ _) rfl (by decide) (fun w h => List.mem_cons_of_mem _ (List.mem_append_left _ (List.mem_append_right _ h))) (List.mem_of_getElem? (i := 1) rfl) dX2_takesGreaterShare_117 rfl ?_
        refine j_getN (v := sr 2) C 1 0 (by decide) (en_G (c := 1) (by decide) _) rfl (by decide) (fun w h => List.mem_cons_of_mem _ (List.mem_append_right _ h)) (List.mem_of_getElem? (i := 1) rfl) dX2_takesGreaterShare_120 rfl ?_
        refine j_aload_n C dX2_takesGreaterShare_123 rfl ?_
        refine j_get (v := si (V 8 4)) C 8 4 (by decide) (en_8 _ _) rfl (by decide) (fun w h => List.mem_cons_of_mem _ (List.mem_append_left _ (List.mem_append_right _ h))) (List.mem_of_getElem? (i := 4) rfl) dX2_takesGreaterShare_124 rfl ?_
        refine j_top hu ?_
        refine j_iald C (row_2 O) u rfl (by omega) dX2_takesGreaterShare_127 ?_
        refine j_top (hc.2.2.2.2.1 u (by omega)) ?_
        refine j_aload_n C dX2_takesGreaterShare_128 rfl ?_
        refine j_get (v := sr 1) C 8 0 (by decide) (en_8 _ _) rfl (by decide) (fun w h => List.mem_cons_of_mem _ (List.mem_append_left _ (List.mem_append_right _ h))) (List.mem_of_getElem? (i := 1) rfl) dX2_takesGreaterShare_129 rfl ?_
        refine j_getN (v := sr 2) C 1 0 (by decide) (en_G (c := 1) (by decide) _) rfl (by decide) (fun w h => List.mem_cons_of_mem _ (List.mem_append_right _ h)) (List.mem_of_getElem? (i := 1) rfl) dX2_takesGreaterShare_132 rfl ?_
        refine j_aload_n C dX2_takesGreaterShare_135 rfl ?_
        refine j_get (v := si (V 8 6)) C 8 6 (by decide) (en_8 _ _) rfl (by decide) (fun w h => List.mem_cons_of_mem _ (List.mem_append_left _ (List.mem_append_right _ h))) (List.mem_of_getElem? (i := 2) rfl) dX2_takesGreaterShare_136 rfl ?_
        refine j_top he ?_
        refine j_iald C (row_2 O) e rfl (by omega) dX2_takesGreaterShare_139 ?_
        refine j_top (hc.2.2.2.2.1 e (by omega)) ?_
        refine j_isub C dX2_takesGreaterShare_140 ?_
        refine j_iload C dX2_takesGreaterShare_141 rfl ?_
        refine j_imul C dX2_takesGreaterShare_143 ?_
        refine j_aload_n C dX2_takesGreaterShare_144 rfl ?_
        refine j_get (v := sr 1) C 8 0 (by decide) (en_8 _ _) rfl (by decide) (fun w h => List.mem_cons_of_mem _ (List.mem_append_left _ (List.mem_append_right _ h))) (List.mem_of_getElem? (i := 1) rfl) dX2_takesGreaterShare_145 rfl ?_
        refine j_getN (v := sr 3) C 1 1 (by decide) (en_G (c := 1) (by decide) _) rfl (by decide) (fun w h => List.mem_cons_of_mem _ (List.mem_append_right _ h)) (List.mem_of_getElem? (i := 4) rfl) dX2_takesGreaterShare_148 rfl ?_
        refine j_aload_n C dX2_takesGreaterShare_151 rfl ?_
        refine j_get (v := si (V 8 4)) C 8 4 (by decide) (en_8 _ _) rfl (by decide) (fun w h => List.mem_cons_of_mem _ (List.mem_append_left _ (List.mem_append_right _ h))) (List.mem_of_getElem? (i := 4) rfl) dX2_takesGreaterShare_152 rfl ?_
        refine j_top hu ?_
        refine j_iald C (row_3 O) u rfl (by omega) dX2_takesGreaterShare_155 ?_
        refine j_top (hc.2.2.2.2.2 u (by omega)) ?_
        refine j_aload_n C dX2_takesGreaterShare_156 rfl ?_
        refine j_get (v := sr 1) C 8 0 (by decide) (en_8 _ _) rfl (by decide) (fun w h => List.mem_cons_of_mem _ (List.mem_append_left _ (List.mem_append_right _ h))) (List.mem_of_getElem? (i := 1) rfl) dX2_takesGreaterShare_157 rfl ?_
        refine j_getN (v := sr 3) C 1 1 (by decide) (en_G (c := 1) (by decide) _) rfl (by decide) (fun w h => List.mem_cons_of_mem _ (List.mem_append_right _ h)) (List.mem_of_getElem? (i := 4) rfl) dX2_takesGreaterShare_160 rfl ?_
        refine j_aload_n C dX2_takesGreaterShare_163 rfl ?_
        refine j_get (v := si (V 8 6)) C 8 6 (by decide) (en_8 _ _) rfl (by decide) (fun w h => List.mem_cons_of_mem _ (List.mem_append_left _ (List.mem_append_right _ h))) (List.mem_of_getElem? (i := 2) rfl) dX2_takesGreaterShare_164 rfl ?_
        refine j_top he ?_
        refine j_iald C (row_3 O) e rfl (by omega) dX2_takesGreaterShare_167 ?_
        refine j_top (hc.2.2.2.2.2 e (by omega)) ?_
        refine j_isub C dX2_takesGreaterShare_168 ?_
        refine j_iload_n C dX2_takesGreaterShare_169 rfl ?_
        refine j_imul C dX2_takesGreaterShare_170 ?_
        refine j_isub C dX2_takesGreaterShare_171 ?_
        refine j_istore (lv' := [(0, sr 8), (1, si (gS g e t u)), (2, si (gS g e t v)), (3, si ((g (4 + v)) - (g (4 + u)))), (4, si ((g (14 + v)) - (g (14 + u)))), (5, si ((((g (4 + u)) - (g (4 + e))) * ((g (14 + v)) - (g (14 + u)))) - (((g (14 + u)) - (g (14 + e))) * ((g (4 + v)) - (g (4 + u))))))]) C dX2_takesGreaterShare_172 (by decide) rfl ?_
        refine j_iload_n C dX2_takesGreaterShare_174 rfl ?_
        refine j_iload_n C dX2_takesGreaterShare_175 rfl ?_
        refine j_isub C dX2_takesGreaterShare_176 ?_
        refine j_istore (lv' := [(0, sr 8), (1, si (gS g e t u)), (2, si (gS g e t v)), (3, si ((g (4 + v)) - (g (4 + u)))), (4, si ((g (14 + v)) - (g (14 + u)))), (5, si ((((g (4 + u)) - (g (4 + e))) * ((g (14 + v)) - (g (14 + u)))) - (((g (14 + u)) - (g (14 + e))) * ((g (4 + v)) - (g (4 + u)))))), (6, si ((gS g e t v) - (gS g e t u)))]) C dX2_takesGreaterShare_177 (by decide) rfl ?_
        refine j_iload C dX2_takesGreaterShare_179 rfl ?_
        refine j_if_ge (tgt := 194) C dX2_takesGreaterShare_181 (by decide) (by have := ok.s (a := e) (b := t) (c := v) (by omega) (by omega) (by omega); have := ok.s (a := e) (b := t) (c := u) (by omega) (by omega) (by omega); omega) (fun q_18 => ?_) (fun q_18 => ?_)
        · refine j_iload C dX2_takesGreaterShare_194 rfl ?_
          refine j_iload C dX2_takesGreaterShare_196 rfl ?_
          refine j_icmp_ge (tgt := 218) C dX2_takesGreaterShare_198 (by decide) (by have z1 := dx_rg ok (show u < 10 by omega) (show e < 10 by omega) (show t < 10 by omega) (show v < 10 by omega); omega) (by have := ok.s (a := e) (b := t) (c := v) (by omega) (by omega) (by omega); have := ok.s (a := e) (b := t) (c := u) (by omega) (by omega) (by omega); omega) (fun q_19 => ?_) (fun q_19 => ?_)
          · refine j_iconst C dX2_takesGreaterShare_218 ?_
            refine j_zret C hQ (by decide) dX2_takesGreaterShare_219 ?_
            exact ⟨rfl, rfl⟩
          · refine j_iload C dX2_takesGreaterShare_201 rfl ?_
            refine j_aload_n C dX2_takesGreaterShare_203 rfl ?_
            refine j_get (v := si (V 8 9)) C 8 9 (by decide) (en_8 _ _) rfl (by decide) (fun w h => List.mem_cons_of_mem _ (List.mem_append_left _ (List.mem_append_right _ h))) (List.mem_of_getElem? (i := 6) rfl) dX2_takesGreaterShare_204 rfl ?_
            refine j_top hs2 ?_
            refine j_imul C dX2_takesGreaterShare_207 ?_
            refine j_aload_n C dX2_takesGreaterShare_208 rfl ?_
            refine j_get (v := si (V 8 8)) C 8 8 (by decide) (en_8 _ _) rfl (by decide) (fun w h => List.mem_cons_of_mem _ (List.mem_append_left _ (List.mem_append_right _ h))) (List.mem_of_getElem? (i := 7) rfl) dX2_takesGreaterShare_209 rfl ?_
            refine j_top hs1 ?_
            refine j_iload C dX2_takesGreaterShare_212 rfl ?_
            refine j_imul C dX2_takesGreaterShare_214 ?_
            refine j_icmp_gt (tgt := 220) C dX2_takesGreaterShare_215 (by decide) (by have z1 := dx_rg ok (show u < 10 by omega) (show e < 10 by omega) (show t < 10 by omega) (show v < 10 by omega); omega) (by have := ok.s (a := e) (b := t) (c := v) (by omega) (by omega) (by omega); have := ok.s (a := e) (b := t) (c := u) (by omega) (by omega) (by omega); omega) (fun q_20 => ?_) (fun q_20 => ?_)
            · exact (cf_no ok hen htn hae hat het hut hR hT hF (by omega) (dn := gS g e t v - gS g e t u) rfl (by unfold gS; grind) (by omega)).elim
            · refine j_iconst C dX2_takesGreaterShare_218 ?_
              refine j_zret C hQ (by decide) dX2_takesGreaterShare_219 ?_
              exact ⟨rfl, rfl⟩
        · refine j_iload C dX2_takesGreaterShare_184 rfl ?_
          refine j_ineg C dX2_takesGreaterShare_186 ?_
          refine j_istore (lv' := [(0, sr 8), (1, si (gS g e t u)), (2, si (gS g e t v)), (3, si ((g (4 + v)) - (g (4 + u)))), (4, si ((g (14 + v)) - (g (14 + u)))), (5, si (-((((g (4 + u)) - (g (4 + e))) * ((g (14 + v)) - (g (14 + u)))) - (((g (14 + u)) - (g (14 + e))) * ((g (4 + v)) - (g (4 + u))))))), (6, si ((gS g e t v) - (gS g e t u)))]) C dX2_takesGreaterShare_187 (by decide) rfl ?_
          refine j_iload C dX2_takesGreaterShare_189 rfl ?_
          refine j_ineg C dX2_takesGreaterShare_191 ?_
          refine j_istore (lv' := [(0, sr 8), (1, si (gS g e t u)), (2, si (gS g e t v)), (3, si ((g (4 + v)) - (g (4 + u)))), (4, si ((g (14 + v)) - (g (14 + u)))), (5, si (-((((g (4 + u)) - (g (4 + e))) * ((g (14 + v)) - (g (14 + u)))) - (((g (14 + u)) - (g (14 + e))) * ((g (4 + v)) - (g (4 + u))))))), (6, si (-((gS g e t v) - (gS g e t u))))]) C dX2_takesGreaterShare_192 (by decide) rfl ?_
          refine j_iload C dX2_takesGreaterShare_194 rfl ?_
          refine j_iload C dX2_takesGreaterShare_196 rfl ?_
          refine j_icmp_ge (tgt := 218) C dX2_takesGreaterShare_198 (by decide) (by have z1 := dx_rg ok (show u < 10 by omega) (show e < 10 by omega) (show t < 10 by omega) (show v < 10 by omega); omega) (by have := ok.s (a := e) (b := t) (c := v) (by omega) (by omega) (by omega); have := ok.s (a := e) (b := t) (c := u) (by omega) (by omega) (by omega); omega) (fun q_21 => ?_) (fun q_21 => ?_)
          · refine j_iconst C dX2_takesGreaterShare_218 ?_
            refine j_zret C hQ (by decide) dX2_takesGreaterShare_219 ?_
            exact ⟨rfl, rfl⟩
          · refine j_iload C dX2_takesGreaterShare_201 rfl ?_
            refine j_aload_n C dX2_takesGreaterShare_203 rfl ?_
            refine j_get (v := si (V 8 9)) C 8 9 (by decide) (en_8 _ _) rfl (by decide) (fun w h => List.mem_cons_of_mem _ (List.mem_append_left _ (List.mem_append_right _ h))) (List.mem_of_getElem? (i := 6) rfl) dX2_takesGreaterShare_204 rfl ?_
            refine j_top hs2 ?_
            refine j_imul C dX2_takesGreaterShare_207 ?_
            refine j_aload_n C dX2_takesGreaterShare_208 rfl ?_
            refine j_get (v := si (V 8 8)) C 8 8 (by decide) (en_8 _ _) rfl (by decide) (fun w h => List.mem_cons_of_mem _ (List.mem_append_left _ (List.mem_append_right _ h))) (List.mem_of_getElem? (i := 7) rfl) dX2_takesGreaterShare_209 rfl ?_
            refine j_top hs1 ?_
            refine j_iload C dX2_takesGreaterShare_212 rfl ?_
            refine j_imul C dX2_takesGreaterShare_214 ?_
            refine j_icmp_gt (tgt := 220) C dX2_takesGreaterShare_215 (by decide) (by have z1 := dx_rg ok (show u < 10 by omega) (show e < 10 by omega) (show t < 10 by omega) (show v < 10 by omega); omega) (by have := ok.s (a := e) (b := t) (c := v) (by omega) (by omega) (by omega); have := ok.s (a := e) (b := t) (c := u) (by omega) (by omega) (by omega); omega) (fun q_22 => ?_) (fun q_22 => ?_)
            · exact (cf_no ok hen htn hae hat het hut hR hT hF (by omega) (dn := gS g e t v - gS g e t u) rfl (by unfold gS; grind) (by omega)).elim
            · refine j_iconst C dX2_takesGreaterShare_218 ?_
              refine j_zret C hQ (by decide) dX2_takesGreaterShare_219 ?_
              exact ⟨rfl, rfl⟩
      · omega
    · refine j_iconst C dX2_takesGreaterShare_53 ?_
      refine j_goto (tgt := 58) C dX2_takesGreaterShare_54 (by decide) ?_
      refine j_icmp_ne (tgt := 63) C dX2_takesGreaterShare_58 (by decide) (by decide) (by decide) (fun q_23 => ?_) (fun q_23 => ?_)
      · omega
      · refine j_iconst C dX2_takesGreaterShare_61 ?_
        refine j_zret C hQ (by decide) dX2_takesGreaterShare_62 ?_
        exact ⟨rfl, rfl⟩
def rX2_goGreedy : Room := { frames := 3, cells := 0, slots := 0, locals := 75 }
theorem sgX2_goGreedy : sg yX2_goGreedy wsX2_goGreedy cX2_goGreedy 2 none rX2_goGreedy 0 := ⟨⟨_, rfl⟩, rfl, rfl, by decide, by decide, by decide +kernel⟩
set_option maxHeartbeats 4000000 in
set_option maxRecDepth 100000 in
theorem kX2_goGreedy {O : OmT} {l : Launch} {V : Mem} {g : Nat → Int} (hn : net V g) (ok : okg g) (t u st so as : Nat) (hu : V 8 4 = (u : Int)) (hm : V 8 5 = (t : Int)) (hst : V 8 10 = (st : Int)) (h2 : st < 200) (hso : V 8 14 = (so : Int)) (hso2 : so < 2147483648) (has : V 8 11 = (as : Int)) (hun : u < gN g) (htn : t < gN g) (hut : u ≠ t) : MV O l yX2_goGreedy wsX2_goGreedy rX2_goGreedy [sr 8] V (fun V2 => V2 = if gR g u t (gN g) = -1 then cTurn (cAs V u as) u 0 (gU g u t) else cGo V st so (gR g u t (gN g)).toNat) := by
  refine mv_of (cc := cX2_goGreedy) (nL := 2) (rt := none) (by decide) rfl rfl (Nat.le_of_ble_eq_true rfl) (fun F hF C hQ => ?_)
  subst hF
  have n1 := ok.n
  have o1 := gR_rg g u t (gN g)
  change J O F rX2_goGreedy 2 V 0 [(0, sr 8)] []
  refine j_aload_n C dX2_goGreedy_0 rfl ?_
  refine j_get (v := sr 4) C 8 1 (by decide) (en_8 _ _) rfl (by decide) (fun w h => List.mem_cons_of_mem _ (List.mem_append_left _ (List.mem_append_left _ (List.mem_append_right _ h)))) (List.mem_of_getElem? (i := 1) rfl) dX2_goGreedy_1 rfl ?_
  refine j_aload_n C dX2_goGreedy_4 rfl ?_
  refine j_get (v := si (V 8 4)) C 8 4 (by decide) (en_8 _ _) rfl (by decide) (fun w h => List.mem_cons_of_mem _ (List.mem_append_left _ (List.mem_append_left _ (List.mem_append_right _ h)))) (List.mem_of_getElem? (i := 2) rfl) dX2_goGreedy_5 rfl ?_
  refine j_top hu ?_
  refine j_aload_n C dX2_goGreedy_8 rfl ?_
  refine j_get (v := si (V 8 5)) C 8 5 (by decide) (en_8 _ _) rfl (by decide) (fun w h => List.mem_cons_of_mem _ (List.mem_append_left _ (List.mem_append_left _ (List.mem_append_right _ h)))) (List.mem_of_getElem? (i := 3) rfl) dX2_goGreedy_9 rfl ?_
  refine j_top hm ?_
  refine j_doI (st := []) (j_runVN C (kX3_nearerThan hn ok u t rfl rfl (by omega) (by omega)) ggX2_goGreedy_X3_nearerThan sgX3_nearerThan rfl (List.mem_of_getElem? (i := 23) rfl) (List.mem_of_getElem? (i := 10) rfl) (List.mem_of_getElem? (i := 9) rfl) (List.mem_of_getElem? (i := 11) rfl) ⟨by decide, by decide⟩ (by decide) (en_4 _ _) rfl rfl rfl (Nat.le_of_ble_eq_true rfl) dX2_goGreedy_12) (fun z_1 V_2 h_3 => ?_)
  obtain ⟨rfl, rfl⟩ := h_3
  refine j_istore_n (lv' := [(0, sr 8), (1, si (gR g u t (gN g)))]) C dX2_goGreedy_15 (by decide) rfl ?_
  refine j_iload_n C dX2_goGreedy_16 rfl ?_
  refine j_iconst C dX2_goGreedy_17 ?_
  refine j_icmp_eq (tgt := 27) C dX2_goGreedy_18 (by decide) (by have := gR_rg g u t (gN g); omega) (by decide) (fun q_4 => ?_) (fun q_4 => ?_)
  · refine j_aload_n C dX2_goGreedy_27 rfl ?_
    refine j_dup C dX2_goGreedy_28 rfl ?_
    refine j_get (v := si (V 8 11)) C 8 11 (by decide) (en_8 _ _) rfl (by decide) (fun w h => List.mem_cons_of_mem _ (List.mem_append_left _ (List.mem_append_left _ (List.mem_append_right _ h)))) (List.mem_of_getElem? (i := 4) rfl) dX2_goGreedy_29 rfl ?_
    refine j_top has ?_
    refine j_iconst C dX2_goGreedy_32 ?_
    refine j_iadd C dX2_goGreedy_33 ?_
    refine j_put C 8 11 (by decide) (en_8 _ _) rfl pcl2 (by decide) (fun w h => List.mem_cons_of_mem _ (List.mem_append_left _ (List.mem_append_left _ (List.mem_append_right _ h)))) (List.mem_of_getElem? (i := 4) rfl) rfl rfl (fit_i _) (Nat.le_of_ble_eq_true rfl) dX2_goGreedy_34 ?_
    refine j_aload_n C dX2_goGreedy_37 rfl ?_
    refine j_iconst C dX2_goGreedy_38 ?_
    refine j_put C 8 15 (by decide) (en_8 _ _) rfl pcl2 (by decide) (fun w h => List.mem_cons_of_mem _ (List.mem_append_left _ (List.mem_append_left _ (List.mem_append_right _ h)))) (List.mem_of_getElem? (i := 5) rfl) rfl rfl (fit_z (by decide)) (Nat.le_of_ble_eq_true rfl) dX2_goGreedy_39 ?_
    refine j_aload_n C dX2_goGreedy_42 rfl ?_
    refine j_aload_n C dX2_goGreedy_43 rfl ?_
    refine j_get (v := si ((ms (ms V 8 11 ((as : Int) + 1)) 8 15 1) 8 4)) C 8 4 (by decide) (en_8 _ _) rfl (by decide) (fun w h => List.mem_cons_of_mem _ (List.mem_append_left _ (List.mem_append_left _ (List.mem_append_right _ h)))) (List.mem_of_getElem? (i := 2) rfl) dX2_goGreedy_44 rfl ?_
    refine j_top (show (ms (ms V 8 11 ((as : Int) + 1)) 8 15 1) 8 4 = _ from hu) ?_
    refine j_put C 8 6 (by decide) (en_8 _ _) rfl pcl2 (by decide) (fun w h => List.mem_cons_of_mem _ (List.mem_append_left _ (List.mem_append_left _ (List.mem_append_right _ h)))) (List.mem_of_getElem? (i := 6) rfl) rfl rfl (fit_i _) (Nat.le_of_ble_eq_true rfl) dX2_goGreedy_47 ?_
    refine j_aload_n C dX2_goGreedy_50 rfl ?_
    refine j_iconst C dX2_goGreedy_51 ?_
    refine j_put C 8 8 (by decide) (en_8 _ _) rfl pcl2 (by decide) (fun w h => List.mem_cons_of_mem _ (List.mem_append_left _ (List.mem_append_left _ (List.mem_append_right _ h)))) (List.mem_of_getElem? (i := 7) rfl) rfl rfl (fit_i _) (Nat.le_of_ble_eq_true rfl) dX2_goGreedy_52 ?_
    refine j_aload_n C dX2_goGreedy_55 rfl ?_
    refine j_iconst C dX2_goGreedy_56 ?_
    refine j_put C 8 9 (by decide) (en_8 _ _) rfl pcl2 (by decide) (fun w h => List.mem_cons_of_mem _ (List.mem_append_left _ (List.mem_append_left _ (List.mem_append_right _ h)))) (List.mem_of_getElem? (i := 8) rfl) rfl rfl (fit_i _) (Nat.le_of_ble_eq_true rfl) dX2_goGreedy_57 ?_
    refine j_aload_n C dX2_goGreedy_60 rfl ?_
    refine j_doV (st := []) (j_runV C (kX2_forgetSeen) gX2_goGreedy_X2_forgetSeen sgX2_forgetSeen rfl ⟨by decide, by decide⟩ (by decide) (en_8 _ _) rfl rfl rfl (Nat.le_of_ble_eq_true rfl) dX2_goGreedy_61) (fun V_6 h_7 => ?_)
    subst h_7
    change J O F _ _ (cAs V u as) _ _ _
    refine j_aload_n C dX2_goGreedy_64 rfl ?_
    refine j_aload_n C dX2_goGreedy_65 rfl ?_
    refine j_get (v := sr 4) C 8 1 (by decide) (en_8 _ _) rfl (by decide) (fun w h => List.mem_cons_of_mem _ (List.mem_append_left _ (List.mem_append_left _ (List.mem_append_right _ h)))) (List.mem_of_getElem? (i := 1) rfl) dX2_goGreedy_66 rfl ?_
    refine j_aload_n C dX2_goGreedy_69 rfl ?_
    refine j_get (v := si ((cAs V u as) 8 4)) C 8 4 (by decide) (en_8 _ _) rfl (by decide) (fun w h => List.mem_cons_of_mem _ (List.mem_append_left _ (List.mem_append_left _ (List.mem_append_right _ h)))) (List.mem_of_getElem? (i := 2) rfl) dX2_goGreedy_70 rfl ?_
    refine j_top (show (cAs V u as) 8 4 = _ from hu) ?_
    refine j_aload_n C dX2_goGreedy_73 rfl ?_
    refine j_get (v := si ((cAs V u as) 8 5)) C 8 5 (by decide) (en_8 _ _) rfl (by decide) (fun w h => List.mem_cons_of_mem _ (List.mem_append_left _ (List.mem_append_left _ (List.mem_append_right _ h)))) (List.mem_of_getElem? (i := 3) rfl) dX2_goGreedy_74 rfl ?_
    refine j_top (show (cAs V u as) 8 5 = _ from hm) ?_
    refine j_doI (st := [sr 8]) (j_runVN C (kX3_turnFrom (net_eq (V2 := (cAs V u as)) hn rfl rfl rfl rfl rfl) ok u t rfl rfl (by omega) (by omega) (by omega) (by omega) (by omega)) ggX2_goGreedy_X3_turnFrom sgX3_turnFrom rfl (List.mem_of_getElem? (i := 20) rfl) (List.mem_of_getElem? (i := 10) rfl) (List.mem_of_getElem? (i := 41) rfl) (List.mem_of_getElem? (i := 42) rfl) ⟨by decide, by decide⟩ (by decide) (en_4 _ _) rfl rfl rfl (Nat.le_of_ble_eq_true rfl) dX2_goGreedy_77) (fun z_8 V_9 h_10 => ?_)
    obtain ⟨rfl, rfl⟩ := h_10
    refine j_doV (st := []) (j_runV C (kX2_turnTo (gU g u t) u 0 (gU_rg ok (by omega)) (show (cAs V u as) 8 4 = (u : Int) from hu) (by omega) (show (cAs V u as) 10 u = _ from cAs_row (by omega)) (by omega)) gX2_goGreedy_X2_turnTo sgX2_turnTo rfl ⟨by decide, by decide⟩ (by decide) (en_8 _ _) rfl rfl rfl (Nat.le_of_ble_eq_true rfl) dX2_goGreedy_80) (fun V_12 h_13 => ?_)
    have h_13_ : V_12 = cTurn (cAs V u as) u 0 (gU g u t) := h_13
    subst h_13_
    refine j_vret C hQ dX2_goGreedy_83 ?_
    first
      | (rw [if_pos (by omega)]; done)
      | (rw [if_neg (by omega)]; rfl)
  · refine j_aload_n C dX2_goGreedy_21 rfl ?_
    refine j_iload_n C dX2_goGreedy_22 rfl ?_
    refine j_doV (st := []) (j_runV C (kX2_goTo (gR g u t (gN g)).toNat st so (by omega) (show V 8 10 = (st : Int) from hst) (by omega) (show V 8 14 = (so : Int) from hso) hso2 (by omega)) gX2_goGreedy_X2_goTo sgX2_goTo rfl ⟨by decide, by decide⟩ (by decide) (en_8 _ _) rfl rfl rfl (Nat.le_of_ble_eq_true rfl) dX2_goGreedy_23) (fun V_15 h_16 => ?_)
    subst h_16
    refine j_vret C hQ dX2_goGreedy_26 ?_
    first
      | (rw [if_pos (by omega)]; done)
      | (rw [if_neg (by omega)]; rfl)
def rX2_goRound : Room := { frames := 3, cells := 0, slots := 0, locals := 75 }
theorem sgX2_goRound : sg yX2_goRound wsX2_goRound cX2_goRound 2 none rX2_goRound 0 := ⟨⟨_, rfl⟩, rfl, rfl, by decide, by decide, by decide +kernel⟩
set_option maxHeartbeats 4000000 in
set_option maxRecDepth 100000 in
theorem kX2_goRound {O : OmT} {l : Launch} {V : Mem} {g : Nat → Int} (hn : net V g) (ok : okg g) (rn st so m : Nat) (t u e v : Nat) (hu : V 8 4 = (u : Int)) (hm : V 8 5 = (t : Int)) (he : V 8 6 = (e : Int)) (hx : V 8 7 = (v : Int)) (hs1 : V 8 8 = 0) (hs2 : V 8 9 = 1) (hen : e < gN g) (htn : t < gN g) (hae : gA g e = true) (hat : gA g t = true) (het : e ≠ t) (hut : u ≠ t) (hR : gR g e t (gN g) = -1) (hT : gT g u v = true) (hF : gF g e t ≤ gF g u t) (hst : V 8 10 = (st : Int)) (h2 : st < 200) (hso : V 8 14 = (so : Int)) (hso2 : so < 2147483648) (hrn : V 8 13 = (rn : Int)) (hrow : V 10 v = (m : Int)) (hm2 : m < 1024) : MV O l yX2_goRound wsX2_goRound rX2_goRound [sr 8] V (fun V2 => V2 = if gF g v t < gF g e t then ms (ms (cGo V st so v) 8 13 ((rn : Int) + 1)) 8 15 0 else cTurn (ms (cGo V st so v) 8 13 ((rn : Int) + 1)) v m (gU g v u)) := by
  refine mv_of (cc := cX2_goRound) (nL := 2) (rt := none) (by decide) rfl rfl (Nat.le_of_ble_eq_true rfl) (fun F hF C hQ => ?_)
  subst hF
  have n1 := ok.n
  have hl := gT_lt ok hT
  change J O F rX2_goRound 2 V 0 [(0, sr 8)] []
  refine j_aload_n C dX2_goRound_0 rfl ?_
  refine j_doI (st := []) (j_runV C (kX2_takesGreaterShare hn.1 ok t u e v hu hm he hx hs1 hs2 hen htn hae hat het hut hR hT hF) gX2_goRound_X2_takesGreaterShare sgX2_takesGreaterShare rfl ⟨by decide, by decide⟩ (by decide) (en_8 _ _) rfl rfl rfl (Nat.le_of_ble_eq_true rfl) dX2_goRound_1) (fun z_1 V_2 h_3 => ?_)
  obtain ⟨rfl, rfl⟩ := h_3
  refine j_if_eq (tgt := 41) C dX2_goRound_4 (by decide) (by decide) (fun q_4 => ?_) (fun q_4 => ?_)
  · refine j_aload_n C dX2_goRound_41 rfl ?_
    refine j_get (v := si (V 8 4)) C 8 4 (by decide) (en_8 _ _) rfl (by decide) (fun w h => List.mem_cons_of_mem _ (List.mem_append_left _ (List.mem_append_left _ (List.mem_append_right _ h)))) (List.mem_of_getElem? (i := 3) rfl) dX2_goRound_42 rfl ?_
    refine j_top hu ?_
    refine j_istore_n (lv' := [(0, sr 8), (1, si (u : Int))]) C dX2_goRound_45 (by decide) rfl ?_
    refine j_aload_n C dX2_goRound_46 rfl ?_
    refine j_aload_n C dX2_goRound_47 rfl ?_
    refine j_get (v := si (V 8 7)) C 8 7 (by decide) (en_8 _ _) rfl (by decide) (fun w h => List.mem_cons_of_mem _ (List.mem_append_left _ (List.mem_append_left _ (List.mem_append_right _ h)))) (List.mem_of_getElem? (i := 4) rfl) dX2_goRound_48 rfl ?_
    refine j_top hx ?_
    refine j_doV (st := []) (j_runV C (kX2_goTo v st so rfl (show V 8 10 = (st : Int) from hst) (by omega) (show V 8 14 = (so : Int) from hso) hso2 (by omega)) gX2_goRound_X2_goTo sgX2_goTo rfl ⟨by decide, by decide⟩ (by decide) (en_8 _ _) rfl rfl rfl (Nat.le_of_ble_eq_true rfl) dX2_goRound_51) (fun V_6 h_7 => ?_)
    subst h_7
    refine j_aload_n C dX2_goRound_54 rfl ?_
    refine j_dup C dX2_goRound_55 rfl ?_
    refine j_get (v := si ((ms (ms (ms (ms V 8 10 ((st : Int) + 1)) 8 4 (v : Int)) 8 14 ((so ||| 2 ^ v : Nat) : Int)) 9 (st + 1) (v : Int)) 8 13)) C 8 13 (by decide) (en_8 _ _) rfl (by decide) (fun w h => List.mem_cons_of_mem _ (List.mem_append_left _ (List.mem_append_left _ (List.mem_append_right _ h)))) (List.mem_of_getElem? (i := 5) rfl) dX2_goRound_56 rfl ?_
    refine j_top (show (ms (ms (ms (ms V 8 10 ((st : Int) + 1)) 8 4 (v : Int)) 8 14 ((so ||| 2 ^ v : Nat) : Int)) 9 (st + 1) (v : Int)) 8 13 = _ from hrn) ?_
    refine j_iconst C dX2_goRound_59 ?_
    refine j_iadd C dX2_goRound_60 ?_
    refine j_put C 8 13 (by decide) (en_8 _ _) rfl pcl2 (by decide) (fun w h => List.mem_cons_of_mem _ (List.mem_append_left _ (List.mem_append_left _ (List.mem_append_right _ h)))) (List.mem_of_getElem? (i := 5) rfl) rfl rfl (fit_i _) (Nat.le_of_ble_eq_true rfl) dX2_goRound_61 ?_
    refine j_aload_n C dX2_goRound_64 rfl ?_
    refine j_get (v := sr 1) C 8 0 (by decide) (en_8 _ _) rfl (by decide) (fun w h => List.mem_cons_of_mem _ (List.mem_append_left _ (List.mem_append_left _ (List.mem_append_right _ h)))) (List.mem_of_getElem? (i := 6) rfl) dX2_goRound_65 rfl ?_
    refine j_aload_n C dX2_goRound_68 rfl ?_
    refine j_get (v := si (v : Int)) C 8 4 (by decide) (en_8 _ _) rfl (by decide) (fun w h => List.mem_cons_of_mem _ (List.mem_append_left _ (List.mem_append_left _ (List.mem_append_right _ h)))) (List.mem_of_getElem? (i := 3) rfl) dX2_goRound_69 rfl ?_
    refine j_aload_n C dX2_goRound_72 rfl ?_
    refine j_get (v := si ((ms (ms (ms (ms (ms V 8 10 ((st : Int) + 1)) 8 4 (v : Int)) 8 14 ((so ||| 2 ^ v : Nat) : Int)) 9 (st + 1) (v : Int)) 8 13 ((rn : Int) + 1)) 8 5)) C 8 5 (by decide) (en_8 _ _) rfl (by decide) (fun w h => List.mem_cons_of_mem _ (List.mem_append_left _ (List.mem_append_left _ (List.mem_append_right _ h)))) (List.mem_of_getElem? (i := 7) rfl) dX2_goRound_73 rfl ?_
    refine j_top (show (ms (ms (ms (ms (ms V 8 10 ((st : Int) + 1)) 8 4 (v : Int)) 8 14 ((so ||| 2 ^ v : Nat) : Int)) 9 (st + 1) (v : Int)) 8 13 ((rn : Int) + 1)) 8 5 = _ from hm) ?_
    refine j_doI (st := []) (j_runVN C (kX1_apart (cls_eq (V2 := (ms (ms (ms (ms (ms V 8 10 ((st : Int) + 1)) 8 4 (v : Int)) 8 14 ((so ||| 2 ^ v : Nat) : Int)) 9 (st + 1) (v : Int)) 8 13 ((rn : Int) + 1))) hn.1 rfl rfl rfl) v t rfl rfl (by omega) (by omega)) ggX2_goRound_X1_apart sgX1_apart rfl (List.mem_of_getElem? (i := 22) rfl) (List.mem_of_getElem? (i := 18) rfl) (List.mem_of_getElem? (i := 52) rfl) (List.mem_of_getElem? (i := 53) rfl) ⟨by decide, by decide⟩ (by decide) (en_G (c := 1) (by decide) _) rfl rfl rfl (Nat.le_of_ble_eq_true rfl) dX2_goRound_76) (fun z_8 V_9 h_10 => ?_)
    obtain ⟨rfl, rfl⟩ := h_10
    refine j_aload_n C dX2_goRound_79 rfl ?_
    refine j_get (v := sr 1) C 8 0 (by decide) (en_8 _ _) rfl (by decide) (fun w h => List.mem_cons_of_mem _ (List.mem_append_left _ (List.mem_append_left _ (List.mem_append_right _ h)))) (List.mem_of_getElem? (i := 6) rfl) dX2_goRound_80 rfl ?_
    refine j_aload_n C dX2_goRound_83 rfl ?_
    refine j_get (v := si ((ms (ms (ms (ms (ms V 8 10 ((st : Int) + 1)) 8 4 (v : Int)) 8 14 ((so ||| 2 ^ v : Nat) : Int)) 9 (st + 1) (v : Int)) 8 13 ((rn : Int) + 1)) 8 6)) C 8 6 (by decide) (en_8 _ _) rfl (by decide) (fun w h => List.mem_cons_of_mem _ (List.mem_append_left _ (List.mem_append_left _ (List.mem_append_right _ h)))) (List.mem_of_getElem? (i := 8) rfl) dX2_goRound_84 rfl ?_
    refine j_top (show (ms (ms (ms (ms (ms V 8 10 ((st : Int) + 1)) 8 4 (v : Int)) 8 14 ((so ||| 2 ^ v : Nat) : Int)) 9 (st + 1) (v : Int)) 8 13 ((rn : Int) + 1)) 8 6 = _ from he) ?_
    refine j_aload_n C dX2_goRound_87 rfl ?_
    refine j_get (v := si ((ms (ms (ms (ms (ms V 8 10 ((st : Int) + 1)) 8 4 (v : Int)) 8 14 ((so ||| 2 ^ v : Nat) : Int)) 9 (st + 1) (v : Int)) 8 13 ((rn : Int) + 1)) 8 5)) C 8 5 (by decide) (en_8 _ _) rfl (by decide) (fun w h => List.mem_cons_of_mem _ (List.mem_append_left _ (List.mem_append_left _ (List.mem_append_right _ h)))) (List.mem_of_getElem? (i := 7) rfl) dX2_goRound_88 rfl ?_
    refine j_top (show (ms (ms (ms (ms (ms V 8 10 ((st : Int) + 1)) 8 4 (v : Int)) 8 14 ((so ||| 2 ^ v : Nat) : Int)) 9 (st + 1) (v : Int)) 8 13 ((rn : Int) + 1)) 8 5 = _ from hm) ?_
    refine j_doI (st := [si (gF g v t)]) (j_runVN C (kX1_apart (cls_eq (V2 := (ms (ms (ms (ms (ms V 8 10 ((st : Int) + 1)) 8 4 (v : Int)) 8 14 ((so ||| 2 ^ v : Nat) : Int)) 9 (st + 1) (v : Int)) 8 13 ((rn : Int) + 1))) hn.1 rfl rfl rfl) e t rfl rfl (by omega) (by omega)) ggX2_goRound_X1_apart sgX1_apart rfl (List.mem_of_getElem? (i := 22) rfl) (List.mem_of_getElem? (i := 18) rfl) (List.mem_of_getElem? (i := 52) rfl) (List.mem_of_getElem? (i := 53) rfl) ⟨by decide, by decide⟩ (by decide) (en_G (c := 1) (by decide) _) rfl rfl rfl (Nat.le_of_ble_eq_true rfl) dX2_goRound_91) (fun z_11 V_12 h_13 => ?_)
    obtain ⟨rfl, rfl⟩ := h_13
    refine j_icmp_ge (tgt := 105) C dX2_goRound_94 (by decide) (by have := ok.f (u := v) (v := t) (by omega) (by omega); omega) (by have := ok.f (u := e) (v := t) (by omega) (by omega); omega) (fun q_14 => ?_) (fun q_14 => ?_)
    · refine j_aload_n C dX2_goRound_105 rfl ?_
      refine j_aload_n C dX2_goRound_106 rfl ?_
      refine j_get (v := sr 4) C 8 1 (by decide) (en_8 _ _) rfl (by decide) (fun w h => List.mem_cons_of_mem _ (List.mem_append_left _ (List.mem_append_left _ (List.mem_append_right _ h)))) (List.mem_of_getElem? (i := 2) rfl) dX2_goRound_107 rfl ?_
      refine j_aload_n C dX2_goRound_110 rfl ?_
      refine j_get (v := si (v : Int)) C 8 4 (by decide) (en_8 _ _) rfl (by decide) (fun w h => List.mem_cons_of_mem _ (List.mem_append_left _ (List.mem_append_left _ (List.mem_append_right _ h)))) (List.mem_of_getElem? (i := 3) rfl) dX2_goRound_111 rfl ?_
      refine j_iload_n C dX2_goRound_114 rfl ?_
      refine j_doI (st := [sr 8]) (j_runVN C (kX3_turnFrom (net_eq (V2 := (ms (ms (ms (ms (ms V 8 10 ((st : Int) + 1)) 8 4 (v : Int)) 8 14 ((so ||| 2 ^ v : Nat) : Int)) 9 (st + 1) (v : Int)) 8 13 ((rn : Int) + 1))) hn rfl rfl rfl rfl rfl) ok v u rfl rfl (by omega) (by omega) (by omega) (by omega) (by omega)) ggX2_goRound_X3_turnFrom sgX3_turnFrom rfl (List.mem_of_getElem? (i := 20) rfl) (List.mem_of_getElem? (i := 33) rfl) (List.mem_of_getElem? (i := 32) rfl) (List.mem_of_getElem? (i := 34) rfl) ⟨by decide, by decide⟩ (by decide) (en_4 _ _) rfl rfl rfl (Nat.le_of_ble_eq_true rfl) dX2_goRound_115) (fun z_15 V_16 h_17 => ?_)
      obtain ⟨rfl, rfl⟩ := h_17
      refine j_doV (st := []) (j_runV C (kX2_turnTo (gU g v u) v m (gU_rg ok (by omega)) (show (ms (ms (ms (ms (ms V 8 10 ((st : Int) + 1)) 8 4 (v : Int)) 8 14 ((so ||| 2 ^ v : Nat) : Int)) 9 (st + 1) (v : Int)) 8 13 ((rn : Int) + 1)) 8 4 = (v : Int) from rfl) (by omega) (show (ms (ms (ms (ms (ms V 8 10 ((st : Int) + 1)) 8 4 (v : Int)) 8 14 ((so ||| 2 ^ v : Nat) : Int)) 9 (st + 1) (v : Int)) 8 13 ((rn : Int) + 1)) 10 v = _ from hrow) (by omega)) gX2_goRound_X2_turnTo sgX2_turnTo rfl ⟨by decide, by decide⟩ (by decide) (en_8 _ _) rfl rfl rfl (Nat.le_of_ble_eq_true rfl) dX2_goRound_118) (fun V_19 h_20 => ?_)
      have h_20_ : V_19 = cTurn (ms (ms (ms (ms (ms V 8 10 ((st : Int) + 1)) 8 4 (v : Int)) 8 14 ((so ||| 2 ^ v : Nat) : Int)) 9 (st + 1) (v : Int)) 8 13 ((rn : Int) + 1)) v m (gU g v u) := h_20
      subst h_20_
      refine j_vret C hQ dX2_goRound_121 ?_
      first
        | (rw [if_pos (by omega)]; rfl)
        | (rw [if_neg (by omega)]; rfl)
    · refine j_aload_n C dX2_goRound_97 rfl ?_
      refine j_iconst C dX2_goRound_98 ?_
      refine j_put C 8 15 (by decide) (en_8 _ _) rfl pcl2 (by decide) (fun w h => List.mem_cons_of_mem _ (List.mem_append_left _ (List.mem_append_left _ (List.mem_append_right _ h)))) (List.mem_of_getElem? (i := 9) rfl) rfl rfl (fit_z (by decide)) (Nat.le_of_ble_eq_true rfl) dX2_goRound_99 ?_
      refine j_goto (tgt := 121) C dX2_goRound_102 (by decide) ?_
      refine j_vret C hQ dX2_goRound_121 ?_
      first
        | (rw [if_pos (by omega)]; rfl)
        | (rw [if_neg (by omega)]; rfl)
  · omega
