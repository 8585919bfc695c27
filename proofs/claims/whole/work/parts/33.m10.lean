def rX6_isWithin : Room := { frames := 1, cells := 0, slots := 0, locals := 23 }
theorem sgX6_isWithin : sg yX6_isWithin wsX6_isWithin cX6_isWithin 8 (some .boolean) rX6_isWithin 3 := ⟨⟨_, rfl⟩, rfl, rfl, by decide, by decide, by decide +kernel⟩
set_option maxHeartbeats 4000000 in
set_option maxRecDepth 100000 in
theorem kX6_isWithin {O : OmT} {l : Launch} {V : Mem} {g : Nat → Int} (hg : mdl V g) (ok : okg g) {za : Int} {zb : Int} {zc : Int} (a b c : Nat) (ea : za = (a : Int)) (eb : zb = (b : Int)) (ec : zc = (c : Int)) (ha : a < 10) (hb : b < 10) (hc : c < 10) : MI O l yX6_isWithin wsX6_isWithin rX6_isWithin [sr 72, si za, si zb, si zc] V (fun z V2 => V = V2 ∧ z = bI (gWi g a b c)) := by
  refine mi_of (cc := cX6_isWithin) (nL := 8) (rt := (some .boolean)) (by decide) rfl rfl (Nat.le_of_ble_eq_true rfl) (fun F hF C hQ => ?_)
  subst hF
  subst ea eb ec
  change J O F rX6_isWithin 8 V 0 [(0, sr 72), (1, si (a : Int)), (2, si (b : Int)), (3, si (c : Int))] []
  refine j_aload_n C dX6_isWithin_0 rfl ?_
  refine j_get (v := sr 73) C 72 0 (by decide) (en_72 _ _) rfl (by decide) (fun w h => List.mem_cons_of_mem _ (List.mem_append_right _ h)) (List.mem_of_getElem? (i := 1) rfl) dX6_isWithin_1 rfl ?_
  refine j_iconst C dX6_isWithin_4 ?_
  refine j_iload_n C dX6_isWithin_5 rfl ?_
  refine j_iadd C dX6_isWithin_6 ?_
  refine j_iald C (row_73 O) (4 + a) (by omega) (by omega) dX6_isWithin_7 ?_
  refine j_top (hg (4 + a) (by omega)) ?_
  refine j_aload_n C dX6_isWithin_8 rfl ?_
  refine j_get (v := sr 73) C 72 0 (by decide) (en_72 _ _) rfl (by decide) (fun w h => List.mem_cons_of_mem _ (List.mem_append_right _ h)) (List.mem_of_getElem? (i := 1) rfl) dX6_isWithin_9 rfl ?_
  refine j_iconst C dX6_isWithin_12 ?_
  refine j_iload_n C dX6_isWithin_13 rfl ?_
  refine j_iadd C dX6_isWithin_14 ?_
  refine j_iald C (row_73 O) (4 + b) (by omega) (by omega) dX6_isWithin_15 ?_
  refine j_top (hg (4 + b) (by omega)) ?_
  refine j_icmp_ge (tgt := 30) C dX6_isWithin_16 (by decide) (by have := ok.x ha; have := ok.x hb; have := ok.x hc; have := ok.y ha; have := ok.y hb; have := ok.y hc; omega) (by have := ok.x ha; have := ok.x hb; have := ok.x hc; have := ok.y ha; have := ok.y hb; have := ok.y hc; omega) (fun q_1 => ?_) (fun q_1 => ?_)
  · refine j_aload_n C dX6_isWithin_30 rfl ?_
    refine j_get (v := sr 73) C 72 0 (by decide) (en_72 _ _) rfl (by decide) (fun w h => List.mem_cons_of_mem _ (List.mem_append_right _ h)) (List.mem_of_getElem? (i := 1) rfl) dX6_isWithin_31 rfl ?_
    refine j_iconst C dX6_isWithin_34 ?_
    refine j_iload_n C dX6_isWithin_35 rfl ?_
    refine j_iadd C dX6_isWithin_36 ?_
    refine j_iald C (row_73 O) (4 + b) (by omega) (by omega) dX6_isWithin_37 ?_
    refine j_top (hg (4 + b) (by omega)) ?_
    refine j_istore (lv' := [(0, sr 72), (1, si (a : Int)), (2, si (b : Int)), (3, si (c : Int)), (4, si (g (4 + b)))]) C dX6_isWithin_38 (by decide) rfl ?_
    refine j_aload_n C dX6_isWithin_40 rfl ?_
    refine j_get (v := sr 73) C 72 0 (by decide) (en_72 _ _) rfl (by decide) (fun w h => List.mem_cons_of_mem _ (List.mem_append_right _ h)) (List.mem_of_getElem? (i := 1) rfl) dX6_isWithin_41 rfl ?_
    refine j_bipush C dX6_isWithin_44 (by decide) ?_
    refine j_iload_n C dX6_isWithin_46 rfl ?_
    refine j_iadd C dX6_isWithin_47 ?_
    refine j_iald C (row_73 O) (14 + a) (by omega) (by omega) dX6_isWithin_48 ?_
    refine j_top (hg (14 + a) (by omega)) ?_
    refine j_aload_n C dX6_isWithin_49 rfl ?_
    refine j_get (v := sr 73) C 72 0 (by decide) (en_72 _ _) rfl (by decide) (fun w h => List.mem_cons_of_mem _ (List.mem_append_right _ h)) (List.mem_of_getElem? (i := 1) rfl) dX6_isWithin_50 rfl ?_
    refine j_bipush C dX6_isWithin_53 (by decide) ?_
    refine j_iload_n C dX6_isWithin_55 rfl ?_
    refine j_iadd C dX6_isWithin_56 ?_
    refine j_iald C (row_73 O) (14 + b) (by omega) (by omega) dX6_isWithin_57 ?_
    refine j_top (hg (14 + b) (by omega)) ?_
    refine j_icmp_ge (tgt := 73) C dX6_isWithin_58 (by decide) (by have := ok.x ha; have := ok.x hb; have := ok.x hc; have := ok.y ha; have := ok.y hb; have := ok.y hc; omega) (by have := ok.x ha; have := ok.x hb; have := ok.x hc; have := ok.y ha; have := ok.y hb; have := ok.y hc; omega) (fun q_2 => ?_) (fun q_2 => ?_)
    · refine j_aload_n C dX6_isWithin_73 rfl ?_
      refine j_get (v := sr 73) C 72 0 (by decide) (en_72 _ _) rfl (by decide) (fun w h => List.mem_cons_of_mem _ (List.mem_append_right _ h)) (List.mem_of_getElem? (i := 1) rfl) dX6_isWithin_74 rfl ?_
      refine j_bipush C dX6_isWithin_77 (by decide) ?_
      refine j_iload_n C dX6_isWithin_79 rfl ?_
      refine j_iadd C dX6_isWithin_80 ?_
      refine j_iald C (row_73 O) (14 + b) (by omega) (by omega) dX6_isWithin_81 ?_
      refine j_top (hg (14 + b) (by omega)) ?_
      refine j_istore (lv' := [(0, sr 72), (1, si (a : Int)), (2, si (b : Int)), (3, si (c : Int)), (4, si (g (4 + b))), (5, si (g (14 + b)))]) C dX6_isWithin_82 (by decide) rfl ?_
      refine j_aload_n C dX6_isWithin_84 rfl ?_
      refine j_get (v := sr 73) C 72 0 (by decide) (en_72 _ _) rfl (by decide) (fun w h => List.mem_cons_of_mem _ (List.mem_append_right _ h)) (List.mem_of_getElem? (i := 1) rfl) dX6_isWithin_85 rfl ?_
      refine j_iconst C dX6_isWithin_88 ?_
      refine j_iload_n C dX6_isWithin_89 rfl ?_
      refine j_iadd C dX6_isWithin_90 ?_
      refine j_iald C (row_73 O) (4 + a) (by omega) (by omega) dX6_isWithin_91 ?_
      refine j_top (hg (4 + a) (by omega)) ?_
      refine j_aload_n C dX6_isWithin_92 rfl ?_
      refine j_get (v := sr 73) C 72 0 (by decide) (en_72 _ _) rfl (by decide) (fun w h => List.mem_cons_of_mem _ (List.mem_append_right _ h)) (List.mem_of_getElem? (i := 1) rfl) dX6_isWithin_93 rfl ?_
      refine j_iconst C dX6_isWithin_96 ?_
      refine j_iload_n C dX6_isWithin_97 rfl ?_
      refine j_iadd C dX6_isWithin_98 ?_
      refine j_iald C (row_73 O) (4 + b) (by omega) (by omega) dX6_isWithin_99 ?_
      refine j_top (hg (4 + b) (by omega)) ?_
      refine j_iadd C dX6_isWithin_100 ?_
      refine j_iload C dX6_isWithin_101 rfl ?_
      refine j_isub C dX6_isWithin_103 ?_
      refine j_istore (lv' := [(0, sr 72), (1, si (a : Int)), (2, si (b : Int)), (3, si (c : Int)), (4, si (g (4 + b))), (5, si (g (14 + b))), (6, si (((g (4 + a)) + (g (4 + b))) - (g (4 + b))))]) C dX6_isWithin_104 (by decide) rfl ?_
      refine j_aload_n C dX6_isWithin_106 rfl ?_
      refine j_get (v := sr 73) C 72 0 (by decide) (en_72 _ _) rfl (by decide) (fun w h => List.mem_cons_of_mem _ (List.mem_append_right _ h)) (List.mem_of_getElem? (i := 1) rfl) dX6_isWithin_107 rfl ?_
      refine j_bipush C dX6_isWithin_110 (by decide) ?_
      refine j_iload_n C dX6_isWithin_112 rfl ?_
      refine j_iadd C dX6_isWithin_113 ?_
      refine j_iald C (row_73 O) (14 + a) (by omega) (by omega) dX6_isWithin_114 ?_
      refine j_top (hg (14 + a) (by omega)) ?_
      refine j_aload_n C dX6_isWithin_115 rfl ?_
      refine j_get (v := sr 73) C 72 0 (by decide) (en_72 _ _) rfl (by decide) (fun w h => List.mem_cons_of_mem _ (List.mem_append_right _ h)) (List.mem_of_getElem? (i := 1) rfl) dX6_isWithin_116 rfl ?_
      refine j_bipush C dX6_isWithin_119 (by decide) ?_
      refine j_iload_n C dX6_isWithin_121 rfl ?_
      refine j_iadd C dX6_isWithin_122 ?_
      refine j_iald C (row_73 O) (14 + b) (by omega) (by omega) dX6_isWithin_123 ?_
      refine j_top (hg (14 + b) (by omega)) ?_
      refine j_iadd C dX6_isWithin_124 ?_
      refine j_iload C dX6_isWithin_125 rfl ?_
      refine j_isub C dX6_isWithin_127 ?_
      refine j_istore (lv' := [(0, sr 72), (1, si (a : Int)), (2, si (b : Int)), (3, si (c : Int)), (4, si (g (4 + b))), (5, si (g (14 + b))), (6, si (((g (4 + a)) + (g (4 + b))) - (g (4 + b)))), (7, si (((g (14 + a)) + (g (14 + b))) - (g (14 + b))))]) C dX6_isWithin_128 (by decide) rfl ?_
      refine j_aload_n C dX6_isWithin_130 rfl ?_
      refine j_iload_n C dX6_isWithin_131 rfl ?_
      refine j_iload_n C dX6_isWithin_132 rfl ?_
      refine j_iload_n C dX6_isWithin_133 rfl ?_
      refine j_doI (st := []) (j_runV C (kX6_side hg a b c rfl rfl rfl (by omega) (by omega) (by omega)) gX6_isWithin_X6_side sgX6_side rfl ⟨by decide, by decide⟩ (by decide) (en_72 _ _) rfl rfl rfl (Nat.le_of_ble_eq_true rfl) dX6_isWithin_134) (fun z_3 V_4 h_5 => ?_)
      obtain ⟨rfl, rfl⟩ := h_5
      refine j_if_ne (tgt := 181) C dX6_isWithin_137 (by decide) (by have := ok.s (a := a) (b := b) (c := c) (by omega) (by omega) (by omega); omega) (fun q_6 => ?_) (fun q_6 => ?_)
      · refine j_iconst C dX6_isWithin_181 ?_
        refine j_zret C hQ (by decide) dX6_isWithin_182 ?_
        refine ⟨rfl, ?_⟩
        unfold gWi bwb
        simp_all [bI]
        try omega
      · refine j_aload_n C dX6_isWithin_140 rfl ?_
        refine j_get (v := sr 73) C 72 0 (by decide) (en_72 _ _) rfl (by decide) (fun w h => List.mem_cons_of_mem _ (List.mem_append_right _ h)) (List.mem_of_getElem? (i := 1) rfl) dX6_isWithin_141 rfl ?_
        refine j_iconst C dX6_isWithin_144 ?_
        refine j_iload_n C dX6_isWithin_145 rfl ?_
        refine j_iadd C dX6_isWithin_146 ?_
        refine j_iald C (row_73 O) (4 + c) (by omega) (by omega) dX6_isWithin_147 ?_
        refine j_top (hg (4 + c) (by omega)) ?_
        refine j_iload C dX6_isWithin_148 rfl ?_
        refine j_iload C dX6_isWithin_150 rfl ?_
        refine j_doI (st := []) (j_runS C (kX6_in (g (4 + c)) (g (4 + b)) (((g (4 + a)) + (g (4 + b))) - (g (4 + b))) (by have := ok.x ha; have := ok.x hb; have := ok.x hc; have := ok.y ha; have := ok.y hb; have := ok.y hc; omega) (by have := ok.x ha; have := ok.x hb; have := ok.x hc; have := ok.y ha; have := ok.y hb; have := ok.y hc; omega) (by have := ok.x ha; have := ok.x hb; have := ok.x hc; have := ok.y ha; have := ok.y hb; have := ok.y hc; omega)) ggX6_isWithin_X6_in sgX6_in (List.mem_of_getElem? (i := 7) rfl) (List.mem_of_getElem? (i := 5) rfl) (List.mem_of_getElem? (i := 8) rfl) ⟨by decide, by decide⟩ rfl rfl (Nat.le_of_ble_eq_true rfl) dX6_isWithin_152) (fun z_7 V_8 h_9 => ?_)
        obtain ⟨rfl, rfl⟩ := h_9
        refine j_ifb_eq (tgt := 181) C dX6_isWithin_155 (by decide) (fun q_10 => ?_) (fun q_10 => ?_)
        · refine j_iconst C dX6_isWithin_181 ?_
          refine j_zret C hQ (by decide) dX6_isWithin_182 ?_
          refine ⟨rfl, ?_⟩
          unfold gWi bwb
          simp_all [bI]
          try omega
        · refine j_aload_n C dX6_isWithin_158 rfl ?_
          refine j_get (v := sr 73) C 72 0 (by decide) (en_72 _ _) rfl (by decide) (fun w h => List.mem_cons_of_mem _ (List.mem_append_right _ h)) (List.mem_of_getElem? (i := 1) rfl) dX6_isWithin_159 rfl ?_
          refine j_bipush C dX6_isWithin_162 (by decide) ?_
          refine j_iload_n C dX6_isWithin_164 rfl ?_
          refine j_iadd C dX6_isWithin_165 ?_
          refine j_iald C (row_73 O) (14 + c) (by omega) (by omega) dX6_isWithin_166 ?_
          refine j_top (hg (14 + c) (by omega)) ?_
          refine j_iload C dX6_isWithin_167 rfl ?_
          refine j_iload C dX6_isWithin_169 rfl ?_
          refine j_doI (st := []) (j_runS C (kX6_in (g (14 + c)) (g (14 + b)) (((g (14 + a)) + (g (14 + b))) - (g (14 + b))) (by have := ok.x ha; have := ok.x hb; have := ok.x hc; have := ok.y ha; have := ok.y hb; have := ok.y hc; omega) (by have := ok.x ha; have := ok.x hb; have := ok.x hc; have := ok.y ha; have := ok.y hb; have := ok.y hc; omega) (by have := ok.x ha; have := ok.x hb; have := ok.x hc; have := ok.y ha; have := ok.y hb; have := ok.y hc; omega)) ggX6_isWithin_X6_in sgX6_in (List.mem_of_getElem? (i := 7) rfl) (List.mem_of_getElem? (i := 5) rfl) (List.mem_of_getElem? (i := 8) rfl) ⟨by decide, by decide⟩ rfl rfl (Nat.le_of_ble_eq_true rfl) dX6_isWithin_171) (fun z_11 V_12 h_13 => ?_)
          obtain ⟨rfl, rfl⟩ := h_13
          refine j_ifb_eq (tgt := 181) C dX6_isWithin_174 (by decide) (fun q_14 => ?_) (fun q_14 => ?_)
          · refine j_iconst C dX6_isWithin_181 ?_
            refine j_zret C hQ (by decide) dX6_isWithin_182 ?_
            refine ⟨rfl, ?_⟩
            unfold gWi bwb
            simp_all [bI]
            try omega
          · refine j_iconst C dX6_isWithin_177 ?_
            refine j_goto (tgt := 182) C dX6_isWithin_178 (by decide) ?_
            refine j_zret C hQ (by decide) dX6_isWithin_182 ?_
            refine ⟨rfl, ?_⟩
            unfold gWi bwb
            simp_all [bI]
            try omega
    · refine j_aload_n C dX6_isWithin_61 rfl ?_
      refine j_get (v := sr 73) C 72 0 (by decide) (en_72 _ _) rfl (by decide) (fun w h => List.mem_cons_of_mem _ (List.mem_append_right _ h)) (List.mem_of_getElem? (i := 1) rfl) dX6_isWithin_62 rfl ?_
      refine j_bipush C dX6_isWithin_65 (by decide) ?_
      refine j_iload_n C dX6_isWithin_67 rfl ?_
      refine j_iadd C dX6_isWithin_68 ?_
      refine j_iald C (row_73 O) (14 + a) (by omega) (by omega) dX6_isWithin_69 ?_
      refine j_top (hg (14 + a) (by omega)) ?_
      refine j_goto (tgt := 82) C dX6_isWithin_70 (by decide) ?_
      refine j_istore (lv' := [(0, sr 72), (1, si (a : Int)), (2, si (b : Int)), (3, si (c : Int)), (4, si (g (4 + b))), (5, si (g (14 + a)))]) C dX6_isWithin_82 (by decide) rfl ?_
      refine j_aload_n C dX6_isWithin_84 rfl ?_
      refine j_get (v := sr 73) C 72 0 (by decide) (en_72 _ _) rfl (by decide) (fun w h => List.mem_cons_of_mem _ (List.mem_append_right _ h)) (List.mem_of_getElem? (i := 1) rfl) dX6_isWithin_85 rfl ?_
      refine j_iconst C dX6_isWithin_88 ?_
      refine j_iload_n C dX6_isWithin_89 rfl ?_
      refine j_iadd C dX6_isWithin_90 ?_
      refine j_iald C (row_73 O) (4 + a) (by omega) (by omega) dX6_isWithin_91 ?_
      refine j_top (hg (4 + a) (by omega)) ?_
      refine j_aload_n C dX6_isWithin_92 rfl ?_
      refine j_get (v := sr 73) C 72 0 (by decide) (en_72 _ _) rfl (by decide) (fun w h => List.mem_cons_of_mem _ (List.mem_append_right _ h)) (List.mem_of_getElem? (i := 1) rfl) dX6_isWithin_93 rfl ?_
      refine j_iconst C dX6_isWithin_96 ?_
      refine j_iload_n C dX6_isWithin_97 rfl ?_
      refine j_iadd C dX6_isWithin_98 ?_
      refine j_iald C (row_73 O) (4 + b) (by omega) (by omega) dX6_isWithin_99 ?_
      refine j_top (hg (4 + b) (by omega)) ?_
      refine j_iadd C dX6_isWithin_100 ?_
      refine j_iload C dX6_isWithin_101 rfl ?_
      refine j_isub C dX6_isWithin_103 ?_
      refine j_istore (lv' := [(0, sr 72), (1, si (a : Int)), (2, si (b : Int)), (3, si (c : Int)), (4, si (g (4 + b))), (5, si (g (14 + a))), (6, si (((g (4 + a)) + (g (4 + b))) - (g (4 + b))))]) C dX6_isWithin_104 (by decide) rfl ?_
      refine j_aload_n C dX6_isWithin_106 rfl ?_
      refine j_get (v := sr 73) C 72 0 (by decide) (en_72 _ _) rfl (by decide) (fun w h => List.mem_cons_of_mem _ (List.mem_append_right _ h)) (List.mem_of_getElem? (i := 1) rfl) dX6_isWithin_107 rfl ?_
      refine j_bipush C dX6_isWithin_110 (by decide) ?_
      refine j_iload_n C dX6_isWithin_112 rfl ?_
      refine j_iadd C dX6_isWithin_113 ?_
      refine j_iald C (row_73 O) (14 + a) (by omega) (by omega) dX6_isWithin_114 ?_
      refine j_top (hg (14 + a) (by omega)) ?_
      refine j_aload_n C dX6_isWithin_115 rfl ?_
      refine j_get (v := sr 73) C 72 0 (by decide) (en_72 _ _) rfl (by decide) (fun w h => List.mem_cons_of_mem _ (List.mem_append_right _ h)) (List.mem_of_getElem? (i := 1) rfl) dX6_isWithin_116 rfl ?_
      refine j_bipush C dX6_isWithin_119 (by decide) ?_
      refine j_iload_n C dX6_isWithin_121 rfl ?_
      refine j_iadd C dX6_isWithin_122 ?_
      refine j_iald C (row_73 O) (14 + b) (by omega) (by omega) dX6_isWithin_123 ?_
      refine j_top (hg (14 + b) (by omega)) ?_
      refine j_iadd C dX6_isWithin_124 ?_
      refine j_iload C dX6_isWithin_125 rfl ?_
      refine j_isub C dX6_isWithin_127 ?_
      refine j_istore (lv' := [(0, sr 72), (1, si (a : Int)), (2, si (b : Int)), (3, si (c : Int)), (4, si (g (4 + b))), (5, si (g (14 + a))), (6, si (((g (4 + a)) + (g (4 + b))) - (g (4 + b)))), (7, si (((g (14 + a)) + (g (14 + b))) - (g (14 + a))))]) C dX6_isWithin_128 (by decide) rfl ?_
      refine j_aload_n C dX6_isWithin_130 rfl ?_
      refine j_iload_n C dX6_isWithin_131 rfl ?_
      refine j_iload_n C dX6_isWithin_132 rfl ?_
      refine j_iload_n C dX6_isWithin_133 rfl ?_
      refine j_doI (st := []) (j_runV C (kX6_side hg a b c rfl rfl rfl (by omega) (by omega) (by omega)) gX6_isWithin_X6_side sgX6_side rfl ⟨by decide, by decide⟩ (by decide) (en_72 _ _) rfl rfl rfl (Nat.le_of_ble_eq_true rfl) dX6_isWithin_134) (fun z_15 V_16 h_17 => ?_)
      obtain ⟨rfl, rfl⟩ := h_17
      refine j_if_ne (tgt := 181) C dX6_isWithin_137 (by decide) (by have := ok.s (a := a) (b := b) (c := c) (by omega) (by omega) (by omega); omega) (fun q_18 => ?_) (fun q_18 => ?_)
      · refine j_iconst C dX6_isWithin_181 ?_
        refine j_zret C hQ (by decide) dX6_isWithin_182 ?_
        refine ⟨rfl, ?_⟩
        unfold gWi bwb
        simp_all [bI]
        try omega
      · refine j_aload_n C dX6_isWithin_140 rfl ?_
        refine j_get (v := sr 73) C 72 0 (by decide) (en_72 _ _) rfl (by decide) (fun w h => List.mem_cons_of_mem _ (List.mem_append_right _ h)) (List.mem_of_getElem? (i := 1) rfl) dX6_isWithin_141 rfl ?_
        refine j_iconst C dX6_isWithin_144 ?_
        refine j_iload_n C dX6_isWithin_145 rfl ?_
        refine j_iadd C dX6_isWithin_146 ?_
        refine j_iald C (row_73 O) (4 + c) (by omega) (by omega) dX6_isWithin_147 ?_
        refine j_top (hg (4 + c) (by omega)) ?_
        refine j_iload C dX6_isWithin_148 rfl ?_
        refine j_iload C dX6_isWithin_150 rfl ?_
        refine j_doI (st := []) (j_runS C (kX6_in (g (4 + c)) (g (4 + b)) (((g (4 + a)) + (g (4 + b))) - (g (4 + b))) (by have := ok.x ha; have := ok.x hb; have := ok.x hc; have := ok.y ha; have := ok.y hb; have := ok.y hc; omega) (by have := ok.x ha; have := ok.x hb; have := ok.x hc; have := ok.y ha; have := ok.y hb; have := ok.y hc; omega) (by have := ok.x ha; have := ok.x hb; have := ok.x hc; have := ok.y ha; have := ok.y hb; have := ok.y hc; omega)) ggX6_isWithin_X6_in sgX6_in (List.mem_of_getElem? (i := 7) rfl) (List.mem_of_getElem? (i := 5) rfl) (List.mem_of_getElem? (i := 8) rfl) ⟨by decide, by decide⟩ rfl rfl (Nat.le_of_ble_eq_true rfl) dX6_isWithin_152) (fun z_19 V_20 h_21 => ?_)
        obtain ⟨rfl, rfl⟩ := h_21
        refine j_ifb_eq (tgt := 181) C dX6_isWithin_155 (by decide) (fun q_22 => ?_) (fun q_22 => ?_)
        · refine j_iconst C dX6_isWithin_181 ?_
          refine j_zret C hQ (by decide) dX6_isWithin_182 ?_
          refine ⟨rfl, ?_⟩
          unfold gWi bwb
          simp_all [bI]
          try omega
        · refine j_aload_n C dX6_isWithin_158 rfl ?_
          refine j_get (v := sr 73) C 72 0 (by decide) (en_72 _ _) rfl (by decide) (fun w h => List.mem_cons_of_mem _ (List.mem_append_right _ h)) (List.mem_of_getElem? (i := 1) rfl) dX6_isWithin_159 rfl ?_
          refine j_bipush C dX6_isWithin_162 (by decide) ?_
          refine j_iload_n C dX6_isWithin_164 rfl ?_
          refine j_iadd C dX6_isWithin_165 ?_
          refine j_iald C (row_73 O) (14 + c) (by omega) (by omega) dX6_isWithin_166 ?_
          refine j_top (hg (14 + c) (by omega)) ?_
          refine j_iload C dX6_isWithin_167 rfl ?_
          refine j_iload C dX6_isWithin_169 rfl ?_
          refine j_doI (st := []) (j_runS C (kX6_in (g (14 + c)) (g (14 + a)) (((g (14 + a)) + (g (14 + b))) - (g (14 + a))) (by have := ok.x ha; have := ok.x hb; have := ok.x hc; have := ok.y ha; have := ok.y hb; have := ok.y hc; omega) (by have := ok.x ha; have := ok.x hb; have := ok.x hc; have := ok.y ha; have := ok.y hb; have := ok.y hc; omega) (by have := ok.x ha; have := ok.x hb; have := ok.x hc; have := ok.y ha; have := ok.y hb; have := ok.y hc; omega)) ggX6_isWithin_X6_in sgX6_in (List.mem_of_getElem? (i := 7) rfl) (List.mem_of_getElem? (i := 5) rfl) (List.mem_of_getElem? (i := 8) rfl) ⟨by decide, by decide⟩ rfl rfl (Nat.le_of_ble_eq_true rfl) dX6_isWithin_171) (fun z_23 V_24 h_25 => ?_)
          obtain ⟨rfl, rfl⟩ := h_25
          refine j_ifb_eq (tgt := 181) C dX6_isWithin_174 (by decide) (fun q_26 => ?_) (fun q_26 => ?_)
          · refine j_iconst C dX6_isWithin_181 ?_
            refine j_zret C hQ (by decide) dX6_isWithin_182 ?_
            refine ⟨rfl, ?_⟩
            unfold gWi bwb
            simp_all [bI]
            try omega
          · refine j_iconst C dX6_isWithin_177 ?_
            refine j_goto (tgt := 182) C dX6_isWithin_178 (by decide) ?_
            refine j_zret C hQ (by decide) dX6_isWithin_182 ?_
            refine ⟨rfl, ?_⟩
            unfold gWi bwb
            simp_all [bI]
            try omega
  · refine j_aload_n C dX6_isWithin_19 rfl ?_
    refine j_get (v := sr 73) C 72 0 (by decide) (en_72 _ _) rfl (by decide) (fun w h => List.mem_cons_of_mem _ (List.mem_append_right _ h)) (List.mem_of_getElem? (i := 1) rfl) dX6_isWithin_20 rfl ?_
    refine j_iconst C dX6_isWithin_23 ?_
    refine j_iload_n C dX6_isWithin_24 rfl ?_
    refine j_iadd C dX6_isWithin_25 ?_
    refine j_iald C (row_73 O) (4 + a) (by omega) (by omega) dX6_isWithin_26 ?_
    refine j_top (hg (4 + a) (by omega)) ?_
    refine j_goto (tgt := 38) C dX6_isWithin_27 (by decide) ?_
    refine j_istore (lv' := [(0, sr 72), (1, si (a : Int)), (2, si (b : Int)), (3, si (c : Int)), (4, si (g (4 + a)))]) C dX6_isWithin_38 (by decide) rfl ?_
    refine j_aload_n C dX6_isWithin_40 rfl ?_
    refine j_get (v := sr 73) C 72 0 (by decide) (en_72 _ _) rfl (by decide) (fun w h => List.mem_cons_of_mem _ (List.mem_append_right _ h)) (List.mem_of_getElem? (i := 1) rfl) dX6_isWithin_41 rfl ?_
    refine j_bipush C dX6_isWithin_44 (by decide) ?_
    refine j_iload_n C dX6_isWithin_46 rfl ?_
    refine j_iadd C dX6_isWithin_47 ?_
    refine j_iald C (row_73 O) (14 + a) (by omega) (by omega) dX6_isWithin_48 ?_
    refine j_top (hg (14 + a) (by omega)) ?_
    refine j_aload_n C dX6_isWithin_49 rfl ?_
    refine j_get (v := sr 73) C 72 0 (by decide) (en_72 _ _) rfl (by decide) (fun w h => List.mem_cons_of_mem _ (List.mem_append_right _ h)) (List.mem_of_getElem? (i := 1) rfl) dX6_isWithin_50 rfl ?_
    refine j_bipush C dX6_isWithin_53 (by decide) ?_
    refine j_iload_n C dX6_isWithin_55 rfl ?_
    refine j_iadd C dX6_isWithin_56 ?_
    refine j_iald C (row_73 O) (14 + b) (by omega) (by omega) dX6_isWithin_57 ?_
    refine j_top (hg (14 + b) (by omega)) ?_
    refine j_icmp_ge (tgt := 73) C dX6_isWithin_58 (by decide) (by have := ok.x ha; have := ok.x hb; have := ok.x hc; have := ok.y ha; have := ok.y hb; have := ok.y hc; omega) (by have := ok.x ha; have := ok.x hb; have := ok.x hc; have := ok.y ha; have := ok.y hb; have := ok.y hc; omega) (fun q_27 => ?_) (fun q_27 => ?_)
    · refine j_aload_n C dX6_isWithin_73 rfl ?_
      refine j_get (v := sr 73) C 72 0 (by decide) (en_72 _ _) rfl (by decide) (fun w h => List.mem_cons_of_mem _ (List.mem_append_right _ h)) (List.mem_of_getElem? (i := 1) rfl) dX6_isWithin_74 rfl ?_
      refine j_bipush C dX6_isWithin_77 (by decide) ?_
      refine j_iload_n C dX6_isWithin_79 rfl ?_
      refine j_iadd C dX6_isWithin_80 ?_
      refine j_iald C (row_73 O) (14 + b) (by omega) (by omega) dX6_isWithin_81 ?_
      refine j_top (hg (14 + b) (by omega)) ?_
      refine j_istore (lv' := [(0, sr 72), (1, si (a : Int)), (2, si (b : Int)), (3, si (c : Int)), (4, si (g (4 + a))), (5, si (g (14 + b)))]) C dX6_isWithin_82 (by decide) rfl ?_
      refine j_aload_n C dX6_isWithin_84 rfl ?_
      refine j_get (v := sr 73) C 72 0 (by decide) (en_72 _ _) rfl (by decide) (fun w h => List.mem_cons_of_mem _ (List.mem_append_right _ h)) (List.mem_of_getElem? (i := 1) rfl) dX6_isWithin_85 rfl ?_
      refine j_iconst C dX6_isWithin_88 ?_
      refine j_iload_n C dX6_isWithin_89 rfl ?_
      refine j_iadd C dX6_isWithin_90 ?_
      refine j_iald C (row_73 O) (4 + a) (by omega) (by omega) dX6_isWithin_91 ?_
      refine j_top (hg (4 + a) (by omega)) ?_
      refine j_aload_n C dX6_isWithin_92 rfl ?_
      refine j_get (v := sr 73) C 72 0 (by decide) (en_72 _ _) rfl (by decide) (fun w h => List.mem_cons_of_mem _ (List.mem_append_right _ h)) (List.mem_of_getElem? (i := 1) rfl) dX6_isWithin_93 rfl ?_
      refine j_iconst C dX6_isWithin_96 ?_
      refine j_iload_n C dX6_isWithin_97 rfl ?_
      refine j_iadd C dX6_isWithin_98 ?_
      refine j_iald C (row_73 O) (4 + b) (by omega) (by omega) dX6_isWithin_99 ?_
      refine j_top (hg (4 + b) (by omega)) ?_
      refine j_iadd C dX6_isWithin_100 ?_
      refine j_iload C dX6_isWithin_101 rfl ?_
      refine j_isub C dX6_isWithin_103 ?_
      refine j_istore (lv' := [(0, sr 72), (1, si (a : Int)), (2, si (b : Int)), (3, si (c : Int)), (4, si (g (4 + a))), (5, si (g (14 + b))), (6, si (((g (4 + a)) + (g (4 + b))) - (g (4 + a))))]) C dX6_isWithin_104 (by decide) rfl ?_
      refine j_aload_n C dX6_isWithin_106 rfl ?_
      refine j_get (v := sr 73) C 72 0 (by decide) (en_72 _ _) rfl (by decide) (fun w h => List.mem_cons_of_mem _ (List.mem_append_right _ h)) (List.mem_of_getElem? (i := 1) rfl) dX6_isWithin_107 rfl ?_
      refine j_bipush C dX6_isWithin_110 (by decide) ?_
      refine j_iload_n C dX6_isWithin_112 rfl ?_
      refine j_iadd C dX6_isWithin_113 ?_
      refine j_iald C (row_73 O) (14 + a) (by omega) (by omega) dX6_isWithin_114 ?_
      refine j_top (hg (14 + a) (by omega)) ?_
      refine j_aload_n C dX6_isWithin_115 rfl ?_
      refine j_get (v := sr 73) C 72 0 (by decide) (en_72 _ _) rfl (by decide) (fun w h => List.mem_cons_of_mem _ (List.mem_append_right _ h)) (List.mem_of_getElem? (i := 1) rfl) dX6_isWithin_116 rfl ?_
      refine j_bipush C dX6_isWithin_119 (by decide) ?_
      refine j_iload_n C dX6_isWithin_121 rfl ?_
      refine j_iadd C dX6_isWithin_122 ?_
      refine j_iald C (row_73 O) (14 + b) (by omega) (by omega) dX6_isWithin_123 ?_
      refine j_top (hg (14 + b) (by omega)) ?_
      refine j_iadd C dX6_isWithin_124 ?_
      refine j_iload C dX6_isWithin_125 rfl ?_
      refine j_isub C dX6_isWithin_127 ?_
      refine j_istore (lv' := [(0, sr 72), (1, si (a : Int)), (2, si (b : Int)), (3, si (c : Int)), (4, si (g (4 + a))), (5, si (g (14 + b))), (6, si (((g (4 + a)) + (g (4 + b))) - (g (4 + a)))), (7, si (((g (14 + a)) + (g (14 + b))) - (g (14 + b))))]) C dX6_isWithin_128 (by decide) rfl ?_
      refine j_aload_n C dX6_isWithin_130 rfl ?_
      refine j_iload_n C dX6_isWithin_131 rfl ?_
      refine j_iload_n C dX6_isWithin_132 rfl ?_
      refine j_iload_n C dX6_isWithin_133 rfl ?_
      refine j_doI (st := []) (j_runV C (kX6_side hg a b c rfl rfl rfl (by omega) (by omega) (by omega)) gX6_isWithin_X6_side sgX6_side rfl ⟨by decide, by decide⟩ (by decide) (en_72 _ _) rfl rfl rfl (Nat.le_of_ble_eq_true rfl) dX6_isWithin_134) (fun z_28 V_29 h_30 => ?_)
      obtain ⟨rfl, rfl⟩ := h_30
      refine j_if_ne (tgt := 181) C dX6_isWithin_137 (by decide) (by have := ok.s (a := a) (b := b) (c := c) (by omega) (by omega) (by omega); omega) (fun q_31 => ?_) (fun q_31 => ?_)
      · refine j_iconst C dX6_isWithin_181 ?_
        refine j_zret C hQ (by decide) dX6_isWithin_182 ?_
        refine ⟨rfl, ?_⟩
        unfold gWi bwb
        simp_all [bI]
        try omega
      · refine j_aload_n C dX6_isWithin_140 rfl ?_
        refine j_get (v := sr 73) C 72 0 (by decide) (en_72 _ _) rfl (by decide) (fun w h => List.mem_cons_of_mem _ (List.mem_append_right _ h)) (List.mem_of_getElem? (i := 1) rfl) dX6_isWithin_141 rfl ?_
        refine j_iconst C dX6_isWithin_144 ?_
        refine j_iload_n C dX6_isWithin_145 rfl ?_
        refine j_iadd C dX6_isWithin_146 ?_
        refine j_iald C (row_73 O) (4 + c) (by omega) (by omega) dX6_isWithin_147 ?_
        refine j_top (hg (4 + c) (by omega)) ?_
        refine j_iload C dX6_isWithin_148 rfl ?_
        refine j_iload C dX6_isWithin_150 rfl ?_
        refine j_doI (st := []) (j_runS C (kX6_in (g (4 + c)) (g (4 + a)) (((g (4 + a)) + (g (4 + b))) - (g (4 + a))) (by have := ok.x ha; have := ok.x hb; have := ok.x hc; have := ok.y ha; have := ok.y hb; have := ok.y hc; omega) (by have := ok.x ha; have := ok.x hb; have := ok.x hc; have := ok.y ha; have := ok.y hb; have := ok.y hc; omega) (by have := ok.x ha; have := ok.x hb; have := ok.x hc; have := ok.y ha; have := ok.y hb; have := ok.y hc; omega)) ggX6_isWithin_X6_in sgX6_in (List.mem_of_getElem? (i := 7) rfl) (List.mem_of_getElem? (i := 5) rfl) (List.mem_of_getElem? (i := 8) rfl) ⟨by decide, by decide⟩ rfl rfl (Nat.le_of_ble_eq_true rfl) dX6_isWithin_152) (fun z_32 V_33 h_34 => ?_)
        obtain ⟨rfl, rfl⟩ := h_34
        refine j_ifb_eq (tgt := 181) C dX6_isWithin_155 (by decide) (fun q_35 => ?_) (fun q_35 => ?_)
        · refine j_iconst C dX6_isWithin_181 ?_
          refine j_zret C hQ (by decide) dX6_isWithin_182 ?_
          refine ⟨rfl, ?_⟩
          unfold gWi bwb
          simp_all [bI]
          try omega
        · refine j_aload_n C dX6_isWithin_158 rfl ?_
          refine j_get (v := sr 73) C 72 0 (by decide) (en_72 _ _) rfl (by decide) (fun w h => List.mem_cons_of_mem _ (List.mem_append_right _ h)) (List.mem_of_getElem? (i := 1) rfl) dX6_isWithin_159 rfl ?_
          refine j_bipush C dX6_isWithin_162 (by decide) ?_
          refine j_iload_n C dX6_isWithin_164 rfl ?_
          refine j_iadd C dX6_isWithin_165 ?_
          refine j_iald C (row_73 O) (14 + c) (by omega) (by omega) dX6_isWithin_166 ?_
          refine j_top (hg (14 + c) (by omega)) ?_
          refine j_iload C dX6_isWithin_167 rfl ?_
          refine j_iload C dX6_isWithin_169 rfl ?_
          refine j_doI (st := []) (j_runS C (kX6_in (g (14 + c)) (g (14 + b)) (((g (14 + a)) + (g (14 + b))) - (g (14 + b))) (by have := ok.x ha; have := ok.x hb; have := ok.x hc; have := ok.y ha; have := ok.y hb; have := ok.y hc; omega) (by have := ok.x ha; have := ok.x hb; have := ok.x hc; have := ok.y ha; have := ok.y hb; have := ok.y hc; omega) (by have := ok.x ha; have := ok.x hb; have := ok.x hc; have := ok.y ha; have := ok.y hb; have := ok.y hc; omega)) ggX6_isWithin_X6_in sgX6_in (List.mem_of_getElem? (i := 7) rfl) (List.mem_of_getElem? (i := 5) rfl) (List.mem_of_getElem? (i := 8) rfl) ⟨by decide, by decide⟩ rfl rfl (Nat.le_of_ble_eq_true rfl) dX6_isWithin_171) (fun z_36 V_37 h_38 => ?_)
          obtain ⟨rfl, rfl⟩ := h_38
          refine j_ifb_eq (tgt := 181) C dX6_isWithin_174 (by decide) (fun q_39 => ?_) (fun q_39 => ?_)
          · refine j_iconst C dX6_isWithin_181 ?_
            refine j_zret C hQ (by decide) dX6_isWithin_182 ?_
            refine ⟨rfl, ?_⟩
            unfold gWi bwb
            simp_all [bI]
            try omega
          · refine j_iconst C dX6_isWithin_177 ?_
            refine j_goto (tgt := 182) C dX6_isWithin_178 (by decide) ?_
            refine j_zret C hQ (by decide) dX6_isWithin_182 ?_
            refine ⟨rfl, ?_⟩
            unfold gWi bwb
            simp_all [bI]
            try omega
    · refine j_aload_n C dX6_isWithin_61 rfl ?_
      refine j_get (v := sr 73) C 72 0 (by decide) (en_72 _ _) rfl (by decide) (fun w h => List.mem_cons_of_mem _ (List.mem_append_right _ h)) (List.mem_of_getElem? (i := 1) rfl) dX6_isWithin_62 rfl ?_
      refine j_bipush C dX6_isWithin_65 (by decide) ?_
      refine j_iload_n C dX6_isWithin_67 rfl ?_
      refine j_iadd C dX6_isWithin_68 ?_
      refine j_iald C (row_73 O) (14 + a) (by omega) (by omega) dX6_isWithin_69 ?_
      refine j_top (hg (14 + a) (by omega)) ?_
      refine j_goto (tgt := 82) C dX6_isWithin_70 (by decide) ?_
      refine j_istore (lv' := [(0, sr 72), (1, si (a : Int)), (2, si (b : Int)), (3, si (c : Int)), (4, si (g (4 + a))), (5, si (g (14 + a)))]) C dX6_isWithin_82 (by decide) rfl ?_
      refine j_aload_n C dX6_isWithin_84 rfl ?_
      refine j_get (v := sr 73) C 72 0 (by decide) (en_72 _ _) rfl (by decide) (fun w h => List.mem_cons_of_mem _ (List.mem_append_right _ h)) (List.mem_of_getElem? (i := 1) rfl) dX6_isWithin_85 rfl ?_
      refine j_iconst C dX6_isWithin_88 ?_
      refine j_iload_n C dX6_isWithin_89 rfl ?_
      refine j_iadd C dX6_isWithin_90 ?_
      refine j_iald C (row_73 O) (4 + a) (by omega) (by omega) dX6_isWithin_91 ?_
      refine j_top (hg (4 + a) (by omega)) ?_
      refine j_aload_n C dX6_isWithin_92 rfl ?_
      refine j_get (v := sr 73) C 72 0 (by decide) (en_72 _ _) rfl (by decide) (fun w h => List.mem_cons_of_mem _ (List.mem_append_right _ h)) (List.mem_of_getElem? (i := 1) rfl) dX6_isWithin_93 rfl ?_
      refine j_iconst C dX6_isWithin_96 ?_
      refine j_iload_n C dX6_isWithin_97 rfl ?_
      refine j_iadd C dX6_isWithin_98 ?_
      refine j_iald C (row_73 O) (4 + b) (by omega) (by omega) dX6_isWithin_99 ?_
      refine j_top (hg (4 + b) (by omega)) ?_
      refine j_iadd C dX6_isWithin_100 ?_
      refine j_iload C dX6_isWithin_101 rfl ?_
      refine j_isub C dX6_isWithin_103 ?_
      refine j_istore (lv' := [(0, sr 72), (1, si (a : Int)), (2, si (b : Int)), (3, si (c : Int)), (4, si (g (4 + a))), (5, si (g (14 + a))), (6, si (((g (4 + a)) + (g (4 + b))) - (g (4 + a))))]) C dX6_isWithin_104 (by decide) rfl ?_
      refine j_aload_n C dX6_isWithin_106 rfl ?_
      refine j_get (v := sr 73) C 72 0 (by decide) (en_72 _ _) rfl (by decide) (fun w h => List.mem_cons_of_mem _ (List.mem_append_right _ h)) (List.mem_of_getElem? (i := 1) rfl) dX6_isWithin_107 rfl ?_
      refine j_bipush C dX6_isWithin_110 (by decide) ?_
      refine j_iload_n C dX6_isWithin_112 rfl ?_
      refine j_iadd C dX6_isWithin_113 ?_
      refine j_iald C (row_73 O) (14 + a) (by omega) (by omega) dX6_isWithin_114 ?_
      refine j_top (hg (14 + a) (by omega)) ?_
      refine j_aload_n C dX6_isWithin_115 rfl ?_
      refine j_get (v := sr 73) C 72 0 (by decide) (en_72 _ _) rfl (by decide) (fun w h => List.mem_cons_of_mem _ (List.mem_append_right _ h)) (List.mem_of_getElem? (i := 1) rfl) dX6_isWithin_116 rfl ?_
      refine j_bipush C dX6_isWithin_119 (by decide) ?_
      refine j_iload_n C dX6_isWithin_121 rfl ?_
      refine j_iadd C dX6_isWithin_122 ?_
      refine j_iald C (row_73 O) (14 + b) (by omega) (by omega) dX6_isWithin_123 ?_
      refine j_top (hg (14 + b) (by omega)) ?_
      refine j_iadd C dX6_isWithin_124 ?_
      refine j_iload C dX6_isWithin_125 rfl ?_
      refine j_isub C dX6_isWithin_127 ?_
      refine j_istore (lv' := [(0, sr 72), (1, si (a : Int)), (2, si (b : Int)), (3, si (c : Int)), (4, si (g (4 + a))), (5, si (g (14 + a))), (6, si (((g (4 + a)) + (g (4 + b))) - (g (4 + a)))), (7, si (((g (14 + a)) + (g (14 + b))) - (g (14 + a))))]) C dX6_isWithin_128 (by decide) rfl ?_
      refine j_aload_n C dX6_isWithin_130 rfl ?_
      refine j_iload_n C dX6_isWithin_131 rfl ?_
      refine j_iload_n C dX6_isWithin_132 rfl ?_
      refine j_iload_n C dX6_isWithin_133 rfl ?_
      refine j_doI (st := []) (j_runV C (kX6_side hg a b c rfl rfl rfl (by omega) (by omega) (by omega)) gX6_isWithin_X6_side sgX6_side rfl ⟨by decide, by decide⟩ (by decide) (en_72 _ _) rfl rfl rfl (Nat.le_of_ble_eq_true rfl) dX6_isWithin_134) (fun z_40 V_41 h_42 => ?_)
      obtain ⟨rfl, rfl⟩ := h_42
      refine j_if_ne (tgt := 181) C dX6_isWithin_137 (by decide) (by have := ok.s (a := a) (b := b) (c := c) (by omega) (by omega) (by omega); omega) (fun q_43 => ?_) (fun q_43 => ?_)
      · refine j_iconst C dX6_isWithin_181 ?_
        refine j_zret C hQ (by decide) dX6_isWithin_182 ?_
        refine ⟨rfl, ?_⟩
        unfold gWi bwb
        simp_all [bI]
        try omega
      · refine j_aload_n C dX6_isWithin_140 rfl ?_
        refine j_get (v := sr 73) C 72 0 (by decide) (en_72 _ _) rfl (by decide) (fun w h => List.mem_cons_of_mem _ (List.mem_append_right _ h)) (List.mem_of_getElem? (i := 1) rfl) dX6_isWithin_141 rfl ?_
        refine j_iconst C dX6_isWithin_144 ?_
        refine j_iload_n C dX6_isWithin_145 rfl ?_
        refine j_iadd C dX6_isWithin_146 ?_
        refine j_iald C (row_73 O) (4 + c) (by omega) (by omega) dX6_isWithin_147 ?_
        refine j_top (hg (4 + c) (by omega)) ?_
        refine j_iload C dX6_isWithin_148 rfl ?_
        refine j_iload C dX6_isWithin_150 rfl ?_
        refine j_doI (st := []) (j_runS C (kX6_in (g (4 + c)) (g (4 + a)) (((g (4 + a)) + (g (4 + b))) - (g (4 + a))) (by have := ok.x ha; have := ok.x hb; have := ok.x hc; have := ok.y ha; have := ok.y hb; have := ok.y hc; omega) (by have := ok.x ha; have := ok.x hb; have := ok.x hc; have := ok.y ha; have := ok.y hb; have := ok.y hc; omega) (by have := ok.x ha; have := ok.x hb; have := ok.x hc; have := ok.y ha; have := ok.y hb; have := ok.y hc; omega)) ggX6_isWithin_X6_in sgX6_in (List.mem_of_getElem? (i := 7) rfl) (List.mem_of_getElem? (i := 5) rfl) (List.mem_of_getElem? (i := 8) rfl) ⟨by decide, by decide⟩ rfl rfl (Nat.le_of_ble_eq_true rfl) dX6_isWithin_152) (fun z_44 V_45 h_46 => ?_)
        obtain ⟨rfl, rfl⟩ := h_46
        refine j_ifb_eq (tgt := 181) C dX6_isWithin_155 (by decide) (fun q_47 => ?_) (fun q_47 => ?_)
        · refine j_iconst C dX6_isWithin_181 ?_
          refine j_zret C hQ (by decide) dX6_isWithin_182 ?_
          refine ⟨rfl, ?_⟩
          unfold gWi bwb
          simp_all [bI]
          try omega
        · refine j_aload_n C dX6_isWithin_158 rfl ?_
          refine j_get (v := sr 73) C 72 0 (by decide) (en_72 _ _) rfl (by decide) (fun w h => List.mem_cons_of_mem _ (List.mem_append_right _ h)) (List.mem_of_getElem? (i := 1) rfl) dX6_isWithin_159 rfl ?_
          refine j_bipush C dX6_isWithin_162 (by decide) ?_
          refine j_iload_n C dX6_isWithin_164 rfl ?_
          refine j_iadd C dX6_isWithin_165 ?_
          refine j_iald C (row_73 O) (14 + c) (by omega) (by omega) dX6_isWithin_166 ?_
          refine j_top (hg (14 + c) (by omega)) ?_
          refine j_iload C dX6_isWithin_167 rfl ?_
          refine j_iload C dX6_isWithin_169 rfl ?_
          refine j_doI (st := []) (j_runS C (kX6_in (g (14 + c)) (g (14 + a)) (((g (14 + a)) + (g (14 + b))) - (g (14 + a))) (by have := ok.x ha; have := ok.x hb; have := ok.x hc; have := ok.y ha; have := ok.y hb; have := ok.y hc; omega) (by have := ok.x ha; have := ok.x hb; have := ok.x hc; have := ok.y ha; have := ok.y hb; have := ok.y hc; omega) (by have := ok.x ha; have := ok.x hb; have := ok.x hc; have := ok.y ha; have := ok.y hb; have := ok.y hc; omega)) ggX6_isWithin_X6_in sgX6_in (List.mem_of_getElem? (i := 7) rfl) (List.mem_of_getElem? (i := 5) rfl) (List.mem_of_getElem? (i := 8) rfl) ⟨by decide, by decide⟩ rfl rfl (Nat.le_of_ble_eq_true rfl) dX6_isWithin_171) (fun z_48 V_49 h_50 => ?_)
          obtain ⟨rfl, rfl⟩ := h_50
          refine j_ifb_eq (tgt := 181) C dX6_isWithin_174 (by decide) (fun q_51 => ?_) (fun q_51 => ?_)
          · refine j_iconst C dX6_isWithin_181 ?_
            refine j_zret C hQ (by decide) dX6_isWithin_182 ?_
            refine ⟨rfl, ?_⟩
            unfold gWi bwb
            simp_all [bI]
            try omega
          · refine j_iconst C dX6_isWithin_177 ?_
            refine j_goto (tgt := 182) C dX6_isWithin_178 (by decide) ?_
            refine j_zret C hQ (by decide) dX6_isWithin_182 ?_
            refine ⟨rfl, ?_⟩
            unfold gWi bwb
            simp_all [bI]
            try omega
def rX6_doMeet : Room := { frames := 2, cells := 0, slots := 0, locals := 50 }
theorem sgX6_doMeet : sg yX6_doMeet wsX6_doMeet cX6_doMeet 6 (some .boolean) rX6_doMeet 4 := ⟨⟨_, rfl⟩, rfl, rfl, by decide, by decide, by decide +kernel⟩
set_option maxHeartbeats 4000000 in
set_option maxRecDepth 100000 in
theorem kX6_doMeet {O : OmT} {l : Launch} {V : Mem} {g : Nat → Int} (hg : mdl V g) (ok : okg g) {za : Int} {zb : Int} {zc : Int} {zd : Int} (a b c d : Nat) (ea : za = (a : Int)) (eb : zb = (b : Int)) (ec : zc = (c : Int)) (ed : zd = (d : Int)) (ha : a < 10) (hb : b < 10) (hc : c < 10) (hd : d < 10) : MI O l yX6_doMeet wsX6_doMeet rX6_doMeet [sr 72, si za, si zb, si zc, si zd] V (fun z V2 => V = V2 ∧ z = bI (gDm g a b c d)) := by
  refine mi_of (cc := cX6_doMeet) (nL := 6) (rt := (some .boolean)) (by decide) rfl rfl (Nat.le_of_ble_eq_true rfl) (fun F hF C hQ => ?_)
  subst hF
  subst ea eb ec ed
  change J O F rX6_doMeet 6 V 0 [(0, sr 72), (1, si (a : Int)), (2, si (b : Int)), (3, si (c : Int)), (4, si (d : Int))] []
  refine j_aload_n C dX6_doMeet_0 rfl ?_
  refine j_iload_n C dX6_doMeet_1 rfl ?_
  refine j_iload_n C dX6_doMeet_2 rfl ?_
  refine j_iload_n C dX6_doMeet_3 rfl ?_
  refine j_doI (st := []) (j_runV C (kX6_isWithin hg ok a b c rfl rfl rfl (by omega) (by omega) (by omega)) gX6_doMeet_X6_isWithin sgX6_isWithin rfl ⟨by decide, by decide⟩ (by decide) (en_72 _ _) rfl rfl rfl (Nat.le_of_ble_eq_true rfl) dX6_doMeet_4) (fun z_1 V_2 h_3 => ?_)
  obtain ⟨rfl, rfl⟩ := h_3
  refine j_ifb_ne (tgt := 43) C dX6_doMeet_7 (by decide) (fun q_4 => ?_) (fun q_4 => ?_)
  · refine j_iconst C dX6_doMeet_43 ?_
    refine j_zret C hQ (by decide) dX6_doMeet_44 ?_
    refine ⟨rfl, ?_⟩
    unfold gDm
    simp_all [bI]
    try omega
  · refine j_aload_n C dX6_doMeet_10 rfl ?_
    refine j_iload_n C dX6_doMeet_11 rfl ?_
    refine j_iload_n C dX6_doMeet_12 rfl ?_
    refine j_iload C dX6_doMeet_13 rfl ?_
    refine j_doI (st := []) (j_runV C (kX6_isWithin hg ok a b d rfl rfl rfl (by omega) (by omega) (by omega)) gX6_doMeet_X6_isWithin sgX6_isWithin rfl ⟨by decide, by decide⟩ (by decide) (en_72 _ _) rfl rfl rfl (Nat.le_of_ble_eq_true rfl) dX6_doMeet_15) (fun z_5 V_6 h_7 => ?_)
    obtain ⟨rfl, rfl⟩ := h_7
    refine j_ifb_ne (tgt := 43) C dX6_doMeet_18 (by decide) (fun q_8 => ?_) (fun q_8 => ?_)
    · refine j_iconst C dX6_doMeet_43 ?_
      refine j_zret C hQ (by decide) dX6_doMeet_44 ?_
      refine ⟨rfl, ?_⟩
      unfold gDm
      simp_all [bI]
      try omega
    · refine j_aload_n C dX6_doMeet_21 rfl ?_
      refine j_iload_n C dX6_doMeet_22 rfl ?_
      refine j_iload C dX6_doMeet_23 rfl ?_
      refine j_iload_n C dX6_doMeet_25 rfl ?_
      refine j_doI (st := []) (j_runV C (kX6_isWithin hg ok c d a rfl rfl rfl (by omega) (by omega) (by omega)) gX6_doMeet_X6_isWithin sgX6_isWithin rfl ⟨by decide, by decide⟩ (by decide) (en_72 _ _) rfl rfl rfl (Nat.le_of_ble_eq_true rfl) dX6_doMeet_26) (fun z_9 V_10 h_11 => ?_)
      obtain ⟨rfl, rfl⟩ := h_11
      refine j_ifb_ne (tgt := 43) C dX6_doMeet_29 (by decide) (fun q_12 => ?_) (fun q_12 => ?_)
      · refine j_iconst C dX6_doMeet_43 ?_
        refine j_zret C hQ (by decide) dX6_doMeet_44 ?_
        refine ⟨rfl, ?_⟩
        unfold gDm
        simp_all [bI]
        try omega
      · refine j_aload_n C dX6_doMeet_32 rfl ?_
        refine j_iload_n C dX6_doMeet_33 rfl ?_
        refine j_iload C dX6_doMeet_34 rfl ?_
        refine j_iload_n C dX6_doMeet_36 rfl ?_
        refine j_doI (st := []) (j_runV C (kX6_isWithin hg ok c d b rfl rfl rfl (by omega) (by omega) (by omega)) gX6_doMeet_X6_isWithin sgX6_isWithin rfl ⟨by decide, by decide⟩ (by decide) (en_72 _ _) rfl rfl rfl (Nat.le_of_ble_eq_true rfl) dX6_doMeet_37) (fun z_13 V_14 h_15 => ?_)
        obtain ⟨rfl, rfl⟩ := h_15
        refine j_ifb_eq (tgt := 45) C dX6_doMeet_40 (by decide) (fun q_16 => ?_) (fun q_16 => ?_)
        · refine j_aload_n C dX6_doMeet_45 rfl ?_
          refine j_iload_n C dX6_doMeet_46 rfl ?_
          refine j_iload_n C dX6_doMeet_47 rfl ?_
          refine j_iload_n C dX6_doMeet_48 rfl ?_
          refine j_doI (st := []) (j_runV C (kX6_side hg a b c rfl rfl rfl (by omega) (by omega) (by omega)) gX6_doMeet_X6_side sgX6_side rfl ⟨by decide, by decide⟩ (by decide) (en_72 _ _) rfl rfl rfl (Nat.le_of_ble_eq_true rfl) dX6_doMeet_49) (fun z_17 V_18 h_19 => ?_)
          obtain ⟨rfl, rfl⟩ := h_19
          refine j_if_le (tgt := 59) C dX6_doMeet_52 (by decide) (by have := ok.s (a := a) (b := b) (c := c) (by omega) (by omega) (by omega); omega) (fun q_20 => ?_) (fun q_20 => ?_)
          · refine j_iconst C dX6_doMeet_59 ?_
            refine j_aload_n C dX6_doMeet_60 rfl ?_
            refine j_iload_n C dX6_doMeet_61 rfl ?_
            refine j_iload_n C dX6_doMeet_62 rfl ?_
            refine j_iload C dX6_doMeet_63 rfl ?_
            refine j_doI (st := [si 0]) (j_runV C (kX6_side hg a b d rfl rfl rfl (by omega) (by omega) (by omega)) gX6_doMeet_X6_side sgX6_side rfl ⟨by decide, by decide⟩ (by decide) (en_72 _ _) rfl rfl rfl (Nat.le_of_ble_eq_true rfl) dX6_doMeet_65) (fun z_21 V_22 h_23 => ?_)
            obtain ⟨rfl, rfl⟩ := h_23
            refine j_if_le (tgt := 75) C dX6_doMeet_68 (by decide) (by have := ok.s (a := a) (b := b) (c := d) (by omega) (by omega) (by omega); omega) (fun q_24 => ?_) (fun q_24 => ?_)
            · refine j_iconst C dX6_doMeet_75 ?_
              refine j_icmp_eq (tgt := 114) C dX6_doMeet_76 (by decide) (by decide) (by decide) (fun q_25 => ?_) (fun q_25 => ?_)
              · refine j_iconst C dX6_doMeet_114 ?_
                refine j_goto (tgt := 119) C dX6_doMeet_115 (by decide) ?_
                refine j_istore (lv' := [(0, sr 72), (1, si (a : Int)), (2, si (b : Int)), (3, si (c : Int)), (4, si (d : Int)), (5, si 1)]) C dX6_doMeet_119 (by decide) rfl ?_
                refine j_iload C dX6_doMeet_121 rfl ?_
                refine j_if_ne (tgt := 173) C dX6_doMeet_123 (by decide) (by decide) (fun q_26 => ?_) (fun q_26 => ?_)
                · refine j_iconst C dX6_doMeet_173 ?_
                  refine j_zret C hQ (by decide) dX6_doMeet_174 ?_
                  refine ⟨rfl, ?_⟩
                  unfold gDm
                  simp_all [bI]
                  try omega
                · omega
              · omega
            · refine j_iconst C dX6_doMeet_71 ?_
              refine j_goto (tgt := 76) C dX6_doMeet_72 (by decide) ?_
              refine j_icmp_eq (tgt := 114) C dX6_doMeet_76 (by decide) (by decide) (by decide) (fun q_27 => ?_) (fun q_27 => ?_)
              · omega
              · refine j_aload_n C dX6_doMeet_79 rfl ?_
                refine j_iload_n C dX6_doMeet_80 rfl ?_
                refine j_iload C dX6_doMeet_81 rfl ?_
                refine j_iload_n C dX6_doMeet_83 rfl ?_
                refine j_doI (st := []) (j_runV C (kX6_side hg c d a rfl rfl rfl (by omega) (by omega) (by omega)) gX6_doMeet_X6_side sgX6_side rfl ⟨by decide, by decide⟩ (by decide) (en_72 _ _) rfl rfl rfl (Nat.le_of_ble_eq_true rfl) dX6_doMeet_84) (fun z_28 V_29 h_30 => ?_)
                obtain ⟨rfl, rfl⟩ := h_30
                refine j_if_le (tgt := 94) C dX6_doMeet_87 (by decide) (by have := ok.s (a := c) (b := d) (c := a) (by omega) (by omega) (by omega); omega) (fun q_31 => ?_) (fun q_31 => ?_)
                · refine j_iconst C dX6_doMeet_94 ?_
                  refine j_aload_n C dX6_doMeet_95 rfl ?_
                  refine j_iload_n C dX6_doMeet_96 rfl ?_
                  refine j_iload C dX6_doMeet_97 rfl ?_
                  refine j_iload_n C dX6_doMeet_99 rfl ?_
                  refine j_doI (st := [si 0]) (j_runV C (kX6_side hg c d b rfl rfl rfl (by omega) (by omega) (by omega)) gX6_doMeet_X6_side sgX6_side rfl ⟨by decide, by decide⟩ (by decide) (en_72 _ _) rfl rfl rfl (Nat.le_of_ble_eq_true rfl) dX6_doMeet_100) (fun z_32 V_33 h_34 => ?_)
                  obtain ⟨rfl, rfl⟩ := h_34
                  refine j_if_le (tgt := 110) C dX6_doMeet_103 (by decide) (by have := ok.s (a := c) (b := d) (c := b) (by omega) (by omega) (by omega); omega) (fun q_35 => ?_) (fun q_35 => ?_)
                  · refine j_iconst C dX6_doMeet_110 ?_
                    refine j_icmp_ne (tgt := 118) C dX6_doMeet_111 (by decide) (by decide) (by decide) (fun q_36 => ?_) (fun q_36 => ?_)
                    · omega
                    · refine j_iconst C dX6_doMeet_114 ?_
                      refine j_goto (tgt := 119) C dX6_doMeet_115 (by decide) ?_
                      refine j_istore (lv' := [(0, sr 72), (1, si (a : Int)), (2, si (b : Int)), (3, si (c : Int)), (4, si (d : Int)), (5, si 1)]) C dX6_doMeet_119 (by decide) rfl ?_
                      refine j_iload C dX6_doMeet_121 rfl ?_
                      refine j_if_ne (tgt := 173) C dX6_doMeet_123 (by decide) (by decide) (fun q_37 => ?_) (fun q_37 => ?_)
                      · refine j_iconst C dX6_doMeet_173 ?_
                        refine j_zret C hQ (by decide) dX6_doMeet_174 ?_
                        refine ⟨rfl, ?_⟩
                        unfold gDm
                        simp_all [bI]
                        try omega
                      · omega
                  · refine j_iconst C dX6_doMeet_106 ?_
                    refine j_goto (tgt := 111) C dX6_doMeet_107 (by decide) ?_
                    refine j_icmp_ne (tgt := 118) C dX6_doMeet_111 (by decide) (by decide) (by decide) (fun q_38 => ?_) (fun q_38 => ?_)
                    · refine j_iconst C dX6_doMeet_118 ?_
                      refine j_istore (lv' := [(0, sr 72), (1, si (a : Int)), (2, si (b : Int)), (3, si (c : Int)), (4, si (d : Int)), (5, si 0)]) C dX6_doMeet_119 (by decide) rfl ?_
                      refine j_iload C dX6_doMeet_121 rfl ?_
                      refine j_if_ne (tgt := 173) C dX6_doMeet_123 (by decide) (by decide) (fun q_39 => ?_) (fun q_39 => ?_)
                      · omega
                      · refine j_aload_n C dX6_doMeet_126 rfl ?_
                        refine j_iload_n C dX6_doMeet_127 rfl ?_
                        refine j_iload_n C dX6_doMeet_128 rfl ?_
                        refine j_iload_n C dX6_doMeet_129 rfl ?_
                        refine j_doI (st := []) (j_runV C (kX6_side hg a b c rfl rfl rfl (by omega) (by omega) (by omega)) gX6_doMeet_X6_side sgX6_side rfl ⟨by decide, by decide⟩ (by decide) (en_72 _ _) rfl rfl rfl (Nat.le_of_ble_eq_true rfl) dX6_doMeet_130) (fun z_40 V_41 h_42 => ?_)
                        obtain ⟨rfl, rfl⟩ := h_42
                        refine j_if_eq (tgt := 173) C dX6_doMeet_133 (by decide) (by have := ok.s (a := a) (b := b) (c := c) (by omega) (by omega) (by omega); omega) (fun q_43 => ?_) (fun q_43 => ?_)
                        · refine j_iconst C dX6_doMeet_173 ?_
                          refine j_zret C hQ (by decide) dX6_doMeet_174 ?_
                          refine ⟨rfl, ?_⟩
                          unfold gDm
                          simp_all [bI]
                          try omega
                        · refine j_aload_n C dX6_doMeet_136 rfl ?_
                          refine j_iload_n C dX6_doMeet_137 rfl ?_
                          refine j_iload_n C dX6_doMeet_138 rfl ?_
                          refine j_iload C dX6_doMeet_139 rfl ?_
                          refine j_doI (st := []) (j_runV C (kX6_side hg a b d rfl rfl rfl (by omega) (by omega) (by omega)) gX6_doMeet_X6_side sgX6_side rfl ⟨by decide, by decide⟩ (by decide) (en_72 _ _) rfl rfl rfl (Nat.le_of_ble_eq_true rfl) dX6_doMeet_141) (fun z_44 V_45 h_46 => ?_)
                          obtain ⟨rfl, rfl⟩ := h_46
                          refine j_if_eq (tgt := 173) C dX6_doMeet_144 (by decide) (by have := ok.s (a := a) (b := b) (c := d) (by omega) (by omega) (by omega); omega) (fun q_47 => ?_) (fun q_47 => ?_)
                          · refine j_iconst C dX6_doMeet_173 ?_
                            refine j_zret C hQ (by decide) dX6_doMeet_174 ?_
                            refine ⟨rfl, ?_⟩
                            unfold gDm
                            simp_all [bI]
                            try omega
                          · refine j_aload_n C dX6_doMeet_147 rfl ?_
                            refine j_iload_n C dX6_doMeet_148 rfl ?_
                            refine j_iload C dX6_doMeet_149 rfl ?_
                            refine j_iload_n C dX6_doMeet_151 rfl ?_
                            refine j_doI (st := []) (j_runV C (kX6_side hg c d a rfl rfl rfl (by omega) (by omega) (by omega)) gX6_doMeet_X6_side sgX6_side rfl ⟨by decide, by decide⟩ (by decide) (en_72 _ _) rfl rfl rfl (Nat.le_of_ble_eq_true rfl) dX6_doMeet_152) (fun z_48 V_49 h_50 => ?_)
                            obtain ⟨rfl, rfl⟩ := h_50
                            refine j_if_eq (tgt := 173) C dX6_doMeet_155 (by decide) (by have := ok.s (a := c) (b := d) (c := a) (by omega) (by omega) (by omega); omega) (fun q_51 => ?_) (fun q_51 => ?_)
                            · refine j_iconst C dX6_doMeet_173 ?_
                              refine j_zret C hQ (by decide) dX6_doMeet_174 ?_
                              refine ⟨rfl, ?_⟩
                              unfold gDm
                              simp_all [bI]
                              try omega
                            · refine j_aload_n C dX6_doMeet_158 rfl ?_
                              refine j_iload_n C dX6_doMeet_159 rfl ?_
                              refine j_iload C dX6_doMeet_160 rfl ?_
                              refine j_iload_n C dX6_doMeet_162 rfl ?_
                              refine j_doI (st := []) (j_runV C (kX6_side hg c d b rfl rfl rfl (by omega) (by omega) (by omega)) gX6_doMeet_X6_side sgX6_side rfl ⟨by decide, by decide⟩ (by decide) (en_72 _ _) rfl rfl rfl (Nat.le_of_ble_eq_true rfl) dX6_doMeet_163) (fun z_52 V_53 h_54 => ?_)
                              obtain ⟨rfl, rfl⟩ := h_54
                              refine j_if_eq (tgt := 173) C dX6_doMeet_166 (by decide) (by have := ok.s (a := c) (b := d) (c := b) (by omega) (by omega) (by omega); omega) (fun q_55 => ?_) (fun q_55 => ?_)
                              · refine j_iconst C dX6_doMeet_173 ?_
                                refine j_zret C hQ (by decide) dX6_doMeet_174 ?_
                                refine ⟨rfl, ?_⟩
                                unfold gDm
                                simp_all [bI]
                                try omega
                              · refine j_iconst C dX6_doMeet_169 ?_
                                refine j_goto (tgt := 174) C dX6_doMeet_170 (by decide) ?_
                                refine j_zret C hQ (by decide) dX6_doMeet_174 ?_
                                refine ⟨rfl, ?_⟩
                                unfold gDm
                                simp_all [bI]
                                try omega
                    · omega
                · refine j_iconst C dX6_doMeet_90 ?_
                  refine j_goto (tgt := 95) C dX6_doMeet_91 (by decide) ?_
                  refine j_aload_n C dX6_doMeet_95 rfl ?_
                  refine j_iload_n C dX6_doMeet_96 rfl ?_
                  refine j_iload C dX6_doMeet_97 rfl ?_
                  refine j_iload_n C dX6_doMeet_99 rfl ?_
                  refine j_doI (st := [si 1]) (j_runV C (kX6_side hg c d b rfl rfl rfl (by omega) (by omega) (by omega)) gX6_doMeet_X6_side sgX6_side rfl ⟨by decide, by decide⟩ (by decide) (en_72 _ _) rfl rfl rfl (Nat.le_of_ble_eq_true rfl) dX6_doMeet_100) (fun z_56 V_57 h_58 => ?_)
                  obtain ⟨rfl, rfl⟩ := h_58
                  refine j_if_le (tgt := 110) C dX6_doMeet_103 (by decide) (by have := ok.s (a := c) (b := d) (c := b) (by omega) (by omega) (by omega); omega) (fun q_59 => ?_) (fun q_59 => ?_)
                  · refine j_iconst C dX6_doMeet_110 ?_
                    refine j_icmp_ne (tgt := 118) C dX6_doMeet_111 (by decide) (by decide) (by decide) (fun q_60 => ?_) (fun q_60 => ?_)
                    · refine j_iconst C dX6_doMeet_118 ?_
                      refine j_istore (lv' := [(0, sr 72), (1, si (a : Int)), (2, si (b : Int)), (3, si (c : Int)), (4, si (d : Int)), (5, si 0)]) C dX6_doMeet_119 (by decide) rfl ?_
                      refine j_iload C dX6_doMeet_121 rfl ?_
                      refine j_if_ne (tgt := 173) C dX6_doMeet_123 (by decide) (by decide) (fun q_61 => ?_) (fun q_61 => ?_)
                      · omega
                      · refine j_aload_n C dX6_doMeet_126 rfl ?_
                        refine j_iload_n C dX6_doMeet_127 rfl ?_
                        refine j_iload_n C dX6_doMeet_128 rfl ?_
                        refine j_iload_n C dX6_doMeet_129 rfl ?_
                        refine j_doI (st := []) (j_runV C (kX6_side hg a b c rfl rfl rfl (by omega) (by omega) (by omega)) gX6_doMeet_X6_side sgX6_side rfl ⟨by decide, by decide⟩ (by decide) (en_72 _ _) rfl rfl rfl (Nat.le_of_ble_eq_true rfl) dX6_doMeet_130) (fun z_62 V_63 h_64 => ?_)
                        obtain ⟨rfl, rfl⟩ := h_64
                        refine j_if_eq (tgt := 173) C dX6_doMeet_133 (by decide) (by have := ok.s (a := a) (b := b) (c := c) (by omega) (by omega) (by omega); omega) (fun q_65 => ?_) (fun q_65 => ?_)
                        · refine j_iconst C dX6_doMeet_173 ?_
                          refine j_zret C hQ (by decide) dX6_doMeet_174 ?_
                          refine ⟨rfl, ?_⟩
                          unfold gDm
                          simp_all [bI]
                          try omega
                        · refine j_aload_n C dX6_doMeet_136 rfl ?_
                          refine j_iload_n C dX6_doMeet_137 rfl ?_
                          refine j_iload_n C dX6_doMeet_138 rfl ?_
                          refine j_iload C dX6_doMeet_139 rfl ?_
                          refine j_doI (st := []) (j_runV C (kX6_side hg a b d rfl rfl rfl (by omega) (by omega) (by omega)) gX6_doMeet_X6_side sgX6_side rfl ⟨by decide, by decide⟩ (by decide) (en_72 _ _) rfl rfl rfl (Nat.le_of_ble_eq_true rfl) dX6_doMeet_141) (fun z_66 V_67 h_68 => ?_)
                          obtain ⟨rfl, rfl⟩ := h_68
                          refine j_if_eq (tgt := 173) C dX6_doMeet_144 (by decide) (by have := ok.s (a := a) (b := b) (c := d) (by omega) (by omega) (by omega); omega) (fun q_69 => ?_) (fun q_69 => ?_)
                          · refine j_iconst C dX6_doMeet_173 ?_
                            refine j_zret C hQ (by decide) dX6_doMeet_174 ?_
                            refine ⟨rfl, ?_⟩
                            unfold gDm
                            simp_all [bI]
                            try omega
                          · refine j_aload_n C dX6_doMeet_147 rfl ?_
                            refine j_iload_n C dX6_doMeet_148 rfl ?_
                            refine j_iload C dX6_doMeet_149 rfl ?_
                            refine j_iload_n C dX6_doMeet_151 rfl ?_
                            refine j_doI (st := []) (j_runV C (kX6_side hg c d a rfl rfl rfl (by omega) (by omega) (by omega)) gX6_doMeet_X6_side sgX6_side rfl ⟨by decide, by decide⟩ (by decide) (en_72 _ _) rfl rfl rfl (Nat.le_of_ble_eq_true rfl) dX6_doMeet_152) (fun z_70 V_71 h_72 => ?_)
                            obtain ⟨rfl, rfl⟩ := h_72
                            refine j_if_eq (tgt := 173) C dX6_doMeet_155 (by decide) (by have := ok.s (a := c) (b := d) (c := a) (by omega) (by omega) (by omega); omega) (fun q_73 => ?_) (fun q_73 => ?_)
                            · refine j_iconst C dX6_doMeet_173 ?_
                              refine j_zret C hQ (by decide) dX6_doMeet_174 ?_
                              refine ⟨rfl, ?_⟩
                              unfold gDm
                              simp_all [bI]
                              try omega
                            · refine j_aload_n C dX6_doMeet_158 rfl ?_
                              refine j_iload_n C dX6_doMeet_159 rfl ?_
                              refine j_iload C dX6_doMeet_160 rfl ?_
                              refine j_iload_n C dX6_doMeet_162 rfl ?_
                              refine j_doI (st := []) (j_runV C (kX6_side hg c d b rfl rfl rfl (by omega) (by omega) (by omega)) gX6_doMeet_X6_side sgX6_side rfl ⟨by decide, by decide⟩ (by decide) (en_72 _ _) rfl rfl rfl (Nat.le_of_ble_eq_true rfl) dX6_doMeet_163) (fun z_74 V_75 h_76 => ?_)
                              obtain ⟨rfl, rfl⟩ := h_76
                              refine j_if_eq (tgt := 173) C dX6_doMeet_166 (by decide) (by have := ok.s (a := c) (b := d) (c := b) (by omega) (by omega) (by omega); omega) (fun q_77 => ?_) (fun q_77 => ?_)
                              · refine j_iconst C dX6_doMeet_173 ?_
                                refine j_zret C hQ (by decide) dX6_doMeet_174 ?_
                                refine ⟨rfl, ?_⟩
                                unfold gDm
                                simp_all [bI]
                                try omega
                              · refine j_iconst C dX6_doMeet_169 ?_
                                refine j_goto (tgt := 174) C dX6_doMeet_170 (by decide) ?_
                                refine j_zret C hQ (by decide) dX6_doMeet_174 ?_
                                refine ⟨rfl, ?_⟩
                                unfold gDm
                                simp_all [bI]
                                try omega
                    · omega
                  · refine j_iconst C dX6_doMeet_106 ?_
                    refine j_goto (tgt := 111) C dX6_doMeet_107 (by decide) ?_
                    refine j_icmp_ne (tgt := 118) C dX6_doMeet_111 (by decide) (by decide) (by decide) (fun q_78 => ?_) (fun q_78 => ?_)
                    · omega
                    · refine j_iconst C dX6_doMeet_114 ?_
                      refine j_goto (tgt := 119) C dX6_doMeet_115 (by decide) ?_
                      refine j_istore (lv' := [(0, sr 72), (1, si (a : Int)), (2, si (b : Int)), (3, si (c : Int)), (4, si (d : Int)), (5, si 1)]) C dX6_doMeet_119 (by decide) rfl ?_
                      refine j_iload C dX6_doMeet_121 rfl ?_
                      refine j_if_ne (tgt := 173) C dX6_doMeet_123 (by decide) (by decide) (fun q_79 => ?_) (fun q_79 => ?_)
                      · refine j_iconst C dX6_doMeet_173 ?_
                        refine j_zret C hQ (by decide) dX6_doMeet_174 ?_
                        refine ⟨rfl, ?_⟩
                        unfold gDm
                        simp_all [bI]
                        try omega
                      · omega
          · refine j_iconst C dX6_doMeet_55 ?_
            refine j_goto (tgt := 60) C dX6_doMeet_56 (by decide) ?_
            refine j_aload_n C dX6_doMeet_60 rfl ?_
            refine j_iload_n C dX6_doMeet_61 rfl ?_
            refine j_iload_n C dX6_doMeet_62 rfl ?_
            refine j_iload C dX6_doMeet_63 rfl ?_
            refine j_doI (st := [si 1]) (j_runV C (kX6_side hg a b d rfl rfl rfl (by omega) (by omega) (by omega)) gX6_doMeet_X6_side sgX6_side rfl ⟨by decide, by decide⟩ (by decide) (en_72 _ _) rfl rfl rfl (Nat.le_of_ble_eq_true rfl) dX6_doMeet_65) (fun z_80 V_81 h_82 => ?_)
            obtain ⟨rfl, rfl⟩ := h_82
            refine j_if_le (tgt := 75) C dX6_doMeet_68 (by decide) (by have := ok.s (a := a) (b := b) (c := d) (by omega) (by omega) (by omega); omega) (fun q_83 => ?_) (fun q_83 => ?_)
            · refine j_iconst C dX6_doMeet_75 ?_
              refine j_icmp_eq (tgt := 114) C dX6_doMeet_76 (by decide) (by decide) (by decide) (fun q_84 => ?_) (fun q_84 => ?_)
              · omega
              · refine j_aload_n C dX6_doMeet_79 rfl ?_
                refine j_iload_n C dX6_doMeet_80 rfl ?_
                refine j_iload C dX6_doMeet_81 rfl ?_
                refine j_iload_n C dX6_doMeet_83 rfl ?_
                refine j_doI (st := []) (j_runV C (kX6_side hg c d a rfl rfl rfl (by omega) (by omega) (by omega)) gX6_doMeet_X6_side sgX6_side rfl ⟨by decide, by decide⟩ (by decide) (en_72 _ _) rfl rfl rfl (Nat.le_of_ble_eq_true rfl) dX6_doMeet_84) (fun z_85 V_86 h_87 => ?_)
                obtain ⟨rfl, rfl⟩ := h_87
                refine j_if_le (tgt := 94) C dX6_doMeet_87 (by decide) (by have := ok.s (a := c) (b := d) (c := a) (by omega) (by omega) (by omega); omega) (fun q_88 => ?_) (fun q_88 => ?_)
                · refine j_iconst C dX6_doMeet_94 ?_
                  refine j_aload_n C dX6_doMeet_95 rfl ?_
                  refine j_iload_n C dX6_doMeet_96 rfl ?_
                  refine j_iload C dX6_doMeet_97 rfl ?_
                  refine j_iload_n C dX6_doMeet_99 rfl ?_
                  refine j_doI (st := [si 0]) (j_runV C (kX6_side hg c d b rfl rfl rfl (by omega) (by omega) (by omega)) gX6_doMeet_X6_side sgX6_side rfl ⟨by decide, by decide⟩ (by decide) (en_72 _ _) rfl rfl rfl (Nat.le_of_ble_eq_true rfl) dX6_doMeet_100) (fun z_89 V_90 h_91 => ?_)
                  obtain ⟨rfl, rfl⟩ := h_91
                  refine j_if_le (tgt := 110) C dX6_doMeet_103 (by decide) (by have := ok.s (a := c) (b := d) (c := b) (by omega) (by omega) (by omega); omega) (fun q_92 => ?_) (fun q_92 => ?_)
                  · refine j_iconst C dX6_doMeet_110 ?_
                    refine j_icmp_ne (tgt := 118) C dX6_doMeet_111 (by decide) (by decide) (by decide) (fun q_93 => ?_) (fun q_93 => ?_)
                    · omega
                    · refine j_iconst C dX6_doMeet_114 ?_
                      refine j_goto (tgt := 119) C dX6_doMeet_115 (by decide) ?_
                      refine j_istore (lv' := [(0, sr 72), (1, si (a : Int)), (2, si (b : Int)), (3, si (c : Int)), (4, si (d : Int)), (5, si 1)]) C dX6_doMeet_119 (by decide) rfl ?_
                      refine j_iload C dX6_doMeet_121 rfl ?_
                      refine j_if_ne (tgt := 173) C dX6_doMeet_123 (by decide) (by decide) (fun q_94 => ?_) (fun q_94 => ?_)
                      · refine j_iconst C dX6_doMeet_173 ?_
                        refine j_zret C hQ (by decide) dX6_doMeet_174 ?_
                        refine ⟨rfl, ?_⟩
                        unfold gDm
                        simp_all [bI]
                        try omega
                      · omega
                  · refine j_iconst C dX6_doMeet_106 ?_
                    refine j_goto (tgt := 111) C dX6_doMeet_107 (by decide) ?_
                    refine j_icmp_ne (tgt := 118) C dX6_doMeet_111 (by decide) (by decide) (by decide) (fun q_95 => ?_) (fun q_95 => ?_)
                    · refine j_iconst C dX6_doMeet_118 ?_
                      refine j_istore (lv' := [(0, sr 72), (1, si (a : Int)), (2, si (b : Int)), (3, si (c : Int)), (4, si (d : Int)), (5, si 0)]) C dX6_doMeet_119 (by decide) rfl ?_
                      refine j_iload C dX6_doMeet_121 rfl ?_
                      refine j_if_ne (tgt := 173) C dX6_doMeet_123 (by decide) (by decide) (fun q_96 => ?_) (fun q_96 => ?_)
                      · omega
                      · refine j_aload_n C dX6_doMeet_126 rfl ?_
                        refine j_iload_n C dX6_doMeet_127 rfl ?_
                        refine j_iload_n C dX6_doMeet_128 rfl ?_
                        refine j_iload_n C dX6_doMeet_129 rfl ?_
                        refine j_doI (st := []) (j_runV C (kX6_side hg a b c rfl rfl rfl (by omega) (by omega) (by omega)) gX6_doMeet_X6_side sgX6_side rfl ⟨by decide, by decide⟩ (by decide) (en_72 _ _) rfl rfl rfl (Nat.le_of_ble_eq_true rfl) dX6_doMeet_130) (fun z_97 V_98 h_99 => ?_)
                        obtain ⟨rfl, rfl⟩ := h_99
                        refine j_if_eq (tgt := 173) C dX6_doMeet_133 (by decide) (by have := ok.s (a := a) (b := b) (c := c) (by omega) (by omega) (by omega); omega) (fun q_100 => ?_) (fun q_100 => ?_)
                        · refine j_iconst C dX6_doMeet_173 ?_
                          refine j_zret C hQ (by decide) dX6_doMeet_174 ?_
                          refine ⟨rfl, ?_⟩
                          unfold gDm
                          simp_all [bI]
                          try omega
                        · refine j_aload_n C dX6_doMeet_136 rfl ?_
                          refine j_iload_n C dX6_doMeet_137 rfl ?_
                          refine j_iload_n C dX6_doMeet_138 rfl ?_
                          refine j_iload C dX6_doMeet_139 rfl ?_
                          refine j_doI (st := []) (j_runV C (kX6_side hg a b d rfl rfl rfl (by omega) (by omega) (by omega)) gX6_doMeet_X6_side sgX6_side rfl ⟨by decide, by decide⟩ (by decide) (en_72 _ _) rfl rfl rfl (Nat.le_of_ble_eq_true rfl) dX6_doMeet_141) (fun z_101 V_102 h_103 => ?_)
                          obtain ⟨rfl, rfl⟩ := h_103
                          refine j_if_eq (tgt := 173) C dX6_doMeet_144 (by decide) (by have := ok.s (a := a) (b := b) (c := d) (by omega) (by omega) (by omega); omega) (fun q_104 => ?_) (fun q_104 => ?_)
                          · refine j_iconst C dX6_doMeet_173 ?_
                            refine j_zret C hQ (by decide) dX6_doMeet_174 ?_
                            refine ⟨rfl, ?_⟩
                            unfold gDm
                            simp_all [bI]
                            try omega
                          · refine j_aload_n C dX6_doMeet_147 rfl ?_
                            refine j_iload_n C dX6_doMeet_148 rfl ?_
                            refine j_iload C dX6_doMeet_149 rfl ?_
                            refine j_iload_n C dX6_doMeet_151 rfl ?_
                            refine j_doI (st := []) (j_runV C (kX6_side hg c d a rfl rfl rfl (by omega) (by omega) (by omega)) gX6_doMeet_X6_side sgX6_side rfl ⟨by decide, by decide⟩ (by decide) (en_72 _ _) rfl rfl rfl (Nat.le_of_ble_eq_true rfl) dX6_doMeet_152) (fun z_105 V_106 h_107 => ?_)
                            obtain ⟨rfl, rfl⟩ := h_107
                            refine j_if_eq (tgt := 173) C dX6_doMeet_155 (by decide) (by have := ok.s (a := c) (b := d) (c := a) (by omega) (by omega) (by omega); omega) (fun q_108 => ?_) (fun q_108 => ?_)
                            · refine j_iconst C dX6_doMeet_173 ?_
                              refine j_zret C hQ (by decide) dX6_doMeet_174 ?_
                              refine ⟨rfl, ?_⟩
                              unfold gDm
                              simp_all [bI]
                              try omega
                            · refine j_aload_n C dX6_doMeet_158 rfl ?_
                              refine j_iload_n C dX6_doMeet_159 rfl ?_
                              refine j_iload C dX6_doMeet_160 rfl ?_
                              refine j_iload_n C dX6_doMeet_162 rfl ?_
                              refine j_doI (st := []) (j_runV C (kX6_side hg c d b rfl rfl rfl (by omega) (by omega) (by omega)) gX6_doMeet_X6_side sgX6_side rfl ⟨by decide, by decide⟩ (by decide) (en_72 _ _) rfl rfl rfl (Nat.le_of_ble_eq_true rfl) dX6_doMeet_163) (fun z_109 V_110 h_111 => ?_)
                              obtain ⟨rfl, rfl⟩ := h_111
                              refine j_if_eq (tgt := 173) C dX6_doMeet_166 (by decide) (by have := ok.s (a := c) (b := d) (c := b) (by omega) (by omega) (by omega); omega) (fun q_112 => ?_) (fun q_112 => ?_)
                              · refine j_iconst C dX6_doMeet_173 ?_
                                refine j_zret C hQ (by decide) dX6_doMeet_174 ?_
                                refine ⟨rfl, ?_⟩
                                unfold gDm
                                simp_all [bI]
                                try omega
                              · refine j_iconst C dX6_doMeet_169 ?_
                                refine j_goto (tgt := 174) C dX6_doMeet_170 (by decide) ?_
                                refine j_zret C hQ (by decide) dX6_doMeet_174 ?_
                                refine ⟨rfl, ?_⟩
                                unfold gDm
                                simp_all [bI]
                                try omega
                    · omega
                · refine j_iconst C dX6_doMeet_90 ?_
                  refine j_goto (tgt := 95) C dX6_doMeet_91 (by decide) ?_
                  refine j_aload_n C dX6_doMeet_95 rfl ?_
                  refine j_iload_n C dX6_doMeet_96 rfl ?_
                  refine j_iload C dX6_doMeet_97 rfl ?_
                  refine j_iload_n C dX6_doMeet_99 rfl ?_
                  refine j_doI (st := [si 1]) (j_runV C (kX6_side hg c d b rfl rfl rfl (by omega) (by omega) (by omega)) gX6_doMeet_X6_side sgX6_side rfl ⟨by decide, by decide⟩ (by decide) (en_72 _ _) rfl rfl rfl (Nat.le_of_ble_eq_true rfl) dX6_doMeet_100) (fun z_113 V_114 h_115 => ?_)
                  obtain ⟨rfl, rfl⟩ := h_115
                  refine j_if_le (tgt := 110) C dX6_doMeet_103 (by decide) (by have := ok.s (a := c) (b := d) (c := b) (by omega) (by omega) (by omega); omega) (fun q_116 => ?_) (fun q_116 => ?_)
                  · refine j_iconst C dX6_doMeet_110 ?_
                    refine j_icmp_ne (tgt := 118) C dX6_doMeet_111 (by decide) (by decide) (by decide) (fun q_117 => ?_) (fun q_117 => ?_)
                    · refine j_iconst C dX6_doMeet_118 ?_
                      refine j_istore (lv' := [(0, sr 72), (1, si (a : Int)), (2, si (b : Int)), (3, si (c : Int)), (4, si (d : Int)), (5, si 0)]) C dX6_doMeet_119 (by decide) rfl ?_
                      refine j_iload C dX6_doMeet_121 rfl ?_
                      refine j_if_ne (tgt := 173) C dX6_doMeet_123 (by decide) (by decide) (fun q_118 => ?_) (fun q_118 => ?_)
                      · omega
                      · refine j_aload_n C dX6_doMeet_126 rfl ?_
                        refine j_iload_n C dX6_doMeet_127 rfl ?_
                        refine j_iload_n C dX6_doMeet_128 rfl ?_
                        refine j_iload_n C dX6_doMeet_129 rfl ?_
                        refine j_doI (st := []) (j_runV C (kX6_side hg a b c rfl rfl rfl (by omega) (by omega) (by omega)) gX6_doMeet_X6_side sgX6_side rfl ⟨by decide, by decide⟩ (by decide) (en_72 _ _) rfl rfl rfl (Nat.le_of_ble_eq_true rfl) dX6_doMeet_130) (fun z_119 V_120 h_121 => ?_)
                        obtain ⟨rfl, rfl⟩ := h_121
                        refine j_if_eq (tgt := 173) C dX6_doMeet_133 (by decide) (by have := ok.s (a := a) (b := b) (c := c) (by omega) (by omega) (by omega); omega) (fun q_122 => ?_) (fun q_122 => ?_)
                        · refine j_iconst C dX6_doMeet_173 ?_
                          refine j_zret C hQ (by decide) dX6_doMeet_174 ?_
                          refine ⟨rfl, ?_⟩
                          unfold gDm
                          simp_all [bI]
                          try omega
                        · refine j_aload_n C dX6_doMeet_136 rfl ?_
                          refine j_iload_n C dX6_doMeet_137 rfl ?_
                          refine j_iload_n C dX6_doMeet_138 rfl ?_
                          refine j_iload C dX6_doMeet_139 rfl ?_
                          refine j_doI (st := []) (j_runV C (kX6_side hg a b d rfl rfl rfl (by omega) (by omega) (by omega)) gX6_doMeet_X6_side sgX6_side rfl ⟨by decide, by decide⟩ (by decide) (en_72 _ _) rfl rfl rfl (Nat.le_of_ble_eq_true rfl) dX6_doMeet_141) (fun z_123 V_124 h_125 => ?_)
                          obtain ⟨rfl, rfl⟩ := h_125
                          refine j_if_eq (tgt := 173) C dX6_doMeet_144 (by decide) (by have := ok.s (a := a) (b := b) (c := d) (by omega) (by omega) (by omega); omega) (fun q_126 => ?_) (fun q_126 => ?_)
                          · refine j_iconst C dX6_doMeet_173 ?_
                            refine j_zret C hQ (by decide) dX6_doMeet_174 ?_
                            refine ⟨rfl, ?_⟩
                            unfold gDm
                            simp_all [bI]
                            try omega
                          · refine j_aload_n C dX6_doMeet_147 rfl ?_
                            refine j_iload_n C dX6_doMeet_148 rfl ?_
                            refine j_iload C dX6_doMeet_149 rfl ?_
                            refine j_iload_n C dX6_doMeet_151 rfl ?_
                            refine j_doI (st := []) (j_runV C (kX6_side hg c d a rfl rfl rfl (by omega) (by omega) (by omega)) gX6_doMeet_X6_side sgX6_side rfl ⟨by decide, by decide⟩ (by decide) (en_72 _ _) rfl rfl rfl (Nat.le_of_ble_eq_true rfl) dX6_doMeet_152) (fun z_127 V_128 h_129 => ?_)
                            obtain ⟨rfl, rfl⟩ := h_129
                            refine j_if_eq (tgt := 173) C dX6_doMeet_155 (by decide) (by have := ok.s (a := c) (b := d) (c := a) (by omega) (by omega) (by omega); omega) (fun q_130 => ?_) (fun q_130 => ?_)
                            · refine j_iconst C dX6_doMeet_173 ?_
                              refine j_zret C hQ (by decide) dX6_doMeet_174 ?_
                              refine ⟨rfl, ?_⟩
                              unfold gDm
                              simp_all [bI]
                              try omega
                            · refine j_aload_n C dX6_doMeet_158 rfl ?_
                              refine j_iload_n C dX6_doMeet_159 rfl ?_
                              refine j_iload C dX6_doMeet_160 rfl ?_
                              refine j_iload_n C dX6_doMeet_162 rfl ?_
                              refine j_doI (st := []) (j_runV C (kX6_side hg c d b rfl rfl rfl (by omega) (by omega) (by omega)) gX6_doMeet_X6_side sgX6_side rfl ⟨by decide, by decide⟩ (by decide) (en_72 _ _) rfl rfl rfl (Nat.le_of_ble_eq_true rfl) dX6_doMeet_163) (fun z_131 V_132 h_133 => ?_)
                              obtain ⟨rfl, rfl⟩ := h_133
                              refine j_if_eq (tgt := 173) C dX6_doMeet_166 (by decide) (by have := ok.s (a := c) (b := d) (c := b) (by omega) (by omega) (by omega); omega) (fun q_134 => ?_) (fun q_134 => ?_)
                              · refine j_iconst C dX6_doMeet_173 ?_
                                refine j_zret C hQ (by decide) dX6_doMeet_174 ?_
                                refine ⟨rfl, ?_⟩
                                unfold gDm
                                simp_all [bI]
                                try omega
                              · refine j_iconst C dX6_doMeet_169 ?_
                                refine j_goto (tgt := 174) C dX6_doMeet_170 (by decide) ?_
                                refine j_zret C hQ (by decide) dX6_doMeet_174 ?_
                                refine ⟨rfl, ?_⟩
                                unfold gDm
                                simp_all [bI]
                                try omega
                    · omega
                  · refine j_iconst C dX6_doMeet_106 ?_
                    refine j_goto (tgt := 111) C dX6_doMeet_107 (by decide) ?_
                    refine j_icmp_ne (tgt := 118) C dX6_doMeet_111 (by decide) (by decide) (by decide) (fun q_135 => ?_) (fun q_135 => ?_)
                    · omega
                    · refine j_iconst C dX6_doMeet_114 ?_
                      refine j_goto (tgt := 119) C dX6_doMeet_115 (by decide) ?_
                      refine j_istore (lv' := [(0, sr 72), (1, si (a : Int)), (2, si (b : Int)), (3, si (c : Int)), (4, si (d : Int)), (5, si 1)]) C dX6_doMeet_119 (by decide) rfl ?_
                      refine j_iload C dX6_doMeet_121 rfl ?_
                      refine j_if_ne (tgt := 173) C dX6_doMeet_123 (by decide) (by decide) (fun q_136 => ?_) (fun q_136 => ?_)
                      · refine j_iconst C dX6_doMeet_173 ?_
                        refine j_zret C hQ (by decide) dX6_doMeet_174 ?_
                        refine ⟨rfl, ?_⟩
                        unfold gDm
                        simp_all [bI]
                        try omega
                      · omega
            · refine j_iconst C dX6_doMeet_71 ?_
              refine j_goto (tgt := 76) C dX6_doMeet_72 (by decide) ?_
              refine j_icmp_eq (tgt := 114) C dX6_doMeet_76 (by decide) (by decide) (by decide) (fun q_137 => ?_) (fun q_137 => ?_)
              · refine j_iconst C dX6_doMeet_114 ?_
                refine j_goto (tgt := 119) C dX6_doMeet_115 (by decide) ?_
                refine j_istore (lv' := [(0, sr 72), (1, si (a : Int)), (2, si (b : Int)), (3, si (c : Int)), (4, si (d : Int)), (5, si 1)]) C dX6_doMeet_119 (by decide) rfl ?_
                refine j_iload C dX6_doMeet_121 rfl ?_
                refine j_if_ne (tgt := 173) C dX6_doMeet_123 (by decide) (by decide) (fun q_138 => ?_) (fun q_138 => ?_)
                · refine j_iconst C dX6_doMeet_173 ?_
                  refine j_zret C hQ (by decide) dX6_doMeet_174 ?_
                  refine ⟨rfl, ?_⟩
                  unfold gDm
                  simp_all [bI]
                  try omega
                · omega
              · omega
        · refine j_iconst C dX6_doMeet_43 ?_
          refine j_zret C hQ (by decide) dX6_doMeet_44 ?_
          refine ⟨rfl, ?_⟩
          unfold gDm
          simp_all [bI]
          try omega
