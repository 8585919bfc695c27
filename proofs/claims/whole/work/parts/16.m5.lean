def rX6_walks : Room := { frames := 6, cells := 0, slots := 0, locals := 145 }
theorem sgX6_walks : sg yX6_walks wsX6_walks cX6_walks 5 none rX6_walks 2 := ⟨⟨_, rfl⟩, rfl, rfl, by decide, by decide, by decide +kernel⟩
set_option maxHeartbeats 4000000 in
set_option maxRecDepth 100000 in
theorem wkm_end {O : OmT} {F : PhT} {V : Mem} {g : Nat → Int} {post : Mem → Prop} (C : cx O F RX6 cX6_walks 5 none wsX6_walks) (hQ : qV O F post) {s : Int} {t u : Nat} (hu : V 72 21 = (u : Int)) (htn : t < 10) (hun : u < 10) {f : Int} (hut : u = t) (hp : post V)  : J O F rX6_walks 5 V 44 [(0, sr 72), (1, si s), (2, si (t : Int)), (3, si f)] [] := by
  refine j_aload_n C dX6_walks_44 rfl ?_
  refine j_get (v := si (V 72 21)) C 72 21 (by decide) (en_72 _ _) rfl (by decide) (fun w h => List.mem_cons_of_mem _ (List.mem_append_right _ h)) (List.mem_of_getElem? (i := 8) rfl) dX6_walks_45 rfl ?_
  refine j_top hu ?_
  refine j_iload_n C dX6_walks_48 rfl ?_
  refine j_icmp_eq (tgt := 262) C dX6_walks_49 (by decide) (by omega) (by omega) (fun q_1 => ?_) (fun q_1 => ?_)
  · refine j_vret C hQ dX6_walks_262 ?_
    exact hp
  · omega
set_option maxHeartbeats 4000000 in
set_option maxRecDepth 100000 in
theorem wkm_lost {O : OmT} {F : PhT} {V : Mem} {g : Nat → Int} {post : Mem → Prop} (C : cx O F RX6 cX6_walks 5 none wsX6_walks) (hQ : qV O F post) {s : Int} {t u : Nat} (hu : V 72 21 = (u : Int)) (htn : t < 10) (hun : u < 10) {f : Int} (hut : u ≠ t) (hlo : V 72 15 = 1) (hp : post V)  : J O F rX6_walks 5 V 44 [(0, sr 72), (1, si s), (2, si (t : Int)), (3, si f)] [] := by
  refine j_aload_n C dX6_walks_44 rfl ?_
  refine j_get (v := si (V 72 21)) C 72 21 (by decide) (en_72 _ _) rfl (by decide) (fun w h => List.mem_cons_of_mem _ (List.mem_append_right _ h)) (List.mem_of_getElem? (i := 8) rfl) dX6_walks_45 rfl ?_
  refine j_top hu ?_
  refine j_iload_n C dX6_walks_48 rfl ?_
  refine j_icmp_eq (tgt := 262) C dX6_walks_49 (by decide) (by omega) (by omega) (fun q_1 => ?_) (fun q_1 => ?_)
  · omega
  · refine j_aload_n C dX6_walks_52 rfl ?_
    refine j_get (v := si (V 72 15)) C 72 15 (by decide) (en_72 _ _) rfl (by decide) (fun w h => List.mem_cons_of_mem _ (List.mem_append_right _ h)) (List.mem_of_getElem? (i := 3) rfl) dX6_walks_53 rfl ?_
    refine j_top hlo ?_
    refine j_if_ne (tgt := 262) C dX6_walks_56 (by decide) (by decide) (fun q_2 => ?_) (fun q_2 => ?_)
    · refine j_vret C hQ dX6_walks_262 ?_
      exact hp
    · omega
set_option maxHeartbeats 4000000 in
set_option maxRecDepth 100000 in
theorem wkm_200 {O : OmT} {F : PhT} {V : Mem} {g : Nat → Int} (C : cx O F RX6 cX6_walks 5 none wsX6_walks) {s : Int} {t u : Nat} (hu : V 72 21 = (u : Int)) (htn : t < 10) (hun : u < 10) {f : Int} (hut : u ≠ t) (hlo : V 72 15 = 0) (hst : V 72 13 = 200) (kx : J O F rX6_walks 5 (ms V 72 15 1) 44 [(0, sr 72), (1, si s), (2, si (t : Int)), (3, si f)] []) : J O F rX6_walks 5 V 44 [(0, sr 72), (1, si s), (2, si (t : Int)), (3, si f)] [] := by
  refine j_aload_n C dX6_walks_44 rfl ?_
  refine j_get (v := si (V 72 21)) C 72 21 (by decide) (en_72 _ _) rfl (by decide) (fun w h => List.mem_cons_of_mem _ (List.mem_append_right _ h)) (List.mem_of_getElem? (i := 8) rfl) dX6_walks_45 rfl ?_
  refine j_top hu ?_
  refine j_iload_n C dX6_walks_48 rfl ?_
  refine j_icmp_eq (tgt := 262) C dX6_walks_49 (by decide) (by omega) (by omega) (fun q_1 => ?_) (fun q_1 => ?_)
  · omega
  · refine j_aload_n C dX6_walks_52 rfl ?_
    refine j_get (v := si (V 72 15)) C 72 15 (by decide) (en_72 _ _) rfl (by decide) (fun w h => List.mem_cons_of_mem _ (List.mem_append_right _ h)) (List.mem_of_getElem? (i := 3) rfl) dX6_walks_53 rfl ?_
    refine j_top hlo ?_
    refine j_if_ne (tgt := 262) C dX6_walks_56 (by decide) (by decide) (fun q_2 => ?_) (fun q_2 => ?_)
    · omega
    · refine j_aload_n C dX6_walks_59 rfl ?_
      refine j_get (v := si (V 72 13)) C 72 13 (by decide) (en_72 _ _) rfl (by decide) (fun w h => List.mem_cons_of_mem _ (List.mem_append_right _ h)) (List.mem_of_getElem? (i := 1) rfl) dX6_walks_60 rfl ?_
      refine j_top hst ?_
      refine j_sipush C dX6_walks_63 (by decide) ?_
      refine j_icmp_ne (tgt := 77) C dX6_walks_66 (by decide) (by decide) (by decide) (fun q_3 => ?_) (fun q_3 => ?_)
      · omega
      · refine j_aload_n C dX6_walks_69 rfl ?_
        refine j_iconst C dX6_walks_70 ?_
        refine j_put C 72 15 (by decide) (en_72 _ _) rfl pcl6 (by decide) (fun w h => List.mem_cons_of_mem _ (List.mem_append_right _ h)) (List.mem_of_getElem? (i := 3) rfl) rfl rfl (fit_z (by decide)) (Nat.le_of_ble_eq_true rfl) dX6_walks_71 ?_
        refine j_goto (tgt := 44) C dX6_walks_74 (by decide) ?_
        exact kx
set_option maxHeartbeats 4000000 in
set_option maxRecDepth 100000 in
theorem wkm_go {O : OmT} {F : PhT} {V : Mem} {g : Nat → Int} (C : cx O F RX6 cX6_walks 5 none wsX6_walks) {s : Int} {t u : Nat} (hu : V 72 21 = (u : Int)) (htn : t < 10) (hun : u < 10) (hg : mdl V g) (ok : okg g) {st : Nat} (hut : u ≠ t) (hlo : V 72 15 = 0) (hst : V 72 13 = (st : Int)) (h2 : st < 200) (hR : gR g u t (gN g) ≠ -1) (kx : J O F rX6_walks 5 (ms (ms (ms V 72 21 ((gR g u t (gN g)).toNat : Int)) 72 13 ((st : Int) + 1)) 80 (st + 1) ((gR g u t (gN g)).toNat : Int)) 44 [(0, sr 72), (1, si s), (2, si (t : Int)), (3, si 1)] []) : J O F rX6_walks 5 V 44 [(0, sr 72), (1, si s), (2, si (t : Int)), (3, si 1)] [] := by
  have n1 := ok.n
  have o1 := gR_rg g u t (gN g)
  refine j_aload_n C dX6_walks_44 rfl ?_
  refine j_get (v := si (V 72 21)) C 72 21 (by decide) (en_72 _ _) rfl (by decide) (fun w h => List.mem_cons_of_mem _ (List.mem_append_right _ h)) (List.mem_of_getElem? (i := 8) rfl) dX6_walks_45 rfl ?_
  refine j_top hu ?_
  refine j_iload_n C dX6_walks_48 rfl ?_
  refine j_icmp_eq (tgt := 262) C dX6_walks_49 (by decide) (by omega) (by omega) (fun q_1 => ?_) (fun q_1 => ?_)
  · omega
  · refine j_aload_n C dX6_walks_52 rfl ?_
    refine j_get (v := si (V 72 15)) C 72 15 (by decide) (en_72 _ _) rfl (by decide) (fun w h => List.mem_cons_of_mem _ (List.mem_append_right _ h)) (List.mem_of_getElem? (i := 3) rfl) dX6_walks_53 rfl ?_
    refine j_top hlo ?_
    refine j_if_ne (tgt := 262) C dX6_walks_56 (by decide) (by decide) (fun q_2 => ?_) (fun q_2 => ?_)
    · omega
    · refine j_aload_n C dX6_walks_59 rfl ?_
      refine j_get (v := si (V 72 13)) C 72 13 (by decide) (en_72 _ _) rfl (by decide) (fun w h => List.mem_cons_of_mem _ (List.mem_append_right _ h)) (List.mem_of_getElem? (i := 1) rfl) dX6_walks_60 rfl ?_
      refine j_top hst ?_
      refine j_sipush C dX6_walks_63 (by decide) ?_
      refine j_icmp_ne (tgt := 77) C dX6_walks_66 (by decide) (by omega) (by decide) (fun q_3 => ?_) (fun q_3 => ?_)
      · refine j_iload_n C dX6_walks_77 rfl ?_
        refine j_if_eq (tgt := 171) C dX6_walks_78 (by decide) (by decide) (fun q_4 => ?_) (fun q_4 => ?_)
        · omega
        · refine j_aload_n C dX6_walks_81 rfl ?_
          refine j_aload_n C dX6_walks_82 rfl ?_
          refine j_get (v := si (V 72 21)) C 72 21 (by decide) (en_72 _ _) rfl (by decide) (fun w h => List.mem_cons_of_mem _ (List.mem_append_right _ h)) (List.mem_of_getElem? (i := 8) rfl) dX6_walks_83 rfl ?_
          refine j_top hu ?_
          refine j_iload_n C dX6_walks_86 rfl ?_
          refine j_doI (st := []) (j_runV C (kX6_nearerOf hg ok u t rfl rfl (by omega) (by omega)) gX6_walks_X6_nearerOf sgX6_nearerOf rfl ⟨by decide, by decide⟩ (by decide) (en_72 _ _) rfl rfl rfl (Nat.le_of_ble_eq_true rfl) dX6_walks_87) (fun z_5 V_6 h_7 => ?_)
          obtain ⟨rfl, rfl⟩ := h_7
          refine j_istore (lv' := [(0, sr 72), (1, si s), (2, si (t : Int)), (3, si 1), (4, si (gR g u t (gN g)))]) C dX6_walks_90 (by decide) rfl ?_
          refine j_iload C dX6_walks_92 rfl ?_
          refine j_iconst C dX6_walks_94 ?_
          refine j_icmp_eq (tgt := 107) C dX6_walks_95 (by decide) (by have := gR_rg g u t (gN g); omega) (by decide) (fun q_8 => ?_) (fun q_8 => ?_)
          · omega
          · refine j_aload_n C dX6_walks_98 rfl ?_
            refine j_iload C dX6_walks_99 rfl ?_
            refine j_doV (st := []) (j_runV C (kX6_goes (gR g u t (gN g)).toNat st (by omega) (show V 72 13 = (st : Int) from hst) (by omega)) gX6_walks_X6_goes sgX6_goes rfl ⟨by decide, by decide⟩ (by decide) (en_72 _ _) rfl rfl rfl (Nat.le_of_ble_eq_true rfl) dX6_walks_101) (fun V_10 h_11 => ?_)
            subst h_11
            refine j_goto (tgt := 44) C dX6_walks_104 (by decide) ?_
            refine j_pick (lv' := [(0, sr 72), (1, si s), (2, si (t : Int)), (3, si 1)]) [0, 1, 2, 3] rfl ?_
            exact kx
      · omega
set_option maxHeartbeats 4000000 in
set_option maxRecDepth 100000 in
theorem wkm_as0 {O : OmT} {F : PhT} {V : Mem} {g : Nat → Int} (C : cx O F RX6 cX6_walks 5 none wsX6_walks) {s : Int} {t u : Nat} (hu : V 72 21 = (u : Int)) (htn : t < 10) (hun : u < 10) (hg : mdl V g) (ok : okg g) {st as : Nat} (hut : u ≠ t) (hlo : V 72 15 = 0) (hst : V 72 13 = (st : Int)) (h2 : st < 200) (has : V 72 16 = (as : Int)) (hR : gR g u t (gN g) = -1) (hU : gO g u t (-1) (gN g) ≠ -1) (kx : J O F rX6_walks 5 (ms (ms (ms (ms (ms (ms V 72 16 ((as : Int) + 1)) 72 22 (u : Int)) 72 23 0) 72 24 1) 72 25 (gO g u t (-1) (gN g))) 72 15 0) 44 [(0, sr 72), (1, si s), (2, si (t : Int)), (3, si 0)] []) : J O F rX6_walks 5 V 44 [(0, sr 72), (1, si s), (2, si (t : Int)), (3, si 1)] [] := by
  have n1 := ok.n
  refine j_aload_n C dX6_walks_44 rfl ?_
  refine j_get (v := si (V 72 21)) C 72 21 (by decide) (en_72 _ _) rfl (by decide) (fun w h => List.mem_cons_of_mem _ (List.mem_append_right _ h)) (List.mem_of_getElem? (i := 8) rfl) dX6_walks_45 rfl ?_
  refine j_top hu ?_
  refine j_iload_n C dX6_walks_48 rfl ?_
  refine j_icmp_eq (tgt := 262) C dX6_walks_49 (by decide) (by omega) (by omega) (fun q_1 => ?_) (fun q_1 => ?_)
  · omega
  · refine j_aload_n C dX6_walks_52 rfl ?_
    refine j_get (v := si (V 72 15)) C 72 15 (by decide) (en_72 _ _) rfl (by decide) (fun w h => List.mem_cons_of_mem _ (List.mem_append_right _ h)) (List.mem_of_getElem? (i := 3) rfl) dX6_walks_53 rfl ?_
    refine j_top hlo ?_
    refine j_if_ne (tgt := 262) C dX6_walks_56 (by decide) (by decide) (fun q_2 => ?_) (fun q_2 => ?_)
    · omega
    · refine j_aload_n C dX6_walks_59 rfl ?_
      refine j_get (v := si (V 72 13)) C 72 13 (by decide) (en_72 _ _) rfl (by decide) (fun w h => List.mem_cons_of_mem _ (List.mem_append_right _ h)) (List.mem_of_getElem? (i := 1) rfl) dX6_walks_60 rfl ?_
      refine j_top hst ?_
      refine j_sipush C dX6_walks_63 (by decide) ?_
      refine j_icmp_ne (tgt := 77) C dX6_walks_66 (by decide) (by omega) (by decide) (fun q_3 => ?_) (fun q_3 => ?_)
      · refine j_iload_n C dX6_walks_77 rfl ?_
        refine j_if_eq (tgt := 171) C dX6_walks_78 (by decide) (by decide) (fun q_4 => ?_) (fun q_4 => ?_)
        · omega
        · refine j_aload_n C dX6_walks_81 rfl ?_
          refine j_aload_n C dX6_walks_82 rfl ?_
          refine j_get (v := si (V 72 21)) C 72 21 (by decide) (en_72 _ _) rfl (by decide) (fun w h => List.mem_cons_of_mem _ (List.mem_append_right _ h)) (List.mem_of_getElem? (i := 8) rfl) dX6_walks_83 rfl ?_
          refine j_top hu ?_
          refine j_iload_n C dX6_walks_86 rfl ?_
          refine j_doI (st := []) (j_runV C (kX6_nearerOf hg ok u t rfl rfl (by omega) (by omega)) gX6_walks_X6_nearerOf sgX6_nearerOf rfl ⟨by decide, by decide⟩ (by decide) (en_72 _ _) rfl rfl rfl (Nat.le_of_ble_eq_true rfl) dX6_walks_87) (fun z_5 V_6 h_7 => ?_)
          obtain ⟨rfl, rfl⟩ := h_7
          refine j_istore (lv' := [(0, sr 72), (1, si s), (2, si (t : Int)), (3, si 1), (4, si (gR g u t (gN g)))]) C dX6_walks_90 (by decide) rfl ?_
          refine j_iload C dX6_walks_92 rfl ?_
          refine j_iconst C dX6_walks_94 ?_
          refine j_icmp_eq (tgt := 107) C dX6_walks_95 (by decide) (by have := gR_rg g u t (gN g); omega) (by decide) (fun q_8 => ?_) (fun q_8 => ?_)
          · refine j_iconst C dX6_walks_107 ?_
            refine j_istore_n (lv' := [(0, sr 72), (1, si s), (2, si (t : Int)), (3, si 0), (4, si (gR g u t (gN g)))]) C dX6_walks_108 (by decide) rfl ?_
            refine j_aload_n C dX6_walks_109 rfl ?_
            refine j_dup C dX6_walks_110 rfl ?_
            refine j_get (v := si (V 72 16)) C 72 16 (by decide) (en_72 _ _) rfl (by decide) (fun w h => List.mem_cons_of_mem _ (List.mem_append_right _ h)) (List.mem_of_getElem? (i := 4) rfl) dX6_walks_111 rfl ?_
            refine j_top has ?_
            refine j_iconst C dX6_walks_114 ?_
            refine j_iadd C dX6_walks_115 ?_
            refine j_put C 72 16 (by decide) (en_72 _ _) rfl pcl6 (by decide) (fun w h => List.mem_cons_of_mem _ (List.mem_append_right _ h)) (List.mem_of_getElem? (i := 4) rfl) rfl rfl (fit_i _) (Nat.le_of_ble_eq_true rfl) dX6_walks_116 ?_
            refine j_aload_n C dX6_walks_119 rfl ?_
            refine j_aload_n C dX6_walks_120 rfl ?_
            refine j_get (v := si ((ms V 72 16 ((as : Int) + 1)) 72 21)) C 72 21 (by decide) (en_72 _ _) rfl (by decide) (fun w h => List.mem_cons_of_mem _ (List.mem_append_right _ h)) (List.mem_of_getElem? (i := 8) rfl) dX6_walks_121 rfl ?_
            refine j_top (show (ms V 72 16 ((as : Int) + 1)) 72 21 = _ from hu) ?_
            refine j_put C 72 22 (by decide) (en_72 _ _) rfl pcl6 (by decide) (fun w h => List.mem_cons_of_mem _ (List.mem_append_right _ h)) (List.mem_of_getElem? (i := 9) rfl) rfl rfl (fit_i _) (Nat.le_of_ble_eq_true rfl) dX6_walks_124 ?_
            refine j_aload_n C dX6_walks_127 rfl ?_
            refine j_iconst C dX6_walks_128 ?_
            refine j_put C 72 23 (by decide) (en_72 _ _) rfl pcl6 (by decide) (fun w h => List.mem_cons_of_mem _ (List.mem_append_right _ h)) (List.mem_of_getElem? (i := 10) rfl) rfl rfl (fit_i _) (Nat.le_of_ble_eq_true rfl) dX6_walks_129 ?_
            refine j_aload_n C dX6_walks_132 rfl ?_
            refine j_iconst C dX6_walks_133 ?_
            refine j_put C 72 24 (by decide) (en_72 _ _) rfl pcl6 (by decide) (fun w h => List.mem_cons_of_mem _ (List.mem_append_right _ h)) (List.mem_of_getElem? (i := 11) rfl) rfl rfl (fit_i _) (Nat.le_of_ble_eq_true rfl) dX6_walks_134 ?_
            refine j_aload_n C dX6_walks_137 rfl ?_
            refine j_aload_n C dX6_walks_138 rfl ?_
            refine j_aload_n C dX6_walks_139 rfl ?_
            refine j_get (v := si ((ms (ms (ms (ms V 72 16 ((as : Int) + 1)) 72 22 (u : Int)) 72 23 0) 72 24 1) 72 21)) C 72 21 (by decide) (en_72 _ _) rfl (by decide) (fun w h => List.mem_cons_of_mem _ (List.mem_append_right _ h)) (List.mem_of_getElem? (i := 8) rfl) dX6_walks_140 rfl ?_
            refine j_top (show (ms (ms (ms (ms V 72 16 ((as : Int) + 1)) 72 22 (u : Int)) 72 23 0) 72 24 1) 72 21 = _ from hu) ?_
            refine j_iload_n C dX6_walks_143 rfl ?_
            refine j_iconst C dX6_walks_144 ?_
            refine j_doI (st := [sr 72]) (j_runV C (kX6_firstOf (mdl_eq (V2 := (ms (ms (ms (ms V 72 16 ((as : Int) + 1)) 72 22 (u : Int)) 72 23 0) 72 24 1)) hg rfl) ok u t rfl rfl (by omega) (by omega) (by omega)) gX6_walks_X6_firstOf sgX6_firstOf rfl ⟨by decide, by decide⟩ (by decide) (en_72 _ _) rfl rfl rfl (Nat.le_of_ble_eq_true rfl) dX6_walks_145) (fun z_9 V_10 h_11 => ?_)
            obtain ⟨rfl, rfl⟩ := h_11
            refine j_put C 72 25 (by decide) (en_72 _ _) rfl pcl6 (by decide) (fun w h => List.mem_cons_of_mem _ (List.mem_append_right _ h)) (List.mem_of_getElem? (i := 12) rfl) rfl rfl (fit_i _) (Nat.le_of_ble_eq_true rfl) dX6_walks_148 ?_
            refine j_aload_n C dX6_walks_151 rfl ?_
            refine j_aload_n C dX6_walks_152 rfl ?_
            refine j_get (v := si (gO g u t (-1) (gN g))) C 72 25 (by decide) (en_72 _ _) rfl (by decide) (fun w h => List.mem_cons_of_mem _ (List.mem_append_right _ h)) (List.mem_of_getElem? (i := 12) rfl) dX6_walks_153 rfl ?_
            refine j_iconst C dX6_walks_156 ?_
            refine j_icmp_ne (tgt := 164) C dX6_walks_157 (by decide) (by have := gO_rg g u t (-1) (gN g); omega) (by decide) (fun q_12 => ?_) (fun q_12 => ?_)
            · refine j_iconst C dX6_walks_164 ?_
              refine j_put C 72 15 (by decide) (en_72 _ _) rfl pcl6 (by decide) (fun w h => List.mem_cons_of_mem _ (List.mem_append_right _ h)) (List.mem_of_getElem? (i := 3) rfl) rfl rfl (fit_z (by decide)) (Nat.le_of_ble_eq_true rfl) dX6_walks_165 ?_
              refine j_goto (tgt := 44) C dX6_walks_168 (by decide) ?_
              refine j_pick (lv' := [(0, sr 72), (1, si s), (2, si (t : Int)), (3, si 0)]) [0, 1, 2, 3] rfl ?_
              exact kx
            · omega
          · omega
      · omega
set_option maxHeartbeats 4000000 in
set_option maxRecDepth 100000 in
theorem wkm_as1 {O : OmT} {F : PhT} {V : Mem} {g : Nat → Int} (C : cx O F RX6 cX6_walks 5 none wsX6_walks) {s : Int} {t u : Nat} (hu : V 72 21 = (u : Int)) (htn : t < 10) (hun : u < 10) (hg : mdl V g) (ok : okg g) {st as : Nat} (hut : u ≠ t) (hlo : V 72 15 = 0) (hst : V 72 13 = (st : Int)) (h2 : st < 200) (has : V 72 16 = (as : Int)) (hR : gR g u t (gN g) = -1) (hU : gO g u t (-1) (gN g) = -1) (kx : J O F rX6_walks 5 (ms (ms (ms (ms (ms (ms V 72 16 ((as : Int) + 1)) 72 22 (u : Int)) 72 23 0) 72 24 1) 72 25 (gO g u t (-1) (gN g))) 72 15 1) 44 [(0, sr 72), (1, si s), (2, si (t : Int)), (3, si 0)] []) : J O F rX6_walks 5 V 44 [(0, sr 72), (1, si s), (2, si (t : Int)), (3, si 1)] [] := by
  have n1 := ok.n
  refine j_aload_n C dX6_walks_44 rfl ?_
  refine j_get (v := si (V 72 21)) C 72 21 (by decide) (en_72 _ _) rfl (by decide) (fun w h => List.mem_cons_of_mem _ (List.mem_append_right _ h)) (List.mem_of_getElem? (i := 8) rfl) dX6_walks_45 rfl ?_
  refine j_top hu ?_
  refine j_iload_n C dX6_walks_48 rfl ?_
  refine j_icmp_eq (tgt := 262) C dX6_walks_49 (by decide) (by omega) (by omega) (fun q_1 => ?_) (fun q_1 => ?_)
  · omega
  · refine j_aload_n C dX6_walks_52 rfl ?_
    refine j_get (v := si (V 72 15)) C 72 15 (by decide) (en_72 _ _) rfl (by decide) (fun w h => List.mem_cons_of_mem _ (List.mem_append_right _ h)) (List.mem_of_getElem? (i := 3) rfl) dX6_walks_53 rfl ?_
    refine j_top hlo ?_
    refine j_if_ne (tgt := 262) C dX6_walks_56 (by decide) (by decide) (fun q_2 => ?_) (fun q_2 => ?_)
    · omega
    · refine j_aload_n C dX6_walks_59 rfl ?_
      refine j_get (v := si (V 72 13)) C 72 13 (by decide) (en_72 _ _) rfl (by decide) (fun w h => List.mem_cons_of_mem _ (List.mem_append_right _ h)) (List.mem_of_getElem? (i := 1) rfl) dX6_walks_60 rfl ?_
      refine j_top hst ?_
      refine j_sipush C dX6_walks_63 (by decide) ?_
      refine j_icmp_ne (tgt := 77) C dX6_walks_66 (by decide) (by omega) (by decide) (fun q_3 => ?_) (fun q_3 => ?_)
      · refine j_iload_n C dX6_walks_77 rfl ?_
        refine j_if_eq (tgt := 171) C dX6_walks_78 (by decide) (by decide) (fun q_4 => ?_) (fun q_4 => ?_)
        · omega
        · refine j_aload_n C dX6_walks_81 rfl ?_
          refine j_aload_n C dX6_walks_82 rfl ?_
          refine j_get (v := si (V 72 21)) C 72 21 (by decide) (en_72 _ _) rfl (by decide) (fun w h => List.mem_cons_of_mem _ (List.mem_append_right _ h)) (List.mem_of_getElem? (i := 8) rfl) dX6_walks_83 rfl ?_
          refine j_top hu ?_
          refine j_iload_n C dX6_walks_86 rfl ?_
          refine j_doI (st := []) (j_runV C (kX6_nearerOf hg ok u t rfl rfl (by omega) (by omega)) gX6_walks_X6_nearerOf sgX6_nearerOf rfl ⟨by decide, by decide⟩ (by decide) (en_72 _ _) rfl rfl rfl (Nat.le_of_ble_eq_true rfl) dX6_walks_87) (fun z_5 V_6 h_7 => ?_)
          obtain ⟨rfl, rfl⟩ := h_7
          refine j_istore (lv' := [(0, sr 72), (1, si s), (2, si (t : Int)), (3, si 1), (4, si (gR g u t (gN g)))]) C dX6_walks_90 (by decide) rfl ?_
          refine j_iload C dX6_walks_92 rfl ?_
          refine j_iconst C dX6_walks_94 ?_
          refine j_icmp_eq (tgt := 107) C dX6_walks_95 (by decide) (by have := gR_rg g u t (gN g); omega) (by decide) (fun q_8 => ?_) (fun q_8 => ?_)
          · refine j_iconst C dX6_walks_107 ?_
            refine j_istore_n (lv' := [(0, sr 72), (1, si s), (2, si (t : Int)), (3, si 0), (4, si (gR g u t (gN g)))]) C dX6_walks_108 (by decide) rfl ?_
            refine j_aload_n C dX6_walks_109 rfl ?_
            refine j_dup C dX6_walks_110 rfl ?_
            refine j_get (v := si (V 72 16)) C 72 16 (by decide) (en_72 _ _) rfl (by decide) (fun w h => List.mem_cons_of_mem _ (List.mem_append_right _ h)) (List.mem_of_getElem? (i := 4) rfl) dX6_walks_111 rfl ?_
            refine j_top has ?_
            refine j_iconst C dX6_walks_114 ?_
            refine j_iadd C dX6_walks_115 ?_
            refine j_put C 72 16 (by decide) (en_72 _ _) rfl pcl6 (by decide) (fun w h => List.mem_cons_of_mem _ (List.mem_append_right _ h)) (List.mem_of_getElem? (i := 4) rfl) rfl rfl (fit_i _) (Nat.le_of_ble_eq_true rfl) dX6_walks_116 ?_
            refine j_aload_n C dX6_walks_119 rfl ?_
            refine j_aload_n C dX6_walks_120 rfl ?_
            refine j_get (v := si ((ms V 72 16 ((as : Int) + 1)) 72 21)) C 72 21 (by decide) (en_72 _ _) rfl (by decide) (fun w h => List.mem_cons_of_mem _ (List.mem_append_right _ h)) (List.mem_of_getElem? (i := 8) rfl) dX6_walks_121 rfl ?_
            refine j_top (show (ms V 72 16 ((as : Int) + 1)) 72 21 = _ from hu) ?_
            refine j_put C 72 22 (by decide) (en_72 _ _) rfl pcl6 (by decide) (fun w h => List.mem_cons_of_mem _ (List.mem_append_right _ h)) (List.mem_of_getElem? (i := 9) rfl) rfl rfl (fit_i _) (Nat.le_of_ble_eq_true rfl) dX6_walks_124 ?_
            refine j_aload_n C dX6_walks_127 rfl ?_
            refine j_iconst C dX6_walks_128 ?_
            refine j_put C 72 23 (by decide) (en_72 _ _) rfl pcl6 (by decide) (fun w h => List.mem_cons_of_mem _ (List.mem_append_right _ h)) (List.mem_of_getElem? (i := 10) rfl) rfl rfl (fit_i _) (Nat.le_of_ble_eq_true rfl) dX6_walks_129 ?_
            refine j_aload_n C dX6_walks_132 rfl ?_
            refine j_iconst C dX6_walks_133 ?_
            refine j_put C 72 24 (by decide) (en_72 _ _) rfl pcl6 (by decide) (fun w h => List.mem_cons_of_mem _ (List.mem_append_right _ h)) (List.mem_of_getElem? (i := 11) rfl) rfl rfl (fit_i _) (Nat.le_of_ble_eq_true rfl) dX6_walks_134 ?_
            refine j_aload_n C dX6_walks_137 rfl ?_
            refine j_aload_n C dX6_walks_138 rfl ?_
            refine j_aload_n C dX6_walks_139 rfl ?_
            refine j_get (v := si ((ms (ms (ms (ms V 72 16 ((as : Int) + 1)) 72 22 (u : Int)) 72 23 0) 72 24 1) 72 21)) C 72 21 (by decide) (en_72 _ _) rfl (by decide) (fun w h => List.mem_cons_of_mem _ (List.mem_append_right _ h)) (List.mem_of_getElem? (i := 8) rfl) dX6_walks_140 rfl ?_
            refine j_top (show (ms (ms (ms (ms V 72 16 ((as : Int) + 1)) 72 22 (u : Int)) 72 23 0) 72 24 1) 72 21 = _ from hu) ?_
            refine j_iload_n C dX6_walks_143 rfl ?_
            refine j_iconst C dX6_walks_144 ?_
            refine j_doI (st := [sr 72]) (j_runV C (kX6_firstOf (mdl_eq (V2 := (ms (ms (ms (ms V 72 16 ((as : Int) + 1)) 72 22 (u : Int)) 72 23 0) 72 24 1)) hg rfl) ok u t rfl rfl (by omega) (by omega) (by omega)) gX6_walks_X6_firstOf sgX6_firstOf rfl ⟨by decide, by decide⟩ (by decide) (en_72 _ _) rfl rfl rfl (Nat.le_of_ble_eq_true rfl) dX6_walks_145) (fun z_9 V_10 h_11 => ?_)
            obtain ⟨rfl, rfl⟩ := h_11
            refine j_put C 72 25 (by decide) (en_72 _ _) rfl pcl6 (by decide) (fun w h => List.mem_cons_of_mem _ (List.mem_append_right _ h)) (List.mem_of_getElem? (i := 12) rfl) rfl rfl (fit_i _) (Nat.le_of_ble_eq_true rfl) dX6_walks_148 ?_
            refine j_aload_n C dX6_walks_151 rfl ?_
            refine j_aload_n C dX6_walks_152 rfl ?_
            refine j_get (v := si (gO g u t (-1) (gN g))) C 72 25 (by decide) (en_72 _ _) rfl (by decide) (fun w h => List.mem_cons_of_mem _ (List.mem_append_right _ h)) (List.mem_of_getElem? (i := 12) rfl) dX6_walks_153 rfl ?_
            refine j_iconst C dX6_walks_156 ?_
            refine j_icmp_ne (tgt := 164) C dX6_walks_157 (by decide) (by have := gO_rg g u t (-1) (gN g); omega) (by decide) (fun q_12 => ?_) (fun q_12 => ?_)
            · omega
            · refine j_iconst C dX6_walks_160 ?_
              refine j_goto (tgt := 165) C dX6_walks_161 (by decide) ?_
              refine j_put C 72 15 (by decide) (en_72 _ _) rfl pcl6 (by decide) (fun w h => List.mem_cons_of_mem _ (List.mem_append_right _ h)) (List.mem_of_getElem? (i := 3) rfl) rfl rfl (fit_z (by decide)) (Nat.le_of_ble_eq_true rfl) dX6_walks_165 ?_
              refine j_goto (tgt := 44) C dX6_walks_168 (by decide) ?_
              refine j_pick (lv' := [(0, sr 72), (1, si s), (2, si (t : Int)), (3, si 0)]) [0, 1, 2, 3] rfl ?_
              exact kx
          · omega
      · omega
set_option maxHeartbeats 4000000 in
set_option maxRecDepth 100000 in
theorem wkm_seen {O : OmT} {F : PhT} {V : Mem} {g : Nat → Int} (C : cx O F RX6 cX6_walks 5 none wsX6_walks) {s : Int} {t u : Nat} (hu : V 72 21 = (u : Int)) (htn : t < 10) (hun : u < 10) (hg : mdl V g) (ok : okg g) {st e v k rn : Nat} (hut : u ≠ t) (hlo : V 72 15 = 0) (hst : V 72 13 = (st : Int)) (h2 : st < 200) (hk : V 72 19 = (k : Int)) (hk2 : k < 200) (he : V 72 22 = (e : Int)) (hx : V 72 25 = (v : Int)) (hs1 : V 72 23 = 0) (hs2 : V 72 24 = 1) (hen : e < gN g) (hvn : v < 10) (hsr : ∀ i, i < 5 * k → -10 ≤ V 81 i ∧ V 81 i ≤ 10) (hsaw : sawB V u e (v : Int) k = true) (kx : J O F rX6_walks 5 (ms V 72 15 1) 44 [(0, sr 72), (1, si s), (2, si (t : Int)), (3, si 0)] []) : J O F rX6_walks 5 V 44 [(0, sr 72), (1, si s), (2, si (t : Int)), (3, si 0)] [] := by
  have n1 := ok.n
  refine j_aload_n C dX6_walks_44 rfl ?_
  refine j_get (v := si (V 72 21)) C 72 21 (by decide) (en_72 _ _) rfl (by decide) (fun w h => List.mem_cons_of_mem _ (List.mem_append_right _ h)) (List.mem_of_getElem? (i := 8) rfl) dX6_walks_45 rfl ?_
  refine j_top hu ?_
  refine j_iload_n C dX6_walks_48 rfl ?_
  refine j_icmp_eq (tgt := 262) C dX6_walks_49 (by decide) (by omega) (by omega) (fun q_1 => ?_) (fun q_1 => ?_)
  · omega
  · refine j_aload_n C dX6_walks_52 rfl ?_
    refine j_get (v := si (V 72 15)) C 72 15 (by decide) (en_72 _ _) rfl (by decide) (fun w h => List.mem_cons_of_mem _ (List.mem_append_right _ h)) (List.mem_of_getElem? (i := 3) rfl) dX6_walks_53 rfl ?_
    refine j_top hlo ?_
    refine j_if_ne (tgt := 262) C dX6_walks_56 (by decide) (by decide) (fun q_2 => ?_) (fun q_2 => ?_)
    · omega
    · refine j_aload_n C dX6_walks_59 rfl ?_
      refine j_get (v := si (V 72 13)) C 72 13 (by decide) (en_72 _ _) rfl (by decide) (fun w h => List.mem_cons_of_mem _ (List.mem_append_right _ h)) (List.mem_of_getElem? (i := 1) rfl) dX6_walks_60 rfl ?_
      refine j_top hst ?_
      refine j_sipush C dX6_walks_63 (by decide) ?_
      refine j_icmp_ne (tgt := 77) C dX6_walks_66 (by decide) (by omega) (by decide) (fun q_3 => ?_) (fun q_3 => ?_)
      · refine j_iload_n C dX6_walks_77 rfl ?_
        refine j_if_eq (tgt := 171) C dX6_walks_78 (by decide) (by decide) (fun q_4 => ?_) (fun q_4 => ?_)
        · refine j_aload_n C dX6_walks_171 rfl ?_
          refine j_doI (st := []) (j_runV C (kX6_wasSo u e k (v : Int) hk (by omega) hu he hx hs1 hs2 (by omega) (by omega) (by omega) hsr) gX6_walks_X6_wasSo sgX6_wasSo rfl ⟨by decide, by decide⟩ (by decide) (en_72 _ _) rfl rfl rfl (Nat.le_of_ble_eq_true rfl) dX6_walks_172) (fun z_5 V_6 h_7 => ?_)
          obtain ⟨rfl, rfl, -⟩ := h_7.resolve_right (fun q => by rw [hsaw] at q; exact absurd q.2.2 (by decide))
          refine j_if_eq (tgt := 186) C dX6_walks_175 (by decide) (by decide) (fun q_8 => ?_) (fun q_8 => ?_)
          · omega
          · refine j_aload_n C dX6_walks_178 rfl ?_
            refine j_iconst C dX6_walks_179 ?_
            refine j_put C 72 15 (by decide) (en_72 _ _) rfl pcl6 (by decide) (fun w h => List.mem_cons_of_mem _ (List.mem_append_right _ h)) (List.mem_of_getElem? (i := 3) rfl) rfl rfl (fit_z (by decide)) (Nat.le_of_ble_eq_true rfl) dX6_walks_180 ?_
            refine j_goto (tgt := 44) C dX6_walks_183 (by decide) ?_
            exact kx
        · omega
      · omega
set_option maxHeartbeats 4000000 in
set_option maxRecDepth 100000 in
theorem wkm_round {O : OmT} {F : PhT} {V : Mem} {g : Nat → Int} (C : cx O F RX6 cX6_walks 5 none wsX6_walks) {s : Int} {t u : Nat} (hu : V 72 21 = (u : Int)) (htn : t < 10) (hun : u < 10) (hg : mdl V g) (ok : okg g) {st e v k rn : Nat} (hut : u ≠ t) (hlo : V 72 15 = 0) (hst : V 72 13 = (st : Int)) (h2 : st < 200) (hk : V 72 19 = (k : Int)) (hk2 : k < 200) (he : V 72 22 = (e : Int)) (hx : V 72 25 = (v : Int)) (hs1 : V 72 23 = 0) (hs2 : V 72 24 = 1) (hen : e < gN g) (hvn : v < 10) (hsr : ∀ i, i < 5 * k → -10 ≤ V 81 i ∧ V 81 i ≤ 10) (hsr2 : V 72 18 = (rn : Int)) (htn2 : t < gN g) (hae : gA g e = true) (hat : gA g t = true) (het : e ≠ t) (hR : gR g e t (gN g) = -1) (hT : gT g u v = true) (hF : gF g e t ≤ gF g u t) (hsaw : sawB V u e (v : Int) k = false) (kx1 : gF g v t < gF g e t → J O F rX6_walks 5 (ms (ms (ms (ms (ms (pushW V u e (v : Int) k) 72 21 (v : Int)) 72 13 ((st : Int) + 1)) 80 (st + 1) (v : Int)) 72 18 ((rn : Int) + 1)) 72 25 (gU g v u)) 44 [(0, sr 72), (1, si s), (2, si (t : Int)), (3, si 1)] []) (kx0 : ¬ gF g v t < gF g e t → J O F rX6_walks 5 (ms (ms (ms (ms (ms (pushW V u e (v : Int) k) 72 21 (v : Int)) 72 13 ((st : Int) + 1)) 80 (st + 1) (v : Int)) 72 18 ((rn : Int) + 1)) 72 25 (gU g v u)) 44 [(0, sr 72), (1, si s), (2, si (t : Int)), (3, si 0)] []) : J O F rX6_walks 5 V 44 [(0, sr 72), (1, si s), (2, si (t : Int)), (3, si 0)] [] := by
  have n1 := ok.n
  have htn := htn2
  refine j_aload_n C dX6_walks_44 rfl ?_
  refine j_get (v := si (V 72 21)) C 72 21 (by decide) (en_72 _ _) rfl (by decide) (fun w h => List.mem_cons_of_mem _ (List.mem_append_right _ h)) (List.mem_of_getElem? (i := 8) rfl) dX6_walks_45 rfl ?_
  refine j_top hu ?_
  refine j_iload_n C dX6_walks_48 rfl ?_
  refine j_icmp_eq (tgt := 262) C dX6_walks_49 (by decide) (by omega) (by omega) (fun q_1 => ?_) (fun q_1 => ?_)
  · omega
  · refine j_aload_n C dX6_walks_52 rfl ?_
    refine j_get (v := si (V 72 15)) C 72 15 (by decide) (en_72 _ _) rfl (by decide) (fun w h => List.mem_cons_of_mem _ (List.mem_append_right _ h)) (List.mem_of_getElem? (i := 3) rfl) dX6_walks_53 rfl ?_
    refine j_top hlo ?_
    refine j_if_ne (tgt := 262) C dX6_walks_56 (by decide) (by decide) (fun q_2 => ?_) (fun q_2 => ?_)
    · omega
    · refine j_aload_n C dX6_walks_59 rfl ?_
      refine j_get (v := si (V 72 13)) C 72 13 (by decide) (en_72 _ _) rfl (by decide) (fun w h => List.mem_cons_of_mem _ (List.mem_append_right _ h)) (List.mem_of_getElem? (i := 1) rfl) dX6_walks_60 rfl ?_
      refine j_top hst ?_
      refine j_sipush C dX6_walks_63 (by decide) ?_
      refine j_icmp_ne (tgt := 77) C dX6_walks_66 (by decide) (by omega) (by decide) (fun q_3 => ?_) (fun q_3 => ?_)
      · refine j_iload_n C dX6_walks_77 rfl ?_
        refine j_if_eq (tgt := 171) C dX6_walks_78 (by decide) (by decide) (fun q_4 => ?_) (fun q_4 => ?_)
        · refine j_aload_n C dX6_walks_171 rfl ?_
          refine j_doI (st := []) (j_runV C (kX6_wasSo u e k (v : Int) hk (by omega) hu he hx hs1 hs2 (by omega) (by omega) (by omega) hsr) gX6_walks_X6_wasSo sgX6_wasSo rfl ⟨by decide, by decide⟩ (by decide) (en_72 _ _) rfl rfl rfl (Nat.le_of_ble_eq_true rfl) dX6_walks_172) (fun z_5 V_6 h_7 => ?_)
          obtain ⟨rfl, rfl, -⟩ := h_7.resolve_left (fun q => by rw [hsaw] at q; exact absurd q.2.2 (by decide))
          refine j_if_eq (tgt := 186) C dX6_walks_175 (by decide) (by decide) (fun q_8 => ?_) (fun q_8 => ?_)
          · refine j_aload_n C dX6_walks_186 rfl ?_
            refine j_iload_n C dX6_walks_187 rfl ?_
            refine j_doI (st := []) (j_runV C (kX6_changesFace (mdl_eq (V2 := (pushW V u e (v : Int) k)) hg rfl) ok t u e v rfl (show (pushW V u e (v : Int) k) 72 21 = (u : Int) from hu) (show (pushW V u e (v : Int) k) 72 22 = (e : Int) from he) (show (pushW V u e (v : Int) k) 72 25 = (v : Int) from hx) (show (pushW V u e (v : Int) k) 72 23 = 0 from hs1) (show (pushW V u e (v : Int) k) 72 24 = 1 from hs2) hen htn hae hat het hut hR hT hF) gX6_walks_X6_changesFace sgX6_changesFace rfl ⟨by decide, by decide⟩ (by decide) (en_72 _ _) rfl rfl rfl (Nat.le_of_ble_eq_true rfl) dX6_walks_188) (fun z_9 V_10 h_11 => ?_)
            obtain ⟨rfl, rfl⟩ := h_11
            refine j_if_ne (tgt := 44) C dX6_walks_191 (by decide) (by decide) (fun q_12 => ?_) (fun q_12 => ?_)
            · omega
            · refine j_aload_n C dX6_walks_194 rfl ?_
              refine j_get (v := si ((pushW V u e (v : Int) k) 72 21)) C 72 21 (by decide) (en_72 _ _) rfl (by decide) (fun w h => List.mem_cons_of_mem _ (List.mem_append_right _ h)) (List.mem_of_getElem? (i := 8) rfl) dX6_walks_195 rfl ?_
              refine j_top (show (pushW V u e (v : Int) k) 72 21 = _ from hu) ?_
              refine j_istore (lv' := [(0, sr 72), (1, si s), (2, si (t : Int)), (3, si 0), (4, si (u : Int))]) C dX6_walks_198 (by decide) rfl ?_
              refine j_aload_n C dX6_walks_200 rfl ?_
              refine j_aload_n C dX6_walks_201 rfl ?_
              refine j_get (v := si ((pushW V u e (v : Int) k) 72 25)) C 72 25 (by decide) (en_72 _ _) rfl (by decide) (fun w h => List.mem_cons_of_mem _ (List.mem_append_right _ h)) (List.mem_of_getElem? (i := 12) rfl) dX6_walks_202 rfl ?_
              refine j_top (show (pushW V u e (v : Int) k) 72 25 = _ from hx) ?_
              refine j_doV (st := []) (j_runV C (kX6_goes v st rfl (show (pushW V u e (v : Int) k) 72 13 = (st : Int) from hst) (by omega)) gX6_walks_X6_goes sgX6_goes rfl ⟨by decide, by decide⟩ (by decide) (en_72 _ _) rfl rfl rfl (Nat.le_of_ble_eq_true rfl) dX6_walks_205) (fun V_14 h_15 => ?_)
              subst h_15
              refine j_aload_n C dX6_walks_208 rfl ?_
              refine j_dup C dX6_walks_209 rfl ?_
              refine j_get (v := si ((ms (ms (ms (pushW V u e (v : Int) k) 72 21 (v : Int)) 72 13 ((st : Int) + 1)) 80 (st + 1) (v : Int)) 72 18)) C 72 18 (by decide) (en_72 _ _) rfl (by decide) (fun w h => List.mem_cons_of_mem _ (List.mem_append_right _ h)) (List.mem_of_getElem? (i := 6) rfl) dX6_walks_210 rfl ?_
              refine j_top (show (ms (ms (ms (pushW V u e (v : Int) k) 72 21 (v : Int)) 72 13 ((st : Int) + 1)) 80 (st + 1) (v : Int)) 72 18 = _ from hsr2) ?_
              refine j_iconst C dX6_walks_213 ?_
              refine j_iadd C dX6_walks_214 ?_
              refine j_put C 72 18 (by decide) (en_72 _ _) rfl pcl6 (by decide) (fun w h => List.mem_cons_of_mem _ (List.mem_append_right _ h)) (List.mem_of_getElem? (i := 6) rfl) rfl rfl (fit_i _) (Nat.le_of_ble_eq_true rfl) dX6_walks_215 ?_
              refine j_aload_n C dX6_walks_218 rfl ?_
              refine j_aload_n C dX6_walks_219 rfl ?_
              refine j_get (v := si (v : Int)) C 72 21 (by decide) (en_72 _ _) rfl (by decide) (fun w h => List.mem_cons_of_mem _ (List.mem_append_right _ h)) (List.mem_of_getElem? (i := 8) rfl) dX6_walks_220 rfl ?_
              refine j_iload_n C dX6_walks_223 rfl ?_
              refine j_doI (st := []) (j_runV C (kX6_farOf (mdl_eq (V2 := (ms (ms (ms (ms (pushW V u e (v : Int) k) 72 21 (v : Int)) 72 13 ((st : Int) + 1)) 80 (st + 1) (v : Int)) 72 18 ((rn : Int) + 1))) hg rfl) v t rfl rfl (by omega) (by omega)) gX6_walks_X6_farOf sgX6_farOf rfl ⟨by decide, by decide⟩ (by decide) (en_72 _ _) rfl rfl rfl (Nat.le_of_ble_eq_true rfl) dX6_walks_224) (fun z_16 V_17 h_18 => ?_)
              obtain ⟨rfl, rfl⟩ := h_18
              refine j_aload_n C dX6_walks_227 rfl ?_
              refine j_aload_n C dX6_walks_228 rfl ?_
              refine j_get (v := si ((ms (ms (ms (ms (pushW V u e (v : Int) k) 72 21 (v : Int)) 72 13 ((st : Int) + 1)) 80 (st + 1) (v : Int)) 72 18 ((rn : Int) + 1)) 72 22)) C 72 22 (by decide) (en_72 _ _) rfl (by decide) (fun w h => List.mem_cons_of_mem _ (List.mem_append_right _ h)) (List.mem_of_getElem? (i := 9) rfl) dX6_walks_229 rfl ?_
              refine j_top (show (ms (ms (ms (ms (pushW V u e (v : Int) k) 72 21 (v : Int)) 72 13 ((st : Int) + 1)) 80 (st + 1) (v : Int)) 72 18 ((rn : Int) + 1)) 72 22 = _ from he) ?_
              refine j_iload_n C dX6_walks_232 rfl ?_
              refine j_doI (st := [si (gF g v t)]) (j_runV C (kX6_farOf (mdl_eq (V2 := (ms (ms (ms (ms (pushW V u e (v : Int) k) 72 21 (v : Int)) 72 13 ((st : Int) + 1)) 80 (st + 1) (v : Int)) 72 18 ((rn : Int) + 1))) hg rfl) e t rfl rfl (by omega) (by omega)) gX6_walks_X6_farOf sgX6_farOf rfl ⟨by decide, by decide⟩ (by decide) (en_72 _ _) rfl rfl rfl (Nat.le_of_ble_eq_true rfl) dX6_walks_233) (fun z_19 V_20 h_21 => ?_)
              obtain ⟨rfl, rfl⟩ := h_21
              refine j_icmp_ge (tgt := 243) C dX6_walks_236 (by decide) (by have := ok.f (u := v) (v := t) (by omega) (by omega); omega) (by have := ok.f (u := e) (v := t) (by omega) (by omega); omega) (fun q_22 => ?_) (fun q_22 => ?_)
              · refine j_iconst C dX6_walks_243 ?_
                refine j_istore_n (lv' := [(0, sr 72), (1, si s), (2, si (t : Int)), (3, si 0), (4, si (u : Int))]) C dX6_walks_244 (by decide) rfl ?_
                refine j_aload_n C dX6_walks_245 rfl ?_
                refine j_aload_n C dX6_walks_246 rfl ?_
                refine j_aload_n C dX6_walks_247 rfl ?_
                refine j_get (v := si (v : Int)) C 72 21 (by decide) (en_72 _ _) rfl (by decide) (fun w h => List.mem_cons_of_mem _ (List.mem_append_right _ h)) (List.mem_of_getElem? (i := 8) rfl) dX6_walks_248 rfl ?_
                refine j_iload C dX6_walks_251 rfl ?_
                refine j_doI (st := [sr 72]) (j_runV C (kX6_turned (mdl_eq (V2 := (ms (ms (ms (ms (pushW V u e (v : Int) k) 72 21 (v : Int)) 72 13 ((st : Int) + 1)) 80 (st + 1) (v : Int)) 72 18 ((rn : Int) + 1))) hg rfl) ok v u rfl rfl (by omega) (by omega)) gX6_walks_X6_turned sgX6_turned rfl ⟨by decide, by decide⟩ (by decide) (en_72 _ _) rfl rfl rfl (Nat.le_of_ble_eq_true rfl) dX6_walks_253) (fun z_23 V_24 h_25 => ?_)
                obtain ⟨rfl, rfl⟩ := h_25
                refine j_put C 72 25 (by decide) (en_72 _ _) rfl pcl6 (by decide) (fun w h => List.mem_cons_of_mem _ (List.mem_append_right _ h)) (List.mem_of_getElem? (i := 12) rfl) rfl rfl (fit_i _) (Nat.le_of_ble_eq_true rfl) dX6_walks_256 ?_
                refine j_goto (tgt := 44) C dX6_walks_259 (by decide) ?_
                refine j_pick (lv' := [(0, sr 72), (1, si s), (2, si (t : Int)), (3, si 0)]) [0, 1, 2, 3] rfl ?_
                exact kx0 (by omega)
              · refine j_iconst C dX6_walks_239 ?_
                refine j_goto (tgt := 244) C dX6_walks_240 (by decide) ?_
                refine j_istore_n (lv' := [(0, sr 72), (1, si s), (2, si (t : Int)), (3, si 1), (4, si (u : Int))]) C dX6_walks_244 (by decide) rfl ?_
                refine j_aload_n C dX6_walks_245 rfl ?_
                refine j_aload_n C dX6_walks_246 rfl ?_
                refine j_aload_n C dX6_walks_247 rfl ?_
                refine j_get (v := si (v : Int)) C 72 21 (by decide) (en_72 _ _) rfl (by decide) (fun w h => List.mem_cons_of_mem _ (List.mem_append_right _ h)) (List.mem_of_getElem? (i := 8) rfl) dX6_walks_248 rfl ?_
                refine j_iload C dX6_walks_251 rfl ?_
                refine j_doI (st := [sr 72]) (j_runV C (kX6_turned (mdl_eq (V2 := (ms (ms (ms (ms (pushW V u e (v : Int) k) 72 21 (v : Int)) 72 13 ((st : Int) + 1)) 80 (st + 1) (v : Int)) 72 18 ((rn : Int) + 1))) hg rfl) ok v u rfl rfl (by omega) (by omega)) gX6_walks_X6_turned sgX6_turned rfl ⟨by decide, by decide⟩ (by decide) (en_72 _ _) rfl rfl rfl (Nat.le_of_ble_eq_true rfl) dX6_walks_253) (fun z_26 V_27 h_28 => ?_)
                obtain ⟨rfl, rfl⟩ := h_28
                refine j_put C 72 25 (by decide) (en_72 _ _) rfl pcl6 (by decide) (fun w h => List.mem_cons_of_mem _ (List.mem_append_right _ h)) (List.mem_of_getElem? (i := 12) rfl) rfl rfl (fit_i _) (Nat.le_of_ble_eq_true rfl) dX6_walks_256 ?_
                refine j_goto (tgt := 44) C dX6_walks_259 (by decide) ?_
                refine j_pick (lv' := [(0, sr 72), (1, si s), (2, si (t : Int)), (3, si 1)]) [0, 1, 2, 3] rfl ?_
                exact kx1 (by omega)
          · omega
        · omega
      · omega
