def rX2_walk : Room := { frames := 4, cells := 0, slots := 0, locals := 96 }
theorem sgX2_walk : sg yX2_walk wsX2_walk cX2_walk 4 none rX2_walk 2 := ⟨⟨_, rfl⟩, rfl, rfl, by decide, by decide, by decide +kernel⟩
set_option maxHeartbeats 4000000 in
set_option maxRecDepth 100000 in
theorem wkc_end {O : OmT} {F : PhT} {V : Mem} {g : Nat → Int} {post : Mem → Prop} (C : cx O F RX2 cX2_walk 4 none wsX2_walk) (hQ : qV O F post) {zs zt : Int} {t u k : Nat} (hk : k < 10000) (hu : V 8 4 = (u : Int)) (hm : V 8 5 = (t : Int)) (htn0 : t < 10) (hun0 : u < 10) (hut : u = t) (hp : post (ms V 8 16 0))  : J O F rX2_walk 4 V 8 [(0, sr 8), (1, si zs), (2, si zt), (3, si (k : Int))] [] := by
  refine j_iload_n C dX2_walk_8 rfl ?_
  refine j_sipush C dX2_walk_9 (by decide) ?_
  refine j_icmp_ge (tgt := 75) C dX2_walk_12 (by decide) (by omega) (by decide) (fun q_1 => ?_) (fun q_1 => ?_)
  · omega
  · refine j_aload_n C dX2_walk_15 rfl ?_
    refine j_get (v := si (V 8 4)) C 8 4 (by decide) (en_8 _ _) rfl (by decide) (fun w h => List.mem_cons_of_mem _ (List.mem_append_left _ (List.mem_append_left _ (List.mem_append_right _ h)))) (List.mem_of_getElem? (i := 1) rfl) dX2_walk_16 rfl ?_
    refine j_top hu ?_
    refine j_aload_n C dX2_walk_19 rfl ?_
    refine j_get (v := si (V 8 5)) C 8 5 (by decide) (en_8 _ _) rfl (by decide) (fun w h => List.mem_cons_of_mem _ (List.mem_append_left _ (List.mem_append_left _ (List.mem_append_right _ h)))) (List.mem_of_getElem? (i := 2) rfl) dX2_walk_20 rfl ?_
    refine j_top hm ?_
    refine j_icmp_eq (tgt := 75) C dX2_walk_23 (by decide) (by omega) (by omega) (fun q_2 => ?_) (fun q_2 => ?_)
    · refine j_aload_n C dX2_walk_75 rfl ?_
      refine j_aload_n C dX2_walk_76 rfl ?_
      refine j_get (v := si (V 8 4)) C 8 4 (by decide) (en_8 _ _) rfl (by decide) (fun w h => List.mem_cons_of_mem _ (List.mem_append_left _ (List.mem_append_left _ (List.mem_append_right _ h)))) (List.mem_of_getElem? (i := 1) rfl) dX2_walk_77 rfl ?_
      refine j_top hu ?_
      refine j_aload_n C dX2_walk_80 rfl ?_
      refine j_get (v := si (V 8 5)) C 8 5 (by decide) (en_8 _ _) rfl (by decide) (fun w h => List.mem_cons_of_mem _ (List.mem_append_left _ (List.mem_append_left _ (List.mem_append_right _ h)))) (List.mem_of_getElem? (i := 2) rfl) dX2_walk_81 rfl ?_
      refine j_top hm ?_
      refine j_icmp_eq (tgt := 91) C dX2_walk_84 (by decide) (by omega) (by omega) (fun q_3 => ?_) (fun q_3 => ?_)
      · refine j_iconst C dX2_walk_91 ?_
        refine j_put C 8 16 (by decide) (en_8 _ _) rfl pcl2 (by decide) (fun w h => List.mem_cons_of_mem _ (List.mem_append_left _ (List.mem_append_left _ (List.mem_append_right _ h)))) (List.mem_of_getElem? (i := 3) rfl) rfl rfl (fit_z (by decide)) (Nat.le_of_ble_eq_true rfl) dX2_walk_92 ?_
        refine j_vret C hQ dX2_walk_95 ?_
        exact hp
      · omega
    · omega
set_option maxHeartbeats 4000000 in
set_option maxRecDepth 100000 in
theorem wkc_lost {O : OmT} {F : PhT} {V : Mem} {g : Nat → Int} {post : Mem → Prop} (C : cx O F RX2 cX2_walk 4 none wsX2_walk) (hQ : qV O F post) {zs zt : Int} {t u k : Nat} (hk : k < 10000) (hu : V 8 4 = (u : Int)) (hm : V 8 5 = (t : Int)) (htn0 : t < 10) (hun0 : u < 10) (hut : u ≠ t) (hlo : V 8 16 = 1) (hp : post (ms V 8 16 1))  : J O F rX2_walk 4 V 8 [(0, sr 8), (1, si zs), (2, si zt), (3, si (k : Int))] [] := by
  refine j_iload_n C dX2_walk_8 rfl ?_
  refine j_sipush C dX2_walk_9 (by decide) ?_
  refine j_icmp_ge (tgt := 75) C dX2_walk_12 (by decide) (by omega) (by decide) (fun q_1 => ?_) (fun q_1 => ?_)
  · omega
  · refine j_aload_n C dX2_walk_15 rfl ?_
    refine j_get (v := si (V 8 4)) C 8 4 (by decide) (en_8 _ _) rfl (by decide) (fun w h => List.mem_cons_of_mem _ (List.mem_append_left _ (List.mem_append_left _ (List.mem_append_right _ h)))) (List.mem_of_getElem? (i := 1) rfl) dX2_walk_16 rfl ?_
    refine j_top hu ?_
    refine j_aload_n C dX2_walk_19 rfl ?_
    refine j_get (v := si (V 8 5)) C 8 5 (by decide) (en_8 _ _) rfl (by decide) (fun w h => List.mem_cons_of_mem _ (List.mem_append_left _ (List.mem_append_left _ (List.mem_append_right _ h)))) (List.mem_of_getElem? (i := 2) rfl) dX2_walk_20 rfl ?_
    refine j_top hm ?_
    refine j_icmp_eq (tgt := 75) C dX2_walk_23 (by decide) (by omega) (by omega) (fun q_2 => ?_) (fun q_2 => ?_)
    · omega
    · refine j_aload_n C dX2_walk_26 rfl ?_
      refine j_get (v := si (V 8 16)) C 8 16 (by decide) (en_8 _ _) rfl (by decide) (fun w h => List.mem_cons_of_mem _ (List.mem_append_left _ (List.mem_append_left _ (List.mem_append_right _ h)))) (List.mem_of_getElem? (i := 3) rfl) dX2_walk_27 rfl ?_
      refine j_top hlo ?_
      refine j_if_ne (tgt := 75) C dX2_walk_30 (by decide) (by decide) (fun q_3 => ?_) (fun q_3 => ?_)
      · refine j_aload_n C dX2_walk_75 rfl ?_
        refine j_aload_n C dX2_walk_76 rfl ?_
        refine j_get (v := si (V 8 4)) C 8 4 (by decide) (en_8 _ _) rfl (by decide) (fun w h => List.mem_cons_of_mem _ (List.mem_append_left _ (List.mem_append_left _ (List.mem_append_right _ h)))) (List.mem_of_getElem? (i := 1) rfl) dX2_walk_77 rfl ?_
        refine j_top hu ?_
        refine j_aload_n C dX2_walk_80 rfl ?_
        refine j_get (v := si (V 8 5)) C 8 5 (by decide) (en_8 _ _) rfl (by decide) (fun w h => List.mem_cons_of_mem _ (List.mem_append_left _ (List.mem_append_left _ (List.mem_append_right _ h)))) (List.mem_of_getElem? (i := 2) rfl) dX2_walk_81 rfl ?_
        refine j_top hm ?_
        refine j_icmp_eq (tgt := 91) C dX2_walk_84 (by decide) (by omega) (by omega) (fun q_4 => ?_) (fun q_4 => ?_)
        · omega
        · refine j_iconst C dX2_walk_87 ?_
          refine j_goto (tgt := 92) C dX2_walk_88 (by decide) ?_
          refine j_put C 8 16 (by decide) (en_8 _ _) rfl pcl2 (by decide) (fun w h => List.mem_cons_of_mem _ (List.mem_append_left _ (List.mem_append_left _ (List.mem_append_right _ h)))) (List.mem_of_getElem? (i := 3) rfl) rfl rfl (fit_z (by decide)) (Nat.le_of_ble_eq_true rfl) dX2_walk_92 ?_
          refine j_vret C hQ dX2_walk_95 ?_
          exact hp
      · omega
set_option maxHeartbeats 4000000 in
set_option maxRecDepth 100000 in
theorem wkc_200 {O : OmT} {F : PhT} {V : Mem} {g : Nat → Int} (C : cx O F RX2 cX2_walk 4 none wsX2_walk) {zs zt : Int} {t u k : Nat} (hk : k < 10000) (hu : V 8 4 = (u : Int)) (hm : V 8 5 = (t : Int)) (htn0 : t < 10) (hun0 : u < 10) (hut : u ≠ t) (hlo : V 8 16 = 0) (hst : V 8 10 = 200) (kx : J O F rX2_walk 4 (ms V 8 16 1) 8 [(0, sr 8), (1, si zs), (2, si zt), (3, si ((k : Int) + 1))] []) : J O F rX2_walk 4 V 8 [(0, sr 8), (1, si zs), (2, si zt), (3, si (k : Int))] [] := by
  refine j_iload_n C dX2_walk_8 rfl ?_
  refine j_sipush C dX2_walk_9 (by decide) ?_
  refine j_icmp_ge (tgt := 75) C dX2_walk_12 (by decide) (by omega) (by decide) (fun q_1 => ?_) (fun q_1 => ?_)
  · omega
  · refine j_aload_n C dX2_walk_15 rfl ?_
    refine j_get (v := si (V 8 4)) C 8 4 (by decide) (en_8 _ _) rfl (by decide) (fun w h => List.mem_cons_of_mem _ (List.mem_append_left _ (List.mem_append_left _ (List.mem_append_right _ h)))) (List.mem_of_getElem? (i := 1) rfl) dX2_walk_16 rfl ?_
    refine j_top hu ?_
    refine j_aload_n C dX2_walk_19 rfl ?_
    refine j_get (v := si (V 8 5)) C 8 5 (by decide) (en_8 _ _) rfl (by decide) (fun w h => List.mem_cons_of_mem _ (List.mem_append_left _ (List.mem_append_left _ (List.mem_append_right _ h)))) (List.mem_of_getElem? (i := 2) rfl) dX2_walk_20 rfl ?_
    refine j_top hm ?_
    refine j_icmp_eq (tgt := 75) C dX2_walk_23 (by decide) (by omega) (by omega) (fun q_2 => ?_) (fun q_2 => ?_)
    · omega
    · refine j_aload_n C dX2_walk_26 rfl ?_
      refine j_get (v := si (V 8 16)) C 8 16 (by decide) (en_8 _ _) rfl (by decide) (fun w h => List.mem_cons_of_mem _ (List.mem_append_left _ (List.mem_append_left _ (List.mem_append_right _ h)))) (List.mem_of_getElem? (i := 3) rfl) dX2_walk_27 rfl ?_
      refine j_top hlo ?_
      refine j_if_ne (tgt := 75) C dX2_walk_30 (by decide) (by decide) (fun q_3 => ?_) (fun q_3 => ?_)
      · omega
      · refine j_aload_n C dX2_walk_33 rfl ?_
        refine j_get (v := si (V 8 10)) C 8 10 (by decide) (en_8 _ _) rfl (by decide) (fun w h => List.mem_cons_of_mem _ (List.mem_append_left _ (List.mem_append_left _ (List.mem_append_right _ h)))) (List.mem_of_getElem? (i := 4) rfl) dX2_walk_34 rfl ?_
        refine j_top hst ?_
        refine j_sipush C dX2_walk_37 (by decide) ?_
        refine j_icmp_lt (tgt := 51) C dX2_walk_40 (by decide) (by decide) (by decide) (fun q_4 => ?_) (fun q_4 => ?_)
        · omega
        · refine j_aload_n C dX2_walk_43 rfl ?_
          refine j_iconst C dX2_walk_44 ?_
          refine j_put C 8 16 (by decide) (en_8 _ _) rfl pcl2 (by decide) (fun w h => List.mem_cons_of_mem _ (List.mem_append_left _ (List.mem_append_left _ (List.mem_append_right _ h)))) (List.mem_of_getElem? (i := 3) rfl) rfl rfl (fit_z (by decide)) (Nat.le_of_ble_eq_true rfl) dX2_walk_45 ?_
          refine j_goto (tgt := 69) C dX2_walk_48 (by decide) ?_
          refine j_iinc (lv' := [(0, sr 8), (1, si zs), (2, si zt), (3, si ((k : Int) + 1))]) C dX2_walk_69 rfl (by decide) rfl ?_
          refine j_goto (tgt := 8) C dX2_walk_72 (by decide) ?_
          exact kx
set_option maxHeartbeats 4000000 in
set_option maxRecDepth 100000 in
theorem wkc_greedy {O : OmT} {F : PhT} {V : Mem} {g : Nat → Int} (C : cx O F RX2 cX2_walk 4 none wsX2_walk) {zs zt : Int} {t u k : Nat} (hk : k < 10000) (hu : V 8 4 = (u : Int)) (hm : V 8 5 = (t : Int)) (htn0 : t < 10) (hun0 : u < 10) (hn : net V g) (ok : okg g) {st so as : Nat} (hut : u ≠ t) (hlo : V 8 16 = 0) (hst : V 8 10 = (st : Int)) (h2 : st < 200) (hr : V 8 15 = 0) (hso : V 8 14 = (so : Int)) (hso2 : so < 2147483648) (has : V 8 11 = (as : Int)) (hun : u < gN g) (htn : t < gN g) (kx : J O F rX2_walk 4 (if gR g u t (gN g) = -1 then cTurn (cAs V u as) u 0 (gU g u t) else cGo V st so (gR g u t (gN g)).toNat) 8 [(0, sr 8), (1, si zs), (2, si zt), (3, si ((k : Int) + 1))] []) : J O F rX2_walk 4 V 8 [(0, sr 8), (1, si zs), (2, si zt), (3, si (k : Int))] [] := by
  refine j_iload_n C dX2_walk_8 rfl ?_
  refine j_sipush C dX2_walk_9 (by decide) ?_
  refine j_icmp_ge (tgt := 75) C dX2_walk_12 (by decide) (by omega) (by decide) (fun q_1 => ?_) (fun q_1 => ?_)
  · omega
  · refine j_aload_n C dX2_walk_15 rfl ?_
    refine j_get (v := si (V 8 4)) C 8 4 (by decide) (en_8 _ _) rfl (by decide) (fun w h => List.mem_cons_of_mem _ (List.mem_append_left _ (List.mem_append_left _ (List.mem_append_right _ h)))) (List.mem_of_getElem? (i := 1) rfl) dX2_walk_16 rfl ?_
    refine j_top hu ?_
    refine j_aload_n C dX2_walk_19 rfl ?_
    refine j_get (v := si (V 8 5)) C 8 5 (by decide) (en_8 _ _) rfl (by decide) (fun w h => List.mem_cons_of_mem _ (List.mem_append_left _ (List.mem_append_left _ (List.mem_append_right _ h)))) (List.mem_of_getElem? (i := 2) rfl) dX2_walk_20 rfl ?_
    refine j_top hm ?_
    refine j_icmp_eq (tgt := 75) C dX2_walk_23 (by decide) (by omega) (by omega) (fun q_2 => ?_) (fun q_2 => ?_)
    · omega
    · refine j_aload_n C dX2_walk_26 rfl ?_
      refine j_get (v := si (V 8 16)) C 8 16 (by decide) (en_8 _ _) rfl (by decide) (fun w h => List.mem_cons_of_mem _ (List.mem_append_left _ (List.mem_append_left _ (List.mem_append_right _ h)))) (List.mem_of_getElem? (i := 3) rfl) dX2_walk_27 rfl ?_
      refine j_top hlo ?_
      refine j_if_ne (tgt := 75) C dX2_walk_30 (by decide) (by decide) (fun q_3 => ?_) (fun q_3 => ?_)
      · omega
      · refine j_aload_n C dX2_walk_33 rfl ?_
        refine j_get (v := si (V 8 10)) C 8 10 (by decide) (en_8 _ _) rfl (by decide) (fun w h => List.mem_cons_of_mem _ (List.mem_append_left _ (List.mem_append_left _ (List.mem_append_right _ h)))) (List.mem_of_getElem? (i := 4) rfl) dX2_walk_34 rfl ?_
        refine j_top hst ?_
        refine j_sipush C dX2_walk_37 (by decide) ?_
        refine j_icmp_lt (tgt := 51) C dX2_walk_40 (by decide) (by omega) (by decide) (fun q_4 => ?_) (fun q_4 => ?_)
        · refine j_aload_n C dX2_walk_51 rfl ?_
          refine j_get (v := si (V 8 15)) C 8 15 (by decide) (en_8 _ _) rfl (by decide) (fun w h => List.mem_cons_of_mem _ (List.mem_append_left _ (List.mem_append_left _ (List.mem_append_right _ h)))) (List.mem_of_getElem? (i := 5) rfl) dX2_walk_52 rfl ?_
          refine j_top hr ?_
          refine j_if_eq (tgt := 65) C dX2_walk_55 (by decide) (by decide) (fun q_5 => ?_) (fun q_5 => ?_)
          · refine j_aload_n C dX2_walk_65 rfl ?_
            refine j_doV (st := []) (j_runV C (kX2_goGreedy hn ok t u st so as hu hm hst (by omega) hso hso2 has hun htn hut) gX2_walk_X2_goGreedy sgX2_goGreedy rfl ⟨by decide, by decide⟩ (by decide) (en_8 _ _) rfl rfl rfl (Nat.le_of_ble_eq_true rfl) dX2_walk_66) (fun V_7 h_8 => ?_)
            subst h_8
            refine j_iinc (lv' := [(0, sr 8), (1, si zs), (2, si zt), (3, si ((k : Int) + 1))]) C dX2_walk_69 rfl (by decide) rfl ?_
            refine j_goto (tgt := 8) C dX2_walk_72 (by decide) ?_
            exact kx
          · omega
        · omega
set_option maxHeartbeats 4000000 in
set_option maxRecDepth 100000 in
theorem wkc_round {O : OmT} {F : PhT} {V : Mem} {g : Nat → Int} (C : cx O F RX2 cX2_walk 4 none wsX2_walk) {zs zt : Int} {t u k : Nat} (hk : k < 10000) (hu : V 8 4 = (u : Int)) (hm : V 8 5 = (t : Int)) (htn0 : t < 10) (hun0 : u < 10) (hn : net V g) (ok : okg g) {rn st so m e v : Nat} (hut : u ≠ t) (hlo : V 8 16 = 0) (hst : V 8 10 = (st : Int)) (h2 : st < 200) (hr : V 8 15 = 1) (hso : V 8 14 = (so : Int)) (hso2 : so < 2147483648) (hrn : V 8 13 = (rn : Int)) (hrow : V 10 v = (m : Int)) (hm2 : m < 1024) (he : V 8 6 = (e : Int)) (hx : V 8 7 = (v : Int)) (hs1 : V 8 8 = 0) (hs2 : V 8 9 = 1) (hen : e < gN g) (htn : t < gN g) (hae : gA g e = true) (hat : gA g t = true) (het : e ≠ t) (hR : gR g e t (gN g) = -1) (hT : gT g u v = true) (hF : gF g e t ≤ gF g u t) (kx : J O F rX2_walk 4 (if gF g v t < gF g e t then ms (ms (cGo V st so v) 8 13 ((rn : Int) + 1)) 8 15 0 else cTurn (ms (cGo V st so v) 8 13 ((rn : Int) + 1)) v m (gU g v u)) 8 [(0, sr 8), (1, si zs), (2, si zt), (3, si ((k : Int) + 1))] []) : J O F rX2_walk 4 V 8 [(0, sr 8), (1, si zs), (2, si zt), (3, si (k : Int))] [] := by
  refine j_iload_n C dX2_walk_8 rfl ?_
  refine j_sipush C dX2_walk_9 (by decide) ?_
  refine j_icmp_ge (tgt := 75) C dX2_walk_12 (by decide) (by omega) (by decide) (fun q_1 => ?_) (fun q_1 => ?_)
  · omega
  · refine j_aload_n C dX2_walk_15 rfl ?_
    refine j_get (v := si (V 8 4)) C 8 4 (by decide) (en_8 _ _) rfl (by decide) (fun w h => List.mem_cons_of_mem _ (List.mem_append_left _ (List.mem_append_left _ (List.mem_append_right _ h)))) (List.mem_of_getElem? (i := 1) rfl) dX2_walk_16 rfl ?_
    refine j_top hu ?_
    refine j_aload_n C dX2_walk_19 rfl ?_
    refine j_get (v := si (V 8 5)) C 8 5 (by decide) (en_8 _ _) rfl (by decide) (fun w h => List.mem_cons_of_mem _ (List.mem_append_left _ (List.mem_append_left _ (List.mem_append_right _ h)))) (List.mem_of_getElem? (i := 2) rfl) dX2_walk_20 rfl ?_
    refine j_top hm ?_
    refine j_icmp_eq (tgt := 75) C dX2_walk_23 (by decide) (by omega) (by omega) (fun q_2 => ?_) (fun q_2 => ?_)
    · omega
    · refine j_aload_n C dX2_walk_26 rfl ?_
      refine j_get (v := si (V 8 16)) C 8 16 (by decide) (en_8 _ _) rfl (by decide) (fun w h => List.mem_cons_of_mem _ (List.mem_append_left _ (List.mem_append_left _ (List.mem_append_right _ h)))) (List.mem_of_getElem? (i := 3) rfl) dX2_walk_27 rfl ?_
      refine j_top hlo ?_
      refine j_if_ne (tgt := 75) C dX2_walk_30 (by decide) (by decide) (fun q_3 => ?_) (fun q_3 => ?_)
      · omega
      · refine j_aload_n C dX2_walk_33 rfl ?_
        refine j_get (v := si (V 8 10)) C 8 10 (by decide) (en_8 _ _) rfl (by decide) (fun w h => List.mem_cons_of_mem _ (List.mem_append_left _ (List.mem_append_left _ (List.mem_append_right _ h)))) (List.mem_of_getElem? (i := 4) rfl) dX2_walk_34 rfl ?_
        refine j_top hst ?_
        refine j_sipush C dX2_walk_37 (by decide) ?_
        refine j_icmp_lt (tgt := 51) C dX2_walk_40 (by decide) (by omega) (by decide) (fun q_4 => ?_) (fun q_4 => ?_)
        · refine j_aload_n C dX2_walk_51 rfl ?_
          refine j_get (v := si (V 8 15)) C 8 15 (by decide) (en_8 _ _) rfl (by decide) (fun w h => List.mem_cons_of_mem _ (List.mem_append_left _ (List.mem_append_left _ (List.mem_append_right _ h)))) (List.mem_of_getElem? (i := 5) rfl) dX2_walk_52 rfl ?_
          refine j_top hr ?_
          refine j_if_eq (tgt := 65) C dX2_walk_55 (by decide) (by decide) (fun q_5 => ?_) (fun q_5 => ?_)
          · omega
          · refine j_aload_n C dX2_walk_58 rfl ?_
            refine j_doV (st := []) (j_runV C (kX2_goRound hn ok rn st so m t u e v hu hm he hx hs1 hs2 hen htn hae hat het hut hR hT hF hst (by omega) hso hso2 hrn hrow hm2) gX2_walk_X2_goRound sgX2_goRound rfl ⟨by decide, by decide⟩ (by decide) (en_8 _ _) rfl rfl rfl (Nat.le_of_ble_eq_true rfl) dX2_walk_59) (fun V_7 h_8 => ?_)
            subst h_8
            refine j_goto (tgt := 69) C dX2_walk_62 (by decide) ?_
            refine j_iinc (lv' := [(0, sr 8), (1, si zs), (2, si zt), (3, si ((k : Int) + 1))]) C dX2_walk_69 rfl (by decide) rfl ?_
            refine j_goto (tgt := 8) C dX2_walk_72 (by decide) ?_
            exact kx
        · omega
