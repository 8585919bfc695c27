set_option maxHeartbeats 4000000 in
set_option maxRecDepth 100000 in
theorem kX6_walks {O : OmT} {l : Launch} {V : Mem} {g : Nat → Int} (hg : mdl V g) (ok : okg g) {zs zt : Int} (s t : Nat) (es : zs = (s : Int)) (et : zt = (t : Int)) (hsn : s < gN g) (htn : t < gN g) (has : gA g s = true) (hat : gA g t = true) : MV O l yX6_walks wsX6_walks rX6_walks [sr 72, si zs, si zt] V (fun V2 => mRes V V2 (wkR g s t)) := by
  refine mv_of (cc := cX6_walks) (nL := 5) (rt := none) (by decide) rfl rfl (Nat.le_of_ble_eq_true rfl) (fun F hF C hQ => ?_)
  subst hF
  subst es et
  change J O F rX6_walks 5 V 0 [(0, sr 72), (1, si (s : Int)), (2, si (t : Int))] []
  refine j_aload_n C dX6_walks_0 rfl ?_
  refine j_iconst C dX6_walks_1 ?_
  refine j_put C 72 13 (by decide) (en_72 _ _) rfl pcl6 (by decide) (fun w h => List.mem_cons_of_mem _ (List.mem_append_right _ h)) (List.mem_of_getElem? (i := 1) rfl) rfl rfl (fit_i _) (Nat.le_of_ble_eq_true rfl) dX6_walks_2 ?_
  refine j_aload_n C dX6_walks_5 rfl ?_
  refine j_get (v := sr 80) C 72 14 (by decide) (en_72 _ _) rfl (by decide) (fun w h => List.mem_cons_of_mem _ (List.mem_append_right _ h)) (List.mem_of_getElem? (i := 2) rfl) dX6_walks_6 rfl ?_
  refine j_iconst C dX6_walks_9 ?_
  refine j_iload_n C dX6_walks_10 rfl ?_
  refine j_iast C (row_80 O) 0 rfl (by decide) dX6_walks_11 ?_
  refine j_aload_n C dX6_walks_12 rfl ?_
  refine j_iconst C dX6_walks_13 ?_
  refine j_put C 72 15 (by decide) (en_72 _ _) rfl pcl6 (by decide) (fun w h => List.mem_cons_of_mem _ (List.mem_append_right _ h)) (List.mem_of_getElem? (i := 3) rfl) rfl rfl (fit_z (by decide)) (Nat.le_of_ble_eq_true rfl) dX6_walks_14 ?_
  refine j_aload_n C dX6_walks_17 rfl ?_
  refine j_iconst C dX6_walks_18 ?_
  refine j_put C 72 16 (by decide) (en_72 _ _) rfl pcl6 (by decide) (fun w h => List.mem_cons_of_mem _ (List.mem_append_right _ h)) (List.mem_of_getElem? (i := 4) rfl) rfl rfl (fit_i _) (Nat.le_of_ble_eq_true rfl) dX6_walks_19 ?_
  refine j_aload_n C dX6_walks_22 rfl ?_
  refine j_iconst C dX6_walks_23 ?_
  refine j_put C 72 17 (by decide) (en_72 _ _) rfl pcl6 (by decide) (fun w h => List.mem_cons_of_mem _ (List.mem_append_right _ h)) (List.mem_of_getElem? (i := 5) rfl) rfl rfl (fit_i _) (Nat.le_of_ble_eq_true rfl) dX6_walks_24 ?_
  refine j_aload_n C dX6_walks_27 rfl ?_
  refine j_iconst C dX6_walks_28 ?_
  refine j_put C 72 18 (by decide) (en_72 _ _) rfl pcl6 (by decide) (fun w h => List.mem_cons_of_mem _ (List.mem_append_right _ h)) (List.mem_of_getElem? (i := 6) rfl) rfl rfl (fit_i _) (Nat.le_of_ble_eq_true rfl) dX6_walks_29 ?_
  refine j_aload_n C dX6_walks_32 rfl ?_
  refine j_iconst C dX6_walks_33 ?_
  refine j_put C 72 19 (by decide) (en_72 _ _) rfl pcl6 (by decide) (fun w h => List.mem_cons_of_mem _ (List.mem_append_right _ h)) (List.mem_of_getElem? (i := 7) rfl) rfl rfl (fit_i _) (Nat.le_of_ble_eq_true rfl) dX6_walks_34 ?_
  refine j_aload_n C dX6_walks_37 rfl ?_
  refine j_iload_n C dX6_walks_38 rfl ?_
  refine j_put C 72 21 (by decide) (en_72 _ _) rfl pcl6 (by decide) (fun w h => List.mem_cons_of_mem _ (List.mem_append_right _ h)) (List.mem_of_getElem? (i := 8) rfl) rfl rfl (fit_i _) (Nat.le_of_ble_eq_true rfl) dX6_walks_39 ?_
  refine j_iconst C dX6_walks_42 ?_
  refine j_istore_n (lv' := [(0, sr 72), (1, si (s : Int)), (2, si (t : Int)), (3, si 1)]) C dX6_walks_43 (by decide) rfl ?_
  refine wkm_loop C hQ ok htn hat hg 402 _ s none 0 [] 0 0 0 (fun _ => s) ?_ ?_ ?_ (by decide) (fun V' h => h)
  · refine ⟨rfl, rfl, rfl, rfl, rfl, rfl, fun k hk => ?_, ?_⟩
    · have : k = 0 := by omega
      subst this; rfl
    · exact mFr_tr (mFr_tr (mFr_tr (mFr_tr (mFr_tr (mFr_tr (mFr_tr (mFr_72 (by decide) (by decide) (by decide) (by decide)) (mFr_80 (Or.inl rfl))) (mFr_72 (by decide) (by decide) (by decide) (by decide))) (mFr_72 (by decide) (by decide) (by decide) (by decide))) (mFr_72 (by decide) (by decide) (by decide) (by decide))) (mFr_72 (by decide) (by decide) (by decide) (by decide))) (mFr_72 (by decide) (by decide) (by decide) (by decide))) (mFr_72 (by decide) (by decide) (by decide) (by decide))
  · exact ⟨0, rfl, Nat.le_refl _, fun j hj => absurd hj (Nat.not_lt_zero _), fun e q => by cases q⟩
  · exact ⟨hsn, has, by omega, Nat.le_refl _, fun _ _ => hsn, rfl, fun e q => by cases q⟩
def rX2_standAt : Room := { frames := 0, cells := 0, slots := 0, locals := 0 }
theorem sgX2_standAt : sg yX2_standAt wsX2_standAt cX2_standAt 3 none rX2_standAt 2 := ⟨⟨_, rfl⟩, rfl, rfl, by decide, by decide, by decide +kernel⟩
set_option maxHeartbeats 4000000 in
set_option maxRecDepth 100000 in
theorem kX2_standAt {O : OmT} {l : Launch} {V : Mem} {zs zt : Int} (s t : Nat) (es : zs = (s : Int)) (et : zt = (t : Int)) (hs : s < 31) : MV O l yX2_standAt wsX2_standAt rX2_standAt [sr 8, si zs, si zt] V (fun V2 => V2 = ms (ms (ms (ms (ms (ms (ms (ms (ms (ms V 8 4 (s : Int)) 8 5 (t : Int)) 8 10 0) 8 11 0) 8 12 0) 8 13 0) 8 14 ((2 ^ s : Nat) : Int)) 9 0 (s : Int)) 8 15 0) 8 16 0) := by
  refine mv_of (cc := cX2_standAt) (nL := 3) (rt := none) (by decide) rfl rfl (Nat.le_of_ble_eq_true rfl) (fun F hF C hQ => ?_)
  subst hF
  subst es et
  change J O F rX2_standAt 3 V 0 [(0, sr 8), (1, si (s : Int)), (2, si (t : Int))] []
  refine j_aload_n C dX2_standAt_0 rfl ?_
  refine j_iload_n C dX2_standAt_1 rfl ?_
  refine j_put C 8 4 (by decide) (en_8 _ _) rfl pcl2 (by decide) (fun w h => List.mem_cons_of_mem _ (List.mem_append_right _ h)) (List.mem_of_getElem? (i := 1) rfl) rfl rfl (fit_i _) (Nat.le_of_ble_eq_true rfl) dX2_standAt_2 ?_
  refine j_aload_n C dX2_standAt_5 rfl ?_
  refine j_iload_n C dX2_standAt_6 rfl ?_
  refine j_put C 8 5 (by decide) (en_8 _ _) rfl pcl2 (by decide) (fun w h => List.mem_cons_of_mem _ (List.mem_append_right _ h)) (List.mem_of_getElem? (i := 2) rfl) rfl rfl (fit_i _) (Nat.le_of_ble_eq_true rfl) dX2_standAt_7 ?_
  refine j_aload_n C dX2_standAt_10 rfl ?_
  refine j_iconst C dX2_standAt_11 ?_
  refine j_put C 8 10 (by decide) (en_8 _ _) rfl pcl2 (by decide) (fun w h => List.mem_cons_of_mem _ (List.mem_append_right _ h)) (List.mem_of_getElem? (i := 3) rfl) rfl rfl (fit_i _) (Nat.le_of_ble_eq_true rfl) dX2_standAt_12 ?_
  refine j_aload_n C dX2_standAt_15 rfl ?_
  refine j_iconst C dX2_standAt_16 ?_
  refine j_put C 8 11 (by decide) (en_8 _ _) rfl pcl2 (by decide) (fun w h => List.mem_cons_of_mem _ (List.mem_append_right _ h)) (List.mem_of_getElem? (i := 4) rfl) rfl rfl (fit_i _) (Nat.le_of_ble_eq_true rfl) dX2_standAt_17 ?_
  refine j_aload_n C dX2_standAt_20 rfl ?_
  refine j_iconst C dX2_standAt_21 ?_
  refine j_put C 8 12 (by decide) (en_8 _ _) rfl pcl2 (by decide) (fun w h => List.mem_cons_of_mem _ (List.mem_append_right _ h)) (List.mem_of_getElem? (i := 5) rfl) rfl rfl (fit_i _) (Nat.le_of_ble_eq_true rfl) dX2_standAt_22 ?_
  refine j_aload_n C dX2_standAt_25 rfl ?_
  refine j_iconst C dX2_standAt_26 ?_
  refine j_put C 8 13 (by decide) (en_8 _ _) rfl pcl2 (by decide) (fun w h => List.mem_cons_of_mem _ (List.mem_append_right _ h)) (List.mem_of_getElem? (i := 6) rfl) rfl rfl (fit_i _) (Nat.le_of_ble_eq_true rfl) dX2_standAt_27 ?_
  refine j_aload_n C dX2_standAt_30 rfl ?_
  refine j_iconst C dX2_standAt_31 ?_
  refine j_iload_n C dX2_standAt_32 rfl ?_
  refine j_ishl C dX2_standAt_33 ?_
  refine j_top (bShl_1 (by omega)) ?_
  refine j_put C 8 14 (by decide) (en_8 _ _) rfl pcl2 (by decide) (fun w h => List.mem_cons_of_mem _ (List.mem_append_right _ h)) (List.mem_of_getElem? (i := 7) rfl) rfl rfl (fit_i _) (Nat.le_of_ble_eq_true rfl) dX2_standAt_34 ?_
  refine j_aload_n C dX2_standAt_37 rfl ?_
  refine j_get (v := sr 9) C 8 2 (by decide) (en_8 _ _) rfl (by decide) (fun w h => List.mem_cons_of_mem _ (List.mem_append_right _ h)) (List.mem_of_getElem? (i := 8) rfl) dX2_standAt_38 rfl ?_
  refine j_iconst C dX2_standAt_41 ?_
  refine j_iload_n C dX2_standAt_42 rfl ?_
  refine j_iast C (row_9 O) 0 rfl (by decide) dX2_standAt_43 ?_
  refine j_aload_n C dX2_standAt_44 rfl ?_
  refine j_iconst C dX2_standAt_45 ?_
  refine j_put C 8 15 (by decide) (en_8 _ _) rfl pcl2 (by decide) (fun w h => List.mem_cons_of_mem _ (List.mem_append_right _ h)) (List.mem_of_getElem? (i := 9) rfl) rfl rfl (fit_z (by decide)) (Nat.le_of_ble_eq_true rfl) dX2_standAt_46 ?_
  refine j_aload_n C dX2_standAt_49 rfl ?_
  refine j_iconst C dX2_standAt_50 ?_
  refine j_put C 8 16 (by decide) (en_8 _ _) rfl pcl2 (by decide) (fun w h => List.mem_cons_of_mem _ (List.mem_append_right _ h)) (List.mem_of_getElem? (i := 10) rfl) rfl rfl (fit_z (by decide)) (Nat.le_of_ble_eq_true rfl) dX2_standAt_51 ?_
  refine j_vret C hQ dX2_standAt_54 ?_
  rfl
def rX2_goTo : Room := { frames := 0, cells := 0, slots := 0, locals := 0 }
theorem sgX2_goTo : sg yX2_goTo wsX2_goTo cX2_goTo 2 none rX2_goTo 1 := ⟨⟨_, rfl⟩, rfl, rfl, by decide, by decide, by decide +kernel⟩
set_option maxHeartbeats 4000000 in
set_option maxRecDepth 100000 in
theorem kX2_goTo {O : OmT} {l : Launch} {V : Mem} {zv : Int} (v st so : Nat) (ev : zv = (v : Int)) (hst : V 8 10 = (st : Int)) (h2 : st < 200) (hso : V 8 14 = (so : Int)) (hso2 : so < 2147483648) (hv : v < 31) : MV O l yX2_goTo wsX2_goTo rX2_goTo [sr 8, si zv] V (fun V2 => V2 = (ms (ms (ms (ms V 8 10 ((st : Int) + 1)) 8 4 (v : Int)) 8 14 ((so ||| 2 ^ v : Nat) : Int)) 9 (st + 1) (v : Int))) := by
  refine mv_of (cc := cX2_goTo) (nL := 2) (rt := none) (by decide) rfl rfl (Nat.le_of_ble_eq_true rfl) (fun F hF C hQ => ?_)
  subst hF
  subst ev
  change J O F rX2_goTo 2 V 0 [(0, sr 8), (1, si (v : Int))] []
  refine j_aload_n C dX2_goTo_0 rfl ?_
  refine j_dup C dX2_goTo_1 rfl ?_
  refine j_get (v := si (V 8 10)) C 8 10 (by decide) (en_8 _ _) rfl (by decide) (fun w h => List.mem_cons_of_mem _ (List.mem_append_right _ h)) (List.mem_of_getElem? (i := 1) rfl) dX2_goTo_2 rfl ?_
  refine j_top hst ?_
  refine j_iconst C dX2_goTo_5 ?_
  refine j_iadd C dX2_goTo_6 ?_
  refine j_put C 8 10 (by decide) (en_8 _ _) rfl pcl2 (by decide) (fun w h => List.mem_cons_of_mem _ (List.mem_append_right _ h)) (List.mem_of_getElem? (i := 1) rfl) rfl rfl (fit_i _) (Nat.le_of_ble_eq_true rfl) dX2_goTo_7 ?_
  refine j_aload_n C dX2_goTo_10 rfl ?_
  refine j_iload_n C dX2_goTo_11 rfl ?_
  refine j_put C 8 4 (by decide) (en_8 _ _) rfl pcl2 (by decide) (fun w h => List.mem_cons_of_mem _ (List.mem_append_right _ h)) (List.mem_of_getElem? (i := 2) rfl) rfl rfl (fit_i _) (Nat.le_of_ble_eq_true rfl) dX2_goTo_12 ?_
  refine j_aload_n C dX2_goTo_15 rfl ?_
  refine j_dup C dX2_goTo_16 rfl ?_
  refine j_get (v := si ((ms (ms V 8 10 ((st : Int) + 1)) 8 4 (v : Int)) 8 14)) C 8 14 (by decide) (en_8 _ _) rfl (by decide) (fun w h => List.mem_cons_of_mem _ (List.mem_append_right _ h)) (List.mem_of_getElem? (i := 3) rfl) dX2_goTo_17 rfl ?_
  refine j_top (show (ms (ms V 8 10 ((st : Int) + 1)) 8 4 (v : Int)) 8 14 = _ from hso) ?_
  refine j_iconst C dX2_goTo_20 ?_
  refine j_iload_n C dX2_goTo_21 rfl ?_
  refine j_ishl C dX2_goTo_22 ?_
  refine j_top (bShl_1 (by omega)) ?_
  refine j_ior C dX2_goTo_23 ?_
  refine j_top (bOr_nat hso2 (p2_31 (by omega))) ?_
  refine j_put C 8 14 (by decide) (en_8 _ _) rfl pcl2 (by decide) (fun w h => List.mem_cons_of_mem _ (List.mem_append_right _ h)) (List.mem_of_getElem? (i := 3) rfl) rfl rfl (fit_i _) (Nat.le_of_ble_eq_true rfl) dX2_goTo_24 ?_
  refine j_aload_n C dX2_goTo_27 rfl ?_
  refine j_get (v := si ((st : Int) + 1)) C 8 10 (by decide) (en_8 _ _) rfl (by decide) (fun w h => List.mem_cons_of_mem _ (List.mem_append_right _ h)) (List.mem_of_getElem? (i := 1) rfl) dX2_goTo_28 rfl ?_
  refine j_sipush C dX2_goTo_31 (by decide) ?_
  refine j_icmp_gt (tgt := 47) C dX2_goTo_34 (by decide) (by omega) (by decide) (fun q_1 => ?_) (fun q_1 => ?_)
  · omega
  · refine j_aload_n C dX2_goTo_37 rfl ?_
    refine j_get (v := sr 9) C 8 2 (by decide) (en_8 _ _) rfl (by decide) (fun w h => List.mem_cons_of_mem _ (List.mem_append_right _ h)) (List.mem_of_getElem? (i := 4) rfl) dX2_goTo_38 rfl ?_
    refine j_aload_n C dX2_goTo_41 rfl ?_
    refine j_get (v := si ((st : Int) + 1)) C 8 10 (by decide) (en_8 _ _) rfl (by decide) (fun w h => List.mem_cons_of_mem _ (List.mem_append_right _ h)) (List.mem_of_getElem? (i := 1) rfl) dX2_goTo_42 rfl ?_
    refine j_iload_n C dX2_goTo_45 rfl ?_
    refine j_iast C (row_9 O) (st + 1) (by omega) (by omega) dX2_goTo_46 ?_
    refine j_vret C hQ dX2_goTo_47 ?_
    rfl
def rX2_forgetSeen : Room := { frames := 1, cells := 0, slots := 0, locals := 23 }
theorem sgX2_forgetSeen : sg yX2_forgetSeen wsX2_forgetSeen cX2_forgetSeen 1 none rX2_forgetSeen 0 := ⟨⟨_, rfl⟩, rfl, rfl, by decide, by decide, by decide +kernel⟩
set_option maxHeartbeats 4000000 in
set_option maxRecDepth 100000 in
theorem kX2_forgetSeen {O : OmT} {l : Launch} {V : Mem}  : MV O l yX2_forgetSeen wsX2_forgetSeen rX2_forgetSeen [sr 8] V (fun V2 => V2 = cpm V 10 0 (fun _ => 0) 10) := by
  refine mv_of (cc := cX2_forgetSeen) (nL := 1) (rt := none) (by decide) rfl rfl (Nat.le_of_ble_eq_true rfl) (fun F hF C hQ => ?_)
  subst hF
  change J O F rX2_forgetSeen 1 V 0 [(0, sr 8)] []
  refine j_aload_n C dX2_forgetSeen_0 rfl ?_
  refine j_get (v := sr 10) C 8 3 (by decide) (en_8 _ _) rfl (by decide) (fun w h => List.mem_cons_of_mem _ (List.mem_append_right _ h)) (List.mem_of_getElem? (i := 1) rfl) dX2_forgetSeen_1 rfl ?_
  refine j_iconst C dX2_forgetSeen_4 ?_
  refine j_doV (st := []) (j_runS C (kJ7_fill_53178 (row_10 O)) ggX2_forgetSeen_J7_fill_53178 sgJ7_fill_53178 (List.mem_of_getElem? (i := 2) rfl) (List.mem_of_getElem? (i := 4) rfl) (List.mem_of_getElem? (i := 3) rfl) ⟨by decide, by decide⟩ rfl rfl (Nat.le_of_ble_eq_true rfl) dX2_forgetSeen_5) (fun V_2 h_3 => ?_)
  subst h_3
  refine j_vret C hQ dX2_forgetSeen_8 ?_
  rfl
def rX2_turnTo : Room := { frames := 1, cells := 0, slots := 0, locals := 21 }
theorem sgX2_turnTo : sg yX2_turnTo wsX2_turnTo cX2_turnTo 2 none rX2_turnTo 1 := ⟨⟨_, rfl⟩, rfl, rfl, by decide, by decide, by decide +kernel⟩
set_option maxHeartbeats 4000000 in
set_option maxRecDepth 100000 in
theorem kX2_turnTo {O : OmT} {l : Launch} {V : Mem} (x : Int) (u m : Nat) (hx2 : -1 ≤ x ∧ x < 10) (hu : V 8 4 = (u : Int)) (hu2 : u < 10) (hrow : V 10 u = (m : Int)) (hm : m < 1024) : MV O l yX2_turnTo wsX2_turnTo rX2_turnTo [sr 8, si x] V (fun V2 => V2 = if x = -1 ∨ m.testBit x.toNat = true then ms (ms V 8 7 x) 8 16 1 else ms (ms V 8 7 x) 10 u ((m ||| 2 ^ x.toNat : Nat) : Int)) := by
  refine mv_of (cc := cX2_turnTo) (nL := 2) (rt := none) (by decide) rfl rfl (Nat.le_of_ble_eq_true rfl) (fun F hF C hQ => ?_)
  subst hF
  change J O F rX2_turnTo 2 V 0 [(0, sr 8), (1, si x)] []
  refine j_aload_n C dX2_turnTo_0 rfl ?_
  refine j_iload_n C dX2_turnTo_1 rfl ?_
  refine j_put C 8 7 (by decide) (en_8 _ _) rfl pcl2 (by decide) (fun w h => List.mem_cons_of_mem _ (List.mem_append_right _ h)) (List.mem_of_getElem? (i := 1) rfl) rfl rfl (fit_i _) (Nat.le_of_ble_eq_true rfl) dX2_turnTo_2 ?_
  refine j_iload_n C dX2_turnTo_5 rfl ?_
  refine j_iconst C dX2_turnTo_6 ?_
  refine j_icmp_eq (tgt := 26) C dX2_turnTo_7 (by decide) (by omega) (by decide) (fun q_1 => ?_) (fun q_1 => ?_)
  · refine j_aload_n C dX2_turnTo_26 rfl ?_
    refine j_iconst C dX2_turnTo_27 ?_
    refine j_put C 8 16 (by decide) (en_8 _ _) rfl pcl2 (by decide) (fun w h => List.mem_cons_of_mem _ (List.mem_append_right _ h)) (List.mem_of_getElem? (i := 4) rfl) rfl rfl (fit_z (by decide)) (Nat.le_of_ble_eq_true rfl) dX2_turnTo_28 ?_
    refine j_goto (tgt := 49) C dX2_turnTo_31 (by decide) ?_
    refine j_vret C hQ dX2_turnTo_49 ?_
    first
      | (rw [if_pos (by simp_all)]; done)
      | (have e1 : bShl 1 x = ((2 ^ x.toNat : Nat) : Int) := by
           have := bShl_1 (k := x.toNat) (by omega)
           rwa [show ((x.toNat : Nat) : Int) = x by omega] at this
         rw [if_neg (by simp_all), e1, bOr_nat (by omega) (p2_31 (by omega))])
  · refine j_aload_n C dX2_turnTo_10 rfl ?_
    refine j_get (v := sr 10) C 8 3 (by decide) (en_8 _ _) rfl (by decide) (fun w h => List.mem_cons_of_mem _ (List.mem_append_right _ h)) (List.mem_of_getElem? (i := 2) rfl) dX2_turnTo_11 rfl ?_
    refine j_aload_n C dX2_turnTo_14 rfl ?_
    refine j_get (v := si ((ms V 8 7 x) 8 4)) C 8 4 (by decide) (en_8 _ _) rfl (by decide) (fun w h => List.mem_cons_of_mem _ (List.mem_append_right _ h)) (List.mem_of_getElem? (i := 3) rfl) dX2_turnTo_15 rfl ?_
    refine j_top (show (ms V 8 7 x) 8 4 = _ from hu) ?_
    refine j_iald C (row_10 O) u rfl (by omega) dX2_turnTo_18 ?_
    refine j_top (show (ms V 8 7 x) 10 u = _ from hrow) ?_
    refine j_iload_n C dX2_turnTo_19 rfl ?_
    refine j_doI (st := []) (j_runSN C (kX5_holds m x.toNat rfl (by omega) (by omega) (by omega)) ggX2_turnTo_X5_holds sgX5_holds (List.mem_of_getElem? (i := 21) rfl) (List.mem_of_getElem? (i := 6) rfl) (List.mem_of_getElem? (i := 5) rfl) ⟨by decide, by decide⟩ rfl rfl (Nat.le_of_ble_eq_true rfl) dX2_turnTo_20) (fun z_2 V_3 h_4 => ?_)
    obtain ⟨rfl, rfl⟩ := h_4
    refine j_ifb_eq (tgt := 34) C dX2_turnTo_23 (by decide) (fun q_5 => ?_) (fun q_5 => ?_)
    · refine j_aload_n C dX2_turnTo_34 rfl ?_
      refine j_get (v := sr 10) C 8 3 (by decide) (en_8 _ _) rfl (by decide) (fun w h => List.mem_cons_of_mem _ (List.mem_append_right _ h)) (List.mem_of_getElem? (i := 2) rfl) dX2_turnTo_35 rfl ?_
      refine j_aload_n C dX2_turnTo_38 rfl ?_
      refine j_get (v := si ((ms V 8 7 x) 8 4)) C 8 4 (by decide) (en_8 _ _) rfl (by decide) (fun w h => List.mem_cons_of_mem _ (List.mem_append_right _ h)) (List.mem_of_getElem? (i := 3) rfl) dX2_turnTo_39 rfl ?_
      refine j_top (show (ms V 8 7 x) 8 4 = _ from hu) ?_
      refine j_dup2 C dX2_turnTo_42 rfl rfl ?_
      refine j_iald C (row_10 O) u rfl (by omega) dX2_turnTo_43 ?_
      refine j_top (show (ms V 8 7 x) 10 u = _ from hrow) ?_
      refine j_iconst C dX2_turnTo_44 ?_
      refine j_iload_n C dX2_turnTo_45 rfl ?_
      refine j_ishl C dX2_turnTo_46 ?_
      refine j_ior C dX2_turnTo_47 ?_
      refine j_iast C (row_10 O) u rfl (by omega) dX2_turnTo_48 ?_
      refine j_vret C hQ dX2_turnTo_49 ?_
      first
        | (rw [if_pos (by simp_all)]; done)
        | (have e1 : bShl 1 x = ((2 ^ x.toNat : Nat) : Int) := by
             have := bShl_1 (k := x.toNat) (by omega)
             rwa [show ((x.toNat : Nat) : Int) = x by omega] at this
           rw [if_neg (by simp_all), e1, bOr_nat (by omega) (p2_31 (by omega))])
    · refine j_aload_n C dX2_turnTo_26 rfl ?_
      refine j_iconst C dX2_turnTo_27 ?_
      refine j_put C 8 16 (by decide) (en_8 _ _) rfl pcl2 (by decide) (fun w h => List.mem_cons_of_mem _ (List.mem_append_right _ h)) (List.mem_of_getElem? (i := 4) rfl) rfl rfl (fit_z (by decide)) (Nat.le_of_ble_eq_true rfl) dX2_turnTo_28 ?_
      refine j_goto (tgt := 49) C dX2_turnTo_31 (by decide) ?_
      refine j_vret C hQ dX2_turnTo_49 ?_
      first
        | (rw [if_pos (by simp_all)]; done)
        | (have e1 : bShl 1 x = ((2 ^ x.toNat : Nat) : Int) := by
             have := bShl_1 (k := x.toNat) (by omega)
             rwa [show ((x.toNat : Nat) : Int) = x by omega] at this
           rw [if_neg (by simp_all), e1, bOr_nat (by omega) (p2_31 (by omega))])
