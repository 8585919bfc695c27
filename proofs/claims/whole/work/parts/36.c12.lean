def rX1_add : Room := { frames := 0, cells := 0, slots := 0, locals := 0 }
theorem sgX1_add : sg yX1_add wsX1_add cX1_add 3 none rX1_add 2 := ⟨⟨_, rfl⟩, rfl, rfl, by decide, by decide, by decide +kernel⟩
set_option maxHeartbeats 4000000 in
set_option maxRecDepth 100000 in
theorem kX1_add {O : OmT} {l : Launch} {V : Mem} {g : Nat → Int} {r : Rt} (hG : CG V (g, r)) (ok : okg g) (h0 : gN g < 10) {x y : Int} : MV O l yX1_add wsX1_add rX1_add [sr 1, si x, si y] V (fun V2 => CG V2 (stg (g, r) (gAdd g x y)) ∧ hiF V V2) := by
  have n1 := ok.n
  have a1 := ok.a
  have hc : cls V g := hG.1
  refine mv_of (cc := cX1_add) (nL := 3) (rt := none) (by decide) rfl rfl (Nat.le_of_ble_eq_true rfl) (fun F hF C hQ => ?_)
  subst hF
  change J O F rX1_add 3 V 0 [(0, sr 1), (1, si x), (2, si y)] []
  refine j_aload_n C dX1_add_0 rfl ?_
  refine j_get (v := si (V 1 2)) C 1 2 (by decide) (en_G (c := 1) (by decide) _) rfl (by decide) (fun w h => List.mem_cons_of_mem _ (List.mem_append_right _ h)) (List.mem_of_getElem? (i := 1) rfl) dX1_add_1 rfl ?_
  refine j_top (show V 1 2 = (gN g : Int) from (show V 1 2 = V 1 2 from rfl).trans (hc.1.trans n1.1)) ?_
  refine j_bipush C dX1_add_4 (by decide) ?_
  refine j_icmp_lt (tgt := 10) C dX1_add_6 (by decide) (by omega) (by decide) (fun q_1 => ?_) (fun q_1 => ?_)
  · refine j_aload_n C dX1_add_10 rfl ?_
    refine j_get (v := sr 2) C 1 0 (by decide) (en_G (c := 1) (by decide) _) rfl (by decide) (fun w h => List.mem_cons_of_mem _ (List.mem_append_right _ h)) (List.mem_of_getElem? (i := 2) rfl) dX1_add_11 rfl ?_
    refine j_aload_n C dX1_add_14 rfl ?_
    refine j_get (v := si (V 1 2)) C 1 2 (by decide) (en_G (c := 1) (by decide) _) rfl (by decide) (fun w h => List.mem_cons_of_mem _ (List.mem_append_right _ h)) (List.mem_of_getElem? (i := 1) rfl) dX1_add_15 rfl ?_
    refine j_top (show V 1 2 = (gN g : Int) from (show V 1 2 = V 1 2 from rfl).trans (hc.1.trans n1.1)) ?_
    refine j_iload_n C dX1_add_18 rfl ?_
    refine j_iast C (row_2 O) (gN g) rfl (by omega) dX1_add_19 ?_
    refine j_aload_n C dX1_add_20 rfl ?_
    refine j_get (v := sr 3) C 1 1 (by decide) (en_G (c := 1) (by decide) _) rfl (by decide) (fun w h => List.mem_cons_of_mem _ (List.mem_append_right _ h)) (List.mem_of_getElem? (i := 3) rfl) dX1_add_21 rfl ?_
    refine j_aload_n C dX1_add_24 rfl ?_
    refine j_get (v := si ((ms V 2 (gN g) x) 1 2)) C 1 2 (by decide) (en_G (c := 1) (by decide) _) rfl (by decide) (fun w h => List.mem_cons_of_mem _ (List.mem_append_right _ h)) (List.mem_of_getElem? (i := 1) rfl) dX1_add_25 rfl ?_
    refine j_top (show (ms V 2 (gN g) x) 1 2 = (gN g : Int) from (show (ms V 2 (gN g) x) 1 2 = V 1 2 from rfl).trans (hc.1.trans n1.1)) ?_
    refine j_iload_n C dX1_add_28 rfl ?_
    refine j_iast C (row_3 O) (gN g) rfl (by omega) dX1_add_29 ?_
    refine j_aload_n C dX1_add_30 rfl ?_
    refine j_dup C dX1_add_31 rfl ?_
    refine j_get (v := si ((ms (ms V 2 (gN g) x) 3 (gN g) y) 1 3)) C 1 3 (by decide) (en_G (c := 1) (by decide) _) rfl (by decide) (fun w h => List.mem_cons_of_mem _ (List.mem_append_right _ h)) (List.mem_of_getElem? (i := 4) rfl) dX1_add_32 rfl ?_
    refine j_top (show (ms (ms V 2 (gN g) x) 3 (gN g) y) 1 3 = ((g 3).toNat : Int) from (show (ms (ms V 2 (gN g) x) 3 (gN g) y) 1 3 = V 1 3 from rfl).trans (hc.2.1.trans a1.1)) ?_
    refine j_iconst C dX1_add_35 ?_
    refine j_aload_n C dX1_add_36 rfl ?_
    refine j_get (v := si ((ms (ms V 2 (gN g) x) 3 (gN g) y) 1 2)) C 1 2 (by decide) (en_G (c := 1) (by decide) _) rfl (by decide) (fun w h => List.mem_cons_of_mem _ (List.mem_append_right _ h)) (List.mem_of_getElem? (i := 1) rfl) dX1_add_37 rfl ?_
    refine j_top (show (ms (ms V 2 (gN g) x) 3 (gN g) y) 1 2 = (gN g : Int) from (show (ms (ms V 2 (gN g) x) 3 (gN g) y) 1 2 = V 1 2 from rfl).trans (hc.1.trans n1.1)) ?_
    refine j_ishl C dX1_add_40 ?_
    refine j_top (bShl_1 (by omega)) ?_
    refine j_ior C dX1_add_41 ?_
    refine j_top (bOr_nat (by omega) (p2_31 (by omega))) ?_
    refine j_put C 1 3 (by decide) (en_G (c := 1) (by decide) _) (by rw [(en_G (c := 1) (by decide) _)]; rfl) pcl1 (by decide) (fun w h => List.mem_cons_of_mem _ (List.mem_append_right _ h)) (List.mem_of_getElem? (i := 4) rfl) rfl rfl (fit_i _) (Nat.le_of_ble_eq_true rfl) dX1_add_42 ?_
    refine j_aload_n C dX1_add_45 rfl ?_
    refine j_dup C dX1_add_46 rfl ?_
    refine j_get (v := si ((ms (ms (ms V 2 (gN g) x) 3 (gN g) y) 1 3 ((((g 3).toNat) ||| (2 ^ (gN g)) : Nat) : Int)) 1 2)) C 1 2 (by decide) (en_G (c := 1) (by decide) _) rfl (by decide) (fun w h => List.mem_cons_of_mem _ (List.mem_append_right _ h)) (List.mem_of_getElem? (i := 1) rfl) dX1_add_47 rfl ?_
    refine j_top (show (ms (ms (ms V 2 (gN g) x) 3 (gN g) y) 1 3 ((((g 3).toNat) ||| (2 ^ (gN g)) : Nat) : Int)) 1 2 = (gN g : Int) from (show (ms (ms (ms V 2 (gN g) x) 3 (gN g) y) 1 3 ((((g 3).toNat) ||| (2 ^ (gN g)) : Nat) : Int)) 1 2 = V 1 2 from rfl).trans (hc.1.trans n1.1)) ?_
    refine j_iconst C dX1_add_50 ?_
    refine j_iadd C dX1_add_51 ?_
    refine j_put C 1 2 (by decide) (en_G (c := 1) (by decide) _) (by rw [(en_G (c := 1) (by decide) _)]; rfl) pcl1 (by decide) (fun w h => List.mem_cons_of_mem _ (List.mem_append_right _ h)) (List.mem_of_getElem? (i := 1) rfl) rfl rfl (fit_i _) (Nat.le_of_ble_eq_true rfl) dX1_add_52 ?_
    refine j_vret C hQ dX1_add_55 ?_
    exact CG_add hG ok h0
  · omega
def rX1_put : Room := { frames := 0, cells := 0, slots := 0, locals := 0 }
theorem sgX1_put : sg yX1_put wsX1_put cX1_put 6 (some .int) rX1_put 3 := ⟨⟨_, rfl⟩, rfl, rfl, by decide, by decide, by decide +kernel⟩
set_option maxHeartbeats 4000000 in
set_option maxRecDepth 100000 in
theorem kX1_put {O : OmT} {l : Launch} {V : Mem} {g : Nat → Int} {r : Rt} (hG : CG V (g, r)) (ok : okg g) {zv x y : Int} (v : Nat) (ev : zv = (v : Int)) (hv : v < 10) : MI O l yX1_put wsX1_put rX1_put [sr 1, si zv, si x, si y] V (fun z V2 => (CG V2 (stg (g, r) (gMv g v x y)) ∧ hiF V V2) ∧ z = (x - g (4 + v)) * (x - g (4 + v)) + (y - g (14 + v)) * (y - g (14 + v))) := by
  have n1 := ok.n
  have a1 := ok.a
  have hc : cls V g := hG.1
  refine mi_of (cc := cX1_put) (nL := 6) (rt := (some .int)) (by decide) rfl rfl (Nat.le_of_ble_eq_true rfl) (fun F hF C hQ => ?_)
  subst hF
  subst ev
  change J O F rX1_put 6 V 0 [(0, sr 1), (1, si (v : Int)), (2, si x), (3, si y)] []
  refine j_iload_n C dX1_put_0 rfl ?_
  refine j_aload_n C dX1_put_1 rfl ?_
  refine j_get (v := sr 2) C 1 0 (by decide) (en_G (c := 1) (by decide) _) rfl (by decide) (fun w h => List.mem_cons_of_mem _ (List.mem_append_right _ h)) (List.mem_of_getElem? (i := 1) rfl) dX1_put_2 rfl ?_
  refine j_iload_n C dX1_put_5 rfl ?_
  refine j_iald C (row_2 O) v rfl (by omega) dX1_put_6 ?_
  refine j_top (hc.2.2.2.2.1 v (by omega)) ?_
  refine j_isub C dX1_put_7 ?_
  refine j_istore (lv' := [(0, sr 1), (1, si (v : Int)), (2, si x), (3, si y), (4, si (x - (g (4 + v))))]) C dX1_put_8 (by decide) rfl ?_
  refine j_iload_n C dX1_put_10 rfl ?_
  refine j_aload_n C dX1_put_11 rfl ?_
  refine j_get (v := sr 3) C 1 1 (by decide) (en_G (c := 1) (by decide) _) rfl (by decide) (fun w h => List.mem_cons_of_mem _ (List.mem_append_right _ h)) (List.mem_of_getElem? (i := 2) rfl) dX1_put_12 rfl ?_
  refine j_iload_n C dX1_put_15 rfl ?_
  refine j_iald C (row_3 O) v rfl (by omega) dX1_put_16 ?_
  refine j_top (hc.2.2.2.2.2 v (by omega)) ?_
  refine j_isub C dX1_put_17 ?_
  refine j_istore (lv' := [(0, sr 1), (1, si (v : Int)), (2, si x), (3, si y), (4, si (x - (g (4 + v)))), (5, si (y - (g (14 + v))))]) C dX1_put_18 (by decide) rfl ?_
  refine j_aload_n C dX1_put_20 rfl ?_
  refine j_get (v := sr 2) C 1 0 (by decide) (en_G (c := 1) (by decide) _) rfl (by decide) (fun w h => List.mem_cons_of_mem _ (List.mem_append_right _ h)) (List.mem_of_getElem? (i := 1) rfl) dX1_put_21 rfl ?_
  refine j_iload_n C dX1_put_24 rfl ?_
  refine j_iload_n C dX1_put_25 rfl ?_
  refine j_iast C (row_2 O) v rfl (by omega) dX1_put_26 ?_
  refine j_aload_n C dX1_put_27 rfl ?_
  refine j_get (v := sr 3) C 1 1 (by decide) (en_G (c := 1) (by decide) _) rfl (by decide) (fun w h => List.mem_cons_of_mem _ (List.mem_append_right _ h)) (List.mem_of_getElem? (i := 2) rfl) dX1_put_28 rfl ?_
  refine j_iload_n C dX1_put_31 rfl ?_
  refine j_iload_n C dX1_put_32 rfl ?_
  refine j_iast C (row_3 O) v rfl (by omega) dX1_put_33 ?_
  refine j_iload C dX1_put_34 rfl ?_
  refine j_iload C dX1_put_36 rfl ?_
  refine j_imul C dX1_put_38 ?_
  refine j_iload C dX1_put_39 rfl ?_
  refine j_iload C dX1_put_41 rfl ?_
  refine j_imul C dX1_put_43 ?_
  refine j_iadd C dX1_put_44 ?_
  refine j_iret C hQ dX1_put_45 ?_
  exact ⟨CG_mv hG hv, rfl⟩
def rX1_setAwake : Room := { frames := 0, cells := 0, slots := 0, locals := 0 }
theorem sgX1_setAwake : sg yX1_setAwake wsX1_setAwake cX1_setAwake 3 none rX1_setAwake 2 := ⟨⟨_, rfl⟩, rfl, rfl, by decide, by decide, by decide +kernel⟩
set_option maxHeartbeats 4000000 in
set_option maxRecDepth 100000 in
theorem kX1_setAwake {O : OmT} {l : Launch} {V : Mem} {g : Nat → Int} {r : Rt} (hG : CG V (g, r)) (ok : okg g) {zv : Int} (v : Nat) (b : Bool) (ev : zv = (v : Int)) (hv : v < 10) : MV O l yX1_setAwake wsX1_setAwake rX1_setAwake [sr 1, si zv, si (bI b)] V (fun V2 => CG V2 (stg (g, r) (gAw g v b)) ∧ hiF V V2) := by
  have n1 := ok.n
  have a1 := ok.a
  have hc : cls V g := hG.1
  refine mv_of (cc := cX1_setAwake) (nL := 3) (rt := none) (by decide) rfl rfl (Nat.le_of_ble_eq_true rfl) (fun F hF C hQ => ?_)
  subst hF
  subst ev
  change J O F rX1_setAwake 3 V 0 [(0, sr 1), (1, si (v : Int)), (2, si (bI b))] []
  refine j_aload_n C dX1_setAwake_0 rfl ?_
  refine j_iload_n C dX1_setAwake_1 rfl ?_
  refine j_ifb_eq (tgt := 16) C dX1_setAwake_2 (by decide) (fun q_1 => ?_) (fun q_1 => ?_)
  · refine j_aload_n C dX1_setAwake_16 rfl ?_
    refine j_get (v := si (V 1 3)) C 1 3 (by decide) (en_G (c := 1) (by decide) _) rfl (by decide) (fun w h => List.mem_cons_of_mem _ (List.mem_append_right _ h)) (List.mem_of_getElem? (i := 1) rfl) dX1_setAwake_17 rfl ?_
    refine j_top (show V 1 3 = ((g 3).toNat : Int) from (show V 1 3 = V 1 3 from rfl).trans (hc.2.1.trans a1.1)) ?_
    refine j_iconst C dX1_setAwake_20 ?_
    refine j_iload_n C dX1_setAwake_21 rfl ?_
    refine j_ishl C dX1_setAwake_22 ?_
    refine j_top (bShl_1 (by omega)) ?_
    refine j_iconst C dX1_setAwake_23 ?_
    refine j_ixor C dX1_setAwake_24 ?_
    refine j_iand C dX1_setAwake_25 ?_
    refine j_top (clr_and a1.2 hv) ?_
    refine j_put C 1 3 (by decide) (en_G (c := 1) (by decide) _) (by rw [(en_G (c := 1) (by decide) _)]; rfl) pcl1 (by decide) (fun w h => List.mem_cons_of_mem _ (List.mem_append_right _ h)) (List.mem_of_getElem? (i := 1) rfl) rfl rfl (fit_i _) (Nat.le_of_ble_eq_true rfl) dX1_setAwake_26 ?_
    refine j_vret C hQ dX1_setAwake_29 ?_
    first
      | (have q : b = true := ‹_›
         subst q; exact CG_aw (v := v) (b := true) hG)
      | (have q : b = false := ‹_›
         subst q; exact CG_aw (v := v) (b := false) hG)
  · refine j_aload_n C dX1_setAwake_5 rfl ?_
    refine j_get (v := si (V 1 3)) C 1 3 (by decide) (en_G (c := 1) (by decide) _) rfl (by decide) (fun w h => List.mem_cons_of_mem _ (List.mem_append_right _ h)) (List.mem_of_getElem? (i := 1) rfl) dX1_setAwake_6 rfl ?_
    refine j_top (show V 1 3 = ((g 3).toNat : Int) from (show V 1 3 = V 1 3 from rfl).trans (hc.2.1.trans a1.1)) ?_
    refine j_iconst C dX1_setAwake_9 ?_
    refine j_iload_n C dX1_setAwake_10 rfl ?_
    refine j_ishl C dX1_setAwake_11 ?_
    refine j_top (bShl_1 (by omega)) ?_
    refine j_ior C dX1_setAwake_12 ?_
    refine j_top (bOr_nat (by omega) (p2_31 (by omega))) ?_
    refine j_goto (tgt := 26) C dX1_setAwake_13 (by decide) ?_
    refine j_put C 1 3 (by decide) (en_G (c := 1) (by decide) _) (by rw [(en_G (c := 1) (by decide) _)]; rfl) pcl1 (by decide) (fun w h => List.mem_cons_of_mem _ (List.mem_append_right _ h)) (List.mem_of_getElem? (i := 1) rfl) rfl rfl (fit_i _) (Nat.le_of_ble_eq_true rfl) dX1_setAwake_26 ?_
    refine j_vret C hQ dX1_setAwake_29 ?_
    first
      | (have q : b = true := ‹_›
         subst q; exact CG_aw (v := v) (b := true) hG)
      | (have q : b = false := ‹_›
         subst q; exact CG_aw (v := v) (b := false) hG)
def rX1_remove : Room := { frames := 0, cells := 0, slots := 0, locals := 0 }
theorem sgX1_remove : sg yX1_remove wsX1_remove cX1_remove 3 none rX1_remove 1 := ⟨⟨_, rfl⟩, rfl, rfl, by decide, by decide, by decide +kernel⟩
set_option maxHeartbeats 4000000 in
set_option maxRecDepth 100000 in
theorem lpX1_remove {O : OmT} {F : PhT} {V : Mem} {g : Nat → Int} (C : cx O F RX1 cX1_remove 3 none wsX1_remove) {r : Rt} (hG : CG V (g, r)) (ok : okg g) {v : Nat} (hvn : v < gN g) (kx : J O F rX1_remove 3 (cp2 V 2 v (fun i => V 2 (v + i + 1)) (fun i => V 3 (v + i + 1)) (gN g - 1 - v)) 46 [(0, sr 1), (1, si (v : Int)), (2, si ((v + (gN g - 1 - v) : Nat) : Int))] []) : ∀ (fuel : Nat) (j : Nat), (j ≤ gN g - 1 - v) → gN g - 1 - v - j < fuel → J O F rX1_remove 3 (cp2 V 2 v (fun i => V 2 (v + i + 1)) (fun i => V 3 (v + i + 1)) j) 2 [(0, sr 1), (1, si (v : Int)), (2, si ((v + j : Nat) : Int))] [] := by
  intro fuel
  induction fuel with
  | zero => intro j hw hf; exact absurd hf (Nat.not_lt_zero _)
  | succ fuel ih =>
    intro j hw hf
    have n1 := ok.n
    have a1 := ok.a
    have hc : cls V g := hG.1
    refine j_iload_n C dX1_remove_2 rfl ?_
    refine j_iconst C dX1_remove_3 ?_
    refine j_iadd C dX1_remove_4 ?_
    refine j_aload_n C dX1_remove_5 rfl ?_
    refine j_get (v := si ((cp2 V 2 v (fun i => V 2 (v + i + 1)) (fun i => V 3 (v + i + 1)) j) 1 2)) C 1 2 (by decide) (en_G (c := 1) (by decide) _) rfl (by decide) (fun w h => List.mem_cons_of_mem _ (List.mem_append_right _ h)) (List.mem_of_getElem? (i := 1) rfl) dX1_remove_6 rfl ?_
    refine j_top (show (cp2 V 2 v (fun i => V 2 (v + i + 1)) (fun i => V 3 (v + i + 1)) j) 1 2 = (gN g : Int) from (show (cp2 V 2 v (fun i => V 2 (v + i + 1)) (fun i => V 3 (v + i + 1)) j) 1 2 = V 1 2 from rfl).trans (hc.1.trans n1.1)) ?_
    refine j_icmp_ge (tgt := 46) C dX1_remove_9 (by decide) (by omega) (by omega) (fun q_1 => ?_) (fun q_1 => ?_)
    · have e : j = gN g - 1 - v := by omega
      rw [e]
      exact kx
    · refine j_aload_n C dX1_remove_12 rfl ?_
      refine j_get (v := sr 2) C 1 0 (by decide) (en_G (c := 1) (by decide) _) rfl (by decide) (fun w h => List.mem_cons_of_mem _ (List.mem_append_right _ h)) (List.mem_of_getElem? (i := 2) rfl) dX1_remove_13 rfl ?_
      refine j_iload_n C dX1_remove_16 rfl ?_
      refine j_aload_n C dX1_remove_17 rfl ?_
      refine j_get (v := sr 2) C 1 0 (by decide) (en_G (c := 1) (by decide) _) rfl (by decide) (fun w h => List.mem_cons_of_mem _ (List.mem_append_right _ h)) (List.mem_of_getElem? (i := 2) rfl) dX1_remove_18 rfl ?_
      refine j_iload_n C dX1_remove_21 rfl ?_
      refine j_iconst C dX1_remove_22 ?_
      refine j_iadd C dX1_remove_23 ?_
      refine j_iald C (row_2 O) ((v + j) + 1) (by omega) (by omega) dX1_remove_24 ?_
      refine j_top (b := V 2 (v + j + 1)) (by unfold cp2; rw [cpm_ne (by decide), cpm_out (by omega)]) ?_
      refine j_iast C (row_2 O) (v + j) rfl (by omega) dX1_remove_25 ?_
      refine j_aload_n C dX1_remove_26 rfl ?_
      refine j_get (v := sr 3) C 1 1 (by decide) (en_G (c := 1) (by decide) _) rfl (by decide) (fun w h => List.mem_cons_of_mem _ (List.mem_append_right _ h)) (List.mem_of_getElem? (i := 3) rfl) dX1_remove_27 rfl ?_
      refine j_iload_n C dX1_remove_30 rfl ?_
      refine j_aload_n C dX1_remove_31 rfl ?_
      refine j_get (v := sr 3) C 1 1 (by decide) (en_G (c := 1) (by decide) _) rfl (by decide) (fun w h => List.mem_cons_of_mem _ (List.mem_append_right _ h)) (List.mem_of_getElem? (i := 3) rfl) dX1_remove_32 rfl ?_
      refine j_iload_n C dX1_remove_35 rfl ?_
      refine j_iconst C dX1_remove_36 ?_
      refine j_iadd C dX1_remove_37 ?_
      refine j_iald C (row_3 O) ((v + j) + 1) (by omega) (by omega) dX1_remove_38 ?_
      refine j_top (b := V 3 (v + j + 1)) (by rw [ms_ne _ (by decide)]; unfold cp2; rw [show (2 + 1 : Nat) = 3 from rfl, cpm_out (by omega), cpm_ne (by decide)]) ?_
      refine j_iast C (row_3 O) (v + j) rfl (by omega) dX1_remove_39 ?_
      refine j_iinc (lv' := [(0, sr 1), (1, si (v : Int)), (2, si (((v + j : Nat) : Int) + 1))]) C dX1_remove_40 rfl (by decide) rfl ?_
      refine j_goto (tgt := 2) C dX1_remove_43 (by decide) ?_
      refine j_mem (V2 := (cp2 V 2 v (fun i => V 2 (v + i + 1)) (fun i => V 3 (v + i + 1)) (j + 1))) (cp2_s V 2 v _ _ j rfl rfl rfl) ?_
      exact ih (j + 1) (by omega) (by omega)
set_option maxHeartbeats 4000000 in
set_option maxRecDepth 100000 in
theorem kX1_remove {O : OmT} {l : Launch} {V : Mem} {g : Nat → Int} {r : Rt} (hG : CG V (g, r)) (ok : okg g) {zv : Int} (v : Nat) (ev : zv = (v : Int)) (hv : v < 10) (hvn : v < gN g) : MV O l yX1_remove wsX1_remove rX1_remove [sr 1, si zv] V (fun V2 => CG V2 (stg (g, r) (gTk g v)) ∧ hiF V V2) := by
  have n1 := ok.n
  have a1 := ok.a
  have hc : cls V g := hG.1
  refine mv_of (cc := cX1_remove) (nL := 3) (rt := none) (by decide) rfl rfl (Nat.le_of_ble_eq_true rfl) (fun F hF C hQ => ?_)
  subst hF
  subst ev
  change J O F rX1_remove 3 V 0 [(0, sr 1), (1, si (v : Int))] []
  refine j_iload_n C dX1_remove_0 rfl ?_
  refine j_istore_n (lv' := [(0, sr 1), (1, si (v : Int)), (2, si (v : Int))]) C dX1_remove_1 (by decide) rfl ?_
  refine j_mem (V2 := (cp2 V 2 v (fun i => V 2 (v + i + 1)) (fun i => V 3 (v + i + 1)) 0)) (cp2_0 V 2 v _ _) ?_
  refine j_lv (lv' := [(0, sr 1), (1, si (v : Int)), (2, si ((v + 0 : Nat) : Int))]) (by rfl) ?_
  refine lpX1_remove C hG ok hvn ?_ _ 0 (Nat.zero_le _) (Nat.lt_succ_self _)
  refine j_iconst C dX1_remove_46 ?_
  refine j_iload_n C dX1_remove_47 rfl ?_
  refine j_ishl C dX1_remove_48 ?_
  refine j_top (bShl_1 (by omega)) ?_
  refine j_iconst C dX1_remove_49 ?_
  refine j_isub C dX1_remove_50 ?_
  have hp1 : 1 ≤ 2 ^ v := Nat.one_le_two_pow
  refine j_top (b := ((2 ^ v - 1 : Nat) : Int)) (by omega) ?_
  refine j_istore_n (lv' := [(0, sr 1), (1, si (v : Int)), (2, si ((2 ^ v - 1 : Nat) : Int))]) C dX1_remove_51 (by decide) rfl ?_
  refine j_aload_n C dX1_remove_52 rfl ?_
  refine j_aload_n C dX1_remove_53 rfl ?_
  refine j_get (v := si ((cp2 V 2 v (fun i => V 2 (v + i + 1)) (fun i => V 3 (v + i + 1)) (gN g - 1 - v)) 1 3)) C 1 3 (by decide) (en_G (c := 1) (by decide) _) rfl (by decide) (fun w h => List.mem_cons_of_mem _ (List.mem_append_right _ h)) (List.mem_of_getElem? (i := 4) rfl) dX1_remove_54 rfl ?_
  refine j_top (show (cp2 V 2 v (fun i => V 2 (v + i + 1)) (fun i => V 3 (v + i + 1)) (gN g - 1 - v)) 1 3 = ((g 3).toNat : Int) from (show (cp2 V 2 v (fun i => V 2 (v + i + 1)) (fun i => V 3 (v + i + 1)) (gN g - 1 - v)) 1 3 = V 1 3 from rfl).trans (hc.2.1.trans a1.1)) ?_
  refine j_iload_n C dX1_remove_57 rfl ?_
  refine j_iand C dX1_remove_58 ?_
  refine j_top (bAnd_nat (b := 2 ^ v - 1) (by omega)) ?_
  refine j_aload_n C dX1_remove_59 rfl ?_
  refine j_get (v := si ((cp2 V 2 v (fun i => V 2 (v + i + 1)) (fun i => V 3 (v + i + 1)) (gN g - 1 - v)) 1 3)) C 1 3 (by decide) (en_G (c := 1) (by decide) _) rfl (by decide) (fun w h => List.mem_cons_of_mem _ (List.mem_append_right _ h)) (List.mem_of_getElem? (i := 4) rfl) dX1_remove_60 rfl ?_
  refine j_top (show (cp2 V 2 v (fun i => V 2 (v + i + 1)) (fun i => V 3 (v + i + 1)) (gN g - 1 - v)) 1 3 = ((g 3).toNat : Int) from (show (cp2 V 2 v (fun i => V 2 (v + i + 1)) (fun i => V 3 (v + i + 1)) (gN g - 1 - v)) 1 3 = V 1 3 from rfl).trans (hc.2.1.trans a1.1)) ?_
  refine j_iconst C dX1_remove_63 ?_
  refine j_ishr C dX1_remove_64 ?_
  refine j_top (b := (((g 3).toNat / 2 : Nat) : Int)) (bShr_nat (k := 1) (by omega) (by decide)) ?_
  refine j_iload_n C dX1_remove_65 rfl ?_
  refine j_iconst C dX1_remove_66 ?_
  refine j_ixor C dX1_remove_67 ?_
  refine j_iand C dX1_remove_68 ?_
  refine j_top (adn_and (m := (g 3).toNat / 2) (h := 2 ^ v - 1) (by omega) (by have := p2_10 hv; omega)) ?_
  refine j_ior C dX1_remove_69 ?_
  refine j_top (b := (rmb (g 3).toNat v : Int)) (bOr_nat (Nat.lt_of_le_of_lt Nat.and_le_left (by omega)) (Nat.lt_trans (adn_lt (by omega)) (by decide))) ?_
  refine j_put C 1 3 (by decide) (en_G (c := 1) (by decide) _) (by rw [(en_G (c := 1) (by decide) _)]; rfl) pcl1 (by decide) (fun w h => List.mem_cons_of_mem _ (List.mem_append_right _ h)) (List.mem_of_getElem? (i := 4) rfl) rfl rfl (fit_i _) (Nat.le_of_ble_eq_true rfl) dX1_remove_70 ?_
  refine j_aload_n C dX1_remove_73 rfl ?_
  refine j_dup C dX1_remove_74 rfl ?_
  refine j_get (v := si ((ms (cp2 V 2 v (fun i => V 2 (v + i + 1)) (fun i => V 3 (v + i + 1)) (gN g - 1 - v)) 1 3 ((rmb (g 3).toNat v : Nat) : Int)) 1 2)) C 1 2 (by decide) (en_G (c := 1) (by decide) _) rfl (by decide) (fun w h => List.mem_cons_of_mem _ (List.mem_append_right _ h)) (List.mem_of_getElem? (i := 1) rfl) dX1_remove_75 rfl ?_
  refine j_top (show (ms (cp2 V 2 v (fun i => V 2 (v + i + 1)) (fun i => V 3 (v + i + 1)) (gN g - 1 - v)) 1 3 ((rmb (g 3).toNat v : Nat) : Int)) 1 2 = (gN g : Int) from (show (ms (cp2 V 2 v (fun i => V 2 (v + i + 1)) (fun i => V 3 (v + i + 1)) (gN g - 1 - v)) 1 3 ((rmb (g 3).toNat v : Nat) : Int)) 1 2 = V 1 2 from rfl).trans (hc.1.trans n1.1)) ?_
  refine j_iconst C dX1_remove_78 ?_
  refine j_isub C dX1_remove_79 ?_
  refine j_put C 1 2 (by decide) (en_G (c := 1) (by decide) _) (by rw [(en_G (c := 1) (by decide) _)]; rfl) pcl1 (by decide) (fun w h => List.mem_cons_of_mem _ (List.mem_append_right _ h)) (List.mem_of_getElem? (i := 1) rfl) rfl rfl (fit_i _) (Nat.le_of_ble_eq_true rfl) dX1_remove_80 ?_
  refine j_vret C hQ dX1_remove_83 ?_
  exact CG_tk hG ok hvn rfl
def rX1_drawPlace : Room := { frames := 0, cells := 0, slots := 0, locals := 0 }
theorem sgX1_drawPlace : sg yX1_drawPlace wsX1_drawPlace cX1_drawPlace 1 (some .int) rX1_drawPlace 0 := ⟨⟨_, rfl⟩, rfl, rfl, by decide, by decide, by decide +kernel⟩
set_option maxHeartbeats 4000000 in
set_option maxRecDepth 100000 in
theorem kX1_drawPlace {O : OmT} {l : Launch} {V : Mem} {sd : Int} (hsd : V 1 6 = sd) (hs : 0 ≤ sd ∧ sd < 2147483648) : MI O l yX1_drawPlace wsX1_drawPlace rX1_drawPlace [sr 1] V (fun z V2 => V2 = ms V 1 6 (nxs sd) ∧ z = plc (nxs sd)) := by
  refine mi_of (cc := cX1_drawPlace) (nL := 1) (rt := (some .int)) (by decide) rfl rfl (Nat.le_of_ble_eq_true rfl) (fun F hF C hQ => ?_)
  subst hF
  change J O F rX1_drawPlace 1 V 0 [(0, sr 1)] []
  refine j_aload_n C dX1_drawPlace_0 rfl ?_
  refine j_aload_n C dX1_drawPlace_1 rfl ?_
  refine j_get (v := si (V 1 6)) C 1 6 (by decide) (en_G (c := 1) (by decide) _) rfl (by decide) (fun w h => List.mem_cons_of_mem _ (List.mem_append_right _ h)) (List.mem_of_getElem? (i := 1) rfl) dX1_drawPlace_2 rfl ?_
  refine j_top hsd ?_
  refine j_i2l C dX1_drawPlace_5 (by omega) ?_
  refine j_ldc2 (n := 1103515245) C (List.mem_of_getElem? (i := 2) rfl) (by decide) dX1_drawPlace_6 ?_
  refine j_lmul C dX1_drawPlace_9 ?_
  refine j_ldc2 (n := 12345) C (List.mem_of_getElem? (i := 3) rfl) (by decide) dX1_drawPlace_10 ?_
  refine j_ladd C dX1_drawPlace_13 ?_
  refine j_ldc2 (n := 2147483648) C (List.mem_of_getElem? (i := 4) rfl) (by decide) dX1_drawPlace_14 ?_
  refine j_lrem C dX1_drawPlace_17 (by omega) (by decide) ?_
  refine j_l2i C dX1_drawPlace_18 (by omega) ?_
  refine j_put C 1 6 (by decide) (en_G (c := 1) (by decide) _) (by rw [(en_G (c := 1) (by decide) _)]; rfl) pcl1 (by decide) (fun w h => List.mem_cons_of_mem _ (List.mem_append_right _ h)) (List.mem_of_getElem? (i := 1) rfl) rfl rfl (fit_i _) (Nat.le_of_ble_eq_true rfl) dX1_drawPlace_19 ?_
  refine j_aload_n C dX1_drawPlace_22 rfl ?_
  refine j_get (v := si (((sd * 1103515245) + 12345) % 2147483648)) C 1 6 (by decide) (en_G (c := 1) (by decide) _) rfl (by decide) (fun w h => List.mem_cons_of_mem _ (List.mem_append_right _ h)) (List.mem_of_getElem? (i := 1) rfl) dX1_drawPlace_23 rfl ?_
  refine j_ldc (n := 65536) C (List.mem_of_getElem? (i := 5) rfl) (by decide) dX1_drawPlace_26 ?_
  refine j_idiv C dX1_drawPlace_28 (by decide) (by decide) ?_
  refine j_top (b := nxs sd / 65536) (div_z (nxs_rg sd)) ?_
  refine j_bipush C dX1_drawPlace_29 (by decide) ?_
  refine j_irem C dX1_drawPlace_31 (by decide) (by decide) ?_
  refine j_top (b := plc (nxs sd)) (rem_z (nxs_rg sd)) ?_
  refine j_iret C hQ dX1_drawPlace_32 ?_
  exact ⟨rfl, rfl⟩
def rX1_copyNet : Room := { frames := 0, cells := 0, slots := 0, locals := 0 }
theorem sgX1_copyNet : sg yX1_copyNet wsX1_copyNet cX1_copyNet 3 none rX1_copyNet 1 := ⟨⟨_, rfl⟩, rfl, rfl, by decide, by decide, by decide +kernel⟩
set_option maxHeartbeats 4000000 in
set_option maxRecDepth 100000 in
theorem lpX1_copyNet {O : OmT} {F : PhT} {V : Mem} {g : Nat → Int} (C : cx O F RX1 cX1_copyNet 3 none wsX1_copyNet) {c d : Nat} (hc : isGb c = true) (hd : isGb d = true) (hcd : c ≠ d) (hg : gnd V d g) (kx : J O F rX1_copyNet 3 (cp2 V (c + 1) 0 (fun i => V (d + 1) i) (fun i => V (d + 2) i) 10) 38 [(0, sr c), (1, sr d), (2, si (10 : Int))] []) : ∀ (fuel : Nat) (w : Nat), (w ≤ 10) → 10 - w < fuel → J O F rX1_copyNet 3 (cp2 V (c + 1) 0 (fun i => V (d + 1) i) (fun i => V (d + 2) i) w) 2 [(0, sr c), (1, sr d), (2, si (w : Int))] [] := by
  intro fuel
  induction fuel with
  | zero => intro w hw hf; exact absurd hf (Nat.not_lt_zero _)
  | succ fuel ih =>
    intro w hw hf
    have hx := gb_dis hc hd hcd
    have l1 := gb_lt hc
    have l2 := gb_lt hd
    refine j_iload_n C dX1_copyNet_2 rfl ?_
    refine j_bipush C dX1_copyNet_3 (by decide) ?_
    refine j_icmp_ge (tgt := 38) C dX1_copyNet_5 (by decide) (by omega) (by decide) (fun q_1 => ?_) (fun q_1 => ?_)
    · have e : w = 10 := by omega
      rw [e]
      exact kx
    · refine j_aload_n C dX1_copyNet_8 rfl ?_
      refine j_get (v := sr (c + 1)) C c 0 (by omega) (en_G (c := c) hc _) rfl (by decide) (fun w h => List.mem_cons_of_mem _ (List.mem_append_right _ h)) (List.mem_of_getElem? (i := 1) rfl) dX1_copyNet_9 rfl ?_
      refine j_iload_n C dX1_copyNet_12 rfl ?_
      refine j_aload_n C dX1_copyNet_13 rfl ?_
      refine j_get (v := sr (d + 1)) C d 0 (by omega) (en_G (c := d) hd _) rfl (by decide) (fun w h => List.mem_cons_of_mem _ (List.mem_append_right _ h)) (List.mem_of_getElem? (i := 1) rfl) dX1_copyNet_14 rfl ?_
      refine j_iload_n C dX1_copyNet_17 rfl ?_
      refine j_iald C (row_G hd (by omega) (Or.inl rfl)) w rfl (by omega) dX1_copyNet_18 ?_
      refine j_top (b := V (d + 1) w) (by rw [cp2_ne (by omega) (by omega)]) ?_
      refine j_iast C (row_G hc (by omega) (Or.inl rfl)) w rfl (by omega) dX1_copyNet_19 ?_
      refine j_aload_n C dX1_copyNet_20 rfl ?_
      refine j_get (v := sr (c + 2)) C c 1 (by omega) (en_G (c := c) hc _) rfl (by decide) (fun w h => List.mem_cons_of_mem _ (List.mem_append_right _ h)) (List.mem_of_getElem? (i := 2) rfl) dX1_copyNet_21 rfl ?_
      refine j_iload_n C dX1_copyNet_24 rfl ?_
      refine j_aload_n C dX1_copyNet_25 rfl ?_
      refine j_get (v := sr (d + 2)) C d 1 (by omega) (en_G (c := d) hd _) rfl (by decide) (fun w h => List.mem_cons_of_mem _ (List.mem_append_right _ h)) (List.mem_of_getElem? (i := 2) rfl) dX1_copyNet_26 rfl ?_
      refine j_iload_n C dX1_copyNet_29 rfl ?_
      refine j_iald C (row_G hd (by omega) (Or.inr rfl)) w rfl (by omega) dX1_copyNet_30 ?_
      refine j_top (b := V (d + 2) w) (by rw [ms_ne _ (by omega), cp2_ne (by omega) (by omega)]) ?_
      refine j_iast C (row_G hc (by omega) (Or.inr rfl)) w rfl (by omega) dX1_copyNet_31 ?_
      refine j_iinc (lv' := [(0, sr c), (1, sr d), (2, si ((w : Int) + 1))]) C dX1_copyNet_32 rfl (by decide) rfl ?_
      refine j_goto (tgt := 2) C dX1_copyNet_35 (by decide) ?_
      refine j_mem (V2 := (cp2 V (c + 1) 0 (fun i => V (d + 1) i) (fun i => V (d + 2) i) (w + 1))) (cp2_s V (c + 1) 0 _ _ w (by omega) rfl rfl) ?_
      exact ih (w + 1) (by omega) (by omega)
set_option maxHeartbeats 4000000 in
set_option maxRecDepth 100000 in
theorem kX1_copyNet {O : OmT} {l : Launch} {V : Mem} {g : Nat → Int} {c d : Nat} (hc : isGb c = true) (hd : isGb d = true) (hcd : c ≠ d) (hg : gnd V d g) : MV O l yX1_copyNet wsX1_copyNet rX1_copyNet [sr c, sr d] V (fun V2 => gnd V2 c g ∧ V2 c 6 = V c 6 ∧ ∀ e, e ≠ c → e ≠ c + 1 → e ≠ c + 2 → V2 e = V e) := by
  have hx := gb_dis hc hd hcd
  have l1 := gb_lt hc
  have l2 := gb_lt hd
  refine mv_of (cc := cX1_copyNet) (nL := 3) (rt := none) (by decide) rfl rfl (Nat.le_of_ble_eq_true rfl) (fun F hF C hQ => ?_)
  subst hF
  change J O F rX1_copyNet 3 V 0 [(0, sr c), (1, sr d)] []
  refine j_iconst C dX1_copyNet_0 ?_
  refine j_istore_n (lv' := [(0, sr c), (1, sr d), (2, si 0)]) C dX1_copyNet_1 (by decide) rfl ?_
  refine j_mem (V2 := (cp2 V (c + 1) 0 (fun i => V (d + 1) i) (fun i => V (d + 2) i) 0)) (cp2_0 V (c + 1) 0 _ _) ?_
  refine lpX1_copyNet C hc hd hcd hg ?_ _ 0 (Nat.zero_le _) (Nat.lt_succ_self _)
  refine j_aload_n C dX1_copyNet_38 rfl ?_
  refine j_aload_n C dX1_copyNet_39 rfl ?_
  refine j_get (v := si ((cp2 V (c + 1) 0 (fun i => V (d + 1) i) (fun i => V (d + 2) i) 10) d 2)) C d 2 (by omega) (en_G (c := d) hd _) rfl (by decide) (fun w h => List.mem_cons_of_mem _ (List.mem_append_right _ h)) (List.mem_of_getElem? (i := 3) rfl) dX1_copyNet_40 rfl ?_
  refine j_top (b := g 0) (by rw [cp2_ne (by omega) (by omega)]; exact hg.1) ?_
  refine j_put C c 2 (by omega) (en_G (c := c) hc _) (by rw [(en_G (c := c) hc _)]; rfl) pcl1 (by decide) (fun w h => List.mem_cons_of_mem _ (List.mem_append_right _ h)) (List.mem_of_getElem? (i := 3) rfl) rfl rfl (fit_i _) (Nat.le_of_ble_eq_true rfl) dX1_copyNet_43 ?_
  refine j_aload_n C dX1_copyNet_46 rfl ?_
  refine j_aload_n C dX1_copyNet_47 rfl ?_
  refine j_get (v := si ((ms (cp2 V (c + 1) 0 (fun i => V (d + 1) i) (fun i => V (d + 2) i) 10) c 2 (g 0)) d 3)) C d 3 (by omega) (en_G (c := d) hd _) rfl (by decide) (fun w h => List.mem_cons_of_mem _ (List.mem_append_right _ h)) (List.mem_of_getElem? (i := 4) rfl) dX1_copyNet_48 rfl ?_
  refine j_top (b := g 3) (by rw [ms_ne _ (by omega), cp2_ne (by omega) (by omega)]; exact hg.2.1) ?_
  refine j_put C c 3 (by omega) (en_G (c := c) hc _) (by rw [(en_G (c := c) hc _)]; rfl) pcl1 (by decide) (fun w h => List.mem_cons_of_mem _ (List.mem_append_right _ h)) (List.mem_of_getElem? (i := 4) rfl) rfl rfl (fit_i _) (Nat.le_of_ble_eq_true rfl) dX1_copyNet_51 ?_
  refine j_aload_n C dX1_copyNet_54 rfl ?_
  refine j_aload_n C dX1_copyNet_55 rfl ?_
  refine j_get (v := si ((ms (ms (cp2 V (c + 1) 0 (fun i => V (d + 1) i) (fun i => V (d + 2) i) 10) c 2 (g 0)) c 3 (g 3)) d 4)) C d 4 (by omega) (en_G (c := d) hd _) rfl (by decide) (fun w h => List.mem_cons_of_mem _ (List.mem_append_right _ h)) (List.mem_of_getElem? (i := 5) rfl) dX1_copyNet_56 rfl ?_
  refine j_top (b := g 1) (by rw [ms_ne _ (by omega), ms_ne _ (by omega), cp2_ne (by omega) (by omega)]; exact hg.2.2.1) ?_
  refine j_put C c 4 (by omega) (en_G (c := c) hc _) (by rw [(en_G (c := c) hc _)]; rfl) pcl1 (by decide) (fun w h => List.mem_cons_of_mem _ (List.mem_append_right _ h)) (List.mem_of_getElem? (i := 5) rfl) rfl rfl (fit_i _) (Nat.le_of_ble_eq_true rfl) dX1_copyNet_59 ?_
  refine j_aload_n C dX1_copyNet_62 rfl ?_
  refine j_aload_n C dX1_copyNet_63 rfl ?_
  refine j_get (v := si ((ms (ms (ms (cp2 V (c + 1) 0 (fun i => V (d + 1) i) (fun i => V (d + 2) i) 10) c 2 (g 0)) c 3 (g 3)) c 4 (g 1)) d 5)) C d 5 (by omega) (en_G (c := d) hd _) rfl (by decide) (fun w h => List.mem_cons_of_mem _ (List.mem_append_right _ h)) (List.mem_of_getElem? (i := 6) rfl) dX1_copyNet_64 rfl ?_
  refine j_top (b := g 2) (by rw [ms_ne _ (by omega), ms_ne _ (by omega), ms_ne _ (by omega), cp2_ne (by omega) (by omega)]; exact hg.2.2.2.1) ?_
  refine j_put C c 5 (by omega) (en_G (c := c) hc _) (by rw [(en_G (c := c) hc _)]; rfl) pcl1 (by decide) (fun w h => List.mem_cons_of_mem _ (List.mem_append_right _ h)) (List.mem_of_getElem? (i := 6) rfl) rfl rfl (fit_i _) (Nat.le_of_ble_eq_true rfl) dX1_copyNet_67 ?_
  refine j_vret C hQ dX1_copyNet_70 ?_
  exact gnd_cp hx hg rfl
