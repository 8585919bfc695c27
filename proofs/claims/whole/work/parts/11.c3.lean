def rJ7_fill_53178 : Room := { frames := 0, cells := 0, slots := 0, locals := 0 }
theorem sgJ7_fill_53178 : sg yJ7_fill_53178 wsJ7_fill_53178 cJ7_fill_53178 4 none rJ7_fill_53178 2 := ⟨⟨_, rfl⟩, rfl, rfl, by decide, by decide, by decide +kernel⟩
set_option maxHeartbeats 4000000 in
set_option maxRecDepth 100000 in
theorem lpJ7_fill {O : OmT} {F : PhT} {V : Mem} (C : cx O F RJ7 cJ7_fill_53178 4 none wsJ7_fill_53178) {post : Mem → Prop} (hQ : qV O F post) {c n : Nat} {x : Int} (hc : rowI O c n) (hpo : post (cpm V c 0 (fun _ => x) n)) : ∀ (fuel : Nat) (w : Nat), (w ≤ n) → n - w < fuel → J O F rJ7_fill_53178 4 (cpm V c 0 (fun _ => x) w) 5 [(0, sr c), (1, si x), (2, si (w : Int)), (3, si (n : Int))] [] := by
  intro fuel
  induction fuel with
  | zero => intro w hw hf; exact absurd hf (Nat.not_lt_zero _)
  | succ fuel ih =>
    intro w hw hf
    have n1 := hc.2.1
    refine j_iload_n C dJ7_fill_53178_5 rfl ?_
    refine j_iload_n C dJ7_fill_53178_6 rfl ?_
    refine j_icmp_ge (tgt := 20) C dJ7_fill_53178_7 (by decide) (by omega) (by omega) (fun q_1 => ?_) (fun q_1 => ?_)
    · refine j_vret C hQ dJ7_fill_53178_20 ?_
      have e : w = n := by omega
      subst e; exact hpo
    · refine j_aload_n C dJ7_fill_53178_10 rfl ?_
      refine j_iload_n C dJ7_fill_53178_11 rfl ?_
      refine j_iload_n C dJ7_fill_53178_12 rfl ?_
      refine j_iast C hc w rfl (by omega) dJ7_fill_53178_13 ?_
      refine j_iinc (lv' := [(0, sr c), (1, si x), (2, si ((w : Int) + 1)), (3, si (n : Int))]) C dJ7_fill_53178_14 rfl (by decide) rfl ?_
      refine j_goto (tgt := 5) C dJ7_fill_53178_17 (by decide) ?_
      refine j_mem (V2 := (cpm V c 0 (fun _ => x) (w + 1))) (cpm_s V c 0 _ w rfl (by omega)) ?_
      exact ih (w + 1) (by omega) (by omega)
set_option maxHeartbeats 4000000 in
set_option maxRecDepth 100000 in
theorem kJ7_fill_53178 {O : OmT} {l : Launch} {V : Mem} {c n : Nat} {x : Int} (hc : rowI O c n) : MV O l yJ7_fill_53178 wsJ7_fill_53178 rJ7_fill_53178 [sr c, si x] V (fun V2 => V2 = cpm V c 0 (fun _ => x) n) := by
  refine mv_of (cc := cJ7_fill_53178) (nL := 4) (rt := none) (by decide) rfl rfl (Nat.le_of_ble_eq_true rfl) (fun F hF C hQ => ?_)
  subst hF
  change J O F rJ7_fill_53178 4 V 0 [(0, sr c), (1, si x)] []
  refine j_iconst C dJ7_fill_53178_0 ?_
  refine j_istore_n (lv' := [(0, sr c), (1, si x), (2, si 0)]) C dJ7_fill_53178_1 (by decide) rfl ?_
  refine j_aload_n C dJ7_fill_53178_2 rfl ?_
  refine j_alen C hc dJ7_fill_53178_3 ?_
  refine j_istore_n (lv' := [(0, sr c), (1, si x), (2, si 0), (3, si (n : Int))]) C dJ7_fill_53178_4 (by decide) rfl ?_
  refine j_mem (V2 := (cpm V c 0 (fun _ => x) 0)) (cpm_0 V c 0 _) ?_
  exact lpJ7_fill C hQ hc rfl _ 0 (Nat.zero_le _) (Nat.lt_succ_self _)
def rJ6_bitCount_0f7a4 : Room := { frames := 0, cells := 0, slots := 0, locals := 0 }
theorem sgJ6_bitCount_0f7a4 : sg yJ6_bitCount_0f7a4 wsJ6_bitCount_0f7a4 cJ6_bitCount_0f7a4 1 (some .int) rJ6_bitCount_0f7a4 1 := ⟨⟨_, rfl⟩, rfl, rfl, by decide, by decide, by decide +kernel⟩
set_option maxHeartbeats 4000000 in
set_option maxRecDepth 100000 in
theorem kJ6_bitCount_0f7a4 {O : OmT} {l : Launch} {V : Mem} {z : Int} (m : Nat) (em : z = (m : Int)) (hm : m < 1024) : MI O l yJ6_bitCount_0f7a4 wsJ6_bitCount_0f7a4 rJ6_bitCount_0f7a4 [si z] V (fun r V2 => V = V2 ∧ r = pcN m 10) := by
  refine mi_of (cc := cJ6_bitCount_0f7a4) (nL := 1) (rt := (some .int)) (by decide) rfl rfl (Nat.le_of_ble_eq_true rfl) (fun F hF C hQ => ?_)
  subst hF
  subst em
  change J O F rJ6_bitCount_0f7a4 1 V 0 [(0, si (m : Int))] []
  refine j_iload_n C dJ6_bitCount_0f7a4_0 rfl ?_
  refine j_iload_n C dJ6_bitCount_0f7a4_1 rfl ?_
  refine j_iconst C dJ6_bitCount_0f7a4_2 ?_
  refine j_iushr C dJ6_bitCount_0f7a4_3 ?_
  refine j_ldcw (n := 1431655765) C (List.mem_of_getElem? (i := 1) rfl) (by decide) dJ6_bitCount_0f7a4_4 ?_
  refine j_iand C dJ6_bitCount_0f7a4_7 ?_
  refine j_isub C dJ6_bitCount_0f7a4_8 ?_
  refine j_istore_n (lv' := [(0, si ((m : Int) - (bAnd (bUshr (m : Int) 1) 1431655765)))]) C dJ6_bitCount_0f7a4_9 (by decide) rfl ?_
  refine j_iload_n C dJ6_bitCount_0f7a4_10 rfl ?_
  refine j_ldcw (n := 858993459) C (List.mem_of_getElem? (i := 2) rfl) (by decide) dJ6_bitCount_0f7a4_11 ?_
  refine j_iand C dJ6_bitCount_0f7a4_14 ?_
  refine j_iload_n C dJ6_bitCount_0f7a4_15 rfl ?_
  refine j_iconst C dJ6_bitCount_0f7a4_16 ?_
  refine j_iushr C dJ6_bitCount_0f7a4_17 ?_
  refine j_ldcw (n := 858993459) C (List.mem_of_getElem? (i := 2) rfl) (by decide) dJ6_bitCount_0f7a4_18 ?_
  refine j_iand C dJ6_bitCount_0f7a4_21 ?_
  refine j_iadd C dJ6_bitCount_0f7a4_22 ?_
  refine j_istore_n (lv' := [(0, si ((bAnd ((m : Int) - (bAnd (bUshr (m : Int) 1) 1431655765)) 858993459) + (bAnd (bUshr ((m : Int) - (bAnd (bUshr (m : Int) 1) 1431655765)) 2) 858993459)))]) C dJ6_bitCount_0f7a4_23 (by decide) rfl ?_
  refine j_iload_n C dJ6_bitCount_0f7a4_24 rfl ?_
  refine j_iload_n C dJ6_bitCount_0f7a4_25 rfl ?_
  refine j_iconst C dJ6_bitCount_0f7a4_26 ?_
  refine j_iushr C dJ6_bitCount_0f7a4_27 ?_
  refine j_iadd C dJ6_bitCount_0f7a4_28 ?_
  refine j_ldcw (n := 252645135) C (List.mem_of_getElem? (i := 3) rfl) (by decide) dJ6_bitCount_0f7a4_29 ?_
  refine j_iand C dJ6_bitCount_0f7a4_32 ?_
  refine j_istore_n (lv' := [(0, si (bAnd (((bAnd ((m : Int) - (bAnd (bUshr (m : Int) 1) 1431655765)) 858993459) + (bAnd (bUshr ((m : Int) - (bAnd (bUshr (m : Int) 1) 1431655765)) 2) 858993459)) + (bUshr ((bAnd ((m : Int) - (bAnd (bUshr (m : Int) 1) 1431655765)) 858993459) + (bAnd (bUshr ((m : Int) - (bAnd (bUshr (m : Int) 1) 1431655765)) 2) 858993459)) 4)) 252645135))]) C dJ6_bitCount_0f7a4_33 (by decide) rfl ?_
  refine j_iload_n C dJ6_bitCount_0f7a4_34 rfl ?_
  refine j_iload_n C dJ6_bitCount_0f7a4_35 rfl ?_
  refine j_bipush C dJ6_bitCount_0f7a4_36 (by decide) ?_
  refine j_iushr C dJ6_bitCount_0f7a4_38 ?_
  refine j_iadd C dJ6_bitCount_0f7a4_39 ?_
  refine j_istore_n (lv' := [(0, si ((bAnd (((bAnd ((m : Int) - (bAnd (bUshr (m : Int) 1) 1431655765)) 858993459) + (bAnd (bUshr ((m : Int) - (bAnd (bUshr (m : Int) 1) 1431655765)) 2) 858993459)) + (bUshr ((bAnd ((m : Int) - (bAnd (bUshr (m : Int) 1) 1431655765)) 858993459) + (bAnd (bUshr ((m : Int) - (bAnd (bUshr (m : Int) 1) 1431655765)) 2) 858993459)) 4)) 252645135) + (bUshr (bAnd (((bAnd ((m : Int) - (bAnd (bUshr (m : Int) 1) 1431655765)) 858993459) + (bAnd (bUshr ((m : Int) - (bAnd (bUshr (m : Int) 1) 1431655765)) 2) 858993459)) + (bUshr ((bAnd ((m : Int) - (bAnd (bUshr (m : Int) 1) 1431655765)) 858993459) + (bAnd (bUshr ((m : Int) - (bAnd (bUshr (m : Int) 1) 1431655765)) 2) 858993459)) 4)) 252645135) 8)))]) C dJ6_bitCount_0f7a4_40 (by decide) rfl ?_
  refine j_iload_n C dJ6_bitCount_0f7a4_41 rfl ?_
  refine j_iload_n C dJ6_bitCount_0f7a4_42 rfl ?_
  refine j_bipush C dJ6_bitCount_0f7a4_43 (by decide) ?_
  refine j_iushr C dJ6_bitCount_0f7a4_45 ?_
  refine j_iadd C dJ6_bitCount_0f7a4_46 ?_
  refine j_istore_n (lv' := [(0, si (((bAnd (((bAnd ((m : Int) - (bAnd (bUshr (m : Int) 1) 1431655765)) 858993459) + (bAnd (bUshr ((m : Int) - (bAnd (bUshr (m : Int) 1) 1431655765)) 2) 858993459)) + (bUshr ((bAnd ((m : Int) - (bAnd (bUshr (m : Int) 1) 1431655765)) 858993459) + (bAnd (bUshr ((m : Int) - (bAnd (bUshr (m : Int) 1) 1431655765)) 2) 858993459)) 4)) 252645135) + (bUshr (bAnd (((bAnd ((m : Int) - (bAnd (bUshr (m : Int) 1) 1431655765)) 858993459) + (bAnd (bUshr ((m : Int) - (bAnd (bUshr (m : Int) 1) 1431655765)) 2) 858993459)) + (bUshr ((bAnd ((m : Int) - (bAnd (bUshr (m : Int) 1) 1431655765)) 858993459) + (bAnd (bUshr ((m : Int) - (bAnd (bUshr (m : Int) 1) 1431655765)) 2) 858993459)) 4)) 252645135) 8)) + (bUshr ((bAnd (((bAnd ((m : Int) - (bAnd (bUshr (m : Int) 1) 1431655765)) 858993459) + (bAnd (bUshr ((m : Int) - (bAnd (bUshr (m : Int) 1) 1431655765)) 2) 858993459)) + (bUshr ((bAnd ((m : Int) - (bAnd (bUshr (m : Int) 1) 1431655765)) 858993459) + (bAnd (bUshr ((m : Int) - (bAnd (bUshr (m : Int) 1) 1431655765)) 2) 858993459)) 4)) 252645135) + (bUshr (bAnd (((bAnd ((m : Int) - (bAnd (bUshr (m : Int) 1) 1431655765)) 858993459) + (bAnd (bUshr ((m : Int) - (bAnd (bUshr (m : Int) 1) 1431655765)) 2) 858993459)) + (bUshr ((bAnd ((m : Int) - (bAnd (bUshr (m : Int) 1) 1431655765)) 858993459) + (bAnd (bUshr ((m : Int) - (bAnd (bUshr (m : Int) 1) 1431655765)) 2) 858993459)) 4)) 252645135) 8)) 16)))]) C dJ6_bitCount_0f7a4_47 (by decide) rfl ?_
  refine j_iload_n C dJ6_bitCount_0f7a4_48 rfl ?_
  refine j_bipush C dJ6_bitCount_0f7a4_49 (by decide) ?_
  refine j_iand C dJ6_bitCount_0f7a4_51 ?_
  refine j_iret C hQ dJ6_bitCount_0f7a4_52 ?_
  exact ⟨rfl, bcE_k m hm⟩
def rX3_tie : Room := { frames := 0, cells := 0, slots := 0, locals := 0 }
theorem sgX3_tie : sg yX3_tie wsX3_tie cX3_tie 3 none rX3_tie 3 := ⟨⟨_, rfl⟩, rfl, rfl, by decide, by decide, by decide +kernel⟩
set_option maxHeartbeats 4000000 in
set_option maxRecDepth 100000 in
theorem kX3_tie {O : OmT} {l : Launch} {V : Mem} {c n : Nat} (hc : rowI O c n) {zu zv : Int} (u v : Nat) (eu : zu = (u : Int)) (ev : zv = (v : Int)) (hu : u < n) (hv : v < n) (hu1 : u < 31) (hv1 : v < 31) (huv : u ≠ v) {a b : Nat} (ea : V c u = (a : Int)) (eb : V c v = (b : Int)) (ha : a < 2147483648) (hb : b < 2147483648) : MV O l yX3_tie wsX3_tie rX3_tie [sr c, si zu, si zv] V (fun V2 => V2 = ms (ms V c u ((a ||| 2 ^ v : Nat) : Int)) c v ((b ||| 2 ^ u : Nat) : Int)) := by
  refine mv_of (cc := cX3_tie) (nL := 3) (rt := none) (by decide) rfl rfl (Nat.le_of_ble_eq_true rfl) (fun F hF C hQ => ?_)
  subst hF
  subst eu ev
  change J O F rX3_tie 3 V 0 [(0, sr c), (1, si (u : Int)), (2, si (v : Int))] []
  refine j_aload_n C dX3_tie_0 rfl ?_
  refine j_iload_n C dX3_tie_1 rfl ?_
  refine j_dup2 C dX3_tie_2 rfl rfl ?_
  refine j_iald C hc u rfl (by omega) dX3_tie_3 ?_
  refine j_top ea ?_
  refine j_iconst C dX3_tie_4 ?_
  refine j_iload_n C dX3_tie_5 rfl ?_
  refine j_ishl C dX3_tie_6 ?_
  refine j_top (bShl_1 (by omega)) ?_
  refine j_ior C dX3_tie_7 ?_
  refine j_top (bOr_nat ha (p2_31 (by omega))) ?_
  refine j_iast C hc u rfl (by omega) dX3_tie_8 ?_
  refine j_aload_n C dX3_tie_9 rfl ?_
  refine j_iload_n C dX3_tie_10 rfl ?_
  refine j_dup2 C dX3_tie_11 rfl rfl ?_
  refine j_iald C hc v rfl (by omega) dX3_tie_12 ?_
  refine j_top (b := (b : Int)) (by rw [ms_at, if_pos rfl, if_neg (fun q => huv q.symm)]; exact eb) ?_
  refine j_iconst C dX3_tie_13 ?_
  refine j_iload_n C dX3_tie_14 rfl ?_
  refine j_ishl C dX3_tie_15 ?_
  refine j_top (bShl_1 (by omega)) ?_
  refine j_ior C dX3_tie_16 ?_
  refine j_top (bOr_nat hb (p2_31 (by omega))) ?_
  refine j_iast C hc v rfl (by omega) dX3_tie_17 ?_
  refine j_vret C hQ dX3_tie_18 ?_
  rfl
def rX3_follow : Room := { frames := 3, cells := 0, slots := 0, locals := 73 }
theorem sgX3_follow : sg yX3_follow wsX3_follow cX3_follow 3 none rX3_follow 0 := ⟨⟨_, rfl⟩, rfl, rfl, by decide, by decide, by decide +kernel⟩
set_option maxHeartbeats 4000000 in
set_option maxRecDepth 100000 in
theorem fol_2 {O : OmT} {F : PhT} {V : Mem} {g : Nat → Int} (C : cx O F RX3 cX3_follow 3 none wsX3_follow) (hc : cls V g) (ok : okg g) {u v : Nat} (hu : u < gN g) (hvu : v < u) (kx : J O F rX3_follow 3 (fmem V g u (v + 1) u (v + 1)) 81 [(0, sr 4), (1, si (u : Int)), (2, si (v : Int))] []) : J O F rX3_follow 3 (fmem V g u (v + 1) u v) 54 [(0, sr 4), (1, si (u : Int)), (2, si (v : Int))] [] := by
  have n1 := ok.n
  refine j_aload_n C dX3_follow_54 rfl ?_
  refine j_iload_n C dX3_follow_55 rfl ?_
  refine j_iload_n C dX3_follow_56 rfl ?_
  refine j_doI (st := []) (j_runV C (kX3_areNear (cls_eq (V2 := (fmem V g u (v + 1) u v)) hc rfl rfl rfl) ok u v rfl rfl (by omega) (by omega) (by omega)) gX3_follow_X3_areNear sgX3_areNear rfl ⟨by decide, by decide⟩ (by decide) (en_4 _ _) rfl rfl rfl (Nat.le_of_ble_eq_true rfl) dX3_follow_57) (fun z_1 V_2 h_3 => ?_)
  obtain ⟨rfl, rfl⟩ := h_3
  refine j_ifb_eq (tgt := 81) C dX3_follow_60 (by decide) (fun q_4 => ?_) (fun q_4 => ?_)
  · refine j_mem (V2 := (fmem V g u (v + 1) u (v + 1))) (fmB6 (by omega) (gT_of_L ‹_›)) ?_
    exact kx
  · refine j_aload_n C dX3_follow_63 rfl ?_
    refine j_iload_n C dX3_follow_64 rfl ?_
    refine j_iload_n C dX3_follow_65 rfl ?_
    refine j_doI (st := []) (j_runV C (kX3_isClear (cls_eq (V2 := (fmem V g u (v + 1) u v)) hc rfl rfl rfl) ok u v rfl rfl (by omega) (by omega)) gX3_follow_X3_isClear sgX3_isClear rfl ⟨by decide, by decide⟩ (by decide) (en_4 _ _) rfl rfl rfl (Nat.le_of_ble_eq_true rfl) dX3_follow_66) (fun z_5 V_6 h_7 => ?_)
    obtain ⟨rfl, rfl⟩ := h_7
    refine j_ifb_eq (tgt := 81) C dX3_follow_69 (by decide) (fun q_8 => ?_) (fun q_8 => ?_)
    · refine j_mem (V2 := (fmem V g u (v + 1) u (v + 1))) (fmB6 (by omega) (gT_of_K ‹_› ‹_›)) ?_
      exact kx
    · refine j_aload_n C dX3_follow_72 rfl ?_
      refine j_get (v := sr 6) C 4 2 (by decide) (en_4 _ _) rfl (by decide) (fun w h => List.mem_cons_of_mem _ (List.mem_append_left _ (List.mem_append_right _ h))) (List.mem_of_getElem? (i := 2) rfl) dX3_follow_73 rfl ?_
      refine j_iload_n C dX3_follow_76 rfl ?_
      refine j_iload_n C dX3_follow_77 rfl ?_
      refine j_doV (st := []) (j_runS C (kX3_tie (row_6 O) u v rfl rfl (by omega) (by omega) (by omega) (by omega) (by omega) (a := pS (gT g) u v u) (b := pS (gT g) u v v) (fm_6 (by omega)) (fm_6 (by omega)) (Nat.lt_trans (pS_lt _ _ _ _) (by decide)) (Nat.lt_trans (pS_lt _ _ _ _) (by decide))) ggX3_follow_X3_tie sgX3_tie (List.mem_of_getElem? (i := 31) rfl) (List.mem_of_getElem? (i := 11) rfl) (List.mem_of_getElem? (i := 32) rfl) ⟨by decide, by decide⟩ rfl rfl (Nat.le_of_ble_eq_true rfl) dX3_follow_78) (fun V_10 h_11 => ?_)
      subst h_11
      refine j_mem (V2 := (fmem V g u (v + 1) u (v + 1))) (fmA6 (by omega) (by omega) ‹_› ‹_›) ?_
      exact kx
set_option maxHeartbeats 4000000 in
set_option maxRecDepth 100000 in
theorem fol_1 {O : OmT} {F : PhT} {V : Mem} {g : Nat → Int} (C : cx O F RX3 cX3_follow 3 none wsX3_follow) (hc : cls V g) (ok : okg g) {u v : Nat} (hu : u < gN g) (hvu : v < u) (kx : J O F rX3_follow 3 (fmem V g u (v + 1) u (v + 1)) 81 [(0, sr 4), (1, si (u : Int)), (2, si (v : Int))] []) : J O F rX3_follow 3 (fmem V g u v u v) 36 [(0, sr 4), (1, si (u : Int)), (2, si (v : Int))] [] := by
  have n1 := ok.n
  refine j_aload_n C dX3_follow_36 rfl ?_
  refine j_iload_n C dX3_follow_37 rfl ?_
  refine j_iload_n C dX3_follow_38 rfl ?_
  refine j_doI (st := []) (j_runV C (kX3_areNear (cls_eq (V2 := (fmem V g u v u v)) hc rfl rfl rfl) ok u v rfl rfl (by omega) (by omega) (by omega)) gX3_follow_X3_areNear sgX3_areNear rfl ⟨by decide, by decide⟩ (by decide) (en_4 _ _) rfl rfl rfl (Nat.le_of_ble_eq_true rfl) dX3_follow_39) (fun z_1 V_2 h_3 => ?_)
  obtain ⟨rfl, rfl⟩ := h_3
  refine j_ifb_eq (tgt := 54) C dX3_follow_42 (by decide) (fun q_4 => ?_) (fun q_4 => ?_)
  · refine j_mem (V2 := (fmem V g u (v + 1) u v)) (fmB5 (by omega) ‹_›) ?_
    exact fol_2 C hc ok (by omega) (by omega) kx
  · refine j_aload_n C dX3_follow_45 rfl ?_
    refine j_get (v := sr 5) C 4 1 (by decide) (en_4 _ _) rfl (by decide) (fun w h => List.mem_cons_of_mem _ (List.mem_append_left _ (List.mem_append_right _ h))) (List.mem_of_getElem? (i := 1) rfl) dX3_follow_46 rfl ?_
    refine j_iload_n C dX3_follow_49 rfl ?_
    refine j_iload_n C dX3_follow_50 rfl ?_
    refine j_doV (st := []) (j_runS C (kX3_tie (row_5 O) u v rfl rfl (by omega) (by omega) (by omega) (by omega) (by omega) (a := pS (gL g) u v u) (b := pS (gL g) u v v) (fm_5 (by omega)) (fm_5 (by omega)) (Nat.lt_trans (pS_lt _ _ _ _) (by decide)) (Nat.lt_trans (pS_lt _ _ _ _) (by decide))) ggX3_follow_X3_tie sgX3_tie (List.mem_of_getElem? (i := 31) rfl) (List.mem_of_getElem? (i := 11) rfl) (List.mem_of_getElem? (i := 32) rfl) ⟨by decide, by decide⟩ rfl rfl (Nat.le_of_ble_eq_true rfl) dX3_follow_51) (fun V_6 h_7 => ?_)
    subst h_7
    refine j_mem (V2 := (fmem V g u (v + 1) u v)) (fmA5 (by omega) (by omega) ‹_›) ?_
    exact fol_2 C hc ok (by omega) (by omega) kx
set_option maxHeartbeats 4000000 in
set_option maxRecDepth 100000 in
theorem fol_in {O : OmT} {F : PhT} {V : Mem} {g : Nat → Int} (C : cx O F RX3 cX3_follow 3 none wsX3_follow) (hc : cls V g) (ok : okg g) {u : Nat} (hu : u < gN g) (kx : J O F rX3_follow 3 (fmem V g u u u u) 87 [(0, sr 4), (1, si (u : Int)), (2, si (u : Int))] []) : ∀ (fuel : Nat) (v : Nat), (v ≤ u) → u - v < fuel → J O F rX3_follow 3 (fmem V g u v u v) 31 [(0, sr 4), (1, si (u : Int)), (2, si (v : Int))] [] := by
  intro fuel
  induction fuel with
  | zero => intro v hw hf; exact absurd hf (Nat.not_lt_zero _)
  | succ fuel ih =>
    intro v hw hf
    have n1 := ok.n
    refine j_iload_n C dX3_follow_31 rfl ?_
    refine j_iload_n C dX3_follow_32 rfl ?_
    refine j_icmp_ge (tgt := 87) C dX3_follow_33 (by decide) (by omega) (by omega) (fun q_1 => ?_) (fun q_1 => ?_)
    · have e : v = u := by omega
      rw [e]
      exact kx
    · refine fol_1 C hc ok hu (by omega) ?_
      refine j_iinc (lv' := [(0, sr 4), (1, si (u : Int)), (2, si ((v : Int) + 1))]) C dX3_follow_81 rfl (by decide) rfl ?_
      refine j_goto (tgt := 31) C dX3_follow_84 (by decide) ?_
      refine j_mem (V2 := (fmem V g u (v + 1) u (v + 1))) rfl ?_
      exact ih (v + 1) (by omega) (by omega)
set_option maxHeartbeats 4000000 in
set_option maxRecDepth 100000 in
theorem fol_out {O : OmT} {F : PhT} {V : Mem} {g : Nat → Int} (C : cx O F RX3 cX3_follow 3 none wsX3_follow) {post : Mem → Prop} (hQ : qV O F post) (hc : cls V g) (ok : okg g) (hpo : post (fmem V g (gN g) 0 (gN g) 0)) : ∀ (fuel : Nat) (u : Nat), (u ≤ gN g) → gN g - u < fuel → J O F rX3_follow 3 (fmem V g u 0 u 0) 18 [(0, sr 4), (1, si (u : Int))] [] := by
  intro fuel
  induction fuel with
  | zero => intro u hw hf; exact absurd hf (Nat.not_lt_zero _)
  | succ fuel ih =>
    intro u hw hf
    have n1 := ok.n
    refine j_iload_n C dX3_follow_18 rfl ?_
    refine j_aload_n C dX3_follow_19 rfl ?_
    refine j_get (v := sr 1) C 4 0 (by decide) (en_4 _ _) rfl (by decide) (fun w h => List.mem_cons_of_mem _ (List.mem_append_left _ (List.mem_append_right _ h))) (List.mem_of_getElem? (i := 3) rfl) dX3_follow_20 rfl ?_
    refine j_getN (v := si ((fmem V g u 0 u 0) 1 2)) C 1 2 (by decide) (en_G (c := 1) (by decide) _) rfl (by decide) (fun w h => List.mem_cons_of_mem _ (List.mem_append_right _ h)) (List.mem_of_getElem? (i := 6) rfl) dX3_follow_23 rfl ?_
    refine j_top (cls_eq (V2 := (fmem V g u 0 u 0)) hc rfl rfl rfl).1 ?_
    refine j_icmp_ge (tgt := 93) C dX3_follow_26 (by decide) (by omega) (by have := ok.1; omega) (fun q_1 => ?_) (fun q_1 => ?_)
    · refine j_vret C hQ dX3_follow_93 ?_
      have e : u = gN g := by omega
      rw [e]; exact hpo
    · refine j_iconst C dX3_follow_29 ?_
      refine j_istore_n (lv' := [(0, sr 4), (1, si (u : Int)), (2, si 0)]) C dX3_follow_30 (by decide) rfl ?_
      refine fol_in C hc ok (by omega) ?_ _ 0 (Nat.zero_le _) (Nat.lt_succ_self _)
      refine j_iinc (lv' := [(0, sr 4), (1, si ((u : Int) + 1)), (2, si (u : Int))]) C dX3_follow_87 rfl (by decide) rfl ?_
      refine j_goto (tgt := 18) C dX3_follow_90 (by decide) ?_
      refine j_pick (lv' := [(0, sr 4), (1, si ((u : Int) + 1))]) [0, 1] rfl ?_
      refine j_mem (V2 := (fmem V g (u + 1) 0 (u + 1) 0)) (fm_next V g u) ?_
      exact ih (u + 1) (by omega) (by omega)
set_option maxHeartbeats 4000000 in
set_option maxRecDepth 100000 in
theorem kX3_follow {O : OmT} {l : Launch} {V : Mem} {g : Nat → Int} (hc : cls V g) (ok : okg g) : MV O l yX3_follow wsX3_follow rX3_follow [sr 4] V (fun V2 => V2 = va_up (va_up V 5 (V2 5)) 6 (V2 6) ∧ net V2 g) := by
  refine mv_of (cc := cX3_follow) (nL := 3) (rt := none) (by decide) rfl rfl (Nat.le_of_ble_eq_true rfl) (fun F hF C hQ => ?_)
  subst hF
  change J O F rX3_follow 3 V 0 [(0, sr 4)] []
  refine j_aload_n C dX3_follow_0 rfl ?_
  refine j_get (v := sr 5) C 4 1 (by decide) (en_4 _ _) rfl (by decide) (fun w h => List.mem_cons_of_mem _ (List.mem_append_left _ (List.mem_append_right _ h))) (List.mem_of_getElem? (i := 1) rfl) dX3_follow_1 rfl ?_
  refine j_iconst C dX3_follow_4 ?_
  refine j_doV (st := []) (j_runS C (kJ7_fill_53178 (row_5 O)) ggX3_follow_J7_fill_53178 sgJ7_fill_53178 (List.mem_of_getElem? (i := 4) rfl) (List.mem_of_getElem? (i := 6) rfl) (List.mem_of_getElem? (i := 5) rfl) ⟨by decide, by decide⟩ rfl rfl (Nat.le_of_ble_eq_true rfl) dX3_follow_5) (fun V_2 h_3 => ?_)
  subst h_3
  refine j_aload_n C dX3_follow_8 rfl ?_
  refine j_get (v := sr 6) C 4 2 (by decide) (en_4 _ _) rfl (by decide) (fun w h => List.mem_cons_of_mem _ (List.mem_append_left _ (List.mem_append_right _ h))) (List.mem_of_getElem? (i := 2) rfl) dX3_follow_9 rfl ?_
  refine j_iconst C dX3_follow_12 ?_
  refine j_doV (st := []) (j_runS C (kJ7_fill_53178 (row_6 O)) ggX3_follow_J7_fill_53178 sgJ7_fill_53178 (List.mem_of_getElem? (i := 4) rfl) (List.mem_of_getElem? (i := 6) rfl) (List.mem_of_getElem? (i := 5) rfl) ⟨by decide, by decide⟩ rfl rfl (Nat.le_of_ble_eq_true rfl) dX3_follow_13) (fun V_5 h_6 => ?_)
  subst h_6
  refine j_iconst C dX3_follow_16 ?_
  refine j_istore_n (lv' := [(0, sr 4), (1, si 0)]) C dX3_follow_17 (by decide) rfl ?_
  refine j_mem (V2 := (fmem V g 0 0 0 0)) (fm_0 V g) ?_
  exact fol_out C hQ hc ok (fm_end ok) _ 0 (Nat.zero_le _) (Nat.lt_succ_self _)
