def rX6_setOf : Room := { frames := 4, cells := 0, slots := 0, locals := 91 }
theorem sgX6_setOf : sg yX6_setOf wsX6_setOf cX6_setOf 5 (some .int) rX6_setOf 2 := ⟨⟨_, rfl⟩, rfl, rfl, by decide, by decide, by decide +kernel⟩
set_option maxHeartbeats 4000000 in
set_option maxRecDepth 100000 in
theorem lpX6_setOf {O : OmT} {F : PhT} {V : Mem} {g : Nat → Int} (C : cx O F RX6 cX6_setOf 5 (some .int) wsX6_setOf) {post : Int → Mem → Prop} (hQ : qI O F post) (hg : mdl V g) (ok : okg g) {v : Nat} {b : Bool} (hv : v < 10) (hpo : post (gSt g b v (gN g) : Int) V) : ∀ (fuel : Nat) (w : Nat), (w ≤ gN g) → gN g - w < fuel → J O F rX6_setOf 5 V 5 [(0, sr 72), (1, si (v : Int)), (2, si (bI b)), (3, si ((gSt g b v w : Nat) : Int)), (4, si (w : Int))] [] := by
  intro fuel
  induction fuel with
  | zero => intro w hw hf; exact absurd hf (Nat.not_lt_zero _)
  | succ fuel ih =>
    intro w hw hf
    have n1 := ok.n
    refine j_iload C dX6_setOf_5 rfl ?_
    refine j_aload_n C dX6_setOf_7 rfl ?_
    refine j_get (v := sr 73) C 72 0 (by decide) (en_72 _ _) rfl (by decide) (fun w h => List.mem_cons_of_mem _ (List.mem_append_right _ h)) (List.mem_of_getElem? (i := 1) rfl) dX6_setOf_8 rfl ?_
    refine j_iconst C dX6_setOf_11 ?_
    refine j_iald C (row_73 O) 0 rfl (by decide) dX6_setOf_12 ?_
    refine j_top (hg 0 (by omega)) ?_
    refine j_icmp_ge (tgt := 60) C dX6_setOf_13 (by decide) (by omega) (by have := ok.1; omega) (fun q_1 => ?_) (fun q_1 => ?_)
    · refine j_iload_n C dX6_setOf_60 rfl ?_
      refine j_iret C hQ dX6_setOf_61 ?_
      have e : w = gN g := by omega
      subst e; exact hpo
    · refine j_iload_n C dX6_setOf_16 rfl ?_
      refine j_iload_n C dX6_setOf_17 rfl ?_
      refine j_ifb_eq (tgt := 34) C dX6_setOf_18 (by decide) (fun q_2 => ?_) (fun q_2 => ?_)
      · refine j_aload_n C dX6_setOf_34 rfl ?_
        refine j_iload_n C dX6_setOf_35 rfl ?_
        refine j_iload C dX6_setOf_36 rfl ?_
        refine j_doI (st := [si ((gSt g b v w : Nat) : Int)]) (j_runV C (kX6_areLinked hg ok v w rfl rfl (by omega) (by omega)) gX6_setOf_X6_areLinked sgX6_areLinked rfl ⟨by decide, by decide⟩ (by decide) (en_72 _ _) rfl rfl rfl (Nat.le_of_ble_eq_true rfl) dX6_setOf_38) (fun z_3 V_4 h_5 => ?_)
        obtain ⟨rfl, rfl⟩ := h_5
        refine j_ifb_eq (tgt := 51) C dX6_setOf_41 (by decide) (fun q_6 => ?_) (fun q_6 => ?_)
        · refine j_iconst C dX6_setOf_51 ?_
          refine j_ior C dX6_setOf_52 ?_
          refine j_top (bOr_nat (gSt_31 (by omega)) (by decide)) ?_
          refine j_istore_n (lv' := [(0, sr 72), (1, si (v : Int)), (2, si (bI b)), (3, si (((gSt g b v w) ||| 0 : Nat) : Int)), (4, si (w : Int))]) C dX6_setOf_53 (by decide) rfl ?_
          refine j_iinc (lv' := [(0, sr 72), (1, si (v : Int)), (2, si (bI b)), (3, si (((gSt g b v w) ||| 0 : Nat) : Int)), (4, si ((w : Int) + 1))]) C dX6_setOf_54 rfl (by decide) rfl ?_
          refine j_goto (tgt := 5) C dX6_setOf_57 (by decide) ?_
          have e3 : ((gSt g b v (w + 1) : Nat) : Int) = (((gSt g b v w) ||| 0 : Nat) : Int) := by
            rw [gSt_s]
            simp [gE, *]
          refine j_lv (lv' := [(0, sr 72), (1, si (v : Int)), (2, si (bI b)), (3, si ((gSt g b v (w + 1) : Nat) : Int)), (4, si ((w : Int) + 1))]) (by rw [e3]) ?_
          exact ih (w + 1) (by omega) (by omega)
        · refine j_iconst C dX6_setOf_44 ?_
          refine j_iload C dX6_setOf_45 rfl ?_
          refine j_ishl C dX6_setOf_47 ?_
          refine j_top (bShl_1 (by omega)) ?_
          refine j_goto (tgt := 52) C dX6_setOf_48 (by decide) ?_
          refine j_ior C dX6_setOf_52 ?_
          refine j_top (bOr_nat (gSt_31 (by omega)) (p2_31 (by omega))) ?_
          refine j_istore_n (lv' := [(0, sr 72), (1, si (v : Int)), (2, si (bI b)), (3, si (((gSt g b v w) ||| (2 ^ w) : Nat) : Int)), (4, si (w : Int))]) C dX6_setOf_53 (by decide) rfl ?_
          refine j_iinc (lv' := [(0, sr 72), (1, si (v : Int)), (2, si (bI b)), (3, si (((gSt g b v w) ||| (2 ^ w) : Nat) : Int)), (4, si ((w : Int) + 1))]) C dX6_setOf_54 rfl (by decide) rfl ?_
          refine j_goto (tgt := 5) C dX6_setOf_57 (by decide) ?_
          have e3 : ((gSt g b v (w + 1) : Nat) : Int) = (((gSt g b v w) ||| (2 ^ w) : Nat) : Int) := by
            rw [gSt_s]
            simp [gE, *]
          refine j_lv (lv' := [(0, sr 72), (1, si (v : Int)), (2, si (bI b)), (3, si ((gSt g b v (w + 1) : Nat) : Int)), (4, si ((w : Int) + 1))]) (by rw [e3]) ?_
          exact ih (w + 1) (by omega) (by omega)
      · refine j_aload_n C dX6_setOf_21 rfl ?_
        refine j_iload_n C dX6_setOf_22 rfl ?_
        refine j_iload C dX6_setOf_23 rfl ?_
        refine j_doI (st := [si ((gSt g b v w : Nat) : Int)]) (j_runV C (kX6_areThin hg ok v w rfl rfl (by omega) (by omega)) gX6_setOf_X6_areThin sgX6_areThin rfl ⟨by decide, by decide⟩ (by decide) (en_72 _ _) rfl rfl rfl (Nat.le_of_ble_eq_true rfl) dX6_setOf_25) (fun z_7 V_8 h_9 => ?_)
        obtain ⟨rfl, rfl⟩ := h_9
        refine j_ifb_eq (tgt := 51) C dX6_setOf_28 (by decide) (fun q_10 => ?_) (fun q_10 => ?_)
        · refine j_iconst C dX6_setOf_51 ?_
          refine j_ior C dX6_setOf_52 ?_
          refine j_top (bOr_nat (gSt_31 (by omega)) (by decide)) ?_
          refine j_istore_n (lv' := [(0, sr 72), (1, si (v : Int)), (2, si (bI b)), (3, si (((gSt g b v w) ||| 0 : Nat) : Int)), (4, si (w : Int))]) C dX6_setOf_53 (by decide) rfl ?_
          refine j_iinc (lv' := [(0, sr 72), (1, si (v : Int)), (2, si (bI b)), (3, si (((gSt g b v w) ||| 0 : Nat) : Int)), (4, si ((w : Int) + 1))]) C dX6_setOf_54 rfl (by decide) rfl ?_
          refine j_goto (tgt := 5) C dX6_setOf_57 (by decide) ?_
          have e3 : ((gSt g b v (w + 1) : Nat) : Int) = (((gSt g b v w) ||| 0 : Nat) : Int) := by
            rw [gSt_s]
            simp [gE, *]
          refine j_lv (lv' := [(0, sr 72), (1, si (v : Int)), (2, si (bI b)), (3, si ((gSt g b v (w + 1) : Nat) : Int)), (4, si ((w : Int) + 1))]) (by rw [e3]) ?_
          exact ih (w + 1) (by omega) (by omega)
        · refine j_goto (tgt := 44) C dX6_setOf_31 (by decide) ?_
          refine j_iconst C dX6_setOf_44 ?_
          refine j_iload C dX6_setOf_45 rfl ?_
          refine j_ishl C dX6_setOf_47 ?_
          refine j_top (bShl_1 (by omega)) ?_
          refine j_goto (tgt := 52) C dX6_setOf_48 (by decide) ?_
          refine j_ior C dX6_setOf_52 ?_
          refine j_top (bOr_nat (gSt_31 (by omega)) (p2_31 (by omega))) ?_
          refine j_istore_n (lv' := [(0, sr 72), (1, si (v : Int)), (2, si (bI b)), (3, si (((gSt g b v w) ||| (2 ^ w) : Nat) : Int)), (4, si (w : Int))]) C dX6_setOf_53 (by decide) rfl ?_
          refine j_iinc (lv' := [(0, sr 72), (1, si (v : Int)), (2, si (bI b)), (3, si (((gSt g b v w) ||| (2 ^ w) : Nat) : Int)), (4, si ((w : Int) + 1))]) C dX6_setOf_54 rfl (by decide) rfl ?_
          refine j_goto (tgt := 5) C dX6_setOf_57 (by decide) ?_
          have e3 : ((gSt g b v (w + 1) : Nat) : Int) = (((gSt g b v w) ||| (2 ^ w) : Nat) : Int) := by
            rw [gSt_s]
            simp [gE, *]
          refine j_lv (lv' := [(0, sr 72), (1, si (v : Int)), (2, si (bI b)), (3, si ((gSt g b v (w + 1) : Nat) : Int)), (4, si ((w : Int) + 1))]) (by rw [e3]) ?_
          exact ih (w + 1) (by omega) (by omega)
set_option maxHeartbeats 4000000 in
set_option maxRecDepth 100000 in
theorem kX6_setOf {O : OmT} {l : Launch} {V : Mem} {g : Nat → Int} (hg : mdl V g) (ok : okg g) {zv : Int} (v : Nat) (b : Bool) (ev : zv = (v : Int)) (hv : v < 10) : MI O l yX6_setOf wsX6_setOf rX6_setOf [sr 72, si zv, si (bI b)] V (fun z V2 => V = V2 ∧ z = (gSt g b v (gN g) : Int)) := by
  refine mi_of (cc := cX6_setOf) (nL := 5) (rt := (some .int)) (by decide) rfl rfl (Nat.le_of_ble_eq_true rfl) (fun F hF C hQ => ?_)
  subst hF
  subst ev
  change J O F rX6_setOf 5 V 0 [(0, sr 72), (1, si (v : Int)), (2, si (bI b))] []
  refine j_iconst C dX6_setOf_0 ?_
  refine j_istore_n (lv' := [(0, sr 72), (1, si (v : Int)), (2, si (bI b)), (3, si 0)]) C dX6_setOf_1 (by decide) rfl ?_
  refine j_iconst C dX6_setOf_2 ?_
  refine j_istore (lv' := [(0, sr 72), (1, si (v : Int)), (2, si (bI b)), (3, si 0), (4, si 0)]) C dX6_setOf_3 (by decide) rfl ?_
  refine j_lv (lv' := [(0, sr 72), (1, si (v : Int)), (2, si (bI b)), (3, si ((gSt g b v 0 : Nat) : Int)), (4, si (0 : Int))]) (by cases b <;> rfl) ?_
  exact lpX6_setOf C hQ hg ok hv ⟨rfl, rfl⟩ _ 0 (Nat.zero_le _) (Nat.lt_succ_self _)
def rX6_awakeMany : Room := { frames := 2, cells := 0, slots := 0, locals := 42 }
theorem sgX6_awakeMany : sg yX6_awakeMany wsX6_awakeMany cX6_awakeMany 3 (some .int) rX6_awakeMany 0 := ⟨⟨_, rfl⟩, rfl, rfl, by decide, by decide, by decide +kernel⟩
set_option maxHeartbeats 4000000 in
set_option maxRecDepth 100000 in
theorem lpX6_awakeMany {O : OmT} {F : PhT} {V : Mem} {g : Nat → Int} (C : cx O F RX6 cX6_awakeMany 3 (some .int) wsX6_awakeMany) {post : Int → Mem → Prop} (hQ : qI O F post) (hg : mdl V g) (ok : okg g) (hpo : post (gAc g (gN g)) V) : ∀ (fuel : Nat) (w : Nat), (w ≤ gN g) → gN g - w < fuel → J O F rX6_awakeMany 3 V 4 [(0, sr 72), (1, si (gAc g w)), (2, si (w : Int))] [] := by
  intro fuel
  induction fuel with
  | zero => intro w hw hf; exact absurd hf (Nat.not_lt_zero _)
  | succ fuel ih =>
    intro w hw hf
    have n1 := ok.n
    refine j_iload_n C dX6_awakeMany_4 rfl ?_
    refine j_aload_n C dX6_awakeMany_5 rfl ?_
    refine j_get (v := sr 73) C 72 0 (by decide) (en_72 _ _) rfl (by decide) (fun w h => List.mem_cons_of_mem _ (List.mem_append_right _ h)) (List.mem_of_getElem? (i := 1) rfl) dX6_awakeMany_6 rfl ?_
    refine j_iconst C dX6_awakeMany_9 ?_
    refine j_iald C (row_73 O) 0 rfl (by decide) dX6_awakeMany_10 ?_
    refine j_top (hg 0 (by omega)) ?_
    refine j_icmp_ge (tgt := 36) C dX6_awakeMany_11 (by decide) (by omega) (by have := ok.1; omega) (fun q_1 => ?_) (fun q_1 => ?_)
    · refine j_iload_n C dX6_awakeMany_36 rfl ?_
      refine j_iret C hQ dX6_awakeMany_37 ?_
      have e : w = gN g := by omega
      subst e; exact hpo
    · refine j_iload_n C dX6_awakeMany_14 rfl ?_
      refine j_aload_n C dX6_awakeMany_15 rfl ?_
      refine j_iload_n C dX6_awakeMany_16 rfl ?_
      refine j_doI (st := [si (gAc g w)]) (j_runV C (kX6_isAwake hg ok w rfl (by omega)) gX6_awakeMany_X6_isAwake sgX6_isAwake rfl ⟨by decide, by decide⟩ (by decide) (en_72 _ _) rfl rfl rfl (Nat.le_of_ble_eq_true rfl) dX6_awakeMany_17) (fun z_2 V_3 h_4 => ?_)
      obtain ⟨rfl, rfl⟩ := h_4
      refine j_ifb_eq (tgt := 27) C dX6_awakeMany_20 (by decide) (fun q_5 => ?_) (fun q_5 => ?_)
      · refine j_iconst C dX6_awakeMany_27 ?_
        refine j_iadd C dX6_awakeMany_28 ?_
        refine j_istore_n (lv' := [(0, sr 72), (1, si ((gAc g w) + 0)), (2, si (w : Int))]) C dX6_awakeMany_29 (by decide) rfl ?_
        refine j_iinc (lv' := [(0, sr 72), (1, si ((gAc g w) + 0)), (2, si ((w : Int) + 1))]) C dX6_awakeMany_30 rfl (by decide) rfl ?_
        refine j_goto (tgt := 4) C dX6_awakeMany_33 (by decide) ?_
        have e1 : (gAc g (w + 1)) = ((gAc g w) + 0) := by
          rw [gAc_s]
          simp [bI, *]
        refine j_lv (lv' := [(0, sr 72), (1, si (gAc g (w + 1))), (2, si ((w : Int) + 1))]) (by rw [e1]) ?_
        exact ih (w + 1) (by omega) (by omega)
      · refine j_iconst C dX6_awakeMany_23 ?_
        refine j_goto (tgt := 28) C dX6_awakeMany_24 (by decide) ?_
        refine j_iadd C dX6_awakeMany_28 ?_
        refine j_istore_n (lv' := [(0, sr 72), (1, si ((gAc g w) + 1)), (2, si (w : Int))]) C dX6_awakeMany_29 (by decide) rfl ?_
        refine j_iinc (lv' := [(0, sr 72), (1, si ((gAc g w) + 1)), (2, si ((w : Int) + 1))]) C dX6_awakeMany_30 rfl (by decide) rfl ?_
        refine j_goto (tgt := 4) C dX6_awakeMany_33 (by decide) ?_
        have e1 : (gAc g (w + 1)) = ((gAc g w) + 1) := by
          rw [gAc_s]
          simp [bI, *]
        refine j_lv (lv' := [(0, sr 72), (1, si (gAc g (w + 1))), (2, si ((w : Int) + 1))]) (by rw [e1]) ?_
        exact ih (w + 1) (by omega) (by omega)
set_option maxHeartbeats 4000000 in
set_option maxRecDepth 100000 in
theorem kX6_awakeMany {O : OmT} {l : Launch} {V : Mem} {g : Nat → Int} (hg : mdl V g) (ok : okg g) : MI O l yX6_awakeMany wsX6_awakeMany rX6_awakeMany [sr 72] V (fun z V2 => V = V2 ∧ z = gAc g (gN g)) := by
  refine mi_of (cc := cX6_awakeMany) (nL := 3) (rt := (some .int)) (by decide) rfl rfl (Nat.le_of_ble_eq_true rfl) (fun F hF C hQ => ?_)
  subst hF
  change J O F rX6_awakeMany 3 V 0 [(0, sr 72)] []
  refine j_iconst C dX6_awakeMany_0 ?_
  refine j_istore_n (lv' := [(0, sr 72), (1, si 0)]) C dX6_awakeMany_1 (by decide) rfl ?_
  refine j_iconst C dX6_awakeMany_2 ?_
  refine j_istore_n (lv' := [(0, sr 72), (1, si 0), (2, si 0)]) C dX6_awakeMany_3 (by decide) rfl ?_
  exact lpX6_awakeMany C hQ hg ok ⟨rfl, rfl⟩ _ 0 (Nat.zero_le _) (Nat.lt_succ_self _)
def rX6_pairs : Room := { frames := 4, cells := 0, slots := 0, locals := 91 }
theorem sgX6_pairs : sg yX6_pairs wsX6_pairs cX6_pairs 5 (some .int) rX6_pairs 1 := ⟨⟨_, rfl⟩, rfl, rfl, by decide, by decide, by decide +kernel⟩
set_option maxHeartbeats 4000000 in
set_option maxRecDepth 100000 in
theorem lpX6_pairs2 {O : OmT} {F : PhT} {V : Mem} {g : Nat → Int} (C : cx O F RX6 cX6_pairs 5 (some .int) wsX6_pairs) (hg : mdl V g) (ok : okg g) {u : Nat} {b : Bool} (hu : u < gN g) (kx : J O F rX6_pairs 5 V 71 [(0, sr 72), (1, si (bI b)), (2, si (gPp g b u + gPc g b u (gN g))), (3, si (u : Int)), (4, si ((gN g : Nat) : Int))] []) : ∀ (fuel : Nat) (v : Nat), (v ≤ gN g) → (u < v) → gN g - v < fuel → J O F rX6_pairs 5 V 19 [(0, sr 72), (1, si (bI b)), (2, si (gPp g b u + gPc g b u v)), (3, si (u : Int)), (4, si (v : Int))] [] := by
  intro fuel
  induction fuel with
  | zero => intro v hw huv hf; exact absurd hf (Nat.not_lt_zero _)
  | succ fuel ih =>
    intro v hw huv hf
    have n1 := ok.n
    refine j_iload C dX6_pairs_19 rfl ?_
    refine j_aload_n C dX6_pairs_21 rfl ?_
    refine j_get (v := sr 73) C 72 0 (by decide) (en_72 _ _) rfl (by decide) (fun w h => List.mem_cons_of_mem _ (List.mem_append_right _ h)) (List.mem_of_getElem? (i := 1) rfl) dX6_pairs_22 rfl ?_
    refine j_iconst C dX6_pairs_25 ?_
    refine j_iald C (row_73 O) 0 rfl (by decide) dX6_pairs_26 ?_
    refine j_top (hg 0 (by omega)) ?_
    refine j_icmp_ge (tgt := 71) C dX6_pairs_27 (by decide) (by omega) (by have := ok.1; omega) (fun q_1 => ?_) (fun q_1 => ?_)
    · have e : v = gN g := by omega
      rw [e]
      exact kx
    · refine j_iload_n C dX6_pairs_30 rfl ?_
      refine j_iload_n C dX6_pairs_31 rfl ?_
      refine j_ifb_eq (tgt := 48) C dX6_pairs_32 (by decide) (fun q_2 => ?_) (fun q_2 => ?_)
      · refine j_aload_n C dX6_pairs_48 rfl ?_
        refine j_iload_n C dX6_pairs_49 rfl ?_
        refine j_iload C dX6_pairs_50 rfl ?_
        refine j_doI (st := [si (gPp g b u + gPc g b u v)]) (j_runV C (kX6_areLinked hg ok u v rfl rfl (by omega) (by omega)) gX6_pairs_X6_areLinked sgX6_areLinked rfl ⟨by decide, by decide⟩ (by decide) (en_72 _ _) rfl rfl rfl (Nat.le_of_ble_eq_true rfl) dX6_pairs_52) (fun z_3 V_4 h_5 => ?_)
        obtain ⟨rfl, rfl⟩ := h_5
        refine j_ifb_eq (tgt := 62) C dX6_pairs_55 (by decide) (fun q_6 => ?_) (fun q_6 => ?_)
        · refine j_iconst C dX6_pairs_62 ?_
          refine j_iadd C dX6_pairs_63 ?_
          refine j_istore_n (lv' := [(0, sr 72), (1, si (bI b)), (2, si ((gPp g b u + gPc g b u v) + 0)), (3, si (u : Int)), (4, si (v : Int))]) C dX6_pairs_64 (by decide) rfl ?_
          refine j_iinc (lv' := [(0, sr 72), (1, si (bI b)), (2, si ((gPp g b u + gPc g b u v) + 0)), (3, si (u : Int)), (4, si ((v : Int) + 1))]) C dX6_pairs_65 rfl (by decide) rfl ?_
          refine j_goto (tgt := 19) C dX6_pairs_68 (by decide) ?_
          have e2 : (gPp g b u + gPc g b u (v + 1)) = ((gPp g b u + gPc g b u v) + 0) := by
            rw [gPc_s]
            simp [gE, bI, *]
            try omega
          refine j_lv (lv' := [(0, sr 72), (1, si (bI b)), (2, si (gPp g b u + gPc g b u (v + 1))), (3, si (u : Int)), (4, si ((v : Int) + 1))]) (by rw [e2]) ?_
          exact ih (v + 1) (by omega) (by omega) (by omega)
        · refine j_iconst C dX6_pairs_58 ?_
          refine j_goto (tgt := 63) C dX6_pairs_59 (by decide) ?_
          refine j_iadd C dX6_pairs_63 ?_
          refine j_istore_n (lv' := [(0, sr 72), (1, si (bI b)), (2, si ((gPp g b u + gPc g b u v) + 1)), (3, si (u : Int)), (4, si (v : Int))]) C dX6_pairs_64 (by decide) rfl ?_
          refine j_iinc (lv' := [(0, sr 72), (1, si (bI b)), (2, si ((gPp g b u + gPc g b u v) + 1)), (3, si (u : Int)), (4, si ((v : Int) + 1))]) C dX6_pairs_65 rfl (by decide) rfl ?_
          refine j_goto (tgt := 19) C dX6_pairs_68 (by decide) ?_
          have e2 : (gPp g b u + gPc g b u (v + 1)) = ((gPp g b u + gPc g b u v) + 1) := by
            rw [gPc_s]
            simp [gE, bI, *]
            try omega
          refine j_lv (lv' := [(0, sr 72), (1, si (bI b)), (2, si (gPp g b u + gPc g b u (v + 1))), (3, si (u : Int)), (4, si ((v : Int) + 1))]) (by rw [e2]) ?_
          exact ih (v + 1) (by omega) (by omega) (by omega)
      · refine j_aload_n C dX6_pairs_35 rfl ?_
        refine j_iload_n C dX6_pairs_36 rfl ?_
        refine j_iload C dX6_pairs_37 rfl ?_
        refine j_doI (st := [si (gPp g b u + gPc g b u v)]) (j_runV C (kX6_areThin hg ok u v rfl rfl (by omega) (by omega)) gX6_pairs_X6_areThin sgX6_areThin rfl ⟨by decide, by decide⟩ (by decide) (en_72 _ _) rfl rfl rfl (Nat.le_of_ble_eq_true rfl) dX6_pairs_39) (fun z_7 V_8 h_9 => ?_)
        obtain ⟨rfl, rfl⟩ := h_9
        refine j_ifb_eq (tgt := 62) C dX6_pairs_42 (by decide) (fun q_10 => ?_) (fun q_10 => ?_)
        · refine j_iconst C dX6_pairs_62 ?_
          refine j_iadd C dX6_pairs_63 ?_
          refine j_istore_n (lv' := [(0, sr 72), (1, si (bI b)), (2, si ((gPp g b u + gPc g b u v) + 0)), (3, si (u : Int)), (4, si (v : Int))]) C dX6_pairs_64 (by decide) rfl ?_
          refine j_iinc (lv' := [(0, sr 72), (1, si (bI b)), (2, si ((gPp g b u + gPc g b u v) + 0)), (3, si (u : Int)), (4, si ((v : Int) + 1))]) C dX6_pairs_65 rfl (by decide) rfl ?_
          refine j_goto (tgt := 19) C dX6_pairs_68 (by decide) ?_
          have e2 : (gPp g b u + gPc g b u (v + 1)) = ((gPp g b u + gPc g b u v) + 0) := by
            rw [gPc_s]
            simp [gE, bI, *]
            try omega
          refine j_lv (lv' := [(0, sr 72), (1, si (bI b)), (2, si (gPp g b u + gPc g b u (v + 1))), (3, si (u : Int)), (4, si ((v : Int) + 1))]) (by rw [e2]) ?_
          exact ih (v + 1) (by omega) (by omega) (by omega)
        · refine j_goto (tgt := 58) C dX6_pairs_45 (by decide) ?_
          refine j_iconst C dX6_pairs_58 ?_
          refine j_goto (tgt := 63) C dX6_pairs_59 (by decide) ?_
          refine j_iadd C dX6_pairs_63 ?_
          refine j_istore_n (lv' := [(0, sr 72), (1, si (bI b)), (2, si ((gPp g b u + gPc g b u v) + 1)), (3, si (u : Int)), (4, si (v : Int))]) C dX6_pairs_64 (by decide) rfl ?_
          refine j_iinc (lv' := [(0, sr 72), (1, si (bI b)), (2, si ((gPp g b u + gPc g b u v) + 1)), (3, si (u : Int)), (4, si ((v : Int) + 1))]) C dX6_pairs_65 rfl (by decide) rfl ?_
          refine j_goto (tgt := 19) C dX6_pairs_68 (by decide) ?_
          have e2 : (gPp g b u + gPc g b u (v + 1)) = ((gPp g b u + gPc g b u v) + 1) := by
            rw [gPc_s]
            simp [gE, bI, *]
            try omega
          refine j_lv (lv' := [(0, sr 72), (1, si (bI b)), (2, si (gPp g b u + gPc g b u (v + 1))), (3, si (u : Int)), (4, si ((v : Int) + 1))]) (by rw [e2]) ?_
          exact ih (v + 1) (by omega) (by omega) (by omega)
set_option maxHeartbeats 4000000 in
set_option maxRecDepth 100000 in
theorem lpX6_pairs {O : OmT} {F : PhT} {V : Mem} {g : Nat → Int} (C : cx O F RX6 cX6_pairs 5 (some .int) wsX6_pairs) {post : Int → Mem → Prop} (hQ : qI O F post) (hg : mdl V g) (ok : okg g) {b : Bool} (hpo : post (gPp g b (gN g)) V) : ∀ (fuel : Nat) (u : Nat), (u ≤ gN g) → gN g - u < fuel → J O F rX6_pairs 5 V 4 [(0, sr 72), (1, si (bI b)), (2, si (gPp g b u)), (3, si (u : Int))] [] := by
  intro fuel
  induction fuel with
  | zero => intro u hw hf; exact absurd hf (Nat.not_lt_zero _)
  | succ fuel ih =>
    intro u hw hf
    have n1 := ok.n
    refine j_iload_n C dX6_pairs_4 rfl ?_
    refine j_aload_n C dX6_pairs_5 rfl ?_
    refine j_get (v := sr 73) C 72 0 (by decide) (en_72 _ _) rfl (by decide) (fun w h => List.mem_cons_of_mem _ (List.mem_append_right _ h)) (List.mem_of_getElem? (i := 1) rfl) dX6_pairs_6 rfl ?_
    refine j_iconst C dX6_pairs_9 ?_
    refine j_iald C (row_73 O) 0 rfl (by decide) dX6_pairs_10 ?_
    refine j_top (hg 0 (by omega)) ?_
    refine j_icmp_ge (tgt := 77) C dX6_pairs_11 (by decide) (by omega) (by have := ok.1; omega) (fun q_1 => ?_) (fun q_1 => ?_)
    · refine j_iload_n C dX6_pairs_77 rfl ?_
      refine j_iret C hQ dX6_pairs_78 ?_
      have e : u = gN g := by omega
      subst e; exact hpo
    · refine j_iload_n C dX6_pairs_14 rfl ?_
      refine j_iconst C dX6_pairs_15 ?_
      refine j_iadd C dX6_pairs_16 ?_
      refine j_istore (lv' := [(0, sr 72), (1, si (bI b)), (2, si (gPp g b u)), (3, si (u : Int)), (4, si ((u : Int) + 1))]) C dX6_pairs_17 (by decide) rfl ?_
      refine j_lv (lv' := [(0, sr 72), (1, si (bI b)), (2, si (gPp g b u + gPc g b u (u + 1))), (3, si (u : Int)), (4, si ((u + 1 : Nat) : Int))]) (by rw [gPc_0 g b u (u + 1) (Nat.le_refl _), Int.add_zero]; rfl) ?_
      refine lpX6_pairs2 C hg ok (by omega) ?_ _ (u + 1) (by omega) (by omega) (Nat.lt_succ_self _)
      refine j_iinc (lv' := [(0, sr 72), (1, si (bI b)), (2, si (gPp g b u + gPc g b u (gN g))), (3, si ((u : Int) + 1)), (4, si ((gN g : Nat) : Int))]) C dX6_pairs_71 rfl (by decide) rfl ?_
      refine j_goto (tgt := 4) C dX6_pairs_74 (by decide) ?_
      have e2 : (gPp g b (u + 1)) = (gPp g b u + gPc g b u (gN g)) := by
        rfl
      refine j_pick (lv' := [(0, sr 72), (1, si (bI b)), (2, si (gPp g b u + gPc g b u (gN g))), (3, si ((u : Int) + 1))]) [0, 1, 2, 3] rfl ?_
      refine j_lv (lv' := [(0, sr 72), (1, si (bI b)), (2, si (gPp g b (u + 1))), (3, si ((u : Int) + 1))]) (by rw [e2]) ?_
      exact ih (u + 1) (by omega) (by omega)
set_option maxHeartbeats 4000000 in
set_option maxRecDepth 100000 in
theorem kX6_pairs {O : OmT} {l : Launch} {V : Mem} {g : Nat → Int} (hg : mdl V g) (ok : okg g) (b : Bool) : MI O l yX6_pairs wsX6_pairs rX6_pairs [sr 72, si (bI b)] V (fun z V2 => V = V2 ∧ z = gPp g b (gN g)) := by
  refine mi_of (cc := cX6_pairs) (nL := 5) (rt := (some .int)) (by decide) rfl rfl (Nat.le_of_ble_eq_true rfl) (fun F hF C hQ => ?_)
  subst hF
  change J O F rX6_pairs 5 V 0 [(0, sr 72), (1, si (bI b))] []
  refine j_iconst C dX6_pairs_0 ?_
  refine j_istore_n (lv' := [(0, sr 72), (1, si (bI b)), (2, si 0)]) C dX6_pairs_1 (by decide) rfl ?_
  refine j_iconst C dX6_pairs_2 ?_
  refine j_istore_n (lv' := [(0, sr 72), (1, si (bI b)), (2, si 0), (3, si 0)]) C dX6_pairs_3 (by decide) rfl ?_
  exact lpX6_pairs C hQ hg ok ⟨rfl, rfl⟩ _ 0 (Nat.zero_le _) (Nat.lt_succ_self _)
def rX6_strays : Room := { frames := 4, cells := 0, slots := 0, locals := 88 }
theorem sgX6_strays : sg yX6_strays wsX6_strays cX6_strays 4 (some .int) rX6_strays 1 := ⟨⟨_, rfl⟩, rfl, rfl, by decide, by decide, by decide +kernel⟩
set_option maxHeartbeats 4000000 in
set_option maxRecDepth 100000 in
theorem lpX6_strays {O : OmT} {F : PhT} {V : Mem} {g : Nat → Int} (C : cx O F RX6 cX6_strays 4 (some .int) wsX6_strays) {post : Int → Mem → Prop} (hQ : qI O F post) (hg : mdl V g) (ok : okg g) {v : Nat} (hv : v < 10) (hpo : post (gXs g v (gN g) : Int) V) : ∀ (fuel : Nat) (w : Nat), (w ≤ gN g) → gN g - w < fuel → J O F rX6_strays 4 V 4 [(0, sr 72), (1, si (v : Int)), (2, si ((gXs g v w : Nat) : Int)), (3, si (w : Int))] [] := by
  intro fuel
  induction fuel with
  | zero => intro w hw hf; exact absurd hf (Nat.not_lt_zero _)
  | succ fuel ih =>
    intro w hw hf
    have n1 := ok.n
    refine j_iload_n C dX6_strays_4 rfl ?_
    refine j_aload_n C dX6_strays_5 rfl ?_
    refine j_get (v := sr 73) C 72 0 (by decide) (en_72 _ _) rfl (by decide) (fun w h => List.mem_cons_of_mem _ (List.mem_append_right _ h)) (List.mem_of_getElem? (i := 1) rfl) dX6_strays_6 rfl ?_
    refine j_iconst C dX6_strays_9 ?_
    refine j_iald C (row_73 O) 0 rfl (by decide) dX6_strays_10 ?_
    refine j_top (hg 0 (by omega)) ?_
    refine j_icmp_ge (tgt := 61) C dX6_strays_11 (by decide) (by omega) (by have := ok.1; omega) (fun q_1 => ?_) (fun q_1 => ?_)
    · refine j_iload_n C dX6_strays_61 rfl ?_
      refine j_iret C hQ dX6_strays_62 ?_
      have e : w = gN g := by omega
      subst e; exact hpo
    · refine j_iload_n C dX6_strays_14 rfl ?_
      refine j_iload_n C dX6_strays_15 rfl ?_
      refine j_iload_n C dX6_strays_16 rfl ?_
      refine j_icmp_eq (tgt := 52) C dX6_strays_17 (by decide) (by omega) (by omega) (fun q_2 => ?_) (fun q_2 => ?_)
      · refine j_iconst C dX6_strays_52 ?_
        refine j_ior C dX6_strays_53 ?_
        refine j_top (bOr_nat (gXs_31 (by omega)) (by decide)) ?_
        refine j_istore_n (lv' := [(0, sr 72), (1, si (v : Int)), (2, si (((gXs g v w) ||| 0 : Nat) : Int)), (3, si (w : Int))]) C dX6_strays_54 (by decide) rfl ?_
        refine j_iinc (lv' := [(0, sr 72), (1, si (v : Int)), (2, si (((gXs g v w) ||| 0 : Nat) : Int)), (3, si ((w : Int) + 1))]) C dX6_strays_55 rfl (by decide) rfl ?_
        refine j_goto (tgt := 4) C dX6_strays_58 (by decide) ?_
        have e2 : ((gXs g v (w + 1) : Nat) : Int) = (((gXs g v w) ||| 0 : Nat) : Int) := by
          rw [gXs_s]
          have ew : (w : Int) = (v : Int) ↔ w = v := Int.ofNat_inj
          rw [ew] at q_2
          simp [gXt, *]
        refine j_lv (lv' := [(0, sr 72), (1, si (v : Int)), (2, si ((gXs g v (w + 1) : Nat) : Int)), (3, si ((w : Int) + 1))]) (by rw [e2]) ?_
        exact ih (w + 1) (by omega) (by omega)
      · refine j_aload_n C dX6_strays_20 rfl ?_
        refine j_iload_n C dX6_strays_21 rfl ?_
        refine j_doI (st := [si ((gXs g v w : Nat) : Int)]) (j_runV C (kX6_isAwake hg ok v rfl (by omega)) gX6_strays_X6_isAwake sgX6_isAwake rfl ⟨by decide, by decide⟩ (by decide) (en_72 _ _) rfl rfl rfl (Nat.le_of_ble_eq_true rfl) dX6_strays_22) (fun z_3 V_4 h_5 => ?_)
        obtain ⟨rfl, rfl⟩ := h_5
        refine j_ifb_eq (tgt := 52) C dX6_strays_25 (by decide) (fun q_6 => ?_) (fun q_6 => ?_)
        · refine j_iconst C dX6_strays_52 ?_
          refine j_ior C dX6_strays_53 ?_
          refine j_top (bOr_nat (gXs_31 (by omega)) (by decide)) ?_
          refine j_istore_n (lv' := [(0, sr 72), (1, si (v : Int)), (2, si (((gXs g v w) ||| 0 : Nat) : Int)), (3, si (w : Int))]) C dX6_strays_54 (by decide) rfl ?_
          refine j_iinc (lv' := [(0, sr 72), (1, si (v : Int)), (2, si (((gXs g v w) ||| 0 : Nat) : Int)), (3, si ((w : Int) + 1))]) C dX6_strays_55 rfl (by decide) rfl ?_
          refine j_goto (tgt := 4) C dX6_strays_58 (by decide) ?_
          have e2 : ((gXs g v (w + 1) : Nat) : Int) = (((gXs g v w) ||| 0 : Nat) : Int) := by
            rw [gXs_s]
            have ew : (w : Int) = (v : Int) ↔ w = v := Int.ofNat_inj
            rw [ew] at q_2
            simp [gXt, *]
          refine j_lv (lv' := [(0, sr 72), (1, si (v : Int)), (2, si ((gXs g v (w + 1) : Nat) : Int)), (3, si ((w : Int) + 1))]) (by rw [e2]) ?_
          exact ih (w + 1) (by omega) (by omega)
        · refine j_aload_n C dX6_strays_28 rfl ?_
          refine j_iload_n C dX6_strays_29 rfl ?_
          refine j_doI (st := [si ((gXs g v w : Nat) : Int)]) (j_runV C (kX6_isAwake hg ok w rfl (by omega)) gX6_strays_X6_isAwake sgX6_isAwake rfl ⟨by decide, by decide⟩ (by decide) (en_72 _ _) rfl rfl rfl (Nat.le_of_ble_eq_true rfl) dX6_strays_30) (fun z_7 V_8 h_9 => ?_)
          obtain ⟨rfl, rfl⟩ := h_9
          refine j_ifb_eq (tgt := 52) C dX6_strays_33 (by decide) (fun q_10 => ?_) (fun q_10 => ?_)
          · refine j_iconst C dX6_strays_52 ?_
            refine j_ior C dX6_strays_53 ?_
            refine j_top (bOr_nat (gXs_31 (by omega)) (by decide)) ?_
            refine j_istore_n (lv' := [(0, sr 72), (1, si (v : Int)), (2, si (((gXs g v w) ||| 0 : Nat) : Int)), (3, si (w : Int))]) C dX6_strays_54 (by decide) rfl ?_
            refine j_iinc (lv' := [(0, sr 72), (1, si (v : Int)), (2, si (((gXs g v w) ||| 0 : Nat) : Int)), (3, si ((w : Int) + 1))]) C dX6_strays_55 rfl (by decide) rfl ?_
            refine j_goto (tgt := 4) C dX6_strays_58 (by decide) ?_
            have e2 : ((gXs g v (w + 1) : Nat) : Int) = (((gXs g v w) ||| 0 : Nat) : Int) := by
              rw [gXs_s]
              have ew : (w : Int) = (v : Int) ↔ w = v := Int.ofNat_inj
              rw [ew] at q_2
              simp [gXt, *]
            refine j_lv (lv' := [(0, sr 72), (1, si (v : Int)), (2, si ((gXs g v (w + 1) : Nat) : Int)), (3, si ((w : Int) + 1))]) (by rw [e2]) ?_
            exact ih (w + 1) (by omega) (by omega)
          · refine j_aload_n C dX6_strays_36 rfl ?_
            refine j_iload_n C dX6_strays_37 rfl ?_
            refine j_iload_n C dX6_strays_38 rfl ?_
            refine j_doI (st := [si ((gXs g v w : Nat) : Int)]) (j_runV C (kX6_nearerOf hg ok v w rfl rfl (by omega) (by omega)) gX6_strays_X6_nearerOf sgX6_nearerOf rfl ⟨by decide, by decide⟩ (by decide) (en_72 _ _) rfl rfl rfl (Nat.le_of_ble_eq_true rfl) dX6_strays_39) (fun z_11 V_12 h_13 => ?_)
            obtain ⟨rfl, rfl⟩ := h_13
            refine j_iconst C dX6_strays_42 ?_
            refine j_icmp_ne (tgt := 52) C dX6_strays_43 (by decide) (by have := gR_rg g v w (gN g); omega) (by decide) (fun q_14 => ?_) (fun q_14 => ?_)
            · refine j_iconst C dX6_strays_52 ?_
              refine j_ior C dX6_strays_53 ?_
              refine j_top (bOr_nat (gXs_31 (by omega)) (by decide)) ?_
              refine j_istore_n (lv' := [(0, sr 72), (1, si (v : Int)), (2, si (((gXs g v w) ||| 0 : Nat) : Int)), (3, si (w : Int))]) C dX6_strays_54 (by decide) rfl ?_
              refine j_iinc (lv' := [(0, sr 72), (1, si (v : Int)), (2, si (((gXs g v w) ||| 0 : Nat) : Int)), (3, si ((w : Int) + 1))]) C dX6_strays_55 rfl (by decide) rfl ?_
              refine j_goto (tgt := 4) C dX6_strays_58 (by decide) ?_
              have e2 : ((gXs g v (w + 1) : Nat) : Int) = (((gXs g v w) ||| 0 : Nat) : Int) := by
                rw [gXs_s]
                have ew : (w : Int) = (v : Int) ↔ w = v := Int.ofNat_inj
                rw [ew] at q_2
                simp [gXt, *]
              refine j_lv (lv' := [(0, sr 72), (1, si (v : Int)), (2, si ((gXs g v (w + 1) : Nat) : Int)), (3, si ((w : Int) + 1))]) (by rw [e2]) ?_
              exact ih (w + 1) (by omega) (by omega)
            · refine j_iconst C dX6_strays_46 ?_
              refine j_iload_n C dX6_strays_47 rfl ?_
              refine j_ishl C dX6_strays_48 ?_
              refine j_top (bShl_1 (by omega)) ?_
              refine j_goto (tgt := 53) C dX6_strays_49 (by decide) ?_
              refine j_ior C dX6_strays_53 ?_
              refine j_top (bOr_nat (gXs_31 (by omega)) (p2_31 (by omega))) ?_
              refine j_istore_n (lv' := [(0, sr 72), (1, si (v : Int)), (2, si (((gXs g v w) ||| (2 ^ w) : Nat) : Int)), (3, si (w : Int))]) C dX6_strays_54 (by decide) rfl ?_
              refine j_iinc (lv' := [(0, sr 72), (1, si (v : Int)), (2, si (((gXs g v w) ||| (2 ^ w) : Nat) : Int)), (3, si ((w : Int) + 1))]) C dX6_strays_55 rfl (by decide) rfl ?_
              refine j_goto (tgt := 4) C dX6_strays_58 (by decide) ?_
              have e2 : ((gXs g v (w + 1) : Nat) : Int) = (((gXs g v w) ||| (2 ^ w) : Nat) : Int) := by
                rw [gXs_s]
                have ew : (w : Int) = (v : Int) ↔ w = v := Int.ofNat_inj
                rw [ew] at q_2
                simp [gXt, *]
              refine j_lv (lv' := [(0, sr 72), (1, si (v : Int)), (2, si ((gXs g v (w + 1) : Nat) : Int)), (3, si ((w : Int) + 1))]) (by rw [e2]) ?_
              exact ih (w + 1) (by omega) (by omega)
set_option maxHeartbeats 4000000 in
set_option maxRecDepth 100000 in
theorem kX6_strays {O : OmT} {l : Launch} {V : Mem} {g : Nat → Int} (hg : mdl V g) (ok : okg g) {zv : Int} (v : Nat) (ev : zv = (v : Int)) (hv : v < 10) : MI O l yX6_strays wsX6_strays rX6_strays [sr 72, si zv] V (fun z V2 => V = V2 ∧ z = (gXs g v (gN g) : Int)) := by
  refine mi_of (cc := cX6_strays) (nL := 4) (rt := (some .int)) (by decide) rfl rfl (Nat.le_of_ble_eq_true rfl) (fun F hF C hQ => ?_)
  subst hF
  subst ev
  change J O F rX6_strays 4 V 0 [(0, sr 72), (1, si (v : Int))] []
  refine j_iconst C dX6_strays_0 ?_
  refine j_istore_n (lv' := [(0, sr 72), (1, si (v : Int)), (2, si 0)]) C dX6_strays_1 (by decide) rfl ?_
  refine j_iconst C dX6_strays_2 ?_
  refine j_istore_n (lv' := [(0, sr 72), (1, si (v : Int)), (2, si 0), (3, si 0)]) C dX6_strays_3 (by decide) rfl ?_
  exact lpX6_strays C hQ hg ok hv ⟨rfl, rfl⟩ _ 0 (Nat.zero_le _) (Nat.lt_succ_self _)
def rX6_nodeAt : Room := { frames := 0, cells := 0, slots := 0, locals := 0 }
theorem sgX6_nodeAt : sg yX6_nodeAt wsX6_nodeAt cX6_nodeAt 4 (some .int) rX6_nodeAt 2 := ⟨⟨_, rfl⟩, rfl, rfl, by decide, by decide, by decide +kernel⟩
set_option maxHeartbeats 4000000 in
set_option maxRecDepth 100000 in
theorem lpX6_nodeAt {O : OmT} {F : PhT} {V : Mem} {g : Nat → Int} (C : cx O F RX6 cX6_nodeAt 4 (some .int) wsX6_nodeAt) {post : Int → Mem → Prop} (hQ : qI O F post) (hg : mdl V g) (ok : okg g) {px py : Int} (hpx : -2147483648 ≤ px ∧ px < 2147483648) (hpy : -2147483648 ≤ py ∧ py < 2147483648) (hpo : post (gW g px py (gN g)) V) : ∀ (fuel : Nat) (w : Nat), (w ≤ gN g) → (gW g px py w = -1) → gN g - w < fuel → J O F rX6_nodeAt 4 V 2 [(0, sr 72), (1, si px), (2, si py), (3, si (w : Int))] [] := by
  intro fuel
  induction fuel with
  | zero => intro w hw hw2 hf; exact absurd hf (Nat.not_lt_zero _)
  | succ fuel ih =>
    intro w hw hw2 hf
    have n1 := ok.n
    refine j_iload_n C dX6_nodeAt_2 rfl ?_
    refine j_aload_n C dX6_nodeAt_3 rfl ?_
    refine j_get (v := sr 73) C 72 0 (by decide) (en_72 _ _) rfl (by decide) (fun w h => List.mem_cons_of_mem _ (List.mem_append_right _ h)) (List.mem_of_getElem? (i := 1) rfl) dX6_nodeAt_4 rfl ?_
    refine j_iconst C dX6_nodeAt_7 ?_
    refine j_iald C (row_73 O) 0 rfl (by decide) dX6_nodeAt_8 ?_
    refine j_top (hg 0 (by omega)) ?_
    refine j_icmp_ge (tgt := 45) C dX6_nodeAt_9 (by decide) (by omega) (by have := ok.1; omega) (fun q_1 => ?_) (fun q_1 => ?_)
    · refine j_iconst C dX6_nodeAt_45 ?_
      refine j_iret C hQ dX6_nodeAt_46 ?_
      first
        | (have e : w = gN g := by omega
           subst e; rw [← hw2]; exact hpo)
        | (have e : gW g px py (gN g) = (w : Int) := gW_at (by omega) hw2 (by simp_all) (by simp_all)
           rw [← e]; exact hpo)
    · refine j_aload_n C dX6_nodeAt_12 rfl ?_
      refine j_get (v := sr 73) C 72 0 (by decide) (en_72 _ _) rfl (by decide) (fun w h => List.mem_cons_of_mem _ (List.mem_append_right _ h)) (List.mem_of_getElem? (i := 1) rfl) dX6_nodeAt_13 rfl ?_
      refine j_iconst C dX6_nodeAt_16 ?_
      refine j_iload_n C dX6_nodeAt_17 rfl ?_
      refine j_iadd C dX6_nodeAt_18 ?_
      refine j_iald C (row_73 O) (4 + w) (by omega) (by omega) dX6_nodeAt_19 ?_
      refine j_top (hg (4 + w) (by omega)) ?_
      refine j_iload_n C dX6_nodeAt_20 rfl ?_
      refine j_icmp_ne (tgt := 39) C dX6_nodeAt_21 (by decide) (by have := ok.x (i := w) (by omega); omega) (by omega) (fun q_2 => ?_) (fun q_2 => ?_)
      · refine j_iinc (lv' := [(0, sr 72), (1, si px), (2, si py), (3, si ((w : Int) + 1))]) C dX6_nodeAt_39 rfl (by decide) rfl ?_
        refine j_goto (tgt := 2) C dX6_nodeAt_42 (by decide) ?_
        exact ih (w + 1) (by omega) (by rw [show gW g px py (w + 1) = if gW g px py w ≠ -1 then gW g px py w else if g (4 + w) = px ∧ g (14 + w) = py then (w : Int) else -1 from rfl, if_neg (by simp [hw2]), if_neg (by simp_all)]) (by omega)
      · refine j_aload_n C dX6_nodeAt_24 rfl ?_
        refine j_get (v := sr 73) C 72 0 (by decide) (en_72 _ _) rfl (by decide) (fun w h => List.mem_cons_of_mem _ (List.mem_append_right _ h)) (List.mem_of_getElem? (i := 1) rfl) dX6_nodeAt_25 rfl ?_
        refine j_bipush C dX6_nodeAt_28 (by decide) ?_
        refine j_iload_n C dX6_nodeAt_30 rfl ?_
        refine j_iadd C dX6_nodeAt_31 ?_
        refine j_iald C (row_73 O) (14 + w) (by omega) (by omega) dX6_nodeAt_32 ?_
        refine j_top (hg (14 + w) (by omega)) ?_
        refine j_iload_n C dX6_nodeAt_33 rfl ?_
        refine j_icmp_ne (tgt := 39) C dX6_nodeAt_34 (by decide) (by have := ok.y (i := w) (by omega); omega) (by omega) (fun q_3 => ?_) (fun q_3 => ?_)
        · refine j_iinc (lv' := [(0, sr 72), (1, si px), (2, si py), (3, si ((w : Int) + 1))]) C dX6_nodeAt_39 rfl (by decide) rfl ?_
          refine j_goto (tgt := 2) C dX6_nodeAt_42 (by decide) ?_
          exact ih (w + 1) (by omega) (by rw [show gW g px py (w + 1) = if gW g px py w ≠ -1 then gW g px py w else if g (4 + w) = px ∧ g (14 + w) = py then (w : Int) else -1 from rfl, if_neg (by simp [hw2]), if_neg (by simp_all)]) (by omega)
        · refine j_iload_n C dX6_nodeAt_37 rfl ?_
          refine j_iret C hQ dX6_nodeAt_38 ?_
          first
            | (have e : w = gN g := by omega
               subst e; rw [← hw2]; exact hpo)
            | (have e : gW g px py (gN g) = (w : Int) := gW_at (by omega) hw2 (by simp_all) (by simp_all)
               rw [← e]; exact hpo)
set_option maxHeartbeats 4000000 in
set_option maxRecDepth 100000 in
theorem kX6_nodeAt {O : OmT} {l : Launch} {V : Mem} {g : Nat → Int} (hg : mdl V g) (ok : okg g) {px py : Int} (hpx : -2147483648 ≤ px ∧ px < 2147483648) (hpy : -2147483648 ≤ py ∧ py < 2147483648) : MI O l yX6_nodeAt wsX6_nodeAt rX6_nodeAt [sr 72, si px, si py] V (fun z V2 => V = V2 ∧ z = gW g px py (gN g)) := by
  refine mi_of (cc := cX6_nodeAt) (nL := 4) (rt := (some .int)) (by decide) rfl rfl (Nat.le_of_ble_eq_true rfl) (fun F hF C hQ => ?_)
  subst hF
  change J O F rX6_nodeAt 4 V 0 [(0, sr 72), (1, si px), (2, si py)] []
  refine j_iconst C dX6_nodeAt_0 ?_
  refine j_istore_n (lv' := [(0, sr 72), (1, si px), (2, si py), (3, si 0)]) C dX6_nodeAt_1 (by decide) rfl ?_
  exact lpX6_nodeAt C hQ hg ok hpx hpy ⟨rfl, rfl⟩ _ 0 (Nat.zero_le _) rfl (Nat.lt_succ_self _)
def rX6_isPlace : Room := { frames := 1, cells := 0, slots := 0, locals := 22 }
theorem sgX6_isPlace : sg yX6_isPlace wsX6_isPlace cX6_isPlace 2 (some .boolean) rX6_isPlace 2 := ⟨⟨_, rfl⟩, rfl, rfl, by decide, by decide, by decide +kernel⟩
set_option maxHeartbeats 4000000 in
set_option maxRecDepth 100000 in
theorem kX6_isPlace {O : OmT} {l : Launch} {V : Mem} (x : Int) (y : Int) (hx : -2147483648 ≤ x ∧ x < 2147483648) (hy : -2147483648 ≤ y ∧ y < 2147483648) : MI O l yX6_isPlace wsX6_isPlace rX6_isPlace [si x, si y] V (fun z V2 => V = V2 ∧ z = bI (gPl x y)) := by
  refine mi_of (cc := cX6_isPlace) (nL := 2) (rt := (some .boolean)) (by decide) rfl rfl (Nat.le_of_ble_eq_true rfl) (fun F hF C hQ => ?_)
  subst hF
  change J O F rX6_isPlace 2 V 0 [(0, si x), (1, si y)] []
  refine j_iload_n C dX6_isPlace_0 rfl ?_
  refine j_iconst C dX6_isPlace_1 ?_
  refine j_bipush C dX6_isPlace_2 (by decide) ?_
  refine j_doI (st := []) (j_runS C (kX6_in x 0 63 (by omega) (by decide) (by decide)) ggX6_isPlace_X6_in sgX6_in (List.mem_of_getElem? (i := 1) rfl) (List.mem_of_getElem? (i := 3) rfl) (List.mem_of_getElem? (i := 2) rfl) ⟨by decide, by decide⟩ rfl rfl (Nat.le_of_ble_eq_true rfl) dX6_isPlace_4) (fun z_1 V_2 h_3 => ?_)
  obtain ⟨rfl, rfl⟩ := h_3
  refine j_ifb_eq (tgt := 24) C dX6_isPlace_7 (by decide) (fun q_4 => ?_) (fun q_4 => ?_)
  · refine j_iconst C dX6_isPlace_24 ?_
    refine j_zret C hQ (by decide) dX6_isPlace_25 ?_
    refine ⟨rfl, ?_⟩
    unfold gPl
    simp_all [bI] <;> omega
  · refine j_iload_n C dX6_isPlace_10 rfl ?_
    refine j_iconst C dX6_isPlace_11 ?_
    refine j_bipush C dX6_isPlace_12 (by decide) ?_
    refine j_doI (st := []) (j_runS C (kX6_in y 0 63 (by omega) (by decide) (by decide)) ggX6_isPlace_X6_in sgX6_in (List.mem_of_getElem? (i := 1) rfl) (List.mem_of_getElem? (i := 3) rfl) (List.mem_of_getElem? (i := 2) rfl) ⟨by decide, by decide⟩ rfl rfl (Nat.le_of_ble_eq_true rfl) dX6_isPlace_14) (fun z_5 V_6 h_7 => ?_)
    obtain ⟨rfl, rfl⟩ := h_7
    refine j_ifb_eq (tgt := 24) C dX6_isPlace_17 (by decide) (fun q_8 => ?_) (fun q_8 => ?_)
    · refine j_iconst C dX6_isPlace_24 ?_
      refine j_zret C hQ (by decide) dX6_isPlace_25 ?_
      refine ⟨rfl, ?_⟩
      unfold gPl
      simp_all [bI] <;> omega
    · refine j_iconst C dX6_isPlace_20 ?_
      refine j_goto (tgt := 25) C dX6_isPlace_21 (by decide) ?_
      refine j_zret C hQ (by decide) dX6_isPlace_25 ?_
      refine ⟨rfl, ?_⟩
      unfold gPl
      simp_all [bI] <;> omega
def rX6_areTwo : Room := { frames := 2, cells := 0, slots := 0, locals := 43 }
theorem sgX6_areTwo : sg yX6_areTwo wsX6_areTwo cX6_areTwo 3 (some .boolean) rX6_areTwo 2 := ⟨⟨_, rfl⟩, rfl, rfl, by decide, by decide, by decide +kernel⟩
set_option maxHeartbeats 4000000 in
set_option maxRecDepth 100000 in
theorem kX6_areTwo {O : OmT} {l : Launch} {V : Mem} {g : Nat → Int} (hg : mdl V g) (ok : okg g) (u : Int) (v : Int) (hu : -2147483648 ≤ u ∧ u < 2147483648) (hv : -2147483648 ≤ v ∧ v < 2147483648) : MI O l yX6_areTwo wsX6_areTwo rX6_areTwo [sr 72, si u, si v] V (fun z V2 => V = V2 ∧ z = bI (aTwo g u v)) := by
  refine mi_of (cc := cX6_areTwo) (nL := 3) (rt := (some .boolean)) (by decide) rfl rfl (Nat.le_of_ble_eq_true rfl) (fun F hF C hQ => ?_)
  subst hF
  change J O F rX6_areTwo 3 V 0 [(0, sr 72), (1, si u), (2, si v)] []
  refine j_aload_n C dX6_areTwo_0 rfl ?_
  refine j_iload_n C dX6_areTwo_1 rfl ?_
  refine j_doI (st := []) (j_runV C (kX6_isNode hg ok u (by omega)) gX6_areTwo_X6_isNode sgX6_isNode rfl ⟨by decide, by decide⟩ (by decide) (en_72 _ _) rfl rfl rfl (Nat.le_of_ble_eq_true rfl) dX6_areTwo_2) (fun z_1 V_2 h_3 => ?_)
  obtain ⟨rfl, rfl⟩ := h_3
  refine j_ifb_eq (tgt := 25) C dX6_areTwo_5 (by decide) (fun q_4 => ?_) (fun q_4 => ?_)
  · refine j_iconst C dX6_areTwo_25 ?_
    refine j_zret C hQ (by decide) dX6_areTwo_26 ?_
    refine ⟨rfl, ?_⟩
    unfold aTwo gI
    simp_all [bI] <;> omega
  · refine j_aload_n C dX6_areTwo_8 rfl ?_
    refine j_iload_n C dX6_areTwo_9 rfl ?_
    refine j_doI (st := []) (j_runV C (kX6_isNode hg ok v (by omega)) gX6_areTwo_X6_isNode sgX6_isNode rfl ⟨by decide, by decide⟩ (by decide) (en_72 _ _) rfl rfl rfl (Nat.le_of_ble_eq_true rfl) dX6_areTwo_10) (fun z_5 V_6 h_7 => ?_)
    obtain ⟨rfl, rfl⟩ := h_7
    refine j_ifb_eq (tgt := 25) C dX6_areTwo_13 (by decide) (fun q_8 => ?_) (fun q_8 => ?_)
    · refine j_iconst C dX6_areTwo_25 ?_
      refine j_zret C hQ (by decide) dX6_areTwo_26 ?_
      refine ⟨rfl, ?_⟩
      unfold aTwo gI
      simp_all [bI] <;> omega
    · refine j_iload_n C dX6_areTwo_16 rfl ?_
      refine j_iload_n C dX6_areTwo_17 rfl ?_
      refine j_icmp_eq (tgt := 25) C dX6_areTwo_18 (by decide) (by omega) (by omega) (fun q_9 => ?_) (fun q_9 => ?_)
      · refine j_iconst C dX6_areTwo_25 ?_
        refine j_zret C hQ (by decide) dX6_areTwo_26 ?_
        refine ⟨rfl, ?_⟩
        unfold aTwo gI
        simp_all [bI] <;> omega
      · refine j_iconst C dX6_areTwo_21 ?_
        refine j_goto (tgt := 26) C dX6_areTwo_22 (by decide) ?_
        refine j_zret C hQ (by decide) dX6_areTwo_26 ?_
        refine ⟨rfl, ?_⟩
        unfold aTwo gI
        simp_all [bI] <;> omega
def rX6_far : Room := { frames := 2, cells := 0, slots := 0, locals := 43 }
theorem sgX6_far : sg yX6_far wsX6_far cX6_far 3 (some .int) rX6_far 2 := ⟨⟨_, rfl⟩, rfl, rfl, by decide, by decide, by decide +kernel⟩
set_option maxHeartbeats 4000000 in
set_option maxRecDepth 100000 in
theorem kX6_far {O : OmT} {l : Launch} {V : Mem} {g : Nat → Int} (hg : mdl V g) (ok : okg g) (u : Int) (v : Int) (hu : -2147483648 ≤ u ∧ u < 2147483648) (hv : -2147483648 ≤ v ∧ v < 2147483648) : MI O l yX6_far wsX6_far rX6_far [sr 72, si u, si v] V (fun z V2 => V = V2 ∧ z = aFar g u v) := by
  refine mi_of (cc := cX6_far) (nL := 3) (rt := (some .int)) (by decide) rfl rfl (Nat.le_of_ble_eq_true rfl) (fun F hF C hQ => ?_)
  subst hF
  change J O F rX6_far 3 V 0 [(0, sr 72), (1, si u), (2, si v)] []
  refine j_aload_n C dX6_far_0 rfl ?_
  refine j_iload_n C dX6_far_1 rfl ?_
  refine j_doI (st := []) (j_runV C (kX6_isNode hg ok u (by omega)) gX6_far_X6_isNode sgX6_isNode rfl ⟨by decide, by decide⟩ (by decide) (en_72 _ _) rfl rfl rfl (Nat.le_of_ble_eq_true rfl) dX6_far_2) (fun z_1 V_2 h_3 => ?_)
  obtain ⟨rfl, rfl⟩ := h_3
  refine j_ifb_eq (tgt := 25) C dX6_far_5 (by decide) (fun q_4 => ?_) (fun q_4 => ?_)
  · refine j_ldc (n := -1000000001) C (List.mem_of_getElem? (i := 1) rfl) (by decide) dX6_far_25 ?_
    refine j_iret C hQ dX6_far_27 ?_
    refine ⟨rfl, ?_⟩
    unfold aFar gI
    simp_all
    try (intros; omega)
  · refine j_aload_n C dX6_far_8 rfl ?_
    refine j_iload_n C dX6_far_9 rfl ?_
    refine j_doI (st := []) (j_runV C (kX6_isNode hg ok v (by omega)) gX6_far_X6_isNode sgX6_isNode rfl ⟨by decide, by decide⟩ (by decide) (en_72 _ _) rfl rfl rfl (Nat.le_of_ble_eq_true rfl) dX6_far_10) (fun z_5 V_6 h_7 => ?_)
    obtain ⟨rfl, rfl⟩ := h_7
    refine j_ifb_eq (tgt := 25) C dX6_far_13 (by decide) (fun q_8 => ?_) (fun q_8 => ?_)
    · refine j_ldc (n := -1000000001) C (List.mem_of_getElem? (i := 1) rfl) (by decide) dX6_far_25 ?_
      refine j_iret C hQ dX6_far_27 ?_
      refine ⟨rfl, ?_⟩
      unfold aFar gI
      simp_all
      try (intros; omega)
    · refine j_aload_n C dX6_far_16 rfl ?_
      refine j_iload_n C dX6_far_17 rfl ?_
      refine j_iload_n C dX6_far_18 rfl ?_
      refine j_doI (st := []) (j_runV C (kX6_farOf hg u.toNat v.toNat (by have := ok.n; simp only [aTwo, gI, Bool.and_eq_true, decide_eq_true_eq] at *; omega) (by have := ok.n; simp only [aTwo, gI, Bool.and_eq_true, decide_eq_true_eq] at *; omega) (by have := ok.n; simp only [aTwo, gI, Bool.and_eq_true, decide_eq_true_eq] at *; omega) (by have := ok.n; simp only [aTwo, gI, Bool.and_eq_true, decide_eq_true_eq] at *; omega)) gX6_far_X6_farOf sgX6_farOf rfl ⟨by decide, by decide⟩ (by decide) (en_72 _ _) rfl rfl rfl (Nat.le_of_ble_eq_true rfl) dX6_far_19) (fun z_9 V_10 h_11 => ?_)
      obtain ⟨rfl, rfl⟩ := h_11
      refine j_goto (tgt := 27) C dX6_far_22 (by decide) ?_
      refine j_iret C hQ dX6_far_27 ?_
      refine ⟨rfl, ?_⟩
      unfold aFar gI
      simp_all
      try (intros; omega)
def rX6_turning : Room := { frames := 6, cells := 0, slots := 0, locals := 139 }
theorem sgX6_turning : sg yX6_turning wsX6_turning cX6_turning 3 (some .int) rX6_turning 2 := ⟨⟨_, rfl⟩, rfl, rfl, by decide, by decide, by decide +kernel⟩
set_option maxHeartbeats 4000000 in
set_option maxRecDepth 100000 in
theorem kX6_turning {O : OmT} {l : Launch} {V : Mem} {g : Nat → Int} (hg : mdl V g) (ok : okg g) (u : Int) (v : Int) (hu : -2147483648 ≤ u ∧ u < 2147483648) (hv : -2147483648 ≤ v ∧ v < 2147483648) : MI O l yX6_turning wsX6_turning rX6_turning [sr 72, si u, si v] V (fun z V2 => V = V2 ∧ z = aTurn g u v) := by
  refine mi_of (cc := cX6_turning) (nL := 3) (rt := (some .int)) (by decide) rfl rfl (Nat.le_of_ble_eq_true rfl) (fun F hF C hQ => ?_)
  subst hF
  change J O F rX6_turning 3 V 0 [(0, sr 72), (1, si u), (2, si v)] []
  refine j_aload_n C dX6_turning_0 rfl ?_
  refine j_iload_n C dX6_turning_1 rfl ?_
  refine j_iload_n C dX6_turning_2 rfl ?_
  refine j_doI (st := []) (j_runV C (kX6_areTwo hg ok u v (by omega) (by omega)) gX6_turning_X6_areTwo sgX6_areTwo rfl ⟨by decide, by decide⟩ (by decide) (en_72 _ _) rfl rfl rfl (Nat.le_of_ble_eq_true rfl) dX6_turning_3) (fun z_1 V_2 h_3 => ?_)
  obtain ⟨rfl, rfl⟩ := h_3
  refine j_ifb_eq (tgt := 18) C dX6_turning_6 (by decide) (fun q_4 => ?_) (fun q_4 => ?_)
  · refine j_ldc (n := -1000000001) C (List.mem_of_getElem? (i := 1) rfl) (by decide) dX6_turning_18 ?_
    refine j_iret C hQ dX6_turning_20 ?_
    refine ⟨rfl, ?_⟩
    unfold aTurn
    simp_all
  · refine j_aload_n C dX6_turning_9 rfl ?_
    refine j_iload_n C dX6_turning_10 rfl ?_
    refine j_iload_n C dX6_turning_11 rfl ?_
    refine j_doI (st := []) (j_runV C (kX6_turned hg ok u.toNat v.toNat (by have := ok.n; simp only [aTwo, gI, Bool.and_eq_true, decide_eq_true_eq] at *; omega) (by have := ok.n; simp only [aTwo, gI, Bool.and_eq_true, decide_eq_true_eq] at *; omega) (by have := ok.n; simp only [aTwo, gI, Bool.and_eq_true, decide_eq_true_eq] at *; omega) (by have := ok.n; simp only [aTwo, gI, Bool.and_eq_true, decide_eq_true_eq] at *; omega)) gX6_turning_X6_turned sgX6_turned rfl ⟨by decide, by decide⟩ (by decide) (en_72 _ _) rfl rfl rfl (Nat.le_of_ble_eq_true rfl) dX6_turning_12) (fun z_5 V_6 h_7 => ?_)
    obtain ⟨rfl, rfl⟩ := h_7
    refine j_goto (tgt := 20) C dX6_turning_15 (by decide) ?_
    refine j_iret C hQ dX6_turning_20 ?_
    refine ⟨rfl, ?_⟩
    unfold aTurn
    simp_all
