def rX3_countFaces : Room := { frames := 4, cells := 0, slots := 0, locals := 101 }
theorem sgX3_countFaces : sg yX3_countFaces wsX3_countFaces cX3_countFaces 4 (some .int) rX3_countFaces 0 := ⟨⟨_, rfl⟩, rfl, rfl, by decide, by decide, by decide +kernel⟩
set_option maxHeartbeats 4000000 in
set_option maxRecDepth 100000 in
theorem lpX3_countFaces2 {O : OmT} {F : PhT} {V : Mem} {g : Nat → Int} (C : cx O F RX3 cX3_countFaces 4 (some .int) wsX3_countFaces) (hn : net V g) (ok : okg g) {u : Nat} (hu : u < gN g) (kx : J O F rX3_countFaces 4 (rwS V 7 (fcI g false u (fcO g false u) (gN g)).2) 74 [(0, sr 4), (1, si ((fcI g false u (fcO g false u) (gN g)).1)), (2, si (u : Int)), (3, si ((gN g : Nat) : Int))] []) : ∀ (fuel : Nat) (v : Nat), (v ≤ gN g) → gN g - v < fuel → J O F rX3_countFaces 4 (rwS V 7 (fcI g false u (fcO g false u) v).2) 25 [(0, sr 4), (1, si ((fcI g false u (fcO g false u) v).1)), (2, si (u : Int)), (3, si (v : Int))] [] := by
  intro fuel
  induction fuel with
  | zero => intro v hw hf; exact absurd hf (Nat.not_lt_zero _)
  | succ fuel ih =>
    intro v hw hf
    have n1 := ok.n
    have oo := fcO_ok ok false u
    have io := fcI_ok ok (b := false) (u := u) oo.1 ⟨oo.2.1, oo.2.2⟩ v
    refine j_iload_n C dX3_countFaces_25 rfl ?_
    refine j_aload_n C dX3_countFaces_26 rfl ?_
    refine j_get (v := sr 1) C 4 0 (by decide) (en_4 _ _) rfl (by decide) (fun w h => List.mem_cons_of_mem _ (List.mem_append_left _ (List.mem_append_right _ h))) (List.mem_of_getElem? (i := 2) rfl) dX3_countFaces_27 rfl ?_
    refine j_getN (v := si ((rwS V 7 (fcI g false u (fcO g false u) v).2) 1 2)) C 1 2 (by decide) (en_G (c := 1) (by decide) _) rfl (by decide) (fun w h => List.mem_cons_of_mem _ (List.mem_append_right _ h)) (List.mem_of_getElem? (i := 6) rfl) dX3_countFaces_30 rfl ?_
    refine j_top (cls_eq (V2 := (rwS V 7 (fcI g false u (fcO g false u) v).2)) hn.1 rfl rfl rfl).1 ?_
    refine j_icmp_ge (tgt := 74) C dX3_countFaces_33 (by decide) (by omega) (by have := ok.1; omega) (fun q_1 => ?_) (fun q_1 => ?_)
    · have e : v = gN g := by omega
      rw [e]
      exact kx
    · refine j_aload_n C dX3_countFaces_36 rfl ?_
      refine j_get (v := sr 6) C 4 2 (by decide) (en_4 _ _) rfl (by decide) (fun w h => List.mem_cons_of_mem _ (List.mem_append_left _ (List.mem_append_right _ h))) (List.mem_of_getElem? (i := 3) rfl) dX3_countFaces_37 rfl ?_
      refine j_iload_n C dX3_countFaces_40 rfl ?_
      refine j_iald C (row_6 O) u rfl (by omega) dX3_countFaces_41 ?_
      refine j_top ((net_eq (V2 := (rwS V 7 (fcI g false u (fcO g false u) v).2)) hn rfl rfl rfl rfl rfl).2.2 u (by omega)) ?_
      refine j_aload_n C dX3_countFaces_42 rfl ?_
      refine j_get (v := sr 7) C 4 3 (by decide) (en_4 _ _) rfl (by decide) (fun w h => List.mem_cons_of_mem _ (List.mem_append_left _ (List.mem_append_right _ h))) (List.mem_of_getElem? (i := 1) rfl) dX3_countFaces_43 rfl ?_
      refine j_iload_n C dX3_countFaces_46 rfl ?_
      refine j_iald C (row_7 O) u rfl (by omega) dX3_countFaces_47 ?_
      refine j_top (b := (((fcI g false u (fcO g false u) v).2 u : Nat) : Int)) (rwS_at (by omega)) ?_
      refine j_iconst C dX3_countFaces_48 ?_
      refine j_ixor C dX3_countFaces_49 ?_
      refine j_iand C dX3_countFaces_50 ?_
      refine j_top (adn_and (gTs_31 ok u) (io.1 u (by omega))) ?_
      refine j_iload_n C dX3_countFaces_51 rfl ?_
      refine j_doI (st := []) (j_runSN C (kX5_holds (adn (gTs g u (gN g)) ((fcI g false u (fcO g false u) v).2 u)) v rfl rfl (by have := adn_lt (h := (fcI g false u (fcO g false u) v).2 u) (gTs_31 ok u); omega) (by omega)) ggX3_countFaces_X5_holds sgX5_holds (List.mem_of_getElem? (i := 8) rfl) (List.mem_of_getElem? (i := 9) rfl) (List.mem_of_getElem? (i := 8) rfl) ⟨by decide, by decide⟩ rfl rfl (Nat.le_of_ble_eq_true rfl) dX3_countFaces_52) (fun z_2 V_3 h_4 => ?_)
      obtain ⟨rfl, rfl⟩ := h_4
      refine j_top (b := bI (gT g u v && !((fcI g false u (fcO g false u) v).2 u).testBit v)) (by rw [adn_bit (by omega), gTs_bit, decide_eq_true (show v < gN g by omega), Bool.true_and]) ?_
      refine j_ifb_eq (tgt := 68) C dX3_countFaces_55 (by decide) (fun q_5 => ?_) (fun q_5 => ?_)
      · refine j_iinc (lv' := [(0, sr 4), (1, si ((fcI g false u (fcO g false u) v).1)), (2, si (u : Int)), (3, si ((v : Int) + 1))]) C dX3_countFaces_68 rfl (by decide) rfl ?_
        refine j_goto (tgt := 25) C dX3_countFaces_71 (by decide) ?_
        have e1 : ((fcI g false u (fcO g false u) (v + 1)).1) = ((fcI g false u (fcO g false u) v).1) := by
          first
            | (rw [fcI_n ‹_›]; done)
            | (rw [fcI_y ‹_›]; rfl)
        refine j_lv (lv' := [(0, sr 4), (1, si ((fcI g false u (fcO g false u) (v + 1)).1)), (2, si (u : Int)), (3, si ((v : Int) + 1))]) (by rw [e1]) ?_
        refine j_mem (V2 := (rwS V 7 (fcI g false u (fcO g false u) (v + 1)).2)) (by first | (rw [fcI_n ‹_›]; done) | (rw [fcI_y ‹_›]; done)) ?_
        exact ih (v + 1) (by omega) (by omega)
      · refine j_iinc (lv' := [(0, sr 4), (1, si (((fcI g false u (fcO g false u) v).1) + 1)), (2, si (u : Int)), (3, si (v : Int))]) C dX3_countFaces_58 rfl (by decide) rfl ?_
        refine j_aload_n C dX3_countFaces_61 rfl ?_
        refine j_iload_n C dX3_countFaces_62 rfl ?_
        refine j_iload_n C dX3_countFaces_63 rfl ?_
        refine j_doI (st := []) (j_runV C (kX3_faceLength (net_eq (V2 := (rwS V 7 (fcI g false u (fcO g false u) v).2)) hn rfl rfl rfl rfl rfl) ok u v rfl rfl (f0 := (fcI g false u (fcO g false u) v).2) (by simp at q_5; exact q_5.1) (fun a ha => ⟨rwS_at ha, io.1 a ha⟩)) gX3_countFaces_X3_faceLength sgX3_faceLength rfl ⟨by decide, by decide⟩ (by decide) (en_4 _ _) rfl rfl rfl (Nat.le_of_ble_eq_true rfl) dX3_countFaces_64) (fun z_6 V_7 h_8 => ?_)
        obtain ⟨rfl, rfl⟩ := h_8
        refine j_mem (V2 := (rwS V 7 (mkF g (u, v) (fcI g false u (fcO g false u) v).2 (gFl g u v)))) (rwS_rwS _ _ _ _) ?_
        refine j_pop C dX3_countFaces_67 rfl ?_
        refine j_iinc (lv' := [(0, sr 4), (1, si (((fcI g false u (fcO g false u) v).1) + 1)), (2, si (u : Int)), (3, si ((v : Int) + 1))]) C dX3_countFaces_68 rfl (by decide) rfl ?_
        refine j_goto (tgt := 25) C dX3_countFaces_71 (by decide) ?_
        have e1 : ((fcI g false u (fcO g false u) (v + 1)).1) = (((fcI g false u (fcO g false u) v).1) + 1) := by
          first
            | (rw [fcI_n ‹_›]; done)
            | (rw [fcI_y ‹_›]; rfl)
        refine j_lv (lv' := [(0, sr 4), (1, si ((fcI g false u (fcO g false u) (v + 1)).1)), (2, si (u : Int)), (3, si ((v : Int) + 1))]) (by rw [e1]) ?_
        refine j_mem (V2 := (rwS V 7 (fcI g false u (fcO g false u) (v + 1)).2)) (by first | (rw [fcI_n ‹_›]; done) | (rw [fcI_y ‹_›]; done)) ?_
        exact ih (v + 1) (by omega) (by omega)
set_option maxHeartbeats 4000000 in
set_option maxRecDepth 100000 in
theorem lpX3_countFaces {O : OmT} {F : PhT} {V : Mem} {g : Nat → Int} (C : cx O F RX3 cX3_countFaces 4 (some .int) wsX3_countFaces) {post : Int → Mem → Prop} (hQ : qI O F post) (hn : net V g) (ok : okg g) (hpo : post (fcO g false (gN g)).1 (rwS V 7 (fcO g false (gN g)).2)) : ∀ (fuel : Nat) (u : Nat), (u ≤ gN g) → gN g - u < fuel → J O F rX3_countFaces 4 (rwS V 7 (fcO g false u).2) 12 [(0, sr 4), (1, si ((fcO g false u).1)), (2, si (u : Int))] [] := by
  intro fuel
  induction fuel with
  | zero => intro u hw hf; exact absurd hf (Nat.not_lt_zero _)
  | succ fuel ih =>
    intro u hw hf
    have n1 := ok.n
    refine j_iload_n C dX3_countFaces_12 rfl ?_
    refine j_aload_n C dX3_countFaces_13 rfl ?_
    refine j_get (v := sr 1) C 4 0 (by decide) (en_4 _ _) rfl (by decide) (fun w h => List.mem_cons_of_mem _ (List.mem_append_left _ (List.mem_append_right _ h))) (List.mem_of_getElem? (i := 2) rfl) dX3_countFaces_14 rfl ?_
    refine j_getN (v := si ((rwS V 7 (fcO g false u).2) 1 2)) C 1 2 (by decide) (en_G (c := 1) (by decide) _) rfl (by decide) (fun w h => List.mem_cons_of_mem _ (List.mem_append_right _ h)) (List.mem_of_getElem? (i := 6) rfl) dX3_countFaces_17 rfl ?_
    refine j_top (cls_eq (V2 := (rwS V 7 (fcO g false u).2)) hn.1 rfl rfl rfl).1 ?_
    refine j_icmp_ge (tgt := 80) C dX3_countFaces_20 (by decide) (by omega) (by have := ok.1; omega) (fun q_1 => ?_) (fun q_1 => ?_)
    · refine j_iload_n C dX3_countFaces_80 rfl ?_
      refine j_iret C hQ dX3_countFaces_81 ?_
      have e : u = gN g := by omega
      subst e; exact hpo
    · refine j_iconst C dX3_countFaces_23 ?_
      refine j_istore_n (lv' := [(0, sr 4), (1, si ((fcO g false u).1)), (2, si (u : Int)), (3, si 0)]) C dX3_countFaces_24 (by decide) rfl ?_
      refine j_mem (V2 := (rwS V 7 (fcI g false u (fcO g false u) 0).2)) rfl ?_
      refine lpX3_countFaces2 C hn ok (by omega) ?_ _ 0 (Nat.zero_le _) (Nat.lt_succ_self _)
      refine j_iinc (lv' := [(0, sr 4), (1, si ((fcI g false u (fcO g false u) (gN g)).1)), (2, si ((u : Int) + 1)), (3, si ((gN g : Nat) : Int))]) C dX3_countFaces_74 rfl (by decide) rfl ?_
      refine j_goto (tgt := 12) C dX3_countFaces_77 (by decide) ?_
      have e1 : ((fcO g false (u + 1)).1) = ((fcI g false u (fcO g false u) (gN g)).1) := by
        rfl
      refine j_pick (lv' := [(0, sr 4), (1, si ((fcI g false u (fcO g false u) (gN g)).1)), (2, si ((u : Int) + 1))]) [0, 1, 2] rfl ?_
      refine j_lv (lv' := [(0, sr 4), (1, si ((fcO g false (u + 1)).1)), (2, si ((u : Int) + 1))]) (by rw [e1]) ?_
      refine j_mem (V2 := (rwS V 7 (fcO g false (u + 1)).2)) rfl ?_
      exact ih (u + 1) (by omega) (by omega)
set_option maxHeartbeats 4000000 in
set_option maxRecDepth 100000 in
theorem kX3_countFaces {O : OmT} {l : Launch} {V : Mem} {g : Nat → Int} (hn : net V g) (ok : okg g) : MI O l yX3_countFaces wsX3_countFaces rX3_countFaces [sr 4] V (fun z V2 => V2 = rwS V 7 (fcO g false (gN g)).2 ∧ z = (fcO g false (gN g)).1) := by
  refine mi_of (cc := cX3_countFaces) (nL := 4) (rt := (some .int)) (by decide) rfl rfl (Nat.le_of_ble_eq_true rfl) (fun F hF C hQ => ?_)
  subst hF
  change J O F rX3_countFaces 4 V 0 [(0, sr 4)] []
  refine j_iconst C dX3_countFaces_0 ?_
  refine j_istore_n (lv' := [(0, sr 4), (1, si 0)]) C dX3_countFaces_1 (by decide) rfl ?_
  refine j_aload_n C dX3_countFaces_2 rfl ?_
  refine j_get (v := sr 7) C 4 3 (by decide) (en_4 _ _) rfl (by decide) (fun w h => List.mem_cons_of_mem _ (List.mem_append_left _ (List.mem_append_right _ h))) (List.mem_of_getElem? (i := 1) rfl) dX3_countFaces_3 rfl ?_
  refine j_iconst C dX3_countFaces_6 ?_
  refine j_doV (st := []) (j_runS C (kJ7_fill_53178 (row_7 O)) ggX3_countFaces_J7_fill_53178 sgJ7_fill_53178 (List.mem_of_getElem? (i := 4) rfl) (List.mem_of_getElem? (i := 6) rfl) (List.mem_of_getElem? (i := 5) rfl) ⟨by decide, by decide⟩ rfl rfl (Nat.le_of_ble_eq_true rfl) dX3_countFaces_7) (fun V_2 h_3 => ?_)
  subst h_3
  refine j_iconst C dX3_countFaces_10 ?_
  refine j_istore_n (lv' := [(0, sr 4), (1, si 0), (2, si 0)]) C dX3_countFaces_11 (by decide) rfl ?_
  refine j_mem (V2 := (rwS V 7 (fcO g false 0).2)) (cpm_7 V g false) ?_
  exact lpX3_countFaces C hQ hn ok ⟨rfl, rfl⟩ _ 0 (Nat.zero_le _) (Nat.lt_succ_self _)
def rX3_greatestFace : Room := { frames := 4, cells := 0, slots := 0, locals := 101 }
theorem sgX3_greatestFace : sg yX3_greatestFace wsX3_greatestFace cX3_greatestFace 4 (some .int) rX3_greatestFace 0 := ⟨⟨_, rfl⟩, rfl, rfl, by decide, by decide, by decide +kernel⟩
set_option maxHeartbeats 4000000 in
set_option maxRecDepth 100000 in
theorem lpX3_greatestFace2 {O : OmT} {F : PhT} {V : Mem} {g : Nat → Int} (C : cx O F RX3 cX3_greatestFace 4 (some .int) wsX3_greatestFace) (hn : net V g) (ok : okg g) {u : Nat} (hu : u < gN g) (kx : J O F rX3_greatestFace 4 (rwS V 7 (fcI g true u (fcO g true u) (gN g)).2) 75 [(0, sr 4), (1, si ((fcI g true u (fcO g true u) (gN g)).1)), (2, si (u : Int)), (3, si ((gN g : Nat) : Int))] []) : ∀ (fuel : Nat) (v : Nat), (v ≤ gN g) → gN g - v < fuel → J O F rX3_greatestFace 4 (rwS V 7 (fcI g true u (fcO g true u) v).2) 25 [(0, sr 4), (1, si ((fcI g true u (fcO g true u) v).1)), (2, si (u : Int)), (3, si (v : Int))] [] := by
  intro fuel
  induction fuel with
  | zero => intro v hw hf; exact absurd hf (Nat.not_lt_zero _)
  | succ fuel ih =>
    intro v hw hf
    have n1 := ok.n
    have oo := fcO_ok ok true u
    have io := fcI_ok ok (b := true) (u := u) oo.1 ⟨oo.2.1, oo.2.2⟩ v
    refine j_iload_n C dX3_greatestFace_25 rfl ?_
    refine j_aload_n C dX3_greatestFace_26 rfl ?_
    refine j_get (v := sr 1) C 4 0 (by decide) (en_4 _ _) rfl (by decide) (fun w h => List.mem_cons_of_mem _ (List.mem_append_left _ (List.mem_append_right _ h))) (List.mem_of_getElem? (i := 2) rfl) dX3_greatestFace_27 rfl ?_
    refine j_getN (v := si ((rwS V 7 (fcI g true u (fcO g true u) v).2) 1 2)) C 1 2 (by decide) (en_G (c := 1) (by decide) _) rfl (by decide) (fun w h => List.mem_cons_of_mem _ (List.mem_append_right _ h)) (List.mem_of_getElem? (i := 6) rfl) dX3_greatestFace_30 rfl ?_
    refine j_top (cls_eq (V2 := (rwS V 7 (fcI g true u (fcO g true u) v).2)) hn.1 rfl rfl rfl).1 ?_
    refine j_icmp_ge (tgt := 75) C dX3_greatestFace_33 (by decide) (by omega) (by have := ok.1; omega) (fun q_1 => ?_) (fun q_1 => ?_)
    · have e : v = gN g := by omega
      rw [e]
      exact kx
    · refine j_aload_n C dX3_greatestFace_36 rfl ?_
      refine j_get (v := sr 6) C 4 2 (by decide) (en_4 _ _) rfl (by decide) (fun w h => List.mem_cons_of_mem _ (List.mem_append_left _ (List.mem_append_right _ h))) (List.mem_of_getElem? (i := 3) rfl) dX3_greatestFace_37 rfl ?_
      refine j_iload_n C dX3_greatestFace_40 rfl ?_
      refine j_iald C (row_6 O) u rfl (by omega) dX3_greatestFace_41 ?_
      refine j_top ((net_eq (V2 := (rwS V 7 (fcI g true u (fcO g true u) v).2)) hn rfl rfl rfl rfl rfl).2.2 u (by omega)) ?_
      refine j_aload_n C dX3_greatestFace_42 rfl ?_
      refine j_get (v := sr 7) C 4 3 (by decide) (en_4 _ _) rfl (by decide) (fun w h => List.mem_cons_of_mem _ (List.mem_append_left _ (List.mem_append_right _ h))) (List.mem_of_getElem? (i := 1) rfl) dX3_greatestFace_43 rfl ?_
      refine j_iload_n C dX3_greatestFace_46 rfl ?_
      refine j_iald C (row_7 O) u rfl (by omega) dX3_greatestFace_47 ?_
      refine j_top (b := (((fcI g true u (fcO g true u) v).2 u : Nat) : Int)) (rwS_at (by omega)) ?_
      refine j_iconst C dX3_greatestFace_48 ?_
      refine j_ixor C dX3_greatestFace_49 ?_
      refine j_iand C dX3_greatestFace_50 ?_
      refine j_top (adn_and (gTs_31 ok u) (io.1 u (by omega))) ?_
      refine j_iload_n C dX3_greatestFace_51 rfl ?_
      refine j_doI (st := []) (j_runSN C (kX5_holds (adn (gTs g u (gN g)) ((fcI g true u (fcO g true u) v).2 u)) v rfl rfl (by have := adn_lt (h := (fcI g true u (fcO g true u) v).2 u) (gTs_31 ok u); omega) (by omega)) ggX3_greatestFace_X5_holds sgX5_holds (List.mem_of_getElem? (i := 8) rfl) (List.mem_of_getElem? (i := 13) rfl) (List.mem_of_getElem? (i := 12) rfl) ⟨by decide, by decide⟩ rfl rfl (Nat.le_of_ble_eq_true rfl) dX3_greatestFace_52) (fun z_2 V_3 h_4 => ?_)
      obtain ⟨rfl, rfl⟩ := h_4
      refine j_top (b := bI (gT g u v && !((fcI g true u (fcO g true u) v).2 u).testBit v)) (by rw [adn_bit (by omega), gTs_bit, decide_eq_true (show v < gN g by omega), Bool.true_and]) ?_
      refine j_ifb_eq (tgt := 69) C dX3_greatestFace_55 (by decide) (fun q_5 => ?_) (fun q_5 => ?_)
      · refine j_iinc (lv' := [(0, sr 4), (1, si ((fcI g true u (fcO g true u) v).1)), (2, si (u : Int)), (3, si ((v : Int) + 1))]) C dX3_greatestFace_69 rfl (by decide) rfl ?_
        refine j_goto (tgt := 25) C dX3_greatestFace_72 (by decide) ?_
        have e1 : ((fcI g true u (fcO g true u) (v + 1)).1) = ((fcI g true u (fcO g true u) v).1) := by
          first
            | (rw [fcI_n ‹_›]; done)
            | (rw [fcI_y ‹_›]; rfl)
        refine j_lv (lv' := [(0, sr 4), (1, si ((fcI g true u (fcO g true u) (v + 1)).1)), (2, si (u : Int)), (3, si ((v : Int) + 1))]) (by rw [e1]) ?_
        refine j_mem (V2 := (rwS V 7 (fcI g true u (fcO g true u) (v + 1)).2)) (by first | (rw [fcI_n ‹_›]; done) | (rw [fcI_y ‹_›]; done)) ?_
        exact ih (v + 1) (by omega) (by omega)
      · refine j_iload_n C dX3_greatestFace_58 rfl ?_
        refine j_aload_n C dX3_greatestFace_59 rfl ?_
        refine j_iload_n C dX3_greatestFace_60 rfl ?_
        refine j_iload_n C dX3_greatestFace_61 rfl ?_
        refine j_doI (st := [si ((fcI g true u (fcO g true u) v).1)]) (j_runV C (kX3_faceLength (net_eq (V2 := (rwS V 7 (fcI g true u (fcO g true u) v).2)) hn rfl rfl rfl rfl rfl) ok u v rfl rfl (f0 := (fcI g true u (fcO g true u) v).2) (by simp at q_5; exact q_5.1) (fun a ha => ⟨rwS_at ha, io.1 a ha⟩)) gX3_greatestFace_X3_faceLength sgX3_faceLength rfl ⟨by decide, by decide⟩ (by decide) (en_4 _ _) rfl rfl rfl (Nat.le_of_ble_eq_true rfl) dX3_greatestFace_62) (fun z_6 V_7 h_8 => ?_)
        obtain ⟨rfl, rfl⟩ := h_8
        refine j_mem (V2 := (rwS V 7 (mkF g (u, v) (fcI g true u (fcO g true u) v).2 (gFl g u v)))) (rwS_rwS _ _ _ _) ?_
        refine j_mmax C (List.mem_of_getElem? (i := 4) rfl) (List.mem_of_getElem? (i := 5) rfl) (List.mem_of_getElem? (i := 6) rfl) (List.mem_of_getElem? (i := 7) rfl) ⟨by decide, by decide⟩ (Nat.le_of_ble_eq_true rfl) (by have := oo; have := io.2; omega) (by have := (gFl_spec ok (u := u) (v := v) (by simp at q_5; exact q_5.1)).2.2.1; omega) dX3_greatestFace_65 ?_
        refine j_istore_n (lv' := [(0, sr 4), (1, si (mxZ ((fcI g true u (fcO g true u) v).1) ((gFl g u v : Nat) : Int))), (2, si (u : Int)), (3, si (v : Int))]) C dX3_greatestFace_68 (by decide) rfl ?_
        refine j_iinc (lv' := [(0, sr 4), (1, si (mxZ ((fcI g true u (fcO g true u) v).1) ((gFl g u v : Nat) : Int))), (2, si (u : Int)), (3, si ((v : Int) + 1))]) C dX3_greatestFace_69 rfl (by decide) rfl ?_
        refine j_goto (tgt := 25) C dX3_greatestFace_72 (by decide) ?_
        have e1 : ((fcI g true u (fcO g true u) (v + 1)).1) = (mxZ ((fcI g true u (fcO g true u) v).1) ((gFl g u v : Nat) : Int)) := by
          first
            | (rw [fcI_n ‹_›]; done)
            | (rw [fcI_y ‹_›]; rfl)
        refine j_lv (lv' := [(0, sr 4), (1, si ((fcI g true u (fcO g true u) (v + 1)).1)), (2, si (u : Int)), (3, si ((v : Int) + 1))]) (by rw [e1]) ?_
        refine j_mem (V2 := (rwS V 7 (fcI g true u (fcO g true u) (v + 1)).2)) (by first | (rw [fcI_n ‹_›]; done) | (rw [fcI_y ‹_›]; done)) ?_
        exact ih (v + 1) (by omega) (by omega)
set_option maxHeartbeats 4000000 in
set_option maxRecDepth 100000 in
theorem lpX3_greatestFace {O : OmT} {F : PhT} {V : Mem} {g : Nat → Int} (C : cx O F RX3 cX3_greatestFace 4 (some .int) wsX3_greatestFace) {post : Int → Mem → Prop} (hQ : qI O F post) (hn : net V g) (ok : okg g) (hpo : post (fcO g true (gN g)).1 (rwS V 7 (fcO g true (gN g)).2)) : ∀ (fuel : Nat) (u : Nat), (u ≤ gN g) → gN g - u < fuel → J O F rX3_greatestFace 4 (rwS V 7 (fcO g true u).2) 12 [(0, sr 4), (1, si ((fcO g true u).1)), (2, si (u : Int))] [] := by
  intro fuel
  induction fuel with
  | zero => intro u hw hf; exact absurd hf (Nat.not_lt_zero _)
  | succ fuel ih =>
    intro u hw hf
    have n1 := ok.n
    refine j_iload_n C dX3_greatestFace_12 rfl ?_
    refine j_aload_n C dX3_greatestFace_13 rfl ?_
    refine j_get (v := sr 1) C 4 0 (by decide) (en_4 _ _) rfl (by decide) (fun w h => List.mem_cons_of_mem _ (List.mem_append_left _ (List.mem_append_right _ h))) (List.mem_of_getElem? (i := 2) rfl) dX3_greatestFace_14 rfl ?_
    refine j_getN (v := si ((rwS V 7 (fcO g true u).2) 1 2)) C 1 2 (by decide) (en_G (c := 1) (by decide) _) rfl (by decide) (fun w h => List.mem_cons_of_mem _ (List.mem_append_right _ h)) (List.mem_of_getElem? (i := 6) rfl) dX3_greatestFace_17 rfl ?_
    refine j_top (cls_eq (V2 := (rwS V 7 (fcO g true u).2)) hn.1 rfl rfl rfl).1 ?_
    refine j_icmp_ge (tgt := 81) C dX3_greatestFace_20 (by decide) (by omega) (by have := ok.1; omega) (fun q_1 => ?_) (fun q_1 => ?_)
    · refine j_iload_n C dX3_greatestFace_81 rfl ?_
      refine j_iret C hQ dX3_greatestFace_82 ?_
      have e : u = gN g := by omega
      subst e; exact hpo
    · refine j_iconst C dX3_greatestFace_23 ?_
      refine j_istore_n (lv' := [(0, sr 4), (1, si ((fcO g true u).1)), (2, si (u : Int)), (3, si 0)]) C dX3_greatestFace_24 (by decide) rfl ?_
      refine j_mem (V2 := (rwS V 7 (fcI g true u (fcO g true u) 0).2)) rfl ?_
      refine lpX3_greatestFace2 C hn ok (by omega) ?_ _ 0 (Nat.zero_le _) (Nat.lt_succ_self _)
      refine j_iinc (lv' := [(0, sr 4), (1, si ((fcI g true u (fcO g true u) (gN g)).1)), (2, si ((u : Int) + 1)), (3, si ((gN g : Nat) : Int))]) C dX3_greatestFace_75 rfl (by decide) rfl ?_
      refine j_goto (tgt := 12) C dX3_greatestFace_78 (by decide) ?_
      have e1 : ((fcO g true (u + 1)).1) = ((fcI g true u (fcO g true u) (gN g)).1) := by
        rfl
      refine j_pick (lv' := [(0, sr 4), (1, si ((fcI g true u (fcO g true u) (gN g)).1)), (2, si ((u : Int) + 1))]) [0, 1, 2] rfl ?_
      refine j_lv (lv' := [(0, sr 4), (1, si ((fcO g true (u + 1)).1)), (2, si ((u : Int) + 1))]) (by rw [e1]) ?_
      refine j_mem (V2 := (rwS V 7 (fcO g true (u + 1)).2)) rfl ?_
      exact ih (u + 1) (by omega) (by omega)
set_option maxHeartbeats 4000000 in
set_option maxRecDepth 100000 in
theorem kX3_greatestFace {O : OmT} {l : Launch} {V : Mem} {g : Nat → Int} (hn : net V g) (ok : okg g) : MI O l yX3_greatestFace wsX3_greatestFace rX3_greatestFace [sr 4] V (fun z V2 => V2 = rwS V 7 (fcO g true (gN g)).2 ∧ z = (fcO g true (gN g)).1) := by
  refine mi_of (cc := cX3_greatestFace) (nL := 4) (rt := (some .int)) (by decide) rfl rfl (Nat.le_of_ble_eq_true rfl) (fun F hF C hQ => ?_)
  subst hF
  change J O F rX3_greatestFace 4 V 0 [(0, sr 4)] []
  refine j_iconst C dX3_greatestFace_0 ?_
  refine j_istore_n (lv' := [(0, sr 4), (1, si 0)]) C dX3_greatestFace_1 (by decide) rfl ?_
  refine j_aload_n C dX3_greatestFace_2 rfl ?_
  refine j_get (v := sr 7) C 4 3 (by decide) (en_4 _ _) rfl (by decide) (fun w h => List.mem_cons_of_mem _ (List.mem_append_left _ (List.mem_append_right _ h))) (List.mem_of_getElem? (i := 1) rfl) dX3_greatestFace_3 rfl ?_
  refine j_iconst C dX3_greatestFace_6 ?_
  refine j_doV (st := []) (j_runS C (kJ7_fill_53178 (row_7 O)) ggX3_greatestFace_J7_fill_53178 sgJ7_fill_53178 (List.mem_of_getElem? (i := 8) rfl) (List.mem_of_getElem? (i := 10) rfl) (List.mem_of_getElem? (i := 9) rfl) ⟨by decide, by decide⟩ rfl rfl (Nat.le_of_ble_eq_true rfl) dX3_greatestFace_7) (fun V_2 h_3 => ?_)
  subst h_3
  refine j_iconst C dX3_greatestFace_10 ?_
  refine j_istore_n (lv' := [(0, sr 4), (1, si 0), (2, si 0)]) C dX3_greatestFace_11 (by decide) rfl ?_
  refine j_mem (V2 := (rwS V 7 (fcO g true 0).2)) (cpm_7 V g true) ?_
  exact lpX3_greatestFace C hQ hn ok ⟨rfl, rfl⟩ _ 0 (Nat.zero_le _) (Nat.lt_succ_self _)
