def rX6_stoodSet : Room := { frames := 0, cells := 0, slots := 0, locals := 0 }
theorem sgX6_stoodSet : sg yX6_stoodSet wsX6_stoodSet cX6_stoodSet 3 (some .int) rX6_stoodSet 0 := ⟨⟨_, rfl⟩, rfl, rfl, by decide, by decide, by decide +kernel⟩
set_option maxHeartbeats 4000000 in
set_option maxRecDepth 100000 in
theorem lpX6_stoodSet {O : OmT} {F : PhT} {V : Mem} (C : cx O F RX6 cX6_stoodSet 3 (some .int) wsX6_stoodSet) {post : Int → Mem → Prop} (hQ : qI O F post) {st : Nat} {pa : Nat → Nat} (hst : V 72 13 = (st : Int)) (hs2 : st ≤ 200) (hpa : ∀ k, k ≤ st → V 80 k = (pa k : Int)) (hpn : ∀ k, k ≤ st → pa k < 10) (hpo : post (stS pa st : Int) V) : ∀ (fuel : Nat) (w : Nat), (w ≤ st + 1) → st + 1 - w < fuel → J O F rX6_stoodSet 3 V 4 [(0, sr 72), (1, si ((stO pa w : Nat) : Int)), (2, si (w : Int))] [] := by
  intro fuel
  induction fuel with
  | zero => intro w hw hf; exact absurd hf (Nat.not_lt_zero _)
  | succ fuel ih =>
    intro w hw hf
    refine j_iload_n C dX6_stoodSet_4 rfl ?_
    refine j_aload_n C dX6_stoodSet_5 rfl ?_
    refine j_get (v := si (V 72 13)) C 72 13 (by decide) (en_72 _ _) rfl (by decide) (fun w h => List.mem_cons_of_mem _ (List.mem_append_right _ h)) (List.mem_of_getElem? (i := 1) rfl) dX6_stoodSet_6 rfl ?_
    refine j_top hst ?_
    refine j_icmp_gt (tgt := 29) C dX6_stoodSet_9 (by decide) (by omega) (by omega) (fun q_1 => ?_) (fun q_1 => ?_)
    · refine j_iload_n C dX6_stoodSet_29 rfl ?_
      refine j_iret C hQ dX6_stoodSet_30 ?_
      have e : w = st + 1 := by omega
      subst e; rw [stO_S]; exact hpo
    · refine j_iload_n C dX6_stoodSet_12 rfl ?_
      refine j_iconst C dX6_stoodSet_13 ?_
      refine j_aload_n C dX6_stoodSet_14 rfl ?_
      refine j_get (v := sr 80) C 72 14 (by decide) (en_72 _ _) rfl (by decide) (fun w h => List.mem_cons_of_mem _ (List.mem_append_right _ h)) (List.mem_of_getElem? (i := 2) rfl) dX6_stoodSet_15 rfl ?_
      refine j_iload_n C dX6_stoodSet_18 rfl ?_
      refine j_iald C (row_80 O) w rfl (by omega) dX6_stoodSet_19 ?_
      refine j_top (hpa w (by omega)) ?_
      refine j_ishl C dX6_stoodSet_20 ?_
      refine j_top (bShl_1 (by have := hpn w (by omega); omega)) ?_
      refine j_ior C dX6_stoodSet_21 ?_
      refine j_top (bOr_nat (Nat.lt_trans (stO_lt (fun i hi => hpn i (by omega))) (by decide)) (p2_31 (by have := hpn w (by omega); omega))) ?_
      refine j_istore_n (lv' := [(0, sr 72), (1, si (((stO pa w) ||| (2 ^ (pa w)) : Nat) : Int)), (2, si (w : Int))]) C dX6_stoodSet_22 (by decide) rfl ?_
      refine j_iinc (lv' := [(0, sr 72), (1, si (((stO pa w) ||| (2 ^ (pa w)) : Nat) : Int)), (2, si ((w : Int) + 1))]) C dX6_stoodSet_23 rfl (by decide) rfl ?_
      refine j_goto (tgt := 4) C dX6_stoodSet_26 (by decide) ?_
      have e1 : ((stO pa (w + 1) : Nat) : Int) = (((stO pa w) ||| (2 ^ (pa w)) : Nat) : Int) := by
        rfl
      refine j_lv (lv' := [(0, sr 72), (1, si ((stO pa (w + 1) : Nat) : Int)), (2, si ((w : Int) + 1))]) (by rw [e1]) ?_
      exact ih (w + 1) (by omega) (by omega)
set_option maxHeartbeats 4000000 in
set_option maxRecDepth 100000 in
theorem kX6_stoodSet {O : OmT} {l : Launch} {V : Mem} (st : Nat) (pa : Nat → Nat) (hst : V 72 13 = (st : Int)) (hs2 : st ≤ 200) (hpa : ∀ k, k ≤ st → V 80 k = (pa k : Int)) (hpn : ∀ k, k ≤ st → pa k < 10) : MI O l yX6_stoodSet wsX6_stoodSet rX6_stoodSet [sr 72] V (fun z V2 => V = V2 ∧ z = (stS pa st : Int)) := by
  refine mi_of (cc := cX6_stoodSet) (nL := 3) (rt := (some .int)) (by decide) rfl rfl (Nat.le_of_ble_eq_true rfl) (fun F hF C hQ => ?_)
  subst hF
  change J O F rX6_stoodSet 3 V 0 [(0, sr 72)] []
  refine j_iconst C dX6_stoodSet_0 ?_
  refine j_istore_n (lv' := [(0, sr 72), (1, si 0)]) C dX6_stoodSet_1 (by decide) rfl ?_
  refine j_iconst C dX6_stoodSet_2 ?_
  refine j_istore_n (lv' := [(0, sr 72), (1, si 0), (2, si 0)]) C dX6_stoodSet_3 (by decide) rfl ?_
  exact lpX6_stoodSet C hQ hst hs2 hpa hpn ⟨rfl, rfl⟩ _ 0 (Nat.zero_le _) (Nat.lt_succ_self _)
def rX6_ways : Room := { frames := 7, cells := 0, slots := 0, locals := 169 }
theorem sgX6_ways : sg yX6_ways wsX6_ways cX6_ways 5 (some .int) rX6_ways 1 := ⟨⟨_, rfl⟩, rfl, rfl, by decide, by decide, by decide +kernel⟩
set_option maxHeartbeats 4000000 in
set_option maxRecDepth 100000 in
theorem lpX6_ways2 {O : OmT} {F : PhT} {V : Mem} {g : Nat → Int} (C : cx O F RX6 cX6_ways 5 (some .int) wsX6_ways) (hg : mdl V g) (ok : okg g) {s : Nat} {b : Bool} (hs : s < gN g) (kx : ∀ W : Mem, mFr V W → J O F rX6_ways 5 W 93 [(0, sr 72), (1, si (bI b)), (2, si (gWw g b s + gWr g b s (gN g))), (3, si (s : Int)), (4, si ((gN g : Nat) : Int))] []) : ∀ (fuel t : Nat) (W : Mem), (t ≤ gN g) → mFr V W → gN g - t < fuel → J O F rX6_ways 5 W 17 [(0, sr 72), (1, si (bI b)), (2, si (gWw g b s + gWr g b s t)), (3, si (s : Int)), (4, si (t : Int))] [] := by
  intro fuel
  induction fuel with
  | zero => intro t W hw hW hf; exact absurd hf (Nat.not_lt_zero _)
  | succ fuel ih =>
    intro t W hw hW hf
    have n1 := ok.n
    refine j_iload C dX6_ways_17 rfl ?_
    refine j_aload_n C dX6_ways_19 rfl ?_
    refine j_get (v := sr 73) C 72 0 (by decide) (en_72 _ _) rfl (by decide) (fun w h => List.mem_cons_of_mem _ (List.mem_append_right _ h)) (List.mem_of_getElem? (i := 1) rfl) dX6_ways_20 rfl ?_
    refine j_iconst C dX6_ways_23 ?_
    refine j_iald C (row_73 O) 0 rfl (by decide) dX6_ways_24 ?_
    refine j_top ((mFr_mdl hW hg) 0 (by omega)) ?_
    refine j_icmp_ge (tgt := 93) C dX6_ways_25 (by decide) (by omega) (by have := ok.1; omega) (fun q_1 => ?_) (fun q_1 => ?_)
    · have e : t = gN g := by omega
      rw [e]
      exact kx _ hW
    · refine j_iload_n C dX6_ways_28 rfl ?_
      refine j_iload C dX6_ways_29 rfl ?_
      refine j_icmp_eq (tgt := 87) C dX6_ways_31 (by decide) (by omega) (by omega) (fun q_2 => ?_) (fun q_2 => ?_)
      · refine j_iinc (lv' := [(0, sr 72), (1, si (bI b)), (2, si (gWw g b s + gWr g b s t)), (3, si (s : Int)), (4, si ((t : Int) + 1))]) C dX6_ways_87 rfl (by decide) rfl ?_
        refine j_goto (tgt := 17) C dX6_ways_90 (by decide) ?_
        have e2 : (gWw g b s + gWr g b s (t + 1)) = (gWw g b s + gWr g b s t) := by
          rw [gWr_s]
          have ew : (s : Int) = (t : Int) ↔ s = t := Int.ofNat_inj
          unfold gWq
          simp_all [bI]
          try omega
        refine j_lv (lv' := [(0, sr 72), (1, si (bI b)), (2, si (gWw g b s + gWr g b s (t + 1))), (3, si (s : Int)), (4, si ((t : Int) + 1))]) (by rw [e2]) ?_
        exact ih (t + 1) _ (by omega) hW (by omega)
      · refine j_aload_n C dX6_ways_34 rfl ?_
        refine j_iload_n C dX6_ways_35 rfl ?_
        refine j_doI (st := []) (j_runV C (kX6_isAwake (mFr_mdl hW hg) ok s rfl (by omega)) gX6_ways_X6_isAwake sgX6_isAwake rfl ⟨by decide, by decide⟩ (by decide) (en_72 _ _) rfl rfl rfl (Nat.le_of_ble_eq_true rfl) dX6_ways_36) (fun z_3 V_4 h_5 => ?_)
        obtain ⟨rfl, rfl⟩ := h_5
        refine j_ifb_eq (tgt := 87) C dX6_ways_39 (by decide) (fun q_6 => ?_) (fun q_6 => ?_)
        · refine j_iinc (lv' := [(0, sr 72), (1, si (bI b)), (2, si (gWw g b s + gWr g b s t)), (3, si (s : Int)), (4, si ((t : Int) + 1))]) C dX6_ways_87 rfl (by decide) rfl ?_
          refine j_goto (tgt := 17) C dX6_ways_90 (by decide) ?_
          have e2 : (gWw g b s + gWr g b s (t + 1)) = (gWw g b s + gWr g b s t) := by
            rw [gWr_s]
            have ew : (s : Int) = (t : Int) ↔ s = t := Int.ofNat_inj
            unfold gWq
            simp_all [bI]
            try omega
          refine j_lv (lv' := [(0, sr 72), (1, si (bI b)), (2, si (gWw g b s + gWr g b s (t + 1))), (3, si (s : Int)), (4, si ((t : Int) + 1))]) (by rw [e2]) ?_
          exact ih (t + 1) _ (by omega) hW (by omega)
        · refine j_aload_n C dX6_ways_42 rfl ?_
          refine j_iload C dX6_ways_43 rfl ?_
          refine j_doI (st := []) (j_runV C (kX6_isAwake (mFr_mdl hW hg) ok t rfl (by omega)) gX6_ways_X6_isAwake sgX6_isAwake rfl ⟨by decide, by decide⟩ (by decide) (en_72 _ _) rfl rfl rfl (Nat.le_of_ble_eq_true rfl) dX6_ways_45) (fun z_7 V_8 h_9 => ?_)
          obtain ⟨rfl, rfl⟩ := h_9
          refine j_ifb_eq (tgt := 87) C dX6_ways_48 (by decide) (fun q_10 => ?_) (fun q_10 => ?_)
          · refine j_iinc (lv' := [(0, sr 72), (1, si (bI b)), (2, si (gWw g b s + gWr g b s t)), (3, si (s : Int)), (4, si ((t : Int) + 1))]) C dX6_ways_87 rfl (by decide) rfl ?_
            refine j_goto (tgt := 17) C dX6_ways_90 (by decide) ?_
            have e2 : (gWw g b s + gWr g b s (t + 1)) = (gWw g b s + gWr g b s t) := by
              rw [gWr_s]
              have ew : (s : Int) = (t : Int) ↔ s = t := Int.ofNat_inj
              unfold gWq
              simp_all [bI]
              try omega
            refine j_lv (lv' := [(0, sr 72), (1, si (bI b)), (2, si (gWw g b s + gWr g b s (t + 1))), (3, si (s : Int)), (4, si ((t : Int) + 1))]) (by rw [e2]) ?_
            exact ih (t + 1) _ (by omega) hW (by omega)
          · refine j_aload_n C dX6_ways_51 rfl ?_
            refine j_iload_n C dX6_ways_52 rfl ?_
            refine j_iload C dX6_ways_53 rfl ?_
            refine j_doV (st := []) (j_runV C (kX6_walks (mFr_mdl hW hg) ok s t rfl rfl (by omega) (by omega) ‹_› ‹_›) gX6_ways_X6_walks sgX6_walks rfl ⟨by decide, by decide⟩ (by decide) (en_72 _ _) rfl rfl rfl (Nat.le_of_ble_eq_true rfl) dX6_ways_55) (fun V_12 h_13 => ?_)
            refine j_iload_n C dX6_ways_58 rfl ?_
            refine j_iload_n C dX6_ways_59 rfl ?_
            refine j_ifb_eq (tgt := 73) C dX6_ways_60 (by decide) (fun q_14 => ?_) (fun q_14 => ?_)
            · refine j_aload_n C dX6_ways_73 rfl ?_
              refine j_get (v := si (V_12 72 16)) C 72 16 (by decide) (en_72 _ _) rfl (by decide) (fun w h => List.mem_cons_of_mem _ (List.mem_append_right _ h)) (List.mem_of_getElem? (i := 3) rfl) dX6_ways_74 rfl ?_
              refine j_top h_13.2.2.1 ?_
              refine j_if_ne (tgt := 84) C dX6_ways_77 (by decide) (by have := wkR_rg g s t; omega) (fun q_15 => ?_) (fun q_15 => ?_)
              · refine j_iconst C dX6_ways_84 ?_
                refine j_iadd C dX6_ways_85 ?_
                refine j_istore_n (lv' := [(0, sr 72), (1, si (bI b)), (2, si ((gWw g b s + gWr g b s t) + 0)), (3, si (s : Int)), (4, si (t : Int))]) C dX6_ways_86 (by decide) rfl ?_
                refine j_iinc (lv' := [(0, sr 72), (1, si (bI b)), (2, si ((gWw g b s + gWr g b s t) + 0)), (3, si (s : Int)), (4, si ((t : Int) + 1))]) C dX6_ways_87 rfl (by decide) rfl ?_
                refine j_goto (tgt := 17) C dX6_ways_90 (by decide) ?_
                have e2 : (gWw g b s + gWr g b s (t + 1)) = ((gWw g b s + gWr g b s t) + 0) := by
                  rw [gWr_s]
                  have ew : (s : Int) = (t : Int) ↔ s = t := Int.ofNat_inj
                  unfold gWq
                  simp_all [bI]
                  try omega
                refine j_lv (lv' := [(0, sr 72), (1, si (bI b)), (2, si (gWw g b s + gWr g b s (t + 1))), (3, si (s : Int)), (4, si ((t : Int) + 1))]) (by rw [e2]) ?_
                exact ih (t + 1) _ (by omega) (mFr_tr hW h_13.2.2.2.2.2.2) (by omega)
              · refine j_iconst C dX6_ways_80 ?_
                refine j_goto (tgt := 85) C dX6_ways_81 (by decide) ?_
                refine j_iadd C dX6_ways_85 ?_
                refine j_istore_n (lv' := [(0, sr 72), (1, si (bI b)), (2, si ((gWw g b s + gWr g b s t) + 1)), (3, si (s : Int)), (4, si (t : Int))]) C dX6_ways_86 (by decide) rfl ?_
                refine j_iinc (lv' := [(0, sr 72), (1, si (bI b)), (2, si ((gWw g b s + gWr g b s t) + 1)), (3, si (s : Int)), (4, si ((t : Int) + 1))]) C dX6_ways_87 rfl (by decide) rfl ?_
                refine j_goto (tgt := 17) C dX6_ways_90 (by decide) ?_
                have e2 : (gWw g b s + gWr g b s (t + 1)) = ((gWw g b s + gWr g b s t) + 1) := by
                  rw [gWr_s]
                  have ew : (s : Int) = (t : Int) ↔ s = t := Int.ofNat_inj
                  unfold gWq
                  simp_all [bI]
                  try omega
                refine j_lv (lv' := [(0, sr 72), (1, si (bI b)), (2, si (gWw g b s + gWr g b s (t + 1))), (3, si (s : Int)), (4, si ((t : Int) + 1))]) (by rw [e2]) ?_
                exact ih (t + 1) _ (by omega) (mFr_tr hW h_13.2.2.2.2.2.2) (by omega)
            · refine j_aload_n C dX6_ways_63 rfl ?_
              refine j_get (v := si (V_12 72 15)) C 72 15 (by decide) (en_72 _ _) rfl (by decide) (fun w h => List.mem_cons_of_mem _ (List.mem_append_right _ h)) (List.mem_of_getElem? (i := 2) rfl) dX6_ways_64 rfl ?_
              refine j_top h_13.2.1 ?_
              refine j_ifb_eq (tgt := 84) C dX6_ways_67 (by decide) (fun q_16 => ?_) (fun q_16 => ?_)
              · refine j_iconst C dX6_ways_84 ?_
                refine j_iadd C dX6_ways_85 ?_
                refine j_istore_n (lv' := [(0, sr 72), (1, si (bI b)), (2, si ((gWw g b s + gWr g b s t) + 0)), (3, si (s : Int)), (4, si (t : Int))]) C dX6_ways_86 (by decide) rfl ?_
                refine j_iinc (lv' := [(0, sr 72), (1, si (bI b)), (2, si ((gWw g b s + gWr g b s t) + 0)), (3, si (s : Int)), (4, si ((t : Int) + 1))]) C dX6_ways_87 rfl (by decide) rfl ?_
                refine j_goto (tgt := 17) C dX6_ways_90 (by decide) ?_
                have e2 : (gWw g b s + gWr g b s (t + 1)) = ((gWw g b s + gWr g b s t) + 0) := by
                  rw [gWr_s]
                  have ew : (s : Int) = (t : Int) ↔ s = t := Int.ofNat_inj
                  unfold gWq
                  simp_all [bI]
                  try omega
                refine j_lv (lv' := [(0, sr 72), (1, si (bI b)), (2, si (gWw g b s + gWr g b s (t + 1))), (3, si (s : Int)), (4, si ((t : Int) + 1))]) (by rw [e2]) ?_
                exact ih (t + 1) _ (by omega) (mFr_tr hW h_13.2.2.2.2.2.2) (by omega)
              · refine j_goto (tgt := 80) C dX6_ways_70 (by decide) ?_
                refine j_iconst C dX6_ways_80 ?_
                refine j_goto (tgt := 85) C dX6_ways_81 (by decide) ?_
                refine j_iadd C dX6_ways_85 ?_
                refine j_istore_n (lv' := [(0, sr 72), (1, si (bI b)), (2, si ((gWw g b s + gWr g b s t) + 1)), (3, si (s : Int)), (4, si (t : Int))]) C dX6_ways_86 (by decide) rfl ?_
                refine j_iinc (lv' := [(0, sr 72), (1, si (bI b)), (2, si ((gWw g b s + gWr g b s t) + 1)), (3, si (s : Int)), (4, si ((t : Int) + 1))]) C dX6_ways_87 rfl (by decide) rfl ?_
                refine j_goto (tgt := 17) C dX6_ways_90 (by decide) ?_
                have e2 : (gWw g b s + gWr g b s (t + 1)) = ((gWw g b s + gWr g b s t) + 1) := by
                  rw [gWr_s]
                  have ew : (s : Int) = (t : Int) ↔ s = t := Int.ofNat_inj
                  unfold gWq
                  simp_all [bI]
                  try omega
                refine j_lv (lv' := [(0, sr 72), (1, si (bI b)), (2, si (gWw g b s + gWr g b s (t + 1))), (3, si (s : Int)), (4, si ((t : Int) + 1))]) (by rw [e2]) ?_
                exact ih (t + 1) _ (by omega) (mFr_tr hW h_13.2.2.2.2.2.2) (by omega)
set_option maxHeartbeats 4000000 in
set_option maxRecDepth 100000 in
theorem lpX6_ways {O : OmT} {F : PhT} {V : Mem} {g : Nat → Int} (C : cx O F RX6 cX6_ways 5 (some .int) wsX6_ways) {post : Int → Mem → Prop} (hQ : qI O F post) (hg : mdl V g) (ok : okg g) {b : Bool} (hpo : ∀ V2, mFr V V2 → post (gWw g b (gN g)) V2) : ∀ (fuel s : Nat) (W : Mem), (s ≤ gN g) → mFr V W → gN g - s < fuel → J O F rX6_ways 5 W 4 [(0, sr 72), (1, si (bI b)), (2, si (gWw g b s)), (3, si (s : Int))] [] := by
  intro fuel
  induction fuel with
  | zero => intro s W hw hW hf; exact absurd hf (Nat.not_lt_zero _)
  | succ fuel ih =>
    intro s W hw hW hf
    have n1 := ok.n
    refine j_iload_n C dX6_ways_4 rfl ?_
    refine j_aload_n C dX6_ways_5 rfl ?_
    refine j_get (v := sr 73) C 72 0 (by decide) (en_72 _ _) rfl (by decide) (fun w h => List.mem_cons_of_mem _ (List.mem_append_right _ h)) (List.mem_of_getElem? (i := 1) rfl) dX6_ways_6 rfl ?_
    refine j_iconst C dX6_ways_9 ?_
    refine j_iald C (row_73 O) 0 rfl (by decide) dX6_ways_10 ?_
    refine j_top ((mFr_mdl hW hg) 0 (by omega)) ?_
    refine j_icmp_ge (tgt := 99) C dX6_ways_11 (by decide) (by omega) (by have := ok.1; omega) (fun q_1 => ?_) (fun q_1 => ?_)
    · refine j_iload_n C dX6_ways_99 rfl ?_
      refine j_iret C hQ dX6_ways_100 ?_
      have e : s = gN g := by omega
      subst e; exact hpo _ hW
    · refine j_iconst C dX6_ways_14 ?_
      refine j_istore (lv' := [(0, sr 72), (1, si (bI b)), (2, si (gWw g b s)), (3, si (s : Int)), (4, si 0)]) C dX6_ways_15 (by decide) rfl ?_
      refine j_lv (lv' := [(0, sr 72), (1, si (bI b)), (2, si (gWw g b s + gWr g b s 0)), (3, si (s : Int)), (4, si (0 : Int))]) (by rw [show gWr g b s 0 = 0 from rfl, Int.add_zero]) ?_
      refine lpX6_ways2 C hg ok (by omega) (fun W_2 hW_3 => ?_) _ 0 _ (Nat.zero_le _) hW (Nat.lt_succ_self _)
      refine j_iinc (lv' := [(0, sr 72), (1, si (bI b)), (2, si (gWw g b s + gWr g b s (gN g))), (3, si ((s : Int) + 1)), (4, si ((gN g : Nat) : Int))]) C dX6_ways_93 rfl (by decide) rfl ?_
      refine j_goto (tgt := 4) C dX6_ways_96 (by decide) ?_
      have e2 : (gWw g b (s + 1)) = (gWw g b s + gWr g b s (gN g)) := by
        rfl
      refine j_pick (lv' := [(0, sr 72), (1, si (bI b)), (2, si (gWw g b s + gWr g b s (gN g))), (3, si ((s : Int) + 1))]) [0, 1, 2, 3] rfl ?_
      refine j_lv (lv' := [(0, sr 72), (1, si (bI b)), (2, si (gWw g b (s + 1))), (3, si ((s : Int) + 1))]) (by rw [e2]) ?_
      exact ih (s + 1) _ (by omega) hW_3 (by omega)
set_option maxHeartbeats 4000000 in
set_option maxRecDepth 100000 in
theorem kX6_ways {O : OmT} {l : Launch} {V : Mem} {g : Nat → Int} (hg : mdl V g) (ok : okg g) (b : Bool) : MI O l yX6_ways wsX6_ways rX6_ways [sr 72, si (bI b)] V (fun z V2 => mFr V V2 ∧ z = gWw g b (gN g)) := by
  refine mi_of (cc := cX6_ways) (nL := 5) (rt := (some .int)) (by decide) rfl rfl (Nat.le_of_ble_eq_true rfl) (fun F hF C hQ => ?_)
  subst hF
  change J O F rX6_ways 5 V 0 [(0, sr 72), (1, si (bI b))] []
  refine j_iconst C dX6_ways_0 ?_
  refine j_istore_n (lv' := [(0, sr 72), (1, si (bI b)), (2, si 0)]) C dX6_ways_1 (by decide) rfl ?_
  refine j_iconst C dX6_ways_2 ?_
  refine j_istore_n (lv' := [(0, sr 72), (1, si (bI b)), (2, si 0), (3, si 0)]) C dX6_ways_3 (by decide) rfl ?_
  exact lpX6_ways C hQ hg ok (fun V2 h => ⟨h, rfl⟩) _ 0 _ (Nat.zero_le _) (mFr_rf _) (Nat.lt_succ_self _)
def rX6_wrong : Room := { frames := 7, cells := 0, slots := 0, locals := 169 }
theorem sgX6_wrong : sg yX6_wrong wsX6_wrong cX6_wrong 4 (some .int) rX6_wrong 0 := ⟨⟨_, rfl⟩, rfl, rfl, by decide, by decide, by decide +kernel⟩
set_option maxHeartbeats 4000000 in
set_option maxRecDepth 100000 in
theorem lpX6_wrong {O : OmT} {F : PhT} {V : Mem} {g : Nat → Int} (C : cx O F RX6 cX6_wrong 4 (some .int) wsX6_wrong) {post : Int → Mem → Prop} (hQ : qI O F post) (hg : mdl V g) (ok : okg g) {bk : Nat} {bf bt bs : Nat → Int} (hbk : V 72 7 = (bk : Int)) (hb2 : bk ≤ 20) (hbf : ∀ i, i < bk → V 77 i = bf i) (hbt : ∀ i, i < bk → V 78 i = bt i) (hbs : ∀ i, i < bk → V 79 i = bs i) (hrf : ∀ i, i < bk → 0 ≤ bf i ∧ bf i < 10) (hrt : ∀ i, i < bk → 0 ≤ bt i ∧ bt i < 10) (hrs : ∀ i, i < bk → -2147483648 ≤ bs i ∧ bs i < 2147483648) (hpo : ∀ V2, mFr V V2 → post (gWg g bf bt bs bk) V2) : ∀ (fuel w : Nat) (W : Mem), (w ≤ bk) → (gWg g bf bt bs w = -1) → mFr V W → bk - w < fuel → J O F rX6_wrong 4 W 2 [(0, sr 72), (1, si (w : Int))] [] := by
  intro fuel
  induction fuel with
  | zero => intro w W hw hno hW hf; exact absurd hf (Nat.not_lt_zero _)
  | succ fuel ih =>
    intro w W hw hno hW hf
    have n1 := ok.n
    refine j_iload_n C dX6_wrong_2 rfl ?_
    refine j_aload_n C dX6_wrong_3 rfl ?_
    refine j_get (v := si (W 72 7)) C 72 7 (by decide) (en_72 _ _) rfl (by decide) (fun w h => List.mem_cons_of_mem _ (List.mem_append_right _ h)) (List.mem_of_getElem? (i := 1) rfl) dX6_wrong_4 rfl ?_
    refine j_top (hW.2.2.2.2.trans hbk) ?_
    refine j_icmp_ge (tgt := 96) C dX6_wrong_7 (by decide) (by omega) (by omega) (fun q_1 => ?_) (fun q_1 => ?_)
    · refine j_iconst C dX6_wrong_96 ?_
      refine j_iret C hQ dX6_wrong_97 ?_
      first
        | (have e : w = bk := by omega
           subst e; have h9 := hpo _ hW; rw [hno] at h9; exact h9)
        | (have e : gWg g bf bt bs bk = (w : Int) := gWg_at (by omega) hno (by unfold gBd gI wSt; simp_all)
           have h9 := hpo _ hW; rw [e] at h9; exact h9)
    · refine j_aload_n C dX6_wrong_10 rfl ?_
      refine j_get (v := sr 77) C 72 8 (by decide) (en_72 _ _) rfl (by decide) (fun w h => List.mem_cons_of_mem _ (List.mem_append_right _ h)) (List.mem_of_getElem? (i := 2) rfl) dX6_wrong_11 rfl ?_
      refine j_iload_n C dX6_wrong_14 rfl ?_
      refine j_iald C (row_77 O) w rfl (by omega) dX6_wrong_15 ?_
      refine j_top (b := bf w) (by rw [hW.1 77 (by decide) (by decide) (by decide)]; exact hbf w (by omega)) ?_
      refine j_istore_n (lv' := [(0, sr 72), (1, si (w : Int)), (2, si (bf w))]) C dX6_wrong_16 (by decide) rfl ?_
      refine j_aload_n C dX6_wrong_17 rfl ?_
      refine j_get (v := sr 78) C 72 9 (by decide) (en_72 _ _) rfl (by decide) (fun w h => List.mem_cons_of_mem _ (List.mem_append_right _ h)) (List.mem_of_getElem? (i := 3) rfl) dX6_wrong_18 rfl ?_
      refine j_iload_n C dX6_wrong_21 rfl ?_
      refine j_iald C (row_78 O) w rfl (by omega) dX6_wrong_22 ?_
      refine j_top (b := bt w) (by rw [hW.1 78 (by decide) (by decide) (by decide)]; exact hbt w (by omega)) ?_
      refine j_istore_n (lv' := [(0, sr 72), (1, si (w : Int)), (2, si (bf w)), (3, si (bt w))]) C dX6_wrong_23 (by decide) rfl ?_
      refine j_aload_n C dX6_wrong_24 rfl ?_
      refine j_iload_n C dX6_wrong_25 rfl ?_
      refine j_doI (st := []) (j_runV C (kX6_isNode (mFr_mdl hW hg) ok (bf w) (by have := hrf w (by omega); omega)) gX6_wrong_X6_isNode sgX6_isNode rfl ⟨by decide, by decide⟩ (by decide) (en_72 _ _) rfl rfl rfl (Nat.le_of_ble_eq_true rfl) dX6_wrong_26) (fun z_2 V_3 h_4 => ?_)
      obtain ⟨rfl, rfl⟩ := h_4
      refine j_ifb_eq (tgt := 56) C dX6_wrong_29 (by decide) (fun q_5 => ?_) (fun q_5 => ?_)
      · refine j_iload_n C dX6_wrong_56 rfl ?_
        refine j_iret C hQ dX6_wrong_57 ?_
        first
          | (have e : w = bk := by omega
             subst e; have h9 := hpo _ hW; rw [hno] at h9; exact h9)
          | (have e : gWg g bf bt bs bk = (w : Int) := gWg_at (by omega) hno (by unfold gBd gI wSt; simp_all)
             have h9 := hpo _ hW; rw [e] at h9; exact h9)
      · refine j_aload_n C dX6_wrong_32 rfl ?_
        refine j_iload_n C dX6_wrong_33 rfl ?_
        refine j_doI (st := []) (j_runV C (kX6_isNode (mFr_mdl hW hg) ok (bt w) (by have := hrt w (by omega); omega)) gX6_wrong_X6_isNode sgX6_isNode rfl ⟨by decide, by decide⟩ (by decide) (en_72 _ _) rfl rfl rfl (Nat.le_of_ble_eq_true rfl) dX6_wrong_34) (fun z_6 V_7 h_8 => ?_)
        obtain ⟨rfl, rfl⟩ := h_8
        refine j_ifb_eq (tgt := 56) C dX6_wrong_37 (by decide) (fun q_9 => ?_) (fun q_9 => ?_)
        · refine j_iload_n C dX6_wrong_56 rfl ?_
          refine j_iret C hQ dX6_wrong_57 ?_
          first
            | (have e : w = bk := by omega
               subst e; have h9 := hpo _ hW; rw [hno] at h9; exact h9)
            | (have e : gWg g bf bt bs bk = (w : Int) := gWg_at (by omega) hno (by unfold gBd gI wSt; simp_all)
               have h9 := hpo _ hW; rw [e] at h9; exact h9)
        · refine j_aload_n C dX6_wrong_40 rfl ?_
          refine j_iload_n C dX6_wrong_41 rfl ?_
          refine j_doI (st := []) (j_runV C (kX6_isAwake (mFr_mdl hW hg) ok (bf w).toNat (by have := hrf w (by omega); omega) (by have := hrf w (by omega); have := hrt w (by omega); omega)) gX6_wrong_X6_isAwake sgX6_isAwake rfl ⟨by decide, by decide⟩ (by decide) (en_72 _ _) rfl rfl rfl (Nat.le_of_ble_eq_true rfl) dX6_wrong_42) (fun z_10 V_11 h_12 => ?_)
          obtain ⟨rfl, rfl⟩ := h_12
          refine j_ifb_eq (tgt := 56) C dX6_wrong_45 (by decide) (fun q_13 => ?_) (fun q_13 => ?_)
          · refine j_iload_n C dX6_wrong_56 rfl ?_
            refine j_iret C hQ dX6_wrong_57 ?_
            first
              | (have e : w = bk := by omega
                 subst e; have h9 := hpo _ hW; rw [hno] at h9; exact h9)
              | (have e : gWg g bf bt bs bk = (w : Int) := gWg_at (by omega) hno (by unfold gBd gI wSt; simp_all)
                 have h9 := hpo _ hW; rw [e] at h9; exact h9)
          · refine j_aload_n C dX6_wrong_48 rfl ?_
            refine j_iload_n C dX6_wrong_49 rfl ?_
            refine j_doI (st := []) (j_runV C (kX6_isAwake (mFr_mdl hW hg) ok (bt w).toNat (by have := hrt w (by omega); omega) (by have := hrf w (by omega); have := hrt w (by omega); omega)) gX6_wrong_X6_isAwake sgX6_isAwake rfl ⟨by decide, by decide⟩ (by decide) (en_72 _ _) rfl rfl rfl (Nat.le_of_ble_eq_true rfl) dX6_wrong_50) (fun z_14 V_15 h_16 => ?_)
            obtain ⟨rfl, rfl⟩ := h_16
            refine j_ifb_ne (tgt := 58) C dX6_wrong_53 (by decide) (fun q_17 => ?_) (fun q_17 => ?_)
            · refine j_aload_n C dX6_wrong_58 rfl ?_
              refine j_iload_n C dX6_wrong_59 rfl ?_
              refine j_iload_n C dX6_wrong_60 rfl ?_
              refine j_doV (st := []) (j_runV C (kX6_walks (mFr_mdl hW hg) ok (bf w).toNat (bt w).toNat (by have := hrf w (by omega); omega) (by have := hrt w (by omega); omega) (by simp only [gI, Bool.and_eq_true, decide_eq_true_eq] at *; omega) (by simp only [gI, Bool.and_eq_true, decide_eq_true_eq] at *; omega) ‹_› ‹_›) gX6_wrong_X6_walks sgX6_walks rfl ⟨by decide, by decide⟩ (by decide) (en_72 _ _) rfl rfl rfl (Nat.le_of_ble_eq_true rfl) dX6_wrong_61) (fun V_19 h_20 => ?_)
              refine j_aload_n C dX6_wrong_64 rfl ?_
              refine j_get (v := sr 79) C 72 10 (by decide) (en_72 _ _) rfl (by decide) (fun w h => List.mem_cons_of_mem _ (List.mem_append_right _ h)) (List.mem_of_getElem? (i := 4) rfl) dX6_wrong_65 rfl ?_
              refine j_iload_n C dX6_wrong_68 rfl ?_
              refine j_iald C (row_79 O) w rfl (by omega) dX6_wrong_69 ?_
              refine j_top (b := bs w) (by rw [(mFr_tr hW h_20.2.2.2.2.2.2).1 79 (by decide) (by decide) (by decide)]; exact hbs w (by omega)) ?_
              refine j_aload_n C dX6_wrong_70 rfl ?_
              refine j_get (v := si (V_19 72 15)) C 72 15 (by decide) (en_72 _ _) rfl (by decide) (fun w h => List.mem_cons_of_mem _ (List.mem_append_right _ h)) (List.mem_of_getElem? (i := 5) rfl) dX6_wrong_71 rfl ?_
              refine j_top h_20.2.1 ?_
              refine j_ifb_eq (tgt := 81) C dX6_wrong_74 (by decide) (fun q_21 => ?_) (fun q_21 => ?_)
              · refine j_aload_n C dX6_wrong_81 rfl ?_
                refine j_get (v := si (V_19 72 13)) C 72 13 (by decide) (en_72 _ _) rfl (by decide) (fun w h => List.mem_cons_of_mem _ (List.mem_append_right _ h)) (List.mem_of_getElem? (i := 6) rfl) dX6_wrong_82 rfl ?_
                refine j_top h_20.1 ?_
                refine j_icmp_eq (tgt := 90) C dX6_wrong_85 (by decide) (by have := hrs w (by omega); omega) (by have := wkR_rg g (bf w).toNat (bt w).toNat; omega) (fun q_22 => ?_) (fun q_22 => ?_)
                · refine j_iinc (lv' := [(0, sr 72), (1, si ((w : Int) + 1)), (2, si (bf w)), (3, si (bt w))]) C dX6_wrong_90 rfl (by decide) rfl ?_
                  refine j_goto (tgt := 2) C dX6_wrong_93 (by decide) ?_
                  refine j_pick (lv' := [(0, sr 72), (1, si ((w : Int) + 1))]) [0, 1] rfl ?_
                  exact ih (w + 1) _ (by omega) (by rw [gWg_s, if_neg (by simp [hno]), if_neg (by unfold gBd gI wSt; simp_all)]) (mFr_tr hW h_20.2.2.2.2.2.2) (by omega)
                · refine j_iload_n C dX6_wrong_88 rfl ?_
                  refine j_iret C hQ dX6_wrong_89 ?_
                  first
                    | (have e : w = bk := by omega
                       subst e; have h9 := hpo _ (mFr_tr hW h_20.2.2.2.2.2.2); rw [hno] at h9; exact h9)
                    | (have e : gWg g bf bt bs bk = (w : Int) := gWg_at (by omega) hno (by unfold gBd gI wSt; simp_all)
                       have h9 := hpo _ (mFr_tr hW h_20.2.2.2.2.2.2); rw [e] at h9; exact h9)
              · refine j_iconst C dX6_wrong_77 ?_
                refine j_goto (tgt := 85) C dX6_wrong_78 (by decide) ?_
                refine j_icmp_eq (tgt := 90) C dX6_wrong_85 (by decide) (by have := hrs w (by omega); omega) (by decide) (fun q_23 => ?_) (fun q_23 => ?_)
                · refine j_iinc (lv' := [(0, sr 72), (1, si ((w : Int) + 1)), (2, si (bf w)), (3, si (bt w))]) C dX6_wrong_90 rfl (by decide) rfl ?_
                  refine j_goto (tgt := 2) C dX6_wrong_93 (by decide) ?_
                  refine j_pick (lv' := [(0, sr 72), (1, si ((w : Int) + 1))]) [0, 1] rfl ?_
                  exact ih (w + 1) _ (by omega) (by rw [gWg_s, if_neg (by simp [hno]), if_neg (by unfold gBd gI wSt; simp_all)]) (mFr_tr hW h_20.2.2.2.2.2.2) (by omega)
                · refine j_iload_n C dX6_wrong_88 rfl ?_
                  refine j_iret C hQ dX6_wrong_89 ?_
                  first
                    | (have e : w = bk := by omega
                       subst e; have h9 := hpo _ (mFr_tr hW h_20.2.2.2.2.2.2); rw [hno] at h9; exact h9)
                    | (have e : gWg g bf bt bs bk = (w : Int) := gWg_at (by omega) hno (by unfold gBd gI wSt; simp_all)
                       have h9 := hpo _ (mFr_tr hW h_20.2.2.2.2.2.2); rw [e] at h9; exact h9)
            · refine j_iload_n C dX6_wrong_56 rfl ?_
              refine j_iret C hQ dX6_wrong_57 ?_
              first
                | (have e : w = bk := by omega
                   subst e; have h9 := hpo _ hW; rw [hno] at h9; exact h9)
                | (have e : gWg g bf bt bs bk = (w : Int) := gWg_at (by omega) hno (by unfold gBd gI wSt; simp_all)
                   have h9 := hpo _ hW; rw [e] at h9; exact h9)
set_option maxHeartbeats 4000000 in
set_option maxRecDepth 100000 in
theorem kX6_wrong {O : OmT} {l : Launch} {V : Mem} {g : Nat → Int} (hg : mdl V g) (ok : okg g) {bk : Nat} {bf bt bs : Nat → Int} (hbk : V 72 7 = (bk : Int)) (hb2 : bk ≤ 20) (hbf : ∀ i, i < bk → V 77 i = bf i) (hbt : ∀ i, i < bk → V 78 i = bt i) (hbs : ∀ i, i < bk → V 79 i = bs i) (hrf : ∀ i, i < bk → 0 ≤ bf i ∧ bf i < 10) (hrt : ∀ i, i < bk → 0 ≤ bt i ∧ bt i < 10) (hrs : ∀ i, i < bk → -2147483648 ≤ bs i ∧ bs i < 2147483648) : MI O l yX6_wrong wsX6_wrong rX6_wrong [sr 72] V (fun z V2 => mFr V V2 ∧ z = gWg g bf bt bs bk) := by
  refine mi_of (cc := cX6_wrong) (nL := 4) (rt := (some .int)) (by decide) rfl rfl (Nat.le_of_ble_eq_true rfl) (fun F hF C hQ => ?_)
  subst hF
  change J O F rX6_wrong 4 V 0 [(0, sr 72)] []
  refine j_iconst C dX6_wrong_0 ?_
  refine j_istore_n (lv' := [(0, sr 72), (1, si 0)]) C dX6_wrong_1 (by decide) rfl ?_
  exact lpX6_wrong C hQ hg ok hbk hb2 hbf hbt hbs hrf hrt hrs (fun V2 h => ⟨h, rfl⟩) _ 0 _ (Nat.zero_le _) rfl (mFr_rf _) (Nat.lt_succ_self _)
