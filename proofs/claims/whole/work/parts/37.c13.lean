def rJ9_floorMod_7cf53 : Room := { frames := 0, cells := 0, slots := 0, locals := 0 }
theorem sgJ9_floorMod_7cf53 : sg yJ9_floorMod_7cf53 wsJ9_floorMod_7cf53 cJ9_floorMod_7cf53 3 (some .int) rJ9_floorMod_7cf53 2 := ⟨⟨_, rfl⟩, rfl, rfl, by decide, by decide, by decide +kernel⟩
set_option maxHeartbeats 4000000 in
set_option maxRecDepth 100000 in
theorem kJ9_floorMod_7cf53 {O : OmT} {l : Launch} {V : Mem} {z : Int} (k : Nat) (ek : z = (k : Int) - 16) (hk : k < 48) : MI O l yJ9_floorMod_7cf53 wsJ9_floorMod_7cf53 rJ9_floorMod_7cf53 [si z, si 16] V (fun r V2 => V = V2 ∧ r = ((k % 16 : Nat) : Int)) := by
  refine mi_ofF (cc := cJ9_floorMod_7cf53) (nL := 3) (rt := (some .int)) (by decide +kernel) rfl rfl (Nat.le_of_ble_eq_true rfl) (fun F hF C hQ => ?_)
  subst hF
  subst ek
  change J O F rJ9_floorMod_7cf53 3 V 0 [(0, si ((k : Int) - 16)), (1, si 16)] []
  refine j_iload_n C dJ9_floorMod_7cf53_0 rfl ?_
  refine j_iload_n C dJ9_floorMod_7cf53_1 rfl ?_
  refine j_irem C dJ9_floorMod_7cf53_2 (by decide) (by decide) ?_
  refine j_istore_n (lv' := [(0, si ((k : Int) - 16)), (1, si 16), (2, si (bRem ((k : Int) - 16) 16))]) C dJ9_floorMod_7cf53_3 (by decide) rfl ?_
  refine j_iload_n C dJ9_floorMod_7cf53_4 rfl ?_
  refine j_iload_n C dJ9_floorMod_7cf53_5 rfl ?_
  refine j_ixor C dJ9_floorMod_7cf53_6 ?_
  refine j_if_ge (tgt := 18) C dJ9_floorMod_7cf53_7 (by decide) (i32_rg _) (fun q_1 => ?_) (fun q_1 => ?_)
  · refine j_iload_n C dJ9_floorMod_7cf53_18 rfl ?_
    refine j_iret C hQ dJ9_floorMod_7cf53_19 ?_
    refine ⟨rfl, ?_⟩
    have h9 := fmd_k k hk
    first
      | (rw [if_pos (by omega)] at h9; exact h9)
      | (rw [if_neg (by omega), if_pos (by omega)] at h9; exact h9)
      | (rw [if_neg (by omega), if_neg (by omega)] at h9; exact h9)
  · refine j_iload_n C dJ9_floorMod_7cf53_10 rfl ?_
    refine j_if_eq (tgt := 18) C dJ9_floorMod_7cf53_11 (by decide) (i32_rg _) (fun q_2 => ?_) (fun q_2 => ?_)
    · refine j_iload_n C dJ9_floorMod_7cf53_18 rfl ?_
      refine j_iret C hQ dJ9_floorMod_7cf53_19 ?_
      refine ⟨rfl, ?_⟩
      have h9 := fmd_k k hk
      first
        | (rw [if_pos (by omega)] at h9; exact h9)
        | (rw [if_neg (by omega), if_pos (by omega)] at h9; exact h9)
        | (rw [if_neg (by omega), if_neg (by omega)] at h9; exact h9)
    · refine j_iload_n C dJ9_floorMod_7cf53_14 rfl ?_
      refine j_iload_n C dJ9_floorMod_7cf53_15 rfl ?_
      refine j_iadd C dJ9_floorMod_7cf53_16 ?_
      refine j_iret C hQ dJ9_floorMod_7cf53_17 ?_
      refine ⟨rfl, ?_⟩
      have h9 := fmd_k k hk
      first
        | (rw [if_pos (by omega)] at h9; exact h9)
        | (rw [if_neg (by omega), if_pos (by omega)] at h9; exact h9)
        | (rw [if_neg (by omega), if_neg (by omega)] at h9; exact h9)
def rX4_remember : Room := { frames := 1, cells := 0, slots := 0, locals := 22 }
theorem sgX4_remember : sg yX4_remember wsX4_remember cX4_remember 2 none rX4_remember 1 := ⟨⟨_, rfl⟩, rfl, rfl, by decide, by decide, by decide +kernel⟩
set_option maxHeartbeats 4000000 in
set_option maxRecDepth 100000 in
theorem kX4_remember {O : OmT} {l : Launch} {V : Mem} {s : St} (hG : CG V s) (hdp : s.2.2.2.1.1 ≤ 16) : MV O l yX4_remember wsX4_remember rX4_remember [sr 15, sr 1] V (fun V2 => CG V2 (rem s) ∧ hiF V V2) := by
  obtain ⟨hp2, la, hla, hp1, hp⟩ := hG.2.2.2.2.1
  have hl : (la + 1) % 16 < 16 := Nat.mod_lt _ (by decide)
  refine mv_of (cc := cX4_remember) (nL := 2) (rt := none) (by decide) rfl rfl (Nat.le_of_ble_eq_true rfl) (fun F hF C hQ => ?_)
  subst hF
  change J O F rX4_remember 2 V 0 [(0, sr 15), (1, sr 1)] []
  refine j_aload_n C dX4_remember_0 rfl ?_
  refine j_aload_n C dX4_remember_1 rfl ?_
  refine j_get (v := si (V 15 1)) C 15 1 (by decide) (en_15 _ _) rfl (by decide) (fun w h => List.mem_cons_of_mem _ (List.mem_append_left _ (List.mem_append_right _ h))) (List.mem_of_getElem? (i := 1) rfl) dX4_remember_2 rfl ?_
  refine j_top hp1 ?_
  refine j_iconst C dX4_remember_5 ?_
  refine j_iadd C dX4_remember_6 ?_
  refine j_bipush C dX4_remember_7 (by decide) ?_
  refine j_irem C dX4_remember_9 (by decide) (by decide) ?_
  refine j_top (b := (((la + 1) % 16 : Nat) : Int)) (bRem_nat (a := la + 1) (b := 16) (by omega) (by decide) (by decide)) ?_
  refine j_put C 15 1 (by decide) (en_15 _ _) rfl pcl4 (by decide) (fun w h => List.mem_cons_of_mem _ (List.mem_append_left _ (List.mem_append_right _ h))) (List.mem_of_getElem? (i := 1) rfl) rfl rfl (fit_i _) (Nat.le_of_ble_eq_true rfl) dX4_remember_10 ?_
  refine j_aload_n C dX4_remember_13 rfl ?_
  refine j_get (v := sr 16) C 15 0 (by decide) (en_15 _ _) rfl (by decide) (fun w h => List.mem_cons_of_mem _ (List.mem_append_left _ (List.mem_append_right _ h))) (List.mem_of_getElem? (i := 2) rfl) dX4_remember_14 rfl ?_
  refine j_aload_n C dX4_remember_17 rfl ?_
  refine j_get (v := si (((la + 1) % 16 : Nat) : Int)) C 15 1 (by decide) (en_15 _ _) rfl (by decide) (fun w h => List.mem_cons_of_mem _ (List.mem_append_left _ (List.mem_append_right _ h))) (List.mem_of_getElem? (i := 1) rfl) dX4_remember_18 rfl ?_
  refine j_aald C 16 17 16 (by decide) (en_16 _ _) (by decide) ((la + 1) % 16) rfl (by omega) dX4_remember_21 ?_
  refine j_aload_n C dX4_remember_22 rfl ?_
  refine j_doV (st := []) (j_runVN C (kX1_copyNet (c := (17 + 3 * ((la + 1) % 16))) (d := 1) (gb_p hl) rfl (by omega) (gnd_eq (V := V) (show gnd V 1 s.1 from hG.1) (fun d d1 d2 => ms_ne _ (by omega)))) ggX4_remember_X1_copyNet sgX1_copyNet rfl (List.mem_of_getElem? (i := 40) rfl) (List.mem_of_getElem? (i := 5) rfl) (List.mem_of_getElem? (i := 4) rfl) (List.mem_of_getElem? (i := 6) rfl) ⟨by decide, by decide⟩ (by omega) (en_G (c := (17 + 3 * ((la + 1) % 16))) (gb_p hl) _) rfl rfl rfl (Nat.le_of_ble_eq_true rfl) dX4_remember_23) (fun V_2 h_3 => ?_)
  refine j_aload_n C dX4_remember_26 rfl ?_
  refine j_get (v := si (V_2 15 2)) C 15 2 (by decide) (en_15 _ _) rfl (by decide) (fun w h => List.mem_cons_of_mem _ (List.mem_append_left _ (List.mem_append_right _ h))) (List.mem_of_getElem? (i := 3) rfl) dX4_remember_27 rfl ?_
  refine j_top (b := ((s.2.2.2.1.1 : Nat) : Int)) (by rw [h_3.2.2 15 (by omega) (by omega) (by omega)]; exact hp2) ?_
  refine j_bipush C dX4_remember_30 (by decide) ?_
  refine j_icmp_ge (tgt := 45) C dX4_remember_32 (by decide) (by omega) (by decide) (fun q_4 => ?_) (fun q_4 => ?_)
  · refine j_vret C hQ dX4_remember_45 ?_
    exact CG_rem hG hdp hla hp (by rw [h_3.2.2 15 (by omega) (by omega) (by omega)]; rfl) (by rw [h_3.2.2 15 (by omega) (by omega) (by omega), if_neg (by omega)]; show V 15 2 = _; omega) h_3.1 (fun c h1 h2 h3 h4 => (h_3.2.2 c h2 h3 h4).trans (ms_ne _ h1))
  · refine j_aload_n C dX4_remember_35 rfl ?_
    refine j_dup C dX4_remember_36 rfl ?_
    refine j_get (v := si (V_2 15 2)) C 15 2 (by decide) (en_15 _ _) rfl (by decide) (fun w h => List.mem_cons_of_mem _ (List.mem_append_left _ (List.mem_append_right _ h))) (List.mem_of_getElem? (i := 3) rfl) dX4_remember_37 rfl ?_
    refine j_top (b := ((s.2.2.2.1.1 : Nat) : Int)) (by rw [h_3.2.2 15 (by omega) (by omega) (by omega)]; exact hp2) ?_
    refine j_iconst C dX4_remember_40 ?_
    refine j_iadd C dX4_remember_41 ?_
    refine j_put C 15 2 (by decide) (en_15 _ _) rfl pcl4 (by decide) (fun w h => List.mem_cons_of_mem _ (List.mem_append_left _ (List.mem_append_right _ h))) (List.mem_of_getElem? (i := 3) rfl) rfl rfl (fit_i _) (Nat.le_of_ble_eq_true rfl) dX4_remember_42 ?_
    refine j_vret C hQ dX4_remember_45 ?_
    exact CG_rem (W := (ms V_2 15 2 (((s.2.2.2.1.1 : Nat) : Int) + 1))) hG hdp hla hp (by rw [show (ms V_2 15 2 (((s.2.2.2.1.1 : Nat) : Int) + 1)) 15 1 = V_2 15 1 from rfl, h_3.2.2 15 (by omega) (by omega) (by omega)]; rfl) (by rw [if_pos (by omega)]; rfl) (gnd_eq h_3.1 (fun d d1 d2 => ms_ne _ (by omega))) (fun c h1 h2 h3 h4 => (ms_ne _ h1).trans ((h_3.2.2 c h2 h3 h4).trans (ms_ne _ h1)))
def rX4_giveBack : Room := { frames := 1, cells := 0, slots := 0, locals := 22 }
theorem sgX4_giveBack : sg yX4_giveBack wsX4_giveBack cX4_giveBack 3 none rX4_giveBack 2 := ⟨⟨_, rfl⟩, rfl, rfl, by decide, by decide, by decide +kernel⟩
set_option maxHeartbeats 4000000 in
set_option maxRecDepth 100000 in
theorem kX4_giveBack {O : OmT} {l : Launch} {V : Mem} {s : St} (hG : CG V s) (hdp : s.2.2.2.1.1 ≤ 16) {zn : Int} (n : Nat) (en : zn = (n : Int)) (h1 : 1 ≤ n) (h2 : n ≤ s.2.2.2.1.1) : MV O l yX4_giveBack wsX4_giveBack rX4_giveBack [sr 15, si zn, sr 1] V (fun V2 => CG V2 (unS s n) ∧ hiF V V2) := by
  obtain ⟨hp2, la, hla, hp1, hp⟩ := hG.2.2.2.2.1
  have hl : (la + 17 - n) % 16 < 16 := Nat.mod_lt _ (by decide)
  refine mv_of (cc := cX4_giveBack) (nL := 3) (rt := none) (by decide) rfl rfl (Nat.le_of_ble_eq_true rfl) (fun F hF C hQ => ?_)
  subst hF
  subst en
  change J O F rX4_giveBack 3 V 0 [(0, sr 15), (1, si (n : Int)), (2, sr 1)] []
  refine j_iload_n C dX4_giveBack_0 rfl ?_
  refine j_iconst C dX4_giveBack_1 ?_
  refine j_icmp_lt (tgt := 13) C dX4_giveBack_2 (by decide) (by omega) (by decide) (fun q_1 => ?_) (fun q_1 => ?_)
  · omega
  · refine j_iload_n C dX4_giveBack_5 rfl ?_
    refine j_aload_n C dX4_giveBack_6 rfl ?_
    refine j_get (v := si (V 15 2)) C 15 2 (by decide) (en_15 _ _) rfl (by decide) (fun w h => List.mem_cons_of_mem _ (List.mem_append_left _ (List.mem_append_right _ h))) (List.mem_of_getElem? (i := 1) rfl) dX4_giveBack_7 rfl ?_
    refine j_top hp2 ?_
    refine j_icmp_le (tgt := 14) C dX4_giveBack_10 (by decide) (by omega) (by omega) (fun q_2 => ?_) (fun q_2 => ?_)
    · refine j_aload_n C dX4_giveBack_14 rfl ?_
      refine j_aload_n C dX4_giveBack_15 rfl ?_
      refine j_get (v := sr 16) C 15 0 (by decide) (en_15 _ _) rfl (by decide) (fun w h => List.mem_cons_of_mem _ (List.mem_append_left _ (List.mem_append_right _ h))) (List.mem_of_getElem? (i := 2) rfl) dX4_giveBack_16 rfl ?_
      refine j_aload_n C dX4_giveBack_19 rfl ?_
      refine j_get (v := si (V 15 1)) C 15 1 (by decide) (en_15 _ _) rfl (by decide) (fun w h => List.mem_cons_of_mem _ (List.mem_append_left _ (List.mem_append_right _ h))) (List.mem_of_getElem? (i := 3) rfl) dX4_giveBack_20 rfl ?_
      refine j_top hp1 ?_
      refine j_iload_n C dX4_giveBack_23 rfl ?_
      refine j_isub C dX4_giveBack_24 ?_
      refine j_iconst C dX4_giveBack_25 ?_
      refine j_iadd C dX4_giveBack_26 ?_
      refine j_bipush C dX4_giveBack_27 (by decide) ?_
      refine j_doI (st := [sr 16, sr 1]) (j_runS C (kJ9_floorMod_7cf53 (la + 17 - n) (by omega) (by omega)) ggX4_giveBack_J9_floorMod_7cf53 sgJ9_floorMod_7cf53 (List.mem_of_getElem? (i := 4) rfl) (List.mem_of_getElem? (i := 6) rfl) (List.mem_of_getElem? (i := 5) rfl) ⟨by decide, by decide⟩ rfl rfl (Nat.le_of_ble_eq_true rfl) dX4_giveBack_29) (fun z_3 V_4 h_5 => ?_)
      obtain ⟨rfl, rfl⟩ := h_5
      refine j_aald C 16 17 16 (by decide) (en_16 _ _) (by decide) ((la + 17 - n) % 16) rfl (by omega) dX4_giveBack_32 ?_
      refine j_doV (st := []) (j_runVN C (kX1_copyNet (c := 1) (d := (17 + 3 * ((la + 17 - n) % 16))) rfl (gb_p hl) (by omega) (g := s.2.2.2.1.2 (n - 1)) (by have := hp (n - 1) (by omega); rwa [show (la + 16 - (n - 1)) % 16 = (la + 17 - n) % 16 by omega] at this)) ggX4_giveBack_X1_copyNet sgX1_copyNet rfl (List.mem_of_getElem? (i := 40) rfl) (List.mem_of_getElem? (i := 9) rfl) (List.mem_of_getElem? (i := 8) rfl) (List.mem_of_getElem? (i := 10) rfl) ⟨by decide, by decide⟩ (by decide) (en_G (c := 1) (by decide) _) rfl rfl rfl (Nat.le_of_ble_eq_true rfl) dX4_giveBack_33) (fun V_7 h_8 => ?_)
      refine j_aload_n C dX4_giveBack_36 rfl ?_
      refine j_aload_n C dX4_giveBack_37 rfl ?_
      refine j_get (v := si (V_7 15 1)) C 15 1 (by decide) (en_15 _ _) rfl (by decide) (fun w h => List.mem_cons_of_mem _ (List.mem_append_left _ (List.mem_append_right _ h))) (List.mem_of_getElem? (i := 3) rfl) dX4_giveBack_38 rfl ?_
      refine j_top (b := (la : Int)) (by rw [h_8.2.2 15 (by omega) (by omega) (by omega)]; exact hp1) ?_
      refine j_iload_n C dX4_giveBack_41 rfl ?_
      refine j_isub C dX4_giveBack_42 ?_
      refine j_bipush C dX4_giveBack_43 (by decide) ?_
      refine j_doI (st := [sr 15]) (j_runS C (kJ9_floorMod_7cf53 (la + 16 - n) (by omega) (by omega)) ggX4_giveBack_J9_floorMod_7cf53 sgJ9_floorMod_7cf53 (List.mem_of_getElem? (i := 4) rfl) (List.mem_of_getElem? (i := 6) rfl) (List.mem_of_getElem? (i := 5) rfl) ⟨by decide, by decide⟩ rfl rfl (Nat.le_of_ble_eq_true rfl) dX4_giveBack_45) (fun z_9 V_10 h_11 => ?_)
      obtain ⟨rfl, rfl⟩ := h_11
      refine j_put C 15 1 (by decide) (en_15 _ _) rfl pcl4 (by decide) (fun w h => List.mem_cons_of_mem _ (List.mem_append_left _ (List.mem_append_right _ h))) (List.mem_of_getElem? (i := 3) rfl) rfl rfl (fit_i _) (Nat.le_of_ble_eq_true rfl) dX4_giveBack_48 ?_
      refine j_aload_n C dX4_giveBack_51 rfl ?_
      refine j_dup C dX4_giveBack_52 rfl ?_
      refine j_get (v := si ((ms V_7 15 1 (((la + 16 - n) % 16 : Nat) : Int)) 15 2)) C 15 2 (by decide) (en_15 _ _) rfl (by decide) (fun w h => List.mem_cons_of_mem _ (List.mem_append_left _ (List.mem_append_right _ h))) (List.mem_of_getElem? (i := 1) rfl) dX4_giveBack_53 rfl ?_
      refine j_top (b := ((s.2.2.2.1.1 : Nat) : Int)) (by show V_7 15 2 = _; rw [h_8.2.2 15 (by omega) (by omega) (by omega)]; exact hp2) ?_
      refine j_iload_n C dX4_giveBack_56 rfl ?_
      refine j_isub C dX4_giveBack_57 ?_
      refine j_put C 15 2 (by decide) (en_15 _ _) rfl pcl4 (by decide) (fun w h => List.mem_cons_of_mem _ (List.mem_append_left _ (List.mem_append_right _ h))) (List.mem_of_getElem? (i := 1) rfl) rfl rfl (fit_i _) (Nat.le_of_ble_eq_true rfl) dX4_giveBack_58 ?_
      refine j_vret C hQ dX4_giveBack_61 ?_
      exact CG_un (W := (ms (ms V_7 15 1 (((la + 16 - n) % 16 : Nat) : Int)) 15 2 (((s.2.2.2.1.1 : Nat) : Int) - (n : Int)))) hG hla hp (n := n) h2 hdp rfl (by show ((s.2.2.2.1.1 : Nat) : Int) - (n : Int) = _; omega) (gnd_eq h_8.1 (fun d d1 d2 => (ms_ne _ (by omega)).trans (ms_ne _ (by omega)))) h_8.2.1 (fun c h1 h2 h3 h4 => (ms_ne _ h1).trans ((ms_ne _ h1).trans (h_8.2.2 c h2 h3 h4)))
    · omega
def rX0_enter : Room := { frames := 0, cells := 0, slots := 0, locals := 0 }
theorem sgX0_enter : sg yX0_enter wsX0_enter cX0_enter 4 none rX0_enter 3 := ⟨⟨_, rfl⟩, rfl, rfl, by decide, by decide, by decide +kernel⟩
set_option maxHeartbeats 4000000 in
set_option maxRecDepth 100000 in
theorem kX0_enter {O : OmT} {l : Launch} {V : Mem} {bk : Nat} (hbk : V 11 3 = (bk : Int)) (hb : bk < 20) {a b v : Int} : MV O l yX0_enter wsX0_enter rX0_enter [sr 11, si a, si b, si v] V (fun V2 => V2 = ms (ms (ms (ms V 12 bk a) 13 bk b) 14 bk v) 11 3 ((bk : Int) + 1)) := by
  refine mv_of (cc := cX0_enter) (nL := 4) (rt := none) (by decide) rfl rfl (Nat.le_of_ble_eq_true rfl) (fun F hF C hQ => ?_)
  subst hF
  change J O F rX0_enter 4 V 0 [(0, sr 11), (1, si a), (2, si b), (3, si v)] []
  refine j_aload_n C dX0_enter_0 rfl ?_
  refine j_get (v := si (V 11 3)) C 11 3 (by decide) (en_11 _ _) rfl (by decide) (fun w h => List.mem_cons_of_mem _ (List.mem_append_right _ h)) (List.mem_of_getElem? (i := 1) rfl) dX0_enter_1 rfl ?_
  refine j_top (show V 11 3 = (bk : Int) from hbk) ?_
  refine j_bipush C dX0_enter_4 (by decide) ?_
  refine j_icmp_lt (tgt := 10) C dX0_enter_6 (by decide) (by omega) (by decide) (fun q_1 => ?_) (fun q_1 => ?_)
  · refine j_aload_n C dX0_enter_10 rfl ?_
    refine j_get (v := sr 12) C 11 0 (by decide) (en_11 _ _) rfl (by decide) (fun w h => List.mem_cons_of_mem _ (List.mem_append_right _ h)) (List.mem_of_getElem? (i := 2) rfl) dX0_enter_11 rfl ?_
    refine j_aload_n C dX0_enter_14 rfl ?_
    refine j_get (v := si (V 11 3)) C 11 3 (by decide) (en_11 _ _) rfl (by decide) (fun w h => List.mem_cons_of_mem _ (List.mem_append_right _ h)) (List.mem_of_getElem? (i := 1) rfl) dX0_enter_15 rfl ?_
    refine j_top (show V 11 3 = (bk : Int) from hbk) ?_
    refine j_iload_n C dX0_enter_18 rfl ?_
    refine j_iast C (row_12 O) bk rfl (by omega) dX0_enter_19 ?_
    refine j_aload_n C dX0_enter_20 rfl ?_
    refine j_get (v := sr 13) C 11 1 (by decide) (en_11 _ _) rfl (by decide) (fun w h => List.mem_cons_of_mem _ (List.mem_append_right _ h)) (List.mem_of_getElem? (i := 3) rfl) dX0_enter_21 rfl ?_
    refine j_aload_n C dX0_enter_24 rfl ?_
    refine j_get (v := si ((ms V 12 bk a) 11 3)) C 11 3 (by decide) (en_11 _ _) rfl (by decide) (fun w h => List.mem_cons_of_mem _ (List.mem_append_right _ h)) (List.mem_of_getElem? (i := 1) rfl) dX0_enter_25 rfl ?_
    refine j_top (show (ms V 12 bk a) 11 3 = (bk : Int) from hbk) ?_
    refine j_iload_n C dX0_enter_28 rfl ?_
    refine j_iast C (row_13 O) bk rfl (by omega) dX0_enter_29 ?_
    refine j_aload_n C dX0_enter_30 rfl ?_
    refine j_get (v := sr 14) C 11 2 (by decide) (en_11 _ _) rfl (by decide) (fun w h => List.mem_cons_of_mem _ (List.mem_append_right _ h)) (List.mem_of_getElem? (i := 4) rfl) dX0_enter_31 rfl ?_
    refine j_aload_n C dX0_enter_34 rfl ?_
    refine j_get (v := si ((ms (ms V 12 bk a) 13 bk b) 11 3)) C 11 3 (by decide) (en_11 _ _) rfl (by decide) (fun w h => List.mem_cons_of_mem _ (List.mem_append_right _ h)) (List.mem_of_getElem? (i := 1) rfl) dX0_enter_35 rfl ?_
    refine j_top (show (ms (ms V 12 bk a) 13 bk b) 11 3 = (bk : Int) from hbk) ?_
    refine j_iload_n C dX0_enter_38 rfl ?_
    refine j_iast C (row_14 O) bk rfl (by omega) dX0_enter_39 ?_
    refine j_aload_n C dX0_enter_40 rfl ?_
    refine j_dup C dX0_enter_41 rfl ?_
    refine j_get (v := si ((ms (ms (ms V 12 bk a) 13 bk b) 14 bk v) 11 3)) C 11 3 (by decide) (en_11 _ _) rfl (by decide) (fun w h => List.mem_cons_of_mem _ (List.mem_append_right _ h)) (List.mem_of_getElem? (i := 1) rfl) dX0_enter_42 rfl ?_
    refine j_top (show (ms (ms (ms V 12 bk a) 13 bk b) 14 bk v) 11 3 = (bk : Int) from hbk) ?_
    refine j_iconst C dX0_enter_45 ?_
    refine j_iadd C dX0_enter_46 ?_
    refine j_put C 11 3 (by decide) (en_11 _ _) rfl pcl0 (by decide) (fun w h => List.mem_cons_of_mem _ (List.mem_append_right _ h)) (List.mem_of_getElem? (i := 1) rfl) rfl rfl (fit_i _) (Nat.le_of_ble_eq_true rfl) dX0_enter_47 ?_
    refine j_vret C hQ dX0_enter_50 ?_
    rfl
  · omega
