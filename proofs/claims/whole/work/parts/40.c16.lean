def rX5_goBack : Room := { frames := 4, cells := 0, slots := 0, locals := 95 }
theorem sgX5_goBack : sg yX5_goBack wsX5_goBack cX5_goBack 2 (some .int) rX5_goBack 1 := ⟨⟨_, rfl⟩, rfl, rfl, by decide, by decide, by decide +kernel⟩
set_option maxHeartbeats 4000000 in
set_option maxRecDepth 100000 in
theorem kX5_goBack {O : OmT} {l : Launch} {V : Mem} {g : Nat → Int} {r : Rt} (hR : CR V (g, r)) (os : okS (g, r)) (i : Int) (hi : -2147483648 ≤ i ∧ i < 2147483648) : MI O l yX5_goBack wsX5_goBack rX5_goBack [sr 0, si i] V (fun z V2 => CR V2 (dBack (g, r) i).2 ∧ hiF V V2 ∧ z = (dBack (g, r) i).1) := by
  have ok : okg g := os.1
  have n1 := ok.n
  have a1 := ok.a
  have hn : net V g := hR.1
  have hc : cls V g := hn.1
  have hG : CG V (g, r) := hR.2
  have hdp : r.2.2.1.1 ≤ 16 := os.2.2.2.1.1
  have hbk : r.2.1.1 ≤ 20 := os.2.2.1.1
  obtain ⟨⟨kb, hk4, hk6, hkb⟩, hki⟩ := hG.2.2.2.2.2
  refine mi_of (cc := cX5_goBack) (nL := 2) (rt := (some .int)) (by decide) rfl rfl (Nat.le_of_ble_eq_true rfl) (fun F hF C hQ => ?_)
  subst hF
  change J O F rX5_goBack 2 V 0 [(0, sr 0), (1, si i)] []
  refine j_iload_n C dX5_goBack_0 rfl ?_
  refine j_if_lt (tgt := 9) C dX5_goBack_1 (by decide) (by omega) (fun q_1 => ?_) (fun q_1 => ?_)
  · refine j_ldc (n := -1000000001) C (List.mem_of_getElem? (i := 1) rfl) (by decide) dX5_goBack_9 ?_
    refine j_iret C hQ dX5_goBack_11 ?_
    have e9 : dBack (g, r) i = (-1000000001, (g, r)) := by
      unfold dBack; dsimp only; rw [if_pos (by omega)]
    rw [e9]; exact ⟨hR, hiF_rf _, rfl⟩
  · refine j_iload_n C dX5_goBack_4 rfl ?_
    refine j_iconst C dX5_goBack_5 ?_
    refine j_icmp_lt (tgt := 12) C dX5_goBack_6 (by decide) (by omega) (by decide) (fun q_2 => ?_) (fun q_2 => ?_)
    · refine j_aload_n C dX5_goBack_12 rfl ?_
      refine j_get (v := si (V 0 6)) C 0 6 (by decide) (en_0 _ _) rfl (by decide) (fun w h => List.mem_cons_of_mem _ (List.mem_append_left _ (List.mem_append_left _ (List.mem_append_left _ (List.mem_append_right _ h))))) (List.mem_of_getElem? (i := 2) rfl) dX5_goBack_13 rfl ?_
      refine j_top hk6 ?_
      refine j_iload_n C dX5_goBack_16 rfl ?_
      refine j_doI (st := []) (j_runS C (kX5_holds kb i.toNat rfl (by omega) (by omega) (by omega)) ggX5_goBack_X5_holds sgX5_holds (List.mem_of_getElem? (i := 8) rfl) (List.mem_of_getElem? (i := 10) rfl) (List.mem_of_getElem? (i := 9) rfl) ⟨by decide, by decide⟩ rfl rfl (Nat.le_of_ble_eq_true rfl) dX5_goBack_17) (fun z_3 V_4 h_5 => ?_)
      obtain ⟨rfl, rfl⟩ := h_5
      refine j_ifb_ne (tgt := 26) C dX5_goBack_20 (by decide) (fun q_6 => ?_) (fun q_6 => ?_)
      · have hkt : r.2.2.2.1 i.toNat = true := (hkb i.toNat (by omega)).symm.trans ‹_›
        refine j_aload_n C dX5_goBack_26 rfl ?_
        refine j_get (v := sr 1) C 0 0 (by decide) (en_0 _ _) rfl (by decide) (fun w h => List.mem_cons_of_mem _ (List.mem_append_left _ (List.mem_append_left _ (List.mem_append_left _ (List.mem_append_right _ h))))) (List.mem_of_getElem? (i := 4) rfl) dX5_goBack_27 rfl ?_
        refine j_aload_n C dX5_goBack_30 rfl ?_
        refine j_get (v := sr 65) C 0 5 (by decide) (en_0 _ _) rfl (by decide) (fun w h => List.mem_cons_of_mem _ (List.mem_append_left _ (List.mem_append_left _ (List.mem_append_left _ (List.mem_append_right _ h))))) (List.mem_of_getElem? (i := 5) rfl) dX5_goBack_31 rfl ?_
        refine j_iload_n C dX5_goBack_34 rfl ?_
        refine j_aald C 65 66 2 (by decide) (en_65 _ _) (by decide) i.toNat (by omega) (by omega) dX5_goBack_35 ?_
        refine j_doV (st := []) (j_runVN C (kX1_copyNet (c := 1) (d := (66 + 3 * i.toNat)) rfl (gb_i (by omega)) (by omega) (g := r.2.2.2.2.1 i.toNat) (hki i.toNat (by omega) hkt).1) ggX5_goBack_X1_copyNet sgX1_copyNet rfl (List.mem_of_getElem? (i := 49) rfl) (List.mem_of_getElem? (i := 13) rfl) (List.mem_of_getElem? (i := 12) rfl) (List.mem_of_getElem? (i := 14) rfl) ⟨by decide, by decide⟩ (by decide) (en_G (c := 1) (by decide) _) rfl rfl rfl (Nat.le_of_ble_eq_true rfl) dX5_goBack_36) (fun V_8 h_9 => ?_)
        refine j_aload_n C dX5_goBack_39 rfl ?_
        refine j_get (v := sr 1) C 0 0 (by decide) (en_0 _ _) rfl (by decide) (fun w h => List.mem_cons_of_mem _ (List.mem_append_left _ (List.mem_append_left _ (List.mem_append_left _ (List.mem_append_right _ h))))) (List.mem_of_getElem? (i := 4) rfl) dX5_goBack_40 rfl ?_
        refine j_aload_n C dX5_goBack_43 rfl ?_
        refine j_get (v := sr 65) C 0 5 (by decide) (en_0 _ _) rfl (by decide) (fun w h => List.mem_cons_of_mem _ (List.mem_append_left _ (List.mem_append_left _ (List.mem_append_left _ (List.mem_append_right _ h))))) (List.mem_of_getElem? (i := 5) rfl) dX5_goBack_44 rfl ?_
        refine j_iload_n C dX5_goBack_47 rfl ?_
        refine j_aald C 65 66 2 (by decide) (en_65 _ _) (by decide) i.toNat (by omega) (by omega) dX5_goBack_48 ?_
        refine j_getN (v := si (V_8 (66 + 3 * i.toNat) 6)) C (66 + 3 * i.toNat) 6 (by omega) (en_G (c := (66 + 3 * i.toNat)) (gb_i (by omega)) _) rfl (by decide) (fun w h => List.mem_cons_of_mem _ (List.mem_append_left _ (List.mem_append_left _ (List.mem_append_right _ h)))) (List.mem_of_getElem? (i := 14) rfl) dX5_goBack_49 rfl ?_
        refine j_top (b := r.2.2.2.2.2 i.toNat) (by rw [h_9.2.2 (66 + 3 * i.toNat) (by omega) (by omega) (by omega)]; exact (hki i.toNat (by omega) hkt).2) ?_
        refine j_putN C 1 6 (by decide) (en_G (c := 1) (by decide) _) (by rw [(en_G (c := 1) (by decide) _)]; rfl) pcl1 (by decide) (fun w h => List.mem_cons_of_mem _ (List.mem_append_left _ (List.mem_append_left _ (List.mem_append_right _ h)))) (List.mem_of_getElem? (i := 14) rfl) rfl rfl (fit_i _) (Nat.le_of_ble_eq_true rfl) dX5_goBack_52 ?_
        refine j_aload_n C dX5_goBack_55 rfl ?_
        refine j_get (v := sr 15) C 0 4 (by decide) (en_0 _ _) rfl (by decide) (fun w h => List.mem_cons_of_mem _ (List.mem_append_left _ (List.mem_append_left _ (List.mem_append_left _ (List.mem_append_right _ h))))) (List.mem_of_getElem? (i := 6) rfl) dX5_goBack_56 rfl ?_
        refine j_iconst C dX5_goBack_59 ?_
        refine j_putN C 15 2 (by decide) (en_15 _ _) rfl pcl4 (by decide) (fun w h => List.mem_cons_of_mem _ (List.mem_append_left _ (List.mem_append_right _ h))) (List.mem_of_getElem? (i := 23) rfl) rfl rfl (fit_i _) (Nat.le_of_ble_eq_true rfl) dX5_goBack_60 ?_
        have h_10 : CG (ms (ms V_8 1 6 (r.2.2.2.2.2 i.toNat)) 15 2 0) (gbS (g, r) i.toNat) ∧ hiF V (ms (ms V_8 1 6 (r.2.2.2.2.2 i.toNat)) 15 2 0) := CG_gb (s := (g, r)) (i := i.toNat) hG rfl (by show V_8 15 1 = _; rw [h_9.2.2 15 (by omega) (by omega) (by omega)]) (gnd_gb h_9.1) rfl (fun c h1 h2 h3 h4 => by rw [ms_ne _ h1, ms_ne _ h2]; exact h_9.2.2 c h2 h3 h4)
        refine j_aload_n C dX5_goBack_63 rfl ?_
        refine j_get (v := sr 4) C 0 1 (by decide) (en_0 _ _) rfl (by decide) (fun w h => List.mem_cons_of_mem _ (List.mem_append_left _ (List.mem_append_left _ (List.mem_append_left _ (List.mem_append_right _ h))))) (List.mem_of_getElem? (i := 7) rfl) dX5_goBack_64 rfl ?_
        refine j_doV (st := []) (j_runVN C (kX3_follow (g := (r.2.2.2.2.1 i.toNat)) (show cls (ms (ms V_8 1 6 (r.2.2.2.2.2 i.toNat)) 15 2 0) (r.2.2.2.2.1 i.toNat) from h_10.1.1) (show okg (r.2.2.2.2.1 i.toNat) from (os.2.2.2.2 i.toNat (by omega) hkt).1)) ggX5_goBack_X3_follow sgX3_follow rfl (List.mem_of_getElem? (i := 42) rfl) (List.mem_of_getElem? (i := 23) rfl) (List.mem_of_getElem? (i := 22) rfl) (List.mem_of_getElem? (i := 24) rfl) ⟨by decide, by decide⟩ (by decide) (en_4 _ _) rfl rfl rfl (Nat.le_of_ble_eq_true rfl) dX5_goBack_67) (fun V_12 h_13 => ?_)
        have h_13 := CR_fol (s := (gbS (g, r) i.toNat)) h_10.1 h_13
        refine j_iconst C dX5_goBack_70 ?_
        refine j_iret C hQ dX5_goBack_71 ?_
        have e9 : dBack (g, r) i = (1, gbS (g, r) i.toNat) := by
          unfold dBack; dsimp only; rw [if_neg (by omega), if_neg (fun z => z hkt)]; rfl
        rw [e9]; exact ⟨h_13.1, (hiF_tr h_10.2 h_13.2), rfl⟩
      · refine j_ldc (n := -1000000003) C (List.mem_of_getElem? (i := 3) rfl) (by decide) dX5_goBack_23 ?_
        refine j_iret C hQ dX5_goBack_25 ?_
        have e9 : dBack (g, r) i = (-1000000003, (g, r)) := by
          unfold dBack; dsimp only; rw [if_neg (by omega), if_pos (by have e := hkb i.toNat (by omega); have q : kb.testBit i.toNat = false := ‹_›; rw [q] at e; intro z; exact absurd (e.trans z) (by decide))]
        rw [e9]; exact ⟨hR, hiF_rf _, rfl⟩
    · refine j_ldc (n := -1000000001) C (List.mem_of_getElem? (i := 1) rfl) (by decide) dX5_goBack_9 ?_
      refine j_iret C hQ dX5_goBack_11 ?_
      have e9 : dBack (g, r) i = (-1000000001, (g, r)) := by
        unfold dBack; dsimp only; rw [if_pos (by omega)]
      rw [e9]; exact ⟨hR, hiF_rf _, rfl⟩
def rX5_drift : Room := { frames := 4, cells := 0, slots := 0, locals := 95 }
theorem sgX5_drift : sg yX5_drift wsX5_drift cX5_drift 5 (some .int) rX5_drift 1 := ⟨⟨_, rfl⟩, rfl, rfl, by decide, by decide, by decide +kernel⟩
set_option maxHeartbeats 4000000 in
set_option maxRecDepth 100000 in
theorem lpX5_drift {O : OmT} {F : PhT} {V : Mem} (C : cx O F RX5 cX5_drift 5 (some .int) wsX5_drift) {post : Int → Mem → Prop} (hQ : qI O F post) {n : Nat} {sF : St} (hn10 : n ≤ 10) (hpo : ∀ z V2, CR V2 sF ∧ hiF V V2 ∧ z = sF.1 0 → post z V2) : ∀ (fuel : Nat) (k : Nat) (g : Nat → Int) (r : Rt) (W : Mem), (CG W (g, r)) → (okS (g, r)) → (hiF V W) → (k ≤ n) → (drf (n - k) (g, r) = sF) → (n + 1 = k + fuel) → J O F rX5_drift 5 W 16 [(0, sr 0), (1, si (n : Int)), (2, si (k : Int))] [] := by
  intro fuel
  induction fuel with
  | zero => intro k g r W hG os hW hkn hfin hf; exfalso; omega
  | succ fuel ih =>
    intro k g r W hG os hW hkn hfin hf
    have ok : okg g := os.1
    have n1 := ok.n
    have hc : cls W g := hG.1
    have hdp : r.2.2.1.1 ≤ 16 := os.2.2.2.1.1
    have hsd : 0 ≤ r.1 ∧ r.1 < 2147483648 := os.2.1
    refine j_iload_n C dX5_drift_16 rfl ?_
    refine j_iload_n C dX5_drift_17 rfl ?_
    refine j_icmp_ge (tgt := 91) C dX5_drift_18 (by decide) (by omega) (by omega) (fun q_1 => ?_) (fun q_1 => ?_)
    · have e1 : drf (n - k) (g, r) = (g, r) := by first | (rw [show n - k = 0 by omega]; rfl) | (cases hz : n - k with | zero => rfl | succ m => show (if g 0 < 10 then _ else _) = _; rw [if_neg (by omega)])
      rw [e1] at hfin; subst hfin
      have hGG : CG W (g, r) ∧ hiF W W := ⟨hG, hiF_rf _⟩
      refine j_aload_n C dX5_drift_91 rfl ?_
      refine j_get (v := sr 4) C 0 1 (by decide) (en_0 _ _) rfl (by decide) (fun w h => List.mem_cons_of_mem _ (List.mem_append_left _ (List.mem_append_left _ (List.mem_append_left _ (List.mem_append_right _ h))))) (List.mem_of_getElem? (i := 4) rfl) dX5_drift_92 rfl ?_
      refine j_doV (st := []) (j_runVN C (kX3_follow (g := g) (show cls W g from hGG.1.1) ok) ggX5_drift_X3_follow sgX3_follow rfl (List.mem_of_getElem? (i := 42) rfl) (List.mem_of_getElem? (i := 37) rfl) (List.mem_of_getElem? (i := 36) rfl) (List.mem_of_getElem? (i := 38) rfl) ⟨by decide, by decide⟩ (by decide) (en_4 _ _) rfl rfl rfl (Nat.le_of_ble_eq_true rfl) dX5_drift_95) (fun V_3 h_4 => ?_)
      have h_4 := CR_fol (s := (g, r)) hGG.1 h_4
      refine j_aload_n C dX5_drift_98 rfl ?_
      refine j_get (v := sr 1) C 0 0 (by decide) (en_0 _ _) rfl (by decide) (fun w h => List.mem_cons_of_mem _ (List.mem_append_left _ (List.mem_append_left _ (List.mem_append_left _ (List.mem_append_right _ h))))) (List.mem_of_getElem? (i := 2) rfl) dX5_drift_99 rfl ?_
      refine j_getN (v := si (V_3 1 2)) C 1 2 (by decide) (en_G (c := 1) (by decide) _) rfl (by decide) (fun w h => List.mem_cons_of_mem _ (List.mem_append_left _ (List.mem_append_left _ (List.mem_append_right _ h)))) (List.mem_of_getElem? (i := 7) rfl) dX5_drift_102 rfl ?_
      refine j_top (b := g 0) h_4.1.1.1.1 ?_
      refine j_iret C hQ dX5_drift_105 ?_
      exact hpo _ _ ⟨h_4.1, (hiF_tr hW h_4.2), rfl⟩
    · refine j_aload_n C dX5_drift_21 rfl ?_
      refine j_get (v := sr 1) C 0 0 (by decide) (en_0 _ _) rfl (by decide) (fun w h => List.mem_cons_of_mem _ (List.mem_append_left _ (List.mem_append_left _ (List.mem_append_left _ (List.mem_append_right _ h))))) (List.mem_of_getElem? (i := 2) rfl) dX5_drift_22 rfl ?_
      refine j_getN (v := si (W 1 2)) C 1 2 (by decide) (en_G (c := 1) (by decide) _) rfl (by decide) (fun w h => List.mem_cons_of_mem _ (List.mem_append_left _ (List.mem_append_left _ (List.mem_append_right _ h)))) (List.mem_of_getElem? (i := 7) rfl) dX5_drift_25 rfl ?_
      refine j_top (b := g 0) hc.1 ?_
      refine j_bipush C dX5_drift_28 (by decide) ?_
      refine j_icmp_ge (tgt := 91) C dX5_drift_30 (by decide) (by have := ok.1; omega) (by decide) (fun q_5 => ?_) (fun q_5 => ?_)
      · have e1 : drf (n - k) (g, r) = (g, r) := by first | (rw [show n - k = 0 by omega]; rfl) | (cases hz : n - k with | zero => rfl | succ m => show (if g 0 < 10 then _ else _) = _; rw [if_neg (by omega)])
        rw [e1] at hfin; subst hfin
        have hGG : CG W (g, r) ∧ hiF W W := ⟨hG, hiF_rf _⟩
        refine j_aload_n C dX5_drift_91 rfl ?_
        refine j_get (v := sr 4) C 0 1 (by decide) (en_0 _ _) rfl (by decide) (fun w h => List.mem_cons_of_mem _ (List.mem_append_left _ (List.mem_append_left _ (List.mem_append_left _ (List.mem_append_right _ h))))) (List.mem_of_getElem? (i := 4) rfl) dX5_drift_92 rfl ?_
        refine j_doV (st := []) (j_runVN C (kX3_follow (g := g) (show cls W g from hGG.1.1) ok) ggX5_drift_X3_follow sgX3_follow rfl (List.mem_of_getElem? (i := 42) rfl) (List.mem_of_getElem? (i := 37) rfl) (List.mem_of_getElem? (i := 36) rfl) (List.mem_of_getElem? (i := 38) rfl) ⟨by decide, by decide⟩ (by decide) (en_4 _ _) rfl rfl rfl (Nat.le_of_ble_eq_true rfl) dX5_drift_95) (fun V_7 h_8 => ?_)
        have h_8 := CR_fol (s := (g, r)) hGG.1 h_8
        refine j_aload_n C dX5_drift_98 rfl ?_
        refine j_get (v := sr 1) C 0 0 (by decide) (en_0 _ _) rfl (by decide) (fun w h => List.mem_cons_of_mem _ (List.mem_append_left _ (List.mem_append_left _ (List.mem_append_left _ (List.mem_append_right _ h))))) (List.mem_of_getElem? (i := 2) rfl) dX5_drift_99 rfl ?_
        refine j_getN (v := si (V_7 1 2)) C 1 2 (by decide) (en_G (c := 1) (by decide) _) rfl (by decide) (fun w h => List.mem_cons_of_mem _ (List.mem_append_left _ (List.mem_append_left _ (List.mem_append_right _ h)))) (List.mem_of_getElem? (i := 7) rfl) dX5_drift_102 rfl ?_
        refine j_top (b := g 0) h_8.1.1.1.1 ?_
        refine j_iret C hQ dX5_drift_105 ?_
        exact hpo _ _ ⟨h_8.1, (hiF_tr hW h_8.2), rfl⟩
      · refine j_aload_n C dX5_drift_33 rfl ?_
        refine j_get (v := sr 1) C 0 0 (by decide) (en_0 _ _) rfl (by decide) (fun w h => List.mem_cons_of_mem _ (List.mem_append_left _ (List.mem_append_left _ (List.mem_append_left _ (List.mem_append_right _ h))))) (List.mem_of_getElem? (i := 2) rfl) dX5_drift_34 rfl ?_
        refine j_doI (st := []) (j_runVN C (kX1_drawPlace (sd := r.1) hG.2.1 hsd) ggX5_drift_X1_drawPlace sgX1_drawPlace rfl (List.mem_of_getElem? (i := 46) rfl) (List.mem_of_getElem? (i := 6) rfl) (List.mem_of_getElem? (i := 5) rfl) (List.mem_of_getElem? (i := 7) rfl) ⟨by decide, by decide⟩ (by decide) (en_G (c := 1) (by decide) _) rfl rfl rfl (Nat.le_of_ble_eq_true rfl) dX5_drift_37) (fun z_9 V_10 h_11 => ?_)
        obtain ⟨rfl, rfl⟩ := h_11
        refine j_istore_n (lv' := [(0, sr 0), (1, si (n : Int)), (2, si (k : Int)), (3, si (plc (nxs r.1)))]) C dX5_drift_40 (by decide) rfl ?_
        refine j_aload_n C dX5_drift_41 rfl ?_
        refine j_get (v := sr 1) C 0 0 (by decide) (en_0 _ _) rfl (by decide) (fun w h => List.mem_cons_of_mem _ (List.mem_append_left _ (List.mem_append_left _ (List.mem_append_left _ (List.mem_append_right _ h))))) (List.mem_of_getElem? (i := 2) rfl) dX5_drift_42 rfl ?_
        refine j_doI (st := []) (j_runVN C (kX1_drawPlace (sd := (nxs r.1)) rfl (nxs_rg r.1)) ggX5_drift_X1_drawPlace sgX1_drawPlace rfl (List.mem_of_getElem? (i := 46) rfl) (List.mem_of_getElem? (i := 6) rfl) (List.mem_of_getElem? (i := 5) rfl) (List.mem_of_getElem? (i := 7) rfl) ⟨by decide, by decide⟩ (by decide) (en_G (c := 1) (by decide) _) rfl rfl rfl (Nat.le_of_ble_eq_true rfl) dX5_drift_45) (fun z_12 V_13 h_14 => ?_)
        obtain ⟨rfl, rfl⟩ := h_14
        refine j_mem (V2 := (ms W 1 6 (nxs (nxs r.1)))) (ms_same _ _ _ _ _) ?_
        have h_15 := CG_sd (s := (g, r)) (x := nxs (nxs r.1)) hG
        refine j_istore (lv' := [(0, sr 0), (1, si (n : Int)), (2, si (k : Int)), (3, si (plc (nxs r.1))), (4, si (plc (nxs (nxs r.1))))]) C dX5_drift_48 (by decide) rfl ?_
        refine j_aload_n C dX5_drift_50 rfl ?_
        refine j_get (v := sr 1) C 0 0 (by decide) (en_0 _ _) rfl (by decide) (fun w h => List.mem_cons_of_mem _ (List.mem_append_left _ (List.mem_append_left _ (List.mem_append_left _ (List.mem_append_right _ h))))) (List.mem_of_getElem? (i := 2) rfl) dX5_drift_51 rfl ?_
        refine j_iload_n C dX5_drift_54 rfl ?_
        refine j_iload C dX5_drift_55 rfl ?_
        refine j_doI (st := []) (j_runVN C (kX1_whoStandsAt (g := g) (show cls (ms W 1 6 (nxs (nxs r.1))) g from h_15.1.1) ok (by have := plc_rg (nxs_rg r.1); have := plc_rg (nxs_rg (nxs r.1)); omega) (by have := plc_rg (nxs_rg r.1); have := plc_rg (nxs_rg (nxs r.1)); omega)) ggX5_drift_X1_whoStandsAt sgX1_whoStandsAt rfl (List.mem_of_getElem? (i := 38) rfl) (List.mem_of_getElem? (i := 6) rfl) (List.mem_of_getElem? (i := 14) rfl) (List.mem_of_getElem? (i := 15) rfl) ⟨by decide, by decide⟩ (by decide) (en_G (c := 1) (by decide) _) rfl rfl rfl (Nat.le_of_ble_eq_true rfl) dX5_drift_57) (fun z_16 V_17 h_18 => ?_)
        obtain ⟨rfl, rfl⟩ := h_18
        refine j_iconst C dX5_drift_60 ?_
        refine j_icmp_ne (tgt := 85) C dX5_drift_61 (by decide) (by have := gW_rg g (plc (nxs r.1)) (plc (nxs (nxs r.1))) (gN g); omega) (by decide) (fun q_19 => ?_) (fun q_19 => ?_)
        · refine j_iinc (lv' := [(0, sr 0), (1, si (n : Int)), (2, si ((k : Int) + 1)), (3, si (plc (nxs r.1))), (4, si (plc (nxs (nxs r.1))))]) C dX5_drift_85 rfl (by decide) rfl ?_
          refine j_goto (tgt := 16) C dX5_drift_88 (by decide) ?_
          have hm : n - k = (n - (k + 1)) + 1 := by omega
          have e1 : dr1 (g, r) = (sds (g, r) (nxs (nxs r.1))) := by unfold dr1; dsimp only; rw [if_neg ‹_›]
          have e2 : drf (n - (k + 1)) (sds (g, r) (nxs (nxs r.1))) = sF := by rw [← hfin, hm, ← e1]; show _ = (if g 0 < 10 then _ else _); rw [if_pos (by omega)]
          have o2 : okS (sds (g, r) (nxs (nxs r.1))) := by rw [← e1]; exact dr1_ok os (by show g 0 < 10; omega)
          refine j_pick (lv' := [(0, sr 0), (1, si (n : Int)), (2, si ((k : Int) + 1))]) [0, 1, 2] rfl ?_
          exact ih (k + 1) g (sds (g, r) (nxs (nxs r.1))).2 (ms W 1 6 (nxs (nxs r.1))) h_15.1 o2 (hiF_tr hW h_15.2) (by omega) e2 (by omega)
        · refine j_aload_n C dX5_drift_64 rfl ?_
          refine j_get (v := sr 15) C 0 4 (by decide) (en_0 _ _) rfl (by decide) (fun w h => List.mem_cons_of_mem _ (List.mem_append_left _ (List.mem_append_left _ (List.mem_append_left _ (List.mem_append_right _ h))))) (List.mem_of_getElem? (i := 3) rfl) dX5_drift_65 rfl ?_
          refine j_aload_n C dX5_drift_68 rfl ?_
          refine j_get (v := sr 1) C 0 0 (by decide) (en_0 _ _) rfl (by decide) (fun w h => List.mem_cons_of_mem _ (List.mem_append_left _ (List.mem_append_left _ (List.mem_append_left _ (List.mem_append_right _ h))))) (List.mem_of_getElem? (i := 2) rfl) dX5_drift_69 rfl ?_
          refine j_doV (st := []) (j_runVN C (kX4_remember (s := (sds (g, r) (nxs (nxs r.1)))) h_15.1 hdp) ggX5_drift_X4_remember sgX4_remember rfl (List.mem_of_getElem? (i := 39) rfl) (List.mem_of_getElem? (i := 21) rfl) (List.mem_of_getElem? (i := 20) rfl) (List.mem_of_getElem? (i := 22) rfl) ⟨by decide, by decide⟩ (by decide) (en_15 _ _) rfl rfl rfl (Nat.le_of_ble_eq_true rfl) dX5_drift_72) (fun V_21 h_22 => ?_)
          refine j_aload_n C dX5_drift_75 rfl ?_
          refine j_get (v := sr 1) C 0 0 (by decide) (en_0 _ _) rfl (by decide) (fun w h => List.mem_cons_of_mem _ (List.mem_append_left _ (List.mem_append_left _ (List.mem_append_left _ (List.mem_append_right _ h))))) (List.mem_of_getElem? (i := 2) rfl) dX5_drift_76 rfl ?_
          refine j_iload_n C dX5_drift_79 rfl ?_
          refine j_iload C dX5_drift_80 rfl ?_
          refine j_doV (st := []) (j_runVN C (kX1_add (g := g) (r := (rem (sds (g, r) (nxs (nxs r.1)))).2) h_22.1 ok (by omega)) ggX5_drift_X1_add sgX1_add rfl (List.mem_of_getElem? (i := 41) rfl) (List.mem_of_getElem? (i := 6) rfl) (List.mem_of_getElem? (i := 33) rfl) (List.mem_of_getElem? (i := 34) rfl) ⟨by decide, by decide⟩ (by decide) (en_G (c := 1) (by decide) _) rfl rfl rfl (Nat.le_of_ble_eq_true rfl) dX5_drift_82) (fun V_24 h_25 => ?_)
          have h_25 : CG V_24 (stg (rem (sds (g, r) (nxs (nxs r.1)))) (gAdd g (plc (nxs r.1)) (plc (nxs (nxs r.1))))) ∧ hiF _ V_24 := h_25
          refine j_iinc (lv' := [(0, sr 0), (1, si (n : Int)), (2, si ((k : Int) + 1)), (3, si (plc (nxs r.1))), (4, si (plc (nxs (nxs r.1))))]) C dX5_drift_85 rfl (by decide) rfl ?_
          refine j_goto (tgt := 16) C dX5_drift_88 (by decide) ?_
          have hm : n - k = (n - (k + 1)) + 1 := by omega
          have e1 : dr1 (g, r) = (stg (rem (sds (g, r) (nxs (nxs r.1)))) (gAdd g (plc (nxs r.1)) (plc (nxs (nxs r.1))))) := by unfold dr1; dsimp only; rw [if_pos ‹_›]
          have e2 : drf (n - (k + 1)) (stg (rem (sds (g, r) (nxs (nxs r.1)))) (gAdd g (plc (nxs r.1)) (plc (nxs (nxs r.1))))) = sF := by rw [← hfin, hm, ← e1]; show _ = (if g 0 < 10 then _ else _); rw [if_pos (by omega)]
          have o2 : okS (stg (rem (sds (g, r) (nxs (nxs r.1)))) (gAdd g (plc (nxs r.1)) (plc (nxs (nxs r.1))))) := by rw [← e1]; exact dr1_ok os (by show g 0 < 10; omega)
          refine j_pick (lv' := [(0, sr 0), (1, si (n : Int)), (2, si ((k : Int) + 1))]) [0, 1, 2] rfl ?_
          exact ih (k + 1) (gAdd g (plc (nxs r.1)) (plc (nxs (nxs r.1)))) (stg (rem (sds (g, r) (nxs (nxs r.1)))) (gAdd g (plc (nxs r.1)) (plc (nxs (nxs r.1))))).2 V_24 h_25.1 o2 (hiF_tr (hiF_tr (hiF_tr hW h_15.2) h_22.2) h_25.2) (by omega) e2 (by omega)
set_option maxHeartbeats 4000000 in
set_option maxRecDepth 100000 in
theorem kX5_drift {O : OmT} {l : Launch} {V : Mem} {g : Nat → Int} {r : Rt} (hR : CR V (g, r)) (os : okS (g, r)) (n : Int) (hn : -2147483648 ≤ n ∧ n < 2147483648) : MI O l yX5_drift wsX5_drift rX5_drift [sr 0, si n] V (fun z V2 => CR V2 (dDrift (g, r) n).2 ∧ hiF V V2 ∧ z = (dDrift (g, r) n).1) := by
  have ok : okg g := os.1
  have n1 := ok.n
  have a1 := ok.a
  have hn : net V g := hR.1
  have hc : cls V g := hn.1
  have hG : CG V (g, r) := hR.2
  have hdp : r.2.2.1.1 ≤ 16 := os.2.2.2.1.1
  have hbk : r.2.1.1 ≤ 20 := os.2.2.1.1
  refine mi_of (cc := cX5_drift) (nL := 5) (rt := (some .int)) (by decide) rfl rfl (Nat.le_of_ble_eq_true rfl) (fun F hF C hQ => ?_)
  subst hF
  change J O F rX5_drift 5 V 0 [(0, sr 0), (1, si n)] []
  refine j_iload_n C dX5_drift_0 rfl ?_
  refine j_iconst C dX5_drift_1 ?_
  refine j_icmp_lt (tgt := 11) C dX5_drift_2 (by decide) (by omega) (by decide) (fun q_1 => ?_) (fun q_1 => ?_)
  · refine j_ldc (n := -1000000002) C (List.mem_of_getElem? (i := 1) rfl) (by decide) dX5_drift_11 ?_
    refine j_iret C hQ dX5_drift_13 ?_
    have e9 : dDrift (g, r) n = (-1000000002, (g, r)) := by
      unfold dDrift; rw [if_pos (by omega)]
    rw [e9]; exact ⟨hR, hiF_rf _, rfl⟩
  · refine j_iload_n C dX5_drift_5 rfl ?_
    refine j_bipush C dX5_drift_6 (by decide) ?_
    refine j_icmp_le (tgt := 14) C dX5_drift_8 (by decide) (by omega) (by decide) (fun q_2 => ?_) (fun q_2 => ?_)
    · refine j_iconst C dX5_drift_14 ?_
      refine j_istore_n (lv' := [(0, sr 0), (1, si n), (2, si 0)]) C dX5_drift_15 (by decide) rfl ?_
      obtain ⟨m, hm⟩ : ∃ m : Nat, n = (m : Int) := ⟨n.toNat, by omega⟩
      subst hm
      have e9 : dDrift (g, r) (m : Int) = ((drf m (g, r)).1 0, drf m (g, r)) := by unfold dDrift; rw [if_neg (by omega), Int.toNat_natCast]
      exact lpX5_drift C hQ (n := m) (sF := drf m (g, r)) (by omega) (fun z V2 h => by rw [e9]; exact h) (m + 1) 0 g r V hG os (hiF_rf _) (Nat.zero_le _) rfl (by omega)
    · refine j_ldc (n := -1000000002) C (List.mem_of_getElem? (i := 1) rfl) (by decide) dX5_drift_11 ?_
      refine j_iret C hQ dX5_drift_13 ?_
      have e9 : dDrift (g, r) n = (-1000000002, (g, r)) := by
        unfold dDrift; rw [if_pos (by omega)]
      rw [e9]; exact ⟨hR, hiF_rf _, rfl⟩
