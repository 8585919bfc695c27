theorem eA_row {O : OmT} {be : Nat → Nat} {d N : Nat} (hd : ∀ r : Nat → Int, en (oA O be) d r = .inl (O.2.1, N, .inl (fun i => iI (r i)))) (h1 : ¬ isGb d = true) (h2 : d ≠ 73) : eA O be d = .inl (O.2.1, N, .inl (fun _ => 0)) := by
  unfold eA
  rw [hd]
  congr 4
  funext i
  rw [V0_0 (fun h => h1 h.2) (fun h => h2 h.1)]
  exact iI_0
theorem V0_z {c : Nat} (h1 : ¬ isGb c = true) (h2 : c ≠ 73) (k : Nat) : V0 c k = 0 := V0_0 (fun h => h1 h.2) (fun h => h2 h.1)
theorem V0_g {c k : Nat} (h1 : isGb c = true) (h2 : k ≠ 4) : V0 c k = 0 := V0_0 (fun h => h2 h.1) (fun h => by rw [h.1] at h1; revert h1; decide)
theorem V0_4 {c : Nat} (h1 : isGb c = true) : V0 c 4 = 400 := if_pos (Or.inl ⟨rfl, h1⟩)
theorem iI_400 : iI 400 = 400 := by decide
def rX1_init : Room := { frames := 1, cells := 2, slots := 20, locals := 12 }
theorem sgX1_init : sgC yX1_init wsX1_init cX1_init 1 rX1_init 0 2 20 := ⟨⟨_, rfl⟩, rfl, rfl, rfl, by decide, by decide, by decide +kernel⟩
set_option maxHeartbeats 4000000 in
set_option maxRecDepth 100000 in
theorem ctX1 (O : OmT) (l : Launch) {c : Nat} (hc : isGb c = true) (a0  sz : Nat) : CT O l yX1_init wsX1_init rX1_init c 3 [.ref a0] a0 sz (.inr (1, [.null, .null, .int 0, .int 0, .int 0, .int 0, .int 0])) (fun _ => True) 2 20 := by
  refine Met.ofW (cc := cX1_init) (maxL := 1) (ret := none) (by decide) rfl ?_
  intro p e s m args below meth cd s₁ B hml hv
  obtain ⟨rfl, hsz, hP, hK, hnw, hao⟩ := hv
  have hx := B.exec
  have hb := B.bytes
  have hr := B.returns
  have hts := atoms_spec (ws := wsX1_init) B.pre
  have hown : s.vm.findClass RX1 = some m.cls := findClass_of_methodNamed B.named
  have hlocks := B.notSynchronized
  have hin : meth.name = "<init>" := (name_of_methodNamed B.named B.method).1
  subst hsz
  have hD : va_D (va_A [(a0, .inr (1, [.null, .null, .int 0, .int 0, .int 0, .int 0, .int 0]))] s.heap.size) [(a0, .inr (1, [.null, .null, .int 0, .int 0, .int 0, .int 0, .int 0]))] := one_D (Or.inl ⟨0, _, rfl⟩)
  unfold ctB
  generalize hAe : va_A [(a0, .inr (1, [.null, .null, .int 0, .int 0, .int 0, .int 0, .int 0]))] s.heap.size = A at hD ⊢
  have hA : ∀ q : Nat, s.heap.size ≤ q → A q := fun q h => by rw [← hAe]; exact Or.inr h
  have hS : va_S A s.heap s.heap [] := va_S.rf
  have hP : va_P O.1 vwCl [(a0, .inr (1, [.null, .null, .int 0, .int 0, .int 0, .int 0, .int 0]))] s.heap := hP
  have hl := lv_entry ([.ref a0]) (n := 1) (Nat.le_of_ble_eq_true rfl)
  rw [lg_entry_eq]
  generalize (lg_sl ([.ref a0]) ++ List.replicate (1 - (lg_sl ([.ref a0])).length) Slot.unset).toArray = ls at hl ⊢
  have hl : lv_has ls 1 [(0, .ref a0)] := hl
  refine lv_aload_n hx hb dX1_init_0 rfl (lv_at hl 0 rfl) ?_
  refine W.objInit hx hb hown (hts _ (List.mem_of_getElem? (i := 1) rfl)) (hts _ (List.mem_of_getElem? (i := 2) rfl)) (hts _ (List.mem_of_getElem? (i := 3) rfl)) rfl (by rw [hml]; exact hl.1) rfl dX1_init_1 (Nat.le_of_ble_eq_true rfl) (Nat.le_of_ble_eq_true rfl) ?_
  refine W.eq (g2 := F0 m 4 ls []) rfl ?_
  refine lv_aload_n hx hb dX1_init_4 rfl (lv_at hl 0 rfl) ?_
  refine lv_bipush (v := 10) hx hb dX1_init_5 (by decide) ?_
  refine k_newI hx hb (hts _ (List.mem_of_getElem? (i := 4) rfl)) hK hP hD hS hA 10 (by decide) (by decide) (Nat.le_of_ble_eq_true rfl) (Nat.le_of_ble_eq_true rfl) (Nat.le_of_ble_eq_true rfl) dX1_init_7 (fun q1 H hP hD hS => ?_)
  have hP : va_P O.1 vwCl [(a0, .inr (1, [.null, .null, .int 0, .int 0, .int 0, .int 0, .int 0])), (q1, .inl (O.2.1, 10, .inl (fun _ => 0)))] H := hP
  have hD : va_D A [(a0, .inr (1, [.null, .null, .int 0, .int 0, .int 0, .int 0, .int 0])), (q1, .inl (O.2.1, 10, .inl (fun _ => 0)))] := hD
  refine W.widen (k := 1) (n := 10) (Nat.le_of_ble_eq_true rfl) (Nat.le_of_ble_eq_true rfl) ?_
  refine va_putF (D := O.1) (ci := 1) (v := .ref q1) (ty := tyX1 0) (C := RX1) (T := TX1) (N := 7) hx hb hts (fun w h => List.mem_cons_of_mem _ (List.mem_append_right _ h)) tyX1 tyX1_ok nmX1 hown hK hP hD hS 0 rfl rfl 0 (by decide) (hts _ (List.mem_of_getElem? (i := 5) rfl)) (fun _ h9 => h9) rfl hin rfl (tyX1_ok 0 (by decide)) rfl rfl (Nat.le_of_ble_eq_true rfl) dX1_init_9 (fun H locs hP hD hS => ?_)
  have hP : va_P O.1 vwCl [(a0, .inr (1, [.ref q1, .null, .int 0, .int 0, .int 0, .int 0, .int 0])), (q1, .inl (O.2.1, 10, .inl (fun _ => 0)))] H := hP
  have hD : va_D A [(a0, .inr (1, [.ref q1, .null, .int 0, .int 0, .int 0, .int 0, .int 0])), (q1, .inl (O.2.1, 10, .inl (fun _ => 0)))] := hD
  refine lv_aload_n hx hb dX1_init_12 rfl (lv_at hl 0 rfl) ?_
  refine lv_bipush (v := 10) hx hb dX1_init_13 (by decide) ?_
  refine k_newI hx hb (hts _ (List.mem_of_getElem? (i := 4) rfl)) hK hP hD hS hA 10 (by decide) (by decide) (Nat.le_of_ble_eq_true rfl) (Nat.le_of_ble_eq_true rfl) (Nat.le_of_ble_eq_true rfl) dX1_init_15 (fun q2 H hP hD hS => ?_)
  have hP : va_P O.1 vwCl [(a0, .inr (1, [.ref q1, .null, .int 0, .int 0, .int 0, .int 0, .int 0])), (q1, .inl (O.2.1, 10, .inl (fun _ => 0))), (q2, .inl (O.2.1, 10, .inl (fun _ => 0)))] H := hP
  have hD : va_D A [(a0, .inr (1, [.ref q1, .null, .int 0, .int 0, .int 0, .int 0, .int 0])), (q1, .inl (O.2.1, 10, .inl (fun _ => 0))), (q2, .inl (O.2.1, 10, .inl (fun _ => 0)))] := hD
  refine W.widen (k := 2) (n := 20) (Nat.le_of_ble_eq_true rfl) (Nat.le_of_ble_eq_true rfl) ?_
  refine va_putF (D := O.1) (ci := 1) (v := .ref q2) (ty := tyX1 1) (C := RX1) (T := TX1) (N := 7) hx hb hts (fun w h => List.mem_cons_of_mem _ (List.mem_append_right _ h)) tyX1 tyX1_ok nmX1 hown hK hP hD hS 0 rfl rfl 1 (by decide) (hts _ (List.mem_of_getElem? (i := 6) rfl)) (fun _ h9 => h9) rfl hin rfl (tyX1_ok 1 (by decide)) rfl rfl (Nat.le_of_ble_eq_true rfl) dX1_init_17 (fun H locs hP hD hS => ?_)
  have hP : va_P O.1 vwCl [(a0, .inr (1, [.ref q1, .ref q2, .int 0, .int 0, .int 0, .int 0, .int 0])), (q1, .inl (O.2.1, 10, .inl (fun _ => 0))), (q2, .inl (O.2.1, 10, .inl (fun _ => 0)))] H := hP
  have hD : va_D A [(a0, .inr (1, [.ref q1, .ref q2, .int 0, .int 0, .int 0, .int 0, .int 0])), (q1, .inl (O.2.1, 10, .inl (fun _ => 0))), (q2, .inl (O.2.1, 10, .inl (fun _ => 0)))] := hD
  refine lv_aload_n hx hb dX1_init_20 rfl (lv_at hl 0 rfl) ?_
  refine lv_iconst (v := 0) hx hb dX1_init_21 (by decide) ?_
  refine va_put (D := O.1) (ci := 1) (v := .int 0) (ty := .int) (C := RX1) (T := TX1) (N := 7) hx hb hts (fun w h => List.mem_cons_of_mem _ (List.mem_append_right _ h)) tyX1 tyX1_ok nmX1 hown hK hP hD hS 0 rfl rfl 2 (by decide) (hts _ (List.mem_of_getElem? (i := 7) rfl)) (fun _ h9 => h9) rfl (tyX1_ok 2 (by decide)) rfl rfl (Nat.le_of_ble_eq_true rfl) dX1_init_22 (fun H locs hP hD hS => ?_)
  have hP : va_P O.1 vwCl [(a0, .inr (1, [.ref q1, .ref q2, .int 0, .int 0, .int 0, .int 0, .int 0])), (q1, .inl (O.2.1, 10, .inl (fun _ => 0))), (q2, .inl (O.2.1, 10, .inl (fun _ => 0)))] H := hP
  have hD : va_D A [(a0, .inr (1, [.ref q1, .ref q2, .int 0, .int 0, .int 0, .int 0, .int 0])), (q1, .inl (O.2.1, 10, .inl (fun _ => 0))), (q2, .inl (O.2.1, 10, .inl (fun _ => 0)))] := hD
  refine lv_aload_n hx hb dX1_init_25 rfl (lv_at hl 0 rfl) ?_
  refine lv_iconst (v := 0) hx hb dX1_init_26 (by decide) ?_
  refine va_put (D := O.1) (ci := 1) (v := .int 0) (ty := .int) (C := RX1) (T := TX1) (N := 7) hx hb hts (fun w h => List.mem_cons_of_mem _ (List.mem_append_right _ h)) tyX1 tyX1_ok nmX1 hown hK hP hD hS 0 rfl rfl 3 (by decide) (hts _ (List.mem_of_getElem? (i := 8) rfl)) (fun _ h9 => h9) rfl (tyX1_ok 3 (by decide)) rfl rfl (Nat.le_of_ble_eq_true rfl) dX1_init_27 (fun H locs hP hD hS => ?_)
  have hP : va_P O.1 vwCl [(a0, .inr (1, [.ref q1, .ref q2, .int 0, .int 0, .int 0, .int 0, .int 0])), (q1, .inl (O.2.1, 10, .inl (fun _ => 0))), (q2, .inl (O.2.1, 10, .inl (fun _ => 0)))] H := hP
  have hD : va_D A [(a0, .inr (1, [.ref q1, .ref q2, .int 0, .int 0, .int 0, .int 0, .int 0])), (q1, .inl (O.2.1, 10, .inl (fun _ => 0))), (q2, .inl (O.2.1, 10, .inl (fun _ => 0)))] := hD
  refine lv_aload_n hx hb dX1_init_30 rfl (lv_at hl 0 rfl) ?_
  refine lv_sipush (v := 400) hx hb dX1_init_31 (by decide) ?_
  refine va_put (D := O.1) (ci := 1) (v := .int 400) (ty := .int) (C := RX1) (T := TX1) (N := 7) hx hb hts (fun w h => List.mem_cons_of_mem _ (List.mem_append_right _ h)) tyX1 tyX1_ok nmX1 hown hK hP hD hS 0 rfl rfl 4 (by decide) (hts _ (List.mem_of_getElem? (i := 9) rfl)) (fun _ h9 => h9) rfl (tyX1_ok 4 (by decide)) rfl rfl (Nat.le_of_ble_eq_true rfl) dX1_init_34 (fun H locs hP hD hS => ?_)
  have hP : va_P O.1 vwCl [(a0, .inr (1, [.ref q1, .ref q2, .int 0, .int 0, .int 400, .int 0, .int 0])), (q1, .inl (O.2.1, 10, .inl (fun _ => 0))), (q2, .inl (O.2.1, 10, .inl (fun _ => 0)))] H := hP
  have hD : va_D A [(a0, .inr (1, [.ref q1, .ref q2, .int 0, .int 0, .int 400, .int 0, .int 0])), (q1, .inl (O.2.1, 10, .inl (fun _ => 0))), (q2, .inl (O.2.1, 10, .inl (fun _ => 0)))] := hD
  refine lv_aload_n hx hb dX1_init_37 rfl (lv_at hl 0 rfl) ?_
  refine lv_iconst (v := 0) hx hb dX1_init_38 (by decide) ?_
  refine va_put (D := O.1) (ci := 1) (v := .int 0) (ty := .int) (C := RX1) (T := TX1) (N := 7) hx hb hts (fun w h => List.mem_cons_of_mem _ (List.mem_append_right _ h)) tyX1 tyX1_ok nmX1 hown hK hP hD hS 0 rfl rfl 5 (by decide) (hts _ (List.mem_of_getElem? (i := 10) rfl)) (fun _ h9 => h9) rfl (tyX1_ok 5 (by decide)) rfl rfl (Nat.le_of_ble_eq_true rfl) dX1_init_39 (fun H locs hP hD hS => ?_)
  have hP : va_P O.1 vwCl [(a0, .inr (1, [.ref q1, .ref q2, .int 0, .int 0, .int 400, .int 0, .int 0])), (q1, .inl (O.2.1, 10, .inl (fun _ => 0))), (q2, .inl (O.2.1, 10, .inl (fun _ => 0)))] H := hP
  have hD : va_D A [(a0, .inr (1, [.ref q1, .ref q2, .int 0, .int 0, .int 400, .int 0, .int 0])), (q1, .inl (O.2.1, 10, .inl (fun _ => 0))), (q2, .inl (O.2.1, 10, .inl (fun _ => 0)))] := hD
  refine lv_aload_n hx hb dX1_init_42 rfl (lv_at hl 0 rfl) ?_
  refine lv_iconst (v := 0) hx hb dX1_init_43 (by decide) ?_
  refine va_put (D := O.1) (ci := 1) (v := .int 0) (ty := .int) (C := RX1) (T := TX1) (N := 7) hx hb hts (fun w h => List.mem_cons_of_mem _ (List.mem_append_right _ h)) tyX1 tyX1_ok nmX1 hown hK hP hD hS 0 rfl rfl 6 (by decide) (hts _ (List.mem_of_getElem? (i := 11) rfl)) (fun _ h9 => h9) rfl (tyX1_ok 6 (by decide)) rfl rfl (Nat.le_of_ble_eq_true rfl) dX1_init_44 (fun H locs hP hD hS => ?_)
  have hP : va_P O.1 vwCl [(a0, .inr (1, [.ref q1, .ref q2, .int 0, .int 0, .int 400, .int 0, .int 0])), (q1, .inl (O.2.1, 10, .inl (fun _ => 0))), (q2, .inl (O.2.1, 10, .inl (fun _ => 0)))] H := hP
  have hD : va_D A [(a0, .inr (1, [.ref q1, .ref q2, .int 0, .int 0, .int 400, .int 0, .int 0])), (q1, .inl (O.2.1, 10, .inl (fun _ => 0))), (q2, .inl (O.2.1, 10, .inl (fun _ => 0)))] := hD
  obtain ⟨be, hbe⟩ : ∃ be : Nat → Nat, be = fun i => if i = c then a0 else if i = c + 1 then q1 else q2 := ⟨_, rfl⟩
  have b0 : be c = a0 := by rw [hbe]; exact if_pos rfl
  have b1 : be (c + 1) = q1 := by rw [hbe]; dsimp only; rw [if_neg (by omega), if_pos rfl]
  have b2 : be (c + 2) = q2 := by rw [hbe]; dsimp only; rw [if_neg (by omega), if_neg (by omega)]
  have hcr := hc
  simp only [isGb, Bool.or_eq_true, Bool.and_eq_true, beq_iff_eq, decide_eq_true_eq] at hcr
  have n1 : ¬ isGb (c + 1) = true := by simp only [isGb, Bool.or_eq_true, Bool.and_eq_true, beq_iff_eq, decide_eq_true_eq]; omega
  have n2 : ¬ isGb (c + 2) = true := by simp only [isGb, Bool.or_eq_true, Bool.and_eq_true, beq_iff_eq, decide_eq_true_eq]; omega
  have e0 : eA O be c = .inr (1, [.ref q1, .ref q2, .int 0, .int 0, .int 400, .int 0, .int 0]) := by
    unfold eA
    rw [en_G hc]
    dsimp only
    rw [b1, b2, V0_g hc (by decide), V0_g hc (by decide), V0_4 hc, V0_g hc (by decide), V0_g hc (by decide), iI_0, iI_400]
  have e1 : eA O be (c + 1) = .inl (O.2.1, 10, .inl (fun _ => 0)) := eA_row (fun r => en_Gx hc (Or.inl rfl) r) n1 (by omega)
  have e2 : eA O be (c + 2) = .inl (O.2.1, 10, .inl (fun _ => 0)) := eA_row (fun r => en_Gx hc (Or.inr rfl) r) n2 (by omega)
  have hw : wr be (eA O be) c 3 = [(a0, .inr (1, [.ref q1, .ref q2, .int 0, .int 0, .int 400, .int 0, .int 0])), (q1, .inl (O.2.1, 10, .inl (fun _ => 0))), (q2, .inl (O.2.1, 10, .inl (fun _ => 0)))] := by
    show [(be c, eA O be c), (be (c + 1), eA O be (c + 1)), (be (c + 2), eA O be (c + 2))] = _
    rw [b0, b1, b2, e0, e1, e2]
  rw [← hw] at hP hD
  exact W.vret hx hb hr (fun t ht hW => ⟨⟨be, rfl, ⟨b0, trivial⟩, by rw [ht]; exact hP, hD⟩, hS.F ht⟩) hS.2.2 dX1_init_47
def rX3_init : Room := { frames := 1, cells := 3, slots := 30, locals := 12 }
theorem sgX3_init : sgC yX3_init wsX3_init cX3_init 2 rX3_init 1 3 30 := ⟨⟨_, rfl⟩, rfl, rfl, rfl, by decide, by decide, by decide +kernel⟩
set_option maxHeartbeats 4000000 in
set_option maxRecDepth 100000 in
theorem ctX3 (O : OmT) (l : Launch) (a0 g0 sz : Nat) : CT O l yX3_init wsX3_init rX3_init 4 4 [.ref a0, .ref g0] a0 sz (.inr (3, [.null, .null, .null, .null])) (fun be => be 1 = g0) 3 30 := by
  refine Met.ofW (cc := cX3_init) (maxL := 2) (ret := none) (by decide) rfl ?_
  intro p e s m args below meth cd s₁ B hml hv
  obtain ⟨rfl, hsz, hP, hK, hnw, hao⟩ := hv
  have hx := B.exec
  have hb := B.bytes
  have hr := B.returns
  have hts := atoms_spec (ws := wsX3_init) B.pre
  have hown : s.vm.findClass RX3 = some m.cls := findClass_of_methodNamed B.named
  have hlocks := B.notSynchronized
  have hin : meth.name = "<init>" := (name_of_methodNamed B.named B.method).1
  subst hsz
  have hD : va_D (va_A [(a0, .inr (3, [.null, .null, .null, .null]))] s.heap.size) [(a0, .inr (3, [.null, .null, .null, .null]))] := one_D (Or.inl ⟨0, _, rfl⟩)
  unfold ctB
  generalize hAe : va_A [(a0, .inr (3, [.null, .null, .null, .null]))] s.heap.size = A at hD ⊢
  have hA : ∀ q : Nat, s.heap.size ≤ q → A q := fun q h => by rw [← hAe]; exact Or.inr h
  have hS : va_S A s.heap s.heap [] := va_S.rf
  have hP : va_P O.1 vwCl [(a0, .inr (3, [.null, .null, .null, .null]))] s.heap := hP
  have hl := lv_entry ([.ref a0, .ref g0]) (n := 2) (Nat.le_of_ble_eq_true rfl)
  rw [lg_entry_eq]
  generalize (lg_sl ([.ref a0, .ref g0]) ++ List.replicate (2 - (lg_sl ([.ref a0, .ref g0])).length) Slot.unset).toArray = ls at hl ⊢
  have hl : lv_has ls 2 [(0, .ref a0), (1, .ref g0)] := hl
  refine lv_aload_n hx hb dX3_init_0 rfl (lv_at hl 0 rfl) ?_
  refine W.objInit hx hb hown (hts _ (List.mem_of_getElem? (i := 1) rfl)) (hts _ (List.mem_of_getElem? (i := 2) rfl)) (hts _ (List.mem_of_getElem? (i := 3) rfl)) rfl (by rw [hml]; exact hl.1) rfl dX3_init_1 (Nat.le_of_ble_eq_true rfl) (Nat.le_of_ble_eq_true rfl) ?_
  refine W.eq (g2 := F0 m 4 ls []) rfl ?_
  refine lv_aload_n hx hb dX3_init_4 rfl (lv_at hl 0 rfl) ?_
  refine lv_aload_n hx hb dX3_init_5 rfl (lv_at hl 1 rfl) ?_
  refine va_putF (D := O.1) (ci := 3) (v := .ref g0) (ty := tyX3 0) (C := RX3) (T := TX3) (N := 4) hx hb hts (fun w h => List.mem_cons_of_mem _ (List.mem_append_right _ h)) tyX3 tyX3_ok nmX3 hown hK hP hD hS 0 rfl rfl 0 (by decide) (hts _ (List.mem_of_getElem? (i := 4) rfl)) (fun _ h9 => h9) rfl hin rfl (tyX3_ok 0 (by decide)) rfl rfl (Nat.le_of_ble_eq_true rfl) dX3_init_6 (fun H locs hP hD hS => ?_)
  have hP : va_P O.1 vwCl [(a0, .inr (3, [.ref g0, .null, .null, .null]))] H := hP
  have hD : va_D A [(a0, .inr (3, [.ref g0, .null, .null, .null]))] := hD
  refine lv_aload_n hx hb dX3_init_9 rfl (lv_at hl 0 rfl) ?_
  refine lv_bipush (v := 10) hx hb dX3_init_10 (by decide) ?_
  refine k_newI hx hb (hts _ (List.mem_of_getElem? (i := 5) rfl)) hK hP hD hS hA 10 (by decide) (by decide) (Nat.le_of_ble_eq_true rfl) (Nat.le_of_ble_eq_true rfl) (Nat.le_of_ble_eq_true rfl) dX3_init_12 (fun q1 H hP hD hS => ?_)
  have hP : va_P O.1 vwCl [(a0, .inr (3, [.ref g0, .null, .null, .null])), (q1, .inl (O.2.1, 10, .inl (fun _ => 0)))] H := hP
  have hD : va_D A [(a0, .inr (3, [.ref g0, .null, .null, .null])), (q1, .inl (O.2.1, 10, .inl (fun _ => 0)))] := hD
  refine W.widen (k := 1) (n := 10) (Nat.le_of_ble_eq_true rfl) (Nat.le_of_ble_eq_true rfl) ?_
  refine va_putF (D := O.1) (ci := 3) (v := .ref q1) (ty := tyX3 1) (C := RX3) (T := TX3) (N := 4) hx hb hts (fun w h => List.mem_cons_of_mem _ (List.mem_append_right _ h)) tyX3 tyX3_ok nmX3 hown hK hP hD hS 0 rfl rfl 1 (by decide) (hts _ (List.mem_of_getElem? (i := 6) rfl)) (fun _ h9 => h9) rfl hin rfl (tyX3_ok 1 (by decide)) rfl rfl (Nat.le_of_ble_eq_true rfl) dX3_init_14 (fun H locs hP hD hS => ?_)
  have hP : va_P O.1 vwCl [(a0, .inr (3, [.ref g0, .ref q1, .null, .null])), (q1, .inl (O.2.1, 10, .inl (fun _ => 0)))] H := hP
  have hD : va_D A [(a0, .inr (3, [.ref g0, .ref q1, .null, .null])), (q1, .inl (O.2.1, 10, .inl (fun _ => 0)))] := hD
  refine lv_aload_n hx hb dX3_init_17 rfl (lv_at hl 0 rfl) ?_
  refine lv_bipush (v := 10) hx hb dX3_init_18 (by decide) ?_
  refine k_newI hx hb (hts _ (List.mem_of_getElem? (i := 5) rfl)) hK hP hD hS hA 10 (by decide) (by decide) (Nat.le_of_ble_eq_true rfl) (Nat.le_of_ble_eq_true rfl) (Nat.le_of_ble_eq_true rfl) dX3_init_20 (fun q2 H hP hD hS => ?_)
  have hP : va_P O.1 vwCl [(a0, .inr (3, [.ref g0, .ref q1, .null, .null])), (q1, .inl (O.2.1, 10, .inl (fun _ => 0))), (q2, .inl (O.2.1, 10, .inl (fun _ => 0)))] H := hP
  have hD : va_D A [(a0, .inr (3, [.ref g0, .ref q1, .null, .null])), (q1, .inl (O.2.1, 10, .inl (fun _ => 0))), (q2, .inl (O.2.1, 10, .inl (fun _ => 0)))] := hD
  refine W.widen (k := 2) (n := 20) (Nat.le_of_ble_eq_true rfl) (Nat.le_of_ble_eq_true rfl) ?_
  refine va_putF (D := O.1) (ci := 3) (v := .ref q2) (ty := tyX3 2) (C := RX3) (T := TX3) (N := 4) hx hb hts (fun w h => List.mem_cons_of_mem _ (List.mem_append_right _ h)) tyX3 tyX3_ok nmX3 hown hK hP hD hS 0 rfl rfl 2 (by decide) (hts _ (List.mem_of_getElem? (i := 7) rfl)) (fun _ h9 => h9) rfl hin rfl (tyX3_ok 2 (by decide)) rfl rfl (Nat.le_of_ble_eq_true rfl) dX3_init_22 (fun H locs hP hD hS => ?_)
  have hP : va_P O.1 vwCl [(a0, .inr (3, [.ref g0, .ref q1, .ref q2, .null])), (q1, .inl (O.2.1, 10, .inl (fun _ => 0))), (q2, .inl (O.2.1, 10, .inl (fun _ => 0)))] H := hP
  have hD : va_D A [(a0, .inr (3, [.ref g0, .ref q1, .ref q2, .null])), (q1, .inl (O.2.1, 10, .inl (fun _ => 0))), (q2, .inl (O.2.1, 10, .inl (fun _ => 0)))] := hD
  refine lv_aload_n hx hb dX3_init_25 rfl (lv_at hl 0 rfl) ?_
  refine lv_bipush (v := 10) hx hb dX3_init_26 (by decide) ?_
  refine k_newI hx hb (hts _ (List.mem_of_getElem? (i := 5) rfl)) hK hP hD hS hA 10 (by decide) (by decide) (Nat.le_of_ble_eq_true rfl) (Nat.le_of_ble_eq_true rfl) (Nat.le_of_ble_eq_true rfl) dX3_init_28 (fun q3 H hP hD hS => ?_)
  have hP : va_P O.1 vwCl [(a0, .inr (3, [.ref g0, .ref q1, .ref q2, .null])), (q1, .inl (O.2.1, 10, .inl (fun _ => 0))), (q2, .inl (O.2.1, 10, .inl (fun _ => 0))), (q3, .inl (O.2.1, 10, .inl (fun _ => 0)))] H := hP
  have hD : va_D A [(a0, .inr (3, [.ref g0, .ref q1, .ref q2, .null])), (q1, .inl (O.2.1, 10, .inl (fun _ => 0))), (q2, .inl (O.2.1, 10, .inl (fun _ => 0))), (q3, .inl (O.2.1, 10, .inl (fun _ => 0)))] := hD
  refine W.widen (k := 3) (n := 30) (Nat.le_of_ble_eq_true rfl) (Nat.le_of_ble_eq_true rfl) ?_
  refine va_putF (D := O.1) (ci := 3) (v := .ref q3) (ty := tyX3 3) (C := RX3) (T := TX3) (N := 4) hx hb hts (fun w h => List.mem_cons_of_mem _ (List.mem_append_right _ h)) tyX3 tyX3_ok nmX3 hown hK hP hD hS 0 rfl rfl 3 (by decide) (hts _ (List.mem_of_getElem? (i := 8) rfl)) (fun _ h9 => h9) rfl hin rfl (tyX3_ok 3 (by decide)) rfl rfl (Nat.le_of_ble_eq_true rfl) dX3_init_30 (fun H locs hP hD hS => ?_)
  have hP : va_P O.1 vwCl [(a0, .inr (3, [.ref g0, .ref q1, .ref q2, .ref q3])), (q1, .inl (O.2.1, 10, .inl (fun _ => 0))), (q2, .inl (O.2.1, 10, .inl (fun _ => 0))), (q3, .inl (O.2.1, 10, .inl (fun _ => 0)))] H := hP
  have hD : va_D A [(a0, .inr (3, [.ref g0, .ref q1, .ref q2, .ref q3])), (q1, .inl (O.2.1, 10, .inl (fun _ => 0))), (q2, .inl (O.2.1, 10, .inl (fun _ => 0))), (q3, .inl (O.2.1, 10, .inl (fun _ => 0)))] := hD
  obtain ⟨be, hbe⟩ : ∃ be : Nat → Nat, be = fun i => if i = 4 then a0 else if i = 5 then q1 else if i = 6 then q2 else if i = 7 then q3 else g0 := ⟨_, rfl⟩
  have b4 : be 4 = a0 := by rw [hbe]; rfl
  have b5 : be 5 = q1 := by rw [hbe]; rfl
  have b6 : be 6 = q2 := by rw [hbe]; rfl
  have b7 : be 7 = q3 := by rw [hbe]; rfl
  have b1 : be 1 = g0 := by rw [hbe]; rfl
  have e4 : eA O be 4 = .inr (3, [.ref g0, .ref q1, .ref q2, .ref q3]) := by
    unfold eA
    rw [en_4]
    dsimp only
    simp only [b5, b6, b7, b1, V0_z (c := 4) (by decide) (by decide), iI_0]
  have e5 : eA O be 5 = .inl (O.2.1, 10, .inl (fun _ => 0)) := eA_row (fun r => rfl) (by decide) (by decide)
  have e6 : eA O be 6 = .inl (O.2.1, 10, .inl (fun _ => 0)) := eA_row (fun r => rfl) (by decide) (by decide)
  have e7 : eA O be 7 = .inl (O.2.1, 10, .inl (fun _ => 0)) := eA_row (fun r => rfl) (by decide) (by decide)
  have hw : wr be (eA O be) 4 4 = [(a0, .inr (3, [.ref g0, .ref q1, .ref q2, .ref q3])), (q1, .inl (O.2.1, 10, .inl (fun _ => 0))), (q2, .inl (O.2.1, 10, .inl (fun _ => 0))), (q3, .inl (O.2.1, 10, .inl (fun _ => 0)))] := by
    show [(be 4, eA O be 4), (be 5, eA O be 5), (be 6, eA O be 6), (be 7, eA O be 7)] = _
    rw [b4, b5, b6, b7, e4, e5, e6, e7]
  rw [← hw] at hP hD
  exact W.vret hx hb hr (fun t ht hW => ⟨⟨be, rfl, ⟨b4, b1⟩, by rw [ht]; exact hP, hD⟩, hS.F ht⟩) hS.2.2 dX3_init_33
def rX2_init : Room := { frames := 1, cells := 2, slots := 211, locals := 12 }
theorem sgX2_init : sgC yX2_init wsX2_init cX2_init 3 rX2_init 2 2 211 := ⟨⟨_, rfl⟩, rfl, rfl, rfl, by decide, by decide, by decide +kernel⟩
set_option maxHeartbeats 4000000 in
set_option maxRecDepth 100000 in
theorem ctX2 (O : OmT) (l : Launch) (a0 g0 n0 sz : Nat) : CT O l yX2_init wsX2_init rX2_init 8 3 [.ref a0, .ref g0, .ref n0] a0 sz (.inr (2, [.null, .null, .null, .null, .int 0, .int 0, .int 0, .int 0, .int 0, .int 0, .int 0, .int 0, .int 0, .int 0, .int 0, .int 0, .int 0])) (fun be => be 1 = g0 ∧ be 4 = n0) 2 211 := by
  refine Met.ofW (cc := cX2_init) (maxL := 3) (ret := none) (by decide) rfl ?_
  intro p e s m args below meth cd s₁ B hml hv
  obtain ⟨rfl, hsz, hP, hK, hnw, hao⟩ := hv
  have hx := B.exec
  have hb := B.bytes
  have hr := B.returns
  have hts := atoms_spec (ws := wsX2_init) B.pre
  have hown : s.vm.findClass RX2 = some m.cls := findClass_of_methodNamed B.named
  have hlocks := B.notSynchronized
  have hin : meth.name = "<init>" := (name_of_methodNamed B.named B.method).1
  subst hsz
  have hD : va_D (va_A [(a0, .inr (2, [.null, .null, .null, .null, .int 0, .int 0, .int 0, .int 0, .int 0, .int 0, .int 0, .int 0, .int 0, .int 0, .int 0, .int 0, .int 0]))] s.heap.size) [(a0, .inr (2, [.null, .null, .null, .null, .int 0, .int 0, .int 0, .int 0, .int 0, .int 0, .int 0, .int 0, .int 0, .int 0, .int 0, .int 0, .int 0]))] := one_D (Or.inl ⟨0, _, rfl⟩)
  unfold ctB
  generalize hAe : va_A [(a0, .inr (2, [.null, .null, .null, .null, .int 0, .int 0, .int 0, .int 0, .int 0, .int 0, .int 0, .int 0, .int 0, .int 0, .int 0, .int 0, .int 0]))] s.heap.size = A at hD ⊢
  have hA : ∀ q : Nat, s.heap.size ≤ q → A q := fun q h => by rw [← hAe]; exact Or.inr h
  have hS : va_S A s.heap s.heap [] := va_S.rf
  have hP : va_P O.1 vwCl [(a0, .inr (2, [.null, .null, .null, .null, .int 0, .int 0, .int 0, .int 0, .int 0, .int 0, .int 0, .int 0, .int 0, .int 0, .int 0, .int 0, .int 0]))] s.heap := hP
  have hl := lv_entry ([.ref a0, .ref g0, .ref n0]) (n := 3) (Nat.le_of_ble_eq_true rfl)
  rw [lg_entry_eq]
  generalize (lg_sl ([.ref a0, .ref g0, .ref n0]) ++ List.replicate (3 - (lg_sl ([.ref a0, .ref g0, .ref n0])).length) Slot.unset).toArray = ls at hl ⊢
  have hl : lv_has ls 3 [(0, .ref a0), (1, .ref g0), (2, .ref n0)] := hl
  refine lv_aload_n hx hb dX2_init_0 rfl (lv_at hl 0 rfl) ?_
  refine W.objInit hx hb hown (hts _ (List.mem_of_getElem? (i := 1) rfl)) (hts _ (List.mem_of_getElem? (i := 2) rfl)) (hts _ (List.mem_of_getElem? (i := 3) rfl)) rfl (by rw [hml]; exact hl.1) rfl dX2_init_1 (Nat.le_of_ble_eq_true rfl) (Nat.le_of_ble_eq_true rfl) ?_
  refine W.eq (g2 := F0 m 4 ls []) rfl ?_
  refine lv_aload_n hx hb dX2_init_4 rfl (lv_at hl 0 rfl) ?_
  refine lv_aload_n hx hb dX2_init_5 rfl (lv_at hl 1 rfl) ?_
  refine va_putF (D := O.1) (ci := 2) (v := .ref g0) (ty := tyX2 0) (C := RX2) (T := TX2) (N := 17) hx hb hts (fun w h => List.mem_cons_of_mem _ (List.mem_append_right _ h)) tyX2 tyX2_ok nmX2 hown hK hP hD hS 0 rfl rfl 0 (by decide) (hts _ (List.mem_of_getElem? (i := 4) rfl)) (fun _ h9 => h9) rfl hin rfl (tyX2_ok 0 (by decide)) rfl rfl (Nat.le_of_ble_eq_true rfl) dX2_init_6 (fun H locs hP hD hS => ?_)
  have hP : va_P O.1 vwCl [(a0, .inr (2, [.ref g0, .null, .null, .null, .int 0, .int 0, .int 0, .int 0, .int 0, .int 0, .int 0, .int 0, .int 0, .int 0, .int 0, .int 0, .int 0]))] H := hP
  have hD : va_D A [(a0, .inr (2, [.ref g0, .null, .null, .null, .int 0, .int 0, .int 0, .int 0, .int 0, .int 0, .int 0, .int 0, .int 0, .int 0, .int 0, .int 0, .int 0]))] := hD
  refine lv_aload_n hx hb dX2_init_9 rfl (lv_at hl 0 rfl) ?_
  refine lv_aload_n hx hb dX2_init_10 rfl (lv_at hl 2 rfl) ?_
  refine va_putF (D := O.1) (ci := 2) (v := .ref n0) (ty := tyX2 1) (C := RX2) (T := TX2) (N := 17) hx hb hts (fun w h => List.mem_cons_of_mem _ (List.mem_append_right _ h)) tyX2 tyX2_ok nmX2 hown hK hP hD hS 0 rfl rfl 1 (by decide) (hts _ (List.mem_of_getElem? (i := 5) rfl)) (fun _ h9 => h9) rfl hin rfl (tyX2_ok 1 (by decide)) rfl rfl (Nat.le_of_ble_eq_true rfl) dX2_init_11 (fun H locs hP hD hS => ?_)
  have hP : va_P O.1 vwCl [(a0, .inr (2, [.ref g0, .ref n0, .null, .null, .int 0, .int 0, .int 0, .int 0, .int 0, .int 0, .int 0, .int 0, .int 0, .int 0, .int 0, .int 0, .int 0]))] H := hP
  have hD : va_D A [(a0, .inr (2, [.ref g0, .ref n0, .null, .null, .int 0, .int 0, .int 0, .int 0, .int 0, .int 0, .int 0, .int 0, .int 0, .int 0, .int 0, .int 0, .int 0]))] := hD
  refine lv_aload_n hx hb dX2_init_14 rfl (lv_at hl 0 rfl) ?_
  refine lv_sipush (v := 201) hx hb dX2_init_15 (by decide) ?_
  refine k_newI hx hb (hts _ (List.mem_of_getElem? (i := 6) rfl)) hK hP hD hS hA 201 (by decide) (by decide) (Nat.le_of_ble_eq_true rfl) (Nat.le_of_ble_eq_true rfl) (Nat.le_of_ble_eq_true rfl) dX2_init_18 (fun q1 H hP hD hS => ?_)
  have hP : va_P O.1 vwCl [(a0, .inr (2, [.ref g0, .ref n0, .null, .null, .int 0, .int 0, .int 0, .int 0, .int 0, .int 0, .int 0, .int 0, .int 0, .int 0, .int 0, .int 0, .int 0])), (q1, .inl (O.2.1, 201, .inl (fun _ => 0)))] H := hP
  have hD : va_D A [(a0, .inr (2, [.ref g0, .ref n0, .null, .null, .int 0, .int 0, .int 0, .int 0, .int 0, .int 0, .int 0, .int 0, .int 0, .int 0, .int 0, .int 0, .int 0])), (q1, .inl (O.2.1, 201, .inl (fun _ => 0)))] := hD
  refine W.widen (k := 1) (n := 201) (Nat.le_of_ble_eq_true rfl) (Nat.le_of_ble_eq_true rfl) ?_
  refine va_putF (D := O.1) (ci := 2) (v := .ref q1) (ty := tyX2 2) (C := RX2) (T := TX2) (N := 17) hx hb hts (fun w h => List.mem_cons_of_mem _ (List.mem_append_right _ h)) tyX2 tyX2_ok nmX2 hown hK hP hD hS 0 rfl rfl 2 (by decide) (hts _ (List.mem_of_getElem? (i := 7) rfl)) (fun _ h9 => h9) rfl hin rfl (tyX2_ok 2 (by decide)) rfl rfl (Nat.le_of_ble_eq_true rfl) dX2_init_20 (fun H locs hP hD hS => ?_)
  have hP : va_P O.1 vwCl [(a0, .inr (2, [.ref g0, .ref n0, .ref q1, .null, .int 0, .int 0, .int 0, .int 0, .int 0, .int 0, .int 0, .int 0, .int 0, .int 0, .int 0, .int 0, .int 0])), (q1, .inl (O.2.1, 201, .inl (fun _ => 0)))] H := hP
  have hD : va_D A [(a0, .inr (2, [.ref g0, .ref n0, .ref q1, .null, .int 0, .int 0, .int 0, .int 0, .int 0, .int 0, .int 0, .int 0, .int 0, .int 0, .int 0, .int 0, .int 0])), (q1, .inl (O.2.1, 201, .inl (fun _ => 0)))] := hD
  refine lv_aload_n hx hb dX2_init_23 rfl (lv_at hl 0 rfl) ?_
  refine lv_bipush (v := 10) hx hb dX2_init_24 (by decide) ?_
  refine k_newI hx hb (hts _ (List.mem_of_getElem? (i := 6) rfl)) hK hP hD hS hA 10 (by decide) (by decide) (Nat.le_of_ble_eq_true rfl) (Nat.le_of_ble_eq_true rfl) (Nat.le_of_ble_eq_true rfl) dX2_init_26 (fun q2 H hP hD hS => ?_)
  have hP : va_P O.1 vwCl [(a0, .inr (2, [.ref g0, .ref n0, .ref q1, .null, .int 0, .int 0, .int 0, .int 0, .int 0, .int 0, .int 0, .int 0, .int 0, .int 0, .int 0, .int 0, .int 0])), (q1, .inl (O.2.1, 201, .inl (fun _ => 0))), (q2, .inl (O.2.1, 10, .inl (fun _ => 0)))] H := hP
  have hD : va_D A [(a0, .inr (2, [.ref g0, .ref n0, .ref q1, .null, .int 0, .int 0, .int 0, .int 0, .int 0, .int 0, .int 0, .int 0, .int 0, .int 0, .int 0, .int 0, .int 0])), (q1, .inl (O.2.1, 201, .inl (fun _ => 0))), (q2, .inl (O.2.1, 10, .inl (fun _ => 0)))] := hD
  refine W.widen (k := 2) (n := 211) (Nat.le_of_ble_eq_true rfl) (Nat.le_of_ble_eq_true rfl) ?_
  refine va_putF (D := O.1) (ci := 2) (v := .ref q2) (ty := tyX2 3) (C := RX2) (T := TX2) (N := 17) hx hb hts (fun w h => List.mem_cons_of_mem _ (List.mem_append_right _ h)) tyX2 tyX2_ok nmX2 hown hK hP hD hS 0 rfl rfl 3 (by decide) (hts _ (List.mem_of_getElem? (i := 8) rfl)) (fun _ h9 => h9) rfl hin rfl (tyX2_ok 3 (by decide)) rfl rfl (Nat.le_of_ble_eq_true rfl) dX2_init_28 (fun H locs hP hD hS => ?_)
  have hP : va_P O.1 vwCl [(a0, .inr (2, [.ref g0, .ref n0, .ref q1, .ref q2, .int 0, .int 0, .int 0, .int 0, .int 0, .int 0, .int 0, .int 0, .int 0, .int 0, .int 0, .int 0, .int 0])), (q1, .inl (O.2.1, 201, .inl (fun _ => 0))), (q2, .inl (O.2.1, 10, .inl (fun _ => 0)))] H := hP
  have hD : va_D A [(a0, .inr (2, [.ref g0, .ref n0, .ref q1, .ref q2, .int 0, .int 0, .int 0, .int 0, .int 0, .int 0, .int 0, .int 0, .int 0, .int 0, .int 0, .int 0, .int 0])), (q1, .inl (O.2.1, 201, .inl (fun _ => 0))), (q2, .inl (O.2.1, 10, .inl (fun _ => 0)))] := hD
  obtain ⟨be, hbe⟩ : ∃ be : Nat → Nat, be = fun i => if i = 8 then a0 else if i = 9 then q1 else if i = 10 then q2 else if i = 1 then g0 else n0 := ⟨_, rfl⟩
  have b8 : be 8 = a0 := by rw [hbe]; rfl
  have b9 : be 9 = q1 := by rw [hbe]; rfl
  have b10 : be 10 = q2 := by rw [hbe]; rfl
  have b1 : be 1 = g0 := by rw [hbe]; rfl
  have b4 : be 4 = n0 := by rw [hbe]; rfl
  have e8 : eA O be 8 = .inr (2, [.ref g0, .ref n0, .ref q1, .ref q2, .int 0, .int 0, .int 0, .int 0, .int 0, .int 0, .int 0, .int 0, .int 0, .int 0, .int 0, .int 0, .int 0]) := by
    unfold eA
    rw [en_8]
    dsimp only
    simp only [b9, b10, b1, b4, V0_z (c := 8) (by decide) (by decide), iI_0]
  have e9 : eA O be 9 = .inl (O.2.1, 201, .inl (fun _ => 0)) := eA_row (fun r => rfl) (by decide) (by decide)
  have e10 : eA O be 10 = .inl (O.2.1, 10, .inl (fun _ => 0)) := eA_row (fun r => rfl) (by decide) (by decide)
  have hw : wr be (eA O be) 8 3 = [(a0, .inr (2, [.ref g0, .ref n0, .ref q1, .ref q2, .int 0, .int 0, .int 0, .int 0, .int 0, .int 0, .int 0, .int 0, .int 0, .int 0, .int 0, .int 0, .int 0])), (q1, .inl (O.2.1, 201, .inl (fun _ => 0))), (q2, .inl (O.2.1, 10, .inl (fun _ => 0)))] := by
    show [(be 8, eA O be 8), (be 9, eA O be 9), (be 10, eA O be 10)] = _
    rw [b8, b9, b10, e8, e9, e10]
  rw [← hw] at hP hD
  exact W.vret hx hb hr (fun t ht hW => ⟨⟨be, rfl, ⟨b8, b1, b4⟩, by rw [ht]; exact hP, hD⟩, hS.F ht⟩) hS.2.2 dX2_init_31
def rX0_init : Room := { frames := 1, cells := 3, slots := 60, locals := 12 }
theorem sgX0_init : sgC yX0_init wsX0_init cX0_init 1 rX0_init 0 3 60 := ⟨⟨_, rfl⟩, rfl, rfl, rfl, by decide, by decide, by decide +kernel⟩
set_option maxHeartbeats 4000000 in
set_option maxRecDepth 100000 in
theorem ctX0 (O : OmT) (l : Launch) (a0  sz : Nat) : CT O l yX0_init wsX0_init rX0_init 11 4 [.ref a0] a0 sz (.inr (0, [.null, .null, .null, .int 0])) (fun _ => True) 3 60 := by
  refine Met.ofW (cc := cX0_init) (maxL := 1) (ret := none) (by decide) rfl ?_
  intro p e s m args below meth cd s₁ B hml hv
  obtain ⟨rfl, hsz, hP, hK, hnw, hao⟩ := hv
  have hx := B.exec
  have hb := B.bytes
  have hr := B.returns
  have hts := atoms_spec (ws := wsX0_init) B.pre
  have hown : s.vm.findClass RX0 = some m.cls := findClass_of_methodNamed B.named
  have hlocks := B.notSynchronized
  have hin : meth.name = "<init>" := (name_of_methodNamed B.named B.method).1
  subst hsz
  have hD : va_D (va_A [(a0, .inr (0, [.null, .null, .null, .int 0]))] s.heap.size) [(a0, .inr (0, [.null, .null, .null, .int 0]))] := one_D (Or.inl ⟨0, _, rfl⟩)
  unfold ctB
  generalize hAe : va_A [(a0, .inr (0, [.null, .null, .null, .int 0]))] s.heap.size = A at hD ⊢
  have hA : ∀ q : Nat, s.heap.size ≤ q → A q := fun q h => by rw [← hAe]; exact Or.inr h
  have hS : va_S A s.heap s.heap [] := va_S.rf
  have hP : va_P O.1 vwCl [(a0, .inr (0, [.null, .null, .null, .int 0]))] s.heap := hP
  have hl := lv_entry ([.ref a0]) (n := 1) (Nat.le_of_ble_eq_true rfl)
  rw [lg_entry_eq]
  generalize (lg_sl ([.ref a0]) ++ List.replicate (1 - (lg_sl ([.ref a0])).length) Slot.unset).toArray = ls at hl ⊢
  have hl : lv_has ls 1 [(0, .ref a0)] := hl
  refine lv_aload_n hx hb dX0_init_0 rfl (lv_at hl 0 rfl) ?_
  refine W.objInit hx hb hown (hts _ (List.mem_of_getElem? (i := 1) rfl)) (hts _ (List.mem_of_getElem? (i := 2) rfl)) (hts _ (List.mem_of_getElem? (i := 3) rfl)) rfl (by rw [hml]; exact hl.1) rfl dX0_init_1 (Nat.le_of_ble_eq_true rfl) (Nat.le_of_ble_eq_true rfl) ?_
  refine W.eq (g2 := F0 m 4 ls []) rfl ?_
  refine lv_aload_n hx hb dX0_init_4 rfl (lv_at hl 0 rfl) ?_
  refine lv_bipush (v := 20) hx hb dX0_init_5 (by decide) ?_
  refine k_newI hx hb (hts _ (List.mem_of_getElem? (i := 4) rfl)) hK hP hD hS hA 20 (by decide) (by decide) (Nat.le_of_ble_eq_true rfl) (Nat.le_of_ble_eq_true rfl) (Nat.le_of_ble_eq_true rfl) dX0_init_7 (fun q1 H hP hD hS => ?_)
  have hP : va_P O.1 vwCl [(a0, .inr (0, [.null, .null, .null, .int 0])), (q1, .inl (O.2.1, 20, .inl (fun _ => 0)))] H := hP
  have hD : va_D A [(a0, .inr (0, [.null, .null, .null, .int 0])), (q1, .inl (O.2.1, 20, .inl (fun _ => 0)))] := hD
  refine W.widen (k := 1) (n := 20) (Nat.le_of_ble_eq_true rfl) (Nat.le_of_ble_eq_true rfl) ?_
  refine va_putF (D := O.1) (ci := 0) (v := .ref q1) (ty := tyX0 0) (C := RX0) (T := TX0) (N := 4) hx hb hts (fun w h => List.mem_cons_of_mem _ (List.mem_append_right _ h)) tyX0 tyX0_ok nmX0 hown hK hP hD hS 0 rfl rfl 0 (by decide) (hts _ (List.mem_of_getElem? (i := 5) rfl)) (fun _ h9 => h9) rfl hin rfl (tyX0_ok 0 (by decide)) rfl rfl (Nat.le_of_ble_eq_true rfl) dX0_init_9 (fun H locs hP hD hS => ?_)
  have hP : va_P O.1 vwCl [(a0, .inr (0, [.ref q1, .null, .null, .int 0])), (q1, .inl (O.2.1, 20, .inl (fun _ => 0)))] H := hP
  have hD : va_D A [(a0, .inr (0, [.ref q1, .null, .null, .int 0])), (q1, .inl (O.2.1, 20, .inl (fun _ => 0)))] := hD
  refine lv_aload_n hx hb dX0_init_12 rfl (lv_at hl 0 rfl) ?_
  refine lv_bipush (v := 20) hx hb dX0_init_13 (by decide) ?_
  refine k_newI hx hb (hts _ (List.mem_of_getElem? (i := 4) rfl)) hK hP hD hS hA 20 (by decide) (by decide) (Nat.le_of_ble_eq_true rfl) (Nat.le_of_ble_eq_true rfl) (Nat.le_of_ble_eq_true rfl) dX0_init_15 (fun q2 H hP hD hS => ?_)
  have hP : va_P O.1 vwCl [(a0, .inr (0, [.ref q1, .null, .null, .int 0])), (q1, .inl (O.2.1, 20, .inl (fun _ => 0))), (q2, .inl (O.2.1, 20, .inl (fun _ => 0)))] H := hP
  have hD : va_D A [(a0, .inr (0, [.ref q1, .null, .null, .int 0])), (q1, .inl (O.2.1, 20, .inl (fun _ => 0))), (q2, .inl (O.2.1, 20, .inl (fun _ => 0)))] := hD
  refine W.widen (k := 2) (n := 40) (Nat.le_of_ble_eq_true rfl) (Nat.le_of_ble_eq_true rfl) ?_
  refine va_putF (D := O.1) (ci := 0) (v := .ref q2) (ty := tyX0 1) (C := RX0) (T := TX0) (N := 4) hx hb hts (fun w h => List.mem_cons_of_mem _ (List.mem_append_right _ h)) tyX0 tyX0_ok nmX0 hown hK hP hD hS 0 rfl rfl 1 (by decide) (hts _ (List.mem_of_getElem? (i := 6) rfl)) (fun _ h9 => h9) rfl hin rfl (tyX0_ok 1 (by decide)) rfl rfl (Nat.le_of_ble_eq_true rfl) dX0_init_17 (fun H locs hP hD hS => ?_)
  have hP : va_P O.1 vwCl [(a0, .inr (0, [.ref q1, .ref q2, .null, .int 0])), (q1, .inl (O.2.1, 20, .inl (fun _ => 0))), (q2, .inl (O.2.1, 20, .inl (fun _ => 0)))] H := hP
  have hD : va_D A [(a0, .inr (0, [.ref q1, .ref q2, .null, .int 0])), (q1, .inl (O.2.1, 20, .inl (fun _ => 0))), (q2, .inl (O.2.1, 20, .inl (fun _ => 0)))] := hD
  refine lv_aload_n hx hb dX0_init_20 rfl (lv_at hl 0 rfl) ?_
  refine lv_bipush (v := 20) hx hb dX0_init_21 (by decide) ?_
  refine k_newI hx hb (hts _ (List.mem_of_getElem? (i := 4) rfl)) hK hP hD hS hA 20 (by decide) (by decide) (Nat.le_of_ble_eq_true rfl) (Nat.le_of_ble_eq_true rfl) (Nat.le_of_ble_eq_true rfl) dX0_init_23 (fun q3 H hP hD hS => ?_)
  have hP : va_P O.1 vwCl [(a0, .inr (0, [.ref q1, .ref q2, .null, .int 0])), (q1, .inl (O.2.1, 20, .inl (fun _ => 0))), (q2, .inl (O.2.1, 20, .inl (fun _ => 0))), (q3, .inl (O.2.1, 20, .inl (fun _ => 0)))] H := hP
  have hD : va_D A [(a0, .inr (0, [.ref q1, .ref q2, .null, .int 0])), (q1, .inl (O.2.1, 20, .inl (fun _ => 0))), (q2, .inl (O.2.1, 20, .inl (fun _ => 0))), (q3, .inl (O.2.1, 20, .inl (fun _ => 0)))] := hD
  refine W.widen (k := 3) (n := 60) (Nat.le_of_ble_eq_true rfl) (Nat.le_of_ble_eq_true rfl) ?_
  refine va_putF (D := O.1) (ci := 0) (v := .ref q3) (ty := tyX0 2) (C := RX0) (T := TX0) (N := 4) hx hb hts (fun w h => List.mem_cons_of_mem _ (List.mem_append_right _ h)) tyX0 tyX0_ok nmX0 hown hK hP hD hS 0 rfl rfl 2 (by decide) (hts _ (List.mem_of_getElem? (i := 7) rfl)) (fun _ h9 => h9) rfl hin rfl (tyX0_ok 2 (by decide)) rfl rfl (Nat.le_of_ble_eq_true rfl) dX0_init_25 (fun H locs hP hD hS => ?_)
  have hP : va_P O.1 vwCl [(a0, .inr (0, [.ref q1, .ref q2, .ref q3, .int 0])), (q1, .inl (O.2.1, 20, .inl (fun _ => 0))), (q2, .inl (O.2.1, 20, .inl (fun _ => 0))), (q3, .inl (O.2.1, 20, .inl (fun _ => 0)))] H := hP
  have hD : va_D A [(a0, .inr (0, [.ref q1, .ref q2, .ref q3, .int 0])), (q1, .inl (O.2.1, 20, .inl (fun _ => 0))), (q2, .inl (O.2.1, 20, .inl (fun _ => 0))), (q3, .inl (O.2.1, 20, .inl (fun _ => 0)))] := hD
  refine lv_aload_n hx hb dX0_init_28 rfl (lv_at hl 0 rfl) ?_
  refine lv_iconst (v := 0) hx hb dX0_init_29 (by decide) ?_
  refine va_put (D := O.1) (ci := 0) (v := .int 0) (ty := .int) (C := RX0) (T := TX0) (N := 4) hx hb hts (fun w h => List.mem_cons_of_mem _ (List.mem_append_right _ h)) tyX0 tyX0_ok nmX0 hown hK hP hD hS 0 rfl rfl 3 (by decide) (hts _ (List.mem_of_getElem? (i := 8) rfl)) (fun _ h9 => h9) rfl (tyX0_ok 3 (by decide)) rfl rfl (Nat.le_of_ble_eq_true rfl) dX0_init_30 (fun H locs hP hD hS => ?_)
  have hP : va_P O.1 vwCl [(a0, .inr (0, [.ref q1, .ref q2, .ref q3, .int 0])), (q1, .inl (O.2.1, 20, .inl (fun _ => 0))), (q2, .inl (O.2.1, 20, .inl (fun _ => 0))), (q3, .inl (O.2.1, 20, .inl (fun _ => 0)))] H := hP
  have hD : va_D A [(a0, .inr (0, [.ref q1, .ref q2, .ref q3, .int 0])), (q1, .inl (O.2.1, 20, .inl (fun _ => 0))), (q2, .inl (O.2.1, 20, .inl (fun _ => 0))), (q3, .inl (O.2.1, 20, .inl (fun _ => 0)))] := hD
  obtain ⟨be, hbe⟩ : ∃ be : Nat → Nat, be = fun i => if i = 11 then a0 else if i = 12 then q1 else if i = 13 then q2 else q3 := ⟨_, rfl⟩
  have b11 : be 11 = a0 := by rw [hbe]; rfl
  have b12 : be 12 = q1 := by rw [hbe]; rfl
  have b13 : be 13 = q2 := by rw [hbe]; rfl
  have b14 : be 14 = q3 := by rw [hbe]; rfl
  have e11 : eA O be 11 = .inr (0, [.ref q1, .ref q2, .ref q3, .int 0]) := by
    unfold eA
    rw [en_11]
    dsimp only
    simp only [b12, b13, b14, V0_z (c := 11) (by decide) (by decide), iI_0]
  have e12 : eA O be 12 = .inl (O.2.1, 20, .inl (fun _ => 0)) := eA_row (fun r => rfl) (by decide) (by decide)
  have e13 : eA O be 13 = .inl (O.2.1, 20, .inl (fun _ => 0)) := eA_row (fun r => rfl) (by decide) (by decide)
  have e14 : eA O be 14 = .inl (O.2.1, 20, .inl (fun _ => 0)) := eA_row (fun r => rfl) (by decide) (by decide)
  have hw : wr be (eA O be) 11 4 = [(a0, .inr (0, [.ref q1, .ref q2, .ref q3, .int 0])), (q1, .inl (O.2.1, 20, .inl (fun _ => 0))), (q2, .inl (O.2.1, 20, .inl (fun _ => 0))), (q3, .inl (O.2.1, 20, .inl (fun _ => 0)))] := by
    show [(be 11, eA O be 11), (be 12, eA O be 12), (be 13, eA O be 13), (be 14, eA O be 14)] = _
    rw [b11, b12, b13, b14, e11, e12, e13, e14]
  rw [← hw] at hP hD
  exact W.vret hx hb hr (fun t ht hW => ⟨⟨be, rfl, ⟨b11, trivial⟩, by rw [ht]; exact hP, hD⟩, hS.F ht⟩) hS.2.2 dX0_init_33
def rX6_init : Room := { frames := 1, cells := 9, slots := 4721, locals := 12 }
theorem sgX6_init : sgC yX6_init wsX6_init cX6_init 1 rX6_init 0 9 4721 := ⟨⟨_, rfl⟩, rfl, rfl, rfl, by decide, by decide, by decide +kernel⟩
set_option maxHeartbeats 4000000 in
set_option maxRecDepth 100000 in
theorem ctX6 (O : OmT) (l : Launch) (a0  sz : Nat) : CT O l yX6_init wsX6_init rX6_init 72 10 [.ref a0] a0 sz (.inr (6, [.null, .null, .int 0, .int 0, .null, .null, .int 0, .int 0, .null, .null, .null, .int 0, .int 0, .int 0, .null, .int 0, .int 0, .int 0, .int 0, .int 0, .null, .int 0, .int 0, .int 0, .int 0, .int 0])) (fun _ => True) 9 4721 := by
  refine Met.ofW (cc := cX6_init) (maxL := 1) (ret := none) (by decide) rfl ?_
  intro p e s m args below meth cd s₁ B hml hv
  obtain ⟨rfl, hsz, hP, hK, hnw, hao⟩ := hv
  have hx := B.exec
  have hb := B.bytes
  have hr := B.returns
  have hts := atoms_spec (ws := wsX6_init) B.pre
  have hown : s.vm.findClass RX6 = some m.cls := findClass_of_methodNamed B.named
  have hlocks := B.notSynchronized
  have hin : meth.name = "<init>" := (name_of_methodNamed B.named B.method).1
  subst hsz
  have hD : va_D (va_A [(a0, .inr (6, [.null, .null, .int 0, .int 0, .null, .null, .int 0, .int 0, .null, .null, .null, .int 0, .int 0, .int 0, .null, .int 0, .int 0, .int 0, .int 0, .int 0, .null, .int 0, .int 0, .int 0, .int 0, .int 0]))] s.heap.size) [(a0, .inr (6, [.null, .null, .int 0, .int 0, .null, .null, .int 0, .int 0, .null, .null, .null, .int 0, .int 0, .int 0, .null, .int 0, .int 0, .int 0, .int 0, .int 0, .null, .int 0, .int 0, .int 0, .int 0, .int 0]))] := one_D (Or.inl ⟨0, _, rfl⟩)
  unfold ctB
  generalize hAe : va_A [(a0, .inr (6, [.null, .null, .int 0, .int 0, .null, .null, .int 0, .int 0, .null, .null, .null, .int 0, .int 0, .int 0, .null, .int 0, .int 0, .int 0, .int 0, .int 0, .null, .int 0, .int 0, .int 0, .int 0, .int 0]))] s.heap.size = A at hD ⊢
  have hA : ∀ q : Nat, s.heap.size ≤ q → A q := fun q h => by rw [← hAe]; exact Or.inr h
  have hS : va_S A s.heap s.heap [] := va_S.rf
  have hP : va_P O.1 vwCl [(a0, .inr (6, [.null, .null, .int 0, .int 0, .null, .null, .int 0, .int 0, .null, .null, .null, .int 0, .int 0, .int 0, .null, .int 0, .int 0, .int 0, .int 0, .int 0, .null, .int 0, .int 0, .int 0, .int 0, .int 0]))] s.heap := hP
  have hl := lv_entry ([.ref a0]) (n := 1) (Nat.le_of_ble_eq_true rfl)
  rw [lg_entry_eq]
  generalize (lg_sl ([.ref a0]) ++ List.replicate (1 - (lg_sl ([.ref a0])).length) Slot.unset).toArray = ls at hl ⊢
  have hl : lv_has ls 1 [(0, .ref a0)] := hl
  refine lv_aload_n hx hb dX6_init_0 rfl (lv_at hl 0 rfl) ?_
  refine W.objInit hx hb hown (hts _ (List.mem_of_getElem? (i := 1) rfl)) (hts _ (List.mem_of_getElem? (i := 2) rfl)) (hts _ (List.mem_of_getElem? (i := 3) rfl)) rfl (by rw [hml]; exact hl.1) rfl dX6_init_1 (Nat.le_of_ble_eq_true rfl) (Nat.le_of_ble_eq_true rfl) ?_
  refine W.eq (g2 := F0 m 4 ls []) rfl ?_
  refine lv_aload_n hx hb dX6_init_4 rfl (lv_at hl 0 rfl) ?_
  refine lv_bipush (v := 24) hx hb dX6_init_5 (by decide) ?_
  refine k_newI hx hb (hts _ (List.mem_of_getElem? (i := 4) rfl)) hK hP hD hS hA 24 (by decide) (by decide) (Nat.le_of_ble_eq_true rfl) (Nat.le_of_ble_eq_true rfl) (Nat.le_of_ble_eq_true rfl) dX6_init_7 (fun q1 H hP hD hS => ?_)
  have hP : va_P O.1 vwCl [(a0, .inr (6, [.null, .null, .int 0, .int 0, .null, .null, .int 0, .int 0, .null, .null, .null, .int 0, .int 0, .int 0, .null, .int 0, .int 0, .int 0, .int 0, .int 0, .null, .int 0, .int 0, .int 0, .int 0, .int 0])), (q1, .inl (O.2.1, 24, .inl (fun _ => 0)))] H := hP
  have hD : va_D A [(a0, .inr (6, [.null, .null, .int 0, .int 0, .null, .null, .int 0, .int 0, .null, .null, .null, .int 0, .int 0, .int 0, .null, .int 0, .int 0, .int 0, .int 0, .int 0, .null, .int 0, .int 0, .int 0, .int 0, .int 0])), (q1, .inl (O.2.1, 24, .inl (fun _ => 0)))] := hD
  refine W.widen (k := 1) (n := 24) (Nat.le_of_ble_eq_true rfl) (Nat.le_of_ble_eq_true rfl) ?_
  refine va_putF (D := O.1) (ci := 6) (v := .ref q1) (ty := tyX6 0) (C := RX6) (T := TX6) (N := 26) hx hb hts (fun w h => List.mem_cons_of_mem _ (List.mem_append_right _ h)) tyX6 tyX6_ok nmX6 hown hK hP hD hS 0 rfl rfl 0 (by decide) (hts _ (List.mem_of_getElem? (i := 5) rfl)) (fun _ h9 => h9) rfl hin rfl (tyX6_ok 0 (by decide)) rfl rfl (Nat.le_of_ble_eq_true rfl) dX6_init_9 (fun H locs hP hD hS => ?_)
  have hP : va_P O.1 vwCl [(a0, .inr (6, [.ref q1, .null, .int 0, .int 0, .null, .null, .int 0, .int 0, .null, .null, .null, .int 0, .int 0, .int 0, .null, .int 0, .int 0, .int 0, .int 0, .int 0, .null, .int 0, .int 0, .int 0, .int 0, .int 0])), (q1, .inl (O.2.1, 24, .inl (fun _ => 0)))] H := hP
  have hD : va_D A [(a0, .inr (6, [.ref q1, .null, .int 0, .int 0, .null, .null, .int 0, .int 0, .null, .null, .null, .int 0, .int 0, .int 0, .null, .int 0, .int 0, .int 0, .int 0, .int 0, .null, .int 0, .int 0, .int 0, .int 0, .int 0])), (q1, .inl (O.2.1, 24, .inl (fun _ => 0)))] := hD
  refine lv_aload_n hx hb dX6_init_12 rfl (lv_at hl 0 rfl) ?_
  refine lv_sipush (v := 384) hx hb dX6_init_13 (by decide) ?_
  refine k_newI hx hb (hts _ (List.mem_of_getElem? (i := 4) rfl)) hK hP hD hS hA 384 (by decide) (by decide) (Nat.le_of_ble_eq_true rfl) (Nat.le_of_ble_eq_true rfl) (Nat.le_of_ble_eq_true rfl) dX6_init_16 (fun q2 H hP hD hS => ?_)
  have hP : va_P O.1 vwCl [(a0, .inr (6, [.ref q1, .null, .int 0, .int 0, .null, .null, .int 0, .int 0, .null, .null, .null, .int 0, .int 0, .int 0, .null, .int 0, .int 0, .int 0, .int 0, .int 0, .null, .int 0, .int 0, .int 0, .int 0, .int 0])), (q1, .inl (O.2.1, 24, .inl (fun _ => 0))), (q2, .inl (O.2.1, 384, .inl (fun _ => 0)))] H := hP
  have hD : va_D A [(a0, .inr (6, [.ref q1, .null, .int 0, .int 0, .null, .null, .int 0, .int 0, .null, .null, .null, .int 0, .int 0, .int 0, .null, .int 0, .int 0, .int 0, .int 0, .int 0, .null, .int 0, .int 0, .int 0, .int 0, .int 0])), (q1, .inl (O.2.1, 24, .inl (fun _ => 0))), (q2, .inl (O.2.1, 384, .inl (fun _ => 0)))] := hD
  refine W.widen (k := 2) (n := 408) (Nat.le_of_ble_eq_true rfl) (Nat.le_of_ble_eq_true rfl) ?_
  refine va_putF (D := O.1) (ci := 6) (v := .ref q2) (ty := tyX6 1) (C := RX6) (T := TX6) (N := 26) hx hb hts (fun w h => List.mem_cons_of_mem _ (List.mem_append_right _ h)) tyX6 tyX6_ok nmX6 hown hK hP hD hS 0 rfl rfl 1 (by decide) (hts _ (List.mem_of_getElem? (i := 6) rfl)) (fun _ h9 => h9) rfl hin rfl (tyX6_ok 1 (by decide)) rfl rfl (Nat.le_of_ble_eq_true rfl) dX6_init_18 (fun H locs hP hD hS => ?_)
  have hP : va_P O.1 vwCl [(a0, .inr (6, [.ref q1, .ref q2, .int 0, .int 0, .null, .null, .int 0, .int 0, .null, .null, .null, .int 0, .int 0, .int 0, .null, .int 0, .int 0, .int 0, .int 0, .int 0, .null, .int 0, .int 0, .int 0, .int 0, .int 0])), (q1, .inl (O.2.1, 24, .inl (fun _ => 0))), (q2, .inl (O.2.1, 384, .inl (fun _ => 0)))] H := hP
  have hD : va_D A [(a0, .inr (6, [.ref q1, .ref q2, .int 0, .int 0, .null, .null, .int 0, .int 0, .null, .null, .null, .int 0, .int 0, .int 0, .null, .int 0, .int 0, .int 0, .int 0, .int 0, .null, .int 0, .int 0, .int 0, .int 0, .int 0])), (q1, .inl (O.2.1, 24, .inl (fun _ => 0))), (q2, .inl (O.2.1, 384, .inl (fun _ => 0)))] := hD
  refine lv_aload_n hx hb dX6_init_21 rfl (lv_at hl 0 rfl) ?_
  refine lv_iconst (v := 2) hx hb dX6_init_22 (by decide) ?_
  refine k_newZ hx hb (hts _ (List.mem_of_getElem? (i := 7) rfl)) hK hP hD hS hA 2 (by decide) (by decide) (Nat.le_of_ble_eq_true rfl) (Nat.le_of_ble_eq_true rfl) (Nat.le_of_ble_eq_true rfl) dX6_init_23 (fun q3 H hP hD hS => ?_)
  have hP : va_P O.1 vwCl [(a0, .inr (6, [.ref q1, .ref q2, .int 0, .int 0, .null, .null, .int 0, .int 0, .null, .null, .null, .int 0, .int 0, .int 0, .null, .int 0, .int 0, .int 0, .int 0, .int 0, .null, .int 0, .int 0, .int 0, .int 0, .int 0])), (q1, .inl (O.2.1, 24, .inl (fun _ => 0))), (q2, .inl (O.2.1, 384, .inl (fun _ => 0))), (q3, .inl (O.2.2.1, 2, .inl (fun _ => 0)))] H := hP
  have hD : va_D A [(a0, .inr (6, [.ref q1, .ref q2, .int 0, .int 0, .null, .null, .int 0, .int 0, .null, .null, .null, .int 0, .int 0, .int 0, .null, .int 0, .int 0, .int 0, .int 0, .int 0, .null, .int 0, .int 0, .int 0, .int 0, .int 0])), (q1, .inl (O.2.1, 24, .inl (fun _ => 0))), (q2, .inl (O.2.1, 384, .inl (fun _ => 0))), (q3, .inl (O.2.2.1, 2, .inl (fun _ => 0)))] := hD
  refine W.widen (k := 3) (n := 410) (Nat.le_of_ble_eq_true rfl) (Nat.le_of_ble_eq_true rfl) ?_
  refine va_putF (D := O.1) (ci := 6) (v := .ref q3) (ty := tyX6 4) (C := RX6) (T := TX6) (N := 26) hx hb hts (fun w h => List.mem_cons_of_mem _ (List.mem_append_right _ h)) tyX6 tyX6_ok nmX6 hown hK hP hD hS 0 rfl rfl 4 (by decide) (hts _ (List.mem_of_getElem? (i := 8) rfl)) (fun _ h9 => h9) rfl hin rfl (tyX6_ok 4 (by decide)) rfl rfl (Nat.le_of_ble_eq_true rfl) dX6_init_25 (fun H locs hP hD hS => ?_)
  have hP : va_P O.1 vwCl [(a0, .inr (6, [.ref q1, .ref q2, .int 0, .int 0, .ref q3, .null, .int 0, .int 0, .null, .null, .null, .int 0, .int 0, .int 0, .null, .int 0, .int 0, .int 0, .int 0, .int 0, .null, .int 0, .int 0, .int 0, .int 0, .int 0])), (q1, .inl (O.2.1, 24, .inl (fun _ => 0))), (q2, .inl (O.2.1, 384, .inl (fun _ => 0))), (q3, .inl (O.2.2.1, 2, .inl (fun _ => 0)))] H := hP
  have hD : va_D A [(a0, .inr (6, [.ref q1, .ref q2, .int 0, .int 0, .ref q3, .null, .int 0, .int 0, .null, .null, .null, .int 0, .int 0, .int 0, .null, .int 0, .int 0, .int 0, .int 0, .int 0, .null, .int 0, .int 0, .int 0, .int 0, .int 0])), (q1, .inl (O.2.1, 24, .inl (fun _ => 0))), (q2, .inl (O.2.1, 384, .inl (fun _ => 0))), (q3, .inl (O.2.2.1, 2, .inl (fun _ => 0)))] := hD
  refine lv_aload_n hx hb dX6_init_28 rfl (lv_at hl 0 rfl) ?_
  refine lv_bipush (v := 50) hx hb dX6_init_29 (by decide) ?_
  refine k_newI hx hb (hts _ (List.mem_of_getElem? (i := 4) rfl)) hK hP hD hS hA 50 (by decide) (by decide) (Nat.le_of_ble_eq_true rfl) (Nat.le_of_ble_eq_true rfl) (Nat.le_of_ble_eq_true rfl) dX6_init_31 (fun q4 H hP hD hS => ?_)
  have hP : va_P O.1 vwCl [(a0, .inr (6, [.ref q1, .ref q2, .int 0, .int 0, .ref q3, .null, .int 0, .int 0, .null, .null, .null, .int 0, .int 0, .int 0, .null, .int 0, .int 0, .int 0, .int 0, .int 0, .null, .int 0, .int 0, .int 0, .int 0, .int 0])), (q1, .inl (O.2.1, 24, .inl (fun _ => 0))), (q2, .inl (O.2.1, 384, .inl (fun _ => 0))), (q3, .inl (O.2.2.1, 2, .inl (fun _ => 0))), (q4, .inl (O.2.1, 50, .inl (fun _ => 0)))] H := hP
  have hD : va_D A [(a0, .inr (6, [.ref q1, .ref q2, .int 0, .int 0, .ref q3, .null, .int 0, .int 0, .null, .null, .null, .int 0, .int 0, .int 0, .null, .int 0, .int 0, .int 0, .int 0, .int 0, .null, .int 0, .int 0, .int 0, .int 0, .int 0])), (q1, .inl (O.2.1, 24, .inl (fun _ => 0))), (q2, .inl (O.2.1, 384, .inl (fun _ => 0))), (q3, .inl (O.2.2.1, 2, .inl (fun _ => 0))), (q4, .inl (O.2.1, 50, .inl (fun _ => 0)))] := hD
  refine W.widen (k := 4) (n := 460) (Nat.le_of_ble_eq_true rfl) (Nat.le_of_ble_eq_true rfl) ?_
  refine va_putF (D := O.1) (ci := 6) (v := .ref q4) (ty := tyX6 5) (C := RX6) (T := TX6) (N := 26) hx hb hts (fun w h => List.mem_cons_of_mem _ (List.mem_append_right _ h)) tyX6 tyX6_ok nmX6 hown hK hP hD hS 0 rfl rfl 5 (by decide) (hts _ (List.mem_of_getElem? (i := 9) rfl)) (fun _ h9 => h9) rfl hin rfl (tyX6_ok 5 (by decide)) rfl rfl (Nat.le_of_ble_eq_true rfl) dX6_init_33 (fun H locs hP hD hS => ?_)
  have hP : va_P O.1 vwCl [(a0, .inr (6, [.ref q1, .ref q2, .int 0, .int 0, .ref q3, .ref q4, .int 0, .int 0, .null, .null, .null, .int 0, .int 0, .int 0, .null, .int 0, .int 0, .int 0, .int 0, .int 0, .null, .int 0, .int 0, .int 0, .int 0, .int 0])), (q1, .inl (O.2.1, 24, .inl (fun _ => 0))), (q2, .inl (O.2.1, 384, .inl (fun _ => 0))), (q3, .inl (O.2.2.1, 2, .inl (fun _ => 0))), (q4, .inl (O.2.1, 50, .inl (fun _ => 0)))] H := hP
  have hD : va_D A [(a0, .inr (6, [.ref q1, .ref q2, .int 0, .int 0, .ref q3, .ref q4, .int 0, .int 0, .null, .null, .null, .int 0, .int 0, .int 0, .null, .int 0, .int 0, .int 0, .int 0, .int 0, .null, .int 0, .int 0, .int 0, .int 0, .int 0])), (q1, .inl (O.2.1, 24, .inl (fun _ => 0))), (q2, .inl (O.2.1, 384, .inl (fun _ => 0))), (q3, .inl (O.2.2.1, 2, .inl (fun _ => 0))), (q4, .inl (O.2.1, 50, .inl (fun _ => 0)))] := hD
  refine lv_aload_n hx hb dX6_init_36 rfl (lv_at hl 0 rfl) ?_
  refine lv_bipush (v := 20) hx hb dX6_init_37 (by decide) ?_
  refine k_newI hx hb (hts _ (List.mem_of_getElem? (i := 4) rfl)) hK hP hD hS hA 20 (by decide) (by decide) (Nat.le_of_ble_eq_true rfl) (Nat.le_of_ble_eq_true rfl) (Nat.le_of_ble_eq_true rfl) dX6_init_39 (fun q5 H hP hD hS => ?_)
  have hP : va_P O.1 vwCl [(a0, .inr (6, [.ref q1, .ref q2, .int 0, .int 0, .ref q3, .ref q4, .int 0, .int 0, .null, .null, .null, .int 0, .int 0, .int 0, .null, .int 0, .int 0, .int 0, .int 0, .int 0, .null, .int 0, .int 0, .int 0, .int 0, .int 0])), (q1, .inl (O.2.1, 24, .inl (fun _ => 0))), (q2, .inl (O.2.1, 384, .inl (fun _ => 0))), (q3, .inl (O.2.2.1, 2, .inl (fun _ => 0))), (q4, .inl (O.2.1, 50, .inl (fun _ => 0))), (q5, .inl (O.2.1, 20, .inl (fun _ => 0)))] H := hP
  have hD : va_D A [(a0, .inr (6, [.ref q1, .ref q2, .int 0, .int 0, .ref q3, .ref q4, .int 0, .int 0, .null, .null, .null, .int 0, .int 0, .int 0, .null, .int 0, .int 0, .int 0, .int 0, .int 0, .null, .int 0, .int 0, .int 0, .int 0, .int 0])), (q1, .inl (O.2.1, 24, .inl (fun _ => 0))), (q2, .inl (O.2.1, 384, .inl (fun _ => 0))), (q3, .inl (O.2.2.1, 2, .inl (fun _ => 0))), (q4, .inl (O.2.1, 50, .inl (fun _ => 0))), (q5, .inl (O.2.1, 20, .inl (fun _ => 0)))] := hD
  refine W.widen (k := 5) (n := 480) (Nat.le_of_ble_eq_true rfl) (Nat.le_of_ble_eq_true rfl) ?_
  refine va_putF (D := O.1) (ci := 6) (v := .ref q5) (ty := tyX6 8) (C := RX6) (T := TX6) (N := 26) hx hb hts (fun w h => List.mem_cons_of_mem _ (List.mem_append_right _ h)) tyX6 tyX6_ok nmX6 hown hK hP hD hS 0 rfl rfl 8 (by decide) (hts _ (List.mem_of_getElem? (i := 10) rfl)) (fun _ h9 => h9) rfl hin rfl (tyX6_ok 8 (by decide)) rfl rfl (Nat.le_of_ble_eq_true rfl) dX6_init_41 (fun H locs hP hD hS => ?_)
  have hP : va_P O.1 vwCl [(a0, .inr (6, [.ref q1, .ref q2, .int 0, .int 0, .ref q3, .ref q4, .int 0, .int 0, .ref q5, .null, .null, .int 0, .int 0, .int 0, .null, .int 0, .int 0, .int 0, .int 0, .int 0, .null, .int 0, .int 0, .int 0, .int 0, .int 0])), (q1, .inl (O.2.1, 24, .inl (fun _ => 0))), (q2, .inl (O.2.1, 384, .inl (fun _ => 0))), (q3, .inl (O.2.2.1, 2, .inl (fun _ => 0))), (q4, .inl (O.2.1, 50, .inl (fun _ => 0))), (q5, .inl (O.2.1, 20, .inl (fun _ => 0)))] H := hP
  have hD : va_D A [(a0, .inr (6, [.ref q1, .ref q2, .int 0, .int 0, .ref q3, .ref q4, .int 0, .int 0, .ref q5, .null, .null, .int 0, .int 0, .int 0, .null, .int 0, .int 0, .int 0, .int 0, .int 0, .null, .int 0, .int 0, .int 0, .int 0, .int 0])), (q1, .inl (O.2.1, 24, .inl (fun _ => 0))), (q2, .inl (O.2.1, 384, .inl (fun _ => 0))), (q3, .inl (O.2.2.1, 2, .inl (fun _ => 0))), (q4, .inl (O.2.1, 50, .inl (fun _ => 0))), (q5, .inl (O.2.1, 20, .inl (fun _ => 0)))] := hD
  refine lv_aload_n hx hb dX6_init_44 rfl (lv_at hl 0 rfl) ?_
  refine lv_bipush (v := 20) hx hb dX6_init_45 (by decide) ?_
  refine k_newI hx hb (hts _ (List.mem_of_getElem? (i := 4) rfl)) hK hP hD hS hA 20 (by decide) (by decide) (Nat.le_of_ble_eq_true rfl) (Nat.le_of_ble_eq_true rfl) (Nat.le_of_ble_eq_true rfl) dX6_init_47 (fun q6 H hP hD hS => ?_)
  have hP : va_P O.1 vwCl [(a0, .inr (6, [.ref q1, .ref q2, .int 0, .int 0, .ref q3, .ref q4, .int 0, .int 0, .ref q5, .null, .null, .int 0, .int 0, .int 0, .null, .int 0, .int 0, .int 0, .int 0, .int 0, .null, .int 0, .int 0, .int 0, .int 0, .int 0])), (q1, .inl (O.2.1, 24, .inl (fun _ => 0))), (q2, .inl (O.2.1, 384, .inl (fun _ => 0))), (q3, .inl (O.2.2.1, 2, .inl (fun _ => 0))), (q4, .inl (O.2.1, 50, .inl (fun _ => 0))), (q5, .inl (O.2.1, 20, .inl (fun _ => 0))), (q6, .inl (O.2.1, 20, .inl (fun _ => 0)))] H := hP
  have hD : va_D A [(a0, .inr (6, [.ref q1, .ref q2, .int 0, .int 0, .ref q3, .ref q4, .int 0, .int 0, .ref q5, .null, .null, .int 0, .int 0, .int 0, .null, .int 0, .int 0, .int 0, .int 0, .int 0, .null, .int 0, .int 0, .int 0, .int 0, .int 0])), (q1, .inl (O.2.1, 24, .inl (fun _ => 0))), (q2, .inl (O.2.1, 384, .inl (fun _ => 0))), (q3, .inl (O.2.2.1, 2, .inl (fun _ => 0))), (q4, .inl (O.2.1, 50, .inl (fun _ => 0))), (q5, .inl (O.2.1, 20, .inl (fun _ => 0))), (q6, .inl (O.2.1, 20, .inl (fun _ => 0)))] := hD
  refine W.widen (k := 6) (n := 500) (Nat.le_of_ble_eq_true rfl) (Nat.le_of_ble_eq_true rfl) ?_
  refine va_putF (D := O.1) (ci := 6) (v := .ref q6) (ty := tyX6 9) (C := RX6) (T := TX6) (N := 26) hx hb hts (fun w h => List.mem_cons_of_mem _ (List.mem_append_right _ h)) tyX6 tyX6_ok nmX6 hown hK hP hD hS 0 rfl rfl 9 (by decide) (hts _ (List.mem_of_getElem? (i := 11) rfl)) (fun _ h9 => h9) rfl hin rfl (tyX6_ok 9 (by decide)) rfl rfl (Nat.le_of_ble_eq_true rfl) dX6_init_49 (fun H locs hP hD hS => ?_)
  have hP : va_P O.1 vwCl [(a0, .inr (6, [.ref q1, .ref q2, .int 0, .int 0, .ref q3, .ref q4, .int 0, .int 0, .ref q5, .ref q6, .null, .int 0, .int 0, .int 0, .null, .int 0, .int 0, .int 0, .int 0, .int 0, .null, .int 0, .int 0, .int 0, .int 0, .int 0])), (q1, .inl (O.2.1, 24, .inl (fun _ => 0))), (q2, .inl (O.2.1, 384, .inl (fun _ => 0))), (q3, .inl (O.2.2.1, 2, .inl (fun _ => 0))), (q4, .inl (O.2.1, 50, .inl (fun _ => 0))), (q5, .inl (O.2.1, 20, .inl (fun _ => 0))), (q6, .inl (O.2.1, 20, .inl (fun _ => 0)))] H := hP
  have hD : va_D A [(a0, .inr (6, [.ref q1, .ref q2, .int 0, .int 0, .ref q3, .ref q4, .int 0, .int 0, .ref q5, .ref q6, .null, .int 0, .int 0, .int 0, .null, .int 0, .int 0, .int 0, .int 0, .int 0, .null, .int 0, .int 0, .int 0, .int 0, .int 0])), (q1, .inl (O.2.1, 24, .inl (fun _ => 0))), (q2, .inl (O.2.1, 384, .inl (fun _ => 0))), (q3, .inl (O.2.2.1, 2, .inl (fun _ => 0))), (q4, .inl (O.2.1, 50, .inl (fun _ => 0))), (q5, .inl (O.2.1, 20, .inl (fun _ => 0))), (q6, .inl (O.2.1, 20, .inl (fun _ => 0)))] := hD
  refine lv_aload_n hx hb dX6_init_52 rfl (lv_at hl 0 rfl) ?_
  refine lv_bipush (v := 20) hx hb dX6_init_53 (by decide) ?_
  refine k_newI hx hb (hts _ (List.mem_of_getElem? (i := 4) rfl)) hK hP hD hS hA 20 (by decide) (by decide) (Nat.le_of_ble_eq_true rfl) (Nat.le_of_ble_eq_true rfl) (Nat.le_of_ble_eq_true rfl) dX6_init_55 (fun q7 H hP hD hS => ?_)
  have hP : va_P O.1 vwCl [(a0, .inr (6, [.ref q1, .ref q2, .int 0, .int 0, .ref q3, .ref q4, .int 0, .int 0, .ref q5, .ref q6, .null, .int 0, .int 0, .int 0, .null, .int 0, .int 0, .int 0, .int 0, .int 0, .null, .int 0, .int 0, .int 0, .int 0, .int 0])), (q1, .inl (O.2.1, 24, .inl (fun _ => 0))), (q2, .inl (O.2.1, 384, .inl (fun _ => 0))), (q3, .inl (O.2.2.1, 2, .inl (fun _ => 0))), (q4, .inl (O.2.1, 50, .inl (fun _ => 0))), (q5, .inl (O.2.1, 20, .inl (fun _ => 0))), (q6, .inl (O.2.1, 20, .inl (fun _ => 0))), (q7, .inl (O.2.1, 20, .inl (fun _ => 0)))] H := hP
  have hD : va_D A [(a0, .inr (6, [.ref q1, .ref q2, .int 0, .int 0, .ref q3, .ref q4, .int 0, .int 0, .ref q5, .ref q6, .null, .int 0, .int 0, .int 0, .null, .int 0, .int 0, .int 0, .int 0, .int 0, .null, .int 0, .int 0, .int 0, .int 0, .int 0])), (q1, .inl (O.2.1, 24, .inl (fun _ => 0))), (q2, .inl (O.2.1, 384, .inl (fun _ => 0))), (q3, .inl (O.2.2.1, 2, .inl (fun _ => 0))), (q4, .inl (O.2.1, 50, .inl (fun _ => 0))), (q5, .inl (O.2.1, 20, .inl (fun _ => 0))), (q6, .inl (O.2.1, 20, .inl (fun _ => 0))), (q7, .inl (O.2.1, 20, .inl (fun _ => 0)))] := hD
  refine W.widen (k := 7) (n := 520) (Nat.le_of_ble_eq_true rfl) (Nat.le_of_ble_eq_true rfl) ?_
  refine va_putF (D := O.1) (ci := 6) (v := .ref q7) (ty := tyX6 10) (C := RX6) (T := TX6) (N := 26) hx hb hts (fun w h => List.mem_cons_of_mem _ (List.mem_append_right _ h)) tyX6 tyX6_ok nmX6 hown hK hP hD hS 0 rfl rfl 10 (by decide) (hts _ (List.mem_of_getElem? (i := 12) rfl)) (fun _ h9 => h9) rfl hin rfl (tyX6_ok 10 (by decide)) rfl rfl (Nat.le_of_ble_eq_true rfl) dX6_init_57 (fun H locs hP hD hS => ?_)
  have hP : va_P O.1 vwCl [(a0, .inr (6, [.ref q1, .ref q2, .int 0, .int 0, .ref q3, .ref q4, .int 0, .int 0, .ref q5, .ref q6, .ref q7, .int 0, .int 0, .int 0, .null, .int 0, .int 0, .int 0, .int 0, .int 0, .null, .int 0, .int 0, .int 0, .int 0, .int 0])), (q1, .inl (O.2.1, 24, .inl (fun _ => 0))), (q2, .inl (O.2.1, 384, .inl (fun _ => 0))), (q3, .inl (O.2.2.1, 2, .inl (fun _ => 0))), (q4, .inl (O.2.1, 50, .inl (fun _ => 0))), (q5, .inl (O.2.1, 20, .inl (fun _ => 0))), (q6, .inl (O.2.1, 20, .inl (fun _ => 0))), (q7, .inl (O.2.1, 20, .inl (fun _ => 0)))] H := hP
  have hD : va_D A [(a0, .inr (6, [.ref q1, .ref q2, .int 0, .int 0, .ref q3, .ref q4, .int 0, .int 0, .ref q5, .ref q6, .ref q7, .int 0, .int 0, .int 0, .null, .int 0, .int 0, .int 0, .int 0, .int 0, .null, .int 0, .int 0, .int 0, .int 0, .int 0])), (q1, .inl (O.2.1, 24, .inl (fun _ => 0))), (q2, .inl (O.2.1, 384, .inl (fun _ => 0))), (q3, .inl (O.2.2.1, 2, .inl (fun _ => 0))), (q4, .inl (O.2.1, 50, .inl (fun _ => 0))), (q5, .inl (O.2.1, 20, .inl (fun _ => 0))), (q6, .inl (O.2.1, 20, .inl (fun _ => 0))), (q7, .inl (O.2.1, 20, .inl (fun _ => 0)))] := hD
  refine lv_aload_n hx hb dX6_init_60 rfl (lv_at hl 0 rfl) ?_
  refine lv_sipush (v := 201) hx hb dX6_init_61 (by decide) ?_
  refine k_newI hx hb (hts _ (List.mem_of_getElem? (i := 4) rfl)) hK hP hD hS hA 201 (by decide) (by decide) (Nat.le_of_ble_eq_true rfl) (Nat.le_of_ble_eq_true rfl) (Nat.le_of_ble_eq_true rfl) dX6_init_64 (fun q8 H hP hD hS => ?_)
  have hP : va_P O.1 vwCl [(a0, .inr (6, [.ref q1, .ref q2, .int 0, .int 0, .ref q3, .ref q4, .int 0, .int 0, .ref q5, .ref q6, .ref q7, .int 0, .int 0, .int 0, .null, .int 0, .int 0, .int 0, .int 0, .int 0, .null, .int 0, .int 0, .int 0, .int 0, .int 0])), (q1, .inl (O.2.1, 24, .inl (fun _ => 0))), (q2, .inl (O.2.1, 384, .inl (fun _ => 0))), (q3, .inl (O.2.2.1, 2, .inl (fun _ => 0))), (q4, .inl (O.2.1, 50, .inl (fun _ => 0))), (q5, .inl (O.2.1, 20, .inl (fun _ => 0))), (q6, .inl (O.2.1, 20, .inl (fun _ => 0))), (q7, .inl (O.2.1, 20, .inl (fun _ => 0))), (q8, .inl (O.2.1, 201, .inl (fun _ => 0)))] H := hP
  have hD : va_D A [(a0, .inr (6, [.ref q1, .ref q2, .int 0, .int 0, .ref q3, .ref q4, .int 0, .int 0, .ref q5, .ref q6, .ref q7, .int 0, .int 0, .int 0, .null, .int 0, .int 0, .int 0, .int 0, .int 0, .null, .int 0, .int 0, .int 0, .int 0, .int 0])), (q1, .inl (O.2.1, 24, .inl (fun _ => 0))), (q2, .inl (O.2.1, 384, .inl (fun _ => 0))), (q3, .inl (O.2.2.1, 2, .inl (fun _ => 0))), (q4, .inl (O.2.1, 50, .inl (fun _ => 0))), (q5, .inl (O.2.1, 20, .inl (fun _ => 0))), (q6, .inl (O.2.1, 20, .inl (fun _ => 0))), (q7, .inl (O.2.1, 20, .inl (fun _ => 0))), (q8, .inl (O.2.1, 201, .inl (fun _ => 0)))] := hD
  refine W.widen (k := 8) (n := 721) (Nat.le_of_ble_eq_true rfl) (Nat.le_of_ble_eq_true rfl) ?_
  refine va_putF (D := O.1) (ci := 6) (v := .ref q8) (ty := tyX6 14) (C := RX6) (T := TX6) (N := 26) hx hb hts (fun w h => List.mem_cons_of_mem _ (List.mem_append_right _ h)) tyX6 tyX6_ok nmX6 hown hK hP hD hS 0 rfl rfl 14 (by decide) (hts _ (List.mem_of_getElem? (i := 13) rfl)) (fun _ h9 => h9) rfl hin rfl (tyX6_ok 14 (by decide)) rfl rfl (Nat.le_of_ble_eq_true rfl) dX6_init_66 (fun H locs hP hD hS => ?_)
  have hP : va_P O.1 vwCl [(a0, .inr (6, [.ref q1, .ref q2, .int 0, .int 0, .ref q3, .ref q4, .int 0, .int 0, .ref q5, .ref q6, .ref q7, .int 0, .int 0, .int 0, .ref q8, .int 0, .int 0, .int 0, .int 0, .int 0, .null, .int 0, .int 0, .int 0, .int 0, .int 0])), (q1, .inl (O.2.1, 24, .inl (fun _ => 0))), (q2, .inl (O.2.1, 384, .inl (fun _ => 0))), (q3, .inl (O.2.2.1, 2, .inl (fun _ => 0))), (q4, .inl (O.2.1, 50, .inl (fun _ => 0))), (q5, .inl (O.2.1, 20, .inl (fun _ => 0))), (q6, .inl (O.2.1, 20, .inl (fun _ => 0))), (q7, .inl (O.2.1, 20, .inl (fun _ => 0))), (q8, .inl (O.2.1, 201, .inl (fun _ => 0)))] H := hP
  have hD : va_D A [(a0, .inr (6, [.ref q1, .ref q2, .int 0, .int 0, .ref q3, .ref q4, .int 0, .int 0, .ref q5, .ref q6, .ref q7, .int 0, .int 0, .int 0, .ref q8, .int 0, .int 0, .int 0, .int 0, .int 0, .null, .int 0, .int 0, .int 0, .int 0, .int 0])), (q1, .inl (O.2.1, 24, .inl (fun _ => 0))), (q2, .inl (O.2.1, 384, .inl (fun _ => 0))), (q3, .inl (O.2.2.1, 2, .inl (fun _ => 0))), (q4, .inl (O.2.1, 50, .inl (fun _ => 0))), (q5, .inl (O.2.1, 20, .inl (fun _ => 0))), (q6, .inl (O.2.1, 20, .inl (fun _ => 0))), (q7, .inl (O.2.1, 20, .inl (fun _ => 0))), (q8, .inl (O.2.1, 201, .inl (fun _ => 0)))] := hD
  refine lv_aload_n hx hb dX6_init_69 rfl (lv_at hl 0 rfl) ?_
  refine lv_sipush (v := 4000) hx hb dX6_init_70 (by decide) ?_
  refine k_newI hx hb (hts _ (List.mem_of_getElem? (i := 4) rfl)) hK hP hD hS hA 4000 (by decide) (by decide) (Nat.le_of_ble_eq_true rfl) (Nat.le_of_ble_eq_true rfl) (Nat.le_of_ble_eq_true rfl) dX6_init_73 (fun q9 H hP hD hS => ?_)
  have hP : va_P O.1 vwCl [(a0, .inr (6, [.ref q1, .ref q2, .int 0, .int 0, .ref q3, .ref q4, .int 0, .int 0, .ref q5, .ref q6, .ref q7, .int 0, .int 0, .int 0, .ref q8, .int 0, .int 0, .int 0, .int 0, .int 0, .null, .int 0, .int 0, .int 0, .int 0, .int 0])), (q1, .inl (O.2.1, 24, .inl (fun _ => 0))), (q2, .inl (O.2.1, 384, .inl (fun _ => 0))), (q3, .inl (O.2.2.1, 2, .inl (fun _ => 0))), (q4, .inl (O.2.1, 50, .inl (fun _ => 0))), (q5, .inl (O.2.1, 20, .inl (fun _ => 0))), (q6, .inl (O.2.1, 20, .inl (fun _ => 0))), (q7, .inl (O.2.1, 20, .inl (fun _ => 0))), (q8, .inl (O.2.1, 201, .inl (fun _ => 0))), (q9, .inl (O.2.1, 4000, .inl (fun _ => 0)))] H := hP
  have hD : va_D A [(a0, .inr (6, [.ref q1, .ref q2, .int 0, .int 0, .ref q3, .ref q4, .int 0, .int 0, .ref q5, .ref q6, .ref q7, .int 0, .int 0, .int 0, .ref q8, .int 0, .int 0, .int 0, .int 0, .int 0, .null, .int 0, .int 0, .int 0, .int 0, .int 0])), (q1, .inl (O.2.1, 24, .inl (fun _ => 0))), (q2, .inl (O.2.1, 384, .inl (fun _ => 0))), (q3, .inl (O.2.2.1, 2, .inl (fun _ => 0))), (q4, .inl (O.2.1, 50, .inl (fun _ => 0))), (q5, .inl (O.2.1, 20, .inl (fun _ => 0))), (q6, .inl (O.2.1, 20, .inl (fun _ => 0))), (q7, .inl (O.2.1, 20, .inl (fun _ => 0))), (q8, .inl (O.2.1, 201, .inl (fun _ => 0))), (q9, .inl (O.2.1, 4000, .inl (fun _ => 0)))] := hD
  refine W.widen (k := 9) (n := 4721) (Nat.le_of_ble_eq_true rfl) (Nat.le_of_ble_eq_true rfl) ?_
  refine va_putF (D := O.1) (ci := 6) (v := .ref q9) (ty := tyX6 20) (C := RX6) (T := TX6) (N := 26) hx hb hts (fun w h => List.mem_cons_of_mem _ (List.mem_append_right _ h)) tyX6 tyX6_ok nmX6 hown hK hP hD hS 0 rfl rfl 20 (by decide) (hts _ (List.mem_of_getElem? (i := 14) rfl)) (fun _ h9 => h9) rfl hin rfl (tyX6_ok 20 (by decide)) rfl rfl (Nat.le_of_ble_eq_true rfl) dX6_init_75 (fun H locs hP hD hS => ?_)
  have hP : va_P O.1 vwCl [(a0, .inr (6, [.ref q1, .ref q2, .int 0, .int 0, .ref q3, .ref q4, .int 0, .int 0, .ref q5, .ref q6, .ref q7, .int 0, .int 0, .int 0, .ref q8, .int 0, .int 0, .int 0, .int 0, .int 0, .ref q9, .int 0, .int 0, .int 0, .int 0, .int 0])), (q1, .inl (O.2.1, 24, .inl (fun _ => 0))), (q2, .inl (O.2.1, 384, .inl (fun _ => 0))), (q3, .inl (O.2.2.1, 2, .inl (fun _ => 0))), (q4, .inl (O.2.1, 50, .inl (fun _ => 0))), (q5, .inl (O.2.1, 20, .inl (fun _ => 0))), (q6, .inl (O.2.1, 20, .inl (fun _ => 0))), (q7, .inl (O.2.1, 20, .inl (fun _ => 0))), (q8, .inl (O.2.1, 201, .inl (fun _ => 0))), (q9, .inl (O.2.1, 4000, .inl (fun _ => 0)))] H := hP
  have hD : va_D A [(a0, .inr (6, [.ref q1, .ref q2, .int 0, .int 0, .ref q3, .ref q4, .int 0, .int 0, .ref q5, .ref q6, .ref q7, .int 0, .int 0, .int 0, .ref q8, .int 0, .int 0, .int 0, .int 0, .int 0, .ref q9, .int 0, .int 0, .int 0, .int 0, .int 0])), (q1, .inl (O.2.1, 24, .inl (fun _ => 0))), (q2, .inl (O.2.1, 384, .inl (fun _ => 0))), (q3, .inl (O.2.2.1, 2, .inl (fun _ => 0))), (q4, .inl (O.2.1, 50, .inl (fun _ => 0))), (q5, .inl (O.2.1, 20, .inl (fun _ => 0))), (q6, .inl (O.2.1, 20, .inl (fun _ => 0))), (q7, .inl (O.2.1, 20, .inl (fun _ => 0))), (q8, .inl (O.2.1, 201, .inl (fun _ => 0))), (q9, .inl (O.2.1, 4000, .inl (fun _ => 0)))] := hD
  refine lv_aload_n hx hb dX6_init_78 rfl (lv_at hl 0 rfl) ?_
  refine va_get (D := O.1) (ci := 6) (v := .ref q1) (C := RX6) (T := TX6) (N := 26) hx hb hts (fun w h => List.mem_cons_of_mem _ (List.mem_append_right _ h)) hown hK hP 0 rfl rfl 0 (by decide) (hts _ (List.mem_of_getElem? (i := 5) rfl)) (fun _ h9 => h9) rfl dX6_init_79 ?_
  refine lv_iconst (v := 1) hx hb dX6_init_82 (by decide) ?_
  refine lv_sipush (v := 400) hx hb dX6_init_83 (by decide) ?_
  refine va_iast (D := O.1) (cA := O.2.1) (n := 24) (f := fun _ => 0) hx hb hK hP hD hS 1 0 rfl rfl (by rw [show (1 : Int32) = iI 1 by decide]; exact (iI_in (n := 24) (z := 1) (j := 1) rfl (by decide) (by decide)).1) dX6_init_86 (fun H locs hP hD hS => ?_)
  have hP : va_P O.1 vwCl [(a0, .inr (6, [.ref q1, .ref q2, .int 0, .int 0, .ref q3, .ref q4, .int 0, .int 0, .ref q5, .ref q6, .ref q7, .int 0, .int 0, .int 0, .ref q8, .int 0, .int 0, .int 0, .int 0, .int 0, .ref q9, .int 0, .int 0, .int 0, .int 0, .int 0])), (q1, .inl (O.2.1, 24, .inl (upd (fun _ => 0) 1 400))), (q2, .inl (O.2.1, 384, .inl (fun _ => 0))), (q3, .inl (O.2.2.1, 2, .inl (fun _ => 0))), (q4, .inl (O.2.1, 50, .inl (fun _ => 0))), (q5, .inl (O.2.1, 20, .inl (fun _ => 0))), (q6, .inl (O.2.1, 20, .inl (fun _ => 0))), (q7, .inl (O.2.1, 20, .inl (fun _ => 0))), (q8, .inl (O.2.1, 201, .inl (fun _ => 0))), (q9, .inl (O.2.1, 4000, .inl (fun _ => 0)))] H := hP
  have hD : va_D A [(a0, .inr (6, [.ref q1, .ref q2, .int 0, .int 0, .ref q3, .ref q4, .int 0, .int 0, .ref q5, .ref q6, .ref q7, .int 0, .int 0, .int 0, .ref q8, .int 0, .int 0, .int 0, .int 0, .int 0, .ref q9, .int 0, .int 0, .int 0, .int 0, .int 0])), (q1, .inl (O.2.1, 24, .inl (upd (fun _ => 0) 1 400))), (q2, .inl (O.2.1, 384, .inl (fun _ => 0))), (q3, .inl (O.2.2.1, 2, .inl (fun _ => 0))), (q4, .inl (O.2.1, 50, .inl (fun _ => 0))), (q5, .inl (O.2.1, 20, .inl (fun _ => 0))), (q6, .inl (O.2.1, 20, .inl (fun _ => 0))), (q7, .inl (O.2.1, 20, .inl (fun _ => 0))), (q8, .inl (O.2.1, 201, .inl (fun _ => 0))), (q9, .inl (O.2.1, 4000, .inl (fun _ => 0)))] := hD
  obtain ⟨be, hbe⟩ : ∃ be : Nat → Nat, be = fun i => if i = 72 then a0 else if i = 73 then q1 else if i = 74 then q2 else if i = 75 then q3 else if i = 76 then q4 else if i = 77 then q5 else if i = 78 then q6 else if i = 79 then q7 else if i = 80 then q8 else q9 := ⟨_, rfl⟩
  have b72 : be 72 = a0 := by rw [hbe]; rfl
  have b73 : be 73 = q1 := by rw [hbe]; rfl
  have b74 : be 74 = q2 := by rw [hbe]; rfl
  have b75 : be 75 = q3 := by rw [hbe]; rfl
  have b76 : be 76 = q4 := by rw [hbe]; rfl
  have b77 : be 77 = q5 := by rw [hbe]; rfl
  have b78 : be 78 = q6 := by rw [hbe]; rfl
  have b79 : be 79 = q7 := by rw [hbe]; rfl
  have b80 : be 80 = q8 := by rw [hbe]; rfl
  have b81 : be 81 = q9 := by rw [hbe]; rfl
  have e72 : eA O be 72 = .inr (6, [.ref q1, .ref q2, .int 0, .int 0, .ref q3, .ref q4, .int 0, .int 0, .ref q5, .ref q6, .ref q7, .int 0, .int 0, .int 0, .ref q8, .int 0, .int 0, .int 0, .int 0, .int 0, .ref q9, .int 0, .int 0, .int 0, .int 0, .int 0]) := by
    unfold eA
    rw [en_72]
    dsimp only
    simp only [b73, b74, b75, b76, b77, b78, b79, b80, b81, V0_z (c := 72) (by decide) (by decide), iI_0]
  have e73 : eA O be 73 = .inl (O.2.1, 24, .inl (upd (fun _ => 0) 1 400)) := by
    unfold eA
    show Sum.inl (O.2.1, 24, Sum.inl (fun i => iI (V0 73 i))) = _
    congr 4
    funext i
    by_cases h : i = 1
    · subst h; decide
    · rw [V0_0 (fun q => absurd q.2 (by decide)) (fun q => h q.2), iI_0]; unfold upd; rw [if_neg h]
  have e74 : eA O be 74 = .inl (O.2.1, 384, .inl (fun _ => 0)) := eA_row (fun r => rfl) (by decide) (by decide)
  have e75 : eA O be 75 = .inl (O.2.2.1, 2, .inl (fun _ => 0)) := by
    unfold eA
    show Sum.inl (O.2.2.1, 2, Sum.inl (fun i => iI (V0 75 i))) = _
    congr 4
    funext i
    rw [V0_z (by decide) (by decide), iI_0]
  have e76 : eA O be 76 = .inl (O.2.1, 50, .inl (fun _ => 0)) := eA_row (fun r => rfl) (by decide) (by decide)
  have e77 : eA O be 77 = .inl (O.2.1, 20, .inl (fun _ => 0)) := eA_row (fun r => rfl) (by decide) (by decide)
  have e78 : eA O be 78 = .inl (O.2.1, 20, .inl (fun _ => 0)) := eA_row (fun r => rfl) (by decide) (by decide)
  have e79 : eA O be 79 = .inl (O.2.1, 20, .inl (fun _ => 0)) := eA_row (fun r => rfl) (by decide) (by decide)
  have e80 : eA O be 80 = .inl (O.2.1, 201, .inl (fun _ => 0)) := eA_row (fun r => rfl) (by decide) (by decide)
  have e81 : eA O be 81 = .inl (O.2.1, 4000, .inl (fun _ => 0)) := eA_row (fun r => rfl) (by decide) (by decide)
  have hw : wr be (eA O be) 72 10 = [(a0, .inr (6, [.ref q1, .ref q2, .int 0, .int 0, .ref q3, .ref q4, .int 0, .int 0, .ref q5, .ref q6, .ref q7, .int 0, .int 0, .int 0, .ref q8, .int 0, .int 0, .int 0, .int 0, .int 0, .ref q9, .int 0, .int 0, .int 0, .int 0, .int 0])), (q1, .inl (O.2.1, 24, .inl (upd (fun _ => 0) 1 400))), (q2, .inl (O.2.1, 384, .inl (fun _ => 0))), (q3, .inl (O.2.2.1, 2, .inl (fun _ => 0))), (q4, .inl (O.2.1, 50, .inl (fun _ => 0))), (q5, .inl (O.2.1, 20, .inl (fun _ => 0))), (q6, .inl (O.2.1, 20, .inl (fun _ => 0))), (q7, .inl (O.2.1, 20, .inl (fun _ => 0))), (q8, .inl (O.2.1, 201, .inl (fun _ => 0))), (q9, .inl (O.2.1, 4000, .inl (fun _ => 0)))] := by
    show [(be 72, eA O be 72), (be 73, eA O be 73), (be 74, eA O be 74), (be 75, eA O be 75), (be 76, eA O be 76), (be 77, eA O be 77), (be 78, eA O be 78), (be 79, eA O be 79), (be 80, eA O be 80), (be 81, eA O be 81)] = _
    rw [b72, b73, b74, b75, b76, b77, b78, b79, b80, b81, e72, e73, e74, e75, e76, e77, e78, e79, e80, e81]
  rw [← hw] at hP hD
  exact W.vret hx hb hr (fun t ht hW => ⟨⟨be, rfl, ⟨b72, trivial⟩, by rw [ht]; exact hP, hD⟩, hS.F ht⟩) hS.2.2 dX6_init_87
