def rX5_init : Room := { frames := 3, cells := 71, slots := 860, locals := 53 }
theorem sgX5_init : sgC yX5_init wsX5_init cX5_init 2 rX5_init 0 71 860 := ⟨⟨_, rfl⟩, rfl, rfl, rfl, by decide, by decide, by decide +kernel⟩
set_option maxHeartbeats 8000000 in
set_option maxRecDepth 100000 in
theorem ctX5 (O : OmT) (l : Launch) (a0 sz : Nat) : CT O l yX5_init wsX5_init rX5_init 0 72 [.ref a0] a0 sz (.inr (5, [.null, .null, .null, .null, .null, .null, .int 0])) (fun _ => True) 71 860 := by
  refine Met.ofW (cc := cX5_init) (maxL := 2) (ret := none) (by decide) rfl ?_
  intro p e s m args below meth cd s₁ B hml hv
  obtain ⟨rfl, hsz, hP, hK, hnw, hao⟩ := hv
  have hx := B.exec
  have hb := B.bytes
  have hr := B.returns
  have hts := atoms_spec (ws := wsX5_init) B.pre
  have hown : s.vm.findClass RX5 = some m.cls := findClass_of_methodNamed B.named
  have hlocks := B.notSynchronized
  have hin : meth.name = "<init>" := (name_of_methodNamed B.named B.method).1
  subst hsz
  have hD : va_D (va_A [(a0, .inr (5, [.null, .null, .null, .null, .null, .null, .int 0]))] s.heap.size) [(a0, .inr (5, [.null, .null, .null, .null, .null, .null, .int 0]))] := one_D (Or.inl ⟨0, _, rfl⟩)
  unfold ctB
  generalize hAe : va_A [(a0, .inr (5, [.null, .null, .null, .null, .null, .null, .int 0]))] s.heap.size = A at hD ⊢
  have hA : ∀ q : Nat, s.heap.size ≤ q → A q := fun q h => by rw [← hAe]; exact Or.inr h
  have hS : va_S A s.heap s.heap [] := va_S.rf
  have hl := lv_entry ([.ref a0]) (n := 2) (Nat.le_of_ble_eq_true rfl)
  rw [lg_entry_eq]
  generalize (lg_sl ([.ref a0]) ++ List.replicate (2 - (lg_sl ([.ref a0])).length) Slot.unset).toArray = ls at hl ⊢
  have hl : lv_has ls 2 [(0, .ref a0)] := hl
  obtain ⟨al0, hal0⟩ : ∃ al0 : Nat → Nat, al0 = fun _ => a0 := ⟨_, rfl⟩
  obtain ⟨e0, he0⟩ : ∃ e0 : Nat → va_E, e0 = fun _ => .inr (5, [.null, .null, .null, .null, .null, .null, .int 0]) := ⟨_, rfl⟩
  have hst : fSt O A s 65 0 1 a0 (.inr (5, [.null, .null, .null, .null, .null, .null, .int 0])) al0 e0 s.heap [] := ⟨by rw [hal0], by rw [he0], fun j h1 h2 _ => absurd h1 (by omega), by rw [hal0, he0]; exact hP, by rw [hal0, he0]; exact hD, hS⟩
  refine lv_aload_n hx hb dX5_init_0 rfl (lv_at hl 0 rfl) ?_
  refine W.objInit hx hb hown (hts _ (List.mem_of_getElem? (i := 1) rfl)) (hts _ (List.mem_of_getElem? (i := 2) rfl)) (hts _ (List.mem_of_getElem? (i := 3) rfl)) rfl (by rw [hml]; exact hl.1) rfl dX5_init_1 (Nat.le_of_ble_eq_true rfl) (Nat.le_of_ble_eq_true rfl) ?_
  refine W.eq (g2 := F0 m 4 ls []) rfl ?_
  refine lv_aload_n hx hb dX5_init_4 rfl (lv_at hl 0 rfl) ?_
  obtain ⟨h0, he, hinv, hP, hD, hS⟩ := id hst
  refine va_new (ci := 1) (fs := [.null, .null, .int 0, .int 0, .int 0, .int 0, .int 0]) (C := RX1) (T := TX1) (N := 7) hx hb hts (fun w h => List.mem_cons_of_mem _ (List.mem_append_left _ (List.mem_append_left _ (List.mem_append_left _ (List.mem_append_left _ (List.mem_append_left _ (List.mem_append_right _ h))))))) tyX1 tyX1_ok hown (hts _ (List.mem_of_getElem? (i := 4) rfl)) (hts _ (List.mem_of_getElem? (i := 5) rfl)) (hts _ (List.mem_of_getElem? (i := 6) rfl)) hK hP hD hS hA rfl (fun j hj => by rcases (show j = 0 ∨ j = 1 ∨ j = 2 ∨ j = 3 ∨ j = 4 ∨ j = 5 ∨ j = 6 by omega) with q | q | q | q | q | q | q <;> subst q <;> rfl) (Nat.le_of_ble_eq_true rfl) (Nat.le_of_ble_eq_true rfl) dX5_init_5 (fun q1 H hP hD hS => ?_)
  refine lv_dup hx hb dX5_init_8 rfl ?_
  refine ct_runN (X := wr al0 e0 0 1) (As := []) (rest := [.ref q1, .ref a0]) ⟨hx, hb, hml, hown, hts⟩ hK hnw hao (ctX1 O l (c := 1) (by decide) q1 H.size) ggX5_init_X1_init sgX1_init (List.mem_of_getElem? (i := 0) rfl) (List.mem_of_getElem? (i := 6) rfl) (List.mem_of_getElem? (i := 26) rfl) ⟨Nat.le_of_ble_eq_true rfl, Nat.le_of_ble_eq_true rfl⟩ rfl hl.1 rfl (Nat.le_of_ble_eq_true rfl) dX5_init_9 ⟨Nat.le_of_ble_eq_true rfl, Nat.le_of_ble_eq_true rfl⟩ hP hD hS hA (fun be H locs hbe hex hP hD hS => ?_)
  refine W.widen (k := 3) (n := 27) (Nat.le_of_ble_eq_true rfl) (Nat.le_of_ble_eq_true rfl) ?_
  have hst := st_mg (ex := 65) (c := 1) h0 he hinv rfl (by decide) (fun j h1 h2 h3 r hr => (show ∀ j, j < 1 → 1 ≤ j → j ≠ 65 → ∀ r ∈ refs j, r < 1 by decide +kernel) j h1 (by omega) h3 r hr) (fun j h1 h2 r hr hr2 => absurd hr2 ((show ∀ j, j < 4 → 1 ≤ j → ∀ r ∈ refs j, ¬ r < 1 by decide +kernel) j (by omega) h2 r hr)) hP hD hS
  obtain ⟨al1, hal1⟩ : ∃ z : Nat → Nat, z = mg al0 be 1 := ⟨_, rfl⟩
  obtain ⟨e1, he1⟩ : ∃ z : Nat → va_E, z = mg e0 (eA O be) 1 := ⟨_, rfl⟩
  rw [← hal1, ← he1] at hst
  have f1 : al1 1 = q1 := by rw [hal1, mg_ge (Nat.le_refl _)]; exact hbe
  obtain ⟨h0, he, hinv, hP, hD, hS⟩ := id hst
  refine va_putF (D := O.1) (ci := 5) (v := .ref q1) (ty := tyX5 0) (C := RX5) (T := TX5) (N := 7) hx hb hts (fun w h => List.mem_cons_of_mem _ (List.mem_append_left _ (List.mem_append_left _ (List.mem_append_left _ (List.mem_append_left _ (List.mem_append_right _ h)))))) tyX5 tyX5_ok nmX5 hown hK hP hD hS 0 (st_at0 hst (by decide)) rfl 0 (by decide) (hts _ (List.mem_of_getElem? (i := 7) rfl)) (fun _ h9 => h9) rfl hin rfl (tyX5_ok 0 (by decide)) rfl rfl (Nat.le_of_ble_eq_true rfl) dX5_init_12 (fun H locs hP hD hS => ?_)
  have hst : fSt O A s 65 0 4 a0 (.inr (5, [.ref q1, .null, .null, .null, .null, .null, .int 0])) al1 (va_up e1 0 (.inr (5, [.ref q1, .null, .null, .null, .null, .null, .int 0]))) H locs := st_put hst hP hD hS
  obtain ⟨e2, he2⟩ : ∃ z : Nat → va_E, z = va_up e1 0 (.inr (5, [.ref q1, .null, .null, .null, .null, .null, .int 0])) := ⟨_, rfl⟩
  obtain ⟨al2, hal2⟩ : ∃ z : Nat → Nat, z = al1 := ⟨_, rfl⟩
  rw [← he2, ← hal2] at hst
  have f1 : al2 1 = q1 := by rw [hal2]; exact f1
  refine lv_aload_n hx hb dX5_init_15 rfl (lv_at hl 0 rfl) ?_
  obtain ⟨h0, he, hinv, hP, hD, hS⟩ := id hst
  refine va_new (ci := 3) (fs := [.null, .null, .null, .null]) (C := RX3) (T := TX3) (N := 4) hx hb hts (fun w h => List.mem_cons_of_mem _ (List.mem_append_left _ (List.mem_append_left _ (List.mem_append_left _ (List.mem_append_right _ h))))) tyX3 tyX3_ok hown (hts _ (List.mem_of_getElem? (i := 8) rfl)) (hts _ (List.mem_of_getElem? (i := 9) rfl)) (hts _ (List.mem_of_getElem? (i := 10) rfl)) hK hP hD hS hA rfl (fun j hj => by rcases (show j = 0 ∨ j = 1 ∨ j = 2 ∨ j = 3 by omega) with q | q | q | q <;> subst q <;> rfl) (Nat.le_of_ble_eq_true rfl) (Nat.le_of_ble_eq_true rfl) dX5_init_16 (fun q4 H hP hD hS => ?_)
  refine lv_dup hx hb dX5_init_19 rfl ?_
  refine lv_aload_n hx hb dX5_init_20 rfl (lv_at hl 0 rfl) ?_
  refine va_get (D := O.1) (ci := 5) (v := .ref q1) (C := RX5) (T := TX5) (N := 7) hx hb hts (fun w h => List.mem_cons_of_mem _ (List.mem_append_left _ (List.mem_append_left _ (List.mem_append_left _ (List.mem_append_left _ (List.mem_append_right _ h)))))) hown hK hP 0 (st_at0a hst (by decide)) rfl 0 (by decide) (hts _ (List.mem_of_getElem? (i := 7) rfl)) (fun _ h9 => h9) rfl dX5_init_21 ?_
  refine ct_runN (X := wr al2 e2 0 4) (As := [.ref q1]) (rest := [.ref q4, .ref a0]) ⟨hx, hb, hml, hown, hts⟩ hK hnw hao (ctX3 O l q4 q1 H.size) ggX5_init_X3_init sgX3_init (List.mem_of_getElem? (i := 1) rfl) (List.mem_of_getElem? (i := 10) rfl) (List.mem_of_getElem? (i := 37) rfl) ⟨Nat.le_of_ble_eq_true rfl, Nat.le_of_ble_eq_true rfl⟩ rfl hl.1 rfl (Nat.le_of_ble_eq_true rfl) dX5_init_24 ⟨Nat.le_of_ble_eq_true rfl, Nat.le_of_ble_eq_true rfl⟩ hP hD hS hA (fun be H locs hbe hex hP hD hS => ?_)
  refine W.widen (k := 7) (n := 61) (Nat.le_of_ble_eq_true rfl) (Nat.le_of_ble_eq_true rfl) ?_
  have hst := st_mg (ex := 65) (c := 4) h0 he hinv rfl (by decide) (fun j h1 h2 h3 r hr => (show ∀ j, j < 4 → 1 ≤ j → j ≠ 65 → ∀ r ∈ refs j, r < 4 by decide +kernel) j h1 (by omega) h3 r hr) (fun j h1 h2 r hr hr2 => by have z := (show ∀ j, j < 8 → 4 ≤ j → ∀ r ∈ refs j, r < 4 → r = 1 by decide +kernel) j (by omega) h2 r hr hr2; subst z; rw [f1, hex]) hP hD hS
  obtain ⟨al3, hal3⟩ : ∃ z : Nat → Nat, z = mg al2 be 4 := ⟨_, rfl⟩
  obtain ⟨e3, he3⟩ : ∃ z : Nat → va_E, z = mg e2 (eA O be) 4 := ⟨_, rfl⟩
  rw [← hal3, ← he3] at hst
  have f1 : al3 1 = q1 := by rw [hal3, mg_lt (by decide)]; exact f1
  have f4 : al3 4 = q4 := by rw [hal3, mg_ge (Nat.le_refl _)]; exact hbe
  obtain ⟨h0, he, hinv, hP, hD, hS⟩ := id hst
  refine va_putF (D := O.1) (ci := 5) (v := .ref q4) (ty := tyX5 1) (C := RX5) (T := TX5) (N := 7) hx hb hts (fun w h => List.mem_cons_of_mem _ (List.mem_append_left _ (List.mem_append_left _ (List.mem_append_left _ (List.mem_append_left _ (List.mem_append_right _ h)))))) tyX5 tyX5_ok nmX5 hown hK hP hD hS 0 (st_at0 hst (by decide)) rfl 1 (by decide) (hts _ (List.mem_of_getElem? (i := 11) rfl)) (fun _ h9 => h9) rfl hin rfl (tyX5_ok 1 (by decide)) rfl rfl (Nat.le_of_ble_eq_true rfl) dX5_init_27 (fun H locs hP hD hS => ?_)
  have hst : fSt O A s 65 0 8 a0 (.inr (5, [.ref q1, .ref q4, .null, .null, .null, .null, .int 0])) al3 (va_up e3 0 (.inr (5, [.ref q1, .ref q4, .null, .null, .null, .null, .int 0]))) H locs := st_put hst hP hD hS
  obtain ⟨e4, he4⟩ : ∃ z : Nat → va_E, z = va_up e3 0 (.inr (5, [.ref q1, .ref q4, .null, .null, .null, .null, .int 0])) := ⟨_, rfl⟩
  obtain ⟨al4, hal4⟩ : ∃ z : Nat → Nat, z = al3 := ⟨_, rfl⟩
  rw [← he4, ← hal4] at hst
  have f1 : al4 1 = q1 := by rw [hal4]; exact f1
  have f4 : al4 4 = q4 := by rw [hal4]; exact f4
  refine lv_aload_n hx hb dX5_init_30 rfl (lv_at hl 0 rfl) ?_
  obtain ⟨h0, he, hinv, hP, hD, hS⟩ := id hst
  refine va_new (ci := 2) (fs := [.null, .null, .null, .null, .int 0, .int 0, .int 0, .int 0, .int 0, .int 0, .int 0, .int 0, .int 0, .int 0, .int 0, .int 0, .int 0]) (C := RX2) (T := TX2) (N := 17) hx hb hts (fun w h => List.mem_cons_of_mem _ (List.mem_append_left _ (List.mem_append_left _ (List.mem_append_right _ h)))) tyX2 tyX2_ok hown (hts _ (List.mem_of_getElem? (i := 12) rfl)) (hts _ (List.mem_of_getElem? (i := 13) rfl)) (hts _ (List.mem_of_getElem? (i := 14) rfl)) hK hP hD hS hA rfl (fun j hj => by rcases (show j = 0 ∨ j = 1 ∨ j = 2 ∨ j = 3 ∨ j = 4 ∨ j = 5 ∨ j = 6 ∨ j = 7 ∨ j = 8 ∨ j = 9 ∨ j = 10 ∨ j = 11 ∨ j = 12 ∨ j = 13 ∨ j = 14 ∨ j = 15 ∨ j = 16 by omega) with q | q | q | q | q | q | q | q | q | q | q | q | q | q | q | q | q <;> subst q <;> rfl) (Nat.le_of_ble_eq_true rfl) (Nat.le_of_ble_eq_true rfl) dX5_init_31 (fun q8 H hP hD hS => ?_)
  refine lv_dup hx hb dX5_init_34 rfl ?_
  refine lv_aload_n hx hb dX5_init_35 rfl (lv_at hl 0 rfl) ?_
  refine va_get (D := O.1) (ci := 5) (v := .ref q1) (C := RX5) (T := TX5) (N := 7) hx hb hts (fun w h => List.mem_cons_of_mem _ (List.mem_append_left _ (List.mem_append_left _ (List.mem_append_left _ (List.mem_append_left _ (List.mem_append_right _ h)))))) hown hK hP 0 (st_at0a hst (by decide)) rfl 0 (by decide) (hts _ (List.mem_of_getElem? (i := 7) rfl)) (fun _ h9 => h9) rfl dX5_init_36 ?_
  refine lv_aload_n hx hb dX5_init_39 rfl (lv_at hl 0 rfl) ?_
  refine va_get (D := O.1) (ci := 5) (v := .ref q4) (C := RX5) (T := TX5) (N := 7) hx hb hts (fun w h => List.mem_cons_of_mem _ (List.mem_append_left _ (List.mem_append_left _ (List.mem_append_left _ (List.mem_append_left _ (List.mem_append_right _ h)))))) hown hK hP 0 (st_at0a hst (by decide)) rfl 1 (by decide) (hts _ (List.mem_of_getElem? (i := 11) rfl)) (fun _ h9 => h9) rfl dX5_init_40 ?_
  refine ct_runN (X := wr al4 e4 0 8) (As := [.ref q1, .ref q4]) (rest := [.ref q8, .ref a0]) ⟨hx, hb, hml, hown, hts⟩ hK hnw hao (ctX2 O l q8 q1 q4 H.size) ggX5_init_X2_init sgX2_init (List.mem_of_getElem? (i := 2) rfl) (List.mem_of_getElem? (i := 14) rfl) (List.mem_of_getElem? (i := 44) rfl) ⟨Nat.le_of_ble_eq_true rfl, Nat.le_of_ble_eq_true rfl⟩ rfl hl.1 rfl (Nat.le_of_ble_eq_true rfl) dX5_init_43 ⟨Nat.le_of_ble_eq_true rfl, Nat.le_of_ble_eq_true rfl⟩ hP hD hS hA (fun be H locs hbe hex hP hD hS => ?_)
  refine W.widen (k := 10) (n := 289) (Nat.le_of_ble_eq_true rfl) (Nat.le_of_ble_eq_true rfl) ?_
  have hst := st_mg (ex := 65) (c := 8) h0 he hinv rfl (by decide) (fun j h1 h2 h3 r hr => (show ∀ j, j < 8 → 1 ≤ j → j ≠ 65 → ∀ r ∈ refs j, r < 8 by decide +kernel) j h1 (by omega) h3 r hr) (fun j h1 h2 r hr hr2 => by have z := (show ∀ j, j < 11 → 8 ≤ j → ∀ r ∈ refs j, r < 8 → r = 1 ∨ r = 4 by decide +kernel) j (by omega) h2 r hr hr2; rcases z with z | z <;> subst z; (· rw [f1, hex.1]); (· rw [f4, hex.2])) hP hD hS
  obtain ⟨al5, hal5⟩ : ∃ z : Nat → Nat, z = mg al4 be 8 := ⟨_, rfl⟩
  obtain ⟨e5, he5⟩ : ∃ z : Nat → va_E, z = mg e4 (eA O be) 8 := ⟨_, rfl⟩
  rw [← hal5, ← he5] at hst
  have f1 : al5 1 = q1 := by rw [hal5, mg_lt (by decide)]; exact f1
  have f4 : al5 4 = q4 := by rw [hal5, mg_lt (by decide)]; exact f4
  have f8 : al5 8 = q8 := by rw [hal5, mg_ge (Nat.le_refl _)]; exact hbe
  obtain ⟨h0, he, hinv, hP, hD, hS⟩ := id hst
  refine va_putF (D := O.1) (ci := 5) (v := .ref q8) (ty := tyX5 2) (C := RX5) (T := TX5) (N := 7) hx hb hts (fun w h => List.mem_cons_of_mem _ (List.mem_append_left _ (List.mem_append_left _ (List.mem_append_left _ (List.mem_append_left _ (List.mem_append_right _ h)))))) tyX5 tyX5_ok nmX5 hown hK hP hD hS 0 (st_at0 hst (by decide)) rfl 2 (by decide) (hts _ (List.mem_of_getElem? (i := 15) rfl)) (fun _ h9 => h9) rfl hin rfl (tyX5_ok 2 (by decide)) rfl rfl (Nat.le_of_ble_eq_true rfl) dX5_init_46 (fun H locs hP hD hS => ?_)
  have hst : fSt O A s 65 0 11 a0 (.inr (5, [.ref q1, .ref q4, .ref q8, .null, .null, .null, .int 0])) al5 (va_up e5 0 (.inr (5, [.ref q1, .ref q4, .ref q8, .null, .null, .null, .int 0]))) H locs := st_put hst hP hD hS
  obtain ⟨e6, he6⟩ : ∃ z : Nat → va_E, z = va_up e5 0 (.inr (5, [.ref q1, .ref q4, .ref q8, .null, .null, .null, .int 0])) := ⟨_, rfl⟩
  obtain ⟨al6, hal6⟩ : ∃ z : Nat → Nat, z = al5 := ⟨_, rfl⟩
  rw [← he6, ← hal6] at hst
  have f1 : al6 1 = q1 := by rw [hal6]; exact f1
  have f4 : al6 4 = q4 := by rw [hal6]; exact f4
  have f8 : al6 8 = q8 := by rw [hal6]; exact f8
  refine lv_aload_n hx hb dX5_init_49 rfl (lv_at hl 0 rfl) ?_
  obtain ⟨h0, he, hinv, hP, hD, hS⟩ := id hst
  refine va_new (ci := 0) (fs := [.null, .null, .null, .int 0]) (C := RX0) (T := TX0) (N := 4) hx hb hts (fun w h => List.mem_cons_of_mem _ (List.mem_append_left _ (List.mem_append_right _ h))) tyX0 tyX0_ok hown (hts _ (List.mem_of_getElem? (i := 16) rfl)) (hts _ (List.mem_of_getElem? (i := 17) rfl)) (hts _ (List.mem_of_getElem? (i := 18) rfl)) hK hP hD hS hA rfl (fun j hj => by rcases (show j = 0 ∨ j = 1 ∨ j = 2 ∨ j = 3 by omega) with q | q | q | q <;> subst q <;> rfl) (Nat.le_of_ble_eq_true rfl) (Nat.le_of_ble_eq_true rfl) dX5_init_50 (fun q11 H hP hD hS => ?_)
  refine lv_dup hx hb dX5_init_53 rfl ?_
  refine ct_runN (X := wr al6 e6 0 11) (As := []) (rest := [.ref q11, .ref a0]) ⟨hx, hb, hml, hown, hts⟩ hK hnw hao (ctX0 O l q11 H.size) ggX5_init_X0_init sgX0_init (List.mem_of_getElem? (i := 3) rfl) (List.mem_of_getElem? (i := 18) rfl) (List.mem_of_getElem? (i := 51) rfl) ⟨Nat.le_of_ble_eq_true rfl, Nat.le_of_ble_eq_true rfl⟩ rfl hl.1 rfl (Nat.le_of_ble_eq_true rfl) dX5_init_54 ⟨Nat.le_of_ble_eq_true rfl, Nat.le_of_ble_eq_true rfl⟩ hP hD hS hA (fun be H locs hbe hex hP hD hS => ?_)
  refine W.widen (k := 14) (n := 353) (Nat.le_of_ble_eq_true rfl) (Nat.le_of_ble_eq_true rfl) ?_
  have hst := st_mg (ex := 65) (c := 11) h0 he hinv rfl (by decide) (fun j h1 h2 h3 r hr => (show ∀ j, j < 11 → 1 ≤ j → j ≠ 65 → ∀ r ∈ refs j, r < 11 by decide +kernel) j h1 (by omega) h3 r hr) (fun j h1 h2 r hr hr2 => absurd hr2 ((show ∀ j, j < 15 → 11 ≤ j → ∀ r ∈ refs j, ¬ r < 11 by decide +kernel) j (by omega) h2 r hr)) hP hD hS
  obtain ⟨al7, hal7⟩ : ∃ z : Nat → Nat, z = mg al6 be 11 := ⟨_, rfl⟩
  obtain ⟨e7, he7⟩ : ∃ z : Nat → va_E, z = mg e6 (eA O be) 11 := ⟨_, rfl⟩
  rw [← hal7, ← he7] at hst
  have f1 : al7 1 = q1 := by rw [hal7, mg_lt (by decide)]; exact f1
  have f4 : al7 4 = q4 := by rw [hal7, mg_lt (by decide)]; exact f4
  have f8 : al7 8 = q8 := by rw [hal7, mg_lt (by decide)]; exact f8
  have f11 : al7 11 = q11 := by rw [hal7, mg_ge (Nat.le_refl _)]; exact hbe
  obtain ⟨h0, he, hinv, hP, hD, hS⟩ := id hst
  refine va_putF (D := O.1) (ci := 5) (v := .ref q11) (ty := tyX5 3) (C := RX5) (T := TX5) (N := 7) hx hb hts (fun w h => List.mem_cons_of_mem _ (List.mem_append_left _ (List.mem_append_left _ (List.mem_append_left _ (List.mem_append_left _ (List.mem_append_right _ h)))))) tyX5 tyX5_ok nmX5 hown hK hP hD hS 0 (st_at0 hst (by decide)) rfl 3 (by decide) (hts _ (List.mem_of_getElem? (i := 19) rfl)) (fun _ h9 => h9) rfl hin rfl (tyX5_ok 3 (by decide)) rfl rfl (Nat.le_of_ble_eq_true rfl) dX5_init_57 (fun H locs hP hD hS => ?_)
  have hst : fSt O A s 65 0 15 a0 (.inr (5, [.ref q1, .ref q4, .ref q8, .ref q11, .null, .null, .int 0])) al7 (va_up e7 0 (.inr (5, [.ref q1, .ref q4, .ref q8, .ref q11, .null, .null, .int 0]))) H locs := st_put hst hP hD hS
  obtain ⟨e8, he8⟩ : ∃ z : Nat → va_E, z = va_up e7 0 (.inr (5, [.ref q1, .ref q4, .ref q8, .ref q11, .null, .null, .int 0])) := ⟨_, rfl⟩
  obtain ⟨al8, hal8⟩ : ∃ z : Nat → Nat, z = al7 := ⟨_, rfl⟩
  rw [← he8, ← hal8] at hst
  have f1 : al8 1 = q1 := by rw [hal8]; exact f1
  have f4 : al8 4 = q4 := by rw [hal8]; exact f4
  have f8 : al8 8 = q8 := by rw [hal8]; exact f8
  have f11 : al8 11 = q11 := by rw [hal8]; exact f11
  refine lv_aload_n hx hb dX5_init_60 rfl (lv_at hl 0 rfl) ?_
  obtain ⟨h0, he, hinv, hP, hD, hS⟩ := id hst
  refine va_new (ci := 4) (fs := [.null, .int 0, .int 0]) (C := RX4) (T := TX4) (N := 3) hx hb hts (fun w h => List.mem_cons_of_mem _ (List.mem_append_right _ h)) tyX4 tyX4_ok hown (hts _ (List.mem_of_getElem? (i := 20) rfl)) (hts _ (List.mem_of_getElem? (i := 21) rfl)) (hts _ (List.mem_of_getElem? (i := 22) rfl)) hK hP hD hS hA rfl (fun j hj => by rcases (show j = 0 ∨ j = 1 ∨ j = 2 by omega) with q | q | q <;> subst q <;> rfl) (Nat.le_of_ble_eq_true rfl) (Nat.le_of_ble_eq_true rfl) dX5_init_61 (fun q15 H hP hD hS => ?_)
  refine lv_dup hx hb dX5_init_64 rfl ?_
  refine ct_runN (X := wr al8 e8 0 15) (As := []) (rest := [.ref q15, .ref a0]) ⟨hx, hb, hml, hown, hts⟩ hK hnw hao (ctX4 O l q15 H.size) ggX5_init_X4_init sgX4_init (List.mem_of_getElem? (i := 4) rfl) (List.mem_of_getElem? (i := 22) rfl) (List.mem_of_getElem? (i := 58) rfl) ⟨Nat.le_of_ble_eq_true rfl, Nat.le_of_ble_eq_true rfl⟩ rfl hl.1 rfl (Nat.le_of_ble_eq_true rfl) dX5_init_65 ⟨Nat.le_of_ble_eq_true rfl, Nat.le_of_ble_eq_true rfl⟩ hP hD hS hA (fun be H locs hbe hex hP hD hS => ?_)
  refine W.widen (k := 64) (n := 804) (Nat.le_of_ble_eq_true rfl) (Nat.le_of_ble_eq_true rfl) ?_
  have hst := st_mg (ex := 65) (c := 15) h0 he hinv rfl (by decide) (fun j h1 h2 h3 r hr => (show ∀ j, j < 15 → 1 ≤ j → j ≠ 65 → ∀ r ∈ refs j, r < 15 by decide +kernel) j h1 (by omega) h3 r hr) (fun j h1 h2 r hr hr2 => absurd hr2 ((show ∀ j, j < 65 → 15 ≤ j → ∀ r ∈ refs j, ¬ r < 15 by decide +kernel) j (by omega) h2 r hr)) hP hD hS
  obtain ⟨al9, hal9⟩ : ∃ z : Nat → Nat, z = mg al8 be 15 := ⟨_, rfl⟩
  obtain ⟨e9, he9⟩ : ∃ z : Nat → va_E, z = mg e8 (eA O be) 15 := ⟨_, rfl⟩
  rw [← hal9, ← he9] at hst
  have f1 : al9 1 = q1 := by rw [hal9, mg_lt (by decide)]; exact f1
  have f4 : al9 4 = q4 := by rw [hal9, mg_lt (by decide)]; exact f4
  have f8 : al9 8 = q8 := by rw [hal9, mg_lt (by decide)]; exact f8
  have f11 : al9 11 = q11 := by rw [hal9, mg_lt (by decide)]; exact f11
  have f15 : al9 15 = q15 := by rw [hal9, mg_ge (Nat.le_refl _)]; exact hbe
  obtain ⟨h0, he, hinv, hP, hD, hS⟩ := id hst
  refine va_putF (D := O.1) (ci := 5) (v := .ref q15) (ty := tyX5 4) (C := RX5) (T := TX5) (N := 7) hx hb hts (fun w h => List.mem_cons_of_mem _ (List.mem_append_left _ (List.mem_append_left _ (List.mem_append_left _ (List.mem_append_left _ (List.mem_append_right _ h)))))) tyX5 tyX5_ok nmX5 hown hK hP hD hS 0 (st_at0 hst (by decide)) rfl 4 (by decide) (hts _ (List.mem_of_getElem? (i := 23) rfl)) (fun _ h9 => h9) rfl hin rfl (tyX5_ok 4 (by decide)) rfl rfl (Nat.le_of_ble_eq_true rfl) dX5_init_68 (fun H locs hP hD hS => ?_)
  have hst : fSt O A s 65 0 65 a0 (.inr (5, [.ref q1, .ref q4, .ref q8, .ref q11, .ref q15, .null, .int 0])) al9 (va_up e9 0 (.inr (5, [.ref q1, .ref q4, .ref q8, .ref q11, .ref q15, .null, .int 0]))) H locs := st_put hst hP hD hS
  obtain ⟨e10, he10⟩ : ∃ z : Nat → va_E, z = va_up e9 0 (.inr (5, [.ref q1, .ref q4, .ref q8, .ref q11, .ref q15, .null, .int 0])) := ⟨_, rfl⟩
  obtain ⟨al10, hal10⟩ : ∃ z : Nat → Nat, z = al9 := ⟨_, rfl⟩
  rw [← he10, ← hal10] at hst
  have f1 : al10 1 = q1 := by rw [hal10]; exact f1
  have f4 : al10 4 = q4 := by rw [hal10]; exact f4
  have f8 : al10 8 = q8 := by rw [hal10]; exact f8
  have f11 : al10 11 = q11 := by rw [hal10]; exact f11
  have f15 : al10 15 = q15 := by rw [hal10]; exact f15
  refine lv_aload_n hx hb dX5_init_71 rfl (lv_at hl 0 rfl) ?_
  refine lv_iconst (v := 2) hx hb dX5_init_72 (by decide) ?_
  obtain ⟨h0, he, hinv, hP, hD, hS⟩ := id hst
  refine k_newG hx hb hown (hts _ (List.mem_of_getElem? (i := 4) rfl)) hao hK hP hD hS hA 2 (by decide) (by decide) (Nat.le_of_ble_eq_true rfl) (Nat.le_of_ble_eq_true rfl) (Nat.le_of_ble_eq_true rfl) dX5_init_73 (fun q65 H hP hD hS => ?_)
  refine W.widen (k := 65) (n := 806) (Nat.le_of_ble_eq_true rfl) (Nat.le_of_ble_eq_true rfl) ?_
  have hst := st_row (O := O) (c := 65) h0 he hinv rfl (by decide) (fun j h1 h2 r hr => (show ∀ j, j < 65 → 1 ≤ j → ∀ r ∈ refs j, r < 65 by decide +kernel) j h1 (by omega) r hr) hP hD hS
  obtain ⟨al11, hal11⟩ : ∃ z : Nat → Nat, z = mg al10 (fun _ => q65) 65 := ⟨_, rfl⟩
  obtain ⟨e11, he11⟩ : ∃ z : Nat → va_E, z = mg e10 (fun _ => .inl (O.2.2.2.1, 2, .inr (.inr (.inr (.inr (fun _ => none)))))) 65 := ⟨_, rfl⟩
  rw [← hal11, ← he11] at hst
  have f1 : al11 1 = q1 := by rw [hal11, mg_lt (by decide)]; exact f1
  have f4 : al11 4 = q4 := by rw [hal11, mg_lt (by decide)]; exact f4
  have f8 : al11 8 = q8 := by rw [hal11, mg_lt (by decide)]; exact f8
  have f11 : al11 11 = q11 := by rw [hal11, mg_lt (by decide)]; exact f11
  have f15 : al11 15 = q15 := by rw [hal11, mg_lt (by decide)]; exact f15
  have f65 : al11 65 = q65 := by rw [hal11, mg_ge (Nat.le_refl _)]
  have a65 : pAr O 2 66 0 al11 (e11 65) := ⟨fun _ => none, by rw [he11, mg_ge (Nat.le_refl _)], fun j hj => absurd hj (Nat.not_lt_zero _)⟩
  obtain ⟨h0, he, hinv, hP, hD, hS⟩ := id hst
  refine va_putF (D := O.1) (ci := 5) (v := .ref q65) (ty := tyX5 5) (C := RX5) (T := TX5) (N := 7) hx hb hts (fun w h => List.mem_cons_of_mem _ (List.mem_append_left _ (List.mem_append_left _ (List.mem_append_left _ (List.mem_append_left _ (List.mem_append_right _ h)))))) tyX5 tyX5_ok nmX5 hown hK hP hD hS 0 (st_at0 hst (by decide)) rfl 5 (by decide) (hts _ (List.mem_of_getElem? (i := 24) rfl)) (fun _ h9 => h9) rfl hin rfl (tyX5_ok 5 (by decide)) rfl rfl (Nat.le_of_ble_eq_true rfl) dX5_init_76 (fun H locs hP hD hS => ?_)
  have hst : fSt O A s 65 0 66 a0 (.inr (5, [.ref q1, .ref q4, .ref q8, .ref q11, .ref q15, .ref q65, .int 0])) al11 (va_up e11 0 (.inr (5, [.ref q1, .ref q4, .ref q8, .ref q11, .ref q15, .ref q65, .int 0]))) H locs := st_put hst hP hD hS
  obtain ⟨e12, he12⟩ : ∃ z : Nat → va_E, z = va_up e11 0 (.inr (5, [.ref q1, .ref q4, .ref q8, .ref q11, .ref q15, .ref q65, .int 0])) := ⟨_, rfl⟩
  obtain ⟨al12, hal12⟩ : ∃ z : Nat → Nat, z = al11 := ⟨_, rfl⟩
  rw [← he12, ← hal12] at hst
  have f1 : al12 1 = q1 := by rw [hal12]; exact f1
  have f4 : al12 4 = q4 := by rw [hal12]; exact f4
  have f8 : al12 8 = q8 := by rw [hal12]; exact f8
  have f11 : al12 11 = q11 := by rw [hal12]; exact f11
  have f15 : al12 15 = q15 := by rw [hal12]; exact f15
  have f65 : al12 65 = q65 := by rw [hal12]; exact f65
  have a65 : pAr O 2 66 0 al12 (e12 65) := by rw [hal12, he12, va_up_ne _ _ (by decide)]; exact a65
  refine lv_iconst (v := iI 0) hx hb dX5_init_79 (by decide) ?_
  refine lv_istore_n (lv' := [(1, .int (iI 0)), (0, .ref a0)]) hx hb dX5_init_80 rfl hl (by decide) rfl (fun ls hl => ?_)
  refine lv_iload_n hx hb dX5_init_81 rfl (lv_at hl 0 rfl) ?_
  refine lv_iconst (v := iI 2) hx hb dX5_init_82 (by decide) ?_
  refine lv_icmp_ge (tgt := 105) hx hb dX5_init_83 (by decide) (fun q => absurd ((iI_le (by decide) (by decide)).mp q) (by decide)) (fun _ => ?_)
  refine lv_aload_n hx hb dX5_init_86 rfl (lv_at hl 1 rfl) ?_
  obtain ⟨h0, he, hinv, hP, hD, hS⟩ := id hst
  refine va_get (D := O.1) (ci := 5) (v := .ref q65) (C := RX5) (T := TX5) (N := 7) hx hb hts (fun w h => List.mem_cons_of_mem _ (List.mem_append_left _ (List.mem_append_left _ (List.mem_append_left _ (List.mem_append_left _ (List.mem_append_right _ h)))))) hown hK hP 0 (st_at0 hst (by decide)) rfl 5 (by decide) (hts _ (List.mem_of_getElem? (i := 24) rfl)) (fun _ h9 => h9) rfl dX5_init_87 ?_
  refine lv_iload_n hx hb dX5_init_90 rfl (lv_at hl 0 rfl) ?_
  refine va_new (ci := 1) (fs := [.null, .null, .int 0, .int 0, .int 0, .int 0, .int 0]) (C := RX1) (T := TX1) (N := 7) hx hb hts (fun w h => List.mem_cons_of_mem _ (List.mem_append_left _ (List.mem_append_left _ (List.mem_append_left _ (List.mem_append_left _ (List.mem_append_left _ (List.mem_append_right _ h))))))) tyX1 tyX1_ok hown (hts _ (List.mem_of_getElem? (i := 4) rfl)) (hts _ (List.mem_of_getElem? (i := 5) rfl)) (hts _ (List.mem_of_getElem? (i := 6) rfl)) hK hP hD hS hA rfl (fun j hj => by rcases (show j = 0 ∨ j = 1 ∨ j = 2 ∨ j = 3 ∨ j = 4 ∨ j = 5 ∨ j = 6 by omega) with q | q | q | q | q | q | q <;> subst q <;> rfl) (Nat.le_of_ble_eq_true rfl) (Nat.le_of_ble_eq_true rfl) dX5_init_91 (fun q66 H hP hD hS => ?_)
  refine lv_dup hx hb dX5_init_94 rfl ?_
  refine ct_runN (X := wr al12 e12 0 66) (As := []) (rest := [.ref q66, .int (iI 0), .ref q65]) ⟨hx, hb, hml, hown, hts⟩ hK hnw hao (ctX1 O l (c := 66) (by decide) q66 H.size) ggX5_init_X1_init sgX1_init (List.mem_of_getElem? (i := 0) rfl) (List.mem_of_getElem? (i := 6) rfl) (List.mem_of_getElem? (i := 26) rfl) ⟨Nat.le_of_ble_eq_true rfl, Nat.le_of_ble_eq_true rfl⟩ rfl hl.1 rfl (Nat.le_of_ble_eq_true rfl) dX5_init_95 ⟨Nat.le_of_ble_eq_true rfl, Nat.le_of_ble_eq_true rfl⟩ hP hD hS hA (fun be H locs hbe hex hP hD hS => ?_)
  refine W.widen (k := 68) (n := 833) (Nat.le_of_ble_eq_true rfl) (Nat.le_of_ble_eq_true rfl) ?_
  have hst := st_mg (ex := 65) (c := 66) h0 he hinv rfl (by decide) (fun j h1 h2 h3 r hr => (show ∀ j, j < 66 → 1 ≤ j → j ≠ 65 → ∀ r ∈ refs j, r < 66 by decide +kernel) j h1 (by omega) h3 r hr) (fun j h1 h2 r hr hr2 => absurd hr2 ((show ∀ j, j < 69 → 66 ≤ j → ∀ r ∈ refs j, ¬ r < 66 by decide +kernel) j (by omega) h2 r hr)) hP hD hS
  obtain ⟨al13, hal13⟩ : ∃ z : Nat → Nat, z = mg al12 be 66 := ⟨_, rfl⟩
  obtain ⟨e13, he13⟩ : ∃ z : Nat → va_E, z = mg e12 (eA O be) 66 := ⟨_, rfl⟩
  rw [← hal13, ← he13] at hst
  have f1 : al13 1 = q1 := by rw [hal13, mg_lt (by decide)]; exact f1
  have f4 : al13 4 = q4 := by rw [hal13, mg_lt (by decide)]; exact f4
  have f8 : al13 8 = q8 := by rw [hal13, mg_lt (by decide)]; exact f8
  have f11 : al13 11 = q11 := by rw [hal13, mg_lt (by decide)]; exact f11
  have f15 : al13 15 = q15 := by rw [hal13, mg_lt (by decide)]; exact f15
  have f65 : al13 65 = q65 := by rw [hal13, mg_lt (by decide)]; exact f65
  have f66 : al13 66 = q66 := by rw [hal13, mg_ge (Nat.le_refl _)]; exact hbe
  obtain ⟨f, hf, hfj⟩ : pAr O 2 66 0 al13 (e13 65) := by
    obtain ⟨f, hf, hfj⟩ := a65
    exact ⟨f, by rw [he13, mg_lt (by decide)]; exact hf, fun j hj => by rw [hal13, mg_lt (by omega)]; exact hfj j hj⟩
  have ev : e13 66 = eA O be 66 := by rw [he13]; exact mg_ge (Nat.le_refl _)
  obtain ⟨h0, he, hinv, hP, hD, hS⟩ := id hst
  have hij := iI_in (n := 2) (z := (0 : Int)) (j := 0) rfl (by decide) (by decide)
  refine va_astq (D := O.1) (cA := O.2.2.2.1) (n := 2) (f := f) (r := (RX1, TX1, 7)) hx hb hK hP hD hS 65 2 66 1 (by rw [wr_at (by decide), Nat.zero_add, f65, hf]) rfl (by rw [wr_at (by decide), Nat.zero_add, f66, ev, eA_gb (c := 66) (by decide)]) rfl hij.1 dX5_init_98 (fun H locs hP hD hS => ?_)
  rw [hij.2] at hP hD
  have hst := st_set hst (i := 65) rfl (by decide) f65 hP hD hS
  obtain ⟨e14, he14⟩ : ∃ z : Nat → va_E, z = va_up e13 65 (.inl (O.2.2.2.1, 2, .inr (.inr (.inr (.inr (va_up f 0 (some q66))))))) := ⟨_, rfl⟩
  obtain ⟨al14, hal14⟩ : ∃ z : Nat → Nat, z = al13 := ⟨_, rfl⟩
  rw [← he14, ← hal14] at hst
  have f1 : al14 1 = q1 := by rw [hal14]; exact f1
  have f4 : al14 4 = q4 := by rw [hal14]; exact f4
  have f8 : al14 8 = q8 := by rw [hal14]; exact f8
  have f11 : al14 11 = q11 := by rw [hal14]; exact f11
  have f15 : al14 15 = q15 := by rw [hal14]; exact f15
  have f65 : al14 65 = q65 := by rw [hal14]; exact f65
  have f66 : al14 66 = q66 := by rw [hal14]; exact f66
  have a65 : pAr O 2 66 1 al14 (e14 65) := by rw [he14, va_up_self]; exact pAr_up (i := 0) (fun j hj => by rw [hal14]; exact hfj j hj) f66
  refine lv_iinc (v := iI 1) (lv' := [(1, .int (iI 1)), (0, .ref a0)]) hx hb dX5_init_99 hl (k := 0) rfl (by decide) (by decide) rfl (fun ls hl => ?_)
  refine lv_goto (tgt := 81) hx hb dX5_init_102 (by decide) ?_
  refine lv_iload_n hx hb dX5_init_81 rfl (lv_at hl 0 rfl) ?_
  refine lv_iconst (v := iI 2) hx hb dX5_init_82 (by decide) ?_
  refine lv_icmp_ge (tgt := 105) hx hb dX5_init_83 (by decide) (fun q => absurd ((iI_le (by decide) (by decide)).mp q) (by decide)) (fun _ => ?_)
  refine lv_aload_n hx hb dX5_init_86 rfl (lv_at hl 1 rfl) ?_
  obtain ⟨h0, he, hinv, hP, hD, hS⟩ := id hst
  refine va_get (D := O.1) (ci := 5) (v := .ref q65) (C := RX5) (T := TX5) (N := 7) hx hb hts (fun w h => List.mem_cons_of_mem _ (List.mem_append_left _ (List.mem_append_left _ (List.mem_append_left _ (List.mem_append_left _ (List.mem_append_right _ h)))))) hown hK hP 0 (st_at0 hst (by decide)) rfl 5 (by decide) (hts _ (List.mem_of_getElem? (i := 24) rfl)) (fun _ h9 => h9) rfl dX5_init_87 ?_
  refine lv_iload_n hx hb dX5_init_90 rfl (lv_at hl 0 rfl) ?_
  refine va_new (ci := 1) (fs := [.null, .null, .int 0, .int 0, .int 0, .int 0, .int 0]) (C := RX1) (T := TX1) (N := 7) hx hb hts (fun w h => List.mem_cons_of_mem _ (List.mem_append_left _ (List.mem_append_left _ (List.mem_append_left _ (List.mem_append_left _ (List.mem_append_left _ (List.mem_append_right _ h))))))) tyX1 tyX1_ok hown (hts _ (List.mem_of_getElem? (i := 4) rfl)) (hts _ (List.mem_of_getElem? (i := 5) rfl)) (hts _ (List.mem_of_getElem? (i := 6) rfl)) hK hP hD hS hA rfl (fun j hj => by rcases (show j = 0 ∨ j = 1 ∨ j = 2 ∨ j = 3 ∨ j = 4 ∨ j = 5 ∨ j = 6 by omega) with q | q | q | q | q | q | q <;> subst q <;> rfl) (Nat.le_of_ble_eq_true rfl) (Nat.le_of_ble_eq_true rfl) dX5_init_91 (fun q69 H hP hD hS => ?_)
  refine lv_dup hx hb dX5_init_94 rfl ?_
  refine ct_runN (X := wr al14 e14 0 69) (As := []) (rest := [.ref q69, .int (iI 1), .ref q65]) ⟨hx, hb, hml, hown, hts⟩ hK hnw hao (ctX1 O l (c := 69) (by decide) q69 H.size) ggX5_init_X1_init sgX1_init (List.mem_of_getElem? (i := 0) rfl) (List.mem_of_getElem? (i := 6) rfl) (List.mem_of_getElem? (i := 26) rfl) ⟨Nat.le_of_ble_eq_true rfl, Nat.le_of_ble_eq_true rfl⟩ rfl hl.1 rfl (Nat.le_of_ble_eq_true rfl) dX5_init_95 ⟨Nat.le_of_ble_eq_true rfl, Nat.le_of_ble_eq_true rfl⟩ hP hD hS hA (fun be H locs hbe hex hP hD hS => ?_)
  refine W.widen (k := 71) (n := 860) (Nat.le_of_ble_eq_true rfl) (Nat.le_of_ble_eq_true rfl) ?_
  have hst := st_mg (ex := 65) (c := 69) h0 he hinv rfl (by decide) (fun j h1 h2 h3 r hr => (show ∀ j, j < 69 → 1 ≤ j → j ≠ 65 → ∀ r ∈ refs j, r < 69 by decide +kernel) j h1 (by omega) h3 r hr) (fun j h1 h2 r hr hr2 => absurd hr2 ((show ∀ j, j < 72 → 69 ≤ j → ∀ r ∈ refs j, ¬ r < 69 by decide +kernel) j (by omega) h2 r hr)) hP hD hS
  obtain ⟨al15, hal15⟩ : ∃ z : Nat → Nat, z = mg al14 be 69 := ⟨_, rfl⟩
  obtain ⟨e15, he15⟩ : ∃ z : Nat → va_E, z = mg e14 (eA O be) 69 := ⟨_, rfl⟩
  rw [← hal15, ← he15] at hst
  have f1 : al15 1 = q1 := by rw [hal15, mg_lt (by decide)]; exact f1
  have f4 : al15 4 = q4 := by rw [hal15, mg_lt (by decide)]; exact f4
  have f8 : al15 8 = q8 := by rw [hal15, mg_lt (by decide)]; exact f8
  have f11 : al15 11 = q11 := by rw [hal15, mg_lt (by decide)]; exact f11
  have f15 : al15 15 = q15 := by rw [hal15, mg_lt (by decide)]; exact f15
  have f65 : al15 65 = q65 := by rw [hal15, mg_lt (by decide)]; exact f65
  have f66 : al15 66 = q66 := by rw [hal15, mg_lt (by decide)]; exact f66
  have f69 : al15 69 = q69 := by rw [hal15, mg_ge (Nat.le_refl _)]; exact hbe
  obtain ⟨f, hf, hfj⟩ : pAr O 2 66 1 al15 (e15 65) := by
    obtain ⟨f, hf, hfj⟩ := a65
    exact ⟨f, by rw [he15, mg_lt (by decide)]; exact hf, fun j hj => by rw [hal15, mg_lt (by omega)]; exact hfj j hj⟩
  have ev : e15 69 = eA O be 69 := by rw [he15]; exact mg_ge (Nat.le_refl _)
  obtain ⟨h0, he, hinv, hP, hD, hS⟩ := id hst
  have hij := iI_in (n := 2) (z := (1 : Int)) (j := 1) rfl (by decide) (by decide)
  refine va_astq (D := O.1) (cA := O.2.2.2.1) (n := 2) (f := f) (r := (RX1, TX1, 7)) hx hb hK hP hD hS 65 2 69 1 (by rw [wr_at (by decide), Nat.zero_add, f65, hf]) rfl (by rw [wr_at (by decide), Nat.zero_add, f69, ev, eA_gb (c := 69) (by decide)]) rfl hij.1 dX5_init_98 (fun H locs hP hD hS => ?_)
  rw [hij.2] at hP hD
  have hst := st_set hst (i := 65) rfl (by decide) f65 hP hD hS
  obtain ⟨e16, he16⟩ : ∃ z : Nat → va_E, z = va_up e15 65 (.inl (O.2.2.2.1, 2, .inr (.inr (.inr (.inr (va_up f 1 (some q69))))))) := ⟨_, rfl⟩
  obtain ⟨al16, hal16⟩ : ∃ z : Nat → Nat, z = al15 := ⟨_, rfl⟩
  rw [← he16, ← hal16] at hst
  have f1 : al16 1 = q1 := by rw [hal16]; exact f1
  have f4 : al16 4 = q4 := by rw [hal16]; exact f4
  have f8 : al16 8 = q8 := by rw [hal16]; exact f8
  have f11 : al16 11 = q11 := by rw [hal16]; exact f11
  have f15 : al16 15 = q15 := by rw [hal16]; exact f15
  have f65 : al16 65 = q65 := by rw [hal16]; exact f65
  have f66 : al16 66 = q66 := by rw [hal16]; exact f66
  have f69 : al16 69 = q69 := by rw [hal16]; exact f69
  have a65 : pAr O 2 66 2 al16 (e16 65) := by rw [he16, va_up_self]; exact pAr_up (i := 1) (fun j hj => by rw [hal16]; exact hfj j hj) f69
  refine lv_iinc (v := iI 2) (lv' := [(1, .int (iI 2)), (0, .ref a0)]) hx hb dX5_init_99 hl (k := 0) rfl (by decide) (by decide) rfl (fun ls hl => ?_)
  refine lv_goto (tgt := 81) hx hb dX5_init_102 (by decide) ?_
  refine lv_iload_n hx hb dX5_init_81 rfl (lv_at hl 0 rfl) ?_
  refine lv_iconst (v := iI 2) hx hb dX5_init_82 (by decide) ?_
  refine lv_icmp_ge (tgt := 105) hx hb dX5_init_83 (by decide) (fun _ => ?_) (fun q => absurd ((iI_le (by decide) (by decide)).mpr (by decide)) q)
  refine lv_aload_n hx hb dX5_init_105 rfl (lv_at hl 1 rfl) ?_
  refine lv_iconst (v := 0) hx hb dX5_init_106 (by decide) ?_
  obtain ⟨h0, he, hinv, hP, hD, hS⟩ := id hst
  refine va_put (D := O.1) (ci := 5) (v := .int 0) (ty := .int) (C := RX5) (T := TX5) (N := 7) hx hb hts (fun w h => List.mem_cons_of_mem _ (List.mem_append_left _ (List.mem_append_left _ (List.mem_append_left _ (List.mem_append_left _ (List.mem_append_right _ h)))))) tyX5 tyX5_ok nmX5 hown hK hP hD hS 0 (st_at0 hst (by decide)) rfl 6 (by decide) (hts _ (List.mem_of_getElem? (i := 25) rfl)) (fun _ h9 => h9) rfl (tyX5_ok 6 (by decide)) rfl rfl (Nat.le_of_ble_eq_true rfl) dX5_init_107 (fun H locs hP hD hS => ?_)
  have hst : fSt O A s 65 0 72 a0 (.inr (5, [.ref q1, .ref q4, .ref q8, .ref q11, .ref q15, .ref q65, .int 0])) al16 (va_up e16 0 (.inr (5, [.ref q1, .ref q4, .ref q8, .ref q11, .ref q15, .ref q65, .int 0]))) H locs := st_put hst hP hD hS
  obtain ⟨e17, he17⟩ : ∃ z : Nat → va_E, z = va_up e16 0 (.inr (5, [.ref q1, .ref q4, .ref q8, .ref q11, .ref q15, .ref q65, .int 0])) := ⟨_, rfl⟩
  obtain ⟨al17, hal17⟩ : ∃ z : Nat → Nat, z = al16 := ⟨_, rfl⟩
  rw [← he17, ← hal17] at hst
  have f1 : al17 1 = q1 := by rw [hal17]; exact f1
  have f4 : al17 4 = q4 := by rw [hal17]; exact f4
  have f8 : al17 8 = q8 := by rw [hal17]; exact f8
  have f11 : al17 11 = q11 := by rw [hal17]; exact f11
  have f15 : al17 15 = q15 := by rw [hal17]; exact f15
  have f65 : al17 65 = q65 := by rw [hal17]; exact f65
  have f66 : al17 66 = q66 := by rw [hal17]; exact f66
  have f69 : al17 69 = q69 := by rw [hal17]; exact f69
  have a65 : pAr O 2 66 2 al17 (e17 65) := by rw [hal17, he17, va_up_ne _ _ (by decide)]; exact a65
  obtain ⟨h0, he, hinv, hP, hD, hS⟩ := id hst
  have hP9 : va_P O.1 vwCl (wr al17 (eA O al17) 0 72) H := by
    refine wr_conv (fun j h1 h2 => ?_) hP
    by_cases q0 : j = 0
    · subst q0
      rw [he]
      apply cvt_eq
      unfold eA
      rw [en_0]
      dsimp only
      rw [f1, f4, f8, f11, f15, f65, V0_z (by decide) (by decide), iI_0]
    · by_cases q65 : j = 65
      · subst q65
        obtain ⟨f, hf, hfj⟩ := a65
        rw [hf]
        unfold eA
        rw [en_65]
        exact arr_cvt (fun j hj => hfj j hj)
      · exact hinv j h2 (by omega) q65
  exact W.vret hx hb hr (fun t ht hW => ⟨⟨al17, rfl, ⟨h0, trivial⟩, by rw [ht]; exact hP9, wr_D hD⟩, hS.F ht⟩) hS.2.2 dX5_init_110
