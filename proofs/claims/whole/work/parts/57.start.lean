theorem in_ao : Cond.arrayOver (.object "FaceLetters$Ground") ∈ lw_tbl := List.mem_of_getElem? (i := 258) (by decide +kernel)
theorem in_nwF : ∀ w ∈ nwF.map (fun q => Cond.fieldLinkNest q.1 q.2.1 q.2.2.1 q.2.2.2.1 q.2.2.2.2 "FaceLetters"), w ∈ lw_tbl := mem_pl [110, 111, 112, 114, 115, 116, 118, 119, 120, 122, 124, 125, 127, 128, 130, 155, 157, 185, 187, 189, 191, 193, 241, 263] (by decide +kernel)
theorem in_nwM : ∀ w ∈ nwM.map (fun q => Cond.methodLinkNest q.1 q.2.1 q.2.2 "FaceLetters"), w ∈ lw_tbl := mem_pl [105, 149, 170, 233, 253, 259, 303, 308, 315, 330, 334, 342, 346, 350, 358, 367, 392, 396, 400, 417, 423, 428, 433, 438, 446, 450, 451, 452, 461, 463, 464, 473, 482, 488, 494, 495, 500, 508, 520, 524, 528, 532, 536, 559, 567, 575, 591, 603, 614, 630] (by decide +kernel)
theorem nw_start {s : State} {A : Array Value} (hts : ∀ w ∈ lw_tbl, w.before A s = true) : nw s :=
  ⟨fun q hq => va_Nw.of rfl (hts _ (in_nwF _ (List.mem_map.mpr ⟨q, hq, rfl⟩))), fun q hq => va_Nw.of rfl (hts _ (in_nwM _ (List.mem_map.mpr ⟨q, hq, rfl⟩)))⟩
-- the first state
def g0 : Nat → Int := fun k => if k = 1 then 400 else 0
def s0 : St := (g0, 0, (0, fun _ => 0, fun _ => 0, fun _ => 0), (0, fun _ _ => 0), (fun _ => false), (fun _ _ => 0), fun _ => 0)
theorem g0_ok : okg g0 := by
  refine ⟨by decide, by decide, Or.inl rfl, by decide, fun i hi => ?_, fun i j hi _ _ => absurd hi (by show ¬ i < 0; omega)⟩
  unfold g0
  rw [if_neg (by omega)]
  decide
theorem s0_ok : okS s0 := ⟨g0_ok, by decide, ⟨Nat.zero_le _, fun i hi => absurd hi (Nat.not_lt_zero _), fun i hi => absurd hi (Nat.not_lt_zero _), fun i hi => absurd hi (Nat.not_lt_zero _)⟩, ⟨Nat.zero_le _, fun j hj => absurd hj (Nat.not_lt_zero _)⟩, fun j _ h => absurd h (by show ¬ false = true; decide)⟩
theorem cls0 : cls V0 g0 := by
  refine ⟨by decide, by decide, by decide, by decide, fun i hi => ?_, fun i hi => ?_⟩
  · rw [V0_z (by decide) (by decide)]; unfold g0; rw [if_neg (by omega)]
  · rw [V0_z (by decide) (by decide)]; unfold g0; rw [if_neg (by omega)]
theorem CR0 : CR V0 s0 := by
  refine ⟨⟨cls0, fun u hu => ?_, fun u hu => ?_⟩, cls0, by decide, ⟨fun _ => 0, fun a ha => ⟨V0_z (by decide) (by decide) a, by show (0 : Nat) < 1024; decide⟩⟩, ⟨by decide, fun i hi => absurd hi (Nat.not_lt_zero _), fun i hi => absurd hi (Nat.not_lt_zero _), fun i hi => absurd hi (Nat.not_lt_zero _)⟩, ⟨by decide, 0, by decide, by decide, fun j hj => absurd hj (Nat.not_lt_zero _)⟩, ⟨⟨0, by decide, by decide, fun j hj => ?_⟩, fun j hj h => absurd h (by show ¬ false = true; decide)⟩⟩
  · rw [V0_z (by decide) (by decide)]; rfl
  · rw [V0_z (by decide) (by decide)]; rfl
  · exact Nat.zero_testBit j
theorem MR0 : MR V0 s0 := by
  refine ⟨fun k hk => ?_, by decide, ⟨by decide, fun i hi => absurd hi (Nat.not_lt_zero _), fun i hi => absurd hi (Nat.not_lt_zero _), fun i hi => absurd hi (Nat.not_lt_zero _)⟩, ⟨by decide, 0, by decide, by decide, fun j hj => absurd hj (Nat.not_lt_zero _)⟩, fun j hj => ⟨V0_z (by decide) (by decide) j, fun h => absurd h (by show ¬ false = true; decide)⟩⟩
  show V0 73 k = g0 k
  unfold g0
  by_cases h : k = 1
  · subst h; decide
  · rw [if_neg h, V0_0 (fun q => absurd q.2 (by decide)) (fun q => h q.2)]
theorem nil_P {D : va_G} {H : Heap} : va_P D vwCl [] H := fun k q h => by simp at h
theorem nil_D {A : Nat → Prop} : va_D A [] := ⟨fun i j p q h => by simp at h, fun k q h => by simp at h⟩
/-- the classes at the start -/
theorem k_start {s : State} {A : Array Value} (hts : ∀ w ∈ lw_tbl, w.before A s = true) : ∃ O : OmT, va_K O.1 vwCl (tyL O) s := by
  obtain ⟨cX0, iX0, hkX0⟩ := u_known (C := RX0) (T := TX0) (N := 4) (n := 4) hts in_X0 (hts _ wL_25)
  obtain ⟨cX1, iX1, hkX1⟩ := u_known (C := RX1) (T := TX1) (N := 7) (n := 7) hts in_X1 (hts _ wL_13)
  obtain ⟨cX2, iX2, hkX2⟩ := u_known (C := RX2) (T := TX2) (N := 17) (n := 17) hts in_X2 (hts _ wL_21)
  obtain ⟨cX3, iX3, hkX3⟩ := u_known (C := RX3) (T := TX3) (N := 4) (n := 4) hts in_X3 (hts _ wL_17)
  obtain ⟨cX4, iX4, hkX4⟩ := u_known (C := RX4) (T := TX4) (N := 3) (n := 3) hts in_X4 (hts _ wL_29)
  obtain ⟨cX5, iX5, hkX5⟩ := u_known (C := RX5) (T := TX5) (N := 7) (n := 7) hts in_X5 (hts _ wL_1)
  obtain ⟨cX6, iX6, hkX6⟩ := u_known (C := RX6) (T := TX6) (N := 26) (n := 26) hts in_X6 (hts _ wL_4)
  obtain ⟨cI, kI, pI, f1, f2, f3⟩ := Cond.arrayClass_spec (hts _ wL_37)
  obtain ⟨cZ, kZ, pZ, z1, z2, z3⟩ := Cond.arrayClass_spec (hts _ wL_79)
  obtain ⟨pG, cG, kG, y1, -, y2, y3, y4⟩ := Cond.arrayOver_spec (hts _ in_ao)
  refine ⟨((fun k => if k = 0 then cX0 else if k = 1 then cX1 else if k = 2 then cX2 else if k = 3 then cX3 else if k = 4 then cX4 else if k = 5 then cX5 else cX6, fun k => if k = 0 then iX0 else if k = 1 then iX1 else if k = 2 then iX2 else if k = 3 then iX3 else if k = 4 then iX4 else if k = 5 then iX5 else iX6), cI, cZ, cG, fun _ => 0), ?_, ?_⟩
  · intro k q hq
    match k, hq with
    | 0, hq => cases hq; exact hkX0
    | 1, hq => cases hq; exact hkX1
    | 2, hq => cases hq; exact hkX2
    | 3, hq => cases hq; exact hkX3
    | 4, hq => cases hq; exact hkX4
    | 5, hq => cases hq; exact hkX5
    | 6, hq => cases hq; exact hkX6
    | k + 7, hq => simp [vwCl] at hq
  · intro k q hq
    match k, hq with
    | 0, hq => cases hq; exact ⟨fun n z => ⟨fun k h => (by cases h), kI, f2, pI, f3⟩, f1⟩
    | 1, hq => cases hq; exact ⟨fun n z => ⟨fun k h => (by cases h), kZ, z2, pZ, z3⟩, z1⟩
    | 2, hq => cases hq; exact ⟨fun n z => ⟨fun k h => (by cases h), kG, y2, pG, y3⟩, kG, pG, y2, y3, y1, y4⟩
    | k + 3, hq => simp at hq
theorem ww_wr (O : OmT) (al : Nat → Nat) (V : Mem) : ww (oA O al) V = wr al (fun c => en (oA O al) c (V c)) 0 82 := by
  unfold ww wr
  apply List.map_congr_left
  intro i _
  rw [Nat.zero_add]
set_option maxHeartbeats 4000000 in
set_option maxRecDepth 100000 in
/-- THE LAW, from its entry -/
theorem whole_start {p : Program} {e : Env} {s : State} {m : MethodId} {below : List Frame} {meth : Method} {c : Code} (l : Launch) (hflags : l.flags = flags0) {b L : Nat} {xs : Nat → Int32} (hL : L ≤ 2048) (C0 : lw_At p s m meth c b L xs) : W p l e room_1 s m #[Value.ref b] below meth c s.heap [] 0 0 (lw_Z below #[Value.ref b] s) (entryFrame m ([Value.ref b] : List Value).toArray 4) := by
  obtain ⟨hx, hb, hr, hml, hown, hts, hX, hbl, hlocks, hgv⟩ := id C0
  have hown : s.vm.findClass RL = some m.cls := hown
  have hA : ∀ q : Nat, s.heap.size ≤ q → (fun q : Nat => s.heap.size ≤ q) q := fun _ h => h
  obtain ⟨O, hK⟩ := k_start hts
  have hnw : nw s := nw_start hts
  have hao : va_AO "FaceLetters$Ground" s := va_AO.of (hts _ in_ao)
  have hS : va_S (fun q : Nat => s.heap.size ≤ q) s.heap s.heap [] := va_S.rf
  have hl := lv_entry ([.ref b]) (n := 4) (Nat.le_of_ble_eq_true rfl)
  rw [lg_entry_eq]
  generalize (lg_sl ([.ref b]) ++ List.replicate (4 - (lg_sl ([.ref b])).length) Slot.unset).toArray = ls at hl ⊢
  have hl : lv_has ls 4 [(0, .ref b)] := hl
  refine va_new (ci := 5) (fs := [.null, .null, .null, .null, .null, .null, .int 0]) (C := RX5) (T := TX5) (N := 7) hx hb hts in_X5 tyX5 tyX5_ok hown (hts _ wL_0) (hts _ wL_1) (hts _ wL_2) hK (nil_P (D := O.1)) nil_D hS hA rfl (fun j hj => by rcases (show j = 0 ∨ j = 1 ∨ j = 2 ∨ j = 3 ∨ j = 4 ∨ j = 5 ∨ j = 6 by omega) with q | q | q | q | q | q | q <;> subst q <;> rfl) (Nat.le_of_ble_eq_true rfl) (Nat.le_of_ble_eq_true rfl) dL_law_0 (fun a0 H hP hD hS => ?_)
  refine lv_dup hx hb dL_law_3 rfl ?_
  refine ct_run (X := []) (As := []) (rest := [.ref a0]) ⟨hx, hb, hml, hown, hts⟩ hK hnw hao (ctX5 O l a0 H.size) gl_X5_init sgX5_init wL_6 wL_2 wL_7 ⟨Nat.le_of_ble_eq_true rfl, Nat.le_of_ble_eq_true rfl⟩ rfl hl.1 rfl (Nat.le_of_ble_eq_true rfl) dL_law_4 ⟨Nat.le_of_ble_eq_true rfl, Nat.le_of_ble_eq_true rfl⟩ hP hD hS hA (fun be H locs hbe _ hP hD hS => ?_)
  refine W.widen (k := 72) (n := 867) (Nat.le_of_ble_eq_true rfl) (Nat.le_of_ble_eq_true rfl) ?_
  have hP : va_P O.1 vwCl (wr be (eA O be) 0 72) H := hP
  have hD : va_D (fun q : Nat => s.heap.size ≤ q) (wr be (eA O be) 0 72) := hD
  refine lv_astore_n (lv' := [(1, .ref a0), (0, .ref b)]) hx hb dL_law_7 rfl hl (by decide) rfl (fun ls hl => ?_)
  refine va_new (ci := 6) (fs := [.null, .null, .int 0, .int 0, .null, .null, .int 0, .int 0, .null, .null, .null, .int 0, .int 0, .int 0, .null, .int 0, .int 0, .int 0, .int 0, .int 0, .null, .int 0, .int 0, .int 0, .int 0, .int 0]) (C := RX6) (T := TX6) (N := 26) hx hb hts in_X6 tyX6 tyX6_ok hown (hts _ wL_3) (hts _ wL_4) (hts _ wL_5) hK hP hD hS hA rfl (fun j hj => by rcases (show j = 0 ∨ j = 1 ∨ j = 2 ∨ j = 3 ∨ j = 4 ∨ j = 5 ∨ j = 6 ∨ j = 7 ∨ j = 8 ∨ j = 9 ∨ j = 10 ∨ j = 11 ∨ j = 12 ∨ j = 13 ∨ j = 14 ∨ j = 15 ∨ j = 16 ∨ j = 17 ∨ j = 18 ∨ j = 19 ∨ j = 20 ∨ j = 21 ∨ j = 22 ∨ j = 23 ∨ j = 24 ∨ j = 25 by omega) with q | q | q | q | q | q | q | q | q | q | q | q | q | q | q | q | q | q | q | q | q | q | q | q | q | q <;> subst q <;> rfl) (Nat.le_of_ble_eq_true rfl) (Nat.le_of_ble_eq_true rfl) dL_law_8 (fun a72 H hP hD hS => ?_)
  refine lv_dup hx hb dL_law_11 rfl ?_
  refine ct_run (X := wr be (eA O be) 0 72) (As := []) (rest := [.ref a72]) ⟨hx, hb, hml, hown, hts⟩ hK hnw hao (ctX6 O l a72 H.size) gl_X6_init sgX6_init wL_73 wL_5 wL_74 ⟨Nat.le_of_ble_eq_true rfl, Nat.le_of_ble_eq_true rfl⟩ rfl hl.1 rfl (Nat.le_of_ble_eq_true rfl) dL_law_12 ⟨Nat.le_of_ble_eq_true rfl, Nat.le_of_ble_eq_true rfl⟩ hP hD hS hA (fun ga H locs hga _ hP hD hS => ?_)
  refine W.widen (k := 82) (n := 5614) (Nat.le_of_ble_eq_true rfl) (Nat.le_of_ble_eq_true rfl) ?_
  refine lv_astore_n (lv' := [(2, .ref a72), (1, .ref a0), (0, .ref b)]) hx hb dL_law_15 rfl hl (by decide) rfl (fun ls hl => ?_)
  refine lv_iconst (v := iI 0) hx hb dL_law_16 (by decide) ?_
  refine lv_istore_n (lv' := [(3, .int (iI 0)), (2, .ref a72), (1, .ref a0), (0, .ref b)]) hx hb dL_law_17 rfl hl (by decide) rfl (fun ls hl => ?_)
  rw [wr_app _ _ _ _ 0 72 10 72 rfl] at hP hD
  obtain ⟨al, hal⟩ : ∃ al : Nat → Nat, al = fun i => if i = 100 then b else mg be ga 72 i := ⟨_, rfl⟩
  have al1 : ∀ i, i < 72 → al i = be i := fun i h => by rw [hal]; dsimp only; rw [if_neg (by omega), mg_lt h]
  have al2 : ∀ i, i < 82 → 72 ≤ i → al i = ga i := fun i h k => by rw [hal]; dsimp only; rw [if_neg (by omega), mg_ge k]
  have al100 : al 100 = b := by rw [hal]; exact if_pos rfl
  have r1 : ∀ j, j < 72 → ∀ r ∈ refs j, r < 72 := by decide +kernel
  have r2 : ∀ j, j < 82 → 72 ≤ j → ∀ r ∈ refs j, r < 82 ∧ 72 ≤ r := by decide +kernel
  have ew : wr (mg be ga 72) (mg (eA O be) (eA O ga) 72) 0 (72 + 10) = wr al (mg (eA O be) (eA O ga) 72) 0 82 := wr_congr (fun i _ h => ⟨by
    rcases Nat.lt_or_ge i 72 with q | q
    · rw [mg_lt q, al1 i q]
    · rw [mg_ge q, al2 i (by omega) q], rfl⟩)
  rw [ew] at hP hD
  have hP : va_P O.1 vwCl (wr al (eA O al) 0 82) H := by
    refine wr_conv (fun j _ h2 => ?_) hP
    rcases Nat.lt_or_ge j 72 with q | q
    · rw [mg_lt q]; exact eA_cvt (fun r hr => (al1 r (r1 j q r hr)).symm)
    · rw [mg_ge q]; exact eA_cvt (fun r hr => (al2 r (r2 j (by omega) q r hr).1 (r2 j (by omega) q r hr).2).symm)
  have hD : va_D (fun q : Nat => s.heap.size ≤ q) (wr al (eA O al) 0 82) := wr_D hD
  have ha : ∀ i, i < 82 → s.heap.size ≤ al i := fun i h => by
    have := hD.2 i _ (wr_at h)
    rw [Nat.zero_add] at this
    exact this
  refine va_forget (fun q hq => hS.2.2 q hq) ?_
  have nA : ∀ q, q < s.heap.size → ¬ wwA (oA O al) q := fun q hq h => by
    obtain ⟨i, hi, e9⟩ := h
    have h1 := ha i hi
    have h2 : q = al i := e9
    omega
  have hh : hs (oA O al) s V0 H [] := by
    refine ⟨by rw [ww_wr]; exact hP, ?_, hS.1, fun q h1 _ => hS.2.1 q h1 (by omega), fun l h => by cases h⟩
    rw [ww_wr]
    refine ⟨hD.1, fun k q hk => ?_⟩
    rcases Nat.lt_or_ge k 82 with h | h
    · rw [wr_at h] at hk
      cases hk
      exact ⟨k, h, by show al (0 + k) = al k; rw [Nat.zero_add]⟩
    · rw [wr_no h] at hk; cases hk
  have C : cL (oA O al) (p, l, e, s, m, #[Value.ref b], below, meth, c, lw_Z below #[Value.ref b] s) ret := ⟨hx, hb, hr, hlocks, hml, hown, hts, hK, hnw⟩
  have S : scr (oA O al) (p, l, e, s, m, #[Value.ref b], below, meth, c, lw_Z below #[Value.ref b] s) L xs := by
    unfold scr
    show va_X (al 100) L xs s s.heap ∧ al 100 < s.heap.size ∧ ¬ wwA (oA O al) (al 100) ∧ L ≤ 2048
    rw [al100]
    exact ⟨hX, hbl, nA b hbl, hL⟩
  refine law_loop C S (fun V i H locs ls h hl => ?_) (L + 1) 0 (by omega) (by omega) V0 s0 CR0 MR0 s0_ok H [] ls hh ⟨?_, fun q hq => ?_⟩
  · refine lv_iconst (v := 1) hx hb dL_law_777 (by decide) ?_
    refine va_forget (fun q hq => ?_) ?_
    · obtain ⟨i, hi, e9⟩ := h.2.2.2.2 q hq
      have h1 := ha i hi
      have h2 : q.base = al i := e9
      show s.heap.size ≤ q.base
      rw [h2]
      exact h1
    · refine W.widen (k := 600000) (n := 7302250) (Nat.le_of_ble_eq_true rfl) (Nat.le_of_ble_eq_true rfl) ?_
      exact lw_ret hx hb hr hlocks dL_law_778
  · show lv_has ls 4 [(0, .ref (al 100)), (1, .ref (al 0)), (2, .ref (al 72)), (3, .int (iI 0))]
    rw [al100, al1 0 (by decide), al2 72 (by decide) (by decide), hbe, hga]
    exact lv_sub hl [3, 2, 1, 0] rfl
  · have : ∀ q ∈ LV 0, sn q.2 = true := by
      intro q hq
      simp only [LV, List.mem_cons, List.not_mem_nil, or_false] at hq
      rcases hq with h | h | h | h <;> subst h <;> rfl
    exact this q hq
