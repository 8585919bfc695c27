-- worlds that grow: the maker's own cell first, the others whole, but for one row of grounds (ex)
def fSt (O : OmT) (A : Nat → Prop) (s : State) (ex lo n a0 : Nat) (E0 : va_E) (al : Nat → Nat) (e : Nat → va_E) (H : Heap) (locs : List Loc) : Prop :=
  al lo = a0 ∧ e lo = E0 ∧ (∀ j, j < lo + n → lo + 1 ≤ j → j ≠ ex → cvt O.1 (e j) (eA O al j)) ∧ va_P O.1 vwCl (wr al e lo n) H ∧ va_D A (wr al e lo n) ∧ va_S A s.heap H locs
theorem st_mg {O : OmT} {A : Nat → Prop} {s : State} {ex lo n k c a0 : Nat} {E0 : va_E} {al be : Nat → Nat} {e : Nat → va_E} {H : Heap} {locs : List Loc} (h0 : al lo = a0) (he : e lo = E0) (hi : ∀ j, j < lo + n → lo + 1 ≤ j → j ≠ ex → cvt O.1 (e j) (eA O al j)) (hc : c = lo + n) (hn : 0 < n) (hr : ∀ j, j < c → lo + 1 ≤ j → j ≠ ex → ∀ r ∈ refs j, r < c) (hr2 : ∀ j, j < c + k → c ≤ j → ∀ r ∈ refs j, r < c → al r = be r) (hP : va_P O.1 vwCl (wr al e lo n ++ wr be (eA O be) c k) H) (hD : va_D A (wr al e lo n ++ wr be (eA O be) c k)) (hS : va_S A s.heap H locs) : fSt O A s ex lo (n + k) a0 E0 (mg al be c) (mg e (eA O be) c) H locs := by
  rw [wr_app _ _ _ _ lo n k c hc] at hP hD
  refine ⟨by rw [mg_lt (by omega)]; exact h0, by rw [mg_lt (by omega)]; exact he, fun j h1 h2 h3 => ?_, hP, hD, hS⟩
  rcases Nat.lt_or_ge j c with q | q
  · rw [mg_lt q]
    exact cvt_tr (hi j (by omega) h2 h3) (eA_cvt (fun r hr' => (mg_lt (hr j q h2 h3 r hr')).symm))
  · rw [mg_ge q]
    refine eA_cvt (fun r hr' => ?_)
    rcases Nat.lt_or_ge r c with z | z
    · rw [mg_lt z]
      exact (hr2 j (by omega) q r hr' z).symm
    · rw [mg_ge z]
theorem st_row {O : OmT} {A : Nat → Prop} {s : State} {lo n c a0 q9 : Nat} {E0 x : va_E} {al : Nat → Nat} {e : Nat → va_E} {H : Heap} {locs : List Loc} (h0 : al lo = a0) (he : e lo = E0) (hi : ∀ j, j < lo + n → lo + 1 ≤ j → j ≠ c → cvt O.1 (e j) (eA O al j)) (hc : c = lo + n) (hn : 0 < n) (hr : ∀ j, j < c → lo + 1 ≤ j → ∀ r ∈ refs j, r < c) (hP : va_P O.1 vwCl (wr al e lo n ++ [(q9, x)]) H) (hD : va_D A (wr al e lo n ++ [(q9, x)])) (hS : va_S A s.heap H locs) : fSt O A s c lo (n + 1) a0 E0 (mg al (fun _ => q9) c) (mg e (fun _ => x) c) H locs := by
  rw [show [(q9, x)] = wr (fun _ => q9) (fun _ => x) c 1 from rfl, wr_app _ _ _ _ lo n 1 c hc] at hP hD
  refine ⟨by rw [mg_lt (by omega)]; exact h0, by rw [mg_lt (by omega)]; exact he, fun j h1 h2 h3 => ?_, hP, hD, hS⟩
  rw [mg_lt (show j < c by omega)]
  exact cvt_tr (hi j (by omega) h2 h3) (eA_cvt (fun r hr' => (mg_lt (hr j (by omega) h2 r hr')).symm))
theorem st_put {O : OmT} {A : Nat → Prop} {s : State} {ex lo n a0 : Nat} {E0 x : va_E} {al : Nat → Nat} {e : Nat → va_E} {H H1 : Heap} {locs locs1 : List Loc} (h : fSt O A s ex lo n a0 E0 al e H locs) (hP : va_P O.1 vwCl ((wr al e lo n).set 0 (a0, x)) H1) (hD : va_D A ((wr al e lo n).set 0 (a0, x))) (hS : va_S A s.heap H1 locs1) : fSt O A s ex lo n a0 x al (va_up e lo x) H1 locs1 := by
  obtain ⟨h0, he, hi, -, -, -⟩ := h
  have e1 : (wr al e lo n).set 0 (a0, x) = wr al (va_up e lo x) lo n := by
    rw [← h0]; exact wr_set (i := 0)
  rw [e1] at hP hD
  exact ⟨h0, va_up_self _ _ _, fun j h1 h2 h3 => by rw [va_up_ne _ _ (by omega)]; exact hi j h1 h2 h3, hP, hD, hS⟩
theorem st_set {O : OmT} {A : Nat → Prop} {s : State} {ex lo n a0 i q9 : Nat} {E0 x : va_E} {al : Nat → Nat} {e : Nat → va_E} {H H1 : Heap} {locs locs1 : List Loc} (h : fSt O A s ex lo n a0 E0 al e H locs) (hi : ex = lo + i) (hi0 : 0 < i) (hq : al ex = q9) (hP : va_P O.1 vwCl ((wr al e lo n).set i (q9, x)) H1) (hD : va_D A ((wr al e lo n).set i (q9, x))) (hS : va_S A s.heap H1 locs1) : fSt O A s ex lo n a0 E0 al (va_up e ex x) H1 locs1 := by
  obtain ⟨h0, he, hin, -, -, -⟩ := h
  have e1 : (wr al e lo n).set i (q9, x) = wr al (va_up e ex x) lo n := by
    rw [← hq, hi]; exact wr_set
  rw [e1] at hP hD
  exact ⟨h0, by rw [va_up_ne _ _ (by omega)]; exact he, fun j h1 h2 h3 => by rw [va_up_ne _ _ h3]; exact hin j h1 h2 h3, hP, hD, hS⟩
theorem st_at0 {O : OmT} {A : Nat → Prop} {s : State} {ex lo n a0 : Nat} {E0 : va_E} {al : Nat → Nat} {e : Nat → va_E} {H : Heap} {locs : List Loc} (h : fSt O A s ex lo n a0 E0 al e H locs) (hn : 0 < n) : (wr al e lo n)[0]? = some (a0, E0) := by
  rw [wr_at hn, Nat.add_zero, h.1, h.2.1]
theorem st_at0a {O : OmT} {A : Nat → Prop} {s : State} {ex lo n a0 : Nat} {E0 : va_E} {al : Nat → Nat} {e : Nat → va_E} {H : Heap} {locs : List Loc} {X : va_W} (h : fSt O A s ex lo n a0 E0 al e H locs) (hn : 0 < n) : (wr al e lo n ++ X)[0]? = some (a0, E0) := by
  rw [List.getElem?_append_left (by rw [wr_len]; exact hn)]; exact st_at0 h hn
theorem refs_p : ∀ j, j < 65 → 17 ≤ j → ∀ r ∈ refs j, (j - 17) % 3 = 0 ∧ (r = j + 1 ∨ r = j + 2) := by decide +kernel
theorem eA_gb {O : OmT} {be : Nat → Nat} {c : Nat} (h : isGb c = true) : eA O be c = .inr (1, [.ref (be (c + 1)), .ref (be (c + 2)), .int (iI (V0 c 2)), .int (iI (V0 c 3)), .int (iI (V0 c 4)), .int (iI (V0 c 5)), .int (iI (V0 c 6))]) := by
  unfold eA; rw [en_G h]
def rX4_init : Room := { frames := 2, cells := 49, slots := 448, locals := 32 }
theorem sgX4_init : sgC yX4_init wsX4_init cX4_init 2 rX4_init 0 49 448 := ⟨⟨_, rfl⟩, rfl, rfl, rfl, by decide, by decide, by decide +kernel⟩
/-- the row of grounds: those up to i are there -/
def pAr (O : OmT) (N b i : Nat) (al : Nat → Nat) (x : va_E) : Prop := ∃ f : Nat → Option Nat, x = .inl (O.2.2.2.1, N, .inr (.inr (.inr (.inr f)))) ∧ ∀ j, j < i → f j = some (al (b + 3 * j))
theorem pAr_up {O : OmT} {N b i a : Nat} {al : Nat → Nat} {f : Nat → Option Nat} (h : ∀ j, j < i → f j = some (al (b + 3 * j))) (ha : al (b + 3 * i) = a) : pAr O N b (i + 1) al (.inl (O.2.2.2.1, N, .inr (.inr (.inr (.inr (va_up f i (some a))))))) := by
  refine ⟨_, rfl, fun j hj => ?_⟩
  by_cases q : j = i
  · subst q; rw [va_up_self, ha]
  · rw [va_up_ne _ _ q]; exact h j (by omega)
set_option maxHeartbeats 4000000 in
set_option maxRecDepth 100000 in
theorem past_loop {p : Program} {l : Launch} {ee : Env} {s : State} {m : MethodId} {args : Array Value} {below : List Frame} {meth : Method} {cd : Code} {Q : State → Prop} {O : OmT} {A : Nat → Prop} (hx : p.tables.exec = Jvm.exec) (hb : cd.code = cX4_init) (hml : cd.maxLocals = 2) (hts : ∀ w ∈ wsX4_init, w.before args s = true) (hown : s.vm.findClass RX4 = some m.cls) (hK : va_K O.1 vwCl (tyL O) s) (hnw : nw s) (hao : va_AO "FaceLetters$Ground" s) (hA : ∀ q, s.heap.size ≤ q → A q) {a0 qa : Nat}
    (kend : ∀ (al : Nat → Nat) (e : Nat → va_E) (H : Heap) (locs : List Loc) (ls : Array Slot), fSt O A s 16 15 50 a0 (.inr (4, [.ref qa, .int 0, .int 0])) al e H locs → al 16 = qa → pAr O 16 17 16 al (e 16) → lv_has ls 2 [(0, .ref a0)] → W p l ee rX4_init s m args below meth cd H locs 49 448 Q (F0 m 40 ls [])) :
    ∀ (n i : Nat), i + n = 16 → ∀ (al : Nat → Nat) (e : Nat → va_E) (H : Heap) (locs : List Loc) (ls : Array Slot), fSt O A s 16 15 (2 + 3 * i) a0 (.inr (4, [.ref qa, .int 0, .int 0])) al e H locs → al 16 = qa → pAr O 16 17 i al (e 16) → lv_has ls 2 [(0, .ref a0), (1, .int (iI (i : Int)))] → W p l ee rX4_init s m args below meth cd H locs (1 + 3 * i) (16 + 27 * i) Q (F0 m 15 ls []) := by
  intro n
  induction n with
  | zero =>
    intro i hi al e H locs ls hst hqa hpa hl
    have hi : i = 16 := by omega
    subst hi
    refine lv_iload_n hx hb dX4_init_15 rfl (lv_at hl 1 rfl) ?_
    refine lv_bipush (v := iI 16) hx hb dX4_init_16 (by decide) ?_
    refine lv_icmp_ge (tgt := 40) hx hb dX4_init_18 (by decide) (fun _ => ?_) (fun q => absurd ((iI_le (by decide) (by decide)).mpr (by decide)) q)
    exact kend al e H locs ls hst hqa hpa (lv_sub hl [0] rfl)
  | succ n ih =>
    intro i hi al e H locs ls hst hqa hpa hl
    refine lv_iload_n hx hb dX4_init_15 rfl (lv_at hl 1 rfl) ?_
    refine lv_bipush (v := iI 16) hx hb dX4_init_16 (by decide) ?_
    refine lv_icmp_ge (tgt := 40) hx hb dX4_init_18 (by decide) (fun q => ?_) (fun _ => ?_)
    · have := (iI_le (by decide) (by omega)).mp q
      omega
    refine lv_aload_n hx hb dX4_init_21 rfl (lv_at hl 0 rfl) ?_
    have hst0 := hst
    obtain ⟨h0, he, hin, hP, hD, hS⟩ := hst
    refine va_get (D := O.1) (ci := 4) (v := .ref qa) (C := RX4) (T := TX4) (N := 3) hx hb hts (fun w h => List.mem_cons_of_mem _ (List.mem_append_left _ (List.mem_append_right _ h))) hown hK hP 0 (st_at0 hst0 (by omega)) rfl 0 (by decide) (hts _ (List.mem_of_getElem? (i := 5) rfl)) (fun _ h9 => h9) rfl dX4_init_22 ?_
    refine lv_iload_n hx hb dX4_init_25 rfl (lv_at hl 1 rfl) ?_
    refine va_new (ci := 1) (fs := [.null, .null, .int 0, .int 0, .int 0, .int 0, .int 0]) (C := RX1) (T := TX1) (N := 7) hx hb hts (fun w h => List.mem_cons_of_mem _ (List.mem_append_right _ h)) tyX1 tyX1_ok hown (hts _ (List.mem_of_getElem? (i := 4) rfl)) (hts _ (List.mem_of_getElem? (i := 6) rfl)) (hts _ (List.mem_of_getElem? (i := 7) rfl)) hK hP hD hS hA rfl (fun j hj => by rcases (show j = 0 ∨ j = 1 ∨ j = 2 ∨ j = 3 ∨ j = 4 ∨ j = 5 ∨ j = 6 by omega) with q | q | q | q | q | q | q <;> subst q <;> rfl) (by show 1 + 3 * i + 1 ≤ 49; omega) (by show 16 + 27 * i + 7 ≤ 448; omega) dX4_init_26 (fun q5 H hP hD hS => ?_)
    refine lv_dup hx hb dX4_init_29 rfl ?_
    have hgb : isGb (17 + 3 * i) = true := gb_p (by omega)
    refine ct_runN (X := wr al e 15 (2 + 3 * i)) (As := []) (rest := [.ref q5, .int (iI (i : Int)), .ref qa]) ⟨hx, hb, hml, hown, hts⟩ hK hnw hao (ctX1 O l hgb q5 H.size) ggX4_init_X1_init sgX1_init (List.mem_of_getElem? (i := 5) rfl) (List.mem_of_getElem? (i := 7) rfl) (List.mem_of_getElem? (i := 10) rfl) ⟨Nat.le_of_ble_eq_true rfl, Nat.le_of_ble_eq_true rfl⟩ rfl hl.1 rfl (Nat.le_of_ble_eq_true rfl) dX4_init_30 ⟨by show 1 + 3 * i + 1 + 2 ≤ 49; omega, by show 16 + 27 * i + 7 + 20 ≤ 448; omega⟩ hP hD hS hA (fun be H locs hbe _ hP hD hS => ?_)
    have hst := st_mg (ex := 16) h0 he hin (show 17 + 3 * i = 15 + (2 + 3 * i) by omega) (by omega) (fun j h1 h2 h3 r hr => by have := refs_p j (by omega) (by omega) r hr; omega) (fun j h1 h2 r hr hr2 => by have := refs_p j (by omega) (by omega) r hr; omega) hP hD hS
    have hq5 : mg al be (17 + 3 * i) (17 + 3 * i) = q5 := by rw [mg_ge (Nat.le_refl _)]; exact hbe
    have hqa' : mg al be (17 + 3 * i) 16 = qa := by rw [mg_lt (by omega)]; exact hqa
    have he16 : mg e (eA O be) (17 + 3 * i) 16 = e 16 := mg_lt (by omega)
    have heq : mg e (eA O be) (17 + 3 * i) (17 + 3 * i) = eA O be (17 + 3 * i) := mg_ge (Nat.le_refl _)
    obtain ⟨f, hf, hfj⟩ := hpa
    have hij := iI_in (n := 16) (z := (i : Int)) (j := i) rfl (by omega) (by decide)
    have hst0 := hst
    obtain ⟨-, -, -, hP, hD, hS⟩ := hst
    refine va_astq (D := O.1) (cA := O.2.2.2.1) (n := 16) (f := f) (r := (RX1, TX1, 7)) hx hb hK hP hD hS 1 2 (2 + 3 * i) 1 (by rw [wr_at (by omega), show (15 + 1 : Nat) = 16 from rfl, hqa', he16, hf]) rfl (by rw [wr_at (by omega), show 15 + (2 + 3 * i) = 17 + 3 * i by omega, hq5, heq, eA_gb hgb]) rfl hij.1 dX4_init_33 (fun H locs hP hD hS => ?_)
    rw [hij.2] at hP hD
    have hst := st_set hst0 (i := 1) rfl (by decide) hqa' hP hD hS
    refine lv_iinc (v := iI ((i + 1 : Nat) : Int)) (lv' := [(1, .int (iI ((i + 1 : Nat) : Int))), (0, .ref a0)]) hx hb dX4_init_34 hl (k := 1) rfl (by rw [show Int32.ofInt 1 = iI 1 from rfl, iI_add]; rfl) (by decide) rfl (fun ls hl => ?_)
    refine lv_goto (tgt := 15) hx hb dX4_init_37 (by decide) ?_
    refine W.widen (k := 1 + 3 * (i + 1)) (n := 16 + 27 * (i + 1)) (by omega) (by omega) ?_
    refine ih (i + 1) (by omega) _ _ H locs ls (by rw [show 2 + 3 * (i + 1) = 2 + 3 * i + 3 by omega]; exact hst) hqa' ?_ (lv_sub hl [1, 0] rfl)
    rw [va_up_self]
    exact pAr_up (fun j hj => by rw [hfj j hj, mg_lt (by omega)]) hq5
set_option maxHeartbeats 4000000 in
set_option maxRecDepth 100000 in
theorem ctX4 (O : OmT) (l : Launch) (a0 sz : Nat) : CT O l yX4_init wsX4_init rX4_init 15 50 [.ref a0] a0 sz (.inr (4, [.null, .int 0, .int 0])) (fun _ => True) 49 448 := by
  refine Met.ofW (cc := cX4_init) (maxL := 2) (ret := none) (by decide) rfl ?_
  intro p e s m args below meth cd s₁ B hml hv
  obtain ⟨rfl, hsz, hP, hK, hnw, hao⟩ := hv
  have hx := B.exec
  have hb := B.bytes
  have hr := B.returns
  have hts := atoms_spec (ws := wsX4_init) B.pre
  have hown : s.vm.findClass RX4 = some m.cls := findClass_of_methodNamed B.named
  have hlocks := B.notSynchronized
  have hin : meth.name = "<init>" := (name_of_methodNamed B.named B.method).1
  subst hsz
  have hD : va_D (va_A [(a0, .inr (4, [.null, .int 0, .int 0]))] s.heap.size) [(a0, .inr (4, [.null, .int 0, .int 0]))] := one_D (Or.inl ⟨0, _, rfl⟩)
  unfold ctB
  generalize hAe : va_A [(a0, .inr (4, [.null, .int 0, .int 0]))] s.heap.size = A at hD ⊢
  have hA : ∀ q : Nat, s.heap.size ≤ q → A q := fun q h => by rw [← hAe]; exact Or.inr h
  have hS : va_S A s.heap s.heap [] := va_S.rf
  have hl := lv_entry ([.ref a0]) (n := 2) (Nat.le_of_ble_eq_true rfl)
  rw [lg_entry_eq]
  generalize (lg_sl ([.ref a0]) ++ List.replicate (2 - (lg_sl ([.ref a0])).length) Slot.unset).toArray = ls at hl ⊢
  have hl : lv_has ls 2 [(0, .ref a0)] := hl
  refine lv_aload_n hx hb dX4_init_0 rfl (lv_at hl 0 rfl) ?_
  refine W.objInit hx hb hown (hts _ (List.mem_of_getElem? (i := 1) rfl)) (hts _ (List.mem_of_getElem? (i := 2) rfl)) (hts _ (List.mem_of_getElem? (i := 3) rfl)) rfl (by rw [hml]; exact hl.1) rfl dX4_init_1 (Nat.le_of_ble_eq_true rfl) (Nat.le_of_ble_eq_true rfl) ?_
  refine W.eq (g2 := F0 m 4 ls []) rfl ?_
  refine lv_aload_n hx hb dX4_init_4 rfl (lv_at hl 0 rfl) ?_
  refine lv_bipush (v := 16) hx hb dX4_init_5 (by decide) ?_
  have hP : va_P O.1 vwCl (wr (fun _ => a0) (fun _ => .inr (4, [.null, .int 0, .int 0])) 15 1) s.heap := hP
  have hD : va_D A (wr (fun _ => a0) (fun _ => .inr (4, [.null, .int 0, .int 0])) 15 1) := hD
  refine k_newG hx hb hown (hts _ (List.mem_of_getElem? (i := 4) rfl)) hao hK hP hD hS hA 16 (by decide) (by decide) (Nat.le_of_ble_eq_true rfl) (Nat.le_of_ble_eq_true rfl) (Nat.le_of_ble_eq_true rfl) dX4_init_7 (fun qa H hP hD hS => ?_)
  have hst := st_row (O := O) (c := 16) (lo := 15) (n := 1) (a0 := a0) (E0 := .inr (4, [.null, .int 0, .int 0])) rfl rfl (fun j h1 h2 h3 => absurd h1 (by omega)) rfl (by decide) (fun j h1 h2 => absurd h1 (by omega)) hP hD hS
  obtain ⟨al, hal⟩ : ∃ al : Nat → Nat, al = mg (fun _ => a0) (fun _ => qa) 16 := ⟨_, rfl⟩
  have hqa : al 16 = qa := by rw [hal]; exact mg_ge (Nat.le_refl _)
  obtain ⟨e1, he1⟩ : ∃ e1 : Nat → va_E, e1 = mg (fun _ => .inr (4, [.null, .int 0, .int 0])) (fun _ => .inl (O.2.2.2.1, 16, .inr (.inr (.inr (.inr (fun _ => none)))))) 16 := ⟨_, rfl⟩
  have h16 : e1 16 = .inl (O.2.2.2.1, 16, .inr (.inr (.inr (.inr (fun _ => none))))) := by rw [he1]; exact mg_ge (Nat.le_refl _)
  rw [← hal, ← he1] at hst
  have hst0 := hst
  obtain ⟨-, -, -, hP, hD, hS⟩ := hst
  refine va_putF (D := O.1) (ci := 4) (v := .ref qa) (ty := tyX4 0) (C := RX4) (T := TX4) (N := 3) hx hb hts (fun w h => List.mem_cons_of_mem _ (List.mem_append_left _ (List.mem_append_right _ h))) tyX4 tyX4_ok nmX4 hown hK hP hD hS 0 (st_at0 hst0 (by decide)) rfl 0 (by decide) (hts _ (List.mem_of_getElem? (i := 5) rfl)) (fun _ h9 => h9) rfl hin rfl (tyX4_ok 0 (by decide)) rfl rfl (Nat.le_of_ble_eq_true rfl) dX4_init_10 (fun H locs hP hD hS => ?_)
  have hst := st_put hst0 hP hD hS
  refine lv_iconst (v := iI 0) hx hb dX4_init_13 (by decide) ?_
  refine lv_istore_n (lv' := [(1, .int (iI 0)), (0, .ref a0)]) hx hb dX4_init_14 rfl hl (by decide) rfl (fun ls hl => ?_)
  refine past_loop hx hb hml hts hown hK hnw hao hA (qa := qa) (a0 := a0) ?_ 16 0 (by decide) al _ H locs ls hst hqa ⟨fun _ => none, by rw [va_up_ne _ _ (by decide)]; exact h16, fun j hj => absurd hj (Nat.not_lt_zero _)⟩ (lv_sub hl [1, 0] rfl)
  intro al e H locs ls hst hqa hpa hl
  have hst0 := hst
  obtain ⟨-, -, -, hP, hD, hS⟩ := hst
  refine lv_aload_n hx hb dX4_init_40 rfl (lv_at hl 0 rfl) ?_
  refine lv_iconst (v := 0) hx hb dX4_init_41 (by decide) ?_
  refine va_put (D := O.1) (ci := 4) (v := .int 0) (ty := .int) (C := RX4) (T := TX4) (N := 3) hx hb hts (fun w h => List.mem_cons_of_mem _ (List.mem_append_left _ (List.mem_append_right _ h))) tyX4 tyX4_ok nmX4 hown hK hP hD hS 0 (st_at0 hst0 (by decide)) rfl 1 (by decide) (hts _ (List.mem_of_getElem? (i := 8) rfl)) (fun _ h9 => h9) rfl (tyX4_ok 1 (by decide)) rfl rfl (Nat.le_of_ble_eq_true rfl) dX4_init_42 (fun H locs hP hD hS => ?_)
  have hst0 := st_put hst0 hP hD hS
  have hst := hst0
  obtain ⟨-, -, -, hP, hD, hS⟩ := hst
  refine lv_aload_n hx hb dX4_init_45 rfl (lv_at hl 0 rfl) ?_
  refine lv_iconst (v := 0) hx hb dX4_init_46 (by decide) ?_
  refine va_put (D := O.1) (ci := 4) (v := .int 0) (ty := .int) (C := RX4) (T := TX4) (N := 3) hx hb hts (fun w h => List.mem_cons_of_mem _ (List.mem_append_left _ (List.mem_append_right _ h))) tyX4 tyX4_ok nmX4 hown hK hP hD hS 0 (st_at0 hst0 (by decide)) rfl 2 (by decide) (hts _ (List.mem_of_getElem? (i := 9) rfl)) (fun _ h9 => h9) rfl (tyX4_ok 2 (by decide)) rfl rfl (Nat.le_of_ble_eq_true rfl) dX4_init_47 (fun H locs hP hD hS => ?_)
  have hst0 := st_put hst0 hP hD hS
  obtain ⟨h0, he, hinv, hP, hD, hS⟩ := hst0
  have hP9 : va_P O.1 vwCl (wr al (eA O al) 15 50) H := by
    refine wr_conv (fun j h1 h2 => ?_) hP
    by_cases q15 : j = 15
    · subst q15
      rw [he]
      apply cvt_eq
      unfold eA
      rw [en_15]
      dsimp only
      rw [hqa, V0_z (by decide) (by decide), V0_z (by decide) (by decide), iI_0]
      rfl
    · by_cases q16 : j = 16
      · subst q16
        obtain ⟨f, hf, hfj⟩ := hpa
        rw [va_up_ne _ _ (by decide), va_up_ne _ _ (by decide), hf]
        unfold eA
        rw [en_16]
        exact arr_cvt (fun j hj => hfj j hj)
      · exact hinv j h2 (by omega) q16
  exact W.vret hx hb hr (fun t ht hW => ⟨⟨al, rfl, ⟨h0, trivial⟩, by rw [ht]; exact hP9, wr_D hD⟩, hS.F ht⟩) hS.2.2 dX4_init_50
