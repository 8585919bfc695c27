-- making cells: worlds by numbers, at addresses that come one by one
def V0 (c k : Nat) : Int := if (k = 4 ∧ isGb c = true) ∨ (c = 73 ∧ k = 1) then 400 else 0
theorem V0_0 {c k : Nat} (h1 : ¬ (k = 4 ∧ isGb c = true)) (h2 : ¬ (c = 73 ∧ k = 1)) : V0 c k = 0 := if_neg (fun h => h.elim h1 h2)
abbrev oA (O : OmT) (al : Nat → Nat) : OmT := (O.1, O.2.1, O.2.2.1, O.2.2.2.1, al)
def eA (O : OmT) (al : Nat → Nat) (i : Nat) : va_E := en (oA O al) i (V0 i)
def wr (al : Nat → Nat) (e : Nat → va_E) (lo n : Nat) : va_W := (List.range n).map (fun i => (al (lo + i), e (lo + i)))
theorem wr_len (al : Nat → Nat) (e : Nat → va_E) (lo n : Nat) : (wr al e lo n).length = n := by simp [wr]
theorem wr_at {al : Nat → Nat} {e : Nat → va_E} {lo n i : Nat} (h : i < n) : (wr al e lo n)[i]? = some (al (lo + i), e (lo + i)) := by
  simp [wr, List.getElem?_map, h]
theorem wr_no {al : Nat → Nat} {e : Nat → va_E} {lo n i : Nat} (h : n ≤ i) : (wr al e lo n)[i]? = none := List.getElem?_eq_none (by rw [wr_len]; exact h)
def mg {α : Type} (a b : Nat → α) (c : Nat) : Nat → α := fun i => if i < c then a i else b i
theorem mg_lt {α : Type} {a b : Nat → α} {c i : Nat} (h : i < c) : mg a b c i = a i := if_pos h
theorem mg_ge {α : Type} {a b : Nat → α} {c i : Nat} (h : c ≤ i) : mg a b c i = b i := if_neg (Nat.not_lt.mpr h)
theorem wr_app (al be : Nat → Nat) (e f : Nat → va_E) (lo n k c : Nat) (hc : c = lo + n) : wr al e lo n ++ wr be f c k = wr (mg al be c) (mg e f c) lo (n + k) := by
  subst hc
  apply List.ext_getElem?
  intro i
  by_cases h : i < n
  · rw [List.getElem?_append_left (by rw [wr_len]; exact h), wr_at h, wr_at (by omega), mg_lt (by omega), mg_lt (by omega)]
  · rw [List.getElem?_append_right (by rw [wr_len]; omega), wr_len]
    by_cases h2 : i - n < k
    · rw [wr_at h2, wr_at (by omega), mg_ge (by omega), mg_ge (by omega), show lo + n + (i - n) = lo + i by omega]
    · rw [wr_no (by omega), wr_no (by omega)]
theorem wr_one (al : Nat → Nat) (e : Nat → va_E) (c : Nat) : wr al e c 1 = [(al c, e c)] := rfl
theorem wr_congr {al be : Nat → Nat} {e f : Nat → va_E} {lo n : Nat} (h : ∀ i, lo ≤ i → i < lo + n → al i = be i ∧ e i = f i) : wr al e lo n = wr be f lo n := by
  apply List.map_congr_left
  intro i hi
  have := List.mem_range.mp hi
  obtain ⟨a, b⟩ := h (lo + i) (by omega) (by omega)
  rw [a, b]
theorem wr_set {al : Nat → Nat} {e : Nat → va_E} {lo n i : Nat} {x : va_E} : (wr al e lo n).set i (al (lo + i), x) = wr al (va_up e (lo + i) x) lo n := by
  apply List.ext_getElem?
  intro j
  by_cases hj : j < n
  · rw [wr_at hj, List.getElem?_set]
    by_cases h : i = j
    · subst h
      rw [if_pos rfl, if_pos (by rw [wr_len]; exact hj), va_up_self]
    · rw [if_neg h, wr_at hj, va_up_ne _ _ (by omega)]
  · rw [wr_no (by omega), List.getElem?_eq_none (by rw [List.length_set, wr_len]; omega)]
/-- an entry that says as much as another -/
def cvt (D : va_G) (x y : va_E) : Prop := ∀ (a : Nat) (H : Heap), va_at D vwCl (a, x) H → va_at D vwCl (a, y) H
theorem cvt_rf {D : va_G} (x : va_E) : cvt D x x := fun _ _ h => h
theorem cvt_eq {D : va_G} {x y : va_E} (h : x = y) : cvt D x y := by rw [h]; exact cvt_rf y
theorem cvt_tr {D : va_G} {x y z : va_E} (h : cvt D x y) (k : cvt D y z) : cvt D x z := fun a H q => k a H (h a H q)
theorem wr_conv {D : va_G} {al : Nat → Nat} {e f : Nat → va_E} {lo n : Nat} {H : Heap} (h : ∀ i, lo ≤ i → i < lo + n → cvt D (e i) (f i)) (hP : va_P D vwCl (wr al e lo n) H) : va_P D vwCl (wr al f lo n) H := by
  intro k q hk
  rcases Nat.lt_or_ge k n with hn | hn
  · rw [wr_at hn] at hk
    cases hk
    exact h _ (by omega) (by omega) _ _ (hP k _ (wr_at hn))
  · rw [wr_no hn] at hk
    cases hk
theorem wr_D {A : Nat → Prop} {al : Nat → Nat} {e f : Nat → va_E} {lo n : Nat} (h : va_D A (wr al e lo n)) : va_D A (wr al f lo n) := by
  refine ⟨fun i j p q hp hq hpq => ?_, fun k q hk => ?_⟩
  · rcases Nat.lt_or_ge i n with hi | hi
    · rcases Nat.lt_or_ge j n with hj | hj
      · rw [wr_at hi] at hp
        rw [wr_at hj] at hq
        cases hp
        cases hq
        exact h.1 i j _ _ (wr_at hi) (wr_at hj) hpq
      · rw [wr_no hj] at hq; cases hq
    · rw [wr_no hi] at hp; cases hp
  · rcases Nat.lt_or_ge k n with hn | hn
    · rw [wr_at hn] at hk
      cases hk
      exact h.2 k (al (lo + k), e (lo + k)) (wr_at hn)
    · rw [wr_no hn] at hk; cases hk
theorem arr_cvt {D : va_G} {cA : ClassId} {n : Nat} {f g : Nat → Option Nat} (h : ∀ i, i < n → f i = g i) : cvt D (.inl (cA, n, .inr (.inr (.inr (.inr f))))) (.inl (cA, n, .inr (.inr (.inr (.inr g))))) := by
  intro a H q
  have q : H[a]? = some (arrV cA n (fun j => va_rf (f j))) := q
  show H[a]? = some (arrV cA n (fun j => va_rf (g j)))
  rw [q]
  unfold arrV
  congr 3
  funext j
  show va_rf (f j.val) = va_rf (g j.val)
  rw [h j.val j.isLt]
/-- which cells a cell speaks of -/
def refs (c : Nat) : List Nat :=
  if c = 0 then [1, 4, 8, 11, 15, 65] else if c = 4 then [1, 5, 6, 7] else if c = 8 then [1, 4, 9, 10] else if c = 11 then [12, 13, 14] else if c = 15 then [16] else if c = 16 then (List.range 16).map (fun i => 17 + 3 * i) else if c = 65 then [66, 69] else if c = 72 then [73, 74, 75, 76, 77, 78, 79, 80, 81] else if c = 75 then [] else if isGb c = true then [c + 1, c + 2] else []
theorem eA_cvt {O : OmT} {al be : Nat → Nat} {i : Nat} (h : ∀ j ∈ refs i, al j = be j) : cvt O.1 (eA O al i) (eA O be i) := by
  unfold eA en
  unfold refs at h
  by_cases h0 : i = 0
  · rw [if_pos h0, if_pos h0]
    rw [if_pos h0] at h
    apply cvt_eq
    dsimp only
    rw [h 1 (by decide), h 4 (by decide), h 8 (by decide), h 11 (by decide), h 15 (by decide), h 65 (by decide)]
  rw [if_neg h0] at h
  rw [if_neg h0, if_neg h0]
  by_cases h4 : i = 4
  · rw [if_pos h4, if_pos h4]
    rw [if_pos h4] at h
    apply cvt_eq
    dsimp only
    rw [h 1 (by decide), h 5 (by decide), h 6 (by decide), h 7 (by decide)]
  rw [if_neg h4] at h
  rw [if_neg h4, if_neg h4]
  by_cases h8 : i = 8
  · rw [if_pos h8, if_pos h8]
    rw [if_pos h8] at h
    apply cvt_eq
    dsimp only
    rw [h 1 (by decide), h 4 (by decide), h 9 (by decide), h 10 (by decide)]
  rw [if_neg h8] at h
  rw [if_neg h8, if_neg h8]
  by_cases h11 : i = 11
  · rw [if_pos h11, if_pos h11]
    rw [if_pos h11] at h
    apply cvt_eq
    dsimp only
    rw [h 12 (by decide), h 13 (by decide), h 14 (by decide)]
  rw [if_neg h11] at h
  rw [if_neg h11, if_neg h11]
  by_cases h15 : i = 15
  · rw [if_pos h15, if_pos h15]
    rw [if_pos h15] at h
    apply cvt_eq
    dsimp only
    rw [h 16 (by decide)]
  rw [if_neg h15] at h
  rw [if_neg h15, if_neg h15]
  by_cases h16 : i = 16
  · rw [if_pos h16, if_pos h16]
    rw [if_pos h16] at h
    refine arr_cvt (fun j hj => ?_)
    dsimp only
    rw [h (17 + 3 * j) (List.mem_map.mpr ⟨j, List.mem_range.mpr hj, rfl⟩)]
  rw [if_neg h16] at h
  rw [if_neg h16, if_neg h16]
  by_cases h65 : i = 65
  · rw [if_pos h65, if_pos h65]
    rw [if_pos h65] at h
    refine arr_cvt (fun j hj => ?_)
    dsimp only
    rcases (show j = 0 ∨ j = 1 by omega) with q | q
    · subst q; rw [h 66 (by decide)]
    · subst q; rw [h 69 (by decide)]
  rw [if_neg h65] at h
  rw [if_neg h65, if_neg h65]
  by_cases h72 : i = 72
  · rw [if_pos h72, if_pos h72]
    rw [if_pos h72] at h
    apply cvt_eq
    dsimp only
    rw [h 73 (by decide), h 74 (by decide), h 75 (by decide), h 76 (by decide), h 77 (by decide), h 78 (by decide), h 79 (by decide), h 80 (by decide), h 81 (by decide)]
  rw [if_neg h72] at h
  rw [if_neg h72, if_neg h72]
  by_cases h75 : i = 75
  · rw [if_pos h75, if_pos h75]
    exact cvt_rf _
  rw [if_neg h75] at h
  rw [if_neg h75, if_neg h75]
  by_cases hg : isGb i = true
  · rw [if_pos hg, if_pos hg]
    rw [if_pos hg] at h
    apply cvt_eq
    dsimp only
    rw [h (i + 1) (List.mem_cons_self), h (i + 2) (List.mem_cons_of_mem _ List.mem_cons_self)]
  rw [if_neg hg, if_neg hg]
  exact cvt_rf _
/-- behind a call that makes a cell's own cells -/
theorem join_last {D : va_G} {A0 : Nat → Prop} {X w1 : va_W} {x : Nat × va_E} {H H1 : Heap} (hP : va_P D vwCl (X ++ [x]) H) (hD : va_D A0 (X ++ [x])) (hk : ∀ q : Nat, q < H.size → ¬ va_A [x] H.size q → H1[q]? = H[q]?) (hF : ∀ q, va_A [x] H.size q → A0 q) (hP1 : va_P D vwCl w1 H1) (hD1 : va_D (va_A [x] H.size) w1) : va_P D vwCl (X ++ w1) H1 ∧ va_D A0 (X ++ w1) := by
  have at0 : ∀ (k : Nat) (q : Nat × va_E), X[k]? = some q → (X ++ [x])[k]? = some q := fun k q h => by
    rw [List.getElem?_append_left (List.getElem?_eq_some_iff.mp h).1]; exact h
  have at1 : (X ++ [x])[X.length]? = some x := by rw [List.getElem?_append_right (Nat.le_refl _), Nat.sub_self]; rfl
  have apart : ∀ (k : Nat) (q : Nat × va_E), X[k]? = some q → q.1 < H.size ∧ ¬ va_A [x] H.size q.1 := by
    intro k q hq
    have hl := (hP k q (at0 k q hq)).lt
    refine ⟨hl, fun h => ?_⟩
    rcases h with ⟨k2, e, h⟩ | h
    · have hk2 : k2 = 0 := by
        have := (List.getElem?_eq_some_iff.mp h).1
        simp at this
        exact this
      subst hk2
      have hx : x = (q.1, e) := by simpa using h
      have := hD.1 k X.length q x (at0 k q hq) at1 (by rw [hx])
      have hkl := (List.getElem?_eq_some_iff.mp hq).1
      omega
    · omega
  refine ⟨va_P.app (fun k q hq => ?_) hP1, va_D.app ⟨fun i j p q hp hq e => hD.1 i j p q (at0 i p hp) (at0 j q hq) e, fun k q hq => hD.2 k q (at0 k q hq)⟩ (hD1.weaken (fun k q _ h => hF q.1 h)) (fun i j p q hp hq hpq => ?_)⟩
  · obtain ⟨g1, g2⟩ := apart k q hq
    exact (hP k q (at0 k q hq)).kept (hk q.1 g1 g2)
  · exact (apart i p hp).2 (by rw [hpq]; exact hD1.2 j q hq)
-- rows of ints, of booleans, of grounds: their classes are the known ones
section NW
variable {p : Program} {l : Launch} {e : Env} {R : Room} {s : State} {m : MethodId} {args : Array Value} {below : List Frame} {meth : Method} {c : Code} {H : Heap} {locs : List Loc} {cells slots : Nat} {Q : State → Prop}
variable {cc : ByteArray} {pc : Nat} {ls : Array Slot} {rest : List Value} {O : OmT} {A : Nat → Prop} {ws : va_W} {H0 : Heap}
theorem k_newI (hexec : p.tables.exec = Jvm.exec) (hb : c.code = cc) (harr : (Cond.arrayClass .int).before args s = true) (hK : va_K O.1 vwCl (tyL O) s) (hP : va_P O.1 vwCl ws H) (hD : va_D A ws) (hS : va_S A H0 H locs) (hA : ∀ q, H0.size ≤ q → A q) {n : Int32} (N : Nat) (hn : ¬ n < 0) (hN : n.toNatClampNeg = N) (hby : N * componentBytes .int ≤ 536870912) (hcells : cells + 1 ≤ R.cells) (hslots : slots + N ≤ R.slots) (hdg : decode cc pc = .ok (.newarray .int, 2))
    (kk : ∀ (q : Nat) (H1 : Heap), va_P O.1 vwCl (ws ++ [(q, .inl (O.2.1, N, .inl (fun _ => 0)))]) H1 → va_D A (ws ++ [(q, .inl (O.2.1, N, .inl (fun _ => 0)))]) → va_S A H0 H1 locs → W p l e R s m args below meth c H1 locs (cells + 1) (slots + N) Q (F0 m (pc + 2) ls (.ref q :: rest))) : W p l e R s m args below meth c H locs cells slots Q (F0 m pc ls (.int n :: rest)) := by
  refine va_newa (atype := .int) (ty := .int) (a0 := (N, .inl (fun _ => 0))) hexec hb harr rfl hK hP hD hS hA (fun cA => rfl) hn hN hby hcells hslots hdg (fun q cA H1 hK1 hP1 hD1 hS1 => ?_)
  have h1 : s.vm.findClass ("[" ++ (FieldType.int).toString) = some cA := (hK1.2 3 _ rfl).2
  have h2 : s.vm.findClass ("[" ++ (FieldType.int).toString) = some O.2.1 := (hK.2 0 _ rfl).2
  have e0 : cA = O.2.1 := Option.some.inj (h1.symm.trans h2)
  rw [e0] at hP1 hD1
  exact kk q H1 hP1 hD1 hS1
theorem k_newZ (hexec : p.tables.exec = Jvm.exec) (hb : c.code = cc) (harr : (Cond.arrayClass .boolean).before args s = true) (hK : va_K O.1 vwCl (tyL O) s) (hP : va_P O.1 vwCl ws H) (hD : va_D A ws) (hS : va_S A H0 H locs) (hA : ∀ q, H0.size ≤ q → A q) {n : Int32} (N : Nat) (hn : ¬ n < 0) (hN : n.toNatClampNeg = N) (hby : N * componentBytes .boolean ≤ 536870912) (hcells : cells + 1 ≤ R.cells) (hslots : slots + N ≤ R.slots) (hdg : decode cc pc = .ok (.newarray .boolean, 2))
    (kk : ∀ (q : Nat) (H1 : Heap), va_P O.1 vwCl (ws ++ [(q, .inl (O.2.2.1, N, .inl (fun _ => 0)))]) H1 → va_D A (ws ++ [(q, .inl (O.2.2.1, N, .inl (fun _ => 0)))]) → va_S A H0 H1 locs → W p l e R s m args below meth c H1 locs (cells + 1) (slots + N) Q (F0 m (pc + 2) ls (.ref q :: rest))) : W p l e R s m args below meth c H locs cells slots Q (F0 m pc ls (.int n :: rest)) := by
  refine va_newa (atype := .boolean) (ty := .boolean) (a0 := (N, .inl (fun _ => 0))) hexec hb harr rfl hK hP hD hS hA (fun cA => rfl) hn hN hby hcells hslots hdg (fun q cA H1 hK1 hP1 hD1 hS1 => ?_)
  have h1 : s.vm.findClass ("[" ++ (FieldType.boolean).toString) = some cA := (hK1.2 3 _ rfl).2
  have h2 : s.vm.findClass ("[" ++ (FieldType.boolean).toString) = some O.2.2.1 := (hK.2 1 _ rfl).2
  have e0 : cA = O.2.2.1 := Option.some.inj (h1.symm.trans h2)
  rw [e0] at hP1 hD1
  exact kk q H1 hP1 hD1 hS1
theorem k_newG (hexec : p.tables.exec = Jvm.exec) (hb : c.code = cc) {own : String} {index : Nat} (hown : s.vm.findClass own = some m.cls) (hcl : (Cond.classLink own index "FaceLetters$Ground").before args s = true) (hao : va_AO "FaceLetters$Ground" s) (hK : va_K O.1 vwCl (tyL O) s) (hP : va_P O.1 vwCl ws H) (hD : va_D A ws) (hS : va_S A H0 H locs) (hA : ∀ q, H0.size ≤ q → A q) {n : Int32} (N : Nat) (hn : ¬ n < 0) (hN : n.toNatClampNeg = N) (hby : N * 4 ≤ 536870912) (hcells : cells + 1 ≤ R.cells) (hslots : slots + N ≤ R.slots) (hdg : decode cc pc = .ok (.anewarray index, 3))
    (kk : ∀ (q : Nat) (H1 : Heap), va_P O.1 vwCl (ws ++ [(q, .inl (O.2.2.2.1, N, .inr (.inr (.inr (.inr (fun _ => none))))))]) H1 → va_D A (ws ++ [(q, .inl (O.2.2.2.1, N, .inr (.inr (.inr (.inr (fun _ => none))))))]) → va_S A H0 H1 locs → W p l e R s m args below meth c H1 locs (cells + 1) (slots + N) Q (F0 m (pc + 3) ls (.ref q :: rest))) : W p l e R s m args below meth c H locs cells slots Q (F0 m pc ls (.int n :: rest)) := by
  refine va_newq hexec hb hown hcl hao hK hP hD hS hA hn hN hby hcells hslots hdg (fun q cA H1 hK1 hP1 hD1 hS1 => ?_)
  obtain ⟨k1, c1, -, -, -, h1⟩ := (hK1.2 3 _ rfl).2
  obtain ⟨k2, c2, -, -, -, h2⟩ := (hK.2 2 _ rfl).2
  have e0 : cA = O.2.2.2.1 := Option.some.inj (h1.symm.trans h2)
  rw [e0] at hP1 hD1
  exact kk q H1 hP1 hD1 hS1
end NW
-- the contract of a constructor: cells c .. c + k - 1 come, c's own address is given
def ctP (O : OmT) (av : List Value) (a0 sz : Nat) (x0 : va_E) : Array Value → State → Prop := va_Pc av (fun U => U.heap.size = sz ∧ va_P O.1 vwCl [(a0, x0)] U.heap ∧ va_K O.1 vwCl (tyL O) U ∧ nw U ∧ va_AO "FaceLetters$Ground" U)
def ctB (O : OmT) (c k a0 sz : Nat) (x0 : va_E) (be : Nat → Nat) (t : State) : Prop := va_P O.1 vwCl (wr be (eA O be) c k) t.heap ∧ va_D (va_A [(a0, x0)] sz) (wr be (eA O be) c k)
def CT (O : OmT) (l : Launch) (y : MethodName) (ws : List Cond) (rm : Room) (c k : Nat) (av : List Value) (a0 sz : Nat) (x0 : va_E) (ex : (Nat → Nat) → Prop) (mc mz : Nat) : Prop :=
  Met l y ws rm (ctP O av a0 sz x0) (va_Qv (fun be : Nat → Nat => be c = a0 ∧ ex be) (ctB O c k a0 sz x0) (va_A [(a0, x0)] sz)) mc mz (va_A [(a0, x0)] sz)
theorem ctP_blind (O : OmT) (av : List Value) (a0 sz : Nat) (x0 : va_E) : FrameBlind (ctP O av a0 sz x0) := fun a U g mk q => by
  obtain ⟨q0, qs, qP, qK, qn, qa⟩ := q
  exact ⟨q0, qs, qP, va_K.moved (u := U) (U := U.calling g mk a) (Vm.Alike.refl U.vm) qK, nw_same (u := U) (U := U.calling g mk a) rfl qn, va_AO.moved (u := U) (U := U.calling g mk a) (Vm.Alike.refl U.vm) qa⟩
theorem one_D {A : Nat → Prop} {a : Nat} {x : va_E} (h : A a) : va_D A [(a, x)] := by
  refine ⟨fun i j p q hp hq _ => ?_, fun k q hk => ?_⟩
  · have h1 := (List.getElem?_eq_some_iff.mp hp).1
    have h2 := (List.getElem?_eq_some_iff.mp hq).1
    simp at h1 h2
    omega
  · have h1 := (List.getElem?_eq_some_iff.mp hk).1
    simp at h1
    subst h1
    cases hk
    exact h
section CC
variable {p : Program} {l : Launch} {e : Env} {R : Room} {s : State} {m : MethodId} {args : Array Value} {below : List Frame} {meth : Method} {c : Code} {H : Heap} {locs : List Loc} {cells slots : Nat} {Q : State → Prop}
variable {cc : ByteArray} {pc : Nat} {ls : Array Slot} {rest st0 : List Value} {O : OmT} {A : Nat → Prop} {X : va_W} {H0 : Heap}
variable {y : MethodName} {ws : List Cond} {bytes : ByteArray} {maxL nL n index mc mz cn k a0 : Nat} {rm : Room} {Ts : List Cond} {own : String} {As : List Value} {x0 : va_E} {ex : (Nat → Nat) → Prop}
def sgC (y : MethodName) (ws : List Cond) (bytes : ByteArray) (maxL : Nat) (rm : Room) (n mc mz : Nat) : Prop :=
  (∃ ws', ws = Cond.code y bytes maxL none :: ws') ∧ rm.cells = mc ∧ rm.slots = mz ∧ y.name = "<init>" ∧ y.cls ≠ "java/lang/invoke/MethodHandle" ∧ y.cls ≠ "java/lang/invoke/VarHandle" ∧ (parseMethodDescriptor y.desc).map (fun d => d.parameters.length) = some n
theorem ct_back (hr : va_Run p l e R s m args below meth c H locs cells slots mc mz (F0 m pc ls st0) rest (va_Qv (fun be : Nat → Nat => be cn = a0 ∧ ex be) (ctB O cn k a0 H.size x0) (va_A [(a0, x0)] H.size) (Value.ref a0 :: As).toArray) (va_A [(a0, x0)] H.size)) (hP : va_P O.1 vwCl (X ++ [(a0, x0)]) H) (hD : va_D A (X ++ [(a0, x0)])) (hS : va_S A H0 H locs) (hA : ∀ q, H0.size ≤ q → A q)
    (kk : ∀ (be : Nat → Nat) (H1 : Heap) (locs1 : List Loc), be cn = a0 → ex be → va_P O.1 vwCl (X ++ wr be (eA O be) cn k) H1 → va_D A (X ++ wr be (eA O be) cn k) → va_S A H0 H1 locs1 → W p l e R s m args below meth c H1 locs1 (cells + mc) (slots + mz) Q (F0 m (pc + 3) ls rest)) : W p l e R s m args below meth c H locs cells slots Q (F0 m pc ls st0) := by
  have hF : ∀ q, va_A [(a0, x0)] H.size q → A q := by
    intro q h
    rcases h with ⟨k2, e2, h⟩ | h
    · have h1 := (List.getElem?_eq_some_iff.mp h).1
      simp at h1
      subst h1
      have h2 : (a0, x0) = (q, e2) := by simpa using h
      have := hD.2 X.length (a0, x0) (by rw [List.getElem?_append_right (Nat.le_refl _), Nat.sub_self]; rfl)
      rw [h2] at this
      exact this
    · exact hA q (Nat.le_trans hS.1 h)
  refine va_callv hr hS (fun q _ h => hF q h) hF (fun be t H1 locs1 ht hvm hw hB hz hk hS1 => ?_)
  obtain ⟨hP1, hD1⟩ := hB
  rw [ht] at hP1
  obtain ⟨g1, g2⟩ := join_last hP hD hk hF hP1 hD1
  exact kk be H1 locs1 hw.1 hw.2 g1 g2 hS1
theorem ct_pre (hP : va_P O.1 vwCl (X ++ [(a0, x0)]) H) (hK : va_K O.1 vwCl (tyL O) s) (hn : nw s) (hao : va_AO "FaceLetters$Ground" s) (U : State) (hU : U.heap = H) (hW : s.WarmedH U.vm) : ctP O (Value.ref a0 :: As) a0 H.size x0 (Value.ref a0 :: As).toArray U :=
  ⟨rfl, by rw [hU], by
    rw [hU]
    intro k q hk
    have h1 := (List.getElem?_eq_some_iff.mp hk).1
    simp at h1
    subst h1
    cases hk
    exact hP X.length _ (by rw [List.getElem?_append_right (Nat.le_refl _), Nat.sub_self]; rfl), va_K.moved hW.alike hK, nw_warm hW hn, va_AO.moved hW.alike hao⟩
theorem ct_runN (S : CallFix p m c cc nL s args Ts own) (hK : va_K O.1 vwCl (tyL O) s) (hn0 : nw s) (hao : va_AO "FaceLetters$Ground" s) (hM : CT O l y ws rm cn k (Value.ref a0 :: As) a0 H.size x0 ex mc mz) (hg : GoodIn Ts ws) (hs0 : sgC y ws bytes maxL rm n mc mz) (hl0 : (own, index, y) ∈ nwM) (hi0 : Cond.initialized y.cls ∈ Ts) (hi1 : Cond.instanceMethod y ∈ Ts) (hR : rm.frames + 1 ≤ R.frames ∧ 8 + (maxL + 11) + rm.locals ≤ R.locals) (hn : As.length = n) (hsz : ls.size = nL) (hk : st0 = As.reverse ++ Value.ref a0 :: rest) (h4 : (rest.map fun v => v.category).sum ≤ 8) (hd : decode cc pc = .ok (.invokespecial index, 3)) (hf : cells + mc ≤ R.cells ∧ slots + mz ≤ R.slots) (hP : va_P O.1 vwCl (X ++ [(a0, x0)]) H) (hD : va_D A (X ++ [(a0, x0)])) (hS : va_S A H0 H locs) (hA : ∀ q, H0.size ≤ q → A q)
    (kk : ∀ (be : Nat → Nat) (H1 : Heap) (locs1 : List Loc), be cn = a0 → ex be → va_P O.1 vwCl (X ++ wr be (eA O be) cn k) H1 → va_D A (X ++ wr be (eA O be) cn k) → va_S A H0 H1 locs1 → W p l e R s m args below meth c H1 locs1 (cells + mc) (slots + mz) Q (F0 m (pc + 3) ls rest)) : W p l e R s m args below meth c H locs cells slots Q (F0 m pc ls st0) := by
  obtain ⟨⟨ws', hw⟩, h1, h2, h3, h5, h6, h7⟩ := hs0
  exact ct_back (va_runIN (As := As) (rest := rest) S hM ⟨va_cnB n S.2.2.2.2 hg hw h1 h2 (hn0.2 _ hl0) (S.2.2.2.2 _ hi0) ⟨h5, h6, h7⟩ hR, h3, S.2.2.2.2 _ hi1⟩ ⟨ctP_blind _ _ _ _ _, fun U hU hW => ct_pre hP hK hn0 hao U hU hW⟩ rfl hn hsz hk (lv_room h4) hd hf) hP hD hS hA kk
theorem ct_run (S : CallFix p m c cc nL s args Ts own) (hK : va_K O.1 vwCl (tyL O) s) (hn0 : nw s) (hao : va_AO "FaceLetters$Ground" s) (hM : CT O l y ws rm cn k (Value.ref a0 :: As) a0 H.size x0 ex mc mz) (hg : GoodIn Ts ws) (hs0 : sgC y ws bytes maxL rm n mc mz) (hl0 : Cond.methodLink own index y ∈ Ts) (hi0 : Cond.initialized y.cls ∈ Ts) (hi1 : Cond.instanceMethod y ∈ Ts) (hR : rm.frames + 1 ≤ R.frames ∧ 8 + (maxL + 11) + rm.locals ≤ R.locals) (hn : As.length = n) (hsz : ls.size = nL) (hk : st0 = As.reverse ++ Value.ref a0 :: rest) (h4 : (rest.map fun v => v.category).sum ≤ 8) (hd : decode cc pc = .ok (.invokespecial index, 3)) (hf : cells + mc ≤ R.cells ∧ slots + mz ≤ R.slots) (hP : va_P O.1 vwCl (X ++ [(a0, x0)]) H) (hD : va_D A (X ++ [(a0, x0)])) (hS : va_S A H0 H locs) (hA : ∀ q, H0.size ≤ q → A q)
    (kk : ∀ (be : Nat → Nat) (H1 : Heap) (locs1 : List Loc), be cn = a0 → ex be → va_P O.1 vwCl (X ++ wr be (eA O be) cn k) H1 → va_D A (X ++ wr be (eA O be) cn k) → va_S A H0 H1 locs1 → W p l e R s m args below meth c H1 locs1 (cells + mc) (slots + mz) Q (F0 m (pc + 3) ls rest)) : W p l e R s m args below meth c H locs cells slots Q (F0 m pc ls st0) := by
  obtain ⟨⟨ws', hw⟩, h1, h2, h3, h5, h6, h7⟩ := hs0
  exact ct_back (va_runI (As := As) (rest := rest) S hM (cwI n S.2.2.2.2 hg hw h1 h2 (S.2.2.2.2 _ hi0) (S.2.2.2.2 _ hl0) (S.2.2.2.2 _ hi1) h3 ⟨h5, h6, h7⟩ hR) ⟨ctP_blind _ _ _ _ _, fun U hU hW => ct_pre hP hK hn0 hao U hU hW⟩ rfl hn hsz hk (lv_room h4) hd hf) hP hD hS hA kk
end CC
