theorem CR_sd {V : Mem} {s : St} {x : Int} (h : CR V s) : CR (ms V 1 6 x) (sds s x) ∧ hiF V (ms V 1 6 x) := by
  have := CG_sd (x := x) h.2
  exact ⟨⟨⟨this.1.1, fun u hu => by rw [ms_ne _ (by decide)]; exact h.1.2.1 u hu, fun u hu => by rw [ms_ne _ (by decide)]; exact h.1.2.2 u hu⟩, this.1⟩, this.2⟩
theorem CR_wr {V : Mem} {s : St} {a b v : Int} (h : CR V s) : CR (ms (ms (ms (ms V 12 s.2.2.1.1 a) 13 s.2.2.1.1 b) 14 s.2.2.1.1 v) 11 3 ((s.2.2.1.1 : Int) + 1)) (s.1, s.2.1, (s.2.2.1.1 + 1, updg s.2.2.1.2.1 s.2.2.1.1 a, updg s.2.2.1.2.2.1 s.2.2.1.1 b, updg s.2.2.1.2.2.2 s.2.2.1.1 v), s.2.2.2) ∧ hiF V (ms (ms (ms (ms V 12 s.2.2.1.1 a) 13 s.2.2.1.1 b) 14 s.2.2.1.1 v) 11 3 ((s.2.2.1.1 : Int) + 1)) := by
  obtain ⟨h0, h1, h2, h3, h4, h5, h6⟩ := h
  have fr : ∀ c, c < 11 ∨ 15 ≤ c → (ms (ms (ms (ms V 12 s.2.2.1.1 a) 13 s.2.2.1.1 b) 14 s.2.2.1.1 v) 11 3 ((s.2.2.1.1 : Int) + 1)) c = V c := fun c hc => by
    rw [ms_ne _ (by omega), ms_ne _ (by omega), ms_ne _ (by omega), ms_ne _ (by omega)]
  refine ⟨⟨net_eq h0 (fr 1 (by decide)) (fr 2 (by decide)) (fr 3 (by decide)) (fr 5 (by decide)) (fr 6 (by decide)), cls_eq h1 (fr 1 (by decide)) (fr 2 (by decide)) (fr 3 (by decide)), h2, h3, ⟨rfl, fun i hi => ?_, fun i hi => ?_, fun i hi => ?_⟩, cPast_eq h5 (fun c _ _ => fr c (by omega)), cImg_eq h6 (fr 0 (by decide)) (fun c _ _ => fr c (by omega))⟩, fun c hc => fr c (by omega)⟩
  all_goals
    have hi' : i < s.2.2.1.1 + 1 := hi
    unfold updg
    dsimp only
  · rw [ms_ne _ (by decide), ms_ne _ (by decide), ms_ne _ (by decide), ms_at, if_pos rfl]
    by_cases q : i = s.2.2.1.1
    · rw [if_pos q, if_pos q]
    · rw [if_neg q, if_neg q]; exact h4.2.1 i (by omega)
  · rw [ms_ne _ (by decide), ms_ne _ (by decide), ms_at, if_pos rfl, ms_ne _ (by decide)]
    by_cases q : i = s.2.2.1.1
    · rw [if_pos q, if_pos q]
    · rw [if_neg q, if_neg q]; exact h4.2.2.1 i (by omega)
  · rw [ms_ne _ (by decide), ms_at, if_pos rfl, ms_ne _ (by decide), ms_ne _ (by decide)]
    by_cases q : i = s.2.2.1.1
    · rw [if_pos q, if_pos q]
    · rw [if_neg q, if_neg q]; exact h4.2.2.2 i (by omega)
theorem CR_te {V : Mem} {s : St} (h : CR V s) : CR (ms V 11 3 0) (dTear s).2 ∧ hiF V (ms V 11 3 0) := by
  obtain ⟨h0, h1, h2, h3, h4, h5, h6⟩ := h
  have fr : ∀ c, c ≠ 11 → (ms V 11 3 0) c = V c := fun c hc => ms_ne _ hc
  exact ⟨⟨net_eq h0 (fr 1 (by decide)) (fr 2 (by decide)) (fr 3 (by decide)) (fr 5 (by decide)) (fr 6 (by decide)), cls_eq h1 (fr 1 (by decide)) (fr 2 (by decide)) (fr 3 (by decide)), h2, h3, ⟨rfl, fun i hi => absurd hi (Nat.not_lt_zero _), fun i hi => absurd hi (Nat.not_lt_zero _), fun i hi => absurd hi (Nat.not_lt_zero _)⟩, cPast_eq h5 (fun c _ _ => fr c (by omega)), cImg_eq h6 (fr 0 (by decide)) (fun c _ _ => fr c (by omega))⟩, fun c hc => fr c (by omega)⟩
def kpS (s : St) (i : Nat) : St := (s.1, s.2.1, s.2.2.1, (0, s.2.2.2.1.2), (fun j => if j = i then true else s.2.2.2.2.1 j), (fun j => if j = i then s.1 else s.2.2.2.2.2.1 j), fun j => if j = i then s.2.1 else s.2.2.2.2.2.2 j)
def gbS (s : St) (i : Nat) : St := (s.2.2.2.2.2.1 i, s.2.2.2.2.2.2 i, s.2.2.1, (0, s.2.2.2.1.2), s.2.2.2.2)
theorem CR_kp {V W : Mem} {s : St} {i b : Nat} (h : CR V s) (hi : i < 2) (hb : b < 4) (hbb : ∀ j, j < 2 → b.testBit j = s.2.2.2.2.1 j) (f0 : W 0 6 = ((b ||| 2 ^ i : Nat) : Int)) (f15 : W 15 2 = 0) (f15' : W 15 1 = V 15 1) (fg : gnd W (66 + 3 * i) s.1) (f6 : W (66 + 3 * i) 6 = s.2.1) (fr : ∀ c, c ≠ 0 → c ≠ 15 → c ≠ 66 + 3 * i → c ≠ 66 + 3 * i + 1 → c ≠ 66 + 3 * i + 2 → W c = V c) : CR W (kpS s i) ∧ hiF V W := by
  obtain ⟨h0, h1, h2, h3, h4, h5, h6⟩ := h
  have fo : ∀ c, c ≠ 0 → c ≠ 15 → c < 66 ∨ 72 ≤ c → W c = V c := fun c a1 a2 a3 => fr c a1 a2 (by omega) (by omega) (by omega)
  obtain ⟨h50, la, h51, h52, h53⟩ := h5
  refine ⟨⟨net_eq h0 (fo 1 (by decide) (by decide) (by decide)) (fo 2 (by decide) (by decide) (by decide)) (fo 3 (by decide) (by decide) (by decide)) (fo 5 (by decide) (by decide) (by decide)) (fo 6 (by decide) (by decide) (by decide)), cls_eq h1 (fo 1 (by decide) (by decide) (by decide)) (fo 2 (by decide) (by decide) (by decide)) (fo 3 (by decide) (by decide) (by decide)), by rw [fo 1 (by decide) (by decide) (by decide)]; exact h2, by unfold sn7; rw [fo 7 (by decide) (by decide) (by decide)]; exact h3, cBook_eq h4 (fun c _ _ => fo c (by omega) (by omega) (by omega)), ⟨f15, la, h51, f15'.trans h52, fun j hj => absurd hj (Nat.not_lt_zero _)⟩, ⟨b ||| 2 ^ i, Nat.or_lt_two_pow (n := 2) hb (Nat.pow_lt_pow_right (by decide) hi), f0, fun j hj => ?_⟩, fun j hj q => ?_⟩, fun c hc => fo c (by omega) (by omega) (by omega)⟩
  · show _ = if j = i then true else s.2.2.2.2.1 j
    rw [Nat.testBit_or, hbb j hj, Nat.testBit_two_pow]
    by_cases z : j = i
    · rw [if_pos z, z]; simp
    · rw [if_neg z, decide_eq_false (by omega), Bool.or_false]
  · have q' : (if j = i then true else s.2.2.2.2.1 j) = true := q
    show gnd W (66 + 3 * j) (if j = i then s.1 else s.2.2.2.2.2.1 j) ∧ W (66 + 3 * j) 6 = (if j = i then s.2.1 else s.2.2.2.2.2.2 j)
    by_cases z : j = i
    · rw [if_pos z, if_pos z, z]; exact ⟨fg, f6⟩
    · rw [if_neg z] at q'
      rw [if_neg z, if_neg z]
      obtain ⟨a, b⟩ := h6.2 j hj q'
      exact ⟨gnd_eq a (fun d d1 d2 => fr d (by omega) (by omega) (by omega) (by omega) (by omega)), by rw [fr _ (by omega) (by omega) (by omega) (by omega) (by omega)]; exact b⟩
theorem CG_gb {V W : Mem} {s : St} {i : Nat} (h : CG V s) (f15 : W 15 2 = 0) (f15' : W 15 1 = V 15 1) (fg : gnd W 1 (s.2.2.2.2.2.1 i)) (f6 : W 1 6 = s.2.2.2.2.2.2 i) (fr : ∀ c, c ≠ 15 → c ≠ 1 → c ≠ 2 → c ≠ 3 → W c = V c) : CG W (gbS s i) ∧ hiF V W := by
  obtain ⟨h1, h2, h3, h4, h5, h6⟩ := h
  obtain ⟨h50, la, h51, h52, h53⟩ := h5
  exact ⟨⟨fg, f6, by unfold sn7; rw [fr 7 (by decide) (by decide) (by decide) (by decide)]; exact h3, cBook_eq h4 (fun c _ _ => fr c (by omega) (by omega) (by omega) (by omega)), ⟨f15, la, h51, f15'.trans h52, fun j hj => absurd hj (Nat.not_lt_zero _)⟩, cImg_eq h6 (fr 0 (by decide) (by decide) (by decide) (by decide)) (fun c _ _ => fr c (by omega) (by omega) (by omega) (by omega))⟩, fun c hc => fr c (by omega) (by omega) (by omega) (by omega)⟩
theorem ms_same (V : Mem) (c k : Nat) (x y : Int) : ms (ms V c k x) c k y = ms V c k y := by
  funext a b
  rw [ms_at, ms_at, ms_at]
  by_cases q : a = c
  · rw [if_pos q, if_pos q, if_pos q]
    by_cases z : b = k
    · rw [if_pos z, if_pos z]
    · rw [if_neg z, if_neg z, if_neg z]
  · rw [if_neg q, if_neg q, if_neg q]
theorem hiF_rf (V : Mem) : hiF V V := fun _ _ => rfl
theorem loF_rf (V : Mem) : loF V V := fun _ _ => rfl
/-- fields beyond the net's of a ground, and other cells, written -/
theorem gnd_kp {V : Mem} {c : Nat} {g : Nat → Int} {x y z : Int} (h0 : c ≠ 0 ∧ c + 1 ≠ 0 ∧ c + 2 ≠ 0) (h15 : c ≠ 15 ∧ c + 1 ≠ 15 ∧ c + 2 ≠ 15) (_h : c < 82) (h : gnd V c g) : gnd (ms (ms (ms V c 6 x) 0 6 y) 15 2 z) c g := by
  obtain ⟨a1, a2, a3, a4, a5, a6⟩ := h
  have e : ∀ k, k ≠ 6 → (ms (ms (ms V c 6 x) 0 6 y) 15 2 z) c k = V c k := fun k hk => by
    rw [ms_ne _ h15.1, ms_ne _ h0.1, ms_at, if_pos rfl, if_neg hk]
  refine ⟨(e 2 (by decide)).trans a1, (e 3 (by decide)).trans a2, (e 4 (by decide)).trans a3, (e 5 (by decide)).trans a4, fun i hi => ?_, fun i hi => ?_⟩
  · rw [ms_ne _ h15.2.1, ms_ne _ h0.2.1, ms_ne _ (by omega)]; exact a5 i hi
  · rw [ms_ne _ h15.2.2, ms_ne _ h0.2.2, ms_ne _ (by omega)]; exact a6 i hi
theorem gnd_gb {V : Mem} {g : Nat → Int} {x z : Int} (h : gnd V 1 g) : gnd (ms (ms V 1 6 x) 15 2 z) 1 g := by
  obtain ⟨a1, a2, a3, a4, a5, a6⟩ := h
  refine ⟨a1, a2, a3, a4, fun i hi => ?_, fun i hi => ?_⟩
  · rw [ms_ne _ (by decide), ms_ne _ (by decide)]; exact a5 i hi
  · rw [ms_ne _ (by decide), ms_ne _ (by decide)]; exact a6 i hi
