theorem MR_g {V W : Mem} {s : St} {g : Nat → Int} (h : MR V s) (hm : mdl W g) (fr : ∀ c, c ≠ 73 → W c = V c) : MR W (stg s g) ∧ loF V W := by
  obtain ⟨h1, h2, h3, h4, h5⟩ := h
  refine ⟨⟨hm, by rw [fr 72 (by decide)]; exact h2, ?_, ?_, ?_⟩, fun c hc => fr c (by omega)⟩
  · unfold mBook; rw [fr 72 (by decide), fr 77 (by decide), fr 78 (by decide), fr 79 (by decide)]; exact h3
  · unfold mPast; rw [fr 72 (by decide), fr 74 (by decide)]; exact h4
  · unfold mImg; rw [fr 75 (by decide), fr 76 (by decide)]; exact h5
theorem MR_add {V : Mem} {s : St} {x y : Int} (h : MR V s) (ok : okg s.1) (h0 : gN s.1 < 10) : MR (ms (ms (ms (ms V 73 (4 + gN s.1) x) 73 (14 + gN s.1) y) 73 3 (((s.1 3).toNat ||| 2 ^ gN s.1 : Nat) : Int)) 73 0 ((gN s.1 : Int) + 1)) (stg s (gAdd s.1 x y)) ∧ loF V (ms (ms (ms (ms V 73 (4 + gN s.1) x) 73 (14 + gN s.1) y) 73 3 (((s.1 3).toNat ||| 2 ^ gN s.1 : Nat) : Int)) 73 0 ((gN s.1 : Int) + 1)) := by
  have n1 := ok.n
  refine MR_g h (fun k hk => ?_) (fun c hc => by rw [ms_ne _ hc, ms_ne _ hc, ms_ne _ hc, ms_ne _ hc])
  have hm := h.1 k hk
  rw [ms_at, if_pos rfl, ms_at, if_pos rfl, ms_at, if_pos rfl, ms_at, if_pos rfl]
  unfold gAdd
  by_cases q0 : k = 0
  · rw [if_pos q0, if_pos q0]; omega
  · rw [if_neg q0, if_neg q0]
    by_cases q3 : k = 3
    · rw [if_pos q3, if_pos q3]
    · rw [if_neg q3, if_neg q3]
      by_cases q4 : k = 4 + gN s.1
      · rw [if_neg (show ¬ k = 14 + gN s.1 by omega), if_pos q4, if_pos q4]
      · rw [if_neg (show ¬ k = 4 + gN s.1 from q4), if_neg (show ¬ k = 4 + gN s.1 from q4)]
        split
        · rfl
        · exact hm
theorem MR_mv {V : Mem} {s : St} {v : Nat} {x y : Int} (h : MR V s) (hv : v < 10) : MR (ms (ms V 73 (4 + v) x) 73 (14 + v) y) (stg s (gMv s.1 v x y)) ∧ loF V (ms (ms V 73 (4 + v) x) 73 (14 + v) y) := by
  refine MR_g h (fun k hk => ?_) (fun c hc => by rw [ms_ne _ hc, ms_ne _ hc])
  have hm := h.1 k hk
  rw [ms_at, if_pos rfl, ms_at, if_pos rfl]
  unfold gMv
  by_cases q4 : k = 4 + v
  · rw [if_neg (show ¬ k = 14 + v by omega), if_pos q4, if_pos q4]
  · rw [if_neg (show ¬ k = 4 + v from q4), if_neg (show ¬ k = 4 + v from q4)]
    split
    · rfl
    · exact hm
theorem MR_aw {V : Mem} {s : St} {v : Nat} {b : Bool} (h : MR V s) : MR (ms V 73 3 (((if b then (s.1 3).toNat ||| 2 ^ v else clr (s.1 3).toNat v) : Nat) : Int)) (stg s (gAw s.1 v b)) ∧ loF V (ms V 73 3 (((if b then (s.1 3).toNat ||| 2 ^ v else clr (s.1 3).toNat v) : Nat) : Int)) := by
  refine MR_g h (fun k hk => ?_) (fun c hc => by rw [ms_ne _ hc])
  have hm := h.1 k hk
  rw [ms_at, if_pos rfl]
  unfold gAw
  split
  · rfl
  · exact hm
theorem MR_set {V : Mem} {s : St} {j : Nat} {x : Int} (h : MR V s) : MR (ms V 73 j x) (stg s (updg s.1 j x)) ∧ loF V (ms V 73 j x) := by
  refine MR_g h (fun k hk => ?_) (fun c hc => by rw [ms_ne _ hc])
  have hm := h.1 k hk
  rw [ms_at, if_pos rfl]
  unfold updg
  split
  · rfl
  · exact hm
theorem MR_sd {V : Mem} {s : St} {x : Int} (h : MR V s) : MR (ms V 72 6 x) (sds s x) ∧ loF V (ms V 72 6 x) := by
  obtain ⟨h1, h2, h3, h4, h5⟩ := h
  exact ⟨⟨h1, rfl, h3, h4, h5⟩, fun c hc => ms_ne _ (by omega)⟩
theorem MR_rem {V W : Mem} {s : St} (h : MR V s) (hdp : s.2.2.2.1.1 ≤ 16) {ua : Nat} (hua : ua < 16) (hp : ∀ j, j < s.2.2.2.1.1 → ∀ k, k < 24 → V 74 (24 * ((ua + 15 - j) % 16) + k) = s.2.2.2.1.2 j k) (f2 : W 72 2 = (((if s.2.2.2.1.1 < 16 then s.2.2.2.1.1 + 1 else 16) : Nat) : Int)) (f3 : W 72 3 = (((ua + 1) % 16 : Nat) : Int)) (f6 : W 72 6 = V 72 6) (f7 : W 72 7 = V 72 7) (f74 : W 74 = (cpm V 74 (24 * ua) (fun i => V 73 i) 24) 74) (fr : ∀ c, c ≠ 72 → c ≠ 74 → W c = V c) : MR W (rem s) ∧ loF V W := by
  obtain ⟨h1, h2, h3, h4, h5⟩ := h
  have hl : (ua + 1) % 16 < 16 := Nat.mod_lt _ (by decide)
  refine ⟨⟨mdl_eq h1 (fr 73 (by decide) (by decide)), f6.trans h2, ?_, ⟨f2, (ua + 1) % 16, hl, f3, fun j hj k hk => ?_⟩, ?_⟩, fun c hc => fr c (by omega) (by omega)⟩
  · show mBook W s.2.2.1
    unfold mBook; rw [f7, fr 77 (by decide) (by decide), fr 78 (by decide) (by decide), fr 79 (by decide) (by decide)]; exact h3
  · have hj' : j < (if s.2.2.2.1.1 < 16 then s.2.2.2.1.1 + 1 else 16) := hj
    have hj2 : j < 16 ∧ j ≤ s.2.2.2.1.1 := by split at hj' <;> omega
    show W 74 _ = (if j = 0 then s.1 else s.2.2.2.1.2 (j - 1)) k
    rw [f74]
    by_cases q : j = 0
    · rw [if_pos q, q, show ((ua + 1) % 16 + 15 - 0) % 16 = ua by omega, cpm_in (by omega) (by omega), show 24 * ua + k - 24 * ua = k by omega]
      exact h1 k hk
    · rw [if_neg q, show ((ua + 1) % 16 + 15 - j) % 16 = (ua + 15 - (j - 1)) % 16 by omega, cpm_out (by omega)]
      exact hp (j - 1) (by omega) k hk
  · show mImg W s.2.2.2.2
    unfold mImg; rw [fr 75 (by decide) (by decide), fr 76 (by decide) (by decide)]; exact h5
theorem MR_un {V W : Mem} {s : St} {n : Nat} (h : MR V s) {ua : Nat} (hua : ua < 16) (hp : ∀ j, j < s.2.2.2.1.1 → ∀ k, k < 24 → V 74 (24 * ((ua + 15 - j) % 16) + k) = s.2.2.2.1.2 j k) (h1n : 1 ≤ n) (hn : n ≤ s.2.2.2.1.1) (h16 : s.2.2.2.1.1 ≤ 16) (f2 : W 72 2 = ((s.2.2.2.1.1 - n : Nat) : Int)) (f3 : W 72 3 = (((ua + 16 - n) % 16 : Nat) : Int)) (f6 : W 72 6 = V 72 6) (f7 : W 72 7 = V 72 7) (f73 : ∀ k, k < 24 → W 73 k = V 74 (24 * ((ua + 16 - n) % 16) + k)) (fr : ∀ c, c ≠ 72 → c ≠ 73 → W c = V c) : MR W (unS s n) ∧ loF V W := by
  obtain ⟨h1, h2, h3, h4, h5⟩ := h
  refine ⟨⟨fun k hk => ?_, f6.trans h2, ?_, ⟨f2, (ua + 16 - n) % 16, Nat.mod_lt _ (by decide), f3, fun j hj k hk => ?_⟩, ?_⟩, fun c hc => fr c (by omega) (by omega)⟩
  · show W 73 k = s.2.2.2.1.2 (n - 1) k
    rw [f73 k hk, show (ua + 16 - n) % 16 = (ua + 15 - (n - 1)) % 16 by omega]
    exact hp (n - 1) (by omega) k hk
  · show mBook W s.2.2.1
    unfold mBook; rw [f7, fr 77 (by decide) (by decide), fr 78 (by decide) (by decide), fr 79 (by decide) (by decide)]; exact h3
  · have hj' : j < s.2.2.2.1.1 - n := hj
    show W 74 (24 * (((ua + 16 - n) % 16 + 15 - j) % 16) + k) = s.2.2.2.1.2 (j + n) k
    rw [fr 74 (by decide) (by decide), show ((ua + 16 - n) % 16 + 15 - j) % 16 = (ua + 15 - (j + n)) % 16 by omega]
    exact hp (j + n) (by omega) k hk
  · show mImg W s.2.2.2.2
    unfold mImg; rw [fr 75 (by decide) (by decide), fr 76 (by decide) (by decide)]; exact h5
theorem MR_wr {V : Mem} {s : St} {a b v : Int} (h : MR V s) : MR (ms (ms (ms (ms V 77 s.2.2.1.1 a) 78 s.2.2.1.1 b) 79 s.2.2.1.1 v) 72 7 ((s.2.2.1.1 : Int) + 1)) (s.1, s.2.1, (s.2.2.1.1 + 1, updg s.2.2.1.2.1 s.2.2.1.1 a, updg s.2.2.1.2.2.1 s.2.2.1.1 b, updg s.2.2.1.2.2.2 s.2.2.1.1 v), s.2.2.2) ∧ loF V (ms (ms (ms (ms V 77 s.2.2.1.1 a) 78 s.2.2.1.1 b) 79 s.2.2.1.1 v) 72 7 ((s.2.2.1.1 : Int) + 1)) := by
  obtain ⟨h1, h2, h3, h4, h5⟩ := h
  refine ⟨⟨h1, h2, ⟨rfl, fun i hi => ?_, fun i hi => ?_, fun i hi => ?_⟩, h4, h5⟩, fun c hc => by rw [ms_ne _ (by omega), ms_ne _ (by omega), ms_ne _ (by omega), ms_ne _ (by omega)]⟩
  all_goals
    have hi' : i < s.2.2.1.1 + 1 := hi
    unfold updg
    dsimp only
  · rw [ms_ne _ (by decide), ms_ne _ (by decide), ms_ne _ (by decide), ms_at, if_pos rfl]
    by_cases q : i = s.2.2.1.1
    · rw [if_pos q, if_pos q]
    · rw [if_neg q, if_neg q]; exact h3.2.1 i (by omega)
  · rw [ms_ne _ (by decide), ms_ne _ (by decide), ms_at, if_pos rfl, ms_ne _ (by decide)]
    by_cases q : i = s.2.2.1.1
    · rw [if_pos q, if_pos q]
    · rw [if_neg q, if_neg q]; exact h3.2.2.1 i (by omega)
  · rw [ms_ne _ (by decide), ms_at, if_pos rfl, ms_ne _ (by decide), ms_ne _ (by decide)]
    by_cases q : i = s.2.2.1.1
    · rw [if_pos q, if_pos q]
    · rw [if_neg q, if_neg q]; exact h3.2.2.2 i (by omega)
theorem MR_te {V : Mem} {s : St} (h : MR V s) : MR (ms V 72 7 0) (dTear s).2 ∧ loF V (ms V 72 7 0) := by
  obtain ⟨h1, h2, h3, h4, h5⟩ := h
  exact ⟨⟨h1, h2, ⟨rfl, fun i hi => absurd hi (Nat.not_lt_zero _), fun i hi => absurd hi (Nat.not_lt_zero _), fun i hi => absurd hi (Nat.not_lt_zero _)⟩, h4, h5⟩, fun c hc => ms_ne _ (by omega)⟩
theorem MR_kp {V W : Mem} {s : St} {i : Nat} (h : MR V s) (hi : i < 2) (f75 : W 75 i = 1) (f75' : ∀ j, j ≠ i → W 75 j = V 75 j) (f76 : ∀ k, k < 24 → W 76 (25 * i + k) = V 73 k) (f76s : W 76 (25 * i + 24) = V 72 6) (f76' : ∀ j, j < 25 * i ∨ 25 * i + 25 ≤ j → W 76 j = V 76 j) (f2 : W 72 2 = 0) (f3 : W 72 3 = V 72 3) (f6 : W 72 6 = V 72 6) (f7 : W 72 7 = V 72 7) (fr : ∀ c, c ≠ 72 → c ≠ 75 → c ≠ 76 → W c = V c) : MR W (kpS s i) ∧ loF V W := by
  obtain ⟨h1, h2, h3, ⟨h40, ua, h41, h42, h43⟩, h5⟩ := h
  refine ⟨⟨mdl_eq h1 (fr 73 (by decide) (by decide) (by decide)), f6.trans h2, ?_, ⟨f2, ua, h41, f3.trans h42, fun j hj => absurd hj (Nat.not_lt_zero _)⟩, fun j hj => ?_⟩, fun c hc => fr c (by omega) (by omega) (by omega)⟩
  · show mBook W s.2.2.1
    unfold mBook; rw [f7, fr 77 (by decide) (by decide) (by decide), fr 78 (by decide) (by decide) (by decide), fr 79 (by decide) (by decide) (by decide)]; exact h3
  · show W 75 j = bI (if j = i then true else s.2.2.2.2.1 j) ∧ ((if j = i then true else s.2.2.2.2.1 j) = true → (∀ k, k < 24 → W 76 (25 * j + k) = (if j = i then s.1 else s.2.2.2.2.2.1 j) k) ∧ W 76 (25 * j + 24) = (if j = i then s.2.1 else s.2.2.2.2.2.2 j))
    by_cases z : j = i
    · subst z
      rw [if_pos rfl, if_pos rfl, if_pos rfl]
      exact ⟨f75, fun _ => ⟨fun k hk => (f76 k hk).trans (h1 k hk), f76s.trans h2⟩⟩
    · rw [if_neg z, if_neg z, if_neg z, f75' j z]
      refine ⟨(h5 j hj).1, fun q => ?_⟩
      obtain ⟨a, b⟩ := (h5 j hj).2 q
      exact ⟨fun k hk => (f76' _ (by omega)).trans (a k hk), (f76' _ (by omega)).trans b⟩
theorem MR_gb {V W : Mem} {s : St} {i : Nat} (h : MR V s) (hi : i < 2) (hk : s.2.2.2.2.1 i = true) (f73 : ∀ k, k < 24 → W 73 k = V 76 (25 * i + k)) (f2 : W 72 2 = 0) (f3 : W 72 3 = V 72 3) (f6 : W 72 6 = V 76 (25 * i + 24)) (f7 : W 72 7 = V 72 7) (fr : ∀ c, c ≠ 72 → c ≠ 73 → W c = V c) : MR W (gbS s i) ∧ loF V W := by
  obtain ⟨h1, h2, h3, ⟨h40, ua, h41, h42, h43⟩, h5⟩ := h
  obtain ⟨a, b⟩ := (h5 i hi).2 hk
  refine ⟨⟨fun k hk => (f73 k hk).trans (a k hk), f6.trans b, ?_, ⟨f2, ua, h41, f3.trans h42, fun j hj => absurd hj (Nat.not_lt_zero _)⟩, ?_⟩, fun c hc => fr c (by omega) (by omega)⟩
  · show mBook W s.2.2.1
    unfold mBook; rw [f7, fr 77 (by decide) (by decide), fr 78 (by decide) (by decide), fr 79 (by decide) (by decide)]; exact h3
  · show mImg W s.2.2.2.2
    unfold mImg; rw [fr 75 (by decide) (by decide), fr 76 (by decide) (by decide)]; exact h5
-- a node taken away
def tkM (W : Mem) (v j : Nat) : Mem := va_up W 73 (fun b => if 4 + v ≤ b ∧ b < 4 + v + j then W 73 (b + 1) else if 14 + v ≤ b ∧ b < 14 + v + j then W 73 (b + 1) else W 73 b)
theorem tkM_0 (W : Mem) (v : Nat) : W = tkM W v 0 := mem_row W 73 (fun b => by rw [if_neg (by omega), if_neg (by omega)])
theorem tkM_ne {W : Mem} {v j c : Nat} (h : c ≠ 73) : tkM W v j c = W c := va_up_ne _ _ h
theorem tkM_at (W : Mem) (v j b : Nat) : tkM W v j 73 b = if 4 + v ≤ b ∧ b < 4 + v + j then W 73 (b + 1) else if 14 + v ≤ b ∧ b < 14 + v + j then W 73 (b + 1) else W 73 b := by unfold tkM; rw [va_up_self]
theorem tkM_s {W : Mem} {v j : Nat} (h : v + j < 9) {x y : Int} (hx : x = W 73 (4 + v + j + 1)) (hy : y = W 73 (14 + v + j + 1)) {a b : Nat} (ha : a = 4 + v + j) (hb : b = 14 + v + j) : ms (ms (tkM W v j) 73 a x) 73 b y = tkM W v (j + 1) := by
  funext c k
  subst hx hy ha hb
  by_cases q : c = 73
  · subst q
    rw [ms_at, if_pos rfl, ms_at, if_pos rfl, tkM_at, tkM_at]
    by_cases q1 : k = 14 + v + j
    · subst q1
      rw [if_pos rfl, if_neg (by omega), if_pos (by omega)]
    · rw [if_neg q1]
      by_cases q2 : k = 4 + v + j
      · subst q2
        rw [if_pos rfl, if_pos (by omega)]
      · rw [if_neg q2]
        by_cases q3 : 4 + v ≤ k ∧ k < 4 + v + j
        · rw [if_pos q3, if_pos (by omega)]
        · rw [if_neg q3, if_neg (show ¬ (4 + v ≤ k ∧ k < 4 + v + (j + 1)) by omega)]
          by_cases q4 : 14 + v ≤ k ∧ k < 14 + v + j
          · rw [if_pos q4, if_pos (by omega)]
          · rw [if_neg q4, if_neg (by omega)]
  · rw [ms_ne _ q, ms_ne _ q, tkM_ne q, tkM_ne q]
def rmf (m v : Nat) : Nat → Nat
  | 0 => m &&& (2 ^ v - 1)
  | j + 1 => rmf m v j ||| (if m.testBit (v + j + 1) then 2 ^ (v + j) else 0)
theorem rmf_s (m v j : Nat) : rmf m v (j + 1) = rmf m v j ||| (if m.testBit (v + j + 1) then 2 ^ (v + j) else 0) := rfl
theorem rmf_lt {m v : Nat} (hm : m < 1024) : ∀ j, v + j ≤ 10 → rmf m v j < 1024
  | 0, _ => Nat.lt_of_le_of_lt Nat.and_le_left hm
  | j + 1, h => by
    rw [rmf_s]
    refine Nat.or_lt_two_pow (n := 10) (rmf_lt hm j (by omega)) ?_
    split
    · exact Nat.pow_lt_pow_right (by decide) (by omega)
    · exact Nat.two_pow_pos _
theorem rmf_bit {m v w : Nat} : ∀ j, (rmf m v j).testBit w = if w < v then m.testBit w else (decide (w < v + j) && m.testBit (w + 1))
  | 0 => by
    show (m &&& (2 ^ v - 1)).testBit w = _
    rw [Nat.testBit_and, Nat.testBit_two_pow_sub_one]
    by_cases q : w < v
    · rw [if_pos q, decide_eq_true q, Bool.and_true]
    · rw [if_neg q, decide_eq_false q, Bool.and_false, decide_eq_false (show ¬ w < v + 0 by omega), Bool.false_and]
  | j + 1 => by
    rw [rmf_s, Nat.testBit_or, rmf_bit j]
    by_cases q : w < v
    · rw [if_pos q, if_pos q]
      have : (if m.testBit (v + j + 1) = true then 2 ^ (v + j) else 0).testBit w = false := by
        split
        · rw [Nat.testBit_two_pow]; simp; omega
        · exact Nat.zero_testBit w
      rw [this, Bool.or_false]
    · rw [if_neg q, if_neg q]
      by_cases r : w = v + j
      · subst r
        rw [decide_eq_false (by omega), decide_eq_true (by omega), Bool.false_and, Bool.false_or, Bool.true_and]
        split
        · next z => rw [Nat.testBit_two_pow, z]; simp
        · next z => rw [Nat.zero_testBit]; simpa using z
      · have : (if m.testBit (v + j + 1) = true then 2 ^ (v + j) else 0).testBit w = false := by
          split
          · rw [Nat.testBit_two_pow]; simp; omega
          · exact Nat.zero_testBit w
        rw [this, Bool.or_false]
        congr 1
        apply decide_eq_decide.mpr
        omega
theorem rmf_rmb {m v n : Nat} (hn : n ≤ 10) (hm : m < 2 ^ n) (hv : v < n) : rmf m v (n - 1 - v) = rmb m v := by
  have hm10 : m < 1024 := Nat.lt_of_lt_of_le hm (Nat.pow_le_pow_right (n := 2) (by decide) hn)
  refine bit_ext (rmf_lt hm10 _ (by omega)) (rmb_lt hm10) (fun w hw => ?_)
  rw [rmf_bit, rmb_bit hw]
  by_cases q : w < v
  · rw [if_pos q, if_pos q]
  · rw [if_neg q, if_neg q]
    by_cases r : w < v + (n - 1 - v)
    · rw [decide_eq_true r, Bool.true_and]
    · rw [decide_eq_false r, Bool.false_and]
      exact (Nat.testBit_lt_two_pow (Nat.lt_of_lt_of_le hm (Nat.pow_le_pow_right (by decide) (by omega)))).symm
theorem MR_tk {V : Mem} {s : St} {v : Nat} (h : MR V s) (ok : okg s.1) (hv : v < gN s.1) : MR (ms (ms (tkM V v (gN s.1 - 1 - v)) 73 3 (rmf (s.1 3).toNat v (gN s.1 - 1 - v) : Int)) 73 0 ((gN s.1 : Int) - 1)) (stg s (gTk s.1 v)) ∧ loF V (ms (ms (tkM V v (gN s.1 - 1 - v)) 73 3 (rmf (s.1 3).toNat v (gN s.1 - 1 - v) : Int)) 73 0 ((gN s.1 : Int) - 1)) := by
  have n1 := ok.n
  have n2 : (s.1 3).toNat < 2 ^ gN s.1 := ok.2.2.2.1.2
  refine MR_g h (fun k hk => ?_) (fun c hc => by rw [ms_ne _ hc, ms_ne _ hc, tkM_ne hc])
  have hm : ∀ k, k < 24 → V 73 k = s.1 k := h.1
  rw [ms_at, if_pos rfl, ms_at, if_pos rfl, tkM_at, rmf_rmb n1.2 n2 hv]
  unfold gTk
  by_cases q0 : k = 0
  · rw [if_pos q0, if_pos q0]; omega
  · rw [if_neg q0, if_neg q0]
    by_cases q3 : k = 3
    · rw [if_pos q3, if_pos q3]
    · rw [if_neg q3, if_neg q3]
      by_cases q4 : 4 + v ≤ k ∧ k < 4 + v + (gN s.1 - 1 - v)
      · rw [if_pos q4, if_pos (by omega)]; exact hm _ (by omega)
      · rw [if_neg q4, if_neg (show ¬ (4 + v ≤ k ∧ k + 1 < 4 + gN s.1) by omega)]
        by_cases q5 : 14 + v ≤ k ∧ k < 14 + v + (gN s.1 - 1 - v)
        · rw [if_pos q5, if_pos (by omega)]; exact hm _ (by omega)
        · rw [if_neg q5, if_neg (by omega)]; exact hm k hk
