-- a ground in the memory; the past, the book, the images
def gnd (V : Mem) (c : Nat) (g : Nat → Int) : Prop := V c 2 = g 0 ∧ V c 3 = g 3 ∧ V c 4 = g 1 ∧ V c 5 = g 2 ∧ (∀ i, i < 10 → V (c + 1) i = g (4 + i)) ∧ ∀ i, i < 10 → V (c + 2) i = g (14 + i)
theorem gnd_eq {V V2 : Mem} {c : Nat} {g : Nat → Int} (h : gnd V c g) (e : ∀ d, c ≤ d → d ≤ c + 2 → V2 d = V d) : gnd V2 c g := by
  unfold gnd
  rw [e c (by omega) (by omega), e (c + 1) (by omega) (by omega), e (c + 2) (by omega) (by omega)]
  exact h
abbrev Bk : Type := Nat × ((Nat → Int) × ((Nat → Int) × (Nat → Int)))
abbrev Pa : Type := Nat × (Nat → Nat → Int)
abbrev Im : Type := (Nat → Bool) × ((Nat → Nat → Int) × (Nat → Int))
abbrev St : Type := (Nat → Int) × (Int × (Bk × (Pa × Im)))
def cBook (V : Mem) (b : Bk) : Prop := V 11 3 = (b.1 : Int) ∧ (∀ i, i < b.1 → V 12 i = b.2.1 i) ∧ (∀ i, i < b.1 → V 13 i = b.2.2.1 i) ∧ ∀ i, i < b.1 → V 14 i = b.2.2.2 i
def mBook (V : Mem) (b : Bk) : Prop := V 72 7 = (b.1 : Int) ∧ (∀ i, i < b.1 → V 77 i = b.2.1 i) ∧ (∀ i, i < b.1 → V 78 i = b.2.2.1 i) ∧ ∀ i, i < b.1 → V 79 i = b.2.2.2 i
def cPast (V : Mem) (p : Pa) : Prop := V 15 2 = (p.1 : Int) ∧ ∃ la : Nat, la < 16 ∧ V 15 1 = (la : Int) ∧ ∀ j, j < p.1 → gnd V (17 + 3 * ((la + 16 - j) % 16)) (p.2 j)
def mPast (V : Mem) (p : Pa) : Prop := V 72 2 = (p.1 : Int) ∧ ∃ ua : Nat, ua < 16 ∧ V 72 3 = (ua : Int) ∧ ∀ j, j < p.1 → ∀ k, k < 24 → V 74 (24 * ((ua + 15 - j) % 16) + k) = p.2 j k
def cImg (V : Mem) (m : Im) : Prop := (∃ b : Nat, b < 4 ∧ V 0 6 = (b : Int) ∧ ∀ j, j < 2 → b.testBit j = m.1 j) ∧ ∀ j, j < 2 → m.1 j = true → gnd V (66 + 3 * j) (m.2.1 j) ∧ V (66 + 3 * j) 6 = m.2.2 j
def mImg (V : Mem) (m : Im) : Prop := ∀ j, j < 2 → V 75 j = bI (m.1 j) ∧ (m.1 j = true → (∀ k, k < 24 → V 76 (25 * j + k) = m.2.1 j k) ∧ V 76 (25 * j + 24) = m.2.2 j)
/-- the class's state, but for what it makes of the net -/
def CG (V : Mem) (s : St) : Prop := cls V s.1 ∧ V 1 6 = s.2.1 ∧ sn7 V ∧ cBook V s.2.2.1 ∧ cPast V s.2.2.2.1 ∧ cImg V s.2.2.2.2
def CR (V : Mem) (s : St) : Prop := net V s.1 ∧ CG V s
def MR (V : Mem) (s : St) : Prop := mdl V s.1 ∧ V 72 6 = s.2.1 ∧ mBook V s.2.2.1 ∧ mPast V s.2.2.2.1 ∧ mImg V s.2.2.2.2
def hiF (V V2 : Mem) : Prop := ∀ c, 72 ≤ c → V2 c = V c
def loF (V V2 : Mem) : Prop := ∀ c, c < 72 → V2 c = V c
theorem hiF_tr {V V2 V3 : Mem} (h : hiF V V2) (k : hiF V2 V3) : hiF V V3 := fun c hc => (k c hc).trans (h c hc)
theorem loF_tr {V V2 V3 : Mem} (h : loF V V2) (k : loF V2 V3) : loF V V3 := fun c hc => (k c hc).trans (h c hc)
def okS (s : St) : Prop := okg s.1 ∧ (0 ≤ s.2.1 ∧ s.2.1 < 2147483648) ∧
  (s.2.2.1.1 ≤ 20 ∧ (∀ i, i < s.2.2.1.1 → 0 ≤ s.2.2.1.2.1 i ∧ s.2.2.1.2.1 i < 10) ∧ (∀ i, i < s.2.2.1.1 → 0 ≤ s.2.2.1.2.2.1 i ∧ s.2.2.1.2.2.1 i < 10) ∧ ∀ i, i < s.2.2.1.1 → -2147483648 ≤ s.2.2.1.2.2.2 i ∧ s.2.2.1.2.2.2 i < 2147483648) ∧
  (s.2.2.2.1.1 ≤ 16 ∧ ∀ j, j < s.2.2.2.1.1 → okg (s.2.2.2.1.2 j)) ∧
  ∀ j, j < 2 → s.2.2.2.2.1 j = true → okg (s.2.2.2.2.2.1 j) ∧ 0 ≤ s.2.2.2.2.2.2 j ∧ s.2.2.2.2.2.2 j < 2147483648
theorem cBook_eq {V V2 : Mem} {b : Bk} (h : cBook V b) (e : ∀ c, 11 ≤ c → c < 15 → V2 c = V c) : cBook V2 b := by
  unfold cBook
  rw [e 11 (by decide) (by decide), e 12 (by decide) (by decide), e 13 (by decide) (by decide), e 14 (by decide) (by decide)]
  exact h
theorem cPast_eq {V V2 : Mem} {p : Pa} (h : cPast V p) (e : ∀ c, 15 ≤ c → c < 65 → V2 c = V c) : cPast V2 p := by
  obtain ⟨h1, la, h2, h3, h4⟩ := h
  refine ⟨by rw [e 15 (by decide) (by decide)]; exact h1, la, h2, by rw [e 15 (by decide) (by decide)]; exact h3, fun j hj => gnd_eq (h4 j hj) (fun d d1 d2 => e d ?_ ?_)⟩
  · omega
  · have : (la + 16 - j) % 16 < 16 := Nat.mod_lt _ (by decide)
    omega
theorem cImg_eq {V V2 : Mem} {m : Im} (h : cImg V m) (e0 : V2 0 = V 0) (e : ∀ c, 66 ≤ c → c < 72 → V2 c = V c) : cImg V2 m := by
  obtain ⟨h1, h2⟩ := h
  refine ⟨by rw [e0]; exact h1, fun j hj q => ?_⟩
  obtain ⟨a, b⟩ := h2 j hj q
  exact ⟨gnd_eq a (fun d d1 d2 => e d (by omega) (by omega)), by rw [e _ (by omega) (by omega)]; exact b⟩
theorem CG_eq {V V2 : Mem} {s : St} (h : CG V s) (e : ∀ c, c < 72 → V2 c = V c) : CG V2 s := by
  obtain ⟨h1, h2, h3, h4, h5, h6⟩ := h
  exact ⟨cls_eq h1 (e 1 (by decide)) (e 2 (by decide)) (e 3 (by decide)), by rw [e 1 (by decide)]; exact h2, by unfold sn7; rw [e 7 (by decide)]; exact h3, cBook_eq h4 (fun c _ _ => e c (by omega)), cPast_eq h5 (fun c _ _ => e c (by omega)), cImg_eq h6 (e 0 (by decide)) (fun c _ _ => e c (by omega))⟩
theorem CR_lo {V V2 : Mem} {s : St} (h : CR V s) (e : loF V V2) : CR V2 s :=
  ⟨net_eq h.1 (e 1 (by decide)) (e 2 (by decide)) (e 3 (by decide)) (e 5 (by decide)) (e 6 (by decide)), CG_eq h.2 e⟩
theorem MR_hi {V V2 : Mem} {s : St} (h : MR V s) (e : hiF V V2) : MR V2 s := by
  obtain ⟨h1, h2, h3, h4, h5⟩ := h
  refine ⟨mdl_eq h1 (e 73 (by decide)), by rw [e 72 (by decide)]; exact h2, ?_, ?_, ?_⟩
  · unfold mBook; rw [e 72 (by decide), e 77 (by decide), e 78 (by decide), e 79 (by decide)]; exact h3
  · unfold mPast; rw [e 72 (by decide), e 74 (by decide)]; exact h4
  · unfold mImg; rw [e 75 (by decide), e 76 (by decide)]; exact h5
/-- calls of the class that tell -/
theorem CR_s {V V2 : Mem} {s : St} (h : CR V s) (e : cFs V V2) : CR V2 s := by
  obtain ⟨h0, h1, h2, h3, h4, h5, h6⟩ := h
  obtain ⟨f, k⟩ := e
  refine ⟨net_eq h0 (f 1 (by decide) (by decide) (by decide) (by decide)) (f 2 (by decide) (by decide) (by decide) (by decide)) (f 3 (by decide) (by decide) (by decide) (by decide)) (f 5 (by decide) (by decide) (by decide) (by decide)) (f 6 (by decide) (by decide) (by decide) (by decide)), ?_, ?_, k, ?_, ?_, ?_⟩
  · exact cls_eq h1 (f 1 (by decide) (by decide) (by decide) (by decide)) (f 2 (by decide) (by decide) (by decide) (by decide)) (f 3 (by decide) (by decide) (by decide) (by decide))
  · rw [f 1 (by decide) (by decide) (by decide) (by decide)]; exact h2
  · exact cBook_eq h4 (fun c _ _ => f c (by omega) (by omega) (by omega) (by omega))
  · exact cPast_eq h5 (fun c _ _ => f c (by omega) (by omega) (by omega) (by omega))
  · exact cImg_eq h6 (f 0 (by decide) (by decide) (by decide) (by decide)) (fun c _ _ => f c (by omega) (by omega) (by omega) (by omega))
theorem cFs_hi {V V2 : Mem} (e : cFs V V2) : hiF V V2 := fun c h => e.1 c (by omega) (by omega) (by omega) (by omega)
theorem MR_m {V V2 : Mem} {s : St} (h : MR V s) (e : mFr V V2) : MR V2 s := by
  obtain ⟨h1, h2, h3, h4, h5⟩ := h
  obtain ⟨f, a2, a3, a6, a7⟩ := e
  refine ⟨mdl_eq h1 (f 73 (by decide) (by decide) (by decide)), a6.trans h2, ?_, ?_, ?_⟩
  · unfold mBook; rw [a7, f 77 (by decide) (by decide) (by decide), f 78 (by decide) (by decide) (by decide), f 79 (by decide) (by decide) (by decide)]; exact h3
  · unfold mPast; rw [a2, a3, f 74 (by decide) (by decide) (by decide)]; exact h4
  · unfold mImg; rw [f 75 (by decide) (by decide) (by decide), f 76 (by decide) (by decide) (by decide)]; exact h5
theorem mFr_lo {V V2 : Mem} (e : mFr V V2) : loF V V2 := fun c h => e.1 c (by omega) (by omega) (by omega)
-- what deeds do
def updg (g : Nat → Int) (k : Nat) (x : Int) : Nat → Int := fun j => if j = k then x else g j
def gAdd (g : Nat → Int) (x y : Int) : Nat → Int := fun k => if k = 0 then g 0 + 1 else if k = 3 then (((g 3).toNat ||| 2 ^ gN g : Nat) : Int) else if k = 4 + gN g then x else if k = 14 + gN g then y else g k
def gMv (g : Nat → Int) (v : Nat) (x y : Int) : Nat → Int := fun k => if k = 4 + v then x else if k = 14 + v then y else g k
def gAw (g : Nat → Int) (v : Nat) (b : Bool) : Nat → Int := fun k => if k = 3 then (((if b then (g 3).toNat ||| 2 ^ v else clr (g 3).toNat v) : Nat) : Int) else g k
def rmb (m v : Nat) : Nat := (m &&& (2 ^ v - 1)) ||| adn (m / 2) (2 ^ v - 1)
def gTk (g : Nat → Int) (v : Nat) : Nat → Int := fun k => if k = 0 then g 0 - 1 else if k = 3 then (rmb (g 3).toNat v : Int) else if 4 + v ≤ k ∧ k + 1 < 4 + gN g then g (k + 1) else if 14 + v ≤ k ∧ k + 1 < 14 + gN g then g (k + 1) else g k
theorem gW_none {g : Nat → Int} {x y : Int} {n : Nat} (h : gW g x y n = -1) (i : Nat) (hi : i < n) : ¬ (g (4 + i) = x ∧ g (14 + i) = y) := by
  intro q
  have h0 : gW g x y i = -1 := by
    refine Classical.byContradiction (fun z => ?_)
    have := gW_stay z (show i ≤ n by omega)
    exact z (this.symm.trans h)
  have := gW_at hi h0 q.1 q.2
  omega
theorem gW_some {g : Nat → Int} {x y : Int} : ∀ {n w : Nat}, gW g x y n = (w : Int) → g (4 + w) = x ∧ g (14 + w) = y
  | 0, w, h => by rw [show gW g x y 0 = -1 from rfl] at h; omega
  | n + 1, w, h => by
    rw [show gW g x y (n + 1) = if gW g x y n ≠ -1 then gW g x y n else if g (4 + n) = x ∧ g (14 + n) = y then (n : Int) else -1 from rfl] at h
    split at h
    · exact gW_some h
    · split at h
      · next q => have : n = w := by omega
                  subst this; exact q
      · omega
theorem gAdd_ok {g : Nat → Int} (ok : okg g) {x y : Int} (h0 : g 0 < 10) (hp : gPl x y = true) (hw : gW g x y (gN g) = -1) : okg (gAdd g x y) := by
  have n1 := ok.n
  have hn : gN (gAdd g x y) = gN g + 1 := by show (g 0 + 1).toNat = _; omega
  simp only [gPl, Bool.and_eq_true, decide_eq_true_eq] at hp
  have co : ∀ i, i < 20 → gAdd g x y (4 + i) = if i = gN g then x else if i = 10 + gN g then y else g (4 + i) := by
    intro i hi
    unfold gAdd
    rw [if_neg (by omega), if_neg (by omega)]
    by_cases q : i = gN g
    · rw [if_pos (by omega), if_pos q]
    · rw [if_neg (by omega), if_neg q]
      by_cases r : i = 10 + gN g
      · rw [if_pos (by omega), if_pos r]
      · rw [if_neg (by omega), if_neg r]
  have lo : ∀ k, k = 1 ∨ k = 2 → gAdd g x y k = g k := fun k hk => by unfold gAdd; rw [if_neg (by omega), if_neg (by omega), if_neg (by omega), if_neg (by omega)]
  refine ⟨?_, by rw [lo 1 (Or.inl rfl)]; exact ok.2.1, by rw [lo 2 (Or.inr rfl)]; exact ok.2.2.1, ⟨?_, ?_⟩, fun i hi => ?_, fun i j hi hj hij => ?_⟩
  · show 0 ≤ g 0 + 1 ∧ g 0 + 1 ≤ 10; omega
  · show 0 ≤ (((g 3).toNat ||| 2 ^ gN g : Nat) : Int); omega
  · show ((((g 3).toNat ||| 2 ^ gN g : Nat) : Int)).toNat < 2 ^ (g 0 + 1).toNat
    rw [Int.toNat_natCast, show (g 0 + 1).toNat = gN g + 1 by omega]
    refine Nat.or_lt_two_pow (Nat.lt_trans ok.2.2.2.1.2 ?_) (Nat.pow_lt_pow_right (by decide) (by omega))
    exact Nat.pow_lt_pow_right (by decide) (by unfold gN; omega)
  · rw [co i hi]
    have := ok.2.2.2.2.1 i hi
    split
    · omega
    · split <;> omega
  · rw [hn] at hi hj
    have e : ∀ k, 14 + k = 4 + (10 + k) := fun k => by omega
    rw [e i, e j, co i (by omega), co j (by omega), co (10 + i) (by omega), co (10 + j) (by omega)]
    rw [if_neg (show ¬ i = 10 + gN g by omega), if_neg (show ¬ j = 10 + gN g by omega), if_neg (show ¬ 10 + i = gN g by omega), if_neg (show ¬ 10 + j = gN g by omega)]
    by_cases q : i = gN g
    · rw [if_pos q, if_pos (show 10 + i = 10 + gN g by omega), if_neg (show ¬ j = gN g by omega), if_neg (show ¬ 10 + j = 10 + gN g by omega)]
      have := gW_none hw j (by omega)
      rw [← e j]
      omega
    · rw [if_neg q, if_neg (show ¬ 10 + i = 10 + gN g by omega)]
      by_cases r : j = gN g
      · rw [if_pos r, if_pos (show 10 + j = 10 + gN g by omega)]
        have := gW_none hw i (by omega)
        rw [← e i]
        omega
      · rw [if_neg r, if_neg (show ¬ 10 + j = 10 + gN g by omega), ← e i, ← e j]
        exact ok.2.2.2.2.2 i j (by omega) (by omega) hij
theorem gMv_ok {g : Nat → Int} (ok : okg g) {v : Nat} {x y : Int} (hv : v < gN g) (hp : gPl x y = true) (hw : gW g x y (gN g) = -1 ∨ gW g x y (gN g) = (v : Int)) : okg (gMv g v x y) := by
  have n1 := ok.n
  simp only [gPl, Bool.and_eq_true, decide_eq_true_eq] at hp
  have cx1 : ∀ i, i < 10 → gMv g v x y (4 + i) = if i = v then x else g (4 + i) := by
    intro i hi
    unfold gMv
    by_cases q : i = v
    · rw [if_pos (by omega), if_pos q]
    · rw [if_neg (by omega), if_neg q, if_neg (by omega)]
  have cy1 : ∀ i, i < 10 → gMv g v x y (14 + i) = if i = v then y else g (14 + i) := by
    intro i hi
    unfold gMv
    rw [if_neg (by omega)]
    by_cases q : i = v
    · rw [if_pos (by omega), if_pos q]
    · rw [if_neg (by omega), if_neg q]
  have lo : ∀ k, k < 4 → gMv g v x y k = g k := fun k hk => by unfold gMv; rw [if_neg (by omega), if_neg (by omega)]
  have hn : gN (gMv g v x y) = gN g := by unfold gN; rw [lo 0 (by decide)]
  have other : ∀ j, j < gN g → j ≠ v → g (4 + j) ≠ x ∨ g (14 + j) ≠ y := by
    intro j hj hjv
    rcases hw with q | q
    · have := gW_none q j hj
      omega
    · have h1 := gW_some q
      have h2 := ok.2.2.2.2.2 j v hj hv hjv
      omega
  unfold okg
  rw [lo 0 (by decide), lo 1 (by decide), lo 2 (by decide), lo 3 (by decide), hn]
  refine ⟨ok.1, ok.2.1, ok.2.2.1, ok.2.2.2.1, fun i hi => ?_, fun i j hi hj hij => ?_⟩
  · rcases Nat.lt_or_ge i 10 with q | q
    · rw [cx1 i q]
      have := ok.x q
      split <;> omega
    · have := ok.2.2.2.2.1 i hi
      rw [show 4 + i = 14 + (i - 10) by omega, cy1 _ (by omega)]
      rw [show 4 + i = 14 + (i - 10) by omega] at this
      split <;> omega
  · rw [cx1 i (by omega), cx1 j (by omega), cy1 i (by omega), cy1 j (by omega)]
    by_cases q : i = v
    · rw [if_pos q, if_neg (by omega), if_pos q, if_neg (by omega)]
      have := other j hj (by omega)
      omega
    · rw [if_neg q, if_neg q]
      by_cases r : j = v
      · rw [if_pos r, if_pos r]
        exact other i hi q
      · rw [if_neg r, if_neg r]
        exact ok.2.2.2.2.2 i j hi hj hij
theorem gAw_ok {g : Nat → Int} (ok : okg g) {v : Nat} {b : Bool} (hv : v < gN g) : okg (gAw g v b) := by
  have e4 : ∀ i, gAw g v b (4 + i) = g (4 + i) := fun i => by unfold gAw; rw [if_neg (by omega)]
  have e14 : ∀ i, gAw g v b (14 + i) = g (14 + i) := fun i => by unfold gAw; rw [if_neg (by omega)]
  refine ⟨ok.1, ok.2.1, ok.2.2.1, ⟨?_, ?_⟩, fun i hi => by rw [e4]; exact ok.2.2.2.2.1 i hi, fun i j hi hj hij => by rw [e4, e4, e14, e14]; exact ok.2.2.2.2.2 i j hi hj hij⟩
  · show 0 ≤ (((if b then (g 3).toNat ||| 2 ^ v else clr (g 3).toNat v) : Nat) : Int)
    omega
  · show ((((if b then (g 3).toNat ||| 2 ^ v else clr (g 3).toNat v) : Nat) : Int)).toNat < 2 ^ (g 0).toNat
    rw [Int.toNat_natCast]
    split
    · exact Nat.or_lt_two_pow ok.2.2.2.1.2 (Nat.pow_lt_pow_right (by decide) hv)
    · exact Nat.lt_of_le_of_lt Nat.and_le_left ok.2.2.2.1.2
theorem upd1_ok {g : Nat → Int} (ok : okg g) {x : Int} (h : 1 ≤ x ∧ x ≤ 8000) : okg (updg g 1 x) :=
  ⟨ok.1, h, ok.2.2.1, ok.2.2.2.1, fun i hi => by show 0 ≤ (if 4 + i = 1 then x else g (4 + i)) ∧ (if 4 + i = 1 then x else g (4 + i)) ≤ 63; rw [if_neg (by omega)]; exact ok.2.2.2.2.1 i hi, fun i j hi hj hij => by
    show (if 4 + i = 1 then x else g (4 + i)) ≠ (if 4 + j = 1 then x else g (4 + j)) ∨ (if 14 + i = 1 then x else g (14 + i)) ≠ (if 14 + j = 1 then x else g (14 + j))
    rw [if_neg (by omega), if_neg (by omega), if_neg (by omega), if_neg (by omega)]; exact ok.2.2.2.2.2 i j hi hj hij⟩
theorem upd2_ok {g : Nat → Int} (ok : okg g) {x : Int} (h : x = 0 ∨ x = 1) : okg (updg g 2 x) :=
  ⟨ok.1, ok.2.1, h, ok.2.2.2.1, fun i hi => by show 0 ≤ (if 4 + i = 2 then x else g (4 + i)) ∧ (if 4 + i = 2 then x else g (4 + i)) ≤ 63; rw [if_neg (by omega)]; exact ok.2.2.2.2.1 i hi, fun i j hi hj hij => by
    show (if 4 + i = 2 then x else g (4 + i)) ≠ (if 4 + j = 2 then x else g (4 + j)) ∨ (if 14 + i = 2 then x else g (14 + i)) ≠ (if 14 + j = 2 then x else g (14 + j))
    rw [if_neg (by omega), if_neg (by omega), if_neg (by omega), if_neg (by omega)]; exact ok.2.2.2.2.2 i j hi hj hij⟩
theorem rmb_lt {m v : Nat} (h : m < 1024) : rmb m v < 1024 := Nat.or_lt_two_pow (n := 10) (Nat.lt_of_le_of_lt Nat.and_le_left h) (adn_lt (by omega))
theorem rmb_bit {m v w : Nat} (hw : w < 10) : (rmb m v).testBit w = if w < v then m.testBit w else m.testBit (w + 1) := by
  unfold rmb
  rw [Nat.testBit_or, Nat.testBit_and, adn_bit hw, Nat.testBit_two_pow_sub_one, show (m / 2).testBit w = m.testBit (w + 1) from (Nat.testBit_succ m w).symm]
  by_cases q : w < v
  · rw [if_pos q, decide_eq_true q]; simp
  · rw [if_neg q, decide_eq_false q]; simp
theorem gTk_ok {g : Nat → Int} (ok : okg g) {v : Nat} (hv : v < gN g) : okg (gTk g v) := by
  have n1 := ok.n
  have a1 := ok.a
  have hn : gN (gTk g v) = gN g - 1 := by show (g 0 - 1).toNat = _; omega
  have lo : ∀ k, k = 1 ∨ k = 2 → gTk g v k = g k := fun k hk => by unfold gTk; rw [if_neg (by omega), if_neg (by omega), if_neg (by omega), if_neg (by omega)]
  have cx1 : ∀ i, i < 10 → gTk g v (4 + i) = if v ≤ i ∧ i + 1 < gN g then g (4 + (i + 1)) else g (4 + i) := by
    intro i hi
    unfold gTk
    rw [if_neg (by omega), if_neg (by omega)]
    by_cases q : v ≤ i ∧ i + 1 < gN g
    · rw [if_pos (by omega), if_pos q, Nat.add_assoc]
    · rw [if_neg (by omega), if_neg q, if_neg (by omega)]
  have cy1 : ∀ i, i < 10 → gTk g v (14 + i) = if v ≤ i ∧ i + 1 < gN g then g (14 + (i + 1)) else g (14 + i) := by
    intro i hi
    unfold gTk
    rw [if_neg (by omega), if_neg (by omega), if_neg (by omega)]
    by_cases q : v ≤ i ∧ i + 1 < gN g
    · rw [if_pos (by omega), if_pos q, Nat.add_assoc]
    · rw [if_neg (by omega), if_neg q]
  unfold okg
  rw [lo 1 (Or.inl rfl), lo 2 (Or.inr rfl), hn]
  refine ⟨?_, ok.2.1, ok.2.2.1, ⟨?_, ?_⟩, fun i hi => ?_, fun i j hi hj hij => ?_⟩
  · show 0 ≤ g 0 - 1 ∧ g 0 - 1 ≤ 10; omega
  · show 0 ≤ (rmb (g 3).toNat v : Int); omega
  · show ((rmb (g 3).toNat v : Int)).toNat < 2 ^ (g 0 - 1).toNat
    rw [Int.toNat_natCast]
    refine Nat.lt_pow_two_of_testBit _ (fun w hw => ?_)
    rcases Nat.lt_or_ge w 10 with q | q
    · rw [rmb_bit q, if_neg (by omega)]
      exact Nat.testBit_lt_two_pow (Nat.lt_of_lt_of_le ok.2.2.2.1.2 (Nat.pow_le_pow_right (by decide) (by omega)))
    · exact Nat.testBit_lt_two_pow (Nat.lt_of_lt_of_le (rmb_lt a1.2) (Nat.pow_le_pow_right (n := 2) (by decide) (show 10 ≤ w by omega)))
  · rcases Nat.lt_or_ge i 10 with q | q
    · rw [cx1 i q]
      split
      · exact ok.x (by omega)
      · exact ok.x q
    · rw [show 4 + i = 14 + (i - 10) by omega, cy1 _ (by omega)]
      split
      · exact ok.y (by omega)
      · exact ok.y (by omega)
  · have key : ∀ i, i < gN g - 1 → ∃ i2, i2 < gN g ∧ gTk g v (4 + i) = g (4 + i2) ∧ gTk g v (14 + i) = g (14 + i2) ∧ i2 = if v ≤ i then i + 1 else i := by
      intro i hi
      refine ⟨_, ?_, ?_, ?_, rfl⟩
      · split <;> omega
      · rw [cx1 i (by omega)]
        by_cases q : v ≤ i
        · rw [if_pos ⟨q, by omega⟩, if_pos q]
        · rw [if_neg (fun z => q z.1), if_neg q]
      · rw [cy1 i (by omega)]
        by_cases q : v ≤ i
        · rw [if_pos ⟨q, by omega⟩, if_pos q]
        · rw [if_neg (fun z => q z.1), if_neg q]
    obtain ⟨i2, a, b, c, d⟩ := key i hi
    obtain ⟨j2, a', b', c', d'⟩ := key j hj
    rw [b, c, b', c']
    exact ok.2.2.2.2.2 i2 j2 a a' (by rw [d, d']; split <;> split <;> omega)
def pcs (g : Nat → Int) (p : Nat → Nat → Int) : Nat → Nat → Int := fun j => if j = 0 then g else p (j - 1)
def rem (s : St) : St := (s.1, s.2.1, s.2.2.1, ((if s.2.2.2.1.1 < 16 then s.2.2.2.1.1 + 1 else 16), pcs s.1 s.2.2.2.1.2), s.2.2.2.2)
def stg (s : St) (g : Nat → Int) : St := (g, s.2)
def sds (s : St) (v : Int) : St := (s.1, v, s.2.2)
theorem rem_ok {s : St} (h : okS s) : okS (rem s) := by
  obtain ⟨h1, h2, h3, ⟨h4, h5⟩, h6⟩ := h
  refine ⟨h1, h2, h3, ⟨?_, fun j hj => ?_⟩, h6⟩
  · show (if s.2.2.2.1.1 < 16 then s.2.2.2.1.1 + 1 else 16) ≤ 16
    split <;> omega
  · show okg (if j = 0 then s.1 else s.2.2.2.1.2 (j - 1))
    have hj' : j < (if s.2.2.2.1.1 < 16 then s.2.2.2.1.1 + 1 else 16) := hj
    split
    · exact h1
    · exact h5 _ (by split at hj' <;> omega)
theorem stg_ok {s : St} {g : Nat → Int} (h : okS s) (hg : okg g) : okS (stg s g) := ⟨hg, h.2⟩
theorem sds_ok {s : St} {v : Int} (h : okS s) (hv : 0 ≤ v ∧ v < 2147483648) : okS (sds s v) := ⟨h.1, hv, h.2.2⟩
-- the deeds: what is answered, and the state behind
def dNode (s : St) (x y : Int) : Int × St := if ¬ gPl x y = true then (-1000000002, s) else if s.1 0 = 10 then (-1000000004, s) else if gW s.1 x y (gN s.1) ≠ -1 then (-1000000003, s) else (s.1 0, stg (rem s) (gAdd s.1 x y))
def dMove (s : St) (v x y : Int) : Int × St := if ¬ gI s.1 v = true then (-1000000001, s) else if ¬ gPl x y = true then (-1000000002, s) else if gW s.1 x y (gN s.1) ≠ -1 ∧ gW s.1 x y (gN s.1) ≠ v then (-1000000003, s) else ((x - s.1 (4 + v.toNat)) * (x - s.1 (4 + v.toNat)) + (y - s.1 (14 + v.toNat)) * (y - s.1 (14 + v.toNat)), stg (rem s) (gMv s.1 v.toNat x y))
def dWake (s : St) (v : Int) (b : Bool) : Int × St := if ¬ gI s.1 v = true then (-1000000001, s) else (gAc (gAw s.1 v.toNat b) (gN s.1), stg (rem s) (gAw s.1 v.toNat b))
def dTake (s : St) (v : Int) : Int × St := if ¬ gI s.1 v = true then (-1000000001, s) else (s.1 0 - 1, stg (rem s) (gTk s.1 v.toNat))
def dReach (s : St) (v : Int) : Int × St := if v < 1 ∨ 8000 < v then (-1000000002, s) else (s.1 1, stg (rem s) (updg s.1 1 v))
def dRule (s : St) (v : Int) : Int × St := if v < 0 ∨ 1 < v then (-1000000002, s) else (s.1 2, stg (rem s) (updg s.1 2 v))
def nxs (v : Int) : Int := (v * 1103515245 + 12345) % 2147483648
def plc (v : Int) : Int := v / 65536 % 64
def dr1 (s : St) : St := if gW s.1 (plc (nxs s.2.1)) (plc (nxs (nxs s.2.1))) (gN s.1) = -1 then stg (rem (sds s (nxs (nxs s.2.1)))) (gAdd s.1 (plc (nxs s.2.1)) (plc (nxs (nxs s.2.1)))) else sds s (nxs (nxs s.2.1))
def drf : Nat → St → St
  | 0, s => s
  | k + 1, s => if s.1 0 < 10 then drf k (dr1 s) else s
def dDrift (s : St) (n : Int) : Int × St := if n < 1 ∨ 10 < n then (-1000000002, s) else ((drf n.toNat s).1 0, drf n.toNat s)
def dUndo (s : St) (n : Int) : Int × St := if n < 1 ∨ 16 < n then (-1000000002, s) else if (s.2.2.2.1.1 : Int) < n then (-1000000003, s) else ((s.2.2.2.1.1 : Int) - n, (s.2.2.2.1.2 (n.toNat - 1), s.2.1, s.2.2.1, (s.2.2.2.1.1 - n.toNat, fun j => s.2.2.2.1.2 (j + n.toNat)), s.2.2.2.2))
def dWrite (s : St) (a b v : Int) : Int × St := if ¬ (gI s.1 a = true ∧ gI s.1 b = true) then (-1000000001, s) else if s.2.2.1.1 = 20 then (-1000000004, s) else ((s.2.2.1.1 : Int) + 1, (s.1, s.2.1, (s.2.2.1.1 + 1, updg s.2.2.1.2.1 s.2.2.1.1 a, updg s.2.2.1.2.2.1 s.2.2.1.1 b, updg s.2.2.1.2.2.2 s.2.2.1.1 v), s.2.2.2))
def dTear (s : St) : Int × St := ((s.2.2.1.1 : Int), (s.1, s.2.1, (0, s.2.2.1.2), s.2.2.2))
def dSeed (s : St) (v : Int) : Int × St := if v < 0 then (-1000000002, s) else (s.2.1, sds s v)
def dKeep (s : St) (i : Int) : Int × St := if i < 0 ∨ 1 < i then (-1000000001, s) else (1, (s.1, s.2.1, s.2.2.1, (0, s.2.2.2.1.2), (fun j => if j = i.toNat then true else s.2.2.2.2.1 j), (fun j => if j = i.toNat then s.1 else s.2.2.2.2.2.1 j), fun j => if j = i.toNat then s.2.1 else s.2.2.2.2.2.2 j))
def dBack (s : St) (i : Int) : Int × St := if i < 0 ∨ 1 < i then (-1000000001, s) else if ¬ s.2.2.2.2.1 i.toNat = true then (-1000000003, s) else (1, (s.2.2.2.2.2.1 i.toNat, s.2.2.2.2.2.2 i.toNat, s.2.2.1, (0, s.2.2.2.1.2), s.2.2.2.2))
theorem nxs_rg (v : Int) : 0 ≤ nxs v ∧ nxs v < 2147483648 := by unfold nxs; omega
theorem plc_rg {v : Int} (h : 0 ≤ v ∧ v < 2147483648) : 0 ≤ plc v ∧ plc v ≤ 63 := by unfold plc; omega
theorem plc_pl (v w : Int) : gPl (plc (nxs v)) (plc (nxs w)) = true := by
  have h1 := plc_rg (nxs_rg v)
  have h2 := plc_rg (nxs_rg w)
  simp only [gPl, Bool.and_eq_true, decide_eq_true_eq]
  omega
theorem dr1_ok {s : St} (h : okS s) (h0 : s.1 0 < 10) : okS (dr1 s) := by
  unfold dr1
  split
  · next q => exact stg_ok (rem_ok (sds_ok h (nxs_rg _))) (gAdd_ok h.1 h0 (plc_pl _ _) q)
  · exact sds_ok h (nxs_rg _)
theorem drf_ok : ∀ (k : Nat) {s : St}, okS s → okS (drf k s)
  | 0, _, h => h
  | k + 1, s, h => by
    unfold drf
    split
    · next q => exact drf_ok k (dr1_ok h q)
    · exact h
theorem dNode_ok {s : St} (h : okS s) (x y : Int) : okS (dNode s x y).2 := by
  unfold dNode
  split
  · exact h
  · split
    · exact h
    · split
      · exact h
      · next q1 q2 q3 => exact stg_ok (rem_ok h) (gAdd_ok h.1 (by have := h.1.1; omega) (Classical.not_not.mp q1) (Classical.not_not.mp q3))
theorem gI_nat {g : Nat → Int} (ok : okg g) {v : Int} (h : gI g v = true) : v = (v.toNat : Int) ∧ v.toNat < gN g := by
  have n1 := ok.n
  simp only [gI, Bool.and_eq_true, decide_eq_true_eq] at h
  omega
theorem dMove_ok {s : St} (h : okS s) (v x y : Int) : okS (dMove s v x y).2 := by
  unfold dMove
  split
  · exact h
  · split
    · exact h
    · split
      · exact h
      · next q1 q2 q3 =>
        have nv := gI_nat h.1 (Classical.not_not.mp q1)
        exact stg_ok (rem_ok h) (gMv_ok h.1 nv.2 (Classical.not_not.mp q2) (by omega))
theorem dWake_ok {s : St} (h : okS s) (v : Int) (b : Bool) : okS (dWake s v b).2 := by
  unfold dWake
  split
  · exact h
  · next q => exact stg_ok (rem_ok h) (gAw_ok h.1 (gI_nat h.1 (Classical.not_not.mp q)).2)
theorem dTake_ok {s : St} (h : okS s) (v : Int) : okS (dTake s v).2 := by
  unfold dTake
  split
  · exact h
  · next q => exact stg_ok (rem_ok h) (gTk_ok h.1 (gI_nat h.1 (Classical.not_not.mp q)).2)
theorem dReach_ok {s : St} (h : okS s) (v : Int) : okS (dReach s v).2 := by
  unfold dReach
  split
  · exact h
  · exact stg_ok (rem_ok h) (upd1_ok h.1 (by omega))
theorem dRule_ok {s : St} (h : okS s) (v : Int) : okS (dRule s v).2 := by
  unfold dRule
  split
  · exact h
  · exact stg_ok (rem_ok h) (upd2_ok h.1 (by omega))
theorem dDrift_ok {s : St} (h : okS s) (n : Int) : okS (dDrift s n).2 := by
  unfold dDrift
  split
  · exact h
  · exact drf_ok _ h
theorem dUndo_ok {s : St} (h : okS s) (n : Int) : okS (dUndo s n).2 := by
  unfold dUndo
  split
  · exact h
  · split
    · exact h
    · obtain ⟨h1, h2, h3, ⟨h4, h5⟩, h6⟩ := h
      refine ⟨h5 _ (by omega), h2, h3, ⟨?_, fun j hj => ?_⟩, h6⟩
      · show s.2.2.2.1.1 - n.toNat ≤ 16; omega
      · have hj' : j < s.2.2.2.1.1 - n.toNat := hj
        exact h5 _ (by omega)
theorem dWrite_ok {s : St} (h : okS s) {a b v : Int} (hv : -2147483648 ≤ v ∧ v < 2147483648) : okS (dWrite s a b v).2 := by
  unfold dWrite
  split
  · exact h
  · split
    · exact h
    · next q1 q2 =>
      obtain ⟨h1, h2, ⟨h3, h4, h5, h6⟩, h7⟩ := h
      have q1 := Classical.not_not.mp q1
      have na := gI_nat h1 q1.1
      have nb := gI_nat h1 q1.2
      have n1 := h1.n
      refine ⟨h1, h2, ⟨?_, fun i hi => ?_, fun i hi => ?_, fun i hi => ?_⟩, h7⟩
      · show s.2.2.1.1 + 1 ≤ 20; omega
      all_goals
        have hi' : i < s.2.2.1.1 + 1 := hi
        unfold updg
        dsimp only
      · split
        · omega
        · exact h4 i (by omega)
      · split
        · omega
        · exact h5 i (by omega)
      · split
        · omega
        · exact h6 i (by omega)
theorem dTear_ok {s : St} (h : okS s) : okS (dTear s).2 := by
  obtain ⟨h1, h2, ⟨h3, h4, h5, h6⟩, h7⟩ := h
  exact ⟨h1, h2, ⟨Nat.zero_le _, fun i hi => absurd hi (Nat.not_lt_zero _), fun i hi => absurd hi (Nat.not_lt_zero _), fun i hi => absurd hi (Nat.not_lt_zero _)⟩, h7⟩
theorem dSeed_ok {s : St} (h : okS s) {v : Int} (hv : -2147483648 ≤ v ∧ v < 2147483648) : okS (dSeed s v).2 := by
  unfold dSeed
  split
  · exact h
  · exact sds_ok h (by omega)
theorem dKeep_ok {s : St} (h : okS s) (i : Int) : okS (dKeep s i).2 := by
  unfold dKeep
  split
  · exact h
  · obtain ⟨h1, h2, h3, ⟨h4, h5⟩, h6⟩ := h
    refine ⟨h1, h2, h3, ⟨Nat.zero_le _, fun j hj => absurd hj (Nat.not_lt_zero _)⟩, fun j hj q => ?_⟩
    have q' : (if j = i.toNat then true else s.2.2.2.2.1 j) = true := q
    show okg (if j = i.toNat then s.1 else s.2.2.2.2.2.1 j) ∧ 0 ≤ (if j = i.toNat then s.2.1 else s.2.2.2.2.2.2 j) ∧ (if j = i.toNat then s.2.1 else s.2.2.2.2.2.2 j) < 2147483648
    by_cases z : j = i.toNat
    · rw [if_pos z, if_pos z]; exact ⟨h1, h2⟩
    · rw [if_neg z] at q'; rw [if_neg z, if_neg z]; exact h6 j hj q'
theorem dBack_ok {s : St} (h : okS s) (i : Int) : okS (dBack s i).2 := by
  unfold dBack
  split
  · exact h
  · split
    · exact h
    · next q1 q2 =>
      obtain ⟨h1, h2, h3, ⟨h4, h5⟩, h6⟩ := h
      have := h6 i.toNat (by omega) (Classical.not_not.mp q2)
      exact ⟨this.1, this.2, h3, ⟨Nat.zero_le _, fun j hj => absurd hj (Nat.not_lt_zero _)⟩, h6⟩
