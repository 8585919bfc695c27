section LN
variable {O : OmT} {F : PhT} {R : Room} {nL : Nat} {V : Mem} {pc : Nat} {lv : List (Nat × Sv)} {st : List Sv} {own : String} {cc : ByteArray} {rt : Option FieldType} {Ts : List Cond}
theorem iL_toInt {z : Int} (h : -9223372036854775808 ≤ z ∧ z < 9223372036854775808) : (iL z).toInt = z := Int64.toInt_ofInt_of_le (by simpa using h.1) (by simpa using h.2)
theorem iL_mul (a b : Int) : iL a * iL b = iL (a * b) := (Int64.ofInt_mul a b).symm
theorem iL_add (a b : Int) : iL a + iL b = iL (a + b) := (Int64.ofInt_add a b).symm
theorem iI_long {z : Int} (h : -2147483648 ≤ z ∧ z < 2147483648) : (iI z).toInt64 = iL z := by
  apply Int64.toInt_inj.mp
  rw [Int32.toInt_toInt64, iI_toInt h, iL_toInt (by omega)]
theorem j_i2l (C : cx O F own cc nL rt Ts) {a : Int} (hd : decode cc pc = .ok (.i2l, 1)) (hr : -2147483648 ≤ a ∧ a < 2147483648) (k : J O F R nL V (pc + 1) lv (sl a :: st)) : J O F R nL V pc lv (si a :: st) := fun H locs ls h hl => lv_i2l C.1 C.2.1 hd (iI_long hr) (k H locs ls h hl)
theorem j_lmul (C : cx O F own cc nL rt Ts) {a b : Int} (hd : decode cc pc = .ok (.lmul, 1)) (k : J O F R nL V (pc + 1) lv (sl (a * b) :: st)) : J O F R nL V pc lv (sl b :: sl a :: st) := fun H locs ls h hl => lv_lmul C.1 C.2.1 hd (by rw [iL_mul]; exact k H locs ls h hl)
theorem j_ladd (C : cx O F own cc nL rt Ts) {a b : Int} (hd : decode cc pc = .ok (.ladd, 1)) (k : J O F R nL V (pc + 1) lv (sl (a + b) :: st)) : J O F R nL V pc lv (sl b :: sl a :: st) := fun H locs ls h hl => lv_ladd C.1 C.2.1 hd (by rw [iL_add]; exact k H locs ls h hl)
/-- -1, 0, 1: how two longs compare -/
def cmpZ (a b : Int) : Int := if b < a then 1 else if a = b then 0 else -1
theorem cmpZ_rg (a b : Int) : -2147483648 ≤ cmpZ a b ∧ cmpZ a b < 2147483648 := by
  unfold cmpZ; split
  · omega
  · split <;> omega
theorem j_lcmp (C : cx O F own cc nL rt Ts) {a b : Int} (hd : decode cc pc = .ok (.lcmp, 1)) (ha : -9223372036854775808 ≤ a ∧ a < 9223372036854775808) (hb : -9223372036854775808 ≤ b ∧ b < 9223372036854775808) (k : J O F R nL V (pc + 1) lv (si (cmpZ a b) :: st)) : J O F R nL V pc lv (sl b :: sl a :: st) := fun H locs ls h hl => by
  refine W.lcmp C.1 C.2.1 hd ?_
  have e : lg_cmp (iL a) (iL b) = iI (cmpZ a b) := by
    unfold lg_cmp cmpZ
    simp only [gt_iff_lt, Int64.lt_iff_toInt_lt, ← Int64.toInt_inj, iL_toInt ha, iL_toInt hb]
    split
    · rfl
    · split <;> rfl
  rw [e]
  exact k H locs ls h hl
end LN
-- what the reference has seen
def sawB (V : Mem) (u e : Nat) (x : Int) : Nat → Bool
  | 0 => false
  | j + 1 => sawB V u e x j || (decide (V 81 (5 * j) = (u : Int)) && decide (V 81 (5 * j + 1) = (e : Int)) && decide (V 81 (5 * j + 2) = x) && decide (V 81 (5 * j + 3) * 1 = 0 * V 81 (5 * j + 4)))
theorem sawB_s (V : Mem) (u e : Nat) (x : Int) (j : Nat) : sawB V u e x (j + 1) = (sawB V u e x j || (decide (V 81 (5 * j) = (u : Int)) && decide (V 81 (5 * j + 1) = (e : Int)) && decide (V 81 (5 * j + 2) = x) && decide (V 81 (5 * j + 3) * 1 = 0 * V 81 (5 * j + 4)))) := rfl
theorem sawB_mono {V : Mem} {u e : Nat} {x : Int} {j : Nat} : ∀ {k : Nat}, j ≤ k → sawB V u e x j = true → sawB V u e x k = true
  | 0, h, q => by rw [Nat.le_zero.mp h] at q; exact q
  | k + 1, h, q => by
    rcases Nat.lt_or_eq_of_le h with z | z
    · rw [sawB_s, sawB_mono (Nat.lt_succ_iff.mp z) q]; rfl
    · rw [← z]; exact q
def pushW (V : Mem) (u e : Nat) (x : Int) (k : Nat) : Mem := ms (ms (ms (ms (ms (ms V 81 (5 * k) (u : Int)) 81 (5 * k + 1) (e : Int)) 81 (5 * k + 2) x) 81 (5 * k + 3) 0) 81 (5 * k + 4) 1) 72 19 ((k : Int) + 1)
theorem dx_rg {g : Nat → Int} (ok : okg g) {u e t v : Nat} (hu : u < 10) (he : e < 10) (ht : t < 10) (hv : v < 10) :
    (-7938 ≤ (g (4 + u) - g (4 + e)) * (g (14 + v) - g (14 + u)) - (g (14 + u) - g (14 + e)) * (g (4 + v) - g (4 + u)) ∧ (g (4 + u) - g (4 + e)) * (g (14 + v) - g (14 + u)) - (g (14 + u) - g (14 + e)) * (g (4 + v) - g (4 + u)) ≤ 7938) ∧
    (-7938 ≤ (g (4 + t) - g (4 + e)) * (g (14 + v) - g (14 + u)) - (g (14 + t) - g (14 + e)) * (g (4 + v) - g (4 + u)) ∧ (g (4 + t) - g (4 + e)) * (g (14 + v) - g (14 + u)) - (g (14 + t) - g (14 + e)) * (g (4 + v) - g (4 + u)) ≤ 7938) := by
  have xu := ok.x hu; have xe := ok.x he; have xt := ok.x ht; have xv := ok.x hv
  have yu := ok.y hu; have ye := ok.y he; have yt := ok.y ht; have yv := ok.y hv
  have h1 := pr_rg (a := g (4 + u) - g (4 + e)) (b := g (14 + v) - g (14 + u)) (by omega) (by omega)
  have h2 := pr_rg (a := g (14 + u) - g (14 + e)) (b := g (4 + v) - g (4 + u)) (by omega) (by omega)
  have h3 := pr_rg (a := g (4 + t) - g (4 + e)) (b := g (14 + v) - g (14 + u)) (by omega) (by omega)
  have h4 := pr_rg (a := g (14 + t) - g (14 + e)) (b := g (4 + v) - g (4 + u)) (by omega) (by omega)
  omega
theorem cmpZ_pos {a b : Int} (h : 0 < cmpZ a b) : b < a := by
  unfold cmpZ at h
  split at h
  · assumption
  · split at h <;> omega
theorem cf_no {g : Nat → Int} (ok : okg g) {e t u v : Nat} (he : e < gN g) (ht : t < gN g) (hae : gA g e = true) (hat : gA g t = true) (het : e ≠ t) (hut : u ≠ t) (hR : gR g e t (gN g) = -1) (hT : gT g u v = true) (hF : gF g e t ≤ gF g u t)
    (hs : (gS g e t u < 0 ∧ 0 ≤ gS g e t v) ∨ (0 ≤ gS g e t u ∧ gS g e t v < 0)) {up dn : Int}
    (hup : up = (g (4 + u) - g (4 + e)) * (g (14 + v) - g (14 + u)) - (g (14 + u) - g (14 + e)) * (g (4 + v) - g (4 + u)))
    (hdn : dn = (g (4 + t) - g (4 + e)) * (g (14 + v) - g (14 + u)) - (g (14 + t) - g (14 + e)) * (g (4 + v) - g (4 + u)))
    (h : (dn < 0 ∧ -up < -dn ∧ 0 < -up) ∨ (0 ≤ dn ∧ up < dn ∧ 0 < up)) : False := by
  have k := gNC ok he ht hae hat het hut hR hT hF rfl rfl hup hdn (by omega)
  rcases h with h | h
  · rw [if_pos h.1, if_pos h.1] at k; exact k ⟨h.2.2, h.2.1⟩
  · rw [if_neg (by omega), if_neg (by omega)] at k; exact k ⟨h.2.2, h.2.1⟩
