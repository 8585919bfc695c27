-- plane geometry, whole numbers
theorem aff_id (ex ey tx ty ux uy vx vy p q r : Int) :
    (((tx - ex) * (vy - uy) - (ty - ey) * (vx - ux)) - ((ux - ex) * (vy - uy) - (uy - ey) * (vx - ux))) * (p * ex + q * ey + r) + ((ux - ex) * (vy - uy) - (uy - ey) * (vx - ux)) * (p * tx + q * ty + r)
      = ((tx - ex) * (vy - ey) - (ty - ey) * (vx - ex)) * (p * ux + q * uy + r) - ((tx - ex) * (uy - ey) - (ty - ey) * (ux - ex)) * (p * vx + q * vy + r) := by grind
/-- an affine function that is above 0 at e, not below at t, and not above 0 at u and v: the stretch from e to t (open) is not met by that from u to v -/
theorem aff_no {a b up dn fe ft fu fv : Int} (hd : dn = b - a) (id : (dn - up) * fe + up * ft = b * fu - a * fv) (he : 0 < fe) (ht : 0 ≤ ft) (hu : fu ≤ 0) (hv : fv ≤ 0) (hs : ¬ (0 ≤ a ↔ 0 ≤ b)) :
    ¬ (0 < (if dn < 0 then -up else up) ∧ (if dn < 0 then -up else up) < (if dn < 0 then -dn else dn)) := by
  intro ⟨h1, h2⟩
  by_cases hn : dn < 0
  · rw [if_pos hn] at h1 h2
    rw [if_pos hn] at h2
    have a0 : 0 ≤ a := by omega
    have b0 : b < 0 := by omega
    have k1 : 0 < (-dn - -up) * fe := Int.mul_pos (by omega) he
    have k2 : 0 ≤ (-up) * ft := Int.mul_nonneg (by omega) ht
    have k3 : 0 ≤ (-b) * (-fu) := Int.mul_nonneg (by omega) (by omega)
    have k4 : 0 ≤ a * (-fv) := Int.mul_nonneg a0 (by omega)
    have e1 : (-dn - -up) * fe = -((dn - up) * fe) := by grind
    have e2 : (-up) * ft = -(up * ft) := by grind
    have e3 : (-b) * (-fu) = b * fu := by grind
    have e4 : a * (-fv) = -(a * fv) := by grind
    omega
  · rw [if_neg hn] at h1 h2
    rw [if_neg hn] at h2
    have a0 : a < 0 := by omega
    have b0 : 0 ≤ b := by omega
    have k1 : 0 < (dn - up) * fe := Int.mul_pos (by omega) he
    have k2 : 0 ≤ up * ft := Int.mul_nonneg (by omega) ht
    have k3 : 0 ≤ b * (-fu) := Int.mul_nonneg b0 (by omega)
    have k4 : 0 ≤ (-a) * (-fv) := Int.mul_nonneg (by omega) (by omega)
    have e3 : b * (-fu) = -(b * fu) := by grind
    have e4 : (-a) * (-fv) = a * fv := by grind
    omega
theorem nc_xy {ex ey tx ty ux uy vx vy : Int}
    (h1 : (ex - tx) * (ex - tx) + (ey - ty) * (ey - ty) ≤ (ux - tx) * (ux - tx) + (uy - ty) * (uy - ty))
    (h2 : (ux - vx) * (ux - vx) + (uy - vy) * (uy - vy) < ((ux - ex) * (ux - ex) + (uy - ey) * (uy - ey)) + ((ex - vx) * (ex - vx) + (ey - vy) * (ey - vy)))
    (h3 : (ux - vx) * (ux - vx) + (uy - vy) * (uy - vy) < ((ux - tx) * (ux - tx) + (uy - ty) * (uy - ty)) + ((tx - vx) * (tx - vx) + (ty - vy) * (ty - vy)))
    (h4 : (ux - vx) * (ux - vx) + (uy - vy) * (uy - vy) < (ex - vx) * (ex - vx) + (ey - vy) * (ey - vy) ∨ (ex - tx) * (ex - tx) + (ey - ty) * (ey - ty) ≤ (vx - tx) * (vx - tx) + (vy - ty) * (vy - ty))
    (h5 : 0 < (ux - ex) * (ux - ex) + (uy - ey) * (uy - ey))
    {a b up dn : Int} (ha : a = (tx - ex) * (uy - ey) - (ty - ey) * (ux - ex)) (hb : b = (tx - ex) * (vy - ey) - (ty - ey) * (vx - ex))
    (hup : up = (ux - ex) * (vy - uy) - (uy - ey) * (vx - ux)) (hdn : dn = (tx - ex) * (vy - uy) - (ty - ey) * (vx - ux)) (hs : ¬ (0 ≤ a ↔ 0 ≤ b)) :
    ¬ (0 < (if dn < 0 then -up else up) ∧ (if dn < 0 then -up else up) < (if dn < 0 then -dn else dn)) := by
  have hd : dn = b - a := by subst ha hb hdn; grind
  rcases h4 with h4 | h4
  · have id := aff_id ex ey tx ty ux uy vx vy (2 * (ex - ux)) (2 * (ey - uy)) (ux * ux + uy * uy - ex * ex - ey * ey)
    rw [← ha, ← hb, ← hup, ← hdn] at id
    refine aff_no hd id ?_ ?_ ?_ ?_ hs
    · have e : 2 * (ex - ux) * ex + 2 * (ey - uy) * ey + (ux * ux + uy * uy - ex * ex - ey * ey) = (ux - ex) * (ux - ex) + (uy - ey) * (uy - ey) := by grind
      omega
    · have e : 2 * (ex - ux) * tx + 2 * (ey - uy) * ty + (ux * ux + uy * uy - ex * ex - ey * ey) = ((ux - tx) * (ux - tx) + (uy - ty) * (uy - ty)) - ((ex - tx) * (ex - tx) + (ey - ty) * (ey - ty)) := by grind
      omega
    · have e : 2 * (ex - ux) * ux + 2 * (ey - uy) * uy + (ux * ux + uy * uy - ex * ex - ey * ey) = -((ux - ex) * (ux - ex) + (uy - ey) * (uy - ey)) := by grind
      omega
    · have e : 2 * (ex - ux) * vx + 2 * (ey - uy) * vy + (ux * ux + uy * uy - ex * ex - ey * ey) = ((ux - vx) * (ux - vx) + (uy - vy) * (uy - vy)) - ((ex - vx) * (ex - vx) + (ey - vy) * (ey - vy)) := by grind
      omega
  · have id := aff_id ex ey tx ty ux uy vx vy (2 * (2 * tx - ux - vx)) (2 * (2 * ty - uy - vy)) (2 * (ux * vx + uy * vy - tx * tx - ty * ty + ((ex - tx) * (ex - tx) + (ey - ty) * (ey - ty))))
    rw [← ha, ← hb, ← hup, ← hdn] at id
    refine aff_no hd id ?_ ?_ ?_ ?_ hs
    · have e : 2 * (2 * tx - ux - vx) * ex + 2 * (2 * ty - uy - vy) * ey + 2 * (ux * vx + uy * vy - tx * tx - ty * ty + ((ex - tx) * (ex - tx) + (ey - ty) * (ey - ty))) = (((ux - ex) * (ux - ex) + (uy - ey) * (uy - ey)) + ((ex - vx) * (ex - vx) + (ey - vy) * (ey - vy))) - ((ux - vx) * (ux - vx) + (uy - vy) * (uy - vy)) := by grind
      omega
    · have e : 2 * (2 * tx - ux - vx) * tx + 2 * (2 * ty - uy - vy) * ty + 2 * (ux * vx + uy * vy - tx * tx - ty * ty + ((ex - tx) * (ex - tx) + (ey - ty) * (ey - ty))) = (((ux - tx) * (ux - tx) + (uy - ty) * (uy - ty)) + ((tx - vx) * (tx - vx) + (ty - vy) * (ty - vy))) - ((ux - vx) * (ux - vx) + (uy - vy) * (uy - vy)) + 2 * ((ex - tx) * (ex - tx) + (ey - ty) * (ey - ty)) := by grind
      have k : 0 ≤ (ex - tx) * (ex - tx) + (ey - ty) * (ey - ty) := by
        have sq : ∀ d : Int, 0 ≤ d * d := fun d => by
          rcases Int.le_total 0 d with h | h
          · exact Int.mul_nonneg h h
          · exact Int.mul_nonneg_of_nonpos_of_nonpos h h
        have := sq (ex - tx); have := sq (ey - ty); omega
      omega
    · have e : 2 * (2 * tx - ux - vx) * ux + 2 * (2 * ty - uy - vy) * uy + 2 * (ux * vx + uy * vy - tx * tx - ty * ty + ((ex - tx) * (ex - tx) + (ey - ty) * (ey - ty))) = 2 * (((ex - tx) * (ex - tx) + (ey - ty) * (ey - ty)) - ((ux - tx) * (ux - tx) + (uy - ty) * (uy - ty))) := by grind
      omega
    · have e : 2 * (2 * tx - ux - vx) * vx + 2 * (2 * ty - uy - vy) * vy + 2 * (ux * vx + uy * vy - tx * tx - ty * ty + ((ex - tx) * (ex - tx) + (ey - ty) * (ey - ty))) = 2 * (((ex - tx) * (ex - tx) + (ey - ty) * (ey - ty)) - ((vx - tx) * (vx - tx) + (vy - ty) * (vy - ty))) := by grind
      omega
/-- two orders of directions around a place: by parts of a turn, by halves -/
theorem turn_id (px py wx wy fx fy : Int) : (px * px + py * py) * (wx * fy - wy * fx) = (px * wx + py * wy) * (px * fy - py * fx) - (px * wy - py * wx) * (px * fx + py * fy) := by grind
theorem turn_nn (px py wx wy : Int) : (px * wy - py * wx) * (px * wy - py * wx) + (px * wx + py * wy) * (px * wx + py * wy) = (px * px + py * py) * (wx * wx + wy * wy) := by grind
-- bits of the machine's ints
theorem sh_k : ∀ k, k < 32 → ((nI k &&& 31).toBitVec.smod 32).toNat = k := by decide +kernel
theorem bShr_nat {m k : Nat} (hm : m < 2147483648) (hk : k < 32) : bShr (m : Int) (k : Int) = ((m / 2 ^ k : Nat) : Int) := by
  unfold bShr
  rw [← iI_nI, ← iI_nI, pk_shrN (by omega) _ k (sh_k k hk)]
  exact nI_toInt (Nat.lt_of_le_of_lt (Nat.div_le_self _ _) hm)
theorem bShl_nat {m k : Nat} (hk : k < 31) (hm : m * 2 ^ k < 2147483648) : bShl (m : Int) (k : Int) = ((m * 2 ^ k : Nat) : Int) := by
  unfold bShl
  rw [← iI_nI, ← iI_nI, pk_shlN _ k (sh_k k (by omega)) (by omega)]
  exact nI_toInt hm
theorem bShl_1 {k : Nat} (hk : k < 31) : bShl 1 (k : Int) = ((2 ^ k : Nat) : Int) := by
  have h : 2 ^ k < 2147483648 := Nat.lt_of_le_of_lt (Nat.pow_le_pow_right (by decide) (show k ≤ 30 by omega)) (by decide)
  have := bShl_nat (m := 1) hk (by omega)
  rw [Nat.one_mul] at this
  exact this
theorem nI_and (a b : Nat) : nI a &&& nI b = nI (a &&& b) := by
  unfold nI
  apply Int32.toBitVec_inj.mp
  show BitVec.ofNat 32 a &&& BitVec.ofNat 32 b = BitVec.ofNat 32 (a &&& b)
  exact BitVec.ofNat_and.symm
theorem nI_or (a b : Nat) : nI a ||| nI b = nI (a ||| b) := by
  unfold nI
  apply Int32.toBitVec_inj.mp
  show BitVec.ofNat 32 a ||| BitVec.ofNat 32 b = BitVec.ofNat 32 (a ||| b)
  exact BitVec.ofNat_or.symm
theorem bAnd_nat {a b : Nat} (ha : a < 2147483648) : bAnd (a : Int) (b : Int) = ((a &&& b : Nat) : Int) := by
  unfold bAnd
  rw [← iI_nI, ← iI_nI, nI_and]
  exact nI_toInt (Nat.lt_of_le_of_lt Nat.and_le_left ha)
theorem bOr_nat {a b : Nat} (ha : a < 2147483648) (hb : b < 2147483648) : bOr (a : Int) (b : Int) = ((a ||| b : Nat) : Int) := by
  unfold bOr
  rw [← iI_nI, ← iI_nI, nI_or]
  exact nI_toInt (Nat.or_lt_two_pow (n := 31) ha hb)
theorem has_bit {m k : Nat} (hm : m < 2147483648) (hk : k < 32) : bAnd (bShr (m : Int) (k : Int)) 1 = bI (m.testBit k) := by
  rw [bShr_nat hm hk]
  have h := bAnd_nat (a := m / 2 ^ k) (b := 1) (Nat.lt_of_le_of_lt (Nat.div_le_self _ _) hm)
  rw [show ((1 : Nat) : Int) = 1 from rfl] at h
  rw [h, Nat.and_one_is_mod, Nat.testBit_eq_decide_div_mod_eq]
  rcases Nat.mod_two_eq_zero_or_one (m / 2 ^ k) with e | e <;> simp [e, bI]
-- what a net is: a row g of 24 numbers: 0 how many, 1 reach, 2 rule, 3 awake, 4.. x, 14.. y
def gN (g : Nat → Int) : Nat := (g 0).toNat
def gA (g : Nat → Int) (w : Nat) : Bool := (g 3).toNat.testBit w
def gF (g : Nat → Int) (u v : Nat) : Int := (g (4 + u) - g (4 + v)) * (g (4 + u) - g (4 + v)) + (g (14 + u) - g (14 + v)) * (g (14 + u) - g (14 + v))
def gL (g : Nat → Int) (u v : Nat) : Bool := decide (u ≠ v) && gA g u && gA g v && decide (gF g u v ≤ g 1)
/-- w stands between u and v, by the rule -/
def gB (g : Nat → Int) (u v w : Nat) : Bool := if g 2 = 0 then decide (gF g u w + gF g w v ≤ gF g u v) else (decide (gF g u w < gF g u v) && decide (gF g w v < gF g u v))
/-- w does not forbid the link of u and v -/
def gK (g : Nat → Int) (u v w : Nat) : Bool := decide (w = u) || decide (w = v) || !gA g w || !gB g u v w
def gKs (g : Nat → Int) (u v : Nat) : Nat → Bool
  | 0 => true
  | w + 1 => gKs g u v w && gK g u v w
def gT (g : Nat → Int) (u v : Nat) : Bool := gL g u v && gKs g u v (gN g)
def gS (g : Nat → Int) (a b c : Nat) : Int := (g (4 + b) - g (4 + a)) * (g (14 + c) - g (14 + a)) - (g (14 + b) - g (14 + a)) * (g (4 + c) - g (4 + a))
def gD (g : Nat → Int) (a b c : Nat) : Int := (g (4 + b) - g (4 + a)) * (g (4 + c) - g (4 + a)) + (g (14 + b) - g (14 + a)) * (g (14 + c) - g (14 + a))
def gP (g : Nat → Int) (u p w : Nat) : Int := if 0 < gS g u p w then 1 else if gS g u p w < 0 then 3 else if 0 < gD g u p w then 0 else 2
def gH (g : Nat → Int) (u p a b : Nat) : Bool := if gP g u p a ≠ gP g u p b then decide (gP g u p a < gP g u p b) else if gS g u a b ≠ 0 then decide (0 < gS g u a b) else decide (gF g u a < gF g u b)
def gO (g : Nat → Int) (u p : Nat) (but : Int) : Nat → Int
  | 0 => -1
  | k + 1 => if (k : Int) ≠ but ∧ gT g u k = true ∧ (gO g u p but k = -1 ∨ gH g u p k (gO g u p but k).toNat = true) then (k : Int) else gO g u p but k
def gU (g : Nat → Int) (u v : Nat) : Int := if gO g u v v (gN g) ≠ -1 then gO g u v v (gN g) else if gT g u v = true then (v : Int) else -1
def gR (g : Nat → Int) (u t : Nat) : Nat → Int
  | 0 => -1
  | k + 1 => if gL g u k = true ∧ gF g k t < gF g u t ∧ (gR g u t k = -1 ∨ gF g k t < gF g (gR g u t k).toNat t) then (k : Int) else gR g u t k
/-- sets of those linked, thin, with v, of the first k -/
def gLs (g : Nat → Int) (v : Nat) : Nat → Nat
  | 0 => 0
  | k + 1 => gLs g v k ||| (if gL g v k then 2 ^ k else 0)
def gTs (g : Nat → Int) (v : Nat) : Nat → Nat
  | 0 => 0
  | k + 1 => gTs g v k ||| (if gT g v k then 2 ^ k else 0)
/-- what holds of every net that comes about -/
def okg (g : Nat → Int) : Prop := (0 ≤ g 0 ∧ g 0 ≤ 10) ∧ (1 ≤ g 1 ∧ g 1 ≤ 8000) ∧ (g 2 = 0 ∨ g 2 = 1) ∧ (0 ≤ g 3 ∧ (g 3).toNat < 2 ^ (g 0).toNat) ∧ (∀ i, i < 20 → 0 ≤ g (4 + i) ∧ g (4 + i) ≤ 63) ∧ ∀ i j, i < gN g → j < gN g → i ≠ j → g (4 + i) ≠ g (4 + j) ∨ g (14 + i) ≠ g (14 + j)
theorem okg.n {g : Nat → Int} (h : okg g) : g 0 = (gN g : Int) ∧ gN g ≤ 10 := by
  have := h.1
  unfold gN
  omega
theorem okg.x {g : Nat → Int} (h : okg g) {i : Nat} (hi : i < 10) : 0 ≤ g (4 + i) ∧ g (4 + i) ≤ 63 := h.2.2.2.2.1 i (by omega)
theorem okg.y {g : Nat → Int} (h : okg g) {i : Nat} (hi : i < 10) : 0 ≤ g (14 + i) ∧ g (14 + i) ≤ 63 := by
  have := h.2.2.2.2.1 (10 + i) (by omega)
  rwa [show 4 + (10 + i) = 14 + i by omega] at this
theorem okg.a {g : Nat → Int} (h : okg g) : g 3 = ((g 3).toNat : Int) ∧ (g 3).toNat < 1024 := by
  have h1 := h.1
  have h3 := h.2.2.2.1
  refine ⟨by omega, Nat.lt_of_lt_of_le h3.2 ?_⟩
  exact Nat.pow_le_pow_right (by decide) (show (g 0).toNat ≤ 10 by omega)
theorem sq_rg {a b : Int} (ha : 0 ≤ a ∧ a ≤ 63) (hb : 0 ≤ b ∧ b ≤ 63) : 0 ≤ (a - b) * (a - b) ∧ (a - b) * (a - b) ≤ 3969 := by
  have h1 : -63 ≤ a - b ∧ a - b ≤ 63 := by omega
  generalize a - b = d at h1
  constructor
  · rcases Int.le_total 0 d with h | h
    · exact Int.mul_nonneg h h
    · exact Int.mul_nonneg_of_nonpos_of_nonpos h h
  · have : 0 ≤ (63 - d) * (63 + d) := Int.mul_nonneg (by omega) (by omega)
    have e : (63 - d) * (63 + d) = 3969 - d * d := by grind
    omega
theorem pr_rg {a b : Int} (ha : -63 ≤ a ∧ a ≤ 63) (hb : -63 ≤ b ∧ b ≤ 63) : -3969 ≤ a * b ∧ a * b ≤ 3969 := by
  have h1 : 0 ≤ (63 - a) * (63 + b) := Int.mul_nonneg (by omega) (by omega)
  have h2 : 0 ≤ (63 + a) * (63 - b) := Int.mul_nonneg (by omega) (by omega)
  have h3 : 0 ≤ (63 - a) * (63 - b) := Int.mul_nonneg (by omega) (by omega)
  have h4 : 0 ≤ (63 + a) * (63 + b) := Int.mul_nonneg (by omega) (by omega)
  have e1 : (63 - a) * (63 + b) = 3969 - 63 * a + 63 * b - a * b := by grind
  have e2 : (63 + a) * (63 - b) = 3969 + 63 * a - 63 * b - a * b := by grind
  have e3 : (63 - a) * (63 - b) = 3969 - 63 * a - 63 * b + a * b := by grind
  have e4 : (63 + a) * (63 + b) = 3969 + 63 * a + 63 * b + a * b := by grind
  omega
theorem okg.f {g : Nat → Int} (h : okg g) {u v : Nat} (hu : u < 10) (hv : v < 10) : 0 ≤ gF g u v ∧ gF g u v ≤ 7938 := by
  have h1 := sq_rg (h.x hu) (h.x hv)
  have h2 := sq_rg (h.y hu) (h.y hv)
  unfold gF
  omega
theorem okg.s {g : Nat → Int} (h : okg g) {a b c : Nat} (ha : a < 10) (hb : b < 10) (hc : c < 10) : -7938 ≤ gS g a b c ∧ gS g a b c ≤ 7938 := by
  have xa := h.x ha; have xb := h.x hb; have xc := h.x hc; have ya := h.y ha; have yb := h.y hb; have yc := h.y hc
  have h1 := pr_rg (a := g (4 + b) - g (4 + a)) (b := g (14 + c) - g (14 + a)) (by omega) (by omega)
  have h2 := pr_rg (a := g (14 + b) - g (14 + a)) (b := g (4 + c) - g (4 + a)) (by omega) (by omega)
  unfold gS
  omega
theorem okg.d {g : Nat → Int} (h : okg g) {a b c : Nat} (ha : a < 10) (hb : b < 10) (hc : c < 10) : -7938 ≤ gD g a b c ∧ gD g a b c ≤ 7938 := by
  have xa := h.x ha; have xb := h.x hb; have xc := h.x hc; have ya := h.y ha; have yb := h.y hb; have yc := h.y hc
  have h1 := pr_rg (a := g (4 + b) - g (4 + a)) (b := g (4 + c) - g (4 + a)) (by omega) (by omega)
  have h2 := pr_rg (a := g (14 + b) - g (14 + a)) (b := g (14 + c) - g (14 + a)) (by omega) (by omega)
  unfold gD
  omega
theorem gP_rg (g : Nat → Int) (u p w : Nat) : 0 ≤ gP g u p w ∧ gP g u p w ≤ 3 := by
  unfold gP
  split
  · omega
  · split
    · omega
    · split <;> omega
theorem gO_rg (g : Nat → Int) (u p : Nat) (but : Int) : ∀ k, -1 ≤ gO g u p but k ∧ gO g u p but k < k
  | 0 => by simp [gO]
  | k + 1 => by
    have := gO_rg g u p but k
    unfold gO
    split <;> omega
theorem gR_rg (g : Nat → Int) (u t : Nat) : ∀ k, -1 ≤ gR g u t k ∧ gR g u t k < k
  | 0 => by simp [gR]
  | k + 1 => by
    have := gR_rg g u t k
    unfold gR
    split <;> omega
theorem gLs_lt (g : Nat → Int) (v : Nat) : ∀ k, gLs g v k < 2 ^ k
  | 0 => by simp [gLs]
  | k + 1 => by
    have := gLs_lt g v k
    unfold gLs
    refine Nat.or_lt_two_pow (Nat.lt_of_lt_of_le this (Nat.pow_le_pow_right (by decide) (by omega))) ?_
    split
    · exact Nat.pow_lt_pow_right (by decide) (by omega)
    · exact Nat.two_pow_pos _
theorem gTs_lt (g : Nat → Int) (v : Nat) : ∀ k, gTs g v k < 2 ^ k
  | 0 => by simp [gTs]
  | k + 1 => by
    have := gTs_lt g v k
    unfold gTs
    refine Nat.or_lt_two_pow (Nat.lt_of_lt_of_le this (Nat.pow_le_pow_right (by decide) (by omega))) ?_
    split
    · exact Nat.pow_lt_pow_right (by decide) (by omega)
    · exact Nat.two_pow_pos _
-- the reference's net in the memory
def mdl (V : Mem) (g : Nat → Int) : Prop := ∀ k, k < 24 → V 73 k = g k
theorem gKs_mono {g : Nat → Int} {u v : Nat} : ∀ {w n : Nat}, w ≤ n → gKs g u v n = true → gKs g u v w = true
  | w, 0, h, hn => by rw [Nat.le_zero.mp h]; exact hn
  | w, n + 1, h, hn => by
    rcases Nat.lt_or_eq_of_le h with h | h
    · refine gKs_mono (Nat.lt_succ_iff.mp h) ?_
      simp [gKs] at hn
      exact hn.1
    · rw [h]; exact hn
theorem gT_false {g : Nat → Int} {u v w : Nat} (hw : w ≤ gN g) (h : (gL g u v && gKs g u v w) = false) : gT g u v = false := by
  unfold gT
  cases h1 : gL g u v with
  | false => rfl
  | true =>
    rw [h1, Bool.true_and] at h
    cases h2 : gKs g u v (gN g) with
    | false => rfl
    | true => rw [gKs_mono hw h2] at h; cases h
def gSt (g : Nat → Int) (b : Bool) (v k : Nat) : Nat := if b then gTs g v k else gLs g v k
theorem gSt_lt (g : Nat → Int) (b : Bool) (v k : Nat) : gSt g b v k < 2 ^ k := by
  unfold gSt
  split
  · exact gTs_lt g v k
  · exact gLs_lt g v k
theorem p2_31 {k : Nat} (h : k < 31) : 2 ^ k < 2147483648 := Nat.lt_of_le_of_lt (Nat.pow_le_pow_right (by decide) (show k ≤ 30 by omega)) (by decide)
theorem gSt_31 {g : Nat → Int} {b : Bool} {v k : Nat} (h : k < 31) : gSt g b v k < 2147483648 := Nat.lt_trans (gSt_lt g b v k) (p2_31 h)
-- the class's net in the memory
def cls (V : Mem) (g : Nat → Int) : Prop := V 1 2 = g 0 ∧ V 1 3 = g 3 ∧ V 1 4 = g 1 ∧ V 1 5 = g 2 ∧ (∀ i, i < 10 → V 2 i = g (4 + i)) ∧ ∀ i, i < 10 → V 3 i = g (14 + i)
theorem gA_ge {g : Nat → Int} (ok : okg g) {k : Nat} (h : gN g ≤ k) : gA g k = false := by
  unfold gA
  exact Nat.testBit_lt_two_pow (Nat.lt_of_lt_of_le ok.2.2.2.1.2 (Nat.pow_le_pow_right (by decide) h))
/-- who stands at a place, of the first k -/
def gW (g : Nat → Int) (x y : Int) : Nat → Int
  | 0 => -1
  | k + 1 => if gW g x y k ≠ -1 then gW g x y k else if g (4 + k) = x ∧ g (14 + k) = y then (k : Int) else -1
theorem gW_stay {g : Nat → Int} {x y : Int} {k : Nat} (h : gW g x y k ≠ -1) : ∀ {n : Nat}, k ≤ n → gW g x y n = gW g x y k
  | 0, hn => by rw [Nat.le_zero.mp hn]
  | n + 1, hn => by
    rcases Nat.lt_or_eq_of_le hn with q | q
    · have e := gW_stay h (Nat.lt_succ_iff.mp q)
      rw [show gW g x y (n + 1) = if gW g x y n ≠ -1 then gW g x y n else if g (4 + n) = x ∧ g (14 + n) = y then (n : Int) else -1 from rfl, e, if_pos h]
    · rw [q]
theorem gW_at {g : Nat → Int} {x y : Int} {w n : Nat} (h : w < n) (h0 : gW g x y w = -1) (hx : g (4 + w) = x) (hy : g (14 + w) = y) : gW g x y n = (w : Int) := by
  have e : gW g x y (w + 1) = (w : Int) := by
    rw [show gW g x y (w + 1) = if gW g x y w ≠ -1 then gW g x y w else if g (4 + w) = x ∧ g (14 + w) = y then (w : Int) else -1 from rfl, if_neg (by simp [h0]), if_pos ⟨hx, hy⟩]
  rw [gW_stay (by rw [e]; omega) (show w + 1 ≤ n by omega), e]
theorem gW_rg (g : Nat → Int) (x y : Int) : ∀ k, -1 ≤ gW g x y k ∧ gW g x y k < k
  | 0 => by simp [gW]
  | k + 1 => by
    have := gW_rg g x y k
    unfold gW
    split
    · omega
    · split <;> omega
theorem gLs_bit (g : Nat → Int) (u w : Nat) : ∀ k, (gLs g u k).testBit w = (decide (w < k) && gL g u w)
  | 0 => by simp [gLs]
  | k + 1 => by
    unfold gLs
    rw [Nat.testBit_or, gLs_bit g u w k]
    by_cases h : w = k
    · subst h
      cases hL : gL g u w <;> simp [Nat.testBit_two_pow_self]
    · have h1 : (if gL g u k = true then 2 ^ k else 0).testBit w = false := by
        split
        · rw [Nat.testBit_two_pow]; simp; omega
        · exact Nat.zero_testBit w
      rw [h1, Bool.or_false]
      congr 1
      apply decide_eq_decide.mpr
      omega
theorem gTs_bit (g : Nat → Int) (u w : Nat) : ∀ k, (gTs g u k).testBit w = (decide (w < k) && gT g u w)
  | 0 => by simp [gTs]
  | k + 1 => by
    unfold gTs
    rw [Nat.testBit_or, gTs_bit g u w k]
    by_cases h : w = k
    · subst h
      cases hL : gT g u w <;> simp [Nat.testBit_two_pow_self]
    · have h1 : (if gT g u k = true then 2 ^ k else 0).testBit w = false := by
        split
        · rw [Nat.testBit_two_pow]; simp; omega
        · exact Nat.zero_testBit w
      rw [h1, Bool.or_false]
      congr 1
      apply decide_eq_decide.mpr
      omega
theorem gLs_31 {g : Nat → Int} (ok : okg g) (u : Nat) : gLs g u (gN g) < 1024 := Nat.lt_of_lt_of_le (gLs_lt g u _) (Nat.pow_le_pow_right (by decide) ok.n.2)
theorem gTs_31 {g : Nat → Int} (ok : okg g) (u : Nat) : gTs g u (gN g) < 1024 := Nat.lt_of_lt_of_le (gTs_lt g u _) (Nat.pow_le_pow_right (by decide) ok.n.2)
/-- the class's net, and what it made of it -/
def net (V : Mem) (g : Nat → Int) : Prop := cls V g ∧ (∀ u, u < 10 → V 5 u = (gLs g u (gN g) : Int)) ∧ ∀ u, u < 10 → V 6 u = (gTs g u (gN g) : Int)
theorem gF_sym (g : Nat → Int) (u v : Nat) : gF g u v = gF g v u := by unfold gF; grind
theorem gL_sym (g : Nat → Int) (u v : Nat) : gL g u v = gL g v u := by
  unfold gL
  rw [gF_sym g u v]
  cases gA g u <;> cases gA g v <;> simp [eq_comm]
theorem gB_sym (g : Nat → Int) (u v w : Nat) : gB g u v w = gB g v u w := by
  unfold gB
  rw [gF_sym g v u, gF_sym g v w, gF_sym g w u]
  split
  · congr 1; rw [Int.add_comm]
  · rw [Bool.and_comm]
theorem gK_sym (g : Nat → Int) (u v w : Nat) : gK g u v w = gK g v u w := by
  unfold gK
  rw [gB_sym, Bool.or_comm (decide (w = u))]
theorem gKs_sym (g : Nat → Int) (u v : Nat) : ∀ k, gKs g u v k = gKs g v u k
  | 0 => rfl
  | k + 1 => by unfold gKs; rw [gKs_sym g u v k, gK_sym]
theorem gT_sym (g : Nat → Int) (u v : Nat) : gT g u v = gT g v u := by unfold gT; rw [gL_sym, gKs_sym]
theorem gL_lt {g : Nat → Int} (ok : okg g) {u v : Nat} (h : gL g u v = true) : u < gN g ∧ v < gN g ∧ u ≠ v := by
  unfold gL at h
  simp only [Bool.and_eq_true, decide_eq_true_eq] at h
  refine ⟨?_, ?_, h.1.1.1⟩
  · rcases Nat.lt_or_ge u (gN g) with q | q
    · exact q
    · rw [gA_ge ok q] at h; exact absurd h.1.1.2 (by decide)
  · rcases Nat.lt_or_ge v (gN g) with q | q
    · exact q
    · rw [gA_ge ok q] at h; exact absurd h.1.2 (by decide)
theorem gT_L {g : Nat → Int} {u v : Nat} (h : gT g u v = true) : gL g u v = true := by
  unfold gT at h
  exact (Bool.and_eq_true _ _ ▸ h : _ ∧ _).1
theorem gT_lt {g : Nat → Int} (ok : okg g) {u v : Nat} (h : gT g u v = true) : u < gN g ∧ v < gN g ∧ u ≠ v := gL_lt ok (gT_L h)
theorem sq_nn (d : Int) : 0 ≤ d * d := by
  rcases Int.le_total 0 d with h | h
  · exact Int.mul_nonneg h h
  · exact Int.mul_nonneg_of_nonpos_of_nonpos h h
theorem sq_pos {d : Int} (h : d ≠ 0) : 0 < d * d := by
  rcases Int.lt_or_gt_of_ne h with h | h
  · exact Int.mul_pos_of_neg_of_neg h h
  · exact Int.mul_pos h h
theorem gF_pos {g : Nat → Int} (ok : okg g) {u v : Nat} (hu : u < gN g) (hv : v < gN g) (h : u ≠ v) : 0 < gF g u v := by
  have h1 := sq_nn (g (4 + u) - g (4 + v))
  have h2 := sq_nn (g (14 + u) - g (14 + v))
  unfold gF
  rcases ok.2.2.2.2.2 u v hu hv h with q | q
  · have := sq_pos (d := g (4 + u) - g (4 + v)) (by omega)
    omega
  · have := sq_pos (d := g (14 + u) - g (14 + v)) (by omega)
    omega
def gBh (g : Nat → Int) (u p w : Nat) : Bool := decide (gS g u p w < 0) || (decide (gS g u p w = 0) && decide (gD g u p w < 0))
def gSo (g : Nat → Int) (u w f : Nat) : Bool := decide (0 < gS g u w f) || (decide (gS g u w f = 0) && decide (gF g u w < gF g u f))
theorem gP_id (g : Nat → Int) (u p w f : Nat) : gF g p u * gS g u w f = gD g u p w * gS g u p f - gS g u p w * gD g u p f := by
  unfold gF gS gD
  exact turn_id (g (4 + p) - g (4 + u)) (g (14 + p) - g (14 + u)) (g (4 + w) - g (4 + u)) (g (14 + w) - g (14 + u)) (g (4 + f) - g (4 + u)) (g (14 + f) - g (14 + u))
theorem gP_nn (g : Nat → Int) (u p w : Nat) : gS g u p w * gS g u p w + gD g u p w * gD g u p w = gF g p u * gF g w u := by
  unfold gF gS gD
  exact turn_nn (g (4 + p) - g (4 + u)) (g (14 + p) - g (14 + u)) (g (4 + w) - g (4 + u)) (g (14 + w) - g (14 + u))
theorem gD_ne {g : Nat → Int} (ok : okg g) {u p w : Nat} (hu : u < gN g) (hp : p < gN g) (hw : w < gN g) (h1 : p ≠ u) (h2 : w ≠ u) (hs : gS g u p w = 0) : gD g u p w ≠ 0 := by
  intro hd
  have := gP_nn g u p w
  rw [hs, hd] at this
  have := Int.mul_pos (gF_pos ok hp hu h1) (gF_pos ok hw hu h2)
  omega
theorem pos_of_mul {a b : Int} (ha : 0 < a) (h : 0 < a * b) : 0 < b := by
  rcases Int.lt_trichotomy b 0 with q | q | q
  · have := Int.mul_neg_of_pos_of_neg ha q; omega
  · rw [q, Int.mul_zero] at h; omega
  · exact q
theorem neg_of_mul {a b : Int} (ha : 0 < a) (h : a * b < 0) : b < 0 := by
  rcases Int.lt_trichotomy b 0 with q | q | q
  · exact q
  · rw [q, Int.mul_zero] at h; omega
  · have := Int.mul_pos ha q; omega
/-- the two orders are one -/
theorem gH_eq {g : Nat → Int} (ok : okg g) {u p w f : Nat} (hu : u < gN g) (hp : p < gN g) (hw : w < gN g) (hf : f < gN g) (h1 : p ≠ u) (h2 : w ≠ u) (h3 : f ≠ u) : gH g u p w f = if gBh g u p w = gBh g u p f then gSo g u w f else gBh g u p f := by
  have d1 := gD_ne ok hu hp hw h1 h2
  have d2 := gD_ne ok hu hp hf h1 h3
  have id := gP_id g u p w f
  have pp := gF_pos ok hp hu h1
  unfold gH gBh gSo gP
  generalize gS g u p w = c1 at *
  generalize gS g u p f = c2 at *
  generalize gD g u p w = e1 at *
  generalize gD g u p f = e2 at *
  generalize gS g u w f = sx at *
  generalize gF g p u = pq at *
  generalize gF g u w = f1 at *
  generalize gF g u f = f2 at *
  have k1 : 0 < e1 * c2 - c1 * e2 → 0 < sx := fun h => pos_of_mul pp (by rw [id]; exact h)
  have k2 : e1 * c2 - c1 * e2 < 0 → sx < 0 := fun h => neg_of_mul pp (by rw [id]; exact h)
  have m1 : 0 < e1 → 0 < c2 → 0 < e1 * c2 := fun a b => Int.mul_pos a b
  have m2 : 0 < c1 → 0 < e2 → 0 < c1 * e2 := fun a b => Int.mul_pos a b
  have m3 : e1 < 0 → c2 < 0 → 0 < e1 * c2 := fun a b => Int.mul_pos_of_neg_of_neg a b
  have m4 : c1 < 0 → e2 < 0 → 0 < c1 * e2 := fun a b => Int.mul_pos_of_neg_of_neg a b
  have z1 : c1 = 0 → c1 * e2 = 0 := fun a => by rw [a, Int.zero_mul]
  have z2 : c2 = 0 → e1 * c2 = 0 := fun a => by rw [a, Int.mul_zero]
  rcases Int.lt_trichotomy c1 0 with a | a | a <;> rcases Int.lt_trichotomy c2 0 with b | b | b <;>
    rcases Int.lt_trichotomy e1 0 with a' | a' | a' <;> rcases Int.lt_trichotomy e2 0 with b' | b' | b' <;>
    grind
