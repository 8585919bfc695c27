theorem gKs_at {g : Nat → Int} {u v w : Nat} : ∀ {n : Nat}, gKs g u v n = true → w < n → gK g u v w = true
  | 0, _, h => absurd h (Nat.not_lt_zero _)
  | n + 1, hn, h => by
    simp only [gKs, Bool.and_eq_true] at hn
    rcases Nat.lt_or_eq_of_le (Nat.lt_succ_iff.mp h) with q | q
    · exact gKs_at hn.1 q
    · rw [q]; exact hn.2
theorem gT_blk {g : Nat → Int} (ok : okg g) {u v w : Nat} (hT : gT g u v = true) (hw : w < gN g) (ha : gA g w = true) (h1 : w ≠ u) (h2 : w ≠ v) : gF g u v < gF g u w + gF g w v := by
  have hl := gT_lt ok hT
  have hK : gKs g u v (gN g) = true := by
    unfold gT at hT
    exact (Bool.and_eq_true _ _ ▸ hT : _ ∧ _).2
  have hk := gKs_at hK hw
  unfold gK gB at hk
  simp only [ha, h1, h2, decide_false, Bool.not_true, Bool.false_or] at hk
  have p1 := gF_pos ok hl.1 hw (fun q => h1 q.symm)
  have p2 := gF_pos ok hw hl.2.1 h2
  split at hk
  · simp at hk; exact hk
  · simp at hk
    omega
theorem gR_none {g : Nat → Int} {u t v : Nat} : ∀ {k : Nat}, gR g u t k = -1 → v < k → gL g u v = true → gF g u t ≤ gF g v t
  | 0, _, h, _ => absurd h (Nat.not_lt_zero _)
  | k + 1, hk, h, hL => by
    rw [gR_c] at hk
    by_cases q : gL g u k = true ∧ gF g k t < gRl g u t k
    · rw [if_pos q] at hk; omega
    · rw [if_neg q] at hk
      rcases Nat.lt_or_eq_of_le (Nat.lt_succ_iff.mp h) with z | z
      · exact gR_none hk z hL
      · subst z
        unfold gRl at q
        rw [if_pos hk] at q
        rcases Int.lt_or_le (gF g v t) (gF g u t) with y | y
        · exact absurd ⟨hL, y⟩ q
        · exact y
theorem gF_self (g : Nat → Int) (u : Nat) : gF g u u = 0 := by unfold gF; simp
/-- no link of the thinned net is met by the stretch from an entry to its aim -/
theorem gNC {g : Nat → Int} (ok : okg g) {e t u v : Nat} (he : e < gN g) (ht : t < gN g) (hae : gA g e = true) (hat : gA g t = true) (het : e ≠ t) (hut : u ≠ t) (hR : gR g e t (gN g) = -1) (hT : gT g u v = true) (hF : gF g e t ≤ gF g u t)
    {a b up dn : Int} (ha : a = gS g e t u) (hb : b = gS g e t v)
    (hup : up = (g (4 + u) - g (4 + e)) * (g (14 + v) - g (14 + u)) - (g (14 + u) - g (14 + e)) * (g (4 + v) - g (4 + u)))
    (hdn : dn = (g (4 + t) - g (4 + e)) * (g (14 + v) - g (14 + u)) - (g (14 + t) - g (14 + e)) * (g (4 + v) - g (4 + u))) (hs : ¬ (0 ≤ a ↔ 0 ≤ b)) :
    ¬ (0 < (if dn < 0 then -up else up) ∧ (if dn < 0 then -up else up) < (if dn < 0 then -dn else dn)) := by
  have hl := gT_lt ok hT
  by_cases c1 : u = e
  · subst c1
    have : up = 0 := by rw [hup]; grind
    rw [this]; rintro ⟨h, -⟩; split at h <;> omega
  by_cases c2 : v = e
  · subst c2
    have : up = 0 := by rw [hup]; grind
    rw [this]; rintro ⟨h, -⟩; split at h <;> omega
  by_cases c3 : v = t
  · subst c3
    have : up = dn := by rw [hup, hdn]; grind
    rw [this]; rintro ⟨-, h⟩; split at h <;> omega
  have hLv : gA g v = true := by
    have := gT_L hT
    unfold gL at this
    simp only [Bool.and_eq_true] at this
    exact this.1.2
  have hLr : gF g u v ≤ g 1 := by
    have := gT_L hT
    unfold gL at this
    simp only [Bool.and_eq_true, decide_eq_true_eq] at this
    exact this.2
  have b1 := gT_blk ok hT he hae (fun q => c1 q.symm) (fun q => c2 q.symm)
  have b2 := gT_blk ok hT ht hat (fun q => hut q.symm) (fun q => c3 q.symm)
  have b3 : gF g u v < gF g e v ∨ gF g e t ≤ gF g v t := by
    rcases Int.lt_or_le (gF g u v) (gF g e v) with q | q
    · exact Or.inl q
    · refine Or.inr (gR_none hR hl.2.1 ?_)
      unfold gL
      rw [hae, hLv, decide_eq_true (show e ≠ v from fun z => c2 z.symm), decide_eq_true (show gF g e v ≤ g 1 by omega)]
      rfl
  have b4 := gF_pos ok hl.1 he c1
  exact nc_xy (ex := g (4 + e)) (ey := g (14 + e)) (tx := g (4 + t)) (ty := g (14 + t)) (ux := g (4 + u)) (uy := g (14 + u)) (vx := g (4 + v)) (vy := g (14 + v)) hF b1 b2 b3 b4 ha hb hup hdn hs
theorem gU_T {g : Nat → Int} {u v : Nat} (h : gU g u v ≠ -1) : gT g u (gU g u v).toNat = true ∧ 0 ≤ gU g u v := by
  unfold gU at h ⊢
  by_cases q : gO g u v v (gN g) = -1
  · rw [if_neg (by simp [q])] at h ⊢
    by_cases z : gT g u v = true
    · rw [if_pos z]; exact ⟨by simpa using z, by omega⟩
    · rw [if_neg z] at h; exact absurd rfl h
  · rw [if_pos q]
    exact ⟨(gO_T q).1, by have := gO_rg g u v v (gN g); omega⟩
theorem gU_ne {g : Nat → Int} {u v : Nat} (h : gT g u v = true) : gU g u v ≠ -1 := by
  unfold gU
  by_cases q : gO g u v v (gN g) = -1
  · rw [if_neg (by simp [q]), if_pos h]; omega
  · rw [if_pos q]; exact q
theorem gU_rg {g : Nat → Int} (ok : okg g) {u v : Nat} (hv : v < 10) : -1 ≤ gU g u v ∧ gU g u v < 10 := by
  have := gO_rg g u v v (gN g)
  have := ok.n
  unfold gU
  split
  · omega
  · split <;> omega
theorem gO_but {g : Nat → Int} {u p t : Nat} (h : gT g u t = false) : ∀ k, gO g u p (-1) k = gO g u p t k
  | 0 => rfl
  | k + 1 => by
    unfold gO
    rw [gO_but h k]
    by_cases q : k = t
    · subst q; simp [h]
    · have e1 : (k : Int) ≠ -1 := by omega
      have e2 : (k : Int) ≠ (t : Int) := by omega
      simp [e1, e2]
/-- gone astray: the aim is not linked -/
theorem astray_T {g : Nat → Int} (ok : okg g) {u t : Nat} (ht : t < gN g) (hu : u < gN g) (hut : u ≠ t) (h : gR g u t (gN g) = -1) : gT g u t = false := by
  cases q : gT g u t with
  | false => rfl
  | true =>
    have := gR_none h ht (gT_L q)
    rw [gF_self] at this
    have := gF_pos ok hu ht hut
    omega
theorem astray_U {g : Nat → Int} (ok : okg g) {u t : Nat} (ht : t < gN g) (hu : u < gN g) (hut : u ≠ t) (h : gR g u t (gN g) = -1) : gO g u t (-1) (gN g) = gU g u t := by
  have hT := astray_T ok ht hu hut h
  rw [gO_but hT]
  unfold gU
  by_cases q : gO g u t t (gN g) = -1
  · rw [if_neg (by simp [q]), if_neg (by simp [hT]), q]
  · rw [if_pos q]
-- THE WAY: at, entry (round faces) or none (greedy), next, what was seen since the entry, steps, times astray, steps round, the nodes
abbrev WS : Type := Nat × Option Nat × Int × List (Nat × Int) × Nat × Nat × Nat × (Nat → Nat)
def upN (f : Nat → Nat) (k v : Nat) : Nat → Nat := fun j => if j = k then v else f j
def wk (g : Nat → Int) (t : Nat) : Nat → WS → Nat × Nat × Nat × (Nat → Nat) × Bool
  | 0, (_, _, _, _, st, as, sr, pa) => (st, as, sr, pa, true)
  | f + 1, (u, mo, nx, seen, st, as, sr, pa) =>
    if u = t then (st, as, sr, pa, false) else if st = 200 then (st, as, sr, pa, true) else
    match mo with
    | none => if gR g u t (gN g) = -1 then (if gU g u t = -1 then (st, as + 1, sr, pa, true) else wk g t f (u, some u, gU g u t, [], st, as + 1, sr, pa))
      else wk g t f ((gR g u t (gN g)).toNat, none, nx, seen, st + 1, as, sr, upN pa (st + 1) (gR g u t (gN g)).toNat)
    | some e => if (u, nx) ∈ seen then (st, as, sr, pa, true)
      else wk g t f (nx.toNat, (if gF g nx.toNat t < gF g e t then none else some e), gU g nx.toNat u, (u, nx) :: seen, st + 1, as, sr + 1, upN pa (st + 1) nx.toNat)
def wkR (g : Nat → Int) (s t : Nat) : Nat × Nat × Nat × (Nat → Nat) × Bool := wk g t 402 (s, none, 0, [], 0, 0, 0, fun _ => s)
/-- how many turns are left at most -/
def wkM (mo : Option Nat) (st : Nat) : Nat := 2 * (200 - st) + (if mo = none then 1 else 0)
/-- what holds of a letter on its way -/
def wOK (g : Nat → Int) (t u : Nat) (mo : Option Nat) (nx : Int) (st sr : Nat) (pa : Nat → Nat) : Prop :=
  u < gN g ∧ gA g u = true ∧ st ≤ 200 ∧ sr ≤ st ∧ (∀ k, k ≤ st → pa k < gN g) ∧ pa st = u ∧
  ∀ e, mo = some e → e < gN g ∧ gA g e = true ∧ e ≠ t ∧ u ≠ t ∧ gR g e t (gN g) = -1 ∧ gF g e t ≤ gF g u t ∧ 0 ≤ nx ∧ gT g u nx.toNat = true
theorem gT_A {g : Nat → Int} {u v : Nat} (h : gT g u v = true) : gA g u = true ∧ gA g v = true := by
  have := gT_L h
  unfold gL at this
  simp only [Bool.and_eq_true] at this
  exact ⟨this.1.1.2, this.1.2⟩
theorem gL_A {g : Nat → Int} {u v : Nat} (h : gL g u v = true) : gA g u = true ∧ gA g v = true := by
  unfold gL at h
  simp only [Bool.and_eq_true] at h
  exact ⟨h.1.1.2, h.1.2⟩
theorem gR_L {g : Nat → Int} {u t : Nat} : ∀ {k : Nat}, gR g u t k ≠ -1 → gL g u (gR g u t k).toNat = true
  | 0, h => absurd rfl h
  | k + 1, h => by
    rw [gR_c] at h ⊢
    split
    · next q => simpa using q.1
    · next q => rw [if_neg q] at h; exact gR_L h
theorem wOK_greedy {g : Nat → Int} (ok : okg g) {t u : Nat} {nx : Int} {st sr : Nat} {pa : Nat → Nat} (h : wOK g t u none nx st sr pa) (hst : st ≠ 200) (hR : gR g u t (gN g) ≠ -1) : wOK g t (gR g u t (gN g)).toNat none nx (st + 1) sr (upN pa (st + 1) (gR g u t (gN g)).toNat) := by
  obtain ⟨h1, h2, h3, h4, h5, h6, h7⟩ := h
  have hL := gR_L hR
  refine ⟨(gL_lt ok hL).2.1, (gL_A hL).2, by omega, by omega, fun k hk => ?_, by simp [upN], fun e q => by cases q⟩
  unfold upN
  split
  · exact (gL_lt ok hL).2.1
  · exact h5 k (by omega)
theorem wOK_astray {g : Nat → Int} {t u : Nat} {nx : Int} {st sr : Nat} {pa : Nat → Nat} (h : wOK g t u none nx st sr pa) (hut : u ≠ t) (hR : gR g u t (gN g) = -1) (hU : gU g u t ≠ -1) : wOK g t u (some u) (gU g u t) st sr pa := by
  obtain ⟨h1, h2, h3, h4, h5, h6, h7⟩ := h
  refine ⟨h1, h2, h3, h4, h5, h6, fun e q => ?_⟩
  cases q
  exact ⟨h1, h2, hut, hut, hR, Int.le_refl _, (gU_T hU).2, (gU_T hU).1⟩
theorem wOK_round {g : Nat → Int} (ok : okg g) {t u e : Nat} {nx : Int} {st sr : Nat} {pa : Nat → Nat} (ht : t < gN g) (h : wOK g t u (some e) nx st sr pa) (hst : st ≠ 200) : wOK g t nx.toNat (if gF g nx.toNat t < gF g e t then none else some e) (gU g nx.toNat u) (st + 1) (sr + 1) (upN pa (st + 1) nx.toNat) := by
  obtain ⟨h1, h2, h3, h4, h5, h6, h7⟩ := h
  obtain ⟨e1, e2, e3, e4, e5, e6, e7, e8⟩ := h7 e rfl
  have hl := gT_lt ok e8
  have hs : gT g nx.toNat u = true := by rw [gT_sym]; exact e8
  refine ⟨hl.2.1, (gT_A e8).2, by omega, by omega, fun k hk => ?_, by simp [upN], fun e' q => ?_⟩
  · unfold upN
    split
    · exact hl.2.1
    · exact h5 k (by omega)
  · split at q
    · cases q
    · next z =>
      cases q
      refine ⟨e1, e2, e3, fun w => ?_, e5, by omega, (gU_T (gU_ne hs)).2, (gU_T (gU_ne hs)).1⟩
      rw [w, gF_self] at z
      have := gF_pos ok e1 ht e3
      omega
/-- the nodes at which it stood, as a set -/
def stS (pa : Nat → Nat) : Nat → Nat
  | 0 => 2 ^ pa 0
  | k + 1 => stS pa k ||| 2 ^ pa (k + 1)
theorem stS_cg {pa pb : Nat → Nat} : ∀ {k : Nat}, (∀ i, i ≤ k → pa i = pb i) → stS pa k = stS pb k
  | 0, h => by unfold stS; rw [h 0 (Nat.le_refl _)]
  | k + 1, h => by unfold stS; rw [stS_cg (fun i hi => h i (by omega)), h (k + 1) (Nat.le_refl _)]
theorem stS_up (pa : Nat → Nat) (k v : Nat) : stS (upN pa (k + 1) v) (k + 1) = stS pa k ||| 2 ^ v := by
  rw [show stS (upN pa (k + 1) v) (k + 1) = stS (upN pa (k + 1) v) k ||| 2 ^ (upN pa (k + 1) v (k + 1)) from rfl, stS_cg (pb := pa) (fun i hi => by unfold upN; rw [if_neg (by omega)])]
  simp [upN]
theorem stS_lt {pa : Nat → Nat} : ∀ {k : Nat}, (∀ i, i ≤ k → pa i < 10) → stS pa k < 1024
  | 0, h => Nat.pow_lt_pow_right (by decide) (h 0 (Nat.le_refl _))
  | k + 1, h => Nat.or_lt_two_pow (n := 10) (stS_lt (fun i hi => h i (by omega))) (Nat.pow_lt_pow_right (by decide) (h (k + 1) (Nat.le_refl _)))
