-- the reference's way: what its memory holds
def mFr (V0 V : Mem) : Prop := (∀ c, c ≠ 72 → c ≠ 80 → c ≠ 81 → V c = V0 c) ∧ V 72 2 = V0 72 2 ∧ V 72 3 = V0 72 3 ∧ V 72 6 = V0 72 6 ∧ V 72 7 = V0 72 7
theorem mFr_rf (V : Mem) : mFr V V := ⟨fun _ _ _ _ => rfl, rfl, rfl, rfl, rfl⟩
theorem mFr_tr {V0 V V2 : Mem} (h : mFr V0 V) (h2 : mFr V V2) : mFr V0 V2 := ⟨fun c a b d => (h2.1 c a b d).trans (h.1 c a b d), h2.2.1.trans h.2.1, h2.2.2.1.trans h.2.2.1, h2.2.2.2.1.trans h.2.2.2.1, h2.2.2.2.2.trans h.2.2.2.2⟩
theorem mFr_mdl {V0 V : Mem} {g : Nat → Int} (h : mFr V0 V) (hg : mdl V0 g) : mdl V g := mdl_eq hg (h.1 73 (by decide) (by decide) (by decide))
theorem mFr_72 {V : Mem} {k : Nat} {x : Int} (h2 : k ≠ 2) (h3 : k ≠ 3) (h6 : k ≠ 6) (h7 : k ≠ 7) : mFr V (ms V 72 k x) := by
  refine ⟨fun c a _ _ => ms_ne V a, ?_, ?_, ?_, ?_⟩ <;> rw [ms_at, if_pos rfl, if_neg (by omega)]
theorem mFr_80 {V : Mem} {c k : Nat} {x : Int} (hc : c = 80 ∨ c = 81) : mFr V (ms V c k x) := by
  refine ⟨fun d _ h1 h2 => ms_ne V (by omega), ?_, ?_, ?_, ?_⟩ <;> rw [ms_at, if_neg (by omega)]
def mRes (V0 V : Mem) (r : Nat × Nat × Nat × (Nat → Nat) × Bool) : Prop := V 72 13 = (r.1 : Int) ∧ V 72 15 = bI r.2.2.2.2 ∧ V 72 16 = (r.2.1 : Int) ∧ V 72 17 = 0 ∧ V 72 18 = (r.2.2.1 : Int) ∧ (∀ k, k ≤ r.1 → V 80 k = (r.2.2.2.1 k : Int)) ∧ mFr V0 V
def mSt (V : Mem) (g : Nat → Int) (t u : Nat) (mo : Option Nat) (nx : Int) (seen : List (Nat × Int)) (rn : Nat) : Prop :=
  ∃ k : Nat, V 72 19 = (k : Int) ∧ k ≤ rn ∧
    (∀ j, j < k → ∃ (a e : Nat) (x : Int), a < 10 ∧ e < gN g ∧ -1 ≤ x ∧ x < 10 ∧ V 81 (5 * j) = (a : Int) ∧ V 81 (5 * j + 1) = (e : Int) ∧ V 81 (5 * j + 2) = x ∧ V 81 (5 * j + 3) = 0 ∧ V 81 (5 * j + 4) = 1 ∧ (mo = none → gF g u t < gF g e t) ∧ ∀ e', mo = some e' → gF g e' t ≤ gF g e t ∧ (e = e' → (a, x) ∈ seen)) ∧
    ∀ e, mo = some e → V 72 22 = (e : Int) ∧ V 72 23 = 0 ∧ V 72 24 = 1 ∧ V 72 25 = nx ∧ ∀ p ∈ seen, ∃ j, j < k ∧ V 81 (5 * j) = (p.1 : Int) ∧ V 81 (5 * j + 1) = (e : Int) ∧ V 81 (5 * j + 2) = p.2 ∧ V 81 (5 * j + 3) = 0
theorem sawB_iff {V : Mem} {u e : Nat} {x : Int} : ∀ {k : Nat}, sawB V u e x k = true ↔ ∃ j, j < k ∧ V 81 (5 * j) = (u : Int) ∧ V 81 (5 * j + 1) = (e : Int) ∧ V 81 (5 * j + 2) = x ∧ V 81 (5 * j + 3) = 0
  | 0 => by simp [sawB]
  | k + 1 => by
    rw [sawB_s, Bool.or_eq_true, sawB_iff]
    simp only [Bool.and_eq_true, decide_eq_true_eq]
    constructor
    · rintro (⟨j, h, q⟩ | ⟨⟨⟨h1, h2⟩, h3⟩, h4⟩)
      · exact ⟨j, by omega, q⟩
      · exact ⟨k, by omega, h1, h2, h3, by omega⟩
    · rintro ⟨j, h, h1, h2, h3, h4⟩
      rcases Nat.lt_or_eq_of_le (Nat.lt_succ_iff.mp h) with q | q
      · exact Or.inl ⟨j, q, h1, h2, h3, h4⟩
      · subst q; exact Or.inr ⟨⟨⟨h1, h2⟩, h3⟩, by omega⟩
theorem pushW_old {V : Mem} {u e k i : Nat} {x : Int} (h : i < 5 * k) : pushW V u e x k 81 i = V 81 i := by
  unfold pushW
  rw [ms_ne _ (by decide)]
  simp only [ms_at, if_true]
  rw [if_neg (by omega), if_neg (by omega), if_neg (by omega), if_neg (by omega), if_neg (by omega)]
theorem pushW_new (V : Mem) (u e k : Nat) (x : Int) : pushW V u e x k 81 (5 * k) = (u : Int) ∧ pushW V u e x k 81 (5 * k + 1) = (e : Int) ∧ pushW V u e x k 81 (5 * k + 2) = x ∧ pushW V u e x k 81 (5 * k + 3) = 0 ∧ pushW V u e x k 81 (5 * k + 4) = 1 := by
  unfold pushW
  simp only [ms_ne _ (show (81 : Nat) ≠ 72 by decide), ms_at, if_true]
  refine ⟨?_, ?_, ?_, ?_, ?_⟩
  · repeat rw [if_neg (by omega)]
  · repeat rw [if_neg (by omega)]
  · repeat rw [if_neg (by omega)]
  · repeat rw [if_neg (by omega)]
  · trivial
theorem mFr_push (V : Mem) (u e k : Nat) (x : Int) : mFr V (pushW V u e x k) := by
  unfold pushW
  refine mFr_tr ?_ (mFr_72 (by decide) (by decide) (by decide) (by decide))
  exact mFr_tr (mFr_tr (mFr_tr (mFr_tr (mFr_80 (Or.inr rfl)) (mFr_80 (Or.inr rfl))) (mFr_80 (Or.inr rfl))) (mFr_80 (Or.inr rfl))) (mFr_80 (Or.inr rfl))
theorem mSt_rg {V : Mem} {g : Nat → Int} (ok : okg g) {k : Nat} {P : Nat → Nat → Int → Prop}
    (h : ∀ j, j < k → ∃ (a e : Nat) (x : Int), a < 10 ∧ e < gN g ∧ -1 ≤ x ∧ x < 10 ∧ V 81 (5 * j) = (a : Int) ∧ V 81 (5 * j + 1) = (e : Int) ∧ V 81 (5 * j + 2) = x ∧ V 81 (5 * j + 3) = 0 ∧ V 81 (5 * j + 4) = 1 ∧ P a e x) (i : Nat) (hi : i < 5 * k) : -10 ≤ V 81 i ∧ V 81 i ≤ 10 := by
  have n1 := ok.n
  obtain ⟨a, e, x, h1, h2, h3, h4, q0, q1, q2, q3, q4, -⟩ := h (i / 5) (by omega)
  rcases (show i = 5 * (i / 5) ∨ i = 5 * (i / 5) + 1 ∨ i = 5 * (i / 5) + 2 ∨ i = 5 * (i / 5) + 3 ∨ i = 5 * (i / 5) + 4 by omega) with z | z | z | z | z <;> rw [z]
  · rw [q0]; omega
  · rw [q1]; omega
  · rw [q2]; omega
  · rw [q3]; omega
  · rw [q4]; omega
/-- what the memory holds at the head of the loop -/
def mW (V0 V : Mem) (u st as rn : Nat) (pa : Nat → Nat) : Prop := V 72 13 = (st : Int) ∧ V 72 15 = 0 ∧ V 72 16 = (as : Int) ∧ V 72 17 = 0 ∧ V 72 18 = (rn : Int) ∧ V 72 21 = (u : Int) ∧ (∀ k, k ≤ st → V 80 k = (pa k : Int)) ∧ mFr V0 V
theorem path_up {V : Mem} {pa : Nat → Nat} {st v : Nat} (h : ∀ k, k ≤ st → V 80 k = (pa k : Int)) (k : Nat) (hk : k ≤ st + 1) : (if k = st + 1 then (v : Int) else V 80 k) = (upN pa (st + 1) v k : Int) := by
  unfold upN
  split
  · rfl
  · exact h k (by omega)
set_option maxHeartbeats 4000000 in
theorem wkm_loop {O : OmT} {F : PhT} {g : Nat → Int} {post : Mem → Prop} (C : cx O F RX6 cX6_walks 5 none wsX6_walks) (hQ : qV O F post) (ok : okg g) {s : Int} {t : Nat} (htn : t < gN g) (hat : gA g t = true) {V0 : Mem} (hg0 : mdl V0 g) :
    ∀ (fuel : Nat) (V : Mem) (u : Nat) (mo : Option Nat) (nx : Int) (seen : List (Nat × Int)) (st as rn : Nat) (pa : Nat → Nat), mW V0 V u st as rn pa → mSt V g t u mo nx seen rn → wOK g t u mo nx st rn pa → wkM mo st < fuel → (∀ V', mRes V0 V' (wk g t fuel (u, mo, nx, seen, st, as, rn, pa)) → post V') →
      J O F rX6_walks 5 V 44 [(0, sr 72), (1, si s), (2, si (t : Int)), (3, si (bI mo.isNone))] [] := by
  intro fuel
  induction fuel with
  | zero => intro V u mo nx seen st as rn pa _ _ _ h; exact absurd h (Nat.not_lt_zero _)
  | succ fuel ih =>
    intro V u mo nx seen st as rn pa hW hS hO hf hpo
    have n1 := ok.n
    obtain ⟨w13, w15, w16, w17, w18, w21, w80, wF⟩ := id hW
    obtain ⟨o1, o2, o3, o4, o5, o6, o7⟩ := id hO
    have hg := mFr_mdl wF hg0
    by_cases hut : u = t
    · refine wkm_end (g := g) C hQ w21 (by omega) (by omega) hut (hpo V ?_)
      rw [show wk g t (fuel + 1) (u, mo, nx, seen, st, as, rn, pa) = (st, as, rn, pa, false) by unfold wk; rw [if_pos hut]]
      exact ⟨w13, w15, w16, w17, w18, w80, wF⟩
    by_cases h200 : st = 200
    · refine wkm_200 (g := g) C w21 (by omega) (by omega) hut w15 (by rw [w13, h200]; rfl) ?_
      refine wkm_lost (g := g) C hQ (V := ms V 72 15 1) w21 (by omega) (by omega) hut rfl (hpo _ ?_)
      rw [show wk g t (fuel + 1) (u, mo, nx, seen, st, as, rn, pa) = (st, as, rn, pa, true) by unfold wk; rw [if_neg hut, if_pos h200]]
      exact ⟨w13, rfl, w16, w17, w18, w80, mFr_tr wF (mFr_72 (by decide) (by decide) (by decide) (by decide))⟩
    cases mo with
    | none =>
      by_cases hR : gR g u t (gN g) = -1
      · have hU := astray_U ok htn o1 hut hR
        by_cases hU2 : gU g u t = -1
        · refine wkm_as1 C w21 (by omega) (by omega) hg ok hut w15 w13 (by omega) w16 hR (by rw [hU, hU2]) ?_
          refine wkm_lost (g := g) C hQ ?_ (by omega) (by omega) hut ?_ (hpo _ ?_)
          · exact w21
          · rfl
          rw [show wk g t (fuel + 1) (u, none, nx, seen, st, as, rn, pa) = (st, as + 1, rn, pa, true) by unfold wk; rw [if_neg hut, if_neg h200]; (try dsimp only); rw [if_pos hR, if_pos hU2]]
          refine ⟨w13, rfl, ?_, w17, w18, w80, ?_⟩
          · show (as : Int) + 1 = ((as + 1 : Nat) : Int)
            rfl
          · exact mFr_tr wF (mFr_tr (mFr_tr (mFr_tr (mFr_tr (mFr_tr (mFr_72 (by decide) (by decide) (by decide) (by decide)) (mFr_72 (by decide) (by decide) (by decide) (by decide))) (mFr_72 (by decide) (by decide) (by decide) (by decide))) (mFr_72 (by decide) (by decide) (by decide) (by decide))) (mFr_72 (by decide) (by decide) (by decide) (by decide))) (mFr_72 (by decide) (by decide) (by decide) (by decide)))
        · refine wkm_as0 C w21 (by omega) (by omega) hg ok hut w15 w13 (by omega) w16 hR (by rw [hU]; exact hU2) ?_
          refine ih _ u (some u) (gU g u t) [] st (as + 1) rn pa ?_ ?_ (wOK_astray hO hut hR hU2) ?_ (fun V' h => hpo V' ?_)
          · refine ⟨w13, rfl, rfl, w17, w18, w21, w80, ?_⟩
            exact mFr_tr wF (mFr_tr (mFr_tr (mFr_tr (mFr_tr (mFr_tr (mFr_72 (by decide) (by decide) (by decide) (by decide)) (mFr_72 (by decide) (by decide) (by decide) (by decide))) (mFr_72 (by decide) (by decide) (by decide) (by decide))) (mFr_72 (by decide) (by decide) (by decide) (by decide))) (mFr_72 (by decide) (by decide) (by decide) (by decide))) (mFr_72 (by decide) (by decide) (by decide) (by decide)))
          · obtain ⟨k, k1, k2, k3, -⟩ := hS
            refine ⟨k, k1, k2, fun j hj => ?_, fun e he => ?_⟩
            · obtain ⟨a, e, x, b1, b2, b3, b4, b5, b6, b7, b8, b9, b10, -⟩ := k3 j hj
              refine ⟨a, e, x, b1, b2, b3, b4, b5, b6, b7, b8, b9, (fun q => by cases q), fun e' q => ?_⟩
              cases q
              have := b10 rfl
              exact ⟨by omega, fun q => by rw [q] at this; omega⟩
            · cases he
              exact ⟨rfl, rfl, rfl, hU, fun p hp => by cases hp⟩
          · unfold wkM at hf ⊢; simp at hf ⊢; omega
          · rw [show wk g t (fuel + 1) (u, none, nx, seen, st, as, rn, pa) = wk g t fuel (u, some u, gU g u t, [], st, as + 1, rn, pa) by rw [wk]; rw [if_neg hut, if_neg h200]; (try dsimp only); rw [if_pos hR, if_neg hU2]]
            exact h
      · refine wkm_go C w21 (by omega) (by omega) hg ok hut w15 w13 (by omega) hR ?_
        refine ih _ (gR g u t (gN g)).toNat none nx seen (st + 1) as rn (upN pa (st + 1) (gR g u t (gN g)).toNat) ?_ ?_ (wOK_greedy ok hO h200 hR) ?_ (fun V' h => hpo V' ?_)
        · refine ⟨rfl, w15, w16, w17, w18, rfl, fun k hk => by rw [ms_at, if_pos rfl]; exact path_up w80 k hk, ?_⟩
          exact mFr_tr wF (mFr_tr (mFr_tr (mFr_72 (by decide) (by decide) (by decide) (by decide)) (mFr_72 (by decide) (by decide) (by decide) (by decide))) (mFr_80 (Or.inl rfl)))
        · obtain ⟨k, k1, k2, k3, -⟩ := hS
          refine ⟨k, k1, k2, fun j hj => ?_, fun e he => by cases he⟩
          obtain ⟨a, e, x, b1, b2, b3, b4, b5, b6, b7, b8, b9, b10, -⟩ := k3 j hj
          refine ⟨a, e, x, b1, b2, b3, b4, b5, b6, b7, b8, b9, fun _ => ?_, fun e' q => by cases q⟩
          have := b10 rfl
          have := gR_lt hR
          omega
        · unfold wkM at hf ⊢; simp at hf ⊢; omega
        · rw [show wk g t (fuel + 1) (u, none, nx, seen, st, as, rn, pa) = wk g t fuel ((gR g u t (gN g)).toNat, none, nx, seen, st + 1, as, rn, upN pa (st + 1) (gR g u t (gN g)).toNat) by rw [wk]; rw [if_neg hut, if_neg h200]; (try dsimp only); rw [if_neg hR]]
          exact h
    | some e =>
      obtain ⟨e1, e2, e3, e4, e5, e6, e7, e8⟩ := o7 e rfl
      obtain ⟨v, rfl⟩ : ∃ v : Nat, nx = (v : Int) := ⟨nx.toNat, by omega⟩
      rw [Int.toNat_natCast] at e8
      have hl := gT_lt ok e8
      obtain ⟨k, k1, k2, k3, k4⟩ := id hS
      obtain ⟨f1, f2, f3, f4, f5⟩ := k4 e rfl
      have hsr := mSt_rg ok k3
      have hsaw : sawB V u e (v : Int) k = true ↔ (u, (v : Int)) ∈ seen := by
        rw [sawB_iff]
        constructor
        · rintro ⟨j, hj, q1, q2, q3, q4⟩
          obtain ⟨a, e', x, b1, b2, b3, b4, b5, b6, b7, b8, b9, -, b11⟩ := k3 j hj
          have r1 : a = u := by omega
          have r2 : e' = e := by omega
          have r3 : x = (v : Int) := by omega
          subst r1 r3
          exact (b11 e rfl).2 r2
        · intro h
          obtain ⟨j, hj, q⟩ := f5 _ h
          exact ⟨j, hj, q⟩
      by_cases hs : (u, (v : Int)) ∈ seen
      · refine wkm_seen C w21 (by omega) (by omega) hg ok (st := st) (rn := 0) hut w15 w13 (by omega) k1 (by omega) f1 f4 f2 f3 e1 (by omega) hsr (hsaw.mpr hs) ?_
        refine wkm_lost (g := g) C hQ (V := ms V 72 15 1) w21 (by omega) (by omega) hut rfl (hpo _ ?_)
        rw [show wk g t (fuel + 1) (u, some e, (v : Int), seen, st, as, rn, pa) = (st, as, rn, pa, true) by unfold wk; rw [if_neg hut, if_neg h200]; (try dsimp only); rw [if_pos hs]]
        exact ⟨w13, rfl, w16, w17, w18, w80, mFr_tr wF (mFr_72 (by decide) (by decide) (by decide) (by decide))⟩
      · have hsaw' : sawB V u e (v : Int) k = false := by
          cases q : sawB V u e (v : Int) k with
          | false => rfl
          | true => exact absurd (hsaw.mp q) hs
        have hnext := wOK_round ok htn hO h200
        rw [Int.toNat_natCast] at hnext
        have hfr : mFr V0 (ms (ms (ms (ms (ms (pushW V u e (v : Int) k) 72 21 (v : Int)) 72 13 ((st : Int) + 1)) 80 (st + 1) (v : Int)) 72 18 ((rn : Int) + 1)) 72 25 (gU g v u)) :=
          mFr_tr wF (mFr_tr (mFr_tr (mFr_tr (mFr_tr (mFr_tr (mFr_push V u e k v) (mFr_72 (by decide) (by decide) (by decide) (by decide))) (mFr_72 (by decide) (by decide) (by decide) (by decide))) (mFr_80 (Or.inl rfl))) (mFr_72 (by decide) (by decide) (by decide) (by decide))) (mFr_72 (by decide) (by decide) (by decide) (by decide)))
        have hrow81 : ∀ i, (ms (ms (ms (ms (ms (pushW V u e (v : Int) k) 72 21 (v : Int)) 72 13 ((st : Int) + 1)) 80 (st + 1) (v : Int)) 72 18 ((rn : Int) + 1)) 72 25 (gU g v u)) 81 i = pushW V u e (v : Int) k 81 i := fun i => rfl
        have hp80 : ∀ i, i ≤ st + 1 → (ms (ms (ms (ms (ms (pushW V u e (v : Int) k) 72 21 (v : Int)) 72 13 ((st : Int) + 1)) 80 (st + 1) (v : Int)) 72 18 ((rn : Int) + 1)) 72 25 (gU g v u)) 80 i = (upN pa (st + 1) v i : Int) := fun i hi => by
          rw [ms_ne _ (by decide), ms_ne _ (by decide), ms_at, if_pos rfl]
          exact path_up w80 i hi
        have hwk : wk g t (fuel + 1) (u, some e, (v : Int), seen, st, as, rn, pa) = wk g t fuel (v, (if gF g v t < gF g e t then none else some e), gU g v u, (u, (v : Int)) :: seen, st + 1, as, rn + 1, upN pa (st + 1) v) := by
          rw [wk]; rw [if_neg hut, if_neg h200]; (try dsimp only); rw [if_neg hs, Int.toNat_natCast]
        have hnew := pushW_new V u e k (v : Int)
        refine wkm_round C w21 (by omega) (by omega) hg ok (rn := rn) hut w15 w13 (by omega) k1 (by omega) f1 f4 f2 f3 e1 (by omega) hsr w18 htn e2 hat e3 e5 e8 e6 hsaw' (fun hc => ?_) (fun hc => ?_)
        · rw [if_pos hc] at hnext hwk
          refine ih _ v none (gU g v u) ((u, (v : Int)) :: seen) (st + 1) as (rn + 1) (upN pa (st + 1) v) ?_ ?_ hnext ?_ (fun V' h => hpo V' (by rw [hwk]; exact h))
          · exact ⟨rfl, w15, w16, w17, rfl, rfl, hp80, hfr⟩
          · refine ⟨k + 1, rfl, by omega, fun j hj => ?_, fun e' he' => by cases he'⟩
            simp only [hrow81]
            rcases Nat.lt_or_eq_of_le (Nat.lt_succ_iff.mp hj) with z | z
            · obtain ⟨a, e', x, b1, b2, b3, b4, b5, b6, b7, b8, b9, -, b11⟩ := k3 j z
              refine ⟨a, e', x, b1, b2, b3, b4, ?_, ?_, ?_, ?_, ?_, fun _ => ?_, fun e'' q => by cases q⟩
              · rw [pushW_old (by omega)]; exact b5
              · rw [pushW_old (by omega)]; exact b6
              · rw [pushW_old (by omega)]; exact b7
              · rw [pushW_old (by omega)]; exact b8
              · rw [pushW_old (by omega)]; exact b9
              · have := (b11 e rfl).1; omega
            · subst z
              exact ⟨u, e, v, by omega, e1, by omega, by omega, hnew.1, hnew.2.1, hnew.2.2.1, hnew.2.2.2.1, hnew.2.2.2.2, fun _ => hc, fun e'' q => by cases q⟩
          · unfold wkM at hf ⊢; simp at hf ⊢; omega
        · rw [if_neg hc] at hnext hwk
          refine ih _ v (some e) (gU g v u) ((u, (v : Int)) :: seen) (st + 1) as (rn + 1) (upN pa (st + 1) v) ?_ ?_ hnext ?_ (fun V' h => hpo V' (by rw [hwk]; exact h))
          · exact ⟨rfl, w15, w16, w17, rfl, rfl, hp80, hfr⟩
          · refine ⟨k + 1, rfl, by omega, fun j hj => ?_, fun e' he' => ?_⟩
            · simp only [hrow81]
              rcases Nat.lt_or_eq_of_le (Nat.lt_succ_iff.mp hj) with z | z
              · obtain ⟨a, e', x, b1, b2, b3, b4, b5, b6, b7, b8, b9, -, b11⟩ := k3 j z
                refine ⟨a, e', x, b1, b2, b3, b4, ?_, ?_, ?_, ?_, ?_, (fun q => by cases q), fun e'' q => ?_⟩
                · rw [pushW_old (by omega)]; exact b5
                · rw [pushW_old (by omega)]; exact b6
                · rw [pushW_old (by omega)]; exact b7
                · rw [pushW_old (by omega)]; exact b8
                · rw [pushW_old (by omega)]; exact b9
                · cases q
                  exact ⟨(b11 e rfl).1, fun z => List.mem_cons_of_mem _ ((b11 e rfl).2 z)⟩
              · subst z
                refine ⟨u, e, v, by omega, e1, by omega, by omega, hnew.1, hnew.2.1, hnew.2.2.1, hnew.2.2.2.1, hnew.2.2.2.2, (fun q => by cases q), fun e'' q => ?_⟩
                cases q
                exact ⟨Int.le_refl _, fun _ => List.mem_cons_self⟩
            · cases he'
              refine ⟨f1, f2, f3, rfl, fun p hp => ?_⟩
              simp only [hrow81]
              rcases List.mem_cons.mp hp with z | z
              · subst z
                exact ⟨k, by omega, hnew.1, hnew.2.1, hnew.2.2.1, hnew.2.2.2.1⟩
              · obtain ⟨j, hj, q1, q2, q3, q4⟩ := f5 p z
                refine ⟨j, by omega, ?_, ?_, ?_, ?_⟩
                · rw [pushW_old (by omega)]; exact q1
                · rw [pushW_old (by omega)]; exact q2
                · rw [pushW_old (by omega)]; exact q3
                · rw [pushW_old (by omega)]; exact q4
          · unfold wkM at hf ⊢; simp at hf ⊢; omega
