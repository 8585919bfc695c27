-- the class's way: what its memory holds
def cFr (V0 V : Mem) : Prop := ∀ c, c ≠ 8 → c ≠ 9 → c ≠ 10 → V c = V0 c
theorem cFr_rf (V : Mem) : cFr V V := fun _ _ _ _ => rfl
theorem cFr_tr {V0 V V2 : Mem} (h : cFr V0 V) (h2 : cFr V V2) : cFr V0 V2 := fun c a b d => (h2 c a b d).trans (h c a b d)
theorem cFr_ms {V : Mem} {c k : Nat} {x : Int} (hc : c = 8 ∨ c = 9 ∨ c = 10) : cFr V (ms V c k x) := fun d h1 h2 h3 => ms_ne V (by omega)
theorem cFr_net {V0 V : Mem} {g : Nat → Int} (h : cFr V0 V) (hn : net V0 g) : net V g := net_eq hn (h 1 (by decide) (by decide) (by decide)) (h 2 (by decide) (by decide) (by decide)) (h 3 (by decide) (by decide) (by decide)) (h 5 (by decide) (by decide) (by decide)) (h 6 (by decide) (by decide) (by decide))
theorem cFr_go (V : Mem) (st so v : Nat) : cFr V (cGo V st so v) := by
  unfold cGo
  exact cFr_tr (cFr_tr (cFr_tr (cFr_ms (Or.inl rfl)) (cFr_ms (Or.inl rfl))) (cFr_ms (Or.inl rfl))) (cFr_ms (Or.inr (Or.inl rfl)))
theorem cFr_as (V : Mem) (u as : Nat) : cFr V (cAs V u as) := by
  intro c h1 h2 h3
  unfold cAs
  rw [cpm_ne h3, ms_ne _ h1, ms_ne _ h1, ms_ne _ h1, ms_ne _ h1, ms_ne _ h1]
theorem cFr_turn (V : Mem) (u m : Nat) (x : Int) : cFr V (cTurn V u m x) := by
  unfold cTurn
  split
  · exact cFr_tr (cFr_ms (Or.inl rfl)) (cFr_ms (Or.inl rfl))
  · exact cFr_tr (cFr_ms (Or.inl rfl)) (cFr_ms (Or.inr (Or.inr rfl)))
def cRes (V0 V : Mem) (r : Nat × Nat × Nat × (Nat → Nat) × Bool) : Prop := V 8 10 = (r.1 : Int) ∧ V 8 16 = bI r.2.2.2.2 ∧ V 8 11 = (r.2.1 : Int) ∧ V 8 12 = 0 ∧ V 8 13 = (r.2.2.1 : Int) ∧ V 8 14 = (stS r.2.2.2.1 r.1 : Int) ∧ (∀ k, k ≤ r.1 → V 9 k = (r.2.2.2.1 k : Int)) ∧ cFr V0 V
/-- seenNext: the marks of what was seen -/
def cSn (V : Mem) (l : List (Nat × Int)) : Prop := ∀ i, i < 10 → ∃ m : Nat, m < 1024 ∧ V 10 i = (m : Int) ∧ ∀ j, j < 10 → m.testBit j = decide ((i, (j : Int)) ∈ l)
def cW (V0 V : Mem) (t u st as rn : Nat) (pa : Nat → Nat) (rd lo : Bool) : Prop := V 8 4 = (u : Int) ∧ V 8 5 = (t : Int) ∧ V 8 10 = (st : Int) ∧ V 8 11 = (as : Int) ∧ V 8 12 = 0 ∧ V 8 13 = (rn : Int) ∧ V 8 14 = (stS pa st : Int) ∧ V 8 15 = bI rd ∧ V 8 16 = bI lo ∧ (∀ k, k ≤ st → V 9 k = (pa k : Int)) ∧ cFr V0 V
theorem path_up9 {V : Mem} {pa : Nat → Nat} {st v : Nat} (h : ∀ k, k ≤ st → V 9 k = (pa k : Int)) (k : Nat) (hk : k ≤ st + 1) : (if k = st + 1 then (v : Int) else V 9 k) = (upN pa (st + 1) v k : Int) := by
  unfold upN
  split
  · rfl
  · exact h k (by omega)
theorem cGo_9 {V : Mem} {st so v : Nat} {pa : Nat → Nat} (h : ∀ k, k ≤ st → V 9 k = (pa k : Int)) (k : Nat) (hk : k ≤ st + 1) : cGo V st so v 9 k = (upN pa (st + 1) v k : Int) := by
  unfold cGo
  rw [ms_at, if_pos rfl]
  exact path_up9 h k hk
theorem cTurn_8 {V : Mem} {u m k : Nat} {x : Int} (h1 : k ≠ 7) (h2 : k ≠ 16) : cTurn V u m x 8 k = V 8 k := by
  unfold cTurn
  split
  · rw [ms_at, if_pos rfl, if_neg h2, ms_at, if_pos rfl, if_neg h1]
  · rw [ms_ne _ (by decide), ms_at, if_pos rfl, if_neg h1]
theorem cTurn_7 {V : Mem} {u m : Nat} {x : Int} : cTurn V u m x 8 7 = x := by
  unfold cTurn
  split
  · rfl
  · rfl
theorem cTurn_9 {V : Mem} {u m : Nat} {x : Int} : cTurn V u m x 9 = V 9 := by
  unfold cTurn
  split
  · rfl
  · rfl
theorem cTurn_16 {V : Mem} {u m : Nat} {x : Int} (h0 : 0 ≤ x) (h : V 8 16 = 0) : cTurn V u m x 8 16 = bI (m.testBit x.toNat) := by
  unfold cTurn
  by_cases q : m.testBit x.toNat = true
  · rw [if_pos (Or.inr q), q]; rfl
  · rw [if_neg (by simp [q]; omega)]
    have : m.testBit x.toNat = false := by simpa using q
    rw [this]; exact h
theorem cTurn_sn {V : Mem} {u m : Nat} {x : Int} {l : List (Nat × Int)} (hu : u < 10) (hx : 0 ≤ x ∧ x < 10) (hs : cSn V l) (hm : V 10 u = (m : Int)) (hm2 : m < 1024) (hb : ∀ j, j < 10 → m.testBit j = decide ((u, (j : Int)) ∈ l)) : cSn (cTurn V u m x) ((u, x) :: l) := by
  intro i hi
  by_cases hiu : i = u
  · subst hiu
    by_cases q : m.testBit x.toNat = true
    · refine ⟨m, hm2, ?_, fun j hj => ?_⟩
      · unfold cTurn; rw [if_pos (Or.inr q)]; exact hm
      · rw [hb j hj]
        apply decide_eq_decide.mpr
        constructor
        · exact fun h => List.mem_cons_of_mem _ h
        · intro h
          rcases List.mem_cons.mp h with z | z
          · have e : (j : Int) = x := (Prod.mk.inj z).2
            have := hb x.toNat (by omega)
            rw [q] at this
            have h9 := of_decide_eq_true this.symm
            rw [show ((x.toNat : Nat) : Int) = x by omega] at h9
            rw [e]; exact h9
          · exact z
    · refine ⟨m ||| 2 ^ x.toNat, Nat.or_lt_two_pow (n := 10) hm2 (Nat.pow_lt_pow_right (by decide) (by omega)), ?_, fun j hj => ?_⟩
      · unfold cTurn; rw [if_neg (by simp [q]; omega), ms_at, if_pos rfl, if_pos rfl]
      · rw [Nat.testBit_or, Nat.testBit_two_pow, hb j hj, ← Bool.decide_or]
        apply decide_eq_decide.mpr
        rw [List.mem_cons]
        constructor
        · rintro (h | h)
          · exact Or.inr h
          · left; rw [show x = (j : Int) by omega]
        · rintro (h | h)
          · right; have := (Prod.mk.inj h).2; omega
          · exact Or.inl h
  · obtain ⟨m2, q1, q2, q3⟩ := hs i hi
    refine ⟨m2, q1, ?_, fun j hj => ?_⟩
    · rw [← q2]
      unfold cTurn
      split
      · rfl
      · rw [ms_at, if_pos rfl, if_neg hiu]; rfl
    · rw [q3 j hj]
      apply decide_eq_decide.mpr
      rw [List.mem_cons]
      constructor
      · exact Or.inr
      · rintro (h | h)
        · exact absurd (Prod.mk.inj h).1 hiu
        · exact h
/-- what the class holds as 'lost' at the head of its loop -/
def cLo (u : Nat) (mo : Option Nat) (nx : Int) (seen : List (Nat × Int)) : Bool := mo.isSome && decide ((u, nx) ∈ seen)
set_option maxHeartbeats 4000000 in
theorem wkc_loop {O : OmT} {F : PhT} {g : Nat → Int} {post : Mem → Prop} (C : cx O F RX2 cX2_walk 4 none wsX2_walk) (hQ : qV O F post) (ok : okg g) {zs zt : Int} {t : Nat} (htn : t < gN g) (hat : gA g t = true) {V0 : Mem} (hn0 : net V0 g) :
    ∀ (fuel : Nat) (V : Mem) (u : Nat) (mo : Option Nat) (nx : Int) (seen : List (Nat × Int)) (st as rn : Nat) (pa : Nat → Nat) (k : Nat), cW V0 V t u st as rn pa mo.isSome (cLo u mo nx seen) → (∀ e, mo = some e → V 8 6 = (e : Int) ∧ V 8 7 = nx ∧ V 8 8 = 0 ∧ V 8 9 = 1 ∧ cSn V ((u, nx) :: seen)) → wOK g t u mo nx st rn pa → wkM mo st < fuel → k + fuel ≤ 9000 → (∀ V', cRes V0 V' (wk g t fuel (u, mo, nx, seen, st, as, rn, pa)) → post V') →
      J O F rX2_walk 4 V 8 [(0, sr 8), (1, si zs), (2, si zt), (3, si (k : Int))] [] := by
  intro fuel
  induction fuel with
  | zero => intro V u mo nx seen st as rn pa k _ _ _ h; exact absurd h (Nat.not_lt_zero _)
  | succ fuel ih =>
    intro V u mo nx seen st as rn pa k hW hM hO hf hk hpo
    have n1 := ok.n
    obtain ⟨w4, w5, w10, w11, w12, w13, w14, w15, w16, w9, wF⟩ := id hW
    obtain ⟨o1, o2, o3, o4, o5, o6, o7⟩ := id hO
    have hn := cFr_net wF hn0
    have hso : stS pa st < 1024 := stS_lt (fun i hi => by have := o5 i hi; omega)
    by_cases hut : u = t
    · refine wkc_end (g := g) C hQ (by omega) w4 w5 (by omega) (by omega) hut (hpo _ ?_)
      rw [show wk g t (fuel + 1) (u, mo, nx, seen, st, as, rn, pa) = (st, as, rn, pa, false) by unfold wk; rw [if_pos hut]]
      exact ⟨w10, rfl, w11, w12, w13, w14, w9, cFr_tr wF (cFr_ms (Or.inl rfl))⟩
    by_cases hlo : cLo u mo nx seen = true
    · refine wkc_lost (g := g) C hQ (by omega) w4 w5 (by omega) (by omega) hut (by rw [w16, hlo]; rfl) (hpo _ ?_)
      have e : wk g t (fuel + 1) (u, mo, nx, seen, st, as, rn, pa) = (st, as, rn, pa, true) := by
        unfold wk
        rw [if_neg hut]
        by_cases h200 : st = 200
        · rw [if_pos h200]
        · rw [if_neg h200]
          cases mo with
          | none => simp [cLo] at hlo
          | some e =>
            simp only [cLo, Option.isSome_some, Bool.true_and, decide_eq_true_eq] at hlo
            dsimp only
            rw [if_pos hlo]
      rw [e]
      exact ⟨w10, rfl, w11, w12, w13, w14, w9, cFr_tr wF (cFr_ms (Or.inl rfl))⟩
    have hlo : cLo u mo nx seen = false := by simpa using hlo
    rw [hlo] at w16
    by_cases h200 : st = 200
    · refine wkc_200 (g := g) C (by omega) w4 w5 (by omega) (by omega) hut w16 (by rw [w10, h200]; rfl) ?_
      refine wkc_lost (g := g) C hQ (k := k + 1) (V := ms V 8 16 1) (by omega) w4 w5 (by omega) (by omega) hut rfl (hpo _ ?_)
      rw [show wk g t (fuel + 1) (u, mo, nx, seen, st, as, rn, pa) = (st, as, rn, pa, true) by unfold wk; rw [if_neg hut, if_pos h200]]
      exact ⟨w10, rfl, w11, w12, w13, w14, w9, cFr_tr wF (cFr_tr (cFr_ms (Or.inl rfl)) (cFr_ms (Or.inl rfl)))⟩
    cases mo with
    | none =>
      refine wkc_greedy C (by omega) w4 w5 (by omega) (by omega) hn ok hut w16 w10 (by omega) w15 w14 (by omega) w11 o1 htn ?_
      by_cases hR : gR g u t (gN g) = -1
      · rw [if_pos hR]
        by_cases hU2 : gU g u t = -1
        · have eM : cTurn (cAs V u as) u 0 (gU g u t) = ms (ms (cAs V u as) 8 7 (-1)) 8 16 1 := by
            unfold cTurn; rw [if_pos (Or.inl hU2), hU2]
          rw [eM]
          refine wkc_lost (g := g) C hQ (k := k + 1) (by omega) ?_ ?_ (by omega) (by omega) hut ?_ (hpo _ ?_)
          · exact w4
          · exact w5
          · rfl
          · rw [show wk g t (fuel + 1) (u, none, nx, seen, st, as, rn, pa) = (st, as + 1, rn, pa, true) by unfold wk; rw [if_neg hut, if_neg h200]; (try dsimp only); rw [if_pos hR, if_pos hU2]]
            exact ⟨w10, rfl, rfl, w12, w13, w14, w9, cFr_tr wF (cFr_tr (cFr_tr (cFr_tr (cFr_as V u as) (cFr_ms (Or.inl rfl))) (cFr_ms (Or.inl rfl))) (cFr_ms (Or.inl rfl)))⟩
        · have hx0 := (gU_T hU2).2
          have hx1 := gU_rg ok (u := u) (v := t) (by omega)
          refine ih _ u (some u) (gU g u t) [] st (as + 1) rn pa (k + 1) ?_ ?_ (wOK_astray hO hut hR hU2) ?_ (by omega) (fun V' h => hpo V' ?_)
          · refine ⟨?_, ?_, ?_, ?_, ?_, ?_, ?_, ?_, ?_, ?_, cFr_tr wF (cFr_tr (cFr_as V u as) (cFr_turn _ _ _ _))⟩
            · rw [cTurn_8 (by decide) (by decide)]; exact w4
            · rw [cTurn_8 (by decide) (by decide)]; exact w5
            · rw [cTurn_8 (by decide) (by decide)]; exact w10
            · rw [cTurn_8 (by decide) (by decide)]; rfl
            · rw [cTurn_8 (by decide) (by decide)]; exact w12
            · rw [cTurn_8 (by decide) (by decide)]; exact w13
            · rw [cTurn_8 (by decide) (by decide)]; exact w14
            · rw [cTurn_8 (by decide) (by decide)]; rfl
            · rw [cTurn_16 (V := cAs V u as) hx0 w16]; simp [cLo]
            · intro i hi; rw [cTurn_9]; exact w9 i hi
          · intro e he
            cases he
            refine ⟨?_, cTurn_7, ?_, ?_, ?_⟩
            · rw [cTurn_8 (by decide) (by decide)]; rfl
            · rw [cTurn_8 (by decide) (by decide)]; rfl
            · rw [cTurn_8 (by decide) (by decide)]; rfl
            · refine cTurn_sn (by omega) (by omega) (fun i hi => ⟨0, by decide, cAs_row hi, fun j _ => by simp⟩) (cAs_row (by omega)) (by decide) (fun j _ => by simp)
          · unfold wkM at hf ⊢; simp at hf ⊢; omega
          · rw [show wk g t (fuel + 1) (u, none, nx, seen, st, as, rn, pa) = wk g t fuel (u, some u, gU g u t, [], st, as + 1, rn, pa) by rw [wk]; rw [if_neg hut, if_neg h200]; (try dsimp only); rw [if_pos hR, if_neg hU2]]
            exact h
      · rw [if_neg hR]
        have hl := gL_lt ok (gR_L hR)
        refine ih _ (gR g u t (gN g)).toNat none nx seen (st + 1) as rn (upN pa (st + 1) (gR g u t (gN g)).toNat) (k + 1) ?_ (fun e he => by cases he) (wOK_greedy ok hO h200 hR) ?_ (by omega) (fun V' h => hpo V' ?_)
        · refine ⟨rfl, w5, rfl, w11, w12, w13, ?_, w15, w16, fun i hi => cGo_9 w9 i hi, cFr_tr wF (cFr_go _ _ _ _)⟩
          rw [stS_up]; rfl
        · unfold wkM at hf ⊢; simp at hf ⊢; omega
        · rw [show wk g t (fuel + 1) (u, none, nx, seen, st, as, rn, pa) = wk g t fuel ((gR g u t (gN g)).toNat, none, nx, seen, st + 1, as, rn, upN pa (st + 1) (gR g u t (gN g)).toNat) by rw [wk]; rw [if_neg hut, if_neg h200]; (try dsimp only); rw [if_neg hR]]
          exact h
    | some e =>
      obtain ⟨e1, e2, e3, e4, e5, e6, e7, e8⟩ := o7 e rfl
      obtain ⟨v, rfl⟩ : ∃ v : Nat, nx = (v : Int) := ⟨nx.toNat, by omega⟩
      rw [Int.toNat_natCast] at e8
      have hl := gT_lt ok e8
      obtain ⟨f1, f2, f3, f4, f5⟩ := hM e rfl
      obtain ⟨m, m1, m2, m3⟩ := f5 v (by omega)
      have hs : ¬ (u, (v : Int)) ∈ seen := by simpa [cLo] using hlo
      have hnext := wOK_round ok htn hO h200
      rw [Int.toNat_natCast] at hnext
      have hwk : wk g t (fuel + 1) (u, some e, (v : Int), seen, st, as, rn, pa) = wk g t fuel (v, (if gF g v t < gF g e t then none else some e), gU g v u, (u, (v : Int)) :: seen, st + 1, as, rn + 1, upN pa (st + 1) v) := by
        rw [wk]; rw [if_neg hut, if_neg h200]; (try dsimp only); rw [if_neg hs, Int.toNat_natCast]
      refine wkc_round C (by omega) w4 w5 (by omega) (by omega) hn ok hut w16 w10 (by omega) w15 w14 (by omega) w13 m2 m1 f1 f2 f3 f4 e1 htn e2 hat e3 e5 e8 e6 ?_
      have hst2 : ((stS pa st ||| 2 ^ v : Nat) : Int) = (stS (upN pa (st + 1) v) (st + 1) : Int) := by rw [stS_up]
      by_cases hc : gF g v t < gF g e t
      · rw [if_pos hc]
        rw [if_pos hc] at hnext hwk
        refine ih _ v none (gU g v u) ((u, (v : Int)) :: seen) (st + 1) as (rn + 1) (upN pa (st + 1) v) (k + 1) ?_ (fun e he => by cases he) hnext ?_ (by omega) (fun V' h => hpo V' (by rw [hwk]; exact h))
        · exact ⟨rfl, w5, rfl, w11, w12, rfl, hst2, rfl, w16, fun i hi => cGo_9 w9 i hi, cFr_tr wF (cFr_tr (cFr_tr (cFr_go _ _ _ _) (cFr_ms (Or.inl rfl))) (cFr_ms (Or.inl rfl)))⟩
        · unfold wkM at hf ⊢; simp at hf ⊢; omega
      · rw [if_neg hc]
        rw [if_neg hc] at hnext hwk
        have hsT : gT g v u = true := by rw [gT_sym]; exact e8
        have hx0 := (gU_T (gU_ne hsT)).2
        have hx1 := gU_rg ok (u := v) (v := u) (by omega)
        refine ih _ v (some e) (gU g v u) ((u, (v : Int)) :: seen) (st + 1) as (rn + 1) (upN pa (st + 1) v) (k + 1) ?_ ?_ hnext ?_ (by omega) (fun V' h => hpo V' (by rw [hwk]; exact h))
        · refine ⟨?_, ?_, ?_, ?_, ?_, ?_, ?_, ?_, ?_, ?_, cFr_tr wF (cFr_tr (cFr_tr (cFr_go _ _ _ _) (cFr_ms (Or.inl rfl))) (cFr_turn _ _ _ _))⟩
          · rw [cTurn_8 (by decide) (by decide)]; rfl
          · rw [cTurn_8 (by decide) (by decide)]; exact w5
          · rw [cTurn_8 (by decide) (by decide)]; rfl
          · rw [cTurn_8 (by decide) (by decide)]; exact w11
          · rw [cTurn_8 (by decide) (by decide)]; exact w12
          · rw [cTurn_8 (by decide) (by decide)]; rfl
          · rw [cTurn_8 (by decide) (by decide)]; exact hst2
          · rw [cTurn_8 (by decide) (by decide)]; exact w15
          · rw [cTurn_16 (V := ms (cGo V st (stS pa st) v) 8 13 ((rn : Int) + 1)) hx0 w16, m3 _ (by omega), show (((gU g v u).toNat : Nat) : Int) = gU g v u by omega]; rfl
          · intro i hi; rw [cTurn_9]; exact cGo_9 w9 i hi
        · intro e' he'
          cases he'
          refine ⟨?_, cTurn_7, ?_, ?_, ?_⟩
          · rw [cTurn_8 (by decide) (by decide)]; exact f1
          · rw [cTurn_8 (by decide) (by decide)]; exact f3
          · rw [cTurn_8 (by decide) (by decide)]; exact f4
          · exact cTurn_sn (by omega) (by omega) (fun i hi => f5 i hi) m2 m1 m3
        · unfold wkM at hf ⊢; simp at hf ⊢; omega
