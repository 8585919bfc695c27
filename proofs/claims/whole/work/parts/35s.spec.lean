abbrev Rt : Type := Int × (Bk × (Pa × Im))
theorem CG_g {V V2 : Mem} {s : St} {g : Nat → Int} (h : CG V s) (hc : cls V2 g) (h6 : V2 1 6 = V 1 6) (e : ∀ c, c ≠ 1 → c ≠ 2 → c ≠ 3 → V2 c = V c) : CG V2 (stg s g) ∧ hiF V V2 := by
  obtain ⟨h1, h2, h3, h4, h5, h7⟩ := h
  refine ⟨⟨hc, h6.trans h2, by unfold sn7; rw [e 7 (by decide) (by decide) (by decide)]; exact h3, cBook_eq h4 (fun c _ _ => e c (by omega) (by omega) (by omega)), cPast_eq h5 (fun c _ _ => e c (by omega) (by omega) (by omega)), cImg_eq h7 (e 0 (by decide) (by decide) (by decide)) (fun c _ _ => e c (by omega) (by omega) (by omega))⟩, fun c hc => e c (by omega) (by omega) (by omega)⟩
theorem CG_add {V : Mem} {s : St} {x y : Int} (h : CG V s) (ok : okg s.1) (h0 : gN s.1 < 10) : CG (ms (ms (ms (ms V 2 (gN s.1) x) 3 (gN s.1) y) 1 3 (((s.1 3).toNat ||| 2 ^ gN s.1 : Nat) : Int)) 1 2 ((gN s.1 : Int) + 1)) (stg s (gAdd s.1 x y)) ∧ hiF V (ms (ms (ms (ms V 2 (gN s.1) x) 3 (gN s.1) y) 1 3 (((s.1 3).toNat ||| 2 ^ gN s.1 : Nat) : Int)) 1 2 ((gN s.1 : Int) + 1)) := by
  have n1 := ok.n
  have hc := h.1
  refine CG_g h ⟨?_, rfl, hc.2.2.1.trans ?_, hc.2.2.2.1.trans ?_, fun i hi => ?_, fun i hi => ?_⟩ rfl (fun c h1 h2 h3 => by rw [ms_ne _ h1, ms_ne _ h1, ms_ne _ h3, ms_ne _ h2])
  · show (gN s.1 : Int) + 1 = s.1 0 + 1; omega
  · unfold gAdd; rw [if_neg (by decide), if_neg (by decide), if_neg (by omega), if_neg (by omega)]
  · unfold gAdd; rw [if_neg (by decide), if_neg (by decide), if_neg (by omega), if_neg (by omega)]
  · rw [ms_ne _ (by decide), ms_ne _ (by decide), ms_ne _ (by decide), ms_at, if_pos rfl, hc.2.2.2.2.1 i hi]
    unfold gAdd
    rw [if_neg (show ¬ 4 + i = 0 by omega), if_neg (show ¬ 4 + i = 3 by omega)]
    by_cases q : i = gN s.1
    · rw [if_pos q, if_pos (by omega)]
    · rw [if_neg q, if_neg (by omega), if_neg (by omega)]
  · rw [ms_ne _ (by decide), ms_ne _ (by decide), ms_at, if_pos rfl, ms_ne _ (by decide), hc.2.2.2.2.2 i hi]
    unfold gAdd
    rw [if_neg (show ¬ 14 + i = 0 by omega), if_neg (show ¬ 14 + i = 3 by omega), if_neg (show ¬ 14 + i = 4 + gN s.1 by omega)]
    by_cases q : i = gN s.1
    · rw [if_pos q, if_pos (by omega)]
    · rw [if_neg q, if_neg (by omega)]
theorem CG_mv {V : Mem} {s : St} {v : Nat} {x y : Int} (h : CG V s) (hv : v < 10) : CG (ms (ms V 2 v x) 3 v y) (stg s (gMv s.1 v x y)) ∧ hiF V (ms (ms V 2 v x) 3 v y) := by
  have hc := h.1
  have lo : ∀ k, k < 4 → gMv s.1 v x y k = s.1 k := fun k hk => by unfold gMv; rw [if_neg (by omega), if_neg (by omega)]
  refine CG_g h ⟨hc.1.trans (lo 0 (by decide)).symm, hc.2.1.trans (lo 3 (by decide)).symm, hc.2.2.1.trans (lo 1 (by decide)).symm, hc.2.2.2.1.trans (lo 2 (by decide)).symm, fun i hi => ?_, fun i hi => ?_⟩ rfl (fun c h1 h2 h3 => by rw [ms_ne _ h3, ms_ne _ h2])
  · rw [ms_ne _ (by decide), ms_at, if_pos rfl, hc.2.2.2.2.1 i hi]
    unfold gMv
    by_cases q : i = v
    · rw [if_pos q, if_pos (by omega)]
    · rw [if_neg q, if_neg (by omega), if_neg (by omega)]
  · rw [ms_at, if_pos rfl, ms_ne _ (by decide), hc.2.2.2.2.2 i hi]
    unfold gMv
    rw [if_neg (show ¬ 14 + i = 4 + v by omega)]
    by_cases q : i = v
    · rw [if_pos q, if_pos (by omega)]
    · rw [if_neg q, if_neg (by omega)]
theorem CG_aw {V : Mem} {s : St} {v : Nat} {b : Bool} (h : CG V s) : CG (ms V 1 3 (((if b then (s.1 3).toNat ||| 2 ^ v else clr (s.1 3).toNat v) : Nat) : Int)) (stg s (gAw s.1 v b)) ∧ hiF V (ms V 1 3 (((if b then (s.1 3).toNat ||| 2 ^ v else clr (s.1 3).toNat v) : Nat) : Int)) := by
  have hc := h.1
  refine CG_g h ⟨hc.1, rfl, hc.2.2.1, hc.2.2.2.1, fun i hi => ?_, fun i hi => ?_⟩ rfl (fun c h1 h2 h3 => by rw [ms_ne _ h1])
  · rw [ms_ne _ (by decide), hc.2.2.2.2.1 i hi]; unfold gAw; rw [if_neg (by omega)]
  · rw [ms_ne _ (by decide), hc.2.2.2.2.2 i hi]; unfold gAw; rw [if_neg (by omega)]
theorem CG_re {V : Mem} {s : St} {x : Int} (h : CG V s) : CG (ms V 1 4 x) (stg s (updg s.1 1 x)) ∧ hiF V (ms V 1 4 x) := by
  have hc := h.1
  refine CG_g h ⟨hc.1, hc.2.1, rfl, hc.2.2.2.1, fun i hi => ?_, fun i hi => ?_⟩ rfl (fun c h1 h2 h3 => by rw [ms_ne _ h1])
  · rw [ms_ne _ (by decide), hc.2.2.2.2.1 i hi]; unfold updg; rw [if_neg (by omega)]
  · rw [ms_ne _ (by decide), hc.2.2.2.2.2 i hi]; unfold updg; rw [if_neg (by omega)]
theorem CG_ru {V : Mem} {s : St} {x : Int} (h : CG V s) : CG (ms V 1 5 x) (stg s (updg s.1 2 x)) ∧ hiF V (ms V 1 5 x) := by
  have hc := h.1
  refine CG_g h ⟨hc.1, hc.2.1, hc.2.2.1, rfl, fun i hi => ?_, fun i hi => ?_⟩ rfl (fun c h1 h2 h3 => by rw [ms_ne _ h1])
  · rw [ms_ne _ (by decide), hc.2.2.2.2.1 i hi]; unfold updg; rw [if_neg (by omega)]
  · rw [ms_ne _ (by decide), hc.2.2.2.2.2 i hi]; unfold updg; rw [if_neg (by omega)]
theorem CG_sd {V : Mem} {s : St} {x : Int} (h : CG V s) : CG (ms V 1 6 x) (sds s x) ∧ hiF V (ms V 1 6 x) := by
  obtain ⟨h1, h2, h3, h4, h5, h6⟩ := h
  refine ⟨⟨⟨h1.1, h1.2.1, h1.2.2.1, h1.2.2.2.1, fun i hi => ?_, fun i hi => ?_⟩, rfl, h3, h4, cPast_eq h5 (fun c _ _ => ms_ne _ (by omega)), cImg_eq h6 rfl (fun c _ _ => ms_ne _ (by omega))⟩, fun c hc => ms_ne _ (by omega)⟩
  · rw [ms_ne _ (by decide)]; exact h1.2.2.2.2.1 i hi
  · rw [ms_ne _ (by decide)]; exact h1.2.2.2.2.2 i hi
-- the grounds lie apart
theorem gb_dis {c d : Nat} (hc : isGb c = true) (hd : isGb d = true) (h : c ≠ d) : c + 2 < d ∨ d + 2 < c := by
  simp only [isGb, Bool.or_eq_true, Bool.and_eq_true, beq_iff_eq, decide_eq_true_eq] at hc hd
  omega
theorem gb_lt {c : Nat} (hc : isGb c = true) : c + 2 < 72 := by
  simp only [isGb, Bool.or_eq_true, Bool.and_eq_true, beq_iff_eq, decide_eq_true_eq] at hc
  omega
theorem gb_p {j : Nat} (h : j < 16) : isGb (17 + 3 * j) = true := by
  simp only [isGb, Bool.or_eq_true, Bool.and_eq_true, beq_iff_eq, decide_eq_true_eq]
  omega
theorem gb_i {j : Nat} (h : j < 2) : isGb (66 + 3 * j) = true := by
  simp only [isGb, Bool.or_eq_true, Bool.and_eq_true, beq_iff_eq, decide_eq_true_eq]
  omega
theorem ms_cpm {V : Mem} {c d lo k j : Nat} {f : Nat → Int} {x : Int} (h : c ≠ d) : ms (cpm V d lo f k) c j x = cpm (ms V c j x) d lo f k := by
  funext a b
  by_cases q : a = c
  · subst q
    rw [ms_at, if_pos rfl, cpm_ne h, cpm_ne h, ms_at, if_pos rfl]
  · rw [ms_ne _ q]
    by_cases r : a = d
    · subst r
      unfold cpm
      rw [va_up_self, va_up_self, ms_ne _ q]
    · rw [cpm_ne r, cpm_ne r, ms_ne _ q]
def cp2 (V : Mem) (c lo : Nat) (f f2 : Nat → Int) (k : Nat) : Mem := cpm (cpm V c lo f k) (c + 1) lo f2 k
theorem cp2_0 (V : Mem) (c lo : Nat) (f f2 : Nat → Int) : V = cp2 V c lo f f2 0 := by
  unfold cp2
  rw [← cpm_0 _ (c + 1) lo f2, ← cpm_0 V c lo f]
theorem cp2_s (V : Mem) (c lo : Nat) (f f2 : Nat → Int) (k : Nat) {j : Nat} (hj : j = lo + k) {x y : Int} (hx : x = f k) (hy : y = f2 k) : ms (ms (cp2 V c lo f f2 k) c j x) (c + 1) j y = cp2 V c lo f f2 (k + 1) := by
  unfold cp2
  rw [ms_cpm (by omega), cpm_s _ _ _ _ _ hx hj, cpm_s _ _ _ _ _ hy hj]
theorem cp2_ne {V : Mem} {c lo k a : Nat} {f f2 : Nat → Int} (h1 : a ≠ c) (h2 : a ≠ c + 1) : cp2 V c lo f f2 k a = V a := by unfold cp2; rw [cpm_ne h2, cpm_ne h1]
theorem gnd_cp {V : Mem} {c d : Nat} {g : Nat → Int} (hcd : c + 2 < d ∨ d + 2 < c) (h : gnd V d g) {W : Mem} (hW : W = ms (ms (ms (ms (cp2 V (c + 1) 0 (fun i => V (d + 1) i) (fun i => V (d + 2) i) 10) c 2 (g 0)) c 3 (g 3)) c 4 (g 1)) c 5 (g 2)) : gnd W c g ∧ W c 6 = V c 6 ∧ ∀ e, e ≠ c → e ≠ c + 1 → e ≠ c + 2 → W e = V e := by
  subst hW
  refine ⟨⟨?_, ?_, ?_, ?_, fun i hi => ?_, fun i hi => ?_⟩, ?_, fun e h1 h2 h3 => ?_⟩
  · simp [ms_at]
  · simp [ms_at]
  · simp [ms_at]
  · simp [ms_at]
  · rw [ms_ne _ (by omega), ms_ne _ (by omega), ms_ne _ (by omega), ms_ne _ (by omega)]
    unfold cp2
    rw [cpm_ne (by omega), cpm_in (Nat.zero_le _) (by omega)]
    exact h.2.2.2.2.1 i hi
  · rw [ms_ne _ (by omega), ms_ne _ (by omega), ms_ne _ (by omega), ms_ne _ (by omega)]
    unfold cp2
    rw [show c + 2 = c + 1 + 1 from rfl, cpm_in (Nat.zero_le _) (by omega)]
    exact h.2.2.2.2.2 i hi
  · simp only [ms_at, if_true]
    simp
    rw [cp2_ne (by omega) (by omega)]
  · rw [ms_ne _ h1, ms_ne _ h1, ms_ne _ h1, ms_ne _ h1, cp2_ne h2 h3]
theorem CG_rem {V W : Mem} {s : St} (hG : CG V s) (hdp : s.2.2.2.1.1 ≤ 16) {la : Nat} (hla : la < 16) (hp : ∀ j, j < s.2.2.2.1.1 → gnd V (17 + 3 * ((la + 16 - j) % 16)) (s.2.2.2.1.2 j)) (f1 : W 15 1 = (((la + 1) % 16 : Nat) : Int)) (f2 : W 15 2 = (((if s.2.2.2.1.1 < 16 then s.2.2.2.1.1 + 1 else 16) : Nat) : Int)) (fg : gnd W (17 + 3 * ((la + 1) % 16)) s.1) (fr : ∀ c, c ≠ 15 → c ≠ 17 + 3 * ((la + 1) % 16) → c ≠ 17 + 3 * ((la + 1) % 16) + 1 → c ≠ 17 + 3 * ((la + 1) % 16) + 2 → W c = V c) : CG W (rem s) ∧ hiF V W := by
  obtain ⟨h1, h2, h3, h4, h5, h6⟩ := hG
  have hl : (la + 1) % 16 < 16 := Nat.mod_lt _ (by decide)
  have fo : ∀ c, c < 15 ∨ 65 ≤ c → W c = V c := fun c hc => fr c (by omega) (by omega) (by omega) (by omega)
  refine ⟨⟨cls_eq h1 (fo 1 (by decide)) (fo 2 (by decide)) (fo 3 (by decide)), by rw [fo 1 (by decide)]; exact h2, by unfold sn7; rw [fo 7 (by decide)]; exact h3, cBook_eq h4 (fun c _ _ => fo c (by omega)), ⟨f2, (la + 1) % 16, hl, f1, fun j hj => ?_⟩, cImg_eq h6 (fo 0 (by decide)) (fun c _ _ => fo c (by omega))⟩, fun c hc => fo c (by omega)⟩
  have hj' : j < (if s.2.2.2.1.1 < 16 then s.2.2.2.1.1 + 1 else 16) := hj
  have hj2 : j < 16 ∧ j ≤ s.2.2.2.1.1 := by split at hj' <;> omega
  show gnd W _ (if j = 0 then s.1 else s.2.2.2.1.2 (j - 1))
  by_cases q : j = 0
  · rw [if_pos q, q, show ((la + 1) % 16 + 16 - 0) % 16 = (la + 1) % 16 by omega]
    exact fg
  · rw [if_neg q, show ((la + 1) % 16 + 16 - j) % 16 = (la + 16 - (j - 1)) % 16 by omega]
    refine gnd_eq (hp (j - 1) (by omega)) (fun d d1 d2 => fr d ?_ ?_ ?_ ?_)
    all_goals
      have : (la + 16 - (j - 1)) % 16 ≠ (la + 1) % 16 := by omega
      omega
theorem fmd_k : ∀ k : Nat, k < 48 → (if 0 ≤ bXor ((k : Int) - 16) 16 then bRem ((k : Int) - 16) 16 else if bRem ((k : Int) - 16) 16 = 0 then bRem ((k : Int) - 16) 16 else bRem ((k : Int) - 16) 16 + 16) = ((k % 16 : Nat) : Int) := by decide +kernel
theorem i32_rg (x : Int32) : -2147483648 ≤ x.toInt ∧ x.toInt < 2147483648 := ⟨Int32.le_toInt x, Int32.toInt_lt x⟩
/-- n deeds undone -/
def unS (s : St) (n : Nat) : St := (s.2.2.2.1.2 (n - 1), s.2.1, s.2.2.1, (s.2.2.2.1.1 - n, fun j => s.2.2.2.1.2 (j + n)), s.2.2.2.2)
theorem CG_un {V W : Mem} {s : St} {n : Nat} (hG : CG V s) {la : Nat} (hla : la < 16) (hp : ∀ j, j < s.2.2.2.1.1 → gnd V (17 + 3 * ((la + 16 - j) % 16)) (s.2.2.2.1.2 j)) (hn : n ≤ s.2.2.2.1.1) (h16 : s.2.2.2.1.1 ≤ 16) (f1 : W 15 1 = (((la + 16 - n) % 16 : Nat) : Int)) (f2 : W 15 2 = ((s.2.2.2.1.1 - n : Nat) : Int)) (fg : gnd W 1 (s.2.2.2.1.2 (n - 1))) (h6 : W 1 6 = V 1 6) (fr : ∀ c, c ≠ 15 → c ≠ 1 → c ≠ 2 → c ≠ 3 → W c = V c) : CG W (unS s n) ∧ hiF V W := by
  obtain ⟨h1, h2, h3, h4, h5, h7⟩ := hG
  refine ⟨⟨fg, h6.trans h2, by unfold sn7; rw [fr 7 (by decide) (by decide) (by decide) (by decide)]; exact h3, cBook_eq h4 (fun c _ _ => fr c (by omega) (by omega) (by omega) (by omega)), ⟨f2, (la + 16 - n) % 16, Nat.mod_lt _ (by decide), f1, fun j hj => ?_⟩, cImg_eq h7 (fr 0 (by decide) (by decide) (by decide) (by decide)) (fun c _ _ => fr c (by omega) (by omega) (by omega) (by omega))⟩, fun c hc => fr c (by omega) (by omega) (by omega) (by omega)⟩
  have hj' : j < s.2.2.2.1.1 - n := hj
  show gnd W (17 + 3 * (((la + 16 - n) % 16 + 16 - j) % 16)) (s.2.2.2.1.2 (j + n))
  rw [show ((la + 16 - n) % 16 + 16 - j) % 16 = (la + 16 - (j + n)) % 16 by omega]
  exact gnd_eq (hp (j + n) (by omega)) (fun d d1 d2 => fr d (by omega) (by omega) (by omega) (by omega))
theorem CR_fol {V W : Mem} {s : St} (hG : CG V s) (h : W = va_up (va_up V 5 (W 5)) 6 (W 6) ∧ net W s.1) : CR W s ∧ hiF V W := by
  obtain ⟨e, hn⟩ := h
  have fr : ∀ c, c ≠ 5 → c ≠ 6 → W c = V c := fun c h5 h6 => by
    rw [e, va_up_ne _ _ h6, va_up_ne _ _ h5]
  obtain ⟨h1, h2, h3, h4, h5, h6⟩ := hG
  refine ⟨⟨hn, hn.1, by rw [fr 1 (by decide) (by decide)]; exact h2, by unfold sn7; rw [fr 7 (by decide) (by decide)]; exact h3, cBook_eq h4 (fun c _ _ => fr c (by omega) (by omega)), cPast_eq h5 (fun c _ _ => fr c (by omega) (by omega)), cImg_eq h6 (fr 0 (by decide) (by decide)) (fun c _ _ => fr c (by omega) (by omega))⟩, fun c hc => fr c (by omega) (by omega)⟩
theorem CG_tk {V W : Mem} {s : St} {v : Nat} (h : CG V s) (ok : okg s.1) (hv : v < gN s.1) (hW : W = ms (ms (cp2 V 2 v (fun i => V 2 (v + i + 1)) (fun i => V 3 (v + i + 1)) (gN s.1 - 1 - v)) 1 3 (rmb (s.1 3).toNat v : Int)) 1 2 ((gN s.1 : Int) - 1)) : CG W (stg s (gTk s.1 v)) ∧ hiF V W := by
  subst hW
  have n1 := ok.n
  have hc := h.1
  refine CG_g h ⟨?_, rfl, hc.2.2.1.trans ?_, hc.2.2.2.1.trans ?_, fun i hi => ?_, fun i hi => ?_⟩ rfl (fun c h1 h2 h3 => by rw [ms_ne _ h1, ms_ne _ h1, cp2_ne h2 h3])
  · show (gN s.1 : Int) - 1 = s.1 0 - 1; omega
  · unfold gTk; rw [if_neg (by decide), if_neg (by decide), if_neg (by omega), if_neg (by omega)]
  · unfold gTk; rw [if_neg (by decide), if_neg (by decide), if_neg (by omega), if_neg (by omega)]
  · rw [ms_ne _ (by decide), ms_ne _ (by decide)]
    unfold cp2 gTk
    rw [cpm_ne (by decide), if_neg (show ¬ 4 + i = 0 by omega), if_neg (show ¬ 4 + i = 3 by omega)]
    by_cases q : v ≤ i ∧ i < v + (gN s.1 - 1 - v)
    · rw [cpm_in q.1 q.2, if_pos (by omega), show v + (i - v) + 1 = i + 1 by omega, hc.2.2.2.2.1 _ (by omega)]; rfl
    · rw [cpm_out (by omega), if_neg (by omega), if_neg (by omega)]; exact hc.2.2.2.2.1 i hi
  · rw [ms_ne _ (by decide), ms_ne _ (by decide)]
    unfold cp2 gTk
    rw [if_neg (show ¬ 14 + i = 0 by omega), if_neg (show ¬ 14 + i = 3 by omega), if_neg (show ¬ (4 + v ≤ 14 + i ∧ 14 + i + 1 < 4 + gN s.1) by omega)]
    by_cases q : v ≤ i ∧ i < v + (gN s.1 - 1 - v)
    · rw [show (2 + 1 : Nat) = 3 from rfl, cpm_in q.1 q.2, if_pos (by omega), show v + (i - v) + 1 = i + 1 by omega, hc.2.2.2.2.2 _ (by omega)]; rfl
    · rw [show (2 + 1 : Nat) = 3 from rfl, cpm_out (by omega), if_neg (by omega), cpm_ne (by decide)]; exact hc.2.2.2.2.2 i hi
theorem div_z {v : Int} (h : 0 ≤ v ∧ v < 2147483648) : bDiv v 65536 = v / 65536 := by
  obtain ⟨n, rfl⟩ : ∃ n : Nat, v = (n : Int) := ⟨v.toNat, by omega⟩
  have := bDiv_nat (a := n) (b := 65536) (by omega) (by decide) (by decide)
  rw [show ((65536 : Nat) : Int) = 65536 from rfl] at this
  rw [this]
  omega
theorem rem_z {v : Int} (h : 0 ≤ v ∧ v < 2147483648) : bRem (v / 65536) 64 = plc v := by
  obtain ⟨n, rfl⟩ : ∃ n : Nat, v = (n : Int) := ⟨v.toNat, by omega⟩
  have := bRem_nat (a := n / 65536) (b := 64) (by omega) (by decide) (by decide)
  rw [show ((64 : Nat) : Int) = 64 from rfl, show (((n / 65536 : Nat)) : Int) = (n : Int) / 65536 by omega] at this
  rw [this]
  unfold plc
  omega
theorem mi_ofF {O : OmT} {l : Launch} {y : MethodName} {ws ws' : List Cond} {rm : Room} {av : List Sv} {V : Mem} {post : Int → Mem → Prop} {cc : ByteArray} {nL : Nat} {rt : Option FieldType} (hy : plainFor y = true) (hw : ws = Cond.code y cc nL rt :: ws') (hav : av.all sn = true) (hlen : av.length ≤ nL)
    (body : ∀ F : PhT, fL F = l → cx O F y.cls cc nL rt ws → qI O F post → J O F rm nL V 0 (lvA 0 av) []) : MI O l y ws rm av V post := by
  refine va_MetF (cc := cc) (maxL := nL) (ret := rt) hy hw ?_
  intro p e s m args below meth c s₁ B hml hv
  obtain ⟨rfl, hP, hK, hD, hn⟩ := hv
  exact j_entry (F := (p, l, e, s, m, _, below, meth, c, _)) hav hlen ⟨hP, hD, va_S.rf⟩ (body (p, l, e, s, m, _, below, meth, c, _) rfl ⟨B.exec, B.bytes, B.returns, B.notSynchronized, hml, findClass_of_methodNamed B.named, atoms_spec (ws := ws) B.pre, hK, hn⟩ rfl)
