-- the law: its frame, its script (the number 100 stands for the script's cell)
section LL
variable {O : OmT} {F : PhT} {V : Mem} {pc : Nat} {lv : List (Nat × Sv)} {st : List Sv} {rt : Option FieldType}
def JL (O : OmT) (F : PhT) (V : Mem) (pc : Nat) (lv : List (Nat × Sv)) (st : List Sv) : Prop :=
  ∀ (H : Heap) (locs : List Loc) (ls : Array Slot), hs O (fS F) V H locs → lvh O ls 4 lv → W (fP F) (fL F) (fE F) room_1 (fS F) (fM F) (fA F) (fB F) (fH F) (fC F) H locs 82 5614 (fQ F) (F0 (fM F) pc ls (st.map (tv O)))
abbrev cL (O : OmT) (F : PhT) (rt : Option FieldType) : Prop := cx O F RL cL_law 4 rt lw_tbl
theorem l_iconst (C : cL O F rt) {n : Int} (hd : decode cL_law pc = .ok (.iconst n, 1)) (k : JL O F V (pc + 1) lv (si n :: st)) : JL O F V pc lv st := fun H locs ls h hl => lv_iconst (v := iI n) C.1 C.2.1 hd rfl (k H locs ls h hl)
theorem l_bipush (C : cL O F rt) {n : Int} (hd : decode cL_law pc = .ok (.bipush n, 2)) (hv : (Int8.ofInt n).toInt32 = iI n) (k : JL O F V (pc + 2) lv (si n :: st)) : JL O F V pc lv st := fun H locs ls h hl => lv_bipush (v := iI n) C.1 C.2.1 hd hv (k H locs ls h hl)
theorem l_iload_n (C : cL O F rt) {i : Fin 4} {z : Int} (hd : decode cL_law pc = .ok (.iload_n i, 1)) (hv : lg lv i = some (si z)) (k : JL O F V (pc + 1) lv (si z :: st)) : JL O F V pc lv st := fun H locs ls h hl => lv_iload_n C.1 C.2.1 hd rfl (lvh_at hl hv) (k H locs ls h hl)
theorem l_aload_n (C : cL O F rt) {i : Fin 4} {z : Nat} (hd : decode cL_law pc = .ok (.aload_n i, 1)) (hv : lg lv i = some (sr z)) (k : JL O F V (pc + 1) lv (sr z :: st)) : JL O F V pc lv st := fun H locs ls h hl => lv_aload_n C.1 C.2.1 hd rfl (lvh_at hl hv) (k H locs ls h hl)
theorem l_iinc (C : cL O F rt) {i : Nat} {n z : Int} {lv' : List (Nat × Sv)} (hd : decode cL_law pc = .ok (.iinc i n, 3)) (hv : lg lv i = some (si z)) (hn : i < 4) (hl' : lsv lv i (si (z + n)) = lv') (k : JL O F V (pc + 3) lv' st) : JL O F V pc lv st := fun H locs ls h hl => by
  subst hl'
  obtain ⟨k9, hk9⟩ := List.getElem?_of_mem (List.mem_map.mpr ⟨(i, si z), lg_mem hv, rfl⟩ : (i, tv O (si z)) ∈ lv.map (fun q => (q.1, tv O q.2)))
  exact lv_iinc (k := k9) (x := iI z) (v := iI (z + n)) C.1 C.2.1 hd hl.1 hk9 (iI_add z n) hn rfl (fun ls' h' => k H locs ls' h (lvh_set (v := si (z + n)) hl rfl h'))
theorem l_iadd (C : cL O F rt) {a b : Int} (hd : decode cL_law pc = .ok (.iadd, 1)) (k : JL O F V (pc + 1) lv (si (a + b) :: st)) : JL O F V pc lv (si b :: si a :: st) := fun H locs ls h hl => lv_iadd C.1 C.2.1 hd (by rw [iI_add]; exact k H locs ls h hl)
theorem l_isub (C : cL O F rt) {a b : Int} (hd : decode cL_law pc = .ok (.isub, 1)) (k : JL O F V (pc + 1) lv (si (a - b) :: st)) : JL O F V pc lv (si b :: si a :: st) := fun H locs ls h hl => lv_isub C.1 C.2.1 hd (by rw [iI_sub]; exact k H locs ls h hl)
theorem l_iand (C : cL O F rt) {a b : Int} (hd : decode cL_law pc = .ok (.iand, 1)) (k : JL O F V (pc + 1) lv (si (bAnd a b) :: st)) : JL O F V pc lv (si b :: si a :: st) := fun H locs ls h hl => lv_iand C.1 C.2.1 hd (by have := k H locs ls h hl; rwa [List.map_cons, show tv O (si (bAnd a b)) = .int (iI a &&& iI b) from congrArg Value.int (iI_of _)] at this)
theorem l_goto (C : cL O F rt) {off : Int} {tgt : Nat} (hd : decode cL_law pc = .ok (.goto off, 3)) (ht : (pc : Int) + off = (tgt : Int)) (k : JL O F V tgt lv st) : JL O F V pc lv st := fun H locs ls h hl => lv_goto C.1 C.2.1 hd ht (k H locs ls h hl)
theorem l_icmp_gt (C : cL O F rt) {a b off : Int} {tgt : Nat} (hd : decode cL_law pc = .ok (.if_icmp .gt off, 3)) (ht : (pc : Int) + off = (tgt : Int)) (ha : -2147483648 ≤ a ∧ a < 2147483648) (hb : -2147483648 ≤ b ∧ b < 2147483648) (kt : b < a → JL O F V tgt lv st) (kf : a ≤ b → JL O F V (pc + 3) lv st) : JL O F V pc lv (si b :: si a :: st) := fun H locs ls h hl => lv_icmp_gt C.1 C.2.1 hd ht (fun q => kt ((iI_lt hb ha).mp q) H locs ls h hl) (fun q => kf (Int.not_lt.mp fun e => q ((iI_lt hb ha).mpr e)) H locs ls h hl)
theorem l_if_eq (C : cL O F rt) {a off : Int} {tgt : Nat} (hd : decode cL_law pc = .ok (.ifCond .eq off, 3)) (ht : (pc : Int) + off = (tgt : Int)) (ha : -2147483648 ≤ a ∧ a < 2147483648) (kt : a = 0 → JL O F V tgt lv st) (kf : ¬ a = 0 → JL O F V (pc + 3) lv st) : JL O F V pc lv (si a :: st) := fun H locs ls h hl => by
  have h0 : -2147483648 ≤ (0 : Int) ∧ (0 : Int) < 2147483648 := by omega
  exact lv_if_eq C.1 C.2.1 hd ht (fun q => kt ((iI_eq ha h0).mp q) H locs ls h hl) (fun q => kf (fun e => q ((iI_eq ha h0).mpr e)) H locs ls h hl)
theorem l_same (C : cL O F rt) {a b off : Int} {tgt : Nat} (hd : decode cL_law pc = .ok (.if_icmp .eq off, 3)) (ht : (pc : Int) + off = (tgt : Int)) (hab : a = b) (k : JL O F V tgt lv st) : JL O F V pc lv (si b :: si a :: st) := fun H locs ls h hl => by
  subst hab
  exact lv_icmp_eq C.1 C.2.1 hd ht (fun _ => k H locs ls h hl) (fun q => absurd rfl q)
theorem l_tabIn (C : cL O F rt) {dflt lo hi off : Int} {offs : Array Int} {len tgt : Nat} {z : Int} (hd : decode cL_law pc = .ok (.tableswitch dflt lo hi offs, len)) (hr : -2147483648 ≤ z ∧ z < 2147483648) (h1 : ¬ z < lo) (h2 : ¬ hi < z) (ho : offs[(z - lo).toNat]? = some off) (ht : (pc : Int) + off = (tgt : Int)) (k : JL O F V tgt lv st) : JL O F V pc lv (si z :: st) := fun H locs ls h hl =>
  lv_tableIn C.1 C.2.1 hd (by rw [iI_toInt hr]; exact h1) (by rw [iI_toInt hr]; exact h2) (by rw [iI_toInt hr]; exact ho) ht (k H locs ls h hl)
theorem l_tabOut (C : cL O F rt) {dflt lo hi : Int} {offs : Array Int} {len tgt : Nat} {z : Int} (hd : decode cL_law pc = .ok (.tableswitch dflt lo hi offs, len)) (hr : -2147483648 ≤ z ∧ z < 2147483648) (h1 : z < lo ∨ hi < z) (ht : (pc : Int) + dflt = (tgt : Int)) (k : JL O F V tgt lv st) : JL O F V pc lv (si z :: st) := fun H locs ls h hl =>
  lv_tableOut C.1 C.2.1 hd (by rw [iI_toInt hr]; exact h1) ht (k H locs ls h hl)
theorem l_top {a b : Int} (h : a = b) (k : JL O F V pc lv (si b :: st)) : JL O F V pc lv (si a :: st) := by rw [h]; exact k
/-- the script: L ints xs, at a cell that is none of the world's -/
def scr (O : OmT) (F : PhT) (L : Nat) (xs : Nat → Int32) : Prop := va_X (O.2.2.2.2 100) L xs (fS F) (fS F).heap ∧ O.2.2.2.2 100 < (fS F).heap.size ∧ ¬ wwA O (O.2.2.2.2 100) ∧ L ≤ 2048
theorem l_slen (C : cL O F rt) {L : Nat} {xs : Nat → Int32} (S : scr O F L xs) (hd : decode cL_law pc = .ok (.arraylength, 1)) (k : JL O F V (pc + 1) lv (si (L : Int) :: st)) : JL O F V pc lv (sr 100 :: st) := fun H locs ls h hl =>
  va_slen C.1 C.2.1 S.1 S.2.1 S.2.2.1 h.2.2 hd (by have := k H locs ls h hl; rwa [List.map_cons, show tv O (si (L : Int)) = .int (Int32.ofNat L) from congrArg Value.int (iI_nI L).symm] at this)
theorem l_sld (C : cL O F rt) {L : Nat} {xs : Nat → Int32} (S : scr O F L xs) {z : Int} (j : Nat) (hz : z = (j : Int)) (hj : j < L) (hd : decode cL_law pc = .ok (.iaload, 1)) (k : JL O F V (pc + 1) lv (si (xs j).toInt :: st)) : JL O F V pc lv (si z :: sr 100 :: st) := fun H locs ls h hl => by
  have hi := iI_in hz hj (by have := S.2.2.2; omega)
  refine va_sld C.1 C.2.1 S.1 S.2.1 S.2.2.1 h.2.2 hi.1 hd ?_
  rw [hi.2]
  have := k H locs ls h hl
  rwa [List.map_cons, show tv O (si (xs j).toInt) = .int (xs j) from congrArg Value.int (iI_of _)] at this
abbrev LV (i : Nat) : List (Nat × Sv) := [(0, sr 100), (1, sr 0), (2, sr 72), (3, si (i : Int))]
/-- an int of the script behind i -/
theorem l_arg (C : cL O F rt) {L i k : Nat} {xs : Nat → Int32} (S : scr O F L xs) (h0 : decode cL_law pc = .ok (.aload_n 0, 1)) (h1 : decode cL_law (pc + 1) = .ok (.iload_n 3, 1)) (h2 : decode cL_law (pc + 2) = .ok (.iconst (k : Int), 1)) (h3 : decode cL_law (pc + 3) = .ok (.iadd, 1)) (h4 : decode cL_law (pc + 4) = .ok (.iaload, 1)) (hk : i + k < L) (kk : JL O F V (pc + 5) (LV i) (si (xs (i + k)).toInt :: st)) : JL O F V pc (LV i) st := by
  refine l_aload_n C h0 rfl ?_
  refine l_iload_n C h1 rfl ?_
  refine l_iconst C h2 ?_
  refine l_iadd C h3 ?_
  exact l_sld C S (i + k) (by omega) hk h4 kk
/-- whether an int of the script behind i is not 0 -/
theorem l_argb (C : cL O F rt) {L i : Nat} {xs : Nat → Int32} (S : scr O F L xs) (h0 : decode cL_law pc = .ok (.aload_n 0, 1)) (h1 : decode cL_law (pc + 1) = .ok (.iload_n 3, 1)) (h2 : decode cL_law (pc + 2) = .ok (.iconst 2, 1)) (h3 : decode cL_law (pc + 3) = .ok (.iadd, 1)) (h4 : decode cL_law (pc + 4) = .ok (.iaload, 1)) (h5 : decode cL_law (pc + 5) = .ok (.ifCond .eq 7, 3)) (h6 : decode cL_law (pc + 8) = .ok (.iconst 1, 1)) (h7 : decode cL_law (pc + 9) = .ok (.goto 4, 3)) (h8 : decode cL_law (pc + 12) = .ok (.iconst 0, 1)) (hk : i + 2 < L) (kk : JL O F V (pc + 13) (LV i) (si (bI (decide (¬ (xs (i + 2)).toInt = 0))) :: st)) : JL O F V pc (LV i) st := by
  refine l_arg (k := 2) C S h0 h1 h2 h3 h4 hk ?_
  refine l_if_eq (tgt := pc + 12) C h5 (by omega) (i32_rg _) (fun q => ?_) (fun q => ?_)
  · refine l_iconst C h8 ?_
    rw [decide_eq_false (fun n => n q)] at kk
    exact kk
  · refine l_iconst C h6 ?_
    refine l_goto (tgt := pc + 13) C h7 (by omega) ?_
    rw [decide_eq_true q] at kk
    exact kk
variable {y : MethodName} {ws : List Cond} {bytes : ByteArray} {maxL n index : Nat} {ret9 : Option FieldType} {rm : Room} {as stk : List Sv} {b ci : Nat} {fs : List Value} {Cn : String} {T : u_T} {N : Nat} {post : Int → Mem → Prop}
theorem l_call (C : cL O F rt) (hM : MI O (fL F) y ws rm (sr b :: as) V post) (hg : GoodIn lw_tbl (wsV RL index Cn y ws)) (hs0 : sg y ws bytes maxL ret9 rm n) (hy : y.cls = Cn) (hR : rm.frames + 1 ≤ room_1.frames ∧ 8 + (maxL + 11) + rm.locals ≤ room_1.locals) (hb : b < 82) (he : en O b (V b) = .inr (ci, fs)) (hcl : vwCl[ci]? = some (Cn, T, N)) (hn : as.length = n) (hk : stk = as.reverse ++ sr b :: st) (h4 : st.length ≤ 4) (hd : decode cL_law pc = .ok (.invokevirtual index, 3)) (kk : ∀ z V', post z V' → JL O F V' (pc + 3) lv (si z :: st)) : JL O F V pc lv stk := by
  intro H locs ls h hl
  have C0 := C
  obtain ⟨hx, hb0, hr, hlk, hml, hown, hts, hK, hn0⟩ := C
  obtain ⟨⟨ws', hw⟩, h1, h2, h3, h5, h6⟩ := hs0
  have hrun : va_Run (fP F) (fL F) (fE F) room_1 (fS F) (fM F) (fA F) (fB F) (fH F) (fC F) H locs 82 5614 0 0 (F0 (fM F) pc ls (stk.map (tv O))) (st.map (tv O)) (mQi O post ((sr b :: as).map (tv O)).toArray) (wwA O) :=
    va_runV (b := O.2.2.2.2 b) (As := as.map (tv O)) (rest := st.map (tv O)) ⟨hx, hb0, hml, hown, hts⟩ hM (cwV n hts hg hw h1 h2 ⟨hy, h3, h5, h6⟩ hR) ⟨mP_blind _ _ _, va_recv hK h.1 hcl (q0 := b) (by rw [ww_at hb, he]), fun U hU hW => mP_use h hK hn0 U hU hW⟩ rfl (by rw [List.length_map]; exact hn) hl.1.1 (stk_map hk) (lv_room (Nat.le_trans (room8 st) (by omega))) hd ⟨Nat.le_of_ble_eq_true rfl, Nat.le_of_ble_eq_true rfl⟩
  refine va_calli hrun h.2.2 (fun q _ h => h) (fun q h => h) (fun r V' t H1 locs1 ht hvm hw hB hz hk hS => ?_)
  obtain ⟨z, rfl, hp⟩ := hw
  have hB : va_P O.1 vwCl (ww O V') t.heap := hB
  rw [ht] at hB
  exact kk z V' hp H1 locs1 ls ⟨hB, ww_D h.2.1, hS⟩ hl
end LL
-- calls that tell: what stays
theorem q5e {V V2 : Mem} {s : St} (h : CR V s) (e : V = V2) : CR V2 s ∧ hiF V V2 := by subst e; exact ⟨h, fun _ _ => rfl⟩
theorem q5r {V V2 : Mem} {s : St} (h : CR V s) (e : cFr V V2) : CR V2 s ∧ hiF V V2 := ⟨CR_s h (cFs_c e h.2.2.2.1), cFs_hi (cFs_c e h.2.2.2.1)⟩
theorem q5s {V V2 : Mem} {s : St} (h : CR V s) (e : cFs V V2) : CR V2 s ∧ hiF V V2 := ⟨CR_s h e, cFs_hi e⟩
theorem q6e {V V2 : Mem} {s : St} (h : MR V s) (e : V = V2) : MR V2 s ∧ loF V V2 := by subst e; exact ⟨h, fun _ _ => rfl⟩
theorem q6r {V V2 : Mem} {s : St} (h : MR V s) (e : mFr V V2) : MR V2 s ∧ loF V V2 := ⟨MR_m h e, mFr_lo e⟩
