section LJ
variable {O : OmT} {F : PhT} {R : Room} {nL : Nat} {V : Mem} {pc : Nat} {lv : List (Nat × Sv)} {st : List Sv} {own : String} {cc : ByteArray} {rt : Option FieldType} {Ts : List Cond}
theorem j_get (C : cx O F own cc nL rt Ts) (c k : Nat) {ci N index : Nat} {T : u_T} {Cn : String} {fs : List Value} {v : Sv} (hc : c < 82) (he : en O c (V c) = .inr (ci, fs)) (hcl : vwCl[ci]? = some (Cn, T, N)) (hk : k < N) (hin : ∀ w ∈ u_ws Cn T N, w ∈ Ts) (hl : Cond.fieldLink own index (T k).1 (T k).2.1 (T k).2.2.1 ∈ Ts) (hd : decode cc pc = .ok (.getfield index, 3)) (hv : fs[k]? = some (tv O v)) (kk : J O F R nL V (pc + 3) lv (v :: st)) : J O F R nL V pc lv (sr c :: st) := fun H locs ls h hl' =>
  va_get (D := O.1) (ci := ci) C.1 C.2.1 C.2.2.2.2.2.2.1 hin C.2.2.2.2.2.1 C.2.2.2.2.2.2.2.1 h.1 c (by rw [ww_at hc, he]) hcl k hk (C.2.2.2.2.2.2.1 _ hl) (fun _ h9 => h9) hv hd (kk H locs ls h hl')
theorem j_getN (C : cx O F own cc nL rt Ts) (c k : Nat) {ci N index : Nat} {T : u_T} {Cn : String} {fs : List Value} {v : Sv} (hc : c < 82) (he : en O c (V c) = .inr (ci, fs)) (hcl : vwCl[ci]? = some (Cn, T, N)) (hk : k < N) (hin : ∀ w ∈ u_ws Cn T N, w ∈ Ts) (hl : (own, index, (T k).1, (T k).2.1, (T k).2.2.1) ∈ nwF) (hd : decode cc pc = .ok (.getfield index, 3)) (hv : fs[k]? = some (tv O v)) (kk : J O F R nL V (pc + 3) lv (v :: st)) : J O F R nL V pc lv (sr c :: st) := fun H locs ls h hl' =>
  va_getN (D := O.1) (ci := ci) (host := "FaceLetters") C.1 C.2.1 C.2.2.2.2.2.2.1 hin C.2.2.2.2.2.1 C.2.2.2.2.2.2.2.1 h.1 c (by rw [ww_at hc, he]) hcl k hk (va_Nw.use rfl (C.2.2.2.2.2.2.2.2.1 _ hl)) (fun _ h9 => h9) hv hd (kk H locs ls h hl')
def pcl (ci : Nat) (Cn : String) (T : u_T) (N : Nat) (ty0 : Nat → FieldType) : Prop := vwCl[ci]? = some (Cn, T, N) ∧ (∀ k, k < N → parseFieldDescriptor (T k).2.2.1 = some (ty0 k)) ∧ ∀ a, a < N → ∀ b, b < N → a ≠ b → (T a).2.1 ≠ (T b).2.1
theorem pcl0 : pcl 0 RX0 TX0 4 tyX0 := ⟨rfl, tyX0_ok, nmX0⟩
theorem pcl1 : pcl 1 RX1 TX1 7 tyX1 := ⟨rfl, tyX1_ok, nmX1⟩
theorem pcl2 : pcl 2 RX2 TX2 17 tyX2 := ⟨rfl, tyX2_ok, nmX2⟩
theorem pcl3 : pcl 3 RX3 TX3 4 tyX3 := ⟨rfl, tyX3_ok, nmX3⟩
theorem pcl4 : pcl 4 RX4 TX4 3 tyX4 := ⟨rfl, tyX4_ok, nmX4⟩
theorem pcl5 : pcl 5 RX5 TX5 7 tyX5 := ⟨rfl, tyX5_ok, nmX5⟩
theorem pcl6 : pcl 6 RX6 TX6 26 tyX6 := ⟨rfl, tyX6_ok, nmX6⟩
/-- a value that a field of ints or of booleans takes -/
def fitZ (ty : FieldType) (x : Int) : Prop := narrow ty (.int (iI x)) = .int (iI x) ∧ fits ty (.int (iI x)) = true
theorem fit_i (x : Int) : fitZ .int x := ⟨vp_nar_int _, rfl⟩
theorem fit_z {x : Int} (h : x = 0 ∨ x = 1) : fitZ .boolean x := by rcases h with h | h <;> subst h <;> exact ⟨by decide, by decide⟩
theorem j_put (C : cx O F own cc nL rt Ts) (c k : Nat) {x : Int} {ci N index : Nat} {T : u_T} {Cn : String} {ty0 : Nat → FieldType} {fs : List Value} {ty : FieldType} (hc : c < 82) (he : en O c (V c) = .inr (ci, fs)) (he' : en O c (va_up (V c) k x) = .inr (ci, fs.set k (.int (iI x)))) (hcl : pcl ci Cn T N ty0) (hk : k < N) (hin : ∀ w ∈ u_ws Cn T N, w ∈ Ts) (hl : Cond.fieldLink own index (T k).1 (T k).2.1 (T k).2.2.1 ∈ Ts) (hfin : (T k).2.2.2 = false) (hty : parseFieldDescriptor (T k).2.2.1 = some ty) (hfit : fitZ ty x) (hlen : k < fs.length) (hd : decode cc pc = .ok (.putfield index, 3)) (kk : J O F R nL (ms V c k x) (pc + 3) lv st) : J O F R nL V pc lv (si x :: sr c :: st) := fun H locs ls h hl' =>
  va_put (D := O.1) (ci := ci) (v := .int (iI x)) C.1 C.2.1 C.2.2.2.2.2.2.1 hin ty0 hcl.2.1 hcl.2.2 C.2.2.2.2.2.1 C.2.2.2.2.2.2.2.1 h.1 h.2.1 h.2.2 c (by rw [ww_at hc, he]) hcl.1 k hk (C.2.2.2.2.2.2.1 _ hl) (fun _ h9 => h9) hfin hty hfit.1 hfit.2 hlen hd
    (fun H1 locs1 hP hD hS => kk H1 locs1 ls ⟨by rw [← ww_set, he']; exact hP, by rw [← ww_set, he']; exact hD, hS⟩ hl')
theorem j_putN (C : cx O F own cc nL rt Ts) (c k : Nat) {x : Int} {ci N index : Nat} {T : u_T} {Cn : String} {ty0 : Nat → FieldType} {fs : List Value} {ty : FieldType} (hc : c < 82) (he : en O c (V c) = .inr (ci, fs)) (he' : en O c (va_up (V c) k x) = .inr (ci, fs.set k (.int (iI x)))) (hcl : pcl ci Cn T N ty0) (hk : k < N) (hin : ∀ w ∈ u_ws Cn T N, w ∈ Ts) (hl : (own, index, (T k).1, (T k).2.1, (T k).2.2.1) ∈ nwF) (hfin : (T k).2.2.2 = false) (hty : parseFieldDescriptor (T k).2.2.1 = some ty) (hfit : fitZ ty x) (hlen : k < fs.length) (hd : decode cc pc = .ok (.putfield index, 3)) (kk : J O F R nL (ms V c k x) (pc + 3) lv st) : J O F R nL V pc lv (si x :: sr c :: st) := fun H locs ls h hl' =>
  va_putN (D := O.1) (ci := ci) (host := "FaceLetters") (v := .int (iI x)) C.1 C.2.1 C.2.2.2.2.2.2.1 hin ty0 hcl.2.1 hcl.2.2 C.2.2.2.2.2.1 C.2.2.2.2.2.2.2.1 h.1 h.2.1 h.2.2 c (by rw [ww_at hc, he]) hcl.1 k hk (va_Nw.use rfl (C.2.2.2.2.2.2.2.2.1 _ hl)) (fun _ h9 => h9) hfin hty hfit.1 hfit.2 hlen hd
    (fun H1 locs1 hP hD hS => kk H1 locs1 ls ⟨by rw [← ww_set, he']; exact hP, by rw [← ww_set, he']; exact hD, hS⟩ hl')
/-- a row of ints: cell c, n places -/
def rowI (O : OmT) (c n : Nat) : Prop := c < 82 ∧ n < 2147483648 ∧ ∀ r : Nat → Int, en O c r = .inl (O.2.1, n, .inl (fun i => iI (r i)))
theorem upd_iI (r : Nat → Int) (j : Nat) (x : Int) : upd (fun i => iI (r i)) j (iI x) = fun i => iI (va_up r j x i) := by
  funext i
  unfold upd va_up
  split <;> rfl
theorem j_iald (C : cx O F own cc nL rt Ts) {c n : Nat} (hc : rowI O c n) {z : Int} (j : Nat) (hz : z = (j : Int)) (hj : j < n) (hd : decode cc pc = .ok (.iaload, 1)) (kk : J O F R nL V (pc + 1) lv (si (V c j) :: st)) : J O F R nL V pc lv (si z :: sr c :: st) := fun H locs ls h hl => by
  have hi := iI_in hz hj hc.2.1
  refine va_iald (D := O.1) (cA := O.2.1) (n := n) (f := fun i => iI (V c i)) C.1 C.2.1 C.2.2.2.2.2.2.2.1 h.1 c 0 (by rw [ww_at hc.1, hc.2.2]) rfl hi.1 hd ?_
  rw [hi.2]
  exact kk H locs ls h hl
theorem j_iast (C : cx O F own cc nL rt Ts) {c n : Nat} (hc : rowI O c n) {z x : Int} (j : Nat) (hz : z = (j : Int)) (hj : j < n) (hd : decode cc pc = .ok (.iastore, 1)) (kk : J O F R nL (ms V c j x) (pc + 1) lv st) : J O F R nL V pc lv (si x :: si z :: sr c :: st) := fun H locs ls h hl => by
  have hi := iI_in hz hj hc.2.1
  refine va_iast (D := O.1) (cA := O.2.1) (n := n) (f := fun i => iI (V c i)) C.1 C.2.1 C.2.2.2.2.2.2.2.1 h.1 h.2.1 h.2.2 c 0 (by rw [ww_at hc.1, hc.2.2]) rfl hi.1 hd (fun H1 locs1 hP hD hS => ?_)
  rw [hi.2, upd_iI, ← hc.2.2, ww_set] at hP hD
  exact kk H1 locs1 ls ⟨hP, hD, hS⟩ hl
/-- the row of booleans -/
theorem j_zald (C : cx O F own cc nL rt Ts) {z : Int} (j : Nat) (hz : z = (j : Int)) (hj : j < 2) (hd : decode cc pc = .ok (.baload, 1)) (kk : J O F R nL V (pc + 1) lv (si (V 75 j) :: st)) : J O F R nL V pc lv (si z :: sr 75 :: st) := fun H locs ls h hl => by
  have hi := iI_in hz hj (by decide)
  refine va_zald (D := O.1) (cA := O.2.2.1) (n := 2) (f := fun i => iI (V 75 i)) C.1 C.2.1 C.2.2.2.2.2.2.2.1 h.1 75 1 (by rw [ww_at (by decide)]; rfl) rfl hi.1 hd ?_
  rw [hi.2]
  exact kk H locs ls h hl
theorem j_zast (C : cx O F own cc nL rt Ts) {z x : Int} (hx : x = 0 ∨ x = 1) (j : Nat) (hz : z = (j : Int)) (hj : j < 2) (hd : decode cc pc = .ok (.bastore, 1)) (kk : J O F R nL (ms V 75 j x) (pc + 1) lv st) : J O F R nL V pc lv (si x :: si z :: sr 75 :: st) := fun H locs ls h hl => by
  have hi := iI_in hz hj (by decide)
  have hn : vp_nar .boolean (iI x) = iI x := by rcases hx with e | e <;> subst e <;> decide
  refine va_zast (D := O.1) (cA := O.2.2.1) (n := 2) (f := fun i => iI (V 75 i)) C.1 C.2.1 C.2.2.2.2.2.2.2.1 h.1 h.2.1 h.2.2 75 1 (by rw [ww_at (by decide)]; rfl) rfl hi.1 hd (fun H1 locs1 hP hD hS => ?_)
  rw [hi.2, hn, upd_iI] at hP hD
  have e : (ww O V).set 75 (O.2.2.2.2 75, .inl (O.2.2.1, 2, .inl (fun i => iI (va_up (V 75) j x i)))) = ww O (ms V 75 j x) := ww_set
  rw [e] at hP hD
  exact kk H1 locs1 ls ⟨hP, hD, hS⟩ hl
/-- the rows of grounds -/
theorem j_aald (C : cx O F own cc nL rt Ts) (c b n : Nat) (hc : c < 82) (he : en O c (V c) = .inl (O.2.2.2.1, n, .inr (.inr (.inr (.inr (fun i => some (O.2.2.2.2 (b + 3 * i)))))))) (hn : n < 2147483648) {z : Int} (j : Nat) (hz : z = (j : Int)) (hj : j < n) (hd : decode cc pc = .ok (.aaload, 1)) (kk : J O F R nL V (pc + 1) lv (sr (b + 3 * j) :: st)) : J O F R nL V pc lv (si z :: sr c :: st) := fun H locs ls h hl => by
  have hi := iI_in hz hj hn
  refine va_aldq (D := O.1) (cA := O.2.2.2.1) (C := "FaceLetters$Ground") (n := n) (f := fun i => some (O.2.2.2.2 (b + 3 * i))) C.1 C.2.1 C.2.2.2.2.2.2.2.1 h.1 c 2 (by rw [ww_at hc, he]) rfl hi.1 hd ?_
  rw [hi.2]
  exact kk H locs ls h hl
-- calls
def sg (y : MethodName) (ws : List Cond) (bytes : ByteArray) (maxL : Nat) (ret : Option FieldType) (rm : Room) (n : Nat) : Prop :=
  (∃ ws', ws = Cond.code y bytes maxL ret :: ws') ∧ rm.cells = 0 ∧ rm.slots = 0 ∧ y.cls ≠ "java/lang/invoke/MethodHandle" ∧ y.cls ≠ "java/lang/invoke/VarHandle" ∧ (parseMethodDescriptor y.desc).map (fun d => d.parameters.length) = some n
theorem room8 : ∀ (st : List Sv), (List.map (fun v => v.category) (st.map (tv O))).sum ≤ 2 * st.length
  | [] => by simp
  | v :: t => by
    have := room8 t
    have h2 : (tv O v).category ≤ 2 := by rcases lv_cat (tv O v) with e | e <;> omega
    simp only [List.map_cons, List.sum_cons, List.length_cons]
    omega
theorem j_doI {post : Int → Mem → Prop} {stk : List Sv} {a : Array Value} (hr : ∀ (H : Heap) (locs : List Loc) (ls : Array Slot), hs O (fS F) V H locs → lvh O ls nL lv → va_Run (fP F) (fL F) (fE F) R (fS F) (fM F) (fA F) (fB F) (fH F) (fC F) H locs 0 0 0 0 (F0 (fM F) pc ls (stk.map (tv O))) (st.map (tv O)) (mQi O post a) (wwA O)) (kk : ∀ z V', post z V' → J O F R nL V' (pc + 3) lv (si z :: st)) : J O F R nL V pc lv stk := by
  intro H locs ls h hl
  refine va_calli (hr H locs ls h hl) h.2.2 (fun q _ h => h) (fun q h => h) (fun r V' t H1 locs1 ht hvm hw hB hz hk hS => ?_)
  obtain ⟨z, rfl, hp⟩ := hw
  have hB : va_P O.1 vwCl (ww O V') t.heap := hB
  rw [ht] at hB
  exact kk z V' hp H1 locs1 ls ⟨hB, ww_D h.2.1, hS⟩ hl
theorem j_doV {post : Mem → Prop} {stk : List Sv} {a : Array Value} (hr : ∀ (H : Heap) (locs : List Loc) (ls : Array Slot), hs O (fS F) V H locs → lvh O ls nL lv → va_Run (fP F) (fL F) (fE F) R (fS F) (fM F) (fA F) (fB F) (fH F) (fC F) H locs 0 0 0 0 (F0 (fM F) pc ls (stk.map (tv O))) (st.map (tv O)) (mQv O post a) (wwA O)) (kk : ∀ V', post V' → J O F R nL V' (pc + 3) lv st) : J O F R nL V pc lv stk := by
  intro H locs ls h hl
  refine va_callv (hr H locs ls h hl) h.2.2 (fun q _ h => h) (fun q h => h) (fun V' t H1 locs1 ht hvm hw hB hz hk hS => ?_)
  have hB : va_P O.1 vwCl (ww O V') t.heap := hB
  rw [ht] at hB
  exact kk V' hw H1 locs1 ls ⟨hB, ww_D h.2.1, hS⟩ hl
theorem stk_map {as stk : List Sv} {b : Nat} (h : stk = as.reverse ++ sr b :: st) : stk.map (tv O) = (as.map (tv O)).reverse ++ .ref (O.2.2.2.2 b) :: st.map (tv O) := by
  subst h
  simp [tv]
theorem stk_mapS {as stk : List Sv} (h : stk = as.reverse ++ st) : stk.map (tv O) = (as.map (tv O)).reverse ++ st.map (tv O) := by
  subst h
  simp
variable {y : MethodName} {ws : List Cond} {bytes : ByteArray} {maxL n index : Nat} {ret : Option FieldType} {rm : Room} {Qc : Array Value → State → Outcome → State → Prop} {as stk : List Sv} {b ci : Nat} {fs : List Value} {Cn : String} {T : u_T} {N : Nat}
theorem j_runV (C : cx O F own cc nL rt Ts) (hM : Met (fL F) y ws rm (mP O (sr b :: as) V) Qc 0 0 (wwA O)) (hg : GoodIn Ts (wsV own index Cn y ws)) (hs0 : sg y ws bytes maxL ret rm n) (hy : y.cls = Cn) (hR : rm.frames + 1 ≤ R.frames ∧ 8 + (maxL + 11) + rm.locals ≤ R.locals) (hb : b < 82) (he : en O b (V b) = .inr (ci, fs)) (hcl : vwCl[ci]? = some (Cn, T, N)) (hn : as.length = n) (hk : stk = as.reverse ++ sr b :: st) (h4 : st.length ≤ 4) (hd : decode cc pc = .ok (.invokevirtual index, 3)) :
    ∀ (H : Heap) (locs : List Loc) (ls : Array Slot), hs O (fS F) V H locs → lvh O ls nL lv → va_Run (fP F) (fL F) (fE F) R (fS F) (fM F) (fA F) (fB F) (fH F) (fC F) H locs 0 0 0 0 (F0 (fM F) pc ls (stk.map (tv O))) (st.map (tv O)) (Qc ((sr b :: as).map (tv O)).toArray) (wwA O) := by
  intro H locs ls h hl
  obtain ⟨hx, hb0, hr, hlk, hml, hown, hts, hK, hn0⟩ := C
  obtain ⟨⟨ws', hw⟩, h1, h2, h3, h5, h6⟩ := hs0
  exact va_runV (b := O.2.2.2.2 b) (As := as.map (tv O)) (rest := st.map (tv O)) ⟨hx, hb0, hml, hown, hts⟩ hM (cwV n hts hg hw h1 h2 ⟨hy, h3, h5, h6⟩ hR) ⟨mP_blind _ _ _, va_recv hK h.1 hcl (q0 := b) (by rw [ww_at hb, he]), fun U hU hW => mP_use h hK hn0 U hU hW⟩ rfl (by rw [List.length_map]; exact hn) hl.1.1 (stk_map hk) (lv_room (Nat.le_trans (room8 st) (by omega))) hd ⟨Nat.zero_le _, Nat.zero_le _⟩
theorem j_runVN (C : cx O F own cc nL rt Ts) (hM : Met (fL F) y ws rm (mP O (sr b :: as) V) Qc 0 0 (wwA O)) (hg : GoodIn Ts ws) (hs0 : sg y ws bytes maxL ret rm n) (hy : y.cls = Cn) (hl0 : (own, index, y) ∈ nwM) (hi0 : Cond.initialized y.cls ∈ Ts) (hi1 : Cond.instanceMethod y ∈ Ts) (hi2 : Cond.selects Cn y y ∈ Ts) (hR : rm.frames + 1 ≤ R.frames ∧ 8 + (maxL + 11) + rm.locals ≤ R.locals) (hb : b < 82) (he : en O b (V b) = .inr (ci, fs)) (hcl : vwCl[ci]? = some (Cn, T, N)) (hn : as.length = n) (hk : stk = as.reverse ++ sr b :: st) (h4 : st.length ≤ 4) (hd : decode cc pc = .ok (.invokevirtual index, 3)) :
    ∀ (H : Heap) (locs : List Loc) (ls : Array Slot), hs O (fS F) V H locs → lvh O ls nL lv → va_Run (fP F) (fL F) (fE F) R (fS F) (fM F) (fA F) (fB F) (fH F) (fC F) H locs 0 0 0 0 (F0 (fM F) pc ls (stk.map (tv O))) (st.map (tv O)) (Qc ((sr b :: as).map (tv O)).toArray) (wwA O) := by
  intro H locs ls h hl
  obtain ⟨hx, hb0, hr, hlk, hml, hown, hts, hK, hn0⟩ := C
  obtain ⟨⟨ws', hw⟩, h1, h2, h3, h5, h6⟩ := hs0
  exact va_runVN (C := Cn) (b := O.2.2.2.2 b) (As := as.map (tv O)) (rest := st.map (tv O)) ⟨hx, hb0, hml, hown, hts⟩ hM ⟨va_cnB n hts hg hw h1 h2 (hn0.2 _ hl0) (hts _ hi0) ⟨h3, h5, h6⟩ hR, hts _ hi1, hts _ hi2⟩ ⟨mP_blind _ _ _, va_recv hK h.1 hcl (q0 := b) (by rw [ww_at hb, he]), fun U hU hW => mP_use h hK hn0 U hU hW⟩ rfl (by rw [List.length_map]; exact hn) hl.1.1 (stk_map hk) (lv_room (Nat.le_trans (room8 st) (by omega))) hd ⟨Nat.zero_le _, Nat.zero_le _⟩
theorem j_runS (C : cx O F own cc nL rt Ts) (hM : Met (fL F) y ws rm (mP O as V) Qc 0 0 (wwA O)) (hg : GoodIn Ts ws) (hs0 : sg y ws bytes maxL ret rm n) (hl0 : Cond.methodLink own index y ∈ Ts) (hi0 : Cond.initialized y.cls ∈ Ts) (hi1 : Cond.static y ∈ Ts) (hR : rm.frames + 1 ≤ R.frames ∧ 8 + (maxL + 11) + rm.locals ≤ R.locals) (hn : as.length = n) (hk : stk = as.reverse ++ st) (h4 : st.length ≤ 4) (hd : decode cc pc = .ok (.invokestatic index, 3)) :
    ∀ (H : Heap) (locs : List Loc) (ls : Array Slot), hs O (fS F) V H locs → lvh O ls nL lv → va_Run (fP F) (fL F) (fE F) R (fS F) (fM F) (fA F) (fB F) (fH F) (fC F) H locs 0 0 0 0 (F0 (fM F) pc ls (stk.map (tv O))) (st.map (tv O)) (Qc (as.map (tv O)).toArray) (wwA O) := by
  intro H locs ls h hl
  obtain ⟨hx, hb0, hr, hlk, hml, hown, hts, hK, hn0⟩ := C
  obtain ⟨⟨ws', hw⟩, h1, h2, h3, h5, h6⟩ := hs0
  exact va_runS (As := as.map (tv O)) (rest := st.map (tv O)) ⟨hx, hb0, hml, hown, hts⟩ hM ⟨callB_of n hts hg hw h1 h2 (hts _ hi0) (hts _ hl0) ⟨h3, h5, h6⟩ hR, hts _ hi1⟩ ⟨mP_blind _ _ _, fun U hU hW => mP_use h hK hn0 U hU hW⟩ rfl (by rw [List.length_map]; exact hn) hl.1.1 (stk_mapS hk) (lv_room (Nat.le_trans (room8 st) (by omega))) hd ⟨Nat.zero_le _, Nat.zero_le _⟩
theorem j_runSN (C : cx O F own cc nL rt Ts) (hM : Met (fL F) y ws rm (mP O as V) Qc 0 0 (wwA O)) (hg : GoodIn Ts ws) (hs0 : sg y ws bytes maxL ret rm n) (hl0 : (own, index, y) ∈ nwM) (hi0 : Cond.initialized y.cls ∈ Ts) (hi1 : Cond.static y ∈ Ts) (hR : rm.frames + 1 ≤ R.frames ∧ 8 + (maxL + 11) + rm.locals ≤ R.locals) (hn : as.length = n) (hk : stk = as.reverse ++ st) (h4 : st.length ≤ 4) (hd : decode cc pc = .ok (.invokestatic index, 3)) :
    ∀ (H : Heap) (locs : List Loc) (ls : Array Slot), hs O (fS F) V H locs → lvh O ls nL lv → va_Run (fP F) (fL F) (fE F) R (fS F) (fM F) (fA F) (fB F) (fH F) (fC F) H locs 0 0 0 0 (F0 (fM F) pc ls (stk.map (tv O))) (st.map (tv O)) (Qc (as.map (tv O)).toArray) (wwA O) := by
  intro H locs ls h hl
  obtain ⟨hx, hb0, hr, hlk, hml, hown, hts, hK, hn0⟩ := C
  obtain ⟨⟨ws', hw⟩, h1, h2, h3, h5, h6⟩ := hs0
  exact va_runSN (As := as.map (tv O)) (rest := st.map (tv O)) ⟨hx, hb0, hml, hown, hts⟩ hM ⟨va_cnB n hts hg hw h1 h2 (hn0.2 _ hl0) (hts _ hi0) ⟨h3, h5, h6⟩ hR, hts _ hi1, trivial⟩ ⟨mP_blind _ _ _, fun U hU hW => mP_use h hK hn0 U hU hW⟩ rfl (by rw [List.length_map]; exact hn) hl.1.1 (stk_mapS hk) (lv_room (Nat.le_trans (room8 st) (by omega))) hd ⟨Nat.zero_le _, Nat.zero_le _⟩
end LJ
