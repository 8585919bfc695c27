def rX6_faceOf : Room := { frames := 6, cells := 0, slots := 0, locals := 139 }
theorem sgX6_faceOf : sg yX6_faceOf wsX6_faceOf cX6_faceOf 7 (some .int) rX6_faceOf 2 := ⟨⟨_, rfl⟩, rfl, rfl, by decide, by decide, by decide +kernel⟩
set_option maxHeartbeats 4000000 in
set_option maxRecDepth 100000 in
theorem lpX6_faceOf {O : OmT} {F : PhT} {V : Mem} {g : Nat → Int} (C : cx O F RX6 cX6_faceOf 7 (some .int) wsX6_faceOf) {post : Int → Mem → Prop} (hQ : qI O F post) (hg : mdl V g) (ok : okg g) {u v : Nat} (hT : gT g u v = true) (hpo : post (gFl g u v : Int) V) : ∀ (fuel : Nat) (k : Nat), (k < gFl g u v) → (gFl g u v ≤ fuel + k) → J O F rX6_faceOf 7 V 8 [(0, sr 72), (1, si (u : Int)), (2, si (v : Int)), (3, si (((itF g k (u, v)).1 : Nat) : Int)), (4, si (((itF g k (u, v)).2 : Nat) : Int)), (5, si (k : Int))] [] := by
  intro fuel
  induction fuel with
  | zero => intro k hk hf; exfalso; omega
  | succ fuel ih =>
    intro k hk hf
    have n1 := ok.n
    have fa := itF_at ok hT k
    have hl := gT_lt ok hT
    have h90 := (gFl_spec ok hT).2.2.1
    refine j_aload_n C dX6_faceOf_8 rfl ?_
    refine j_iload C dX6_faceOf_9 rfl ?_
    refine j_iload_n C dX6_faceOf_11 rfl ?_
    refine j_doI (st := []) (j_runV C (kX6_turned hg ok ((itF g k (u, v)).2) ((itF g k (u, v)).1) rfl rfl (by omega) (by omega)) gX6_faceOf_X6_turned sgX6_turned rfl ⟨by decide, by decide⟩ (by decide) (en_72 _ _) rfl rfl rfl (Nat.le_of_ble_eq_true rfl) dX6_faceOf_12) (fun z_1 V_2 h_3 => ?_)
    obtain ⟨rfl, rfl⟩ := h_3
    refine j_istore (lv' := [(0, sr 72), (1, si (u : Int)), (2, si (v : Int)), (3, si (((itF g k (u, v)).1 : Nat) : Int)), (4, si (((itF g k (u, v)).2 : Nat) : Int)), (5, si (k : Int)), (6, si (gU g ((itF g k (u, v)).2) ((itF g k (u, v)).1)))]) C dX6_faceOf_15 (by decide) rfl ?_
    refine j_iload C dX6_faceOf_17 rfl ?_
    refine j_istore_n (lv' := [(0, sr 72), (1, si (u : Int)), (2, si (v : Int)), (3, si (((itF g k (u, v)).2 : Nat) : Int)), (4, si (((itF g k (u, v)).2 : Nat) : Int)), (5, si (k : Int)), (6, si (gU g ((itF g k (u, v)).2) ((itF g k (u, v)).1)))]) C dX6_faceOf_19 (by decide) rfl ?_
    refine j_iload C dX6_faceOf_20 rfl ?_
    refine j_istore (lv' := [(0, sr 72), (1, si (u : Int)), (2, si (v : Int)), (3, si (((itF g k (u, v)).2 : Nat) : Int)), (4, si (gU g ((itF g k (u, v)).2) ((itF g k (u, v)).1))), (5, si (k : Int)), (6, si (gU g ((itF g k (u, v)).2) ((itF g k (u, v)).1)))]) C dX6_faceOf_22 (by decide) rfl ?_
    refine j_iinc (lv' := [(0, sr 72), (1, si (u : Int)), (2, si (v : Int)), (3, si (((itF g k (u, v)).2 : Nat) : Int)), (4, si (gU g ((itF g k (u, v)).2) ((itF g k (u, v)).1))), (5, si ((k : Int) + 1)), (6, si (gU g ((itF g k (u, v)).2) ((itF g k (u, v)).1)))]) C dX6_faceOf_24 rfl (by decide) rfl ?_
    refine j_iload_n C dX6_faceOf_27 rfl ?_
    refine j_iload_n C dX6_faceOf_28 rfl ?_
    refine j_icmp_ne (tgt := 8) C dX6_faceOf_29 (by decide) (by omega) (by omega) (fun q_4 => ?_) (fun q_4 => ?_)
    · have hk1 := (itF_next ok hT hk).2 (by omega)
      refine j_pick (lv' := [(0, sr 72), (1, si (u : Int)), (2, si (v : Int)), (3, si (((itF g k (u, v)).2 : Nat) : Int)), (4, si (gU g ((itF g k (u, v)).2) ((itF g k (u, v)).1))), (5, si ((k : Int) + 1))]) [0, 1, 2, 3, 4, 5] rfl ?_
      refine j_lv (lv' := [(0, sr 72), (1, si (u : Int)), (2, si (v : Int)), (3, si (((itF g (k + 1) (u, v)).1 : Nat) : Int)), (4, si (((itF g (k + 1) (u, v)).2 : Nat) : Int)), (5, si ((k : Int) + 1))]) (by rw [itF_s]; dsimp only; rw [Int.toNat_of_nonneg fa.2.2.2.1]) ?_
      exact ih (k + 1) hk1 (by omega)
    · refine j_iload C dX6_faceOf_32 rfl ?_
      refine j_iload_n C dX6_faceOf_34 rfl ?_
      refine j_icmp_ne (tgt := 8) C dX6_faceOf_35 (by decide) (by omega) (by omega) (fun q_5 => ?_) (fun q_5 => ?_)
      · have hk1 := (itF_next ok hT hk).2 (by omega)
        refine j_pick (lv' := [(0, sr 72), (1, si (u : Int)), (2, si (v : Int)), (3, si (((itF g k (u, v)).2 : Nat) : Int)), (4, si (gU g ((itF g k (u, v)).2) ((itF g k (u, v)).1))), (5, si ((k : Int) + 1))]) [0, 1, 2, 3, 4, 5] rfl ?_
        refine j_lv (lv' := [(0, sr 72), (1, si (u : Int)), (2, si (v : Int)), (3, si (((itF g (k + 1) (u, v)).1 : Nat) : Int)), (4, si (((itF g (k + 1) (u, v)).2 : Nat) : Int)), (5, si ((k : Int) + 1))]) (by rw [itF_s]; dsimp only; rw [Int.toNat_of_nonneg fa.2.2.2.1]) ?_
        exact ih (k + 1) hk1 (by omega)
      · refine j_iload C dX6_faceOf_38 rfl ?_
        refine j_iret C hQ dX6_faceOf_40 ?_
        have e := (itF_next ok hT hk).1 (by omega) (by omega)
        rw [← e] at hpo; exact hpo
set_option maxHeartbeats 4000000 in
set_option maxRecDepth 100000 in
theorem kX6_faceOf {O : OmT} {l : Launch} {V : Mem} {g : Nat → Int} (hg : mdl V g) (ok : okg g) {zu zv : Int} (u v : Nat) (eu : zu = (u : Int)) (ev : zv = (v : Int)) (hT : gT g u v = true) : MI O l yX6_faceOf wsX6_faceOf rX6_faceOf [sr 72, si zu, si zv] V (fun z V2 => V = V2 ∧ z = (gFl g u v : Int)) := by
  refine mi_of (cc := cX6_faceOf) (nL := 7) (rt := (some .int)) (by decide) rfl rfl (Nat.le_of_ble_eq_true rfl) (fun F hF C hQ => ?_)
  subst hF
  subst eu ev
  change J O F rX6_faceOf 7 V 0 [(0, sr 72), (1, si (u : Int)), (2, si (v : Int))] []
  refine j_iload_n C dX6_faceOf_0 rfl ?_
  refine j_istore_n (lv' := [(0, sr 72), (1, si (u : Int)), (2, si (v : Int)), (3, si (u : Int))]) C dX6_faceOf_1 (by decide) rfl ?_
  refine j_iload_n C dX6_faceOf_2 rfl ?_
  refine j_istore (lv' := [(0, sr 72), (1, si (u : Int)), (2, si (v : Int)), (3, si (u : Int)), (4, si (v : Int))]) C dX6_faceOf_3 (by decide) rfl ?_
  refine j_iconst C dX6_faceOf_5 ?_
  refine j_istore (lv' := [(0, sr 72), (1, si (u : Int)), (2, si (v : Int)), (3, si (u : Int)), (4, si (v : Int)), (5, si 0)]) C dX6_faceOf_6 (by decide) rfl ?_
  exact lpX6_faceOf C hQ hg ok hT ⟨rfl, rfl⟩ (gFl g u v) 0 (by have := (gFl_spec ok hT).2.1; omega) (by omega)
def rX6_face : Room := { frames := 7, cells := 0, slots := 0, locals := 165 }
theorem sgX6_face : sg yX6_face wsX6_face cX6_face 3 (some .int) rX6_face 2 := ⟨⟨_, rfl⟩, rfl, rfl, by decide, by decide, by decide +kernel⟩
set_option maxHeartbeats 4000000 in
set_option maxRecDepth 100000 in
theorem kX6_face {O : OmT} {l : Launch} {V : Mem} {g : Nat → Int} (hg : mdl V g) (ok : okg g) (u : Int) (v : Int) (hu : -2147483648 ≤ u ∧ u < 2147483648) (hv : -2147483648 ≤ v ∧ v < 2147483648) : MI O l yX6_face wsX6_face rX6_face [sr 72, si u, si v] V (fun z V2 => V = V2 ∧ z = aFace g u v) := by
  refine mi_of (cc := cX6_face) (nL := 3) (rt := (some .int)) (by decide) rfl rfl (Nat.le_of_ble_eq_true rfl) (fun F hF C hQ => ?_)
  subst hF
  change J O F rX6_face 3 V 0 [(0, sr 72), (1, si u), (2, si v)] []
  refine j_aload_n C dX6_face_0 rfl ?_
  refine j_iload_n C dX6_face_1 rfl ?_
  refine j_iload_n C dX6_face_2 rfl ?_
  refine j_doI (st := []) (j_runV C (kX6_areTwo hg ok u v (by omega) (by omega)) gX6_face_X6_areTwo sgX6_areTwo rfl ⟨by decide, by decide⟩ (by decide) (en_72 _ _) rfl rfl rfl (Nat.le_of_ble_eq_true rfl) dX6_face_3) (fun z_1 V_2 h_3 => ?_)
  obtain ⟨rfl, rfl⟩ := h_3
  refine j_ifb_ne (tgt := 14) C dX6_face_6 (by decide) (fun q_4 => ?_) (fun q_4 => ?_)
  · refine j_aload_n C dX6_face_14 rfl ?_
    refine j_iload_n C dX6_face_15 rfl ?_
    refine j_iload_n C dX6_face_16 rfl ?_
    refine j_doI (st := []) (j_runV C (kX6_areThin hg ok u.toNat v.toNat (by have := ok.n; simp only [aTwo, gI, Bool.and_eq_true, decide_eq_true_eq] at *; omega) (by have := ok.n; simp only [aTwo, gI, Bool.and_eq_true, decide_eq_true_eq] at *; omega) (by have := ok.n; simp only [aTwo, gI, Bool.and_eq_true, decide_eq_true_eq] at *; omega) (by have := ok.n; simp only [aTwo, gI, Bool.and_eq_true, decide_eq_true_eq] at *; omega)) gX6_face_X6_areThin sgX6_areThin rfl ⟨by decide, by decide⟩ (by decide) (en_72 _ _) rfl rfl rfl (Nat.le_of_ble_eq_true rfl) dX6_face_17) (fun z_5 V_6 h_7 => ?_)
    obtain ⟨rfl, rfl⟩ := h_7
    refine j_ifb_eq (tgt := 32) C dX6_face_20 (by decide) (fun q_8 => ?_) (fun q_8 => ?_)
    · refine j_iconst C dX6_face_32 ?_
      refine j_iret C hQ dX6_face_33 ?_
      refine ⟨rfl, ?_⟩
      unfold aFace
      simp_all
    · refine j_aload_n C dX6_face_23 rfl ?_
      refine j_iload_n C dX6_face_24 rfl ?_
      refine j_iload_n C dX6_face_25 rfl ?_
      refine j_doI (st := []) (j_runV C (kX6_faceOf hg ok u.toNat v.toNat (by have := ok.n; simp only [aTwo, gI, Bool.and_eq_true, decide_eq_true_eq] at *; omega) (by have := ok.n; simp only [aTwo, gI, Bool.and_eq_true, decide_eq_true_eq] at *; omega) ‹_›) gX6_face_X6_faceOf sgX6_faceOf rfl ⟨by decide, by decide⟩ (by decide) (en_72 _ _) rfl rfl rfl (Nat.le_of_ble_eq_true rfl) dX6_face_26) (fun z_9 V_10 h_11 => ?_)
      obtain ⟨rfl, rfl⟩ := h_11
      refine j_goto (tgt := 33) C dX6_face_29 (by decide) ?_
      refine j_iret C hQ dX6_face_33 ?_
      refine ⟨rfl, ?_⟩
      unfold aFace
      simp_all
  · refine j_ldc (n := -1000000001) C (List.mem_of_getElem? (i := 1) rfl) (by decide) dX6_face_9 ?_
    refine j_goto (tgt := 33) C dX6_face_11 (by decide) ?_
    refine j_iret C hQ dX6_face_33 ?_
    refine ⟨rfl, ?_⟩
    unfold aFace
    simp_all
def rX3_faceLength : Room := { frames := 3, cells := 0, slots := 0, locals := 75 }
theorem sgX3_faceLength : sg yX3_faceLength wsX3_faceLength cX3_faceLength 7 (some .int) rX3_faceLength 2 := ⟨⟨_, rfl⟩, rfl, rfl, by decide, by decide, by decide +kernel⟩
set_option maxHeartbeats 4000000 in
set_option maxRecDepth 100000 in
theorem lpX3_faceLength {O : OmT} {F : PhT} {V : Mem} {g : Nat → Int} (C : cx O F RX3 cX3_faceLength 7 (some .int) wsX3_faceLength) {post : Int → Mem → Prop} (hQ : qI O F post) (hn : net V g) (ok : okg g) {u v : Nat} {f0 : Nat → Nat} (hT : gT g u v = true) (hf0 : ∀ a, a < 10 → V 7 a = (f0 a : Int) ∧ f0 a < 1024) (hpo : post (gFl g u v : Int) (rwS V 7 (mkF g (u, v) f0 (gFl g u v)))) : ∀ (fuel : Nat) (k : Nat), (k < gFl g u v) → (gFl g u v ≤ fuel + k) → J O F rX3_faceLength 7 (rwS V 7 (mkF g (u, v) f0 k)) 8 [(0, sr 4), (1, si (u : Int)), (2, si (v : Int)), (3, si (((itF g k (u, v)).1 : Nat) : Int)), (4, si (((itF g k (u, v)).2 : Nat) : Int)), (5, si ((k : Int) + 1))] [] := by
  intro fuel
  induction fuel with
  | zero => intro k hk hf; exfalso; omega
  | succ fuel ih =>
    intro k hk hf
    have n1 := ok.n
    have fa := itF_at ok hT k
    have hl := gT_lt ok hT
    have h90 := (gFl_spec ok hT).2.2.1
    have mkl := mkF_lt ok hT (fun a ha => (hf0 a ha).2) k (itF g k (u, v)).1 (by omega)
    refine j_iload C dX3_faceLength_8 rfl ?_
    refine j_bipush C dX3_faceLength_10 (by decide) ?_
    refine j_icmp_gt (tgt := 71) C dX3_faceLength_12 (by decide) (by omega) (by decide) (fun q_1 => ?_) (fun q_1 => ?_)
    · omega
    · refine j_aload_n C dX3_faceLength_15 rfl ?_
      refine j_get (v := sr 7) C 4 3 (by decide) (en_4 _ _) rfl (by decide) (fun w h => List.mem_cons_of_mem _ (List.mem_append_left _ (List.mem_append_right _ h))) (List.mem_of_getElem? (i := 1) rfl) dX3_faceLength_16 rfl ?_
      refine j_iload_n C dX3_faceLength_19 rfl ?_
      refine j_dup2 C dX3_faceLength_20 rfl rfl ?_
      refine j_iald C (row_7 O) ((itF g k (u, v)).1) rfl (by omega) dX3_faceLength_21 ?_
      refine j_top (b := ((mkF g (u, v) f0 k (itF g k (u, v)).1 : Nat) : Int)) (rwS_at (by omega)) ?_
      refine j_iconst C dX3_faceLength_22 ?_
      refine j_iload C dX3_faceLength_23 rfl ?_
      refine j_ishl C dX3_faceLength_25 ?_
      refine j_top (bShl_1 (by omega)) ?_
      refine j_ior C dX3_faceLength_26 ?_
      refine j_top (bOr_nat (by omega) (p2_31 (by omega))) ?_
      refine j_iast C (row_7 O) ((itF g k (u, v)).1) rfl (by omega) dX3_faceLength_27 ?_
      refine j_mem (V2 := (rwS V 7 (mkF g (u, v) f0 (k + 1)))) (rwS_1 (by omega) rfl) ?_
      refine j_aload_n C dX3_faceLength_28 rfl ?_
      refine j_iload C dX3_faceLength_29 rfl ?_
      refine j_iload_n C dX3_faceLength_31 rfl ?_
      refine j_doI (st := []) (j_runV C (kX3_turnFrom (net_eq (V2 := (rwS V 7 (mkF g (u, v) f0 (k + 1)))) hn rfl rfl rfl rfl rfl) ok ((itF g k (u, v)).2) ((itF g k (u, v)).1) rfl rfl (by omega) (by omega) (by omega) (by omega) (by omega)) gX3_faceLength_X3_turnFrom sgX3_turnFrom rfl ⟨by decide, by decide⟩ (by decide) (en_4 _ _) rfl rfl rfl (Nat.le_of_ble_eq_true rfl) dX3_faceLength_32) (fun z_2 V_3 h_4 => ?_)
      obtain ⟨rfl, rfl⟩ := h_4
      refine j_istore (lv' := [(0, sr 4), (1, si (u : Int)), (2, si (v : Int)), (3, si (((itF g k (u, v)).1 : Nat) : Int)), (4, si (((itF g k (u, v)).2 : Nat) : Int)), (5, si ((k : Int) + 1)), (6, si (gU g ((itF g k (u, v)).2) ((itF g k (u, v)).1)))]) C dX3_faceLength_35 (by decide) rfl ?_
      refine j_iload C dX3_faceLength_37 rfl ?_
      refine j_iconst C dX3_faceLength_39 ?_
      refine j_icmp_eq (tgt := 55) C dX3_faceLength_40 (by decide) (by omega) (by decide) (fun q_5 => ?_) (fun q_5 => ?_)
      · omega
      · refine j_iload C dX3_faceLength_43 rfl ?_
        refine j_iload_n C dX3_faceLength_45 rfl ?_
        refine j_icmp_ne (tgt := 58) C dX3_faceLength_46 (by decide) (by omega) (by omega) (fun q_6 => ?_) (fun q_6 => ?_)
        · refine j_iload C dX3_faceLength_58 rfl ?_
          refine j_istore_n (lv' := [(0, sr 4), (1, si (u : Int)), (2, si (v : Int)), (3, si (((itF g k (u, v)).2 : Nat) : Int)), (4, si (((itF g k (u, v)).2 : Nat) : Int)), (5, si ((k : Int) + 1)), (6, si (gU g ((itF g k (u, v)).2) ((itF g k (u, v)).1)))]) C dX3_faceLength_60 (by decide) rfl ?_
          refine j_iload C dX3_faceLength_61 rfl ?_
          refine j_istore (lv' := [(0, sr 4), (1, si (u : Int)), (2, si (v : Int)), (3, si (((itF g k (u, v)).2 : Nat) : Int)), (4, si (gU g ((itF g k (u, v)).2) ((itF g k (u, v)).1))), (5, si ((k : Int) + 1)), (6, si (gU g ((itF g k (u, v)).2) ((itF g k (u, v)).1)))]) C dX3_faceLength_63 (by decide) rfl ?_
          refine j_iinc (lv' := [(0, sr 4), (1, si (u : Int)), (2, si (v : Int)), (3, si (((itF g k (u, v)).2 : Nat) : Int)), (4, si (gU g ((itF g k (u, v)).2) ((itF g k (u, v)).1))), (5, si (((k : Int) + 1) + 1)), (6, si (gU g ((itF g k (u, v)).2) ((itF g k (u, v)).1)))]) C dX3_faceLength_65 rfl (by decide) rfl ?_
          refine j_goto (tgt := 8) C dX3_faceLength_68 (by decide) ?_
          have hk1 := (itF_next ok hT hk).2 (by omega)
          refine j_pick (lv' := [(0, sr 4), (1, si (u : Int)), (2, si (v : Int)), (3, si (((itF g k (u, v)).2 : Nat) : Int)), (4, si (gU g ((itF g k (u, v)).2) ((itF g k (u, v)).1))), (5, si (((k : Int) + 1) + 1))]) [0, 1, 2, 3, 4, 5] rfl ?_
          refine j_lv (lv' := [(0, sr 4), (1, si (u : Int)), (2, si (v : Int)), (3, si (((itF g (k + 1) (u, v)).1 : Nat) : Int)), (4, si (((itF g (k + 1) (u, v)).2 : Nat) : Int)), (5, si ((k : Int) + 1 + 1))]) (by rw [itF_s]; dsimp only; rw [Int.toNat_of_nonneg fa.2.2.2.1]) ?_
          exact ih (k + 1) hk1 (by omega)
        · refine j_iload C dX3_faceLength_49 rfl ?_
          refine j_iload_n C dX3_faceLength_51 rfl ?_
          refine j_icmp_ne (tgt := 58) C dX3_faceLength_52 (by decide) (by omega) (by omega) (fun q_7 => ?_) (fun q_7 => ?_)
          · refine j_iload C dX3_faceLength_58 rfl ?_
            refine j_istore_n (lv' := [(0, sr 4), (1, si (u : Int)), (2, si (v : Int)), (3, si (((itF g k (u, v)).2 : Nat) : Int)), (4, si (((itF g k (u, v)).2 : Nat) : Int)), (5, si ((k : Int) + 1)), (6, si (gU g ((itF g k (u, v)).2) ((itF g k (u, v)).1)))]) C dX3_faceLength_60 (by decide) rfl ?_
            refine j_iload C dX3_faceLength_61 rfl ?_
            refine j_istore (lv' := [(0, sr 4), (1, si (u : Int)), (2, si (v : Int)), (3, si (((itF g k (u, v)).2 : Nat) : Int)), (4, si (gU g ((itF g k (u, v)).2) ((itF g k (u, v)).1))), (5, si ((k : Int) + 1)), (6, si (gU g ((itF g k (u, v)).2) ((itF g k (u, v)).1)))]) C dX3_faceLength_63 (by decide) rfl ?_
            refine j_iinc (lv' := [(0, sr 4), (1, si (u : Int)), (2, si (v : Int)), (3, si (((itF g k (u, v)).2 : Nat) : Int)), (4, si (gU g ((itF g k (u, v)).2) ((itF g k (u, v)).1))), (5, si (((k : Int) + 1) + 1)), (6, si (gU g ((itF g k (u, v)).2) ((itF g k (u, v)).1)))]) C dX3_faceLength_65 rfl (by decide) rfl ?_
            refine j_goto (tgt := 8) C dX3_faceLength_68 (by decide) ?_
            have hk1 := (itF_next ok hT hk).2 (by omega)
            refine j_pick (lv' := [(0, sr 4), (1, si (u : Int)), (2, si (v : Int)), (3, si (((itF g k (u, v)).2 : Nat) : Int)), (4, si (gU g ((itF g k (u, v)).2) ((itF g k (u, v)).1))), (5, si (((k : Int) + 1) + 1))]) [0, 1, 2, 3, 4, 5] rfl ?_
            refine j_lv (lv' := [(0, sr 4), (1, si (u : Int)), (2, si (v : Int)), (3, si (((itF g (k + 1) (u, v)).1 : Nat) : Int)), (4, si (((itF g (k + 1) (u, v)).2 : Nat) : Int)), (5, si ((k : Int) + 1 + 1))]) (by rw [itF_s]; dsimp only; rw [Int.toNat_of_nonneg fa.2.2.2.1]) ?_
            exact ih (k + 1) hk1 (by omega)
          · refine j_iload C dX3_faceLength_55 rfl ?_
            refine j_iret C hQ dX3_faceLength_57 ?_
            have e := (itF_next ok hT hk).1 (by omega) (by omega)
            rw [← e] at hpo; exact hpo
set_option maxHeartbeats 4000000 in
set_option maxRecDepth 100000 in
theorem kX3_faceLength {O : OmT} {l : Launch} {V : Mem} {g : Nat → Int} (hn : net V g) (ok : okg g) {zu zv : Int} (u v : Nat) (eu : zu = (u : Int)) (ev : zv = (v : Int)) {f0 : Nat → Nat} (hT : gT g u v = true) (hf0 : ∀ a, a < 10 → V 7 a = (f0 a : Int) ∧ f0 a < 1024) : MI O l yX3_faceLength wsX3_faceLength rX3_faceLength [sr 4, si zu, si zv] V (fun z V2 => V2 = rwS V 7 (mkF g (u, v) f0 (gFl g u v)) ∧ z = (gFl g u v : Int)) := by
  refine mi_of (cc := cX3_faceLength) (nL := 7) (rt := (some .int)) (by decide) rfl rfl (Nat.le_of_ble_eq_true rfl) (fun F hF C hQ => ?_)
  subst hF
  subst eu ev
  change J O F rX3_faceLength 7 V 0 [(0, sr 4), (1, si (u : Int)), (2, si (v : Int))] []
  refine j_iload_n C dX3_faceLength_0 rfl ?_
  refine j_istore_n (lv' := [(0, sr 4), (1, si (u : Int)), (2, si (v : Int)), (3, si (u : Int))]) C dX3_faceLength_1 (by decide) rfl ?_
  refine j_iload_n C dX3_faceLength_2 rfl ?_
  refine j_istore (lv' := [(0, sr 4), (1, si (u : Int)), (2, si (v : Int)), (3, si (u : Int)), (4, si (v : Int))]) C dX3_faceLength_3 (by decide) rfl ?_
  refine j_iconst C dX3_faceLength_5 ?_
  refine j_istore (lv' := [(0, sr 4), (1, si (u : Int)), (2, si (v : Int)), (3, si (u : Int)), (4, si (v : Int)), (5, si 1)]) C dX3_faceLength_6 (by decide) rfl ?_
  refine j_mem (V2 := (rwS V 7 (mkF g (u, v) f0 0))) (rwS_self (fun a ha => (hf0 a ha).1)) ?_
  exact lpX3_faceLength C hQ hn ok hT hf0 ⟨rfl, rfl⟩ (gFl g u v) 0 (by have := (gFl_spec ok hT).2.1; omega) (by omega)
