def rX6_part : Room := { frames := 1, cells := 0, slots := 0, locals := 23 }
theorem sgX6_part : sg yX6_part wsX6_part cX6_part 6 (some .int) rX6_part 3 := ⟨⟨_, rfl⟩, rfl, rfl, by decide, by decide, by decide +kernel⟩
set_option maxHeartbeats 4000000 in
set_option maxRecDepth 100000 in
theorem kX6_part {O : OmT} {l : Launch} {V : Mem} {g : Nat → Int} (hg : mdl V g) (ok : okg g) {zu : Int} {zp : Int} {zw : Int} (u p w : Nat) (eu : zu = (u : Int)) (ep : zp = (p : Int)) (ew : zw = (w : Int)) (hu : u < 10) (hp : p < 10) (hw : w < 10) : MI O l yX6_part wsX6_part rX6_part [sr 72, si zu, si zp, si zw] V (fun z V2 => V = V2 ∧ z = gP g u p w) := by
  refine mi_of (cc := cX6_part) (nL := 6) (rt := (some .int)) (by decide) rfl rfl (Nat.le_of_ble_eq_true rfl) (fun F hF C hQ => ?_)
  subst hF
  subst eu ep ew
  change J O F rX6_part 6 V 0 [(0, sr 72), (1, si (u : Int)), (2, si (p : Int)), (3, si (w : Int))] []
  refine j_aload_n C dX6_part_0 rfl ?_
  refine j_iload_n C dX6_part_1 rfl ?_
  refine j_iload_n C dX6_part_2 rfl ?_
  refine j_iload_n C dX6_part_3 rfl ?_
  refine j_doI (st := []) (j_runV C (kX6_side hg u p w rfl rfl rfl (by omega) (by omega) (by omega)) gX6_part_X6_side sgX6_side rfl ⟨by decide, by decide⟩ (by decide) (en_72 _ _) rfl rfl rfl (Nat.le_of_ble_eq_true rfl) dX6_part_4) (fun z_1 V_2 h_3 => ?_)
  obtain ⟨rfl, rfl⟩ := h_3
  refine j_istore (lv' := [(0, sr 72), (1, si (u : Int)), (2, si (p : Int)), (3, si (w : Int)), (4, si (gS g u p w))]) C dX6_part_7 (by decide) rfl ?_
  refine j_aload_n C dX6_part_9 rfl ?_
  refine j_get (v := sr 73) C 72 0 (by decide) (en_72 _ _) rfl (by decide) (fun w h => List.mem_cons_of_mem _ (List.mem_append_right _ h)) (List.mem_of_getElem? (i := 1) rfl) dX6_part_10 rfl ?_
  refine j_iconst C dX6_part_13 ?_
  refine j_iload_n C dX6_part_14 rfl ?_
  refine j_iadd C dX6_part_15 ?_
  refine j_iald C (row_73 O) (4 + p) (by omega) (by omega) dX6_part_16 ?_
  refine j_top (hg (4 + p) (by omega)) ?_
  refine j_aload_n C dX6_part_17 rfl ?_
  refine j_get (v := sr 73) C 72 0 (by decide) (en_72 _ _) rfl (by decide) (fun w h => List.mem_cons_of_mem _ (List.mem_append_right _ h)) (List.mem_of_getElem? (i := 1) rfl) dX6_part_18 rfl ?_
  refine j_iconst C dX6_part_21 ?_
  refine j_iload_n C dX6_part_22 rfl ?_
  refine j_iadd C dX6_part_23 ?_
  refine j_iald C (row_73 O) (4 + u) (by omega) (by omega) dX6_part_24 ?_
  refine j_top (hg (4 + u) (by omega)) ?_
  refine j_isub C dX6_part_25 ?_
  refine j_aload_n C dX6_part_26 rfl ?_
  refine j_get (v := sr 73) C 72 0 (by decide) (en_72 _ _) rfl (by decide) (fun w h => List.mem_cons_of_mem _ (List.mem_append_right _ h)) (List.mem_of_getElem? (i := 1) rfl) dX6_part_27 rfl ?_
  refine j_iconst C dX6_part_30 ?_
  refine j_iload_n C dX6_part_31 rfl ?_
  refine j_iadd C dX6_part_32 ?_
  refine j_iald C (row_73 O) (4 + w) (by omega) (by omega) dX6_part_33 ?_
  refine j_top (hg (4 + w) (by omega)) ?_
  refine j_aload_n C dX6_part_34 rfl ?_
  refine j_get (v := sr 73) C 72 0 (by decide) (en_72 _ _) rfl (by decide) (fun w h => List.mem_cons_of_mem _ (List.mem_append_right _ h)) (List.mem_of_getElem? (i := 1) rfl) dX6_part_35 rfl ?_
  refine j_iconst C dX6_part_38 ?_
  refine j_iload_n C dX6_part_39 rfl ?_
  refine j_iadd C dX6_part_40 ?_
  refine j_iald C (row_73 O) (4 + u) (by omega) (by omega) dX6_part_41 ?_
  refine j_top (hg (4 + u) (by omega)) ?_
  refine j_isub C dX6_part_42 ?_
  refine j_imul C dX6_part_43 ?_
  refine j_aload_n C dX6_part_44 rfl ?_
  refine j_get (v := sr 73) C 72 0 (by decide) (en_72 _ _) rfl (by decide) (fun w h => List.mem_cons_of_mem _ (List.mem_append_right _ h)) (List.mem_of_getElem? (i := 1) rfl) dX6_part_45 rfl ?_
  refine j_bipush C dX6_part_48 (by decide) ?_
  refine j_iload_n C dX6_part_50 rfl ?_
  refine j_iadd C dX6_part_51 ?_
  refine j_iald C (row_73 O) (14 + p) (by omega) (by omega) dX6_part_52 ?_
  refine j_top (hg (14 + p) (by omega)) ?_
  refine j_aload_n C dX6_part_53 rfl ?_
  refine j_get (v := sr 73) C 72 0 (by decide) (en_72 _ _) rfl (by decide) (fun w h => List.mem_cons_of_mem _ (List.mem_append_right _ h)) (List.mem_of_getElem? (i := 1) rfl) dX6_part_54 rfl ?_
  refine j_bipush C dX6_part_57 (by decide) ?_
  refine j_iload_n C dX6_part_59 rfl ?_
  refine j_iadd C dX6_part_60 ?_
  refine j_iald C (row_73 O) (14 + u) (by omega) (by omega) dX6_part_61 ?_
  refine j_top (hg (14 + u) (by omega)) ?_
  refine j_isub C dX6_part_62 ?_
  refine j_aload_n C dX6_part_63 rfl ?_
  refine j_get (v := sr 73) C 72 0 (by decide) (en_72 _ _) rfl (by decide) (fun w h => List.mem_cons_of_mem _ (List.mem_append_right _ h)) (List.mem_of_getElem? (i := 1) rfl) dX6_part_64 rfl ?_
  refine j_bipush C dX6_part_67 (by decide) ?_
  refine j_iload_n C dX6_part_69 rfl ?_
  refine j_iadd C dX6_part_70 ?_
  refine j_iald C (row_73 O) (14 + w) (by omega) (by omega) dX6_part_71 ?_
  refine j_top (hg (14 + w) (by omega)) ?_
  refine j_aload_n C dX6_part_72 rfl ?_
  refine j_get (v := sr 73) C 72 0 (by decide) (en_72 _ _) rfl (by decide) (fun w h => List.mem_cons_of_mem _ (List.mem_append_right _ h)) (List.mem_of_getElem? (i := 1) rfl) dX6_part_73 rfl ?_
  refine j_bipush C dX6_part_76 (by decide) ?_
  refine j_iload_n C dX6_part_78 rfl ?_
  refine j_iadd C dX6_part_79 ?_
  refine j_iald C (row_73 O) (14 + u) (by omega) (by omega) dX6_part_80 ?_
  refine j_top (hg (14 + u) (by omega)) ?_
  refine j_isub C dX6_part_81 ?_
  refine j_imul C dX6_part_82 ?_
  refine j_iadd C dX6_part_83 ?_
  refine j_istore (lv' := [(0, sr 72), (1, si (u : Int)), (2, si (p : Int)), (3, si (w : Int)), (4, si (gS g u p w)), (5, si ((((g (4 + p)) - (g (4 + u))) * ((g (4 + w)) - (g (4 + u)))) + (((g (14 + p)) - (g (14 + u))) * ((g (14 + w)) - (g (14 + u))))))]) C dX6_part_84 (by decide) rfl ?_
  refine j_iload C dX6_part_86 rfl ?_
  refine j_if_le (tgt := 95) C dX6_part_88 (by decide) (by have := ok.s (a := u) (b := p) (c := w) (by omega) (by omega) (by omega); omega) (fun q_4 => ?_) (fun q_4 => ?_)
  · refine j_iload C dX6_part_95 rfl ?_
    refine j_if_ge (tgt := 104) C dX6_part_97 (by decide) (by have := ok.s (a := u) (b := p) (c := w) (by omega) (by omega) (by omega); omega) (fun q_5 => ?_) (fun q_5 => ?_)
    · refine j_iload C dX6_part_104 rfl ?_
      refine j_if_le (tgt := 113) C dX6_part_106 (by decide) (by have := ok.d (a := u) (b := p) (c := w) hu hp hw; unfold gD at this; omega) (fun q_6 => ?_) (fun q_6 => ?_)
      · refine j_iconst C dX6_part_113 ?_
        refine j_iret C hQ dX6_part_114 ?_
        refine ⟨rfl, ?_⟩
        unfold gP gD
        repeat (first | split | omega)
      · refine j_iconst C dX6_part_109 ?_
        refine j_goto (tgt := 114) C dX6_part_110 (by decide) ?_
        refine j_iret C hQ dX6_part_114 ?_
        refine ⟨rfl, ?_⟩
        unfold gP gD
        repeat (first | split | omega)
    · refine j_iconst C dX6_part_100 ?_
      refine j_goto (tgt := 114) C dX6_part_101 (by decide) ?_
      refine j_iret C hQ dX6_part_114 ?_
      refine ⟨rfl, ?_⟩
      unfold gP gD
      repeat (first | split | omega)
  · refine j_iconst C dX6_part_91 ?_
    refine j_goto (tgt := 114) C dX6_part_92 (by decide) ?_
    refine j_iret C hQ dX6_part_114 ?_
    refine ⟨rfl, ?_⟩
    unfold gP gD
    repeat (first | split | omega)
def rX6_isAhead : Room := { frames := 2, cells := 0, slots := 0, locals := 48 }
theorem sgX6_isAhead : sg yX6_isAhead wsX6_isAhead cX6_isAhead 8 (some .boolean) rX6_isAhead 4 := ⟨⟨_, rfl⟩, rfl, rfl, by decide, by decide, by decide +kernel⟩
set_option maxHeartbeats 4000000 in
set_option maxRecDepth 100000 in
theorem kX6_isAhead {O : OmT} {l : Launch} {V : Mem} {g : Nat → Int} (hg : mdl V g) (ok : okg g) {zu : Int} {zp : Int} {za : Int} {zb : Int} (u p a b : Nat) (eu : zu = (u : Int)) (ep : zp = (p : Int)) (ea : za = (a : Int)) (eb : zb = (b : Int)) (hu : u < 10) (hp : p < 10) (ha : a < 10) (hb : b < 10) : MI O l yX6_isAhead wsX6_isAhead rX6_isAhead [sr 72, si zu, si zp, si za, si zb] V (fun z V2 => V = V2 ∧ z = bI (gH g u p a b)) := by
  refine mi_of (cc := cX6_isAhead) (nL := 8) (rt := (some .boolean)) (by decide) rfl rfl (Nat.le_of_ble_eq_true rfl) (fun F hF C hQ => ?_)
  subst hF
  subst eu ep ea eb
  change J O F rX6_isAhead 8 V 0 [(0, sr 72), (1, si (u : Int)), (2, si (p : Int)), (3, si (a : Int)), (4, si (b : Int))] []
  refine j_aload_n C dX6_isAhead_0 rfl ?_
  refine j_iload_n C dX6_isAhead_1 rfl ?_
  refine j_iload_n C dX6_isAhead_2 rfl ?_
  refine j_iload_n C dX6_isAhead_3 rfl ?_
  refine j_doI (st := []) (j_runV C (kX6_part hg ok u p a rfl rfl rfl (by omega) (by omega) (by omega)) gX6_isAhead_X6_part sgX6_part rfl ⟨by decide, by decide⟩ (by decide) (en_72 _ _) rfl rfl rfl (Nat.le_of_ble_eq_true rfl) dX6_isAhead_4) (fun z_1 V_2 h_3 => ?_)
  obtain ⟨rfl, rfl⟩ := h_3
  refine j_istore (lv' := [(0, sr 72), (1, si (u : Int)), (2, si (p : Int)), (3, si (a : Int)), (4, si (b : Int)), (5, si (gP g u p a))]) C dX6_isAhead_7 (by decide) rfl ?_
  refine j_aload_n C dX6_isAhead_9 rfl ?_
  refine j_iload_n C dX6_isAhead_10 rfl ?_
  refine j_iload_n C dX6_isAhead_11 rfl ?_
  refine j_iload C dX6_isAhead_12 rfl ?_
  refine j_doI (st := []) (j_runV C (kX6_part hg ok u p b rfl rfl rfl (by omega) (by omega) (by omega)) gX6_isAhead_X6_part sgX6_part rfl ⟨by decide, by decide⟩ (by decide) (en_72 _ _) rfl rfl rfl (Nat.le_of_ble_eq_true rfl) dX6_isAhead_14) (fun z_4 V_5 h_6 => ?_)
  obtain ⟨rfl, rfl⟩ := h_6
  refine j_istore (lv' := [(0, sr 72), (1, si (u : Int)), (2, si (p : Int)), (3, si (a : Int)), (4, si (b : Int)), (5, si (gP g u p a)), (6, si (gP g u p b))]) C dX6_isAhead_17 (by decide) rfl ?_
  refine j_iload C dX6_isAhead_19 rfl ?_
  refine j_iload C dX6_isAhead_21 rfl ?_
  refine j_icmp_eq (tgt := 39) C dX6_isAhead_23 (by decide) (by have := gP_rg g u p a; omega) (by have := gP_rg g u p b; omega) (fun q_7 => ?_) (fun q_7 => ?_)
  · refine j_aload_n C dX6_isAhead_39 rfl ?_
    refine j_iload_n C dX6_isAhead_40 rfl ?_
    refine j_iload_n C dX6_isAhead_41 rfl ?_
    refine j_iload C dX6_isAhead_42 rfl ?_
    refine j_doI (st := []) (j_runV C (kX6_side hg u a b rfl rfl rfl (by omega) (by omega) (by omega)) gX6_isAhead_X6_side sgX6_side rfl ⟨by decide, by decide⟩ (by decide) (en_72 _ _) rfl rfl rfl (Nat.le_of_ble_eq_true rfl) dX6_isAhead_44) (fun z_8 V_9 h_10 => ?_)
    obtain ⟨rfl, rfl⟩ := h_10
    refine j_istore (lv' := [(0, sr 72), (1, si (u : Int)), (2, si (p : Int)), (3, si (a : Int)), (4, si (b : Int)), (5, si (gP g u p a)), (6, si (gP g u p b)), (7, si (gS g u a b))]) C dX6_isAhead_47 (by decide) rfl ?_
    refine j_iload C dX6_isAhead_49 rfl ?_
    refine j_if_eq (tgt := 67) C dX6_isAhead_51 (by decide) (by have := ok.s (a := u) (b := a) (c := b) (by omega) (by omega) (by omega); omega) (fun q_11 => ?_) (fun q_11 => ?_)
    · refine j_aload_n C dX6_isAhead_67 rfl ?_
      refine j_iload_n C dX6_isAhead_68 rfl ?_
      refine j_iload_n C dX6_isAhead_69 rfl ?_
      refine j_doI (st := []) (j_runV C (kX6_farOf hg u a rfl rfl (by omega) (by omega)) gX6_isAhead_X6_farOf sgX6_farOf rfl ⟨by decide, by decide⟩ (by decide) (en_72 _ _) rfl rfl rfl (Nat.le_of_ble_eq_true rfl) dX6_isAhead_70) (fun z_12 V_13 h_14 => ?_)
      obtain ⟨rfl, rfl⟩ := h_14
      refine j_aload_n C dX6_isAhead_73 rfl ?_
      refine j_iload_n C dX6_isAhead_74 rfl ?_
      refine j_iload C dX6_isAhead_75 rfl ?_
      refine j_doI (st := [si (gF g u a)]) (j_runV C (kX6_farOf hg u b rfl rfl (by omega) (by omega)) gX6_isAhead_X6_farOf sgX6_farOf rfl ⟨by decide, by decide⟩ (by decide) (en_72 _ _) rfl rfl rfl (Nat.le_of_ble_eq_true rfl) dX6_isAhead_77) (fun z_15 V_16 h_17 => ?_)
      obtain ⟨rfl, rfl⟩ := h_17
      refine j_icmp_ge (tgt := 87) C dX6_isAhead_80 (by decide) (by have := ok.f (u := u) (v := a) (by omega) (by omega); omega) (by have := ok.f (u := u) (v := b) (by omega) (by omega); omega) (fun q_18 => ?_) (fun q_18 => ?_)
      · refine j_iconst C dX6_isAhead_87 ?_
        refine j_zret C hQ (by decide) dX6_isAhead_88 ?_
        refine ⟨rfl, ?_⟩
        unfold gH bI
        simp [*] <;> omega
      · refine j_iconst C dX6_isAhead_83 ?_
        refine j_goto (tgt := 88) C dX6_isAhead_84 (by decide) ?_
        refine j_zret C hQ (by decide) dX6_isAhead_88 ?_
        refine ⟨rfl, ?_⟩
        unfold gH bI
        simp [*] <;> omega
    · refine j_iload C dX6_isAhead_54 rfl ?_
      refine j_if_le (tgt := 63) C dX6_isAhead_56 (by decide) (by have := ok.s (a := u) (b := a) (c := b) (by omega) (by omega) (by omega); omega) (fun q_19 => ?_) (fun q_19 => ?_)
      · refine j_iconst C dX6_isAhead_63 ?_
        refine j_goto (tgt := 88) C dX6_isAhead_64 (by decide) ?_
        refine j_zret C hQ (by decide) dX6_isAhead_88 ?_
        refine ⟨rfl, ?_⟩
        unfold gH bI
        simp [*] <;> omega
      · refine j_iconst C dX6_isAhead_59 ?_
        refine j_goto (tgt := 88) C dX6_isAhead_60 (by decide) ?_
        refine j_zret C hQ (by decide) dX6_isAhead_88 ?_
        refine ⟨rfl, ?_⟩
        unfold gH bI
        simp [*] <;> omega
  · refine j_iload C dX6_isAhead_26 rfl ?_
    refine j_iload C dX6_isAhead_28 rfl ?_
    refine j_icmp_ge (tgt := 37) C dX6_isAhead_30 (by decide) (by have := gP_rg g u p a; omega) (by have := gP_rg g u p b; omega) (fun q_20 => ?_) (fun q_20 => ?_)
    · refine j_iconst C dX6_isAhead_37 ?_
      refine j_zret C hQ (by decide) dX6_isAhead_38 ?_
      refine ⟨rfl, ?_⟩
      unfold gH bI
      simp [*] <;> omega
    · refine j_iconst C dX6_isAhead_33 ?_
      refine j_goto (tgt := 38) C dX6_isAhead_34 (by decide) ?_
      refine j_zret C hQ (by decide) dX6_isAhead_38 ?_
      refine ⟨rfl, ?_⟩
      unfold gH bI
      simp [*] <;> omega
def rX6_areThin : Room := { frames := 3, cells := 0, slots := 0, locals := 64 }
theorem sgX6_areThin : sg yX6_areThin wsX6_areThin cX6_areThin 8 (some .boolean) rX6_areThin 2 := ⟨⟨_, rfl⟩, rfl, rfl, by decide, by decide, by decide +kernel⟩
set_option maxHeartbeats 4000000 in
set_option maxRecDepth 100000 in
theorem lpX6_areThin {O : OmT} {F : PhT} {V : Mem} {g : Nat → Int} {post : Int → Mem → Prop} (C : cx O F RX6 cX6_areThin 8 (some .boolean) wsX6_areThin) (hQ : qI O F post) (hg : mdl V g) (ok : okg g) {u v : Nat} (hu : u < 10) (hv : v < 10) (hp : post (bI (gT g u v)) V) : ∀ (fuel : Nat) (w : Nat), (w ≤ gN g) → gN g - w < fuel → J O F rX6_areThin 8 V 18 [(0, sr 72), (1, si (u : Int)), (2, si (v : Int)), (3, si (bI (gL g u v && gKs g u v w))), (4, si (gF g u v)), (5, si (w : Int))] [] := by
  intro fuel
  induction fuel with
  | zero => intro w hw hf; exact absurd hf (Nat.not_lt_zero _)
  | succ fuel ih =>
    intro w hw hf
    have n1 := ok.n
    refine j_iload C dX6_areThin_18 rfl ?_
    refine j_aload_n C dX6_areThin_20 rfl ?_
    refine j_get (v := sr 73) C 72 0 (by decide) (en_72 _ _) rfl (by decide) (fun w h => List.mem_cons_of_mem _ (List.mem_append_right _ h)) (List.mem_of_getElem? (i := 1) rfl) dX6_areThin_21 rfl ?_
    refine j_iconst C dX6_areThin_24 ?_
    refine j_iald C (row_73 O) 0 rfl (by decide) dX6_areThin_25 ?_
    refine j_top (hg 0 (by omega)) ?_
    refine j_icmp_ge (tgt := 125) C dX6_areThin_26 (by decide) (by omega) (by have := ok.1; omega) (fun q_1 => ?_) (fun q_1 => ?_)
    · refine j_iload_n C dX6_areThin_125 rfl ?_
      refine j_zret C hQ (bI_or _) dX6_areThin_126 ?_
      first
        | (have e : bI (gL g u v && gKs g u v w) = bI (gT g u v) := by rw [gT_false hw ‹_›, ‹(gL g u v && gKs g u v w) = false›]
           rw [e]; exact hp)
        | (have e : w = gN g := by omega
           subst e; exact hp)
    · refine j_iload_n C dX6_areThin_29 rfl ?_
      refine j_ifb_eq (tgt := 125) C dX6_areThin_30 (by decide) (fun q_2 => ?_) (fun q_2 => ?_)
      · refine j_iload_n C dX6_areThin_125 rfl ?_
        refine j_zret C hQ (bI_or _) dX6_areThin_126 ?_
        first
          | (have e : bI (gL g u v && gKs g u v w) = bI (gT g u v) := by rw [gT_false hw ‹_›, ‹(gL g u v && gKs g u v w) = false›]
             rw [e]; exact hp)
          | (have e : w = gN g := by omega
             subst e; exact hp)
      · refine j_iload C dX6_areThin_33 rfl ?_
        refine j_iload_n C dX6_areThin_35 rfl ?_
        refine j_icmp_eq (tgt := 119) C dX6_areThin_36 (by decide) (by omega) (by omega) (fun q_3 => ?_) (fun q_3 => ?_)
        · refine j_iinc (lv' := [(0, sr 72), (1, si (u : Int)), (2, si (v : Int)), (3, si (bI (gL g u v && gKs g u v w))), (4, si (gF g u v)), (5, si ((w : Int) + 1))]) C dX6_areThin_119 rfl (by decide) rfl ?_
          refine j_goto (tgt := 18) C dX6_areThin_122 (by decide) ?_
          have e3 : bI (gL g u v && gKs g u v (w + 1)) = (bI (gL g u v && gKs g u v w)) := by
            rw [show gKs g u v (w + 1) = (gKs g u v w && gK g u v w) from rfl]
            unfold gK gB
            simp_all [bI] <;> omega
          refine j_pick (lv' := [(0, sr 72), (1, si (u : Int)), (2, si (v : Int)), (3, si (bI (gL g u v && gKs g u v w))), (4, si (gF g u v)), (5, si ((w : Int) + 1))]) [0, 1, 2, 3, 4, 5] rfl ?_
          refine j_lv (lv' := [(0, sr 72), (1, si (u : Int)), (2, si (v : Int)), (3, si (bI (gL g u v && gKs g u v (w + 1)))), (4, si (gF g u v)), (5, si (((w : Nat) : Int) + 1))]) (by rw [e3]) ?_
          exact ih (w + 1) (by omega) (by omega)
        · refine j_iload C dX6_areThin_39 rfl ?_
          refine j_iload_n C dX6_areThin_41 rfl ?_
          refine j_icmp_eq (tgt := 119) C dX6_areThin_42 (by decide) (by omega) (by omega) (fun q_4 => ?_) (fun q_4 => ?_)
          · refine j_iinc (lv' := [(0, sr 72), (1, si (u : Int)), (2, si (v : Int)), (3, si (bI (gL g u v && gKs g u v w))), (4, si (gF g u v)), (5, si ((w : Int) + 1))]) C dX6_areThin_119 rfl (by decide) rfl ?_
            refine j_goto (tgt := 18) C dX6_areThin_122 (by decide) ?_
            have e3 : bI (gL g u v && gKs g u v (w + 1)) = (bI (gL g u v && gKs g u v w)) := by
              rw [show gKs g u v (w + 1) = (gKs g u v w && gK g u v w) from rfl]
              unfold gK gB
              simp_all [bI] <;> omega
            refine j_pick (lv' := [(0, sr 72), (1, si (u : Int)), (2, si (v : Int)), (3, si (bI (gL g u v && gKs g u v w))), (4, si (gF g u v)), (5, si ((w : Int) + 1))]) [0, 1, 2, 3, 4, 5] rfl ?_
            refine j_lv (lv' := [(0, sr 72), (1, si (u : Int)), (2, si (v : Int)), (3, si (bI (gL g u v && gKs g u v (w + 1)))), (4, si (gF g u v)), (5, si (((w : Nat) : Int) + 1))]) (by rw [e3]) ?_
            exact ih (w + 1) (by omega) (by omega)
          · refine j_aload_n C dX6_areThin_45 rfl ?_
            refine j_iload C dX6_areThin_46 rfl ?_
            refine j_doI (st := []) (j_runV C (kX6_isAwake hg ok w rfl (by omega)) gX6_areThin_X6_isAwake sgX6_isAwake rfl ⟨by decide, by decide⟩ (by decide) (en_72 _ _) rfl rfl rfl (Nat.le_of_ble_eq_true rfl) dX6_areThin_48) (fun z_5 V_6 h_7 => ?_)
            obtain ⟨rfl, rfl⟩ := h_7
            refine j_ifb_eq (tgt := 119) C dX6_areThin_51 (by decide) (fun q_8 => ?_) (fun q_8 => ?_)
            · refine j_iinc (lv' := [(0, sr 72), (1, si (u : Int)), (2, si (v : Int)), (3, si (bI (gL g u v && gKs g u v w))), (4, si (gF g u v)), (5, si ((w : Int) + 1))]) C dX6_areThin_119 rfl (by decide) rfl ?_
              refine j_goto (tgt := 18) C dX6_areThin_122 (by decide) ?_
              have e3 : bI (gL g u v && gKs g u v (w + 1)) = (bI (gL g u v && gKs g u v w)) := by
                rw [show gKs g u v (w + 1) = (gKs g u v w && gK g u v w) from rfl]
                unfold gK gB
                simp_all [bI] <;> omega
              refine j_pick (lv' := [(0, sr 72), (1, si (u : Int)), (2, si (v : Int)), (3, si (bI (gL g u v && gKs g u v w))), (4, si (gF g u v)), (5, si ((w : Int) + 1))]) [0, 1, 2, 3, 4, 5] rfl ?_
              refine j_lv (lv' := [(0, sr 72), (1, si (u : Int)), (2, si (v : Int)), (3, si (bI (gL g u v && gKs g u v (w + 1)))), (4, si (gF g u v)), (5, si (((w : Nat) : Int) + 1))]) (by rw [e3]) ?_
              exact ih (w + 1) (by omega) (by omega)
            · refine j_aload_n C dX6_areThin_54 rfl ?_
              refine j_iload_n C dX6_areThin_55 rfl ?_
              refine j_iload C dX6_areThin_56 rfl ?_
              refine j_doI (st := []) (j_runV C (kX6_farOf hg u w rfl rfl (by omega) (by omega)) gX6_areThin_X6_farOf sgX6_farOf rfl ⟨by decide, by decide⟩ (by decide) (en_72 _ _) rfl rfl rfl (Nat.le_of_ble_eq_true rfl) dX6_areThin_58) (fun z_9 V_10 h_11 => ?_)
              obtain ⟨rfl, rfl⟩ := h_11
              refine j_istore (lv' := [(0, sr 72), (1, si (u : Int)), (2, si (v : Int)), (3, si (bI (gL g u v && gKs g u v w))), (4, si (gF g u v)), (5, si (w : Int)), (6, si (gF g u w))]) C dX6_areThin_61 (by decide) rfl ?_
              refine j_aload_n C dX6_areThin_63 rfl ?_
              refine j_iload C dX6_areThin_64 rfl ?_
              refine j_iload_n C dX6_areThin_66 rfl ?_
              refine j_doI (st := []) (j_runV C (kX6_farOf hg w v rfl rfl (by omega) (by omega)) gX6_areThin_X6_farOf sgX6_farOf rfl ⟨by decide, by decide⟩ (by decide) (en_72 _ _) rfl rfl rfl (Nat.le_of_ble_eq_true rfl) dX6_areThin_67) (fun z_12 V_13 h_14 => ?_)
              obtain ⟨rfl, rfl⟩ := h_14
              refine j_istore (lv' := [(0, sr 72), (1, si (u : Int)), (2, si (v : Int)), (3, si (bI (gL g u v && gKs g u v w))), (4, si (gF g u v)), (5, si (w : Int)), (6, si (gF g u w)), (7, si (gF g w v))]) C dX6_areThin_70 (by decide) rfl ?_
              refine j_aload_n C dX6_areThin_72 rfl ?_
              refine j_get (v := sr 73) C 72 0 (by decide) (en_72 _ _) rfl (by decide) (fun w h => List.mem_cons_of_mem _ (List.mem_append_right _ h)) (List.mem_of_getElem? (i := 1) rfl) dX6_areThin_73 rfl ?_
              refine j_iconst C dX6_areThin_76 ?_
              refine j_iald C (row_73 O) 2 rfl (by decide) dX6_areThin_77 ?_
              refine j_top (hg 2 (by omega)) ?_
              refine j_if_ne (tgt := 99) C dX6_areThin_78 (by decide) (by have := ok.2.2.1; omega) (fun q_15 => ?_) (fun q_15 => ?_)
              · refine j_iload C dX6_areThin_99 rfl ?_
                refine j_iload C dX6_areThin_101 rfl ?_
                refine j_icmp_ge (tgt := 113) C dX6_areThin_103 (by decide) (by have := ok.f (u := u) (v := w) (by omega) (by omega); omega) (by have := ok.f (u := u) (v := v) (by omega) (by omega); omega) (fun q_16 => ?_) (fun q_16 => ?_)
                · refine j_iconst C dX6_areThin_113 ?_
                  refine j_goto (tgt := 118) C dX6_areThin_114 (by decide) ?_
                  refine j_istore_n (lv' := [(0, sr 72), (1, si (u : Int)), (2, si (v : Int)), (3, si 1), (4, si (gF g u v)), (5, si (w : Int)), (6, si (gF g u w)), (7, si (gF g w v))]) C dX6_areThin_118 (by decide) rfl ?_
                  refine j_iinc (lv' := [(0, sr 72), (1, si (u : Int)), (2, si (v : Int)), (3, si 1), (4, si (gF g u v)), (5, si ((w : Int) + 1)), (6, si (gF g u w)), (7, si (gF g w v))]) C dX6_areThin_119 rfl (by decide) rfl ?_
                  refine j_goto (tgt := 18) C dX6_areThin_122 (by decide) ?_
                  have e3 : bI (gL g u v && gKs g u v (w + 1)) = 1 := by
                    rw [show gKs g u v (w + 1) = (gKs g u v w && gK g u v w) from rfl]
                    unfold gK gB
                    simp_all [bI] <;> omega
                  refine j_pick (lv' := [(0, sr 72), (1, si (u : Int)), (2, si (v : Int)), (3, si 1), (4, si (gF g u v)), (5, si ((w : Int) + 1))]) [0, 1, 2, 3, 4, 5] rfl ?_
                  refine j_lv (lv' := [(0, sr 72), (1, si (u : Int)), (2, si (v : Int)), (3, si (bI (gL g u v && gKs g u v (w + 1)))), (4, si (gF g u v)), (5, si (((w : Nat) : Int) + 1))]) (by rw [e3]) ?_
                  exact ih (w + 1) (by omega) (by omega)
                · refine j_iload C dX6_areThin_106 rfl ?_
                  refine j_iload C dX6_areThin_108 rfl ?_
                  refine j_icmp_lt (tgt := 117) C dX6_areThin_110 (by decide) (by have := ok.f (u := w) (v := v) (by omega) (by omega); omega) (by have := ok.f (u := u) (v := v) (by omega) (by omega); omega) (fun q_17 => ?_) (fun q_17 => ?_)
                  · refine j_iconst C dX6_areThin_117 ?_
                    refine j_istore_n (lv' := [(0, sr 72), (1, si (u : Int)), (2, si (v : Int)), (3, si 0), (4, si (gF g u v)), (5, si (w : Int)), (6, si (gF g u w)), (7, si (gF g w v))]) C dX6_areThin_118 (by decide) rfl ?_
                    refine j_iinc (lv' := [(0, sr 72), (1, si (u : Int)), (2, si (v : Int)), (3, si 0), (4, si (gF g u v)), (5, si ((w : Int) + 1)), (6, si (gF g u w)), (7, si (gF g w v))]) C dX6_areThin_119 rfl (by decide) rfl ?_
                    refine j_goto (tgt := 18) C dX6_areThin_122 (by decide) ?_
                    have e3 : bI (gL g u v && gKs g u v (w + 1)) = 0 := by
                      rw [show gKs g u v (w + 1) = (gKs g u v w && gK g u v w) from rfl]
                      unfold gK gB
                      simp_all [bI] <;> omega
                    refine j_pick (lv' := [(0, sr 72), (1, si (u : Int)), (2, si (v : Int)), (3, si 0), (4, si (gF g u v)), (5, si ((w : Int) + 1))]) [0, 1, 2, 3, 4, 5] rfl ?_
                    refine j_lv (lv' := [(0, sr 72), (1, si (u : Int)), (2, si (v : Int)), (3, si (bI (gL g u v && gKs g u v (w + 1)))), (4, si (gF g u v)), (5, si (((w : Nat) : Int) + 1))]) (by rw [e3]) ?_
                    exact ih (w + 1) (by omega) (by omega)
                  · refine j_iconst C dX6_areThin_113 ?_
                    refine j_goto (tgt := 118) C dX6_areThin_114 (by decide) ?_
                    refine j_istore_n (lv' := [(0, sr 72), (1, si (u : Int)), (2, si (v : Int)), (3, si 1), (4, si (gF g u v)), (5, si (w : Int)), (6, si (gF g u w)), (7, si (gF g w v))]) C dX6_areThin_118 (by decide) rfl ?_
                    refine j_iinc (lv' := [(0, sr 72), (1, si (u : Int)), (2, si (v : Int)), (3, si 1), (4, si (gF g u v)), (5, si ((w : Int) + 1)), (6, si (gF g u w)), (7, si (gF g w v))]) C dX6_areThin_119 rfl (by decide) rfl ?_
                    refine j_goto (tgt := 18) C dX6_areThin_122 (by decide) ?_
                    have e3 : bI (gL g u v && gKs g u v (w + 1)) = 1 := by
                      rw [show gKs g u v (w + 1) = (gKs g u v w && gK g u v w) from rfl]
                      unfold gK gB
                      simp_all [bI] <;> omega
                    refine j_pick (lv' := [(0, sr 72), (1, si (u : Int)), (2, si (v : Int)), (3, si 1), (4, si (gF g u v)), (5, si ((w : Int) + 1))]) [0, 1, 2, 3, 4, 5] rfl ?_
                    refine j_lv (lv' := [(0, sr 72), (1, si (u : Int)), (2, si (v : Int)), (3, si (bI (gL g u v && gKs g u v (w + 1)))), (4, si (gF g u v)), (5, si (((w : Nat) : Int) + 1))]) (by rw [e3]) ?_
                    exact ih (w + 1) (by omega) (by omega)
              · refine j_iload C dX6_areThin_81 rfl ?_
                refine j_iload C dX6_areThin_83 rfl ?_
                refine j_iadd C dX6_areThin_85 ?_
                refine j_iload C dX6_areThin_86 rfl ?_
                refine j_icmp_le (tgt := 95) C dX6_areThin_88 (by decide) (by have := ok.f (u := u) (v := w) (by omega) (by omega); have := ok.f (u := w) (v := v) (by omega) (by omega); omega) (by have := ok.f (u := u) (v := v) (by omega) (by omega); omega) (fun q_18 => ?_) (fun q_18 => ?_)
                · refine j_iconst C dX6_areThin_95 ?_
                  refine j_goto (tgt := 118) C dX6_areThin_96 (by decide) ?_
                  refine j_istore_n (lv' := [(0, sr 72), (1, si (u : Int)), (2, si (v : Int)), (3, si 0), (4, si (gF g u v)), (5, si (w : Int)), (6, si (gF g u w)), (7, si (gF g w v))]) C dX6_areThin_118 (by decide) rfl ?_
                  refine j_iinc (lv' := [(0, sr 72), (1, si (u : Int)), (2, si (v : Int)), (3, si 0), (4, si (gF g u v)), (5, si ((w : Int) + 1)), (6, si (gF g u w)), (7, si (gF g w v))]) C dX6_areThin_119 rfl (by decide) rfl ?_
                  refine j_goto (tgt := 18) C dX6_areThin_122 (by decide) ?_
                  have e3 : bI (gL g u v && gKs g u v (w + 1)) = 0 := by
                    rw [show gKs g u v (w + 1) = (gKs g u v w && gK g u v w) from rfl]
                    unfold gK gB
                    simp_all [bI] <;> omega
                  refine j_pick (lv' := [(0, sr 72), (1, si (u : Int)), (2, si (v : Int)), (3, si 0), (4, si (gF g u v)), (5, si ((w : Int) + 1))]) [0, 1, 2, 3, 4, 5] rfl ?_
                  refine j_lv (lv' := [(0, sr 72), (1, si (u : Int)), (2, si (v : Int)), (3, si (bI (gL g u v && gKs g u v (w + 1)))), (4, si (gF g u v)), (5, si (((w : Nat) : Int) + 1))]) (by rw [e3]) ?_
                  exact ih (w + 1) (by omega) (by omega)
                · refine j_iconst C dX6_areThin_91 ?_
                  refine j_goto (tgt := 118) C dX6_areThin_92 (by decide) ?_
                  refine j_istore_n (lv' := [(0, sr 72), (1, si (u : Int)), (2, si (v : Int)), (3, si 1), (4, si (gF g u v)), (5, si (w : Int)), (6, si (gF g u w)), (7, si (gF g w v))]) C dX6_areThin_118 (by decide) rfl ?_
                  refine j_iinc (lv' := [(0, sr 72), (1, si (u : Int)), (2, si (v : Int)), (3, si 1), (4, si (gF g u v)), (5, si ((w : Int) + 1)), (6, si (gF g u w)), (7, si (gF g w v))]) C dX6_areThin_119 rfl (by decide) rfl ?_
                  refine j_goto (tgt := 18) C dX6_areThin_122 (by decide) ?_
                  have e3 : bI (gL g u v && gKs g u v (w + 1)) = 1 := by
                    rw [show gKs g u v (w + 1) = (gKs g u v w && gK g u v w) from rfl]
                    unfold gK gB
                    simp_all [bI] <;> omega
                  refine j_pick (lv' := [(0, sr 72), (1, si (u : Int)), (2, si (v : Int)), (3, si 1), (4, si (gF g u v)), (5, si ((w : Int) + 1))]) [0, 1, 2, 3, 4, 5] rfl ?_
                  refine j_lv (lv' := [(0, sr 72), (1, si (u : Int)), (2, si (v : Int)), (3, si (bI (gL g u v && gKs g u v (w + 1)))), (4, si (gF g u v)), (5, si (((w : Nat) : Int) + 1))]) (by rw [e3]) ?_
                  exact ih (w + 1) (by omega) (by omega)
set_option maxHeartbeats 4000000 in
set_option maxRecDepth 100000 in
theorem kX6_areThin {O : OmT} {l : Launch} {V : Mem} {g : Nat → Int} (hg : mdl V g) (ok : okg g) {zu : Int} {zv : Int} (u v : Nat) (eu : zu = (u : Int)) (ev : zv = (v : Int)) (hu : u < 10) (hv : v < 10) : MI O l yX6_areThin wsX6_areThin rX6_areThin [sr 72, si zu, si zv] V (fun z V2 => V = V2 ∧ z = bI (gT g u v)) := by
  refine mi_of (cc := cX6_areThin) (nL := 8) (rt := (some .boolean)) (by decide) rfl rfl (Nat.le_of_ble_eq_true rfl) (fun F hF C hQ => ?_)
  subst hF
  subst eu ev
  change J O F rX6_areThin 8 V 0 [(0, sr 72), (1, si (u : Int)), (2, si (v : Int))] []
  refine j_aload_n C dX6_areThin_0 rfl ?_
  refine j_iload_n C dX6_areThin_1 rfl ?_
  refine j_iload_n C dX6_areThin_2 rfl ?_
  refine j_doI (st := []) (j_runV C (kX6_areLinked hg ok u v rfl rfl (by omega) (by omega)) gX6_areThin_X6_areLinked sgX6_areLinked rfl ⟨by decide, by decide⟩ (by decide) (en_72 _ _) rfl rfl rfl (Nat.le_of_ble_eq_true rfl) dX6_areThin_3) (fun z_1 V_2 h_3 => ?_)
  obtain ⟨rfl, rfl⟩ := h_3
  refine j_istore_n (lv' := [(0, sr 72), (1, si (u : Int)), (2, si (v : Int)), (3, si (bI (gL g u v)))]) C dX6_areThin_6 (by decide) rfl ?_
  refine j_aload_n C dX6_areThin_7 rfl ?_
  refine j_iload_n C dX6_areThin_8 rfl ?_
  refine j_iload_n C dX6_areThin_9 rfl ?_
  refine j_doI (st := []) (j_runV C (kX6_farOf hg u v rfl rfl (by omega) (by omega)) gX6_areThin_X6_farOf sgX6_farOf rfl ⟨by decide, by decide⟩ (by decide) (en_72 _ _) rfl rfl rfl (Nat.le_of_ble_eq_true rfl) dX6_areThin_10) (fun z_4 V_5 h_6 => ?_)
  obtain ⟨rfl, rfl⟩ := h_6
  refine j_istore (lv' := [(0, sr 72), (1, si (u : Int)), (2, si (v : Int)), (3, si (bI (gL g u v))), (4, si (gF g u v))]) C dX6_areThin_13 (by decide) rfl ?_
  refine j_iconst C dX6_areThin_15 ?_
  refine j_istore (lv' := [(0, sr 72), (1, si (u : Int)), (2, si (v : Int)), (3, si (bI (gL g u v))), (4, si (gF g u v)), (5, si 0)]) C dX6_areThin_16 (by decide) rfl ?_
  refine j_lv (lv' := [(0, sr 72), (1, si (u : Int)), (2, si (v : Int)), (3, si (bI (gL g u v && gKs g u v 0))), (4, si (gF g u v)), (5, si ((0 : Nat) : Int))]) (by rw [show gKs g u v 0 = true from rfl, Bool.and_true]; rfl) ?_
  exact lpX6_areThin C hQ hg ok hu hv ⟨rfl, rfl⟩ _ 0 (Nat.zero_le _) (Nat.lt_succ_self _)
def rX6_firstOf : Room := { frames := 4, cells := 0, slots := 0, locals := 91 }
theorem sgX6_firstOf : sg yX6_firstOf wsX6_firstOf cX6_firstOf 6 (some .int) rX6_firstOf 3 := ⟨⟨_, rfl⟩, rfl, rfl, by decide, by decide, by decide +kernel⟩
set_option maxHeartbeats 4000000 in
set_option maxRecDepth 100000 in
theorem lpX6_firstOf {O : OmT} {F : PhT} {V : Mem} {g : Nat → Int} {post : Int → Mem → Prop} (C : cx O F RX6 cX6_firstOf 6 (some .int) wsX6_firstOf) (hQ : qI O F post) (hg : mdl V g) (ok : okg g) {u p : Nat} {but : Int} (hu : u < 10) (hp : p < 10) (hb : -1 ≤ but ∧ but < 10) (hpo : post (gO g u p but (gN g)) V) : ∀ (fuel : Nat) (w : Nat), (w ≤ gN g) → gN g - w < fuel → J O F rX6_firstOf 6 V 6 [(0, sr 72), (1, si (u : Int)), (2, si (p : Int)), (3, si but), (4, si (gO g u p but w)), (5, si (w : Int))] [] := by
  intro fuel
  induction fuel with
  | zero => intro w hw hf; exact absurd hf (Nat.not_lt_zero _)
  | succ fuel ih =>
    intro w hw hf
    have n1 := ok.n
    have o1 := gO_rg g u p but w
    refine j_iload C dX6_firstOf_6 rfl ?_
    refine j_aload_n C dX6_firstOf_8 rfl ?_
    refine j_get (v := sr 73) C 72 0 (by decide) (en_72 _ _) rfl (by decide) (fun w h => List.mem_cons_of_mem _ (List.mem_append_right _ h)) (List.mem_of_getElem? (i := 1) rfl) dX6_firstOf_9 rfl ?_
    refine j_iconst C dX6_firstOf_12 ?_
    refine j_iald C (row_73 O) 0 rfl (by decide) dX6_firstOf_13 ?_
    refine j_top (hg 0 (by omega)) ?_
    refine j_icmp_ge (tgt := 62) C dX6_firstOf_14 (by decide) (by omega) (by have := ok.1; omega) (fun q_1 => ?_) (fun q_1 => ?_)
    · refine j_iload C dX6_firstOf_62 rfl ?_
      refine j_iret C hQ dX6_firstOf_64 ?_
      have e : w = gN g := by omega
      subst e; exact hpo
    · refine j_iload C dX6_firstOf_17 rfl ?_
      refine j_iload_n C dX6_firstOf_19 rfl ?_
      refine j_icmp_eq (tgt := 56) C dX6_firstOf_20 (by decide) (by omega) (by omega) (fun q_2 => ?_) (fun q_2 => ?_)
      · refine j_iinc (lv' := [(0, sr 72), (1, si (u : Int)), (2, si (p : Int)), (3, si but), (4, si (gO g u p but w)), (5, si ((w : Int) + 1))]) C dX6_firstOf_56 rfl (by decide) rfl ?_
        refine j_goto (tgt := 6) C dX6_firstOf_59 (by decide) ?_
        have e4 : gO g u p but (w + 1) = (gO g u p but w) := by
          rw [show gO g u p but (w + 1) = if (w : Int) ≠ but ∧ gT g u w = true ∧ (gO g u p but w = -1 ∨ gH g u p w (gO g u p but w).toNat = true) then (w : Int) else gO g u p but w from rfl]
          simp [*]
        refine j_lv (lv' := [(0, sr 72), (1, si (u : Int)), (2, si (p : Int)), (3, si but), (4, si (gO g u p but (w + 1))), (5, si (((w : Nat) : Int) + 1))]) (by rw [e4]) ?_
        exact ih (w + 1) (by omega) (by omega)
      · refine j_aload_n C dX6_firstOf_23 rfl ?_
        refine j_iload_n C dX6_firstOf_24 rfl ?_
        refine j_iload C dX6_firstOf_25 rfl ?_
        refine j_doI (st := []) (j_runV C (kX6_areThin hg ok u w rfl rfl (by omega) (by omega)) gX6_firstOf_X6_areThin sgX6_areThin rfl ⟨by decide, by decide⟩ (by decide) (en_72 _ _) rfl rfl rfl (Nat.le_of_ble_eq_true rfl) dX6_firstOf_27) (fun z_3 V_4 h_5 => ?_)
        obtain ⟨rfl, rfl⟩ := h_5
        refine j_ifb_eq (tgt := 56) C dX6_firstOf_30 (by decide) (fun q_6 => ?_) (fun q_6 => ?_)
        · refine j_iinc (lv' := [(0, sr 72), (1, si (u : Int)), (2, si (p : Int)), (3, si but), (4, si (gO g u p but w)), (5, si ((w : Int) + 1))]) C dX6_firstOf_56 rfl (by decide) rfl ?_
          refine j_goto (tgt := 6) C dX6_firstOf_59 (by decide) ?_
          have e4 : gO g u p but (w + 1) = (gO g u p but w) := by
            rw [show gO g u p but (w + 1) = if (w : Int) ≠ but ∧ gT g u w = true ∧ (gO g u p but w = -1 ∨ gH g u p w (gO g u p but w).toNat = true) then (w : Int) else gO g u p but w from rfl]
            simp [*]
          refine j_lv (lv' := [(0, sr 72), (1, si (u : Int)), (2, si (p : Int)), (3, si but), (4, si (gO g u p but (w + 1))), (5, si (((w : Nat) : Int) + 1))]) (by rw [e4]) ?_
          exact ih (w + 1) (by omega) (by omega)
        · refine j_iload C dX6_firstOf_33 rfl ?_
          refine j_iconst C dX6_firstOf_35 ?_
          refine j_icmp_eq (tgt := 52) C dX6_firstOf_36 (by decide) (by omega) (by decide) (fun q_7 => ?_) (fun q_7 => ?_)
          · refine j_iload C dX6_firstOf_52 rfl ?_
            refine j_istore (lv' := [(0, sr 72), (1, si (u : Int)), (2, si (p : Int)), (3, si but), (4, si (w : Int)), (5, si (w : Int))]) C dX6_firstOf_54 (by decide) rfl ?_
            refine j_iinc (lv' := [(0, sr 72), (1, si (u : Int)), (2, si (p : Int)), (3, si but), (4, si (w : Int)), (5, si ((w : Int) + 1))]) C dX6_firstOf_56 rfl (by decide) rfl ?_
            refine j_goto (tgt := 6) C dX6_firstOf_59 (by decide) ?_
            have e4 : gO g u p but (w + 1) = (w : Int) := by
              rw [show gO g u p but (w + 1) = if (w : Int) ≠ but ∧ gT g u w = true ∧ (gO g u p but w = -1 ∨ gH g u p w (gO g u p but w).toNat = true) then (w : Int) else gO g u p but w from rfl]
              simp [*]
            refine j_lv (lv' := [(0, sr 72), (1, si (u : Int)), (2, si (p : Int)), (3, si but), (4, si (gO g u p but (w + 1))), (5, si (((w : Nat) : Int) + 1))]) (by rw [e4]) ?_
            exact ih (w + 1) (by omega) (by omega)
          · refine j_aload_n C dX6_firstOf_39 rfl ?_
            refine j_iload_n C dX6_firstOf_40 rfl ?_
            refine j_iload_n C dX6_firstOf_41 rfl ?_
            refine j_iload C dX6_firstOf_42 rfl ?_
            refine j_iload C dX6_firstOf_44 rfl ?_
            refine j_doI (st := []) (j_runV C (kX6_isAhead hg ok u p w (gO g u p but w).toNat rfl rfl rfl (by omega) (by omega) (by omega) (by omega) (by omega)) gX6_firstOf_X6_isAhead sgX6_isAhead rfl ⟨by decide, by decide⟩ (by decide) (en_72 _ _) rfl rfl rfl (Nat.le_of_ble_eq_true rfl) dX6_firstOf_46) (fun z_8 V_9 h_10 => ?_)
            obtain ⟨rfl, rfl⟩ := h_10
            refine j_ifb_eq (tgt := 56) C dX6_firstOf_49 (by decide) (fun q_11 => ?_) (fun q_11 => ?_)
            · refine j_iinc (lv' := [(0, sr 72), (1, si (u : Int)), (2, si (p : Int)), (3, si but), (4, si (gO g u p but w)), (5, si ((w : Int) + 1))]) C dX6_firstOf_56 rfl (by decide) rfl ?_
              refine j_goto (tgt := 6) C dX6_firstOf_59 (by decide) ?_
              have e4 : gO g u p but (w + 1) = (gO g u p but w) := by
                rw [show gO g u p but (w + 1) = if (w : Int) ≠ but ∧ gT g u w = true ∧ (gO g u p but w = -1 ∨ gH g u p w (gO g u p but w).toNat = true) then (w : Int) else gO g u p but w from rfl]
                simp [*]
              refine j_lv (lv' := [(0, sr 72), (1, si (u : Int)), (2, si (p : Int)), (3, si but), (4, si (gO g u p but (w + 1))), (5, si (((w : Nat) : Int) + 1))]) (by rw [e4]) ?_
              exact ih (w + 1) (by omega) (by omega)
            · refine j_iload C dX6_firstOf_52 rfl ?_
              refine j_istore (lv' := [(0, sr 72), (1, si (u : Int)), (2, si (p : Int)), (3, si but), (4, si (w : Int)), (5, si (w : Int))]) C dX6_firstOf_54 (by decide) rfl ?_
              refine j_iinc (lv' := [(0, sr 72), (1, si (u : Int)), (2, si (p : Int)), (3, si but), (4, si (w : Int)), (5, si ((w : Int) + 1))]) C dX6_firstOf_56 rfl (by decide) rfl ?_
              refine j_goto (tgt := 6) C dX6_firstOf_59 (by decide) ?_
              have e4 : gO g u p but (w + 1) = (w : Int) := by
                rw [show gO g u p but (w + 1) = if (w : Int) ≠ but ∧ gT g u w = true ∧ (gO g u p but w = -1 ∨ gH g u p w (gO g u p but w).toNat = true) then (w : Int) else gO g u p but w from rfl]
                simp [*]
              refine j_lv (lv' := [(0, sr 72), (1, si (u : Int)), (2, si (p : Int)), (3, si but), (4, si (gO g u p but (w + 1))), (5, si (((w : Nat) : Int) + 1))]) (by rw [e4]) ?_
              exact ih (w + 1) (by omega) (by omega)
set_option maxHeartbeats 4000000 in
set_option maxRecDepth 100000 in
theorem kX6_firstOf {O : OmT} {l : Launch} {V : Mem} {g : Nat → Int} (hg : mdl V g) (ok : okg g) {zu : Int} {zp : Int} (u p : Nat) (eu : zu = (u : Int)) (ep : zp = (p : Int)) (hu : u < 10) (hp : p < 10) {but : Int} (hb : -1 ≤ but ∧ but < 10) : MI O l yX6_firstOf wsX6_firstOf rX6_firstOf [sr 72, si zu, si zp, si but] V (fun z V2 => V = V2 ∧ z = gO g u p but (gN g)) := by
  refine mi_of (cc := cX6_firstOf) (nL := 6) (rt := (some .int)) (by decide) rfl rfl (Nat.le_of_ble_eq_true rfl) (fun F hF C hQ => ?_)
  subst hF
  subst eu ep
  change J O F rX6_firstOf 6 V 0 [(0, sr 72), (1, si (u : Int)), (2, si (p : Int)), (3, si but)] []
  refine j_iconst C dX6_firstOf_0 ?_
  refine j_istore (lv' := [(0, sr 72), (1, si (u : Int)), (2, si (p : Int)), (3, si but), (4, si (-1))]) C dX6_firstOf_1 (by decide) rfl ?_
  refine j_iconst C dX6_firstOf_3 ?_
  refine j_istore (lv' := [(0, sr 72), (1, si (u : Int)), (2, si (p : Int)), (3, si but), (4, si (-1)), (5, si 0)]) C dX6_firstOf_4 (by decide) rfl ?_
  exact lpX6_firstOf C hQ hg ok hu hp hb ⟨rfl, rfl⟩ _ 0 (Nat.zero_le _) (Nat.lt_succ_self _)
def rX6_turned : Room := { frames := 5, cells := 0, slots := 0, locals := 116 }
theorem sgX6_turned : sg yX6_turned wsX6_turned cX6_turned 4 (some .int) rX6_turned 2 := ⟨⟨_, rfl⟩, rfl, rfl, by decide, by decide, by decide +kernel⟩
set_option maxHeartbeats 4000000 in
set_option maxRecDepth 100000 in
theorem kX6_turned {O : OmT} {l : Launch} {V : Mem} {g : Nat → Int} (hg : mdl V g) (ok : okg g) {zu : Int} {zv : Int} (u v : Nat) (eu : zu = (u : Int)) (ev : zv = (v : Int)) (hu : u < 10) (hv : v < 10) : MI O l yX6_turned wsX6_turned rX6_turned [sr 72, si zu, si zv] V (fun z V2 => V = V2 ∧ z = gU g u v) := by
  refine mi_of (cc := cX6_turned) (nL := 4) (rt := (some .int)) (by decide) rfl rfl (Nat.le_of_ble_eq_true rfl) (fun F hF C hQ => ?_)
  subst hF
  subst eu ev
  change J O F rX6_turned 4 V 0 [(0, sr 72), (1, si (u : Int)), (2, si (v : Int))] []
  refine j_aload_n C dX6_turned_0 rfl ?_
  refine j_iload_n C dX6_turned_1 rfl ?_
  refine j_iload_n C dX6_turned_2 rfl ?_
  refine j_iload_n C dX6_turned_3 rfl ?_
  refine j_doI (st := []) (j_runV C (kX6_firstOf hg ok u v rfl rfl (by omega) (by omega) (by omega)) gX6_turned_X6_firstOf sgX6_firstOf rfl ⟨by decide, by decide⟩ (by decide) (en_72 _ _) rfl rfl rfl (Nat.le_of_ble_eq_true rfl) dX6_turned_4) (fun z_1 V_2 h_3 => ?_)
  obtain ⟨rfl, rfl⟩ := h_3
  refine j_istore_n (lv' := [(0, sr 72), (1, si (u : Int)), (2, si (v : Int)), (3, si (gO g u v (v : Int) (gN g)))]) C dX6_turned_7 (by decide) rfl ?_
  refine j_iload_n C dX6_turned_8 rfl ?_
  refine j_iconst C dX6_turned_9 ?_
  refine j_icmp_eq (tgt := 17) C dX6_turned_10 (by decide) (by have := gO_rg g u v v (gN g); have := ok.n; omega) (by decide) (fun q_4 => ?_) (fun q_4 => ?_)
  · refine j_aload_n C dX6_turned_17 rfl ?_
    refine j_iload_n C dX6_turned_18 rfl ?_
    refine j_iload_n C dX6_turned_19 rfl ?_
    refine j_doI (st := []) (j_runV C (kX6_areThin hg ok u v rfl rfl (by omega) (by omega)) gX6_turned_X6_areThin sgX6_areThin rfl ⟨by decide, by decide⟩ (by decide) (en_72 _ _) rfl rfl rfl (Nat.le_of_ble_eq_true rfl) dX6_turned_20) (fun z_5 V_6 h_7 => ?_)
    obtain ⟨rfl, rfl⟩ := h_7
    refine j_ifb_eq (tgt := 30) C dX6_turned_23 (by decide) (fun q_8 => ?_) (fun q_8 => ?_)
    · refine j_iconst C dX6_turned_30 ?_
      refine j_iret C hQ dX6_turned_31 ?_
      refine ⟨rfl, ?_⟩
      unfold gU
      simp [*]
    · refine j_iload_n C dX6_turned_26 rfl ?_
      refine j_goto (tgt := 31) C dX6_turned_27 (by decide) ?_
      refine j_iret C hQ dX6_turned_31 ?_
      refine ⟨rfl, ?_⟩
      unfold gU
      simp [*]
  · refine j_iload_n C dX6_turned_13 rfl ?_
    refine j_goto (tgt := 31) C dX6_turned_14 (by decide) ?_
    refine j_iret C hQ dX6_turned_31 ?_
    refine ⟨rfl, ?_⟩
    unfold gU
    simp [*]
def rX6_nearerOf : Room := { frames := 3, cells := 0, slots := 0, locals := 64 }
theorem sgX6_nearerOf : sg yX6_nearerOf wsX6_nearerOf cX6_nearerOf 5 (some .int) rX6_nearerOf 2 := ⟨⟨_, rfl⟩, rfl, rfl, by decide, by decide, by decide +kernel⟩
set_option maxHeartbeats 4000000 in
set_option maxRecDepth 100000 in
theorem lpX6_nearerOf {O : OmT} {F : PhT} {V : Mem} {g : Nat → Int} {post : Int → Mem → Prop} (C : cx O F RX6 cX6_nearerOf 5 (some .int) wsX6_nearerOf) (hQ : qI O F post) (hg : mdl V g) (ok : okg g) {u t : Nat} (hu : u < 10) (ht : t < 10) (hpo : post (gR g u t (gN g)) V) : ∀ (fuel : Nat) (w : Nat), (w ≤ gN g) → gN g - w < fuel → J O F rX6_nearerOf 5 V 5 [(0, sr 72), (1, si (u : Int)), (2, si (t : Int)), (3, si (gR g u t w)), (4, si (w : Int))] [] := by
  intro fuel
  induction fuel with
  | zero => intro w hw hf; exact absurd hf (Nat.not_lt_zero _)
  | succ fuel ih =>
    intro w hw hf
    have n1 := ok.n
    have o1 := gR_rg g u t w
    refine j_iload C dX6_nearerOf_5 rfl ?_
    refine j_aload_n C dX6_nearerOf_7 rfl ?_
    refine j_get (v := sr 73) C 72 0 (by decide) (en_72 _ _) rfl (by decide) (fun w h => List.mem_cons_of_mem _ (List.mem_append_right _ h)) (List.mem_of_getElem? (i := 1) rfl) dX6_nearerOf_8 rfl ?_
    refine j_iconst C dX6_nearerOf_11 ?_
    refine j_iald C (row_73 O) 0 rfl (by decide) dX6_nearerOf_12 ?_
    refine j_top (hg 0 (by omega)) ?_
    refine j_icmp_ge (tgt := 72) C dX6_nearerOf_13 (by decide) (by omega) (by have := ok.1; omega) (fun q_1 => ?_) (fun q_1 => ?_)
    · refine j_iload_n C dX6_nearerOf_72 rfl ?_
      refine j_iret C hQ dX6_nearerOf_73 ?_
      have e : w = gN g := by omega
      subst e; exact hpo
    · refine j_aload_n C dX6_nearerOf_16 rfl ?_
      refine j_iload_n C dX6_nearerOf_17 rfl ?_
      refine j_iload C dX6_nearerOf_18 rfl ?_
      refine j_doI (st := []) (j_runV C (kX6_areLinked hg ok u w rfl rfl (by omega) (by omega)) gX6_nearerOf_X6_areLinked sgX6_areLinked rfl ⟨by decide, by decide⟩ (by decide) (en_72 _ _) rfl rfl rfl (Nat.le_of_ble_eq_true rfl) dX6_nearerOf_20) (fun z_2 V_3 h_4 => ?_)
      obtain ⟨rfl, rfl⟩ := h_4
      refine j_ifb_eq (tgt := 66) C dX6_nearerOf_23 (by decide) (fun q_5 => ?_) (fun q_5 => ?_)
      · refine j_iinc (lv' := [(0, sr 72), (1, si (u : Int)), (2, si (t : Int)), (3, si (gR g u t w)), (4, si ((w : Int) + 1))]) C dX6_nearerOf_66 rfl (by decide) rfl ?_
        refine j_goto (tgt := 5) C dX6_nearerOf_69 (by decide) ?_
        have e4 : gR g u t (w + 1) = (gR g u t w) := by
          rw [show gR g u t (w + 1) = if gL g u w = true ∧ gF g w t < gF g u t ∧ (gR g u t w = -1 ∨ gF g w t < gF g (gR g u t w).toNat t) then (w : Int) else gR g u t w from rfl]
          simp [*] <;> omega
        refine j_lv (lv' := [(0, sr 72), (1, si (u : Int)), (2, si (t : Int)), (3, si (gR g u t (w + 1))), (4, si (((w : Nat) : Int) + 1))]) (by rw [e4]) ?_
        exact ih (w + 1) (by omega) (by omega)
      · refine j_aload_n C dX6_nearerOf_26 rfl ?_
        refine j_iload C dX6_nearerOf_27 rfl ?_
        refine j_iload_n C dX6_nearerOf_29 rfl ?_
        refine j_doI (st := []) (j_runV C (kX6_farOf hg w t rfl rfl (by omega) (by omega)) gX6_nearerOf_X6_farOf sgX6_farOf rfl ⟨by decide, by decide⟩ (by decide) (en_72 _ _) rfl rfl rfl (Nat.le_of_ble_eq_true rfl) dX6_nearerOf_30) (fun z_6 V_7 h_8 => ?_)
        obtain ⟨rfl, rfl⟩ := h_8
        refine j_aload_n C dX6_nearerOf_33 rfl ?_
        refine j_iload_n C dX6_nearerOf_34 rfl ?_
        refine j_iload_n C dX6_nearerOf_35 rfl ?_
        refine j_doI (st := [si (gF g w t)]) (j_runV C (kX6_farOf hg u t rfl rfl (by omega) (by omega)) gX6_nearerOf_X6_farOf sgX6_farOf rfl ⟨by decide, by decide⟩ (by decide) (en_72 _ _) rfl rfl rfl (Nat.le_of_ble_eq_true rfl) dX6_nearerOf_36) (fun z_9 V_10 h_11 => ?_)
        obtain ⟨rfl, rfl⟩ := h_11
        refine j_icmp_ge (tgt := 66) C dX6_nearerOf_39 (by decide) (by have := ok.f (u := w) (v := t) (by omega) (by omega); omega) (by have := ok.f (u := u) (v := t) (by omega) (by omega); omega) (fun q_12 => ?_) (fun q_12 => ?_)
        · refine j_iinc (lv' := [(0, sr 72), (1, si (u : Int)), (2, si (t : Int)), (3, si (gR g u t w)), (4, si ((w : Int) + 1))]) C dX6_nearerOf_66 rfl (by decide) rfl ?_
          refine j_goto (tgt := 5) C dX6_nearerOf_69 (by decide) ?_
          have e4 : gR g u t (w + 1) = (gR g u t w) := by
            rw [show gR g u t (w + 1) = if gL g u w = true ∧ gF g w t < gF g u t ∧ (gR g u t w = -1 ∨ gF g w t < gF g (gR g u t w).toNat t) then (w : Int) else gR g u t w from rfl]
            simp [*] <;> omega
          refine j_lv (lv' := [(0, sr 72), (1, si (u : Int)), (2, si (t : Int)), (3, si (gR g u t (w + 1))), (4, si (((w : Nat) : Int) + 1))]) (by rw [e4]) ?_
          exact ih (w + 1) (by omega) (by omega)
        · refine j_iload_n C dX6_nearerOf_42 rfl ?_
          refine j_iconst C dX6_nearerOf_43 ?_
          refine j_icmp_eq (tgt := 63) C dX6_nearerOf_44 (by decide) (by omega) (by decide) (fun q_13 => ?_) (fun q_13 => ?_)
          · refine j_iload C dX6_nearerOf_63 rfl ?_
            refine j_istore_n (lv' := [(0, sr 72), (1, si (u : Int)), (2, si (t : Int)), (3, si (w : Int)), (4, si (w : Int))]) C dX6_nearerOf_65 (by decide) rfl ?_
            refine j_iinc (lv' := [(0, sr 72), (1, si (u : Int)), (2, si (t : Int)), (3, si (w : Int)), (4, si ((w : Int) + 1))]) C dX6_nearerOf_66 rfl (by decide) rfl ?_
            refine j_goto (tgt := 5) C dX6_nearerOf_69 (by decide) ?_
            have e4 : gR g u t (w + 1) = (w : Int) := by
              rw [show gR g u t (w + 1) = if gL g u w = true ∧ gF g w t < gF g u t ∧ (gR g u t w = -1 ∨ gF g w t < gF g (gR g u t w).toNat t) then (w : Int) else gR g u t w from rfl]
              simp [*] <;> omega
            refine j_lv (lv' := [(0, sr 72), (1, si (u : Int)), (2, si (t : Int)), (3, si (gR g u t (w + 1))), (4, si (((w : Nat) : Int) + 1))]) (by rw [e4]) ?_
            exact ih (w + 1) (by omega) (by omega)
          · refine j_aload_n C dX6_nearerOf_47 rfl ?_
            refine j_iload C dX6_nearerOf_48 rfl ?_
            refine j_iload_n C dX6_nearerOf_50 rfl ?_
            refine j_doI (st := []) (j_runV C (kX6_farOf hg w t rfl rfl (by omega) (by omega)) gX6_nearerOf_X6_farOf sgX6_farOf rfl ⟨by decide, by decide⟩ (by decide) (en_72 _ _) rfl rfl rfl (Nat.le_of_ble_eq_true rfl) dX6_nearerOf_51) (fun z_14 V_15 h_16 => ?_)
            obtain ⟨rfl, rfl⟩ := h_16
            refine j_aload_n C dX6_nearerOf_54 rfl ?_
            refine j_iload_n C dX6_nearerOf_55 rfl ?_
            refine j_iload_n C dX6_nearerOf_56 rfl ?_
            refine j_doI (st := [si (gF g w t)]) (j_runV C (kX6_farOf hg (gR g u t w).toNat t (by omega) rfl (by omega) (by omega)) gX6_nearerOf_X6_farOf sgX6_farOf rfl ⟨by decide, by decide⟩ (by decide) (en_72 _ _) rfl rfl rfl (Nat.le_of_ble_eq_true rfl) dX6_nearerOf_57) (fun z_17 V_18 h_19 => ?_)
            obtain ⟨rfl, rfl⟩ := h_19
            refine j_icmp_ge (tgt := 66) C dX6_nearerOf_60 (by decide) (by have := ok.f (u := w) (v := t) (by omega) (by omega); omega) (by have := ok.f (u := (gR g u t w).toNat) (v := t) (by omega) (by omega); omega) (fun q_20 => ?_) (fun q_20 => ?_)
            · refine j_iinc (lv' := [(0, sr 72), (1, si (u : Int)), (2, si (t : Int)), (3, si (gR g u t w)), (4, si ((w : Int) + 1))]) C dX6_nearerOf_66 rfl (by decide) rfl ?_
              refine j_goto (tgt := 5) C dX6_nearerOf_69 (by decide) ?_
              have e4 : gR g u t (w + 1) = (gR g u t w) := by
                rw [show gR g u t (w + 1) = if gL g u w = true ∧ gF g w t < gF g u t ∧ (gR g u t w = -1 ∨ gF g w t < gF g (gR g u t w).toNat t) then (w : Int) else gR g u t w from rfl]
                simp [*] <;> omega
              refine j_lv (lv' := [(0, sr 72), (1, si (u : Int)), (2, si (t : Int)), (3, si (gR g u t (w + 1))), (4, si (((w : Nat) : Int) + 1))]) (by rw [e4]) ?_
              exact ih (w + 1) (by omega) (by omega)
            · refine j_iload C dX6_nearerOf_63 rfl ?_
              refine j_istore_n (lv' := [(0, sr 72), (1, si (u : Int)), (2, si (t : Int)), (3, si (w : Int)), (4, si (w : Int))]) C dX6_nearerOf_65 (by decide) rfl ?_
              refine j_iinc (lv' := [(0, sr 72), (1, si (u : Int)), (2, si (t : Int)), (3, si (w : Int)), (4, si ((w : Int) + 1))]) C dX6_nearerOf_66 rfl (by decide) rfl ?_
              refine j_goto (tgt := 5) C dX6_nearerOf_69 (by decide) ?_
              have e4 : gR g u t (w + 1) = (w : Int) := by
                rw [show gR g u t (w + 1) = if gL g u w = true ∧ gF g w t < gF g u t ∧ (gR g u t w = -1 ∨ gF g w t < gF g (gR g u t w).toNat t) then (w : Int) else gR g u t w from rfl]
                simp [*] <;> omega
              refine j_lv (lv' := [(0, sr 72), (1, si (u : Int)), (2, si (t : Int)), (3, si (gR g u t (w + 1))), (4, si (((w : Nat) : Int) + 1))]) (by rw [e4]) ?_
              exact ih (w + 1) (by omega) (by omega)
set_option maxHeartbeats 4000000 in
set_option maxRecDepth 100000 in
theorem kX6_nearerOf {O : OmT} {l : Launch} {V : Mem} {g : Nat → Int} (hg : mdl V g) (ok : okg g) {zu : Int} {zt : Int} (u t : Nat) (eu : zu = (u : Int)) (et : zt = (t : Int)) (hu : u < 10) (ht : t < 10) : MI O l yX6_nearerOf wsX6_nearerOf rX6_nearerOf [sr 72, si zu, si zt] V (fun z V2 => V = V2 ∧ z = gR g u t (gN g)) := by
  refine mi_of (cc := cX6_nearerOf) (nL := 5) (rt := (some .int)) (by decide) rfl rfl (Nat.le_of_ble_eq_true rfl) (fun F hF C hQ => ?_)
  subst hF
  subst eu et
  change J O F rX6_nearerOf 5 V 0 [(0, sr 72), (1, si (u : Int)), (2, si (t : Int))] []
  refine j_iconst C dX6_nearerOf_0 ?_
  refine j_istore_n (lv' := [(0, sr 72), (1, si (u : Int)), (2, si (t : Int)), (3, si (-1))]) C dX6_nearerOf_1 (by decide) rfl ?_
  refine j_iconst C dX6_nearerOf_2 ?_
  refine j_istore (lv' := [(0, sr 72), (1, si (u : Int)), (2, si (t : Int)), (3, si (-1)), (4, si 0)]) C dX6_nearerOf_3 (by decide) rfl ?_
  exact lpX6_nearerOf C hQ hg ok hu ht ⟨rfl, rfl⟩ _ 0 (Nat.zero_le _) (Nat.lt_succ_self _)
