def rX6_partsOf : Room := { frames := 5, cells := 0, slots := 0, locals := 115 }
theorem sgX6_partsOf : sg yX6_partsOf wsX6_partsOf cX6_partsOf 6 (some .int) rX6_partsOf 0 := ⟨⟨_, rfl⟩, rfl, rfl, by decide, by decide, by decide +kernel⟩
set_option maxHeartbeats 4000000 in
set_option maxRecDepth 100000 in
theorem lpX6_parts3 {O : OmT} {F : PhT} {V : Mem} {g : Nat → Int} (C : cx O F RX6 cX6_partsOf 6 (some .int) wsX6_partsOf) (hg : mdl V g) (ok : okg g) {L m : Nat} {q : Int} (hm : m < 1024) (kx : J O F rX6_partsOf 6 V 74 [(0, sr 72), (1, si (L : Int)), (2, si q), (3, si ((m ||| gLa g m (gN g) : Nat) : Int)), (4, si (m : Int)), (5, si ((gN g : Nat) : Int))] []) : ∀ (fuel : Nat) (w : Nat), (w ≤ gN g) → gN g - w < fuel → J O F rX6_partsOf 6 V 33 [(0, sr 72), (1, si (L : Int)), (2, si q), (3, si ((m ||| gLa g m w : Nat) : Int)), (4, si (m : Int)), (5, si (w : Int))] [] := by
  intro fuel
  induction fuel with
  | zero => intro w hw hf; exact absurd hf (Nat.not_lt_zero _)
  | succ fuel ih =>
    intro w hw hf
    have n1 := ok.n
    refine j_iload C dX6_partsOf_33 rfl ?_
    refine j_aload_n C dX6_partsOf_35 rfl ?_
    refine j_get (v := sr 73) C 72 0 (by decide) (en_72 _ _) rfl (by decide) (fun w h => List.mem_cons_of_mem _ (List.mem_append_right _ h)) (List.mem_of_getElem? (i := 1) rfl) dX6_partsOf_36 rfl ?_
    refine j_iconst C dX6_partsOf_39 ?_
    refine j_iald C (row_73 O) 0 rfl (by decide) dX6_partsOf_40 ?_
    refine j_top (hg 0 (by omega)) ?_
    refine j_icmp_ge (tgt := 74) C dX6_partsOf_41 (by decide) (by omega) (by have := ok.1; omega) (fun q_1 => ?_) (fun q_1 => ?_)
    · have e : w = gN g := by omega
      rw [e]
      exact kx
    · refine j_iload_n C dX6_partsOf_44 rfl ?_
      refine j_iload C dX6_partsOf_45 rfl ?_
      refine j_iload C dX6_partsOf_47 rfl ?_
      refine j_doI (st := [si ((m ||| gLa g m w : Nat) : Int)]) (j_runS C (kX6_has m w rfl rfl (by omega) (by omega)) ggX6_partsOf_X6_has sgX6_has (List.mem_of_getElem? (i := 2) rfl) (List.mem_of_getElem? (i := 4) rfl) (List.mem_of_getElem? (i := 3) rfl) ⟨by decide, by decide⟩ rfl rfl (Nat.le_of_ble_eq_true rfl) dX6_partsOf_49) (fun z_2 V_3 h_4 => ?_)
      obtain ⟨rfl, rfl⟩ := h_4
      refine j_ifb_eq (tgt := 65) C dX6_partsOf_52 (by decide) (fun q_5 => ?_) (fun q_5 => ?_)
      · refine j_iconst C dX6_partsOf_65 ?_
        refine j_ior C dX6_partsOf_66 ?_
        refine j_top (bOr_nat (Nat.lt_trans (Nat.or_lt_two_pow (n := 10) hm (gLa_lt ok m w)) (by decide)) (by decide)) ?_
        refine j_istore_n (lv' := [(0, sr 72), (1, si (L : Int)), (2, si q), (3, si (((m ||| gLa g m w) ||| 0 : Nat) : Int)), (4, si (m : Int)), (5, si (w : Int))]) C dX6_partsOf_67 (by decide) rfl ?_
        refine j_iinc (lv' := [(0, sr 72), (1, si (L : Int)), (2, si q), (3, si (((m ||| gLa g m w) ||| 0 : Nat) : Int)), (4, si (m : Int)), (5, si ((w : Int) + 1))]) C dX6_partsOf_68 rfl (by decide) rfl ?_
        refine j_goto (tgt := 33) C dX6_partsOf_71 (by decide) ?_
        have e3 : ((m ||| gLa g m (w + 1) : Nat) : Int) = (((m ||| gLa g m w) ||| 0 : Nat) : Int) := by
          rw [show gLa g m (w + 1) = gLa g m w ||| (if m.testBit w then gLs g w (gN g) else 0) from rfl, ← Nat.or_assoc]
          simp_all [gSt]
        refine j_lv (lv' := [(0, sr 72), (1, si (L : Int)), (2, si q), (3, si ((m ||| gLa g m (w + 1) : Nat) : Int)), (4, si (m : Int)), (5, si ((w : Int) + 1))]) (by rw [e3]) ?_
        exact ih (w + 1) (by omega) (by omega)
      · refine j_aload_n C dX6_partsOf_55 rfl ?_
        refine j_iload C dX6_partsOf_56 rfl ?_
        refine j_iconst C dX6_partsOf_58 ?_
        refine j_doI (st := [si ((m ||| gLa g m w : Nat) : Int)]) (j_runV C (kX6_setOf hg ok w false rfl (by omega)) gX6_partsOf_X6_setOf sgX6_setOf rfl ⟨by decide, by decide⟩ (by decide) (en_72 _ _) rfl rfl rfl (Nat.le_of_ble_eq_true rfl) dX6_partsOf_59) (fun z_6 V_7 h_8 => ?_)
        obtain ⟨rfl, rfl⟩ := h_8
        refine j_goto (tgt := 66) C dX6_partsOf_62 (by decide) ?_
        refine j_ior C dX6_partsOf_66 ?_
        refine j_top (bOr_nat (Nat.lt_trans (Nat.or_lt_two_pow (n := 10) hm (gLa_lt ok m w)) (by decide)) (Nat.lt_trans (gSt_lt g false w (gN g)) (p2_31 (by omega)))) ?_
        refine j_istore_n (lv' := [(0, sr 72), (1, si (L : Int)), (2, si q), (3, si (((m ||| gLa g m w) ||| (gSt g false w (gN g)) : Nat) : Int)), (4, si (m : Int)), (5, si (w : Int))]) C dX6_partsOf_67 (by decide) rfl ?_
        refine j_iinc (lv' := [(0, sr 72), (1, si (L : Int)), (2, si q), (3, si (((m ||| gLa g m w) ||| (gSt g false w (gN g)) : Nat) : Int)), (4, si (m : Int)), (5, si ((w : Int) + 1))]) C dX6_partsOf_68 rfl (by decide) rfl ?_
        refine j_goto (tgt := 33) C dX6_partsOf_71 (by decide) ?_
        have e3 : ((m ||| gLa g m (w + 1) : Nat) : Int) = (((m ||| gLa g m w) ||| (gSt g false w (gN g)) : Nat) : Int) := by
          rw [show gLa g m (w + 1) = gLa g m w ||| (if m.testBit w then gLs g w (gN g) else 0) from rfl, ← Nat.or_assoc]
          simp_all [gSt]
        refine j_lv (lv' := [(0, sr 72), (1, si (L : Int)), (2, si q), (3, si ((m ||| gLa g m (w + 1) : Nat) : Int)), (4, si (m : Int)), (5, si ((w : Int) + 1))]) (by rw [e3]) ?_
        exact ih (w + 1) (by omega) (by omega)
set_option maxHeartbeats 4000000 in
set_option maxRecDepth 100000 in
theorem lpX6_parts2 {O : OmT} {F : PhT} {V : Mem} {g : Nat → Int} (C : cx O F RX6 cX6_partsOf 6 (some .int) wsX6_partsOf) (hg : mdl V g) (ok : okg g) {L v : Nat} {q : Int} (hv : v < 10) (kx : J O F rX6_partsOf 6 V 77 [(0, sr 72), (1, si (L : Int)), (2, si q), (3, si ((gCl g v : Nat) : Int))] []) : ∀ (fuel : Nat) (f : Nat) (a : Nat), ((a = 0 ∧ f = 0) ∨ ∃ f2, f = f2 + 1 ∧ a = gIt g f2 (2 ^ v)) → ((f : Int) ≤ pcN a 10) → (fuel + f = 11) → J O F rX6_partsOf 6 V 21 [(0, sr 72), (1, si (L : Int)), (2, si q), (3, si ((gIt g f (2 ^ v) : Nat) : Int)), (4, si (a : Int))] [] := by
  intro fuel
  induction fuel with
  | zero => intro f a hr hp hf; exfalso; have := pcN_rg a 10; omega
  | succ fuel ih =>
    intro f a hr hp hf
    have n1 := ok.n
    have hlt := gIt_lt ok f (p2_10 hv)
    have hal : a < 1024 := by
      rcases hr with ⟨rfl, -⟩ | ⟨f2, -, rfl⟩
      · decide
      · exact gIt_lt ok f2 (p2_10 hv)
    refine j_iload C dX6_partsOf_21 rfl ?_
    refine j_iload_n C dX6_partsOf_23 rfl ?_
    refine j_icmp_eq (tgt := 77) C dX6_partsOf_24 (by decide) (by omega) (by omega) (fun q_1 => ?_) (fun q_1 => ?_)
    · rw [mid_end ok hv hr (by omega)]
      refine j_pick (lv' := [(0, sr 72), (1, si (L : Int)), (2, si q), (3, si ((gCl g v : Nat) : Int))]) [0, 1, 2, 3] rfl ?_
      exact kx
    · refine j_iload_n C dX6_partsOf_27 rfl ?_
      refine j_istore (lv' := [(0, sr 72), (1, si (L : Int)), (2, si q), (3, si ((gIt g f (2 ^ v) : Nat) : Int)), (4, si ((gIt g f (2 ^ v) : Nat) : Int))]) C dX6_partsOf_28 (by decide) rfl ?_
      refine j_iconst C dX6_partsOf_30 ?_
      refine j_istore (lv' := [(0, sr 72), (1, si (L : Int)), (2, si q), (3, si ((gIt g f (2 ^ v) : Nat) : Int)), (4, si ((gIt g f (2 ^ v) : Nat) : Int)), (5, si 0)]) C dX6_partsOf_31 (by decide) rfl ?_
      refine j_lv (lv' := [(0, sr 72), (1, si (L : Int)), (2, si q), (3, si ((gIt g f (2 ^ v) ||| gLa g (gIt g f (2 ^ v)) 0 : Nat) : Int)), (4, si ((gIt g f (2 ^ v) : Nat) : Int)), (5, si ((0 : Nat) : Int))]) (by rw [show gLa g _ 0 = 0 from rfl, Nat.or_zero]; rfl) ?_
      refine lpX6_parts3 C hg ok (gIt_lt ok f (p2_10 hv)) ?_ _ 0 (Nat.zero_le _) (Nat.lt_succ_self _)
      refine j_goto (tgt := 21) C dX6_partsOf_74 (by decide) ?_
      refine j_pick (lv' := [(0, sr 72), (1, si (L : Int)), (2, si q), (3, si ((gIt g f (2 ^ v) ||| gLa g (gIt g f (2 ^ v)) (gN g) : Nat) : Int)), (4, si ((gIt g f (2 ^ v) : Nat) : Int))]) [0, 1, 2, 3, 4] rfl ?_
      refine j_lv (lv' := [(0, sr 72), (1, si (L : Int)), (2, si q), (3, si ((gIt g (f + 1) (2 ^ v) : Nat) : Int)), (4, si ((gIt g f (2 ^ v) : Nat) : Int))]) (by rw [gIt_s]; rfl) ?_
      exact ih (f + 1) (gIt g f (2 ^ v)) (Or.inr ⟨f, rfl, rfl⟩) (mid_pc ok hv hr hp (by omega)) (by omega)
set_option maxHeartbeats 4000000 in
set_option maxRecDepth 100000 in
theorem lpX6_parts {O : OmT} {F : PhT} {V : Mem} {g : Nat → Int} (C : cx O F RX6 cX6_partsOf 6 (some .int) wsX6_partsOf) {post : Int → Mem → Prop} (hQ : qI O F post) (hg : mdl V g) (ok : okg g) (hpo : post (gPt g (gN g)).1 V) : ∀ (fuel : Nat) (k : Nat), (k ≤ gN g) → (∀ j, j < k → (adn (g 3).toNat (gPt g k).2).testBit j = false) → (11 ≤ fuel + k) → J O F rX6_partsOf 6 V 9 [(0, sr 72), (1, si ((adn (g 3).toNat (gPt g k).2 : Nat) : Int)), (2, si ((gPt g k).1))] [] := by
  intro fuel
  induction fuel with
  | zero => intro k hk h0 hf; exfalso; have := ok.n; omega
  | succ fuel ih =>
    intro k hk h0 hf
    have n1 := ok.n
    have hL : adn (g 3).toNat (gPt g k).2 < 1024 := adn_lt ok.a.2
    have pl := gPt_lt ok k (by omega)
    refine j_iload_n C dX6_partsOf_9 rfl ?_
    refine j_if_eq (tgt := 89) C dX6_partsOf_10 (by decide) (by omega) (fun q_1 => ?_) (fun q_1 => ?_)
    · refine j_iload_n C dX6_partsOf_89 rfl ?_
      refine j_iret C hQ dX6_partsOf_90 ?_
      rw [← parts_0 ok hk (by omega)] at hpo; exact hpo
    · obtain ⟨v, hv, hv2, hv3, hv4⟩ := low_k _ hL (fun z => q_1 (by rw [z]; rfl))
      obtain ⟨p1, p2, p3⟩ := parts_v ok hk h0 hv hv2 hv3
      refine j_iload_n C dX6_partsOf_13 rfl ?_
      refine j_iload_n C dX6_partsOf_14 rfl ?_
      refine j_ineg C dX6_partsOf_15 ?_
      refine j_iand C dX6_partsOf_16 ?_
      refine j_top hv4 ?_
      refine j_istore_n (lv' := [(0, sr 72), (1, si ((adn (g 3).toNat (gPt g k).2 : Nat) : Int)), (2, si ((gPt g k).1)), (3, si ((2 ^ v : Nat) : Int))]) C dX6_partsOf_17 (by decide) rfl ?_
      refine j_iconst C dX6_partsOf_18 ?_
      refine j_istore (lv' := [(0, sr 72), (1, si ((adn (g 3).toNat (gPt g k).2 : Nat) : Int)), (2, si ((gPt g k).1)), (3, si ((2 ^ v : Nat) : Int)), (4, si 0)]) C dX6_partsOf_19 (by decide) rfl ?_
      refine lpX6_parts2 C hg ok hv ?_ 11 0 0 (Or.inl ⟨rfl, rfl⟩) (by decide) rfl
      refine j_iload_n C dX6_partsOf_77 rfl ?_
      refine j_iload_n C dX6_partsOf_78 rfl ?_
      refine j_iconst C dX6_partsOf_79 ?_
      refine j_ixor C dX6_partsOf_80 ?_
      refine j_iand C dX6_partsOf_81 ?_
      refine j_top (adn_and hL (gCl_lt ok hv)) ?_
      refine j_istore_n (lv' := [(0, sr 72), (1, si ((adn (adn (g 3).toNat (gPt g k).2) (gCl g v) : Nat) : Int)), (2, si ((gPt g k).1)), (3, si ((gCl g v : Nat) : Int))]) C dX6_partsOf_82 (by decide) rfl ?_
      refine j_iinc (lv' := [(0, sr 72), (1, si ((adn (adn (g 3).toNat (gPt g k).2) (gCl g v) : Nat) : Int)), (2, si (((gPt g k).1) + 1)), (3, si ((gCl g v : Nat) : Int))]) C dX6_partsOf_83 rfl (by decide) rfl ?_
      refine j_goto (tgt := 9) C dX6_partsOf_86 (by decide) ?_
      refine j_pick (lv' := [(0, sr 72), (1, si ((adn (adn (g 3).toNat (gPt g k).2) (gCl g v) : Nat) : Int)), (2, si (((gPt g k).1) + 1))]) [0, 1, 2] rfl ?_
      refine j_lv (lv' := [(0, sr 72), (1, si ((adn (g 3).toNat (gPt g (v + 1)).2 : Nat) : Int)), (2, si (gPt g (v + 1)).1)]) (by rw [p3, adn_or ok.a.2]) ?_
      exact ih (v + 1) (by omega) (by rw [p3]; exact parts_z ok hv hv3) (by omega)
set_option maxHeartbeats 4000000 in
set_option maxRecDepth 100000 in
theorem kX6_partsOf {O : OmT} {l : Launch} {V : Mem} {g : Nat → Int} (hg : mdl V g) (ok : okg g) : MI O l yX6_partsOf wsX6_partsOf rX6_partsOf [sr 72] V (fun z V2 => V = V2 ∧ z = (gPt g (gN g)).1) := by
  refine mi_of (cc := cX6_partsOf) (nL := 6) (rt := (some .int)) (by decide) rfl rfl (Nat.le_of_ble_eq_true rfl) (fun F hF C hQ => ?_)
  subst hF
  change J O F rX6_partsOf 6 V 0 [(0, sr 72)] []
  refine j_aload_n C dX6_partsOf_0 rfl ?_
  refine j_get (v := sr 73) C 72 0 (by decide) (en_72 _ _) rfl (by decide) (fun w h => List.mem_cons_of_mem _ (List.mem_append_right _ h)) (List.mem_of_getElem? (i := 1) rfl) dX6_partsOf_1 rfl ?_
  refine j_iconst C dX6_partsOf_4 ?_
  refine j_iald C (row_73 O) 3 rfl (by decide) dX6_partsOf_5 ?_
  refine j_top (b := ((g 3).toNat : Int)) ((hg 3 (by omega)).trans ok.a.1) ?_
  refine j_istore_n (lv' := [(0, sr 72), (1, si (((g 3).toNat : Nat) : Int))]) C dX6_partsOf_6 (by decide) rfl ?_
  refine j_iconst C dX6_partsOf_7 ?_
  refine j_istore_n (lv' := [(0, sr 72), (1, si (((g 3).toNat : Nat) : Int)), (2, si 0)]) C dX6_partsOf_8 (by decide) rfl ?_
  refine j_lv (lv' := [(0, sr 72), (1, si ((adn (g 3).toNat (gPt g 0).2 : Nat) : Int)), (2, si (gPt g 0).1)]) (by rw [show (gPt g 0).2 = 0 from rfl, adn_0 ok.a.2]; rfl) ?_
  exact lpX6_parts C hQ hg ok ⟨rfl, rfl⟩ 11 0 (Nat.zero_le _) (fun j h => absurd h (Nat.not_lt_zero _)) (Nat.le_refl _)
