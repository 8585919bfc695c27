set_option maxHeartbeats 4000000 in
set_option maxRecDepth 100000 in
/-- the law's loop: the class and the reference hold one state -/
theorem law_loop {O : OmT} {F : PhT} (C : cL O F ret) {L : Nat} {xs : Nat → Int32} (S : scr O F L xs) (kend : ∀ (V : Mem) (i : Nat), JL O F V 777 (LV i) []) :
    ∀ (n i : Nat), L < i + n → i ≤ L + 4 → ∀ (V : Mem) (s : St), CR V s → MR V s → okS s → JL O F V 18 (LV i) [] := by
  have hL := S.2.2.2
  intro n
  induction n with
  | zero => intro i h1 h2 V s hR hM os
            refine l_iload_n C dL_law_18 rfl ?_
            refine l_aload_n C dL_law_19 rfl ?_
            refine l_slen C S dL_law_20 ?_
            refine l_iconst C dL_law_21 ?_
            refine l_isub C dL_law_22 ?_
            refine l_icmp_gt (tgt := 777) C dL_law_23 (by decide) (by omega) (by omega) (fun q => kend V i) (fun q => ?_)
            omega
  | succ n ih =>
    intro i h1 h2 V s hR hM os
    refine l_iload_n C dL_law_18 rfl ?_
    refine l_aload_n C dL_law_19 rfl ?_
    refine l_slen C S dL_law_20 ?_
    refine l_iconst C dL_law_21 ?_
    refine l_isub C dL_law_22 ?_
    refine l_icmp_gt (tgt := 777) C dL_law_23 (by decide) (by omega) (by omega) (fun q => kend V i) (fun q => ?_)
    have hi : i + 3 < L := by omega
    have k : ∀ (V : Mem) (s : St), CR V s → MR V s → okS s → JL O F V 771 (LV i) [] := by
      intro V s hR hM os
      refine l_iinc (lv' := LV (i + 4)) C dL_law_771 rfl (by decide) (by show [(0, sr 100), (1, sr 0), (2, sr 72), (3, si ((i : Int) + 4))] = _; rfl) ?_
      exact l_goto (tgt := 18) C dL_law_774 (by decide) (ih (i + 4) (by omega) (by omega) V s hR hM os)
    refine l_aload_n C dL_law_26 rfl ?_
    refine l_iload_n C dL_law_27 rfl ?_
    refine l_sld C S i rfl (by omega) dL_law_28 ?_
    refine l_bipush C dL_law_29 (by decide) ?_
    refine l_iand C dL_law_31 ?_
    have hz := i32_rg (iI (xs i).toInt &&& iI 31)
    change JL O F V 32 (LV i) [si (bAnd (xs i).toInt 31)]
    obtain ⟨z, ez⟩ : ∃ z, z = bAnd (xs i).toInt 31 := ⟨_, rfl⟩
    have hz : -2147483648 ≤ z ∧ z < 2147483648 := by rw [ez]; exact hz
    rw [← ez]
    obtain ⟨g, r⟩ := s
    rcases (show z = 0 ∨ z = 1 ∨ z = 2 ∨ z = 3 ∨ z = 4 ∨ z = 5 ∨ z = 6 ∨ z = 7 ∨ z = 8 ∨ z = 9 ∨ z = 10 ∨ z = 11 ∨ z = 12 ∨ z = 13 ∨ z = 14 ∨ z = 15 ∨ z = 16 ∨ z = 17 ∨ z = 18 ∨ z = 19 ∨ z = 20 ∨ (z < 0 ∨ 20 < z) by omega) with q | q | q | q | q | q | q | q | q | q | q | q | q | q | q | q | q | q | q | q | q | q
    · subst q; exact l_tabIn (tgt := 132) (off := 100) C dL_law_32 (by decide) (by decide) (by decide) (by decide) (by decide) (lc_told C S hi k hR hM os)
    · subst q; exact l_tabIn (tgt := 155) (off := 123) C dL_law_32 (by decide) (by decide) (by decide) (by decide) (by decide) (lc_at C S hi k hR hM os)
    · subst q; exact l_tabIn (tgt := 188) (off := 156) C dL_law_32 (by decide) (by decide) (by decide) (by decide) (by decide) (lc_far C S hi k hR hM os)
    · subst q; exact l_tabIn (tgt := 221) (off := 189) C dL_law_32 (by decide) (by decide) (by decide) (by decide) (by decide) (lc_turning C S hi k hR hM os)
    · subst q; exact l_tabIn (tgt := 254) (off := 222) C dL_law_32 (by decide) (by decide) (by decide) (by decide) (by decide) (lc_face C S hi k hR hM os)
    · subst q; exact l_tabIn (tgt := 287) (off := 255) C dL_law_32 (by decide) (by decide) (by decide) (by decide) (by decide) (lc_way C S hi k hR hM os)
    · subst q; exact l_tabIn (tgt := 330) (off := 298) C dL_law_32 (by decide) (by decide) (by decide) (by decide) (by decide) (lc_step C S hi k hR hM os)
    · subst q; exact l_tabIn (tgt := 373) (off := 341) C dL_law_32 (by decide) (by decide) (by decide) (by decide) (by decide) (lc_hops C S hi k hR hM os)
    · subst q; exact l_tabIn (tgt := 406) (off := 374) C dL_law_32 (by decide) (by decide) (by decide) (by decide) (by decide) (lc_node C S hi k hR hM os)
    · subst q; exact l_tabIn (tgt := 439) (off := 407) C dL_law_32 (by decide) (by decide) (by decide) (by decide) (by decide) (lc_move C S hi k hR hM os)
    · subst q; exact l_tabIn (tgt := 482) (off := 450) C dL_law_32 (by decide) (by decide) (by decide) (by decide) (by decide) (lc_wake C S hi k hR hM os)
    · subst q; exact l_tabIn (tgt := 531) (off := 499) C dL_law_32 (by decide) (by decide) (by decide) (by decide) (by decide) (lc_take C S hi k hR hM os)
    · subst q; exact l_tabIn (tgt := 554) (off := 522) C dL_law_32 (by decide) (by decide) (by decide) (by decide) (by decide) (lc_reach C S hi k hR hM os)
    · subst q; exact l_tabIn (tgt := 577) (off := 545) C dL_law_32 (by decide) (by decide) (by decide) (by decide) (by decide) (lc_rule C S hi k hR hM os)
    · subst q; exact l_tabIn (tgt := 600) (off := 568) C dL_law_32 (by decide) (by decide) (by decide) (by decide) (by decide) (lc_drift C S hi k hR hM os)
    · subst q; exact l_tabIn (tgt := 623) (off := 591) C dL_law_32 (by decide) (by decide) (by decide) (by decide) (by decide) (lc_undo C S hi k hR hM os)
    · subst q; exact l_tabIn (tgt := 646) (off := 614) C dL_law_32 (by decide) (by decide) (by decide) (by decide) (by decide) (lc_write C S hi k hR hM os)
    · subst q; exact l_tabIn (tgt := 689) (off := 657) C dL_law_32 (by decide) (by decide) (by decide) (by decide) (by decide) (lc_tear C S hi k hR hM os)
    · subst q; exact l_tabIn (tgt := 702) (off := 670) C dL_law_32 (by decide) (by decide) (by decide) (by decide) (by decide) (lc_seed C S hi k hR hM os)
    · subst q; exact l_tabIn (tgt := 725) (off := 693) C dL_law_32 (by decide) (by decide) (by decide) (by decide) (by decide) (lc_keep C S hi k hR hM os)
    · subst q; exact l_tabIn (tgt := 748) (off := 716) C dL_law_32 (by decide) (by decide) (by decide) (by decide) (by decide) (lc_goBack C S hi k hR hM os)
    · exact l_tabOut (tgt := 771) C dL_law_32 hz q (by decide) (k V (g, r) hR hM os)
