/-! THE LAW'S LOOP -/
theorem and63 (x : Int32) : ∃ z : Int, (0 ≤ z ∧ z ≤ 63) ∧ x &&& iI 63 = iI z := by
  refine ⟨(x &&& iI 63).toInt, ?_, (Int32.ofInt_toInt _).symm⟩
  have e : (x &&& iI 63).toInt = ((x &&& iI 63).toBitVec).toInt := rfl
  have n : (x &&& iI 63).toBitVec.toNat ≤ 63 := by
    rw [Int32.toBitVec_and, BitVec.toNat_and]
    exact Nat.and_le_right
  rw [e, BitVec.toInt_eq_toNat_of_lt (by omega)]
  omega
theorem lw_loop {E : gE} {κ : Kp} {xa : Nat → Nat → Nat} {ma : Nat → Nat} {b L : Nat} {xs : Nat → Int32} (F : Fx E κ cL_law "PatchesSameAgeLaw" 4 9) (hX : ScrX E b L xs) (hL : L ≤ 2560) (hend : ∀ (w : va_W) (lv : List (Nat × Value)), G E w lv 1399 [.int (iI 1)]) : ∀ (n : Nat) (i : Int) (X : XS) (M : MS), ((L : Int) - i).toNat = n → 0 ≤ i → i ≤ 2560 → relT X M → G E (xw κ xa X ++ mw κ ma M) [(3, .int (iI i)), (2, .ref (ma 100)), (1, .ref (xa 18 100)), (0, .ref b)] 18 [] := by
  have hL2 : L ≤ 2147483647 := by omega
  intro n
  induction n using Nat.strongRecOn with
  | _ n ih =>
  intro i X M hn h0 h1 h
  refine g_iload_n F 0 dL_law_18 rfl ?_
  refine g_aload_n F 3 dL_law_19 rfl ?_
  refine g_slen F hX dL_law_20 ?_
  refine g_iconst F dL_law_21 ?_
  refine g_isub F dL_law_22 ?_
  refine g_icmp_gt F 1398 (by omega) dL_law_23 (by decide) (fun c => ?_) (fun c => ?_)
  · exact g_iconst F dL_law_1398 (hend _ _)
  · have hi : 0 ≤ i ∧ i + 5 ≤ (L : Int) := by omega
    refine g_aload_n F 3 dL_law_26 rfl ?_
    refine g_iload_n F 0 dL_law_27 rfl ?_
    refine g_sld F hX hL2 (by omega) dL_law_28 ?_
    refine g_bipush F dL_law_29 (by decide +kernel) ?_
    refine g_iand F dL_law_31 ?_
    obtain ⟨z, hz, ez⟩ := and63 (iI (scI xs i))
    refine g_top ez ?_
    have K : ∀ (X2 : XS) (M2 : MS), relT X2 M2 → G E (xw κ xa X2 ++ mw κ ma M2) [(3, .int (iI i)), (2, .ref (ma 100)), (1, .ref (xa 18 100)), (0, .ref b)] 1392 [] := fun X2 M2 h2 => by
      refine g_iinc F 0 dL_law_1392 rfl (by decide) rfl ?_
      refine g_goto F 18 dL_law_1395 (by decide) ?_
      exact ih _ (by omega) (i + 5) X2 M2 rfl (by omega) (by omega) h2
    by_cases q0 : z = 0
    · subst q0; exact g_tsw_in F 232 (by decide) dL_law_32 (by decide) (by decide) rfl (by decide) (lc_feed F hX hL hi h K)
    by_cases q1 : z = 1
    · subst q1; exact g_tsw_in F 255 (by decide) dL_law_32 (by decide) (by decide) rfl (by decide) (lc_trousers F hX hL hi h K)
    by_cases q2 : z = 2
    · subst q2; exact g_tsw_in F 268 (by decide) dL_law_32 (by decide) (by decide) rfl (by decide) (lc_cellOf F hX hL hi h K)
    by_cases q3 : z = 3
    · subst q3; exact g_tsw_in F 301 (by decide) dL_law_32 (by decide) (by decide) rfl (by decide) (lc_pieceOf F hX hL hi h K)
    by_cases q4 : z = 4
    · subst q4; exact g_tsw_in F 334 (by decide) dL_law_32 (by decide) (by decide) rfl (by decide) (lc_piece F hX hL hi h K)
    by_cases q5 : z = 5
    · subst q5; exact g_tsw_in F 377 (by decide) dL_law_32 (by decide) (by decide) rfl (by decide) (lc_cell F hX hL hi h K)
    by_cases q6 : z = 6
    · subst q6; exact g_tsw_in F 430 (by decide) dL_law_32 (by decide) (by decide) rfl (by decide) (lc_puts F hX hL hi h K)
    by_cases q7 : z = 7
    · subst q7; exact g_tsw_in F 463 (by decide) dL_law_32 (by decide) (by decide) rfl (by decide) (lc_wears F hX hL hi h K)
    by_cases q8 : z = 8
    · subst q8; exact g_tsw_in F 496 (by decide) dL_law_32 (by decide) (by decide) rfl (by decide) (lc_years F hX hL hi h K)
    by_cases q9 : z = 9
    · subst q9; exact g_tsw_in F 519 (by decide) dL_law_32 (by decide) (by decide) rfl (by decide) (lc_back F hX hL hi h K)
    by_cases q10 : z = 10
    · subst q10; exact g_tsw_in F 532 (by decide) dL_law_32 (by decide) (by decide) rfl (by decide) (lc_behind F hX hL hi h K)
    by_cases q11 : z = 11
    · subst q11; exact g_tsw_in F 575 (by decide) dL_law_32 (by decide) (by decide) rfl (by decide) (lc_all F hX hL hi h K)
    by_cases q12 : z = 12
    · subst q12; exact g_tsw_in F 608 (by decide) dL_law_32 (by decide) (by decide) rfl (by decide) (lc_holes F hX hL hi h K)
    by_cases q13 : z = 13
    · subst q13; exact g_tsw_in F 631 (by decide) dL_law_32 (by decide) (by decide) rfl (by decide) (lc_lasts F hX hL hi h K)
    by_cases q14 : z = 14
    · subst q14; exact g_tsw_in F 654 (by decide) dL_law_32 (by decide) (by decide) rfl (by decide) (lc_fits F hX hL hi h K)
    by_cases q15 : z = 15
    · subst q15; exact g_tsw_in F 687 (by decide) dL_law_32 (by decide) (by decide) rfl (by decide) (lc_bestPiece F hX hL hi h K)
    by_cases q16 : z = 16
    · subst q16; exact g_tsw_in F 710 (by decide) dL_law_32 (by decide) (by decide) rfl (by decide) (lc_mend F hX hL hi h K)
    by_cases q17 : z = 17
    · subst q17; exact g_tsw_in F 723 (by decide) dL_law_32 (by decide) (by decide) rfl (by decide) (lc_keep F hX hL hi h K)
    by_cases q18 : z = 18
    · subst q18; exact g_tsw_in F 736 (by decide) dL_law_32 (by decide) (by decide) rfl (by decide) (lc_placed F hX hL hi h K)
    by_cases q19 : z = 19
    · subst q19; exact g_tsw_in F 759 (by decide) dL_law_32 (by decide) (by decide) rfl (by decide) (lc_when F hX hL hi h K)
    by_cases q20 : z = 20
    · subst q20; exact g_tsw_in F 792 (by decide) dL_law_32 (by decide) (by decide) rfl (by decide) (lc_turns F hX hL hi h K)
    by_cases q21 : z = 21
    · subst q21; exact g_tsw_in F 815 (by decide) dL_law_32 (by decide) (by decide) rfl (by decide) (lc_whose F hX hL hi h K)
    by_cases q22 : z = 22
    · subst q22; exact g_tsw_in F 848 (by decide) dL_law_32 (by decide) (by decide) rfl (by decide) (lc_islands F hX hL hi h K)
    by_cases q23 : z = 23
    · subst q23; exact g_tsw_in F 881 (by decide) dL_law_32 (by decide) (by decide) rfl (by decide) (lc_strip F hX hL hi h K)
    by_cases q24 : z = 24
    · subst q24; exact g_tsw_in F 904 (by decide) dL_law_32 (by decide) (by decide) rfl (by decide) (lc_swap F hX hL hi h K)
    by_cases q25 : z = 25
    · subst q25; exact g_tsw_in F 917 (by decide) dL_law_32 (by decide) (by decide) rfl (by decide) (lc_chance F hX hL hi h K)
    by_cases q26 : z = 26
    · subst q26; exact g_tsw_in F 971 (by decide) dL_law_32 (by decide) (by decide) rfl (by decide) (lc_oldest F hX hL hi h K)
    by_cases q27 : z = 27
    · subst q27; exact g_tsw_in F 994 (by decide) dL_law_32 (by decide) (by decide) rfl (by decide) (lc_tightest F hX hL hi h K)
    by_cases q28 : z = 28
    · subst q28; exact g_tsw_in F 1017 (by decide) dL_law_32 (by decide) (by decide) rfl (by decide) (lc_ageFor F hX hL hi h K)
    by_cases q29 : z = 29
    · subst q29; exact g_tsw_in F 1040 (by decide) dL_law_32 (by decide) (by decide) rfl (by decide) (lc_entire F hX hL hi h K)
    by_cases q30 : z = 30
    · subst q30; exact g_tsw_in F 1053 (by decide) dL_law_32 (by decide) (by decide) rfl (by decide) (lc_bestOf F hX hL hi h K)
    by_cases q31 : z = 31
    · subst q31; exact g_tsw_in F 1086 (by decide) dL_law_32 (by decide) (by decide) rfl (by decide) (lc_harm F hX hL hi h K)
    by_cases q32 : z = 32
    · subst q32; exact g_tsw_in F 1109 (by decide) dL_law_32 (by decide) (by decide) rfl (by decide) (lc_pairs F hX hL hi h K)
    by_cases q33 : z = 33
    · subst q33; exact g_tsw_in F 1122 (by decide) dL_law_32 (by decide) (by decide) rfl (by decide) (lc_sumOf F hX hL hi h K)
    by_cases q34 : z = 34
    · subst q34; exact g_tsw_in F 1145 (by decide) dL_law_32 (by decide) (by decide) rfl (by decide) (lc_rank F hX hL hi h K)
    by_cases q35 : z = 35
    · subst q35; exact g_tsw_in F 1168 (by decide) dL_law_32 (by decide) (by decide) rfl (by decide) (lc_doomed F hX hL hi h K)
    by_cases q36 : z = 36
    · subst q36; exact g_tsw_in F 1191 (by decide) dL_law_32 (by decide) (by decide) rfl (by decide) (lc_mean F hX hL hi h K)
    by_cases q37 : z = 37
    · subst q37; exact g_tsw_in F 1215 (by decide) dL_law_32 (by decide) (by decide) rfl (by decide) (lc_younger F hX hL hi h K)
    by_cases q38 : z = 38
    · subst q38; exact g_tsw_in F 1238 (by decide) dL_law_32 (by decide) (by decide) rfl (by decide) (lc_unlike F hX hL hi h K)
    by_cases q39 : z = 39
    · subst q39; exact g_tsw_in F 1251 (by decide) dL_law_32 (by decide) (by decide) rfl (by decide) (lc_row F hX hL hi h K)
    by_cases q40 : z = 40
    · subst q40; exact g_tsw_in F 1274 (by decide) dL_law_32 (by decide) (by decide) rfl (by decide) (lc_judge F hX hL hi h K)
    by_cases q41 : z = 41
    · subst q41; exact g_tsw_in F 1287 (by decide) dL_law_32 (by decide) (by decide) rfl (by decide) (lc_clear F hX hL hi h K)
    by_cases q42 : z = 42
    · subst q42; exact g_tsw_in F 1300 (by decide) dL_law_32 (by decide) (by decide) rfl (by decide) (lc_lots F hX hL hi h K)
    by_cases q43 : z = 43
    · subst q43; exact g_tsw_in F 1343 (by decide) dL_law_32 (by decide) (by decide) rfl (by decide) (lc_image F hX hL hi h K)
    by_cases q44 : z = 44
    · subst q44; exact g_tsw_in F 1356 (by decide) dL_law_32 (by decide) (by decide) rfl (by decide) (lc_restore F hX hL hi h K)
    by_cases q45 : z = 45
    · subst q45; exact g_tsw_in F 1369 (by decide) dL_law_32 (by decide) (by decide) rfl (by decide) (lc_count F hX hL hi h K)
    exact g_tsw_out F 1392 (by omega) dL_law_32 (by omega) (by decide) (K X M h)
