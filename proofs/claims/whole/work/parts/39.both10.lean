theorem agn_stC (M M0 : MS) (C : Cl) : agn (stC M C) M0 = agn M M0 := by
  funext a
  unfold agn cst
  by_cases h1 : a = 25
  · rw [if_pos h1, if_pos h1]
  · rw [if_neg h1, if_neg h1]
    by_cases h2 : a = 24
    · rw [if_pos h2, if_pos h2]
    · rw [if_neg h2, if_neg h2]
      by_cases h3 : a = 23
      · rw [if_pos h3, if_pos h3]
      · rw [if_neg h3, if_neg h3]
        by_cases h4 : a = 20
        · rw [if_pos h4, if_pos h4]; rfl
        · rw [if_neg h4, if_neg h4]
          by_cases h5 : a ≤ 9
          · rw [if_pos h5, if_pos h5]
          · rw [if_neg h5, if_neg h5]
            unfold stC
            rw [if_neg (by omega), if_neg (by omega), if_neg (by omega), if_neg (by omega), if_neg (by omega)]
theorem bsum_bd {f : Int → Int} (hf : ∀ j : Int, f j = 0 ∨ f j = p2 j) {n : Int} (h : 0 ≤ n) : 0 ≤ sumI f n ∧ sumI f n < p2 n := by
  obtain ⟨k, rfl⟩ : ∃ k : Nat, n = (k : Int) := ⟨n.toNat, by omega⟩
  induction k with
  | zero => exact ⟨by show (0 : Int) ≤ 0; decide, by show (0 : Int) < 1; decide⟩
  | succ k ih =>
    have e : ((k + 1 : Nat) : Int) = (k : Int) + 1 := by omega
    have h1 := ih (by omega)
    have hp := p2_pos (k : Int)
    rw [e, sumI_s _ (by omega), p2_s (by omega)]
    have h2 := hf (k : Int)
    omega
def wsb (C : Cl) (r : Int → Int) (n c w v : Int) : Int := if rowI (oth C w c v) r c n then p2 v else 0
def wsf (C : Cl) (r : Int → Int) (n c w v : Int) : Int := if rowI (oth C w c v) r c n then 1 else 0
theorem wsb_bd (C : Cl) (r : Int → Int) (n c w : Int) {v : Int} (h : 0 ≤ v) : 0 ≤ sumI (wsb C r n c w) v ∧ sumI (wsb C r n c w) v < p2 v := bsum_bd (fun j => by unfold wsb; split; exact Or.inr rfl; exact Or.inl rfl) h
theorem wsf_bd (C : Cl) (r : Int → Int) (n c w : Int) {v : Int} (h : 0 ≤ v) : 0 ≤ sumI (wsf C r n c w) v ∧ sumI (wsf C r n c w) v ≤ v := by
  have k := sumI_bd (f := wsf C r n c w) (lo := 0) (hi := 1) h (fun j _ _ => by unfold wsf; split <;> omega)
  omega
def qWhose (C : Cl) (r : Int → Int) (n c w : Int) : Int := if ¬ (0 ≤ c ∧ c < 12) then -1 else if ¬ (0 ≤ w ∧ w ≤ 2) then -2 else if w = 2 then sumI (wsf C r n c w) 100 else sumI (wsb C r n c w) (if w = 0 then 6 else 10)
theorem dX6_isRow_0 : decode cX6_isRow 0 = .ok (.iconst 1, 1) := by decide +kernel
theorem dX6_isRow_1 : decode cX6_isRow 1 = .ok (.istore_n 2, 1) := by decide +kernel
theorem dX6_isRow_2 : decode cX6_isRow 2 = .ok (.iconst 0, 1) := by decide +kernel
theorem dX6_isRow_3 : decode cX6_isRow 3 = .ok (.istore_n 3, 1) := by decide +kernel
theorem dX6_isRow_4 : decode cX6_isRow 4 = .ok (.iload_n 3, 1) := by decide +kernel
theorem dX6_isRow_5 : decode cX6_isRow 5 = .ok (.aload_n 0, 1) := by decide +kernel
theorem dX6_isRow_6 : decode cX6_isRow 6 = .ok (.getfield 295, 3) := by decide +kernel
theorem dX6_isRow_9 : decode cX6_isRow 9 = .ok (.if_icmp .ge 42, 3) := by decide +kernel
theorem dX6_isRow_12 : decode cX6_isRow 12 = .ok (.iload_n 2, 1) := by decide +kernel
theorem dX6_isRow_13 : decode cX6_isRow 13 = .ok (.ifCond .eq 38, 3) := by decide +kernel
theorem dX6_isRow_16 : decode cX6_isRow 16 = .ok (.iload_n 3, 1) := by decide +kernel
theorem dX6_isRow_17 : decode cX6_isRow 17 = .ok (.ifCond .le 7, 3) := by decide +kernel
theorem dX6_isRow_20 : decode cX6_isRow 20 = .ok (.aload_n 0, 1) := by decide +kernel
theorem dX6_isRow_21 : decode cX6_isRow 21 = .ok (.invokevirtual 131, 3) := by decide +kernel
theorem dX6_isRow_24 : decode cX6_isRow 24 = .ok (.aload_n 0, 1) := by decide +kernel
theorem dX6_isRow_25 : decode cX6_isRow 25 = .ok (.getfield 19, 3) := by decide +kernel
theorem dX6_isRow_28 : decode cX6_isRow 28 = .ok (.iload_n 1, 1) := by decide +kernel
theorem dX6_isRow_29 : decode cX6_isRow 29 = .ok (.iaload, 1) := by decide +kernel
theorem dX6_isRow_30 : decode cX6_isRow 30 = .ok (.aload_n 0, 1) := by decide +kernel
theorem dX6_isRow_31 : decode cX6_isRow 31 = .ok (.getfield 79, 3) := by decide +kernel
theorem dX6_isRow_34 : decode cX6_isRow 34 = .ok (.iload_n 3, 1) := by decide +kernel
theorem dX6_isRow_35 : decode cX6_isRow 35 = .ok (.iaload, 1) := by decide +kernel
theorem dX6_isRow_36 : decode cX6_isRow 36 = .ok (.if_icmp .ne 7, 3) := by decide +kernel
theorem dX6_isRow_39 : decode cX6_isRow 39 = .ok (.iconst 1, 1) := by decide +kernel
theorem dX6_isRow_40 : decode cX6_isRow 40 = .ok (.goto 4, 3) := by decide +kernel
theorem dX6_isRow_43 : decode cX6_isRow 43 = .ok (.iconst 0, 1) := by decide +kernel
theorem dX6_isRow_44 : decode cX6_isRow 44 = .ok (.istore_n 2, 1) := by decide +kernel
theorem dX6_isRow_45 : decode cX6_isRow 45 = .ok (.iinc 3 1, 3) := by decide +kernel
theorem dX6_isRow_48 : decode cX6_isRow 48 = .ok (.goto (-44), 3) := by decide +kernel
theorem dX6_isRow_51 : decode cX6_isRow 51 = .ok (.aload_n 0, 1) := by decide +kernel
theorem dX6_isRow_52 : decode cX6_isRow 52 = .ok (.invokevirtual 197, 3) := by decide +kernel
theorem dX6_isRow_55 : decode cX6_isRow 55 = .ok (.iload_n 2, 1) := by decide +kernel
theorem dX6_isRow_56 : decode cX6_isRow 56 = .ok (.ireturn, 1) := by decide +kernel
set_option maxRecDepth 100000 in
set_option maxHeartbeats 4000000 in
theorem k_X6_isRow (κ : Kp) (ma : Nat → Nat) (M M0 : MS) (c : Int) (h0 : 0 ≤ c ∧ c < 12) (hy : M 4 0 ≤ 990000) (ok : okC (cl M)) (hn : 0 ≤ M 38 0 ∧ M 38 0 ≤ 12) (hro : ∀ j : Int, 0 ≤ j → j < 12 → 0 ≤ M 37 j ∧ M 37 j ≤ 99) (hS : ∀ z : Int, 0 ≤ z → z < 74 → M 20 z = snapF M0 z) : mI κ yX6_isRow cX6_isRow 4 .boolean 4 [.ref (ma 100), .int (iI c)] (mw κ ma M) (is1 (iI (b2i (rowI (cl M) (M 37) c (M 38 0)))) (mw κ ma (agn M M0))) := by
  refine mI_of (by decide) (Nat.le_of_ble_eq_true rfl) (fun E F K => ?_)
  refine g_lv (lv' := [(0, .ref (ma 100)), (1, .int (iI c))]) rfl ?_
  refine g_iconst F dX6_isRow_0 ?_
  refine g_istore_n F (lv' := [(2, .int (iI 1)), (0, .ref (ma 100)), (1, .int (iI c))]) 2 dX6_isRow_1 rfl (by decide) rfl ?_
  refine g_iconst F dX6_isRow_2 ?_
  refine g_istore_n F (lv' := [(3, .int (iI 0)), (2, .int (iI 1)), (0, .ref (ma 100)), (1, .int (iI c))]) 3 dX6_isRow_3 rfl (by decide) rfl ?_
  have L4 : ∀ (mz4 : Nat) (k : Int) (f : Int) (jj : Int), (M 38 0 - k).toNat = mz4 → (0 ≤ k ∧ k ≤ M 38 0) → ((k = 0 ∧ jj = 0) ∨ (0 < k ∧ jj = k - 1)) → (0 ≤ f ∧ f ≤ 1) → (f = b2i (rowI (cl M) (M 37) c k)) → G E (mw κ ma (stC M (goI jj (cl M)))) [(3, .int (iI k)), (2, .int (iI f)), (0, .ref (ma 100)), (1, .int (iI c))] 4 [] := by
    intro mz4
    induction mz4 using Nat.strongRecOn with
    | _ mz4 ih4 =>
    intro k f jj hmz4 hk hj hfb hf
    refine g_iload_n F 0 dX6_isRow_4 rfl ?_
    refine g_aload_n F 2 dX6_isRow_5 rfl ?_
    refine gm_get_38 F dX6_isRow_6 ?_
    refine g_top (y := iI (M 38 0)) rfl ?_
    refine g_icmp_ge F 51 (by omega) dX6_isRow_9 (by decide) (fun c9 => ?_) (fun c9 => ?_)
    · skip
      refine g_aload_n F 2 dX6_isRow_51 rfl ?_
      refine g_callV F (stk := [.ref (ma 100)]) (st := []) (k_X6_again κ ma (stC M (goI jj (cl M))) M0 hS) cal_X6_again lm_X6_197 0 rfl rfl rfl rfl (by decide) rfl (Nat.le_of_ble_eq_true rfl) dX6_isRow_52 (fun ws52 _ hr52 => ?_)
      obtain rfl := hr52
      refine g_iload_n F 1 dX6_isRow_55 rfl ?_
      exact K mw_same ⟨iIc (by rw [hf]; first | rw [show k = M 38 0 by omega] | (have q : ¬ rowI (cl M) (M 37) c k := b2i_f (by rw [← hf]; exact c13); have q2 := rowI_out (cl M) (M 37) c hk.1 hk.2 q; unfold b2i; rw [if_neg q, if_neg q2])), by rw [agn_stC]⟩ (by rcases (show f = 0 ∨ f = 1 by omega) with q | q <;> rw [q] <;> decide +kernel) dX6_isRow_56
    · skip
      refine g_iload_n F 1 dX6_isRow_12 rfl ?_
      refine g_if_eq F 51 (by omega) dX6_isRow_13 (by decide) (fun c13 => ?_) (fun c13 => ?_)
      · skip
        refine g_aload_n F 2 dX6_isRow_51 rfl ?_
        refine g_callV F (stk := [.ref (ma 100)]) (st := []) (k_X6_again κ ma (stC M (goI jj (cl M))) M0 hS) cal_X6_again lm_X6_197 0 rfl rfl rfl rfl (by decide) rfl (Nat.le_of_ble_eq_true rfl) dX6_isRow_52 (fun ws52 _ hr52 => ?_)
        obtain rfl := hr52
        refine g_iload_n F 1 dX6_isRow_55 rfl ?_
        exact K mw_same ⟨iIc (by rw [hf]; first | rw [show k = M 38 0 by omega] | (have q : ¬ rowI (cl M) (M 37) c k := b2i_f (by rw [← hf]; exact c13); have q2 := rowI_out (cl M) (M 37) c hk.1 hk.2 q; unfold b2i; rw [if_neg q, if_neg q2])), by rw [agn_stC]⟩ (by rcases (show f = 0 ∨ f = 1 by omega) with q | q <;> rw [q] <;> decide +kernel) dX6_isRow_56
      · skip
        have hfr : rowI (cl M) (M 37) c k := b2i_t (by rw [← hf]; exact c13)
        refine g_iload_n F 0 dX6_isRow_16 rfl ?_
        refine g_if_le F 24 (by omega) dX6_isRow_17 (by decide) (fun c17 => ?_) (fun c17 => ?_)
        · skip
          refine g_aload_n F 2 dX6_isRow_24 rfl ?_
          refine g_ws (ws' := mw κ ma (stC M (goI k (cl M)))) (by first | rw [show k = jj + 1 by omega, goI_s (by omega)] | rw [show jj = k by omega]) ?_
          refine gm_get_3 F dX6_isRow_25 ?_
          refine g_iload_n F 3 dX6_isRow_28 rfl ?_
          refine gm_ald_3 F (by omega) dX6_isRow_29 ?_
          refine g_top (y := iI ((we (goI k (cl M))) c)) rfl ?_
          have h1 := (goI_ok ok k).w c h0.1 h0.2
          have h2 := hro k hk.1 (by omega)
          refine g_aload_n F 2 dX6_isRow_30 rfl ?_
          refine gm_get_37 F dX6_isRow_31 ?_
          refine g_iload_n F 0 dX6_isRow_34 rfl ?_
          refine gm_ald_37 F (by omega) dX6_isRow_35 ?_
          refine g_top (y := iI (M 37 k)) rfl ?_
          refine g_icmp_ne F 43 (by omega) dX6_isRow_36 (by decide) (fun c36 => ?_) (fun c36 => ?_)
          · skip
            refine g_iconst F dX6_isRow_43 ?_
            refine g_istore_n F (lv' := [(2, .int (iI 0)), (3, .int (iI k)), (0, .ref (ma 100)), (1, .int (iI c))]) 2 dX6_isRow_44 rfl (by decide) rfl ?_
            refine g_iinc F (lv' := [(3, .int (iI (k + 1))), (2, .int (iI 0)), (0, .ref (ma 100)), (1, .int (iI c))]) 1 dX6_isRow_45 rfl (by decide) rfl ?_
            refine g_goto F 4 dX6_isRow_48 (by decide) ?_
            refine g_sub F (lv' := [(3, .int (iI (k + 1))), (2, .int (iI 0)), (0, .ref (ma 100)), (1, .int (iI c))]) [0, 1, 2, 3] rfl ?_
            exact ih4 _ (by omega) (k + 1) 0 k rfl (by omega) (by omega) (by omega) (by unfold b2i; first | rw [if_pos ((rowI_s _ _ _ hk.1).mpr ⟨hfr, c36⟩)] | rw [if_neg (fun q => c36 ((rowI_s _ _ _ hk.1).mp q).2)])
          · skip
            refine g_iconst F dX6_isRow_39 ?_
            refine g_goto F 44 dX6_isRow_40 (by decide) ?_
            refine g_istore_n F (lv' := [(2, .int (iI 1)), (3, .int (iI k)), (0, .ref (ma 100)), (1, .int (iI c))]) 2 dX6_isRow_44 rfl (by decide) rfl ?_
            refine g_iinc F (lv' := [(3, .int (iI (k + 1))), (2, .int (iI 1)), (0, .ref (ma 100)), (1, .int (iI c))]) 1 dX6_isRow_45 rfl (by decide) rfl ?_
            refine g_goto F 4 dX6_isRow_48 (by decide) ?_
            refine g_sub F (lv' := [(3, .int (iI (k + 1))), (2, .int (iI 1)), (0, .ref (ma 100)), (1, .int (iI c))]) [0, 1, 2, 3] rfl ?_
            exact ih4 _ (by omega) (k + 1) 1 k rfl (by omega) (by omega) (by omega) (by unfold b2i; first | rw [if_pos ((rowI_s _ _ _ hk.1).mpr ⟨hfr, c36⟩)] | rw [if_neg (fun q => c36 ((rowI_s _ _ _ hk.1).mp q).2)])
        · skip
          refine g_aload_n F 2 dX6_isRow_20 rfl ?_
          refine g_callV F (stk := [.ref (ma 100)]) (st := []) (k_X6_yearOn κ ma (stC M (goI jj (cl M))) (goI_yrM (by omega) (by omega)) (goI_ok ok jj)) cal_X6_yearOn lm_X6_131 0 rfl rfl rfl rfl (by decide) rfl (Nat.le_of_ble_eq_true rfl) dX6_isRow_21 (fun ws21 _ hr21 => ?_)
          obtain rfl := hr21
          refine g_ws (ws' := mw κ ma (stC M (yearOn (goI jj (cl M))))) rfl ?_
          refine g_aload_n F 2 dX6_isRow_24 rfl ?_
          refine g_ws (ws' := mw κ ma (stC M (goI k (cl M)))) (by first | rw [show k = jj + 1 by omega, goI_s (by omega)] | rw [show jj = k by omega]) ?_
          refine gm_get_3 F dX6_isRow_25 ?_
          refine g_iload_n F 3 dX6_isRow_28 rfl ?_
          refine gm_ald_3 F (by omega) dX6_isRow_29 ?_
          refine g_top (y := iI ((we (goI k (cl M))) c)) rfl ?_
          have h1 := (goI_ok ok k).w c h0.1 h0.2
          have h2 := hro k hk.1 (by omega)
          refine g_aload_n F 2 dX6_isRow_30 rfl ?_
          refine gm_get_37 F dX6_isRow_31 ?_
          refine g_iload_n F 0 dX6_isRow_34 rfl ?_
          refine gm_ald_37 F (by omega) dX6_isRow_35 ?_
          refine g_top (y := iI (M 37 k)) rfl ?_
          refine g_icmp_ne F 43 (by omega) dX6_isRow_36 (by decide) (fun c36 => ?_) (fun c36 => ?_)
          · skip
            refine g_iconst F dX6_isRow_43 ?_
            refine g_istore_n F (lv' := [(2, .int (iI 0)), (3, .int (iI k)), (0, .ref (ma 100)), (1, .int (iI c))]) 2 dX6_isRow_44 rfl (by decide) rfl ?_
            refine g_iinc F (lv' := [(3, .int (iI (k + 1))), (2, .int (iI 0)), (0, .ref (ma 100)), (1, .int (iI c))]) 1 dX6_isRow_45 rfl (by decide) rfl ?_
            refine g_goto F 4 dX6_isRow_48 (by decide) ?_
            refine g_sub F (lv' := [(3, .int (iI (k + 1))), (2, .int (iI 0)), (0, .ref (ma 100)), (1, .int (iI c))]) [0, 1, 2, 3] rfl ?_
            exact ih4 _ (by omega) (k + 1) 0 k rfl (by omega) (by omega) (by omega) (by unfold b2i; first | rw [if_pos ((rowI_s _ _ _ hk.1).mpr ⟨hfr, c36⟩)] | rw [if_neg (fun q => c36 ((rowI_s _ _ _ hk.1).mp q).2)])
          · skip
            refine g_iconst F dX6_isRow_39 ?_
            refine g_goto F 44 dX6_isRow_40 (by decide) ?_
            refine g_istore_n F (lv' := [(2, .int (iI 1)), (3, .int (iI k)), (0, .ref (ma 100)), (1, .int (iI c))]) 2 dX6_isRow_44 rfl (by decide) rfl ?_
            refine g_iinc F (lv' := [(3, .int (iI (k + 1))), (2, .int (iI 1)), (0, .ref (ma 100)), (1, .int (iI c))]) 1 dX6_isRow_45 rfl (by decide) rfl ?_
            refine g_goto F 4 dX6_isRow_48 (by decide) ?_
            refine g_sub F (lv' := [(3, .int (iI (k + 1))), (2, .int (iI 1)), (0, .ref (ma 100)), (1, .int (iI c))]) [0, 1, 2, 3] rfl ?_
            exact ih4 _ (by omega) (k + 1) 1 k rfl (by omega) (by omega) (by omega) (by unfold b2i; first | rw [if_pos ((rowI_s _ _ _ hk.1).mpr ⟨hfr, c36⟩)] | rw [if_neg (fun q => c36 ((rowI_s _ _ _ hk.1).mp q).2)])
  refine g_sub F (lv' := [(3, .int (iI 0)), (2, .int (iI 1)), (0, .ref (ma 100)), (1, .int (iI c))]) [0, 1, 2, 3] rfl ?_
  refine g_ws (ws' := mw κ ma (stC M (goI 0 (cl M)))) rfl ?_
  exact L4 _ 0 1 0 rfl (by omega) (by omega) (by omega) (by unfold b2i; rw [if_pos (rowI_0 _ _ _)])
theorem dX6_whose_0 : decode cX6_whose 0 = .ok (.aload_n 0, 1) := by decide +kernel
theorem dX6_whose_1 : decode cX6_whose 1 = .ok (.iconst 0, 1) := by decide +kernel
theorem dX6_whose_2 : decode cX6_whose 2 = .ok (.putfield 91, 3) := by decide +kernel
theorem dX6_whose_5 : decode cX6_whose 5 = .ok (.iload_n 1, 1) := by decide +kernel
theorem dX6_whose_6 : decode cX6_whose 6 = .ok (.invokestatic 222, 3) := by decide +kernel
theorem dX6_whose_9 : decode cX6_whose 9 = .ok (.ifCond .eq 7, 3) := by decide +kernel
theorem dX6_whose_12 : decode cX6_whose 12 = .ok (.iconst 0, 1) := by decide +kernel
theorem dX6_whose_13 : decode cX6_whose 13 = .ok (.goto 4, 3) := by decide +kernel
theorem dX6_whose_16 : decode cX6_whose 16 = .ok (.iconst (-1), 1) := by decide +kernel
theorem dX6_whose_17 : decode cX6_whose 17 = .ok (.iload_n 2, 1) := by decide +kernel
theorem dX6_whose_18 : decode cX6_whose 18 = .ok (.iconst 2, 1) := by decide +kernel
theorem dX6_whose_19 : decode cX6_whose 19 = .ok (.invokestatic 247, 3) := by decide +kernel
theorem dX6_whose_22 : decode cX6_whose 22 = .ok (.istore_n 3, 1) := by decide +kernel
theorem dX6_whose_23 : decode cX6_whose 23 = .ok (.iload_n 3, 1) := by decide +kernel
theorem dX6_whose_24 : decode cX6_whose 24 = .ok (.ifCond .ge 9, 3) := by decide +kernel
theorem dX6_whose_27 : decode cX6_whose 27 = .ok (.aload_n 0, 1) := by decide +kernel
theorem dX6_whose_28 : decode cX6_whose 28 = .ok (.iload_n 3, 1) := by decide +kernel
theorem dX6_whose_29 : decode cX6_whose 29 = .ok (.invokevirtual 138, 3) := by decide +kernel
theorem dX6_whose_32 : decode cX6_whose 32 = .ok (.ireturn, 1) := by decide +kernel
theorem dX6_whose_33 : decode cX6_whose 33 = .ok (.iconst 0, 1) := by decide +kernel
theorem dX6_whose_34 : decode cX6_whose 34 = .ok (.istore 4, 2) := by decide +kernel
theorem dX6_whose_36 : decode cX6_whose 36 = .ok (.iconst 0, 1) := by decide +kernel
theorem dX6_whose_37 : decode cX6_whose 37 = .ok (.istore 5, 2) := by decide +kernel
theorem dX6_whose_39 : decode cX6_whose 39 = .ok (.aload_n 0, 1) := by decide +kernel
theorem dX6_whose_40 : decode cX6_whose 40 = .ok (.invokevirtual 191, 3) := by decide +kernel
theorem dX6_whose_43 : decode cX6_whose 43 = .ok (.iconst 0, 1) := by decide +kernel
theorem dX6_whose_44 : decode cX6_whose 44 = .ok (.istore 6, 2) := by decide +kernel
theorem dX6_whose_46 : decode cX6_whose 46 = .ok (.iload 6, 2) := by decide +kernel
theorem dX6_whose_48 : decode cX6_whose 48 = .ok (.iload_n 2, 1) := by decide +kernel
theorem dX6_whose_49 : decode cX6_whose 49 = .ok (.ifCond .ne 8, 3) := by decide +kernel
theorem dX6_whose_52 : decode cX6_whose 52 = .ok (.bipush 6, 2) := by decide +kernel
theorem dX6_whose_54 : decode cX6_whose 54 = .ok (.goto 15, 3) := by decide +kernel
theorem dX6_whose_57 : decode cX6_whose 57 = .ok (.iload_n 2, 1) := by decide +kernel
theorem dX6_whose_58 : decode cX6_whose 58 = .ok (.iconst 1, 1) := by decide +kernel
theorem dX6_whose_59 : decode cX6_whose 59 = .ok (.if_icmp .ne 8, 3) := by decide +kernel
theorem dX6_whose_62 : decode cX6_whose 62 = .ok (.bipush 10, 2) := by decide +kernel
theorem dX6_whose_64 : decode cX6_whose 64 = .ok (.goto 5, 3) := by decide +kernel
theorem dX6_whose_67 : decode cX6_whose 67 = .ok (.bipush 100, 2) := by decide +kernel
theorem dX6_whose_69 : decode cX6_whose 69 = .ok (.if_icmp .ge 119, 3) := by decide +kernel
theorem dX6_whose_72 : decode cX6_whose 72 = .ok (.aload_n 0, 1) := by decide +kernel
theorem dX6_whose_73 : decode cX6_whose 73 = .ok (.getfield 7, 3) := by decide +kernel
theorem dX6_whose_76 : decode cX6_whose 76 = .ok (.iload_n 1, 1) := by decide +kernel
theorem dX6_whose_77 : decode cX6_whose 77 = .ok (.iload_n 2, 1) := by decide +kernel
theorem dX6_whose_78 : decode cX6_whose 78 = .ok (.ifCond .ne 8, 3) := by decide +kernel
theorem dX6_whose_81 : decode cX6_whose 81 = .ok (.iload 6, 2) := by decide +kernel
theorem dX6_whose_83 : decode cX6_whose 83 = .ok (.goto 9, 3) := by decide +kernel
theorem dX6_whose_86 : decode cX6_whose 86 = .ok (.aload_n 0, 1) := by decide +kernel
theorem dX6_whose_87 : decode cX6_whose 87 = .ok (.getfield 7, 3) := by decide +kernel
theorem dX6_whose_90 : decode cX6_whose 90 = .ok (.iload_n 1, 1) := by decide +kernel
theorem dX6_whose_91 : decode cX6_whose 91 = .ok (.iaload, 1) := by decide +kernel
theorem dX6_whose_92 : decode cX6_whose 92 = .ok (.iastore, 1) := by decide +kernel
theorem dX6_whose_93 : decode cX6_whose 93 = .ok (.aload_n 0, 1) := by decide +kernel
theorem dX6_whose_94 : decode cX6_whose 94 = .ok (.getfield 13, 3) := by decide +kernel
theorem dX6_whose_97 : decode cX6_whose 97 = .ok (.iload_n 1, 1) := by decide +kernel
theorem dX6_whose_98 : decode cX6_whose 98 = .ok (.iload_n 2, 1) := by decide +kernel
theorem dX6_whose_99 : decode cX6_whose 99 = .ok (.iconst 1, 1) := by decide +kernel
theorem dX6_whose_100 : decode cX6_whose 100 = .ok (.if_icmp .ne 8, 3) := by decide +kernel
theorem dX6_whose_103 : decode cX6_whose 103 = .ok (.iload 6, 2) := by decide +kernel
theorem dX6_whose_105 : decode cX6_whose 105 = .ok (.goto 9, 3) := by decide +kernel
theorem dX6_whose_108 : decode cX6_whose 108 = .ok (.aload_n 0, 1) := by decide +kernel
theorem dX6_whose_109 : decode cX6_whose 109 = .ok (.getfield 13, 3) := by decide +kernel
theorem dX6_whose_112 : decode cX6_whose 112 = .ok (.iload_n 1, 1) := by decide +kernel
theorem dX6_whose_113 : decode cX6_whose 113 = .ok (.iaload, 1) := by decide +kernel
theorem dX6_whose_114 : decode cX6_whose 114 = .ok (.iastore, 1) := by decide +kernel
theorem dX6_whose_115 : decode cX6_whose 115 = .ok (.aload_n 0, 1) := by decide +kernel
theorem dX6_whose_116 : decode cX6_whose 116 = .ok (.getfield 16, 3) := by decide +kernel
theorem dX6_whose_119 : decode cX6_whose 119 = .ok (.iload_n 1, 1) := by decide +kernel
theorem dX6_whose_120 : decode cX6_whose 120 = .ok (.iload_n 2, 1) := by decide +kernel
theorem dX6_whose_121 : decode cX6_whose 121 = .ok (.iconst 2, 1) := by decide +kernel
theorem dX6_whose_122 : decode cX6_whose 122 = .ok (.if_icmp .ne 8, 3) := by decide +kernel
theorem dX6_whose_125 : decode cX6_whose 125 = .ok (.iload 6, 2) := by decide +kernel
theorem dX6_whose_127 : decode cX6_whose 127 = .ok (.goto 9, 3) := by decide +kernel
theorem dX6_whose_130 : decode cX6_whose 130 = .ok (.aload_n 0, 1) := by decide +kernel
theorem dX6_whose_131 : decode cX6_whose 131 = .ok (.getfield 16, 3) := by decide +kernel
theorem dX6_whose_134 : decode cX6_whose 134 = .ok (.iload_n 1, 1) := by decide +kernel
theorem dX6_whose_135 : decode cX6_whose 135 = .ok (.iaload, 1) := by decide +kernel
theorem dX6_whose_136 : decode cX6_whose 136 = .ok (.iastore, 1) := by decide +kernel
theorem dX6_whose_137 : decode cX6_whose 137 = .ok (.aload_n 0, 1) := by decide +kernel
theorem dX6_whose_138 : decode cX6_whose 138 = .ok (.iload_n 1, 1) := by decide +kernel
theorem dX6_whose_139 : decode cX6_whose 139 = .ok (.invokevirtual 298, 3) := by decide +kernel
theorem dX6_whose_142 : decode cX6_whose 142 = .ok (.istore 7, 2) := by decide +kernel
theorem dX6_whose_144 : decode cX6_whose 144 = .ok (.iload 4, 2) := by decide +kernel
theorem dX6_whose_146 : decode cX6_whose 146 = .ok (.iload 7, 2) := by decide +kernel
theorem dX6_whose_148 : decode cX6_whose 148 = .ok (.ifCond .eq 15, 3) := by decide +kernel
theorem dX6_whose_151 : decode cX6_whose 151 = .ok (.iload_n 2, 1) := by decide +kernel
theorem dX6_whose_152 : decode cX6_whose 152 = .ok (.iconst 2, 1) := by decide +kernel
theorem dX6_whose_153 : decode cX6_whose 153 = .ok (.if_icmp .ge 10, 3) := by decide +kernel
theorem dX6_whose_156 : decode cX6_whose 156 = .ok (.iconst 1, 1) := by decide +kernel
theorem dX6_whose_157 : decode cX6_whose 157 = .ok (.iload 6, 2) := by decide +kernel
theorem dX6_whose_159 : decode cX6_whose 159 = .ok (.ishl, 1) := by decide +kernel
theorem dX6_whose_160 : decode cX6_whose 160 = .ok (.goto 4, 3) := by decide +kernel
theorem dX6_whose_163 : decode cX6_whose 163 = .ok (.iconst 0, 1) := by decide +kernel
theorem dX6_whose_164 : decode cX6_whose 164 = .ok (.ior, 1) := by decide +kernel
theorem dX6_whose_165 : decode cX6_whose 165 = .ok (.istore 4, 2) := by decide +kernel
theorem dX6_whose_167 : decode cX6_whose 167 = .ok (.iload 5, 2) := by decide +kernel
theorem dX6_whose_169 : decode cX6_whose 169 = .ok (.iload 7, 2) := by decide +kernel
theorem dX6_whose_171 : decode cX6_whose 171 = .ok (.ifCond .eq 7, 3) := by decide +kernel
theorem dX6_whose_174 : decode cX6_whose 174 = .ok (.iconst 1, 1) := by decide +kernel
theorem dX6_whose_175 : decode cX6_whose 175 = .ok (.goto 4, 3) := by decide +kernel
theorem dX6_whose_178 : decode cX6_whose 178 = .ok (.iconst 0, 1) := by decide +kernel
theorem dX6_whose_179 : decode cX6_whose 179 = .ok (.iadd, 1) := by decide +kernel
theorem dX6_whose_180 : decode cX6_whose 180 = .ok (.istore 5, 2) := by decide +kernel
theorem dX6_whose_182 : decode cX6_whose 182 = .ok (.iinc 6 1, 3) := by decide +kernel
theorem dX6_whose_185 : decode cX6_whose 185 = .ok (.goto (-139), 3) := by decide +kernel
theorem dX6_whose_188 : decode cX6_whose 188 = .ok (.iload_n 2, 1) := by decide +kernel
theorem dX6_whose_189 : decode cX6_whose 189 = .ok (.iconst 2, 1) := by decide +kernel
theorem dX6_whose_190 : decode cX6_whose 190 = .ok (.if_icmp .ne 8, 3) := by decide +kernel
theorem dX6_whose_193 : decode cX6_whose 193 = .ok (.iload 5, 2) := by decide +kernel
theorem dX6_whose_195 : decode cX6_whose 195 = .ok (.goto 5, 3) := by decide +kernel
theorem dX6_whose_198 : decode cX6_whose 198 = .ok (.iload 4, 2) := by decide +kernel
theorem dX6_whose_200 : decode cX6_whose 200 = .ok (.ireturn, 1) := by decide +kernel
set_option maxRecDepth 100000 in
set_option maxHeartbeats 4000000 in
theorem k_X6_whose (κ : Kp) (ma : Nat → Nat) (M : MS) (c : Int) (w : Int)  (ha_c : In32 c) (ha_w : In32 w) (ok : okC (cl M)) (hy : M 4 0 ≤ 999) (hn : 0 ≤ M 38 0 ∧ M 38 0 ≤ 12) (hro : ∀ j : Int, 0 ≤ j → j < 12 → 0 ≤ M 37 j ∧ M 37 j ≤ 99) : mI κ yX6_whose cX6_whose 8 .int 5 [.ref (ma 100), .int (iI c), .int (iI w)] (mw κ ma M) (qM κ ma M (qWhose (cl M) (M 37) (M 38 0) c w)) := by
  refine mI_of (by decide) (Nat.le_of_ble_eq_true rfl) (fun E F K => ?_)
  refine g_lv (lv' := [(0, .ref (ma 100)), (1, .int (iI c)), (2, .int (iI w))]) rfl ?_
  refine g_aload_n F 0 dX6_whose_0 rfl ?_
  refine g_iconst F dX6_whose_1 ?_
  refine gm_put_10 F dX6_whose_2 ?_
  refine g_iload_n F 1 dX6_whose_5 rfl ?_
  refine g_callSI F (stk := [.int (iI c)]) (st := []) (k_X6_isCell κ (mw κ ma (mA M 10 (fun _ => 0))) c (by omega)) cal_X6_isCell lm_X6_222 rfl (by decide) rfl (Nat.le_of_ble_eq_true rfl) dX6_whose_6 (fun r6 ws6 _ hr6 => ?_)
  obtain ⟨rfl, rfl⟩ := hr6
  refine g_if_eq F 16 (b2i_in _) dX6_whose_9 (by decide) (fun c9 => ?_) (fun c9 => ?_)
  · skip
    have c9 : ¬ (0 ≤ c ∧ c < 12) := b2i_f c9
    refine g_iconst F dX6_whose_16 ?_
    refine g_iload_n F 2 dX6_whose_17 rfl ?_
    refine g_iconst F dX6_whose_18 ?_
    refine g_callSI F (stk := [.int (iI 2), .int (iI w), .int (iI (-1))]) (st := []) (k_X6_wrongBit κ (mw κ ma (mA M 10 (fun _ => 0))) (-1) w 2 (by omega)) cal_X6_wrongBit lm_X6_247 rfl (by decide) rfl (Nat.le_of_ble_eq_true rfl) dX6_whose_19 (fun r19 ws19 _ hr19 => ?_)
    obtain ⟨rfl, rfl⟩ := hr19
    have hwb19 := wb_spec (-1) w 2
    refine g_istore_n F (lv' := [(3, .int (iI (wbit (-1) w 2))), (0, .ref (ma 100)), (1, .int (iI c)), (2, .int (iI w))]) 3 dX6_whose_22 rfl (by decide) rfl ?_
    refine g_iload_n F 0 dX6_whose_23 rfl ?_
    refine g_if_ge F 33 (by omega) dX6_whose_24 (by decide) (fun c24 => ?_) (fun c24 => ?_)
    · skip
      refine g_iconst F dX6_whose_33 ?_
      refine g_istore F (lv' := [(4, .int (iI 0)), (3, .int (iI (wbit (-1) w 2))), (0, .ref (ma 100)), (1, .int (iI c)), (2, .int (iI w))]) dX6_whose_34 (by decide) rfl ?_
      refine g_iconst F dX6_whose_36 ?_
      refine g_istore F (lv' := [(5, .int (iI 0)), (4, .int (iI 0)), (3, .int (iI (wbit (-1) w 2))), (0, .ref (ma 100)), (1, .int (iI c)), (2, .int (iI w))]) dX6_whose_37 (by decide) rfl ?_
      refine g_aload_n F 3 dX6_whose_39 rfl ?_
      refine g_callV F (stk := [.ref (ma 100)]) (st := []) (k_X6_think κ ma (mA M 10 (fun _ => 0))) cal_X6_think lm_X6_191 0 rfl rfl rfl rfl (by decide) rfl (Nat.le_of_ble_eq_true rfl) dX6_whose_40 (fun ws40 _ hr40 => ?_)
      obtain rfl := hr40
      refine g_ws (ws' := mw κ ma (thk (mA M 10 (fun _ => 0)))) rfl ?_
      refine g_iconst F dX6_whose_43 ?_
      refine g_istore F (lv' := [(6, .int (iI 0)), (5, .int (iI 0)), (4, .int (iI 0)), (3, .int (iI (wbit (-1) w 2))), (0, .ref (ma 100)), (1, .int (iI c)), (2, .int (iI w))]) dX6_whose_44 (by decide) rfl ?_
      have L46 : ∀ (mz46 : Nat) (v : Int) (b : Int) (m : Int) (Gm : MS), (100 - v).toNat = mz46 → (0 ≤ v ∧ v ≤ 100 ∧ (w = 0 → v ≤ 6) ∧ (w = 1 → v ≤ 10)) → (b = if w = 2 then 0 else sumI (wsb (cl M) (M 37) (M 38 0) c w) v) → (0 ≤ b) → (m = sumI (wsf (cl M) (M 37) (M 38 0) c w) v) → (0 ≤ m ∧ m ≤ v) → G E (mw κ ma (tst M Gm)) [(6, .int (iI v)), (5, .int (iI m)), (4, .int (iI b)), (0, .ref (ma 100)), (1, .int (iI c)), (2, .int (iI w))] 46 [] := by
        intro mz46
        induction mz46 using Nat.strongRecOn with
        | _ mz46 ih46 =>
        intro v b m Gm hmz46 hv hb hb0 hm hmb
        refine g_iload F 0 dX6_whose_46 rfl ?_
        refine g_iload_n F 5 dX6_whose_48 rfl ?_
        refine g_if_ne F 57 (by omega) dX6_whose_49 (by decide) (fun c49 => ?_) (fun c49 => ?_)
        · skip
          refine g_iload_n F 5 dX6_whose_57 rfl ?_
          refine g_iconst F dX6_whose_58 ?_
          refine g_icmp_ne F 67 (by omega) dX6_whose_59 (by decide) (fun c59 => ?_) (fun c59 => ?_)
          · skip
            refine g_bipush F dX6_whose_67 (by decide +kernel) ?_
            refine g_icmp_ge F 188 (by omega) dX6_whose_69 (by decide) (fun c69 => ?_) (fun c69 => ?_)
            · skip
              have hbz : 0 ≤ b := hb0
              refine g_iload_n F 5 dX6_whose_188 rfl ?_
              refine g_iconst F dX6_whose_189 ?_
              refine g_icmp_ne F 198 (by omega) dX6_whose_190 (by decide) (fun c190 => ?_) (fun c190 => ?_)
              · skip
                refine g_iload F 2 dX6_whose_198 rfl ?_
                have hq : b = qWhose (cl M) (M 37) (M 38 0) c w := by unfold qWhose; rw [if_neg (by omega), if_neg (by omega)]; first | (exfalso; omega) | (rw [if_pos (by omega), hm, show v = 100 by omega]) | (rw [if_neg (by omega), hb, if_neg (by omega), show v = (if w = 0 then 6 else 10) by split <;> omega])
                exact K mw_same ⟨_, rfl, iIc hq, ⟨rfl, rfl, rfl, rfl, rfl, rfl, rfl, rfl, rfl, rfl, rfl, rfl, rfl, rfl, rfl, rfl, rfl, rfl⟩, (by rw [← hq]; show M 11 = _; exact (rfa_n (by omega)).symm)⟩ rfl dX6_whose_200
              · skip
                refine g_iload F 1 dX6_whose_193 rfl ?_
                refine g_goto F 200 dX6_whose_195 (by decide) ?_
                have hq : m = qWhose (cl M) (M 37) (M 38 0) c w := by unfold qWhose; rw [if_neg (by omega), if_neg (by omega)]; first | (exfalso; omega) | (rw [if_pos (by omega), hm, show v = 100 by omega]) | (rw [if_neg (by omega), hb, if_neg (by omega), show v = (if w = 0 then 6 else 10) by split <;> omega])
                exact K mw_same ⟨_, rfl, iIc hq, ⟨rfl, rfl, rfl, rfl, rfl, rfl, rfl, rfl, rfl, rfl, rfl, rfl, rfl, rfl, rfl, rfl, rfl, rfl⟩, (by rw [← hq]; show M 11 = _; exact (rfa_n (by omega)).symm)⟩ rfl dX6_whose_200
            · skip
              have hk : (0 ≤ M 0 c ∧ M 0 c ≤ 5) ∧ (0 ≤ M 1 c ∧ M 1 c ≤ 9) ∧ (0 ≤ M 2 c ∧ M 2 c ≤ 99) ∧ 0 ≤ M 3 c ∧ M 3 c ≤ 99 := ok.r (by omega) (by omega)
              refine g_aload_n F 3 dX6_whose_72 rfl ?_
              refine gm_get_0 F dX6_whose_73 ?_
              refine g_iload_n F 4 dX6_whose_76 rfl ?_
              refine g_iload_n F 5 dX6_whose_77 rfl ?_
              refine g_if_ne F 86 (by omega) dX6_whose_78 (by decide) (fun c78 => ?_) (fun c78 => ?_)
              · skip
                refine g_aload_n F 3 dX6_whose_86 rfl ?_
                refine gm_get_0 F dX6_whose_87 ?_
                refine g_iload_n F 4 dX6_whose_90 rfl ?_
                refine gm_ald_0 F (by omega) dX6_whose_91 ?_
                refine g_top (y := iI (M 0 c)) rfl ?_
                refine gm_ast_0 F (by omega) dX6_whose_92 ?_
                refine g_ws (ws' := mw κ ma (mA (tst M Gm) 0 (uI (M 0) c (M 0 c)))) rfl ?_
                refine g_aload_n F 3 dX6_whose_93 rfl ?_
                refine gm_get_1 F dX6_whose_94 ?_
                refine g_iload_n F 4 dX6_whose_97 rfl ?_
                refine g_iload_n F 5 dX6_whose_98 rfl ?_
                refine g_iconst F dX6_whose_99 ?_
                refine g_icmp_ne F 108 (by omega) dX6_whose_100 (by decide) (fun c100 => ?_) (fun c100 => ?_)
                · skip
                  refine g_aload_n F 3 dX6_whose_108 rfl ?_
                  refine gm_get_1 F dX6_whose_109 ?_
                  refine g_iload_n F 4 dX6_whose_112 rfl ?_
                  refine gm_ald_1 F (by omega) dX6_whose_113 ?_
                  refine g_top (y := iI (M 1 c)) rfl ?_
                  refine gm_ast_1 F (by omega) dX6_whose_114 ?_
                  refine g_ws (ws' := mw κ ma (mA (mA (tst M Gm) 0 (uI (M 0) c (M 0 c))) 1 (uI (M 1) c (M 1 c)))) rfl ?_
                  refine g_aload_n F 3 dX6_whose_115 rfl ?_
                  refine gm_get_2 F dX6_whose_116 ?_
                  refine g_iload_n F 4 dX6_whose_119 rfl ?_
                  refine g_iload_n F 5 dX6_whose_120 rfl ?_
                  refine g_iconst F dX6_whose_121 ?_
                  refine g_icmp_ne F 130 (by omega) dX6_whose_122 (by decide) (fun c122 => ?_) (fun c122 => ?_)
                  · skip
                    refine g_aload_n F 3 dX6_whose_130 rfl ?_
                    refine gm_get_2 F dX6_whose_131 ?_
                    refine g_iload_n F 4 dX6_whose_134 rfl ?_
                    refine gm_ald_2 F (by omega) dX6_whose_135 ?_
                    refine g_top (y := iI (M 2 c)) rfl ?_
                    refine gm_ast_2 F (by omega) dX6_whose_136 ?_
                    refine g_ws (ws' := mw κ ma (mA (mA (mA (tst M Gm) 0 (uI (M 0) c (M 0 c))) 1 (uI (M 1) c (M 1 c))) 2 (uI (M 2) c (M 2 c)))) rfl ?_
                    have hC : cl (mA (mA (mA (tst M Gm) 0 (uI (M 0) c (M 0 c))) 1 (uI (M 1) c (M 1 c))) 2 (uI (M 2) c (M 2 c))) = oth (cl M) w c v := by first | (exfalso; omega) | (rw [oth_0 (by omega)]; show (uI (M 0) c v, uI (M 1) c (M 1 c), uI (M 2) c (M 2 c), M 3, M 4 0) = (uI (M 0) c v, M 1, M 2, M 3, M 4 0); rw [uI_self, uI_self]) | (rw [oth_1 (by omega)]; show (uI (M 0) c (M 0 c), uI (M 1) c v, uI (M 2) c (M 2 c), M 3, M 4 0) = (M 0, uI (M 1) c v, M 2, M 3, M 4 0); rw [uI_self, uI_self]) | (rw [oth_2 (by omega) (by omega)]; show (uI (M 0) c (M 0 c), uI (M 1) c (M 1 c), uI (M 2) c v, M 3, M 4 0) = (M 0, M 1, uI (M 2) c v, M 3, M 4 0); rw [uI_self, uI_self])
                    have hbb : 0 ≤ b ∧ (w ≠ 2 → b < p2 v) := by have k := wsb_bd (cl M) (M 37) (M 38 0) c w hv.1; have p := p2_pos v; rw [hb]; split <;> omega
                    have hp2 := p2_pos v
                    refine g_aload_n F 3 dX6_whose_137 rfl ?_
                    refine g_iload_n F 4 dX6_whose_138 rfl ?_
                    refine g_callI F (stk := [.int (iI c), .ref (ma 100)]) (st := []) (k_X6_isRow κ ma (mA (mA (mA (tst M Gm) 0 (uI (M 0) c (M 0 c))) 1 (uI (M 1) c (M 1 c))) 2 (uI (M 2) c (M 2 c))) M c (by omega) (show M 4 0 ≤ 990000 by omega) (by rw [hC]; exact oth_ok ok (by omega)) hn hro (fun _ _ _ => rfl)) cal_X6_isRow lm_X6_298 0 rfl rfl rfl rfl (by decide) rfl (Nat.le_of_ble_eq_true rfl) dX6_whose_139 (fun r139 ws139 _ hr139 => ?_)
                    obtain ⟨rfl, rfl⟩ := hr139
                    refine g_top (y := iI (b2i (rowI (cl (mA (mA (mA (tst M Gm) 0 (uI (M 0) c (M 0 c))) 1 (uI (M 1) c (M 1 c))) 2 (uI (M 2) c (M 2 c)))) (M 37) c (M 38 0)))) rfl ?_
                    refine g_istore F (lv' := [(7, .int (iI (b2i (rowI (cl (mA (mA (mA (tst M Gm) 0 (uI (M 0) c (M 0 c))) 1 (uI (M 1) c (M 1 c))) 2 (uI (M 2) c (M 2 c)))) (M 37) c (M 38 0))))), (6, .int (iI v)), (5, .int (iI m)), (4, .int (iI b)), (0, .ref (ma 100)), (1, .int (iI c)), (2, .int (iI w))]) dX6_whose_142 (by decide) rfl ?_
                    refine g_iload F 3 dX6_whose_144 rfl ?_
                    refine g_iload F 0 dX6_whose_146 rfl ?_
                    refine g_if_eq F 163 (b2i_in _) dX6_whose_148 (by decide) (fun c148 => ?_) (fun c148 => ?_)
                    · skip
                      have c148 : ¬ (rowI (cl (mA (mA (mA (tst M Gm) 0 (uI (M 0) c (M 0 c))) 1 (uI (M 1) c (M 1 c))) 2 (uI (M 2) c (M 2 c)))) (M 37) c (M 38 0)) := b2i_f c148
                      refine g_iconst F dX6_whose_163 ?_
                      refine g_ior F dX6_whose_164 ?_
                      refine g_top (y := iI b) (by rw [iI_bor hbb.1 (by decide), bor_0 hbb.1]) ?_
                      refine g_istore F (lv' := [(4, .int (iI b)), (7, .int (iI (b2i (rowI (cl (mA (mA (mA (tst M Gm) 0 (uI (M 0) c (M 0 c))) 1 (uI (M 1) c (M 1 c))) 2 (uI (M 2) c (M 2 c)))) (M 37) c (M 38 0))))), (6, .int (iI v)), (5, .int (iI m)), (0, .ref (ma 100)), (1, .int (iI c)), (2, .int (iI w))]) dX6_whose_165 (by decide) rfl ?_
                      refine g_iload F 3 dX6_whose_167 rfl ?_
                      refine g_iload F 1 dX6_whose_169 rfl ?_
                      refine g_if_eq F 178 (b2i_in _) dX6_whose_171 (by decide) (fun c171 => ?_) (fun c171 => ?_)
                      · skip
                        have c171 : ¬ (rowI (cl (mA (mA (mA (tst M Gm) 0 (uI (M 0) c (M 0 c))) 1 (uI (M 1) c (M 1 c))) 2 (uI (M 2) c (M 2 c)))) (M 37) c (M 38 0)) := b2i_f c171
                        refine g_iconst F dX6_whose_178 ?_
                        refine g_iadd F dX6_whose_179 ?_
                        refine g_istore F (lv' := [(5, .int (iI (m + 0))), (4, .int (iI b)), (7, .int (iI (b2i (rowI (cl (mA (mA (mA (tst M Gm) 0 (uI (M 0) c (M 0 c))) 1 (uI (M 1) c (M 1 c))) 2 (uI (M 2) c (M 2 c)))) (M 37) c (M 38 0))))), (6, .int (iI v)), (0, .ref (ma 100)), (1, .int (iI c)), (2, .int (iI w))]) dX6_whose_180 (by decide) rfl ?_
                        refine g_iinc F (lv' := [(6, .int (iI (v + 1))), (5, .int (iI (m + 0))), (4, .int (iI b)), (7, .int (iI (b2i (rowI (cl (mA (mA (mA (tst M Gm) 0 (uI (M 0) c (M 0 c))) 1 (uI (M 1) c (M 1 c))) 2 (uI (M 2) c (M 2 c)))) (M 37) c (M 38 0))))), (0, .ref (ma 100)), (1, .int (iI c)), (2, .int (iI w))]) 3 dX6_whose_182 rfl (by decide) rfl ?_
                        refine g_goto F 46 dX6_whose_185 (by decide) ?_
                        refine g_sub F (lv' := [(6, .int (iI (v + 1))), (5, .int (iI (m + 0))), (4, .int (iI b)), (0, .ref (ma 100)), (1, .int (iI c)), (2, .int (iI w))]) [0, 1, 2, 4, 5, 6] rfl ?_
                        refine g_ws (ws' := mw κ ma (tst M (agn (mA (mA (mA (tst M Gm) 0 (uI (M 0) c (M 0 c))) 1 (uI (M 1) c (M 1 c))) 2 (uI (M 2) c (M 2 c))) M))) rfl ?_
                        exact ih46 _ (by omega) (v + 1) b (m + 0) (agn (mA (mA (mA (tst M Gm) 0 (uI (M 0) c (M 0 c))) 1 (uI (M 1) c (M 1 c))) 2 (uI (M 2) c (M 2 c))) M) rfl (by omega) (by first | (exfalso; omega) | (rw [if_pos (show w = 2 by omega)] at hb ⊢; omega) | (rw [if_neg (show ¬ w = 2 by omega)] at hb ⊢; rw [sumI_s _ hv.1, ← hb]; unfold wsb; first | rw [if_pos (by rw [← hC]; exact c148)] | (rw [if_neg (by rw [← hC]; exact c148)]; omega))) (by omega) (by first | (exfalso; omega) | (rw [sumI_s _ hv.1, ← hm]; unfold wsf; first | rw [if_pos (by rw [← hC]; exact c148)] | rw [if_neg (by rw [← hC]; exact c148)])) (by omega)
                      · skip
                        have c171 : rowI (cl (mA (mA (mA (tst M Gm) 0 (uI (M 0) c (M 0 c))) 1 (uI (M 1) c (M 1 c))) 2 (uI (M 2) c (M 2 c)))) (M 37) c (M 38 0) := b2i_t c171
                        exact absurd trivial (by omega)
                    · skip
                      have c148 : rowI (cl (mA (mA (mA (tst M Gm) 0 (uI (M 0) c (M 0 c))) 1 (uI (M 1) c (M 1 c))) 2 (uI (M 2) c (M 2 c)))) (M 37) c (M 38 0) := b2i_t c148
                      refine g_iload_n F 6 dX6_whose_151 rfl ?_
                      refine g_iconst F dX6_whose_152 ?_
                      refine g_icmp_ge F 163 (by omega) dX6_whose_153 (by decide) (fun c153 => ?_) (fun c153 => ?_)
                      · skip
                        refine g_iconst F dX6_whose_163 ?_
                        refine g_ior F dX6_whose_164 ?_
                        refine g_top (y := iI b) (by rw [iI_bor hbb.1 (by decide), bor_0 hbb.1]) ?_
                        refine g_istore F (lv' := [(4, .int (iI b)), (7, .int (iI (b2i (rowI (cl (mA (mA (mA (tst M Gm) 0 (uI (M 0) c (M 0 c))) 1 (uI (M 1) c (M 1 c))) 2 (uI (M 2) c (M 2 c)))) (M 37) c (M 38 0))))), (6, .int (iI v)), (5, .int (iI m)), (0, .ref (ma 100)), (1, .int (iI c)), (2, .int (iI w))]) dX6_whose_165 (by decide) rfl ?_
                        refine g_iload F 3 dX6_whose_167 rfl ?_
                        refine g_iload F 1 dX6_whose_169 rfl ?_
                        refine g_if_eq F 178 (b2i_in _) dX6_whose_171 (by decide) (fun c171 => ?_) (fun c171 => ?_)
                        · skip
                          have c171 : ¬ (rowI (cl (mA (mA (mA (tst M Gm) 0 (uI (M 0) c (M 0 c))) 1 (uI (M 1) c (M 1 c))) 2 (uI (M 2) c (M 2 c)))) (M 37) c (M 38 0)) := b2i_f c171
                          exact absurd trivial (by omega)
                        · skip
                          have c171 : rowI (cl (mA (mA (mA (tst M Gm) 0 (uI (M 0) c (M 0 c))) 1 (uI (M 1) c (M 1 c))) 2 (uI (M 2) c (M 2 c)))) (M 37) c (M 38 0) := b2i_t c171
                          refine g_iconst F dX6_whose_174 ?_
                          refine g_goto F 179 dX6_whose_175 (by decide) ?_
                          refine g_iadd F dX6_whose_179 ?_
                          refine g_istore F (lv' := [(5, .int (iI (m + 1))), (4, .int (iI b)), (7, .int (iI (b2i (rowI (cl (mA (mA (mA (tst M Gm) 0 (uI (M 0) c (M 0 c))) 1 (uI (M 1) c (M 1 c))) 2 (uI (M 2) c (M 2 c)))) (M 37) c (M 38 0))))), (6, .int (iI v)), (0, .ref (ma 100)), (1, .int (iI c)), (2, .int (iI w))]) dX6_whose_180 (by decide) rfl ?_
                          refine g_iinc F (lv' := [(6, .int (iI (v + 1))), (5, .int (iI (m + 1))), (4, .int (iI b)), (7, .int (iI (b2i (rowI (cl (mA (mA (mA (tst M Gm) 0 (uI (M 0) c (M 0 c))) 1 (uI (M 1) c (M 1 c))) 2 (uI (M 2) c (M 2 c)))) (M 37) c (M 38 0))))), (0, .ref (ma 100)), (1, .int (iI c)), (2, .int (iI w))]) 3 dX6_whose_182 rfl (by decide) rfl ?_
                          refine g_goto F 46 dX6_whose_185 (by decide) ?_
                          refine g_sub F (lv' := [(6, .int (iI (v + 1))), (5, .int (iI (m + 1))), (4, .int (iI b)), (0, .ref (ma 100)), (1, .int (iI c)), (2, .int (iI w))]) [0, 1, 2, 4, 5, 6] rfl ?_
                          refine g_ws (ws' := mw κ ma (tst M (agn (mA (mA (mA (tst M Gm) 0 (uI (M 0) c (M 0 c))) 1 (uI (M 1) c (M 1 c))) 2 (uI (M 2) c (M 2 c))) M))) rfl ?_
                          exact ih46 _ (by omega) (v + 1) b (m + 1) (agn (mA (mA (mA (tst M Gm) 0 (uI (M 0) c (M 0 c))) 1 (uI (M 1) c (M 1 c))) 2 (uI (M 2) c (M 2 c))) M) rfl (by omega) (by first | (exfalso; omega) | (rw [if_pos (show w = 2 by omega)] at hb ⊢; omega) | (rw [if_neg (show ¬ w = 2 by omega)] at hb ⊢; rw [sumI_s _ hv.1, ← hb]; unfold wsb; first | rw [if_pos (by rw [← hC]; exact c148)] | (rw [if_neg (by rw [← hC]; exact c148)]; omega))) (by omega) (by first | (exfalso; omega) | (rw [sumI_s _ hv.1, ← hm]; unfold wsf; first | rw [if_pos (by rw [← hC]; exact c148)] | rw [if_neg (by rw [← hC]; exact c148)])) (by omega)
                      · skip
                        refine g_iconst F dX6_whose_156 ?_
                        refine g_iload F 1 dX6_whose_157 rfl ?_
                        refine g_ishl F dX6_whose_159 ?_
                        refine g_top (y := iI (p2 v)) (iI_shl1 (by omega) (by omega)) ?_
                        refine g_goto F 164 dX6_whose_160 (by decide) ?_
                        refine g_ior F dX6_whose_164 ?_
                        refine g_top (y := iI (b + p2 v)) (by rw [iI_bor hbb.1 (by omega), bor_p2 hbb.1 (hbb.2 (by omega))]) ?_
                        refine g_istore F (lv' := [(4, .int (iI (b + p2 v))), (7, .int (iI (b2i (rowI (cl (mA (mA (mA (tst M Gm) 0 (uI (M 0) c (M 0 c))) 1 (uI (M 1) c (M 1 c))) 2 (uI (M 2) c (M 2 c)))) (M 37) c (M 38 0))))), (6, .int (iI v)), (5, .int (iI m)), (0, .ref (ma 100)), (1, .int (iI c)), (2, .int (iI w))]) dX6_whose_165 (by decide) rfl ?_
                        refine g_iload F 3 dX6_whose_167 rfl ?_
                        refine g_iload F 1 dX6_whose_169 rfl ?_
                        refine g_if_eq F 178 (b2i_in _) dX6_whose_171 (by decide) (fun c171 => ?_) (fun c171 => ?_)
                        · skip
                          have c171 : ¬ (rowI (cl (mA (mA (mA (tst M Gm) 0 (uI (M 0) c (M 0 c))) 1 (uI (M 1) c (M 1 c))) 2 (uI (M 2) c (M 2 c)))) (M 37) c (M 38 0)) := b2i_f c171
                          exact absurd trivial (by omega)
                        · skip
                          have c171 : rowI (cl (mA (mA (mA (tst M Gm) 0 (uI (M 0) c (M 0 c))) 1 (uI (M 1) c (M 1 c))) 2 (uI (M 2) c (M 2 c)))) (M 37) c (M 38 0) := b2i_t c171
                          refine g_iconst F dX6_whose_174 ?_
                          refine g_goto F 179 dX6_whose_175 (by decide) ?_
                          refine g_iadd F dX6_whose_179 ?_
                          refine g_istore F (lv' := [(5, .int (iI (m + 1))), (4, .int (iI (b + p2 v))), (7, .int (iI (b2i (rowI (cl (mA (mA (mA (tst M Gm) 0 (uI (M 0) c (M 0 c))) 1 (uI (M 1) c (M 1 c))) 2 (uI (M 2) c (M 2 c)))) (M 37) c (M 38 0))))), (6, .int (iI v)), (0, .ref (ma 100)), (1, .int (iI c)), (2, .int (iI w))]) dX6_whose_180 (by decide) rfl ?_
                          refine g_iinc F (lv' := [(6, .int (iI (v + 1))), (5, .int (iI (m + 1))), (4, .int (iI (b + p2 v))), (7, .int (iI (b2i (rowI (cl (mA (mA (mA (tst M Gm) 0 (uI (M 0) c (M 0 c))) 1 (uI (M 1) c (M 1 c))) 2 (uI (M 2) c (M 2 c)))) (M 37) c (M 38 0))))), (0, .ref (ma 100)), (1, .int (iI c)), (2, .int (iI w))]) 3 dX6_whose_182 rfl (by decide) rfl ?_
                          refine g_goto F 46 dX6_whose_185 (by decide) ?_
                          refine g_sub F (lv' := [(6, .int (iI (v + 1))), (5, .int (iI (m + 1))), (4, .int (iI (b + p2 v))), (0, .ref (ma 100)), (1, .int (iI c)), (2, .int (iI w))]) [0, 1, 2, 4, 5, 6] rfl ?_
                          refine g_ws (ws' := mw κ ma (tst M (agn (mA (mA (mA (tst M Gm) 0 (uI (M 0) c (M 0 c))) 1 (uI (M 1) c (M 1 c))) 2 (uI (M 2) c (M 2 c))) M))) rfl ?_
                          exact ih46 _ (by omega) (v + 1) (b + p2 v) (m + 1) (agn (mA (mA (mA (tst M Gm) 0 (uI (M 0) c (M 0 c))) 1 (uI (M 1) c (M 1 c))) 2 (uI (M 2) c (M 2 c))) M) rfl (by omega) (by first | (exfalso; omega) | (rw [if_pos (show w = 2 by omega)] at hb ⊢; omega) | (rw [if_neg (show ¬ w = 2 by omega)] at hb ⊢; rw [sumI_s _ hv.1, ← hb]; unfold wsb; first | rw [if_pos (by rw [← hC]; exact c148)] | (rw [if_neg (by rw [← hC]; exact c148)]; omega))) (by omega) (by first | (exfalso; omega) | (rw [sumI_s _ hv.1, ← hm]; unfold wsf; first | rw [if_pos (by rw [← hC]; exact c148)] | rw [if_neg (by rw [← hC]; exact c148)])) (by omega)
                  · skip
                    refine g_iload F 0 dX6_whose_125 rfl ?_
                    refine g_goto F 136 dX6_whose_127 (by decide) ?_
                    refine gm_ast_2 F (by omega) dX6_whose_136 ?_
                    refine g_ws (ws' := mw κ ma (mA (mA (mA (tst M Gm) 0 (uI (M 0) c (M 0 c))) 1 (uI (M 1) c (M 1 c))) 2 (uI (M 2) c v))) rfl ?_
                    have hC : cl (mA (mA (mA (tst M Gm) 0 (uI (M 0) c (M 0 c))) 1 (uI (M 1) c (M 1 c))) 2 (uI (M 2) c v)) = oth (cl M) w c v := by first | (exfalso; omega) | (rw [oth_0 (by omega)]; show (uI (M 0) c v, uI (M 1) c (M 1 c), uI (M 2) c (M 2 c), M 3, M 4 0) = (uI (M 0) c v, M 1, M 2, M 3, M 4 0); rw [uI_self, uI_self]) | (rw [oth_1 (by omega)]; show (uI (M 0) c (M 0 c), uI (M 1) c v, uI (M 2) c (M 2 c), M 3, M 4 0) = (M 0, uI (M 1) c v, M 2, M 3, M 4 0); rw [uI_self, uI_self]) | (rw [oth_2 (by omega) (by omega)]; show (uI (M 0) c (M 0 c), uI (M 1) c (M 1 c), uI (M 2) c v, M 3, M 4 0) = (M 0, M 1, uI (M 2) c v, M 3, M 4 0); rw [uI_self, uI_self])
                    have hbb : 0 ≤ b ∧ (w ≠ 2 → b < p2 v) := by have k := wsb_bd (cl M) (M 37) (M 38 0) c w hv.1; have p := p2_pos v; rw [hb]; split <;> omega
                    have hp2 := p2_pos v
                    refine g_aload_n F 3 dX6_whose_137 rfl ?_
                    refine g_iload_n F 4 dX6_whose_138 rfl ?_
                    refine g_callI F (stk := [.int (iI c), .ref (ma 100)]) (st := []) (k_X6_isRow κ ma (mA (mA (mA (tst M Gm) 0 (uI (M 0) c (M 0 c))) 1 (uI (M 1) c (M 1 c))) 2 (uI (M 2) c v)) M c (by omega) (show M 4 0 ≤ 990000 by omega) (by rw [hC]; exact oth_ok ok (by omega)) hn hro (fun _ _ _ => rfl)) cal_X6_isRow lm_X6_298 0 rfl rfl rfl rfl (by decide) rfl (Nat.le_of_ble_eq_true rfl) dX6_whose_139 (fun r139 ws139 _ hr139 => ?_)
                    obtain ⟨rfl, rfl⟩ := hr139
                    refine g_top (y := iI (b2i (rowI (cl (mA (mA (mA (tst M Gm) 0 (uI (M 0) c (M 0 c))) 1 (uI (M 1) c (M 1 c))) 2 (uI (M 2) c v))) (M 37) c (M 38 0)))) rfl ?_
                    refine g_istore F (lv' := [(7, .int (iI (b2i (rowI (cl (mA (mA (mA (tst M Gm) 0 (uI (M 0) c (M 0 c))) 1 (uI (M 1) c (M 1 c))) 2 (uI (M 2) c v))) (M 37) c (M 38 0))))), (6, .int (iI v)), (5, .int (iI m)), (4, .int (iI b)), (0, .ref (ma 100)), (1, .int (iI c)), (2, .int (iI w))]) dX6_whose_142 (by decide) rfl ?_
                    refine g_iload F 3 dX6_whose_144 rfl ?_
                    refine g_iload F 0 dX6_whose_146 rfl ?_
                    refine g_if_eq F 163 (b2i_in _) dX6_whose_148 (by decide) (fun c148 => ?_) (fun c148 => ?_)
                    · skip
                      have c148 : ¬ (rowI (cl (mA (mA (mA (tst M Gm) 0 (uI (M 0) c (M 0 c))) 1 (uI (M 1) c (M 1 c))) 2 (uI (M 2) c v))) (M 37) c (M 38 0)) := b2i_f c148
                      refine g_iconst F dX6_whose_163 ?_
                      refine g_ior F dX6_whose_164 ?_
                      refine g_top (y := iI b) (by rw [iI_bor hbb.1 (by decide), bor_0 hbb.1]) ?_
                      refine g_istore F (lv' := [(4, .int (iI b)), (7, .int (iI (b2i (rowI (cl (mA (mA (mA (tst M Gm) 0 (uI (M 0) c (M 0 c))) 1 (uI (M 1) c (M 1 c))) 2 (uI (M 2) c v))) (M 37) c (M 38 0))))), (6, .int (iI v)), (5, .int (iI m)), (0, .ref (ma 100)), (1, .int (iI c)), (2, .int (iI w))]) dX6_whose_165 (by decide) rfl ?_
                      refine g_iload F 3 dX6_whose_167 rfl ?_
                      refine g_iload F 1 dX6_whose_169 rfl ?_
                      refine g_if_eq F 178 (b2i_in _) dX6_whose_171 (by decide) (fun c171 => ?_) (fun c171 => ?_)
                      · skip
                        have c171 : ¬ (rowI (cl (mA (mA (mA (tst M Gm) 0 (uI (M 0) c (M 0 c))) 1 (uI (M 1) c (M 1 c))) 2 (uI (M 2) c v))) (M 37) c (M 38 0)) := b2i_f c171
                        refine g_iconst F dX6_whose_178 ?_
                        refine g_iadd F dX6_whose_179 ?_
                        refine g_istore F (lv' := [(5, .int (iI (m + 0))), (4, .int (iI b)), (7, .int (iI (b2i (rowI (cl (mA (mA (mA (tst M Gm) 0 (uI (M 0) c (M 0 c))) 1 (uI (M 1) c (M 1 c))) 2 (uI (M 2) c v))) (M 37) c (M 38 0))))), (6, .int (iI v)), (0, .ref (ma 100)), (1, .int (iI c)), (2, .int (iI w))]) dX6_whose_180 (by decide) rfl ?_
                        refine g_iinc F (lv' := [(6, .int (iI (v + 1))), (5, .int (iI (m + 0))), (4, .int (iI b)), (7, .int (iI (b2i (rowI (cl (mA (mA (mA (tst M Gm) 0 (uI (M 0) c (M 0 c))) 1 (uI (M 1) c (M 1 c))) 2 (uI (M 2) c v))) (M 37) c (M 38 0))))), (0, .ref (ma 100)), (1, .int (iI c)), (2, .int (iI w))]) 3 dX6_whose_182 rfl (by decide) rfl ?_
                        refine g_goto F 46 dX6_whose_185 (by decide) ?_
                        refine g_sub F (lv' := [(6, .int (iI (v + 1))), (5, .int (iI (m + 0))), (4, .int (iI b)), (0, .ref (ma 100)), (1, .int (iI c)), (2, .int (iI w))]) [0, 1, 2, 4, 5, 6] rfl ?_
                        refine g_ws (ws' := mw κ ma (tst M (agn (mA (mA (mA (tst M Gm) 0 (uI (M 0) c (M 0 c))) 1 (uI (M 1) c (M 1 c))) 2 (uI (M 2) c v)) M))) rfl ?_
                        exact ih46 _ (by omega) (v + 1) b (m + 0) (agn (mA (mA (mA (tst M Gm) 0 (uI (M 0) c (M 0 c))) 1 (uI (M 1) c (M 1 c))) 2 (uI (M 2) c v)) M) rfl (by omega) (by first | (exfalso; omega) | (rw [if_pos (show w = 2 by omega)] at hb ⊢; omega) | (rw [if_neg (show ¬ w = 2 by omega)] at hb ⊢; rw [sumI_s _ hv.1, ← hb]; unfold wsb; first | rw [if_pos (by rw [← hC]; exact c148)] | (rw [if_neg (by rw [← hC]; exact c148)]; omega))) (by omega) (by first | (exfalso; omega) | (rw [sumI_s _ hv.1, ← hm]; unfold wsf; first | rw [if_pos (by rw [← hC]; exact c148)] | rw [if_neg (by rw [← hC]; exact c148)])) (by omega)
                      · skip
                        have c171 : rowI (cl (mA (mA (mA (tst M Gm) 0 (uI (M 0) c (M 0 c))) 1 (uI (M 1) c (M 1 c))) 2 (uI (M 2) c v))) (M 37) c (M 38 0) := b2i_t c171
                        exact absurd trivial (by omega)
                    · skip
                      have c148 : rowI (cl (mA (mA (mA (tst M Gm) 0 (uI (M 0) c (M 0 c))) 1 (uI (M 1) c (M 1 c))) 2 (uI (M 2) c v))) (M 37) c (M 38 0) := b2i_t c148
                      refine g_iload_n F 6 dX6_whose_151 rfl ?_
                      refine g_iconst F dX6_whose_152 ?_
                      refine g_icmp_ge F 163 (by omega) dX6_whose_153 (by decide) (fun c153 => ?_) (fun c153 => ?_)
                      · skip
                        refine g_iconst F dX6_whose_163 ?_
                        refine g_ior F dX6_whose_164 ?_
                        refine g_top (y := iI b) (by rw [iI_bor hbb.1 (by decide), bor_0 hbb.1]) ?_
                        refine g_istore F (lv' := [(4, .int (iI b)), (7, .int (iI (b2i (rowI (cl (mA (mA (mA (tst M Gm) 0 (uI (M 0) c (M 0 c))) 1 (uI (M 1) c (M 1 c))) 2 (uI (M 2) c v))) (M 37) c (M 38 0))))), (6, .int (iI v)), (5, .int (iI m)), (0, .ref (ma 100)), (1, .int (iI c)), (2, .int (iI w))]) dX6_whose_165 (by decide) rfl ?_
                        refine g_iload F 3 dX6_whose_167 rfl ?_
                        refine g_iload F 1 dX6_whose_169 rfl ?_
                        refine g_if_eq F 178 (b2i_in _) dX6_whose_171 (by decide) (fun c171 => ?_) (fun c171 => ?_)
                        · skip
                          have c171 : ¬ (rowI (cl (mA (mA (mA (tst M Gm) 0 (uI (M 0) c (M 0 c))) 1 (uI (M 1) c (M 1 c))) 2 (uI (M 2) c v))) (M 37) c (M 38 0)) := b2i_f c171
                          exact absurd trivial (by omega)
                        · skip
                          have c171 : rowI (cl (mA (mA (mA (tst M Gm) 0 (uI (M 0) c (M 0 c))) 1 (uI (M 1) c (M 1 c))) 2 (uI (M 2) c v))) (M 37) c (M 38 0) := b2i_t c171
                          refine g_iconst F dX6_whose_174 ?_
                          refine g_goto F 179 dX6_whose_175 (by decide) ?_
                          refine g_iadd F dX6_whose_179 ?_
                          refine g_istore F (lv' := [(5, .int (iI (m + 1))), (4, .int (iI b)), (7, .int (iI (b2i (rowI (cl (mA (mA (mA (tst M Gm) 0 (uI (M 0) c (M 0 c))) 1 (uI (M 1) c (M 1 c))) 2 (uI (M 2) c v))) (M 37) c (M 38 0))))), (6, .int (iI v)), (0, .ref (ma 100)), (1, .int (iI c)), (2, .int (iI w))]) dX6_whose_180 (by decide) rfl ?_
                          refine g_iinc F (lv' := [(6, .int (iI (v + 1))), (5, .int (iI (m + 1))), (4, .int (iI b)), (7, .int (iI (b2i (rowI (cl (mA (mA (mA (tst M Gm) 0 (uI (M 0) c (M 0 c))) 1 (uI (M 1) c (M 1 c))) 2 (uI (M 2) c v))) (M 37) c (M 38 0))))), (0, .ref (ma 100)), (1, .int (iI c)), (2, .int (iI w))]) 3 dX6_whose_182 rfl (by decide) rfl ?_
                          refine g_goto F 46 dX6_whose_185 (by decide) ?_
                          refine g_sub F (lv' := [(6, .int (iI (v + 1))), (5, .int (iI (m + 1))), (4, .int (iI b)), (0, .ref (ma 100)), (1, .int (iI c)), (2, .int (iI w))]) [0, 1, 2, 4, 5, 6] rfl ?_
                          refine g_ws (ws' := mw κ ma (tst M (agn (mA (mA (mA (tst M Gm) 0 (uI (M 0) c (M 0 c))) 1 (uI (M 1) c (M 1 c))) 2 (uI (M 2) c v)) M))) rfl ?_
                          exact ih46 _ (by omega) (v + 1) b (m + 1) (agn (mA (mA (mA (tst M Gm) 0 (uI (M 0) c (M 0 c))) 1 (uI (M 1) c (M 1 c))) 2 (uI (M 2) c v)) M) rfl (by omega) (by first | (exfalso; omega) | (rw [if_pos (show w = 2 by omega)] at hb ⊢; omega) | (rw [if_neg (show ¬ w = 2 by omega)] at hb ⊢; rw [sumI_s _ hv.1, ← hb]; unfold wsb; first | rw [if_pos (by rw [← hC]; exact c148)] | (rw [if_neg (by rw [← hC]; exact c148)]; omega))) (by omega) (by first | (exfalso; omega) | (rw [sumI_s _ hv.1, ← hm]; unfold wsf; first | rw [if_pos (by rw [← hC]; exact c148)] | rw [if_neg (by rw [← hC]; exact c148)])) (by omega)
                      · skip
                        exact absurd trivial (by omega)
                · skip
                  exact absurd trivial (by omega)
              · skip
                exact absurd trivial (by omega)
          · skip
            refine g_bipush F dX6_whose_62 (by decide +kernel) ?_
            refine g_goto F 69 dX6_whose_64 (by decide) ?_
            refine g_icmp_ge F 188 (by omega) dX6_whose_69 (by decide) (fun c69 => ?_) (fun c69 => ?_)
            · skip
              have hbz : 0 ≤ b := hb0
              refine g_iload_n F 5 dX6_whose_188 rfl ?_
              refine g_iconst F dX6_whose_189 ?_
              refine g_icmp_ne F 198 (by omega) dX6_whose_190 (by decide) (fun c190 => ?_) (fun c190 => ?_)
              · skip
                refine g_iload F 2 dX6_whose_198 rfl ?_
                have hq : b = qWhose (cl M) (M 37) (M 38 0) c w := by unfold qWhose; rw [if_neg (by omega), if_neg (by omega)]; first | (exfalso; omega) | (rw [if_pos (by omega), hm, show v = 100 by omega]) | (rw [if_neg (by omega), hb, if_neg (by omega), show v = (if w = 0 then 6 else 10) by split <;> omega])
                exact K mw_same ⟨_, rfl, iIc hq, ⟨rfl, rfl, rfl, rfl, rfl, rfl, rfl, rfl, rfl, rfl, rfl, rfl, rfl, rfl, rfl, rfl, rfl, rfl⟩, (by rw [← hq]; show M 11 = _; exact (rfa_n (by omega)).symm)⟩ rfl dX6_whose_200
              · skip
                exact absurd trivial (by omega)
            · skip
              have hk : (0 ≤ M 0 c ∧ M 0 c ≤ 5) ∧ (0 ≤ M 1 c ∧ M 1 c ≤ 9) ∧ (0 ≤ M 2 c ∧ M 2 c ≤ 99) ∧ 0 ≤ M 3 c ∧ M 3 c ≤ 99 := ok.r (by omega) (by omega)
              refine g_aload_n F 3 dX6_whose_72 rfl ?_
              refine gm_get_0 F dX6_whose_73 ?_
              refine g_iload_n F 4 dX6_whose_76 rfl ?_
              refine g_iload_n F 5 dX6_whose_77 rfl ?_
              refine g_if_ne F 86 (by omega) dX6_whose_78 (by decide) (fun c78 => ?_) (fun c78 => ?_)
              · skip
                refine g_aload_n F 3 dX6_whose_86 rfl ?_
                refine gm_get_0 F dX6_whose_87 ?_
                refine g_iload_n F 4 dX6_whose_90 rfl ?_
                refine gm_ald_0 F (by omega) dX6_whose_91 ?_
                refine g_top (y := iI (M 0 c)) rfl ?_
                refine gm_ast_0 F (by omega) dX6_whose_92 ?_
                refine g_ws (ws' := mw κ ma (mA (tst M Gm) 0 (uI (M 0) c (M 0 c)))) rfl ?_
                refine g_aload_n F 3 dX6_whose_93 rfl ?_
                refine gm_get_1 F dX6_whose_94 ?_
                refine g_iload_n F 4 dX6_whose_97 rfl ?_
                refine g_iload_n F 5 dX6_whose_98 rfl ?_
                refine g_iconst F dX6_whose_99 ?_
                refine g_icmp_ne F 108 (by omega) dX6_whose_100 (by decide) (fun c100 => ?_) (fun c100 => ?_)
                · skip
                  exact absurd trivial (by omega)
                · skip
                  refine g_iload F 0 dX6_whose_103 rfl ?_
                  refine g_goto F 114 dX6_whose_105 (by decide) ?_
                  refine gm_ast_1 F (by omega) dX6_whose_114 ?_
                  refine g_ws (ws' := mw κ ma (mA (mA (tst M Gm) 0 (uI (M 0) c (M 0 c))) 1 (uI (M 1) c v))) rfl ?_
                  refine g_aload_n F 3 dX6_whose_115 rfl ?_
                  refine gm_get_2 F dX6_whose_116 ?_
                  refine g_iload_n F 4 dX6_whose_119 rfl ?_
                  refine g_iload_n F 5 dX6_whose_120 rfl ?_
                  refine g_iconst F dX6_whose_121 ?_
                  refine g_icmp_ne F 130 (by omega) dX6_whose_122 (by decide) (fun c122 => ?_) (fun c122 => ?_)
                  · skip
                    refine g_aload_n F 3 dX6_whose_130 rfl ?_
                    refine gm_get_2 F dX6_whose_131 ?_
                    refine g_iload_n F 4 dX6_whose_134 rfl ?_
                    refine gm_ald_2 F (by omega) dX6_whose_135 ?_
                    refine g_top (y := iI (M 2 c)) rfl ?_
                    refine gm_ast_2 F (by omega) dX6_whose_136 ?_
                    refine g_ws (ws' := mw κ ma (mA (mA (mA (tst M Gm) 0 (uI (M 0) c (M 0 c))) 1 (uI (M 1) c v)) 2 (uI (M 2) c (M 2 c)))) rfl ?_
                    have hC : cl (mA (mA (mA (tst M Gm) 0 (uI (M 0) c (M 0 c))) 1 (uI (M 1) c v)) 2 (uI (M 2) c (M 2 c))) = oth (cl M) w c v := by first | (exfalso; omega) | (rw [oth_0 (by omega)]; show (uI (M 0) c v, uI (M 1) c (M 1 c), uI (M 2) c (M 2 c), M 3, M 4 0) = (uI (M 0) c v, M 1, M 2, M 3, M 4 0); rw [uI_self, uI_self]) | (rw [oth_1 (by omega)]; show (uI (M 0) c (M 0 c), uI (M 1) c v, uI (M 2) c (M 2 c), M 3, M 4 0) = (M 0, uI (M 1) c v, M 2, M 3, M 4 0); rw [uI_self, uI_self]) | (rw [oth_2 (by omega) (by omega)]; show (uI (M 0) c (M 0 c), uI (M 1) c (M 1 c), uI (M 2) c v, M 3, M 4 0) = (M 0, M 1, uI (M 2) c v, M 3, M 4 0); rw [uI_self, uI_self])
                    have hbb : 0 ≤ b ∧ (w ≠ 2 → b < p2 v) := by have k := wsb_bd (cl M) (M 37) (M 38 0) c w hv.1; have p := p2_pos v; rw [hb]; split <;> omega
                    have hp2 := p2_pos v
                    refine g_aload_n F 3 dX6_whose_137 rfl ?_
                    refine g_iload_n F 4 dX6_whose_138 rfl ?_
                    refine g_callI F (stk := [.int (iI c), .ref (ma 100)]) (st := []) (k_X6_isRow κ ma (mA (mA (mA (tst M Gm) 0 (uI (M 0) c (M 0 c))) 1 (uI (M 1) c v)) 2 (uI (M 2) c (M 2 c))) M c (by omega) (show M 4 0 ≤ 990000 by omega) (by rw [hC]; exact oth_ok ok (by omega)) hn hro (fun _ _ _ => rfl)) cal_X6_isRow lm_X6_298 0 rfl rfl rfl rfl (by decide) rfl (Nat.le_of_ble_eq_true rfl) dX6_whose_139 (fun r139 ws139 _ hr139 => ?_)
                    obtain ⟨rfl, rfl⟩ := hr139
                    refine g_top (y := iI (b2i (rowI (cl (mA (mA (mA (tst M Gm) 0 (uI (M 0) c (M 0 c))) 1 (uI (M 1) c v)) 2 (uI (M 2) c (M 2 c)))) (M 37) c (M 38 0)))) rfl ?_
                    refine g_istore F (lv' := [(7, .int (iI (b2i (rowI (cl (mA (mA (mA (tst M Gm) 0 (uI (M 0) c (M 0 c))) 1 (uI (M 1) c v)) 2 (uI (M 2) c (M 2 c)))) (M 37) c (M 38 0))))), (6, .int (iI v)), (5, .int (iI m)), (4, .int (iI b)), (0, .ref (ma 100)), (1, .int (iI c)), (2, .int (iI w))]) dX6_whose_142 (by decide) rfl ?_
                    refine g_iload F 3 dX6_whose_144 rfl ?_
                    refine g_iload F 0 dX6_whose_146 rfl ?_
                    refine g_if_eq F 163 (b2i_in _) dX6_whose_148 (by decide) (fun c148 => ?_) (fun c148 => ?_)
                    · skip
                      have c148 : ¬ (rowI (cl (mA (mA (mA (tst M Gm) 0 (uI (M 0) c (M 0 c))) 1 (uI (M 1) c v)) 2 (uI (M 2) c (M 2 c)))) (M 37) c (M 38 0)) := b2i_f c148
                      refine g_iconst F dX6_whose_163 ?_
                      refine g_ior F dX6_whose_164 ?_
                      refine g_top (y := iI b) (by rw [iI_bor hbb.1 (by decide), bor_0 hbb.1]) ?_
                      refine g_istore F (lv' := [(4, .int (iI b)), (7, .int (iI (b2i (rowI (cl (mA (mA (mA (tst M Gm) 0 (uI (M 0) c (M 0 c))) 1 (uI (M 1) c v)) 2 (uI (M 2) c (M 2 c)))) (M 37) c (M 38 0))))), (6, .int (iI v)), (5, .int (iI m)), (0, .ref (ma 100)), (1, .int (iI c)), (2, .int (iI w))]) dX6_whose_165 (by decide) rfl ?_
                      refine g_iload F 3 dX6_whose_167 rfl ?_
                      refine g_iload F 1 dX6_whose_169 rfl ?_
                      refine g_if_eq F 178 (b2i_in _) dX6_whose_171 (by decide) (fun c171 => ?_) (fun c171 => ?_)
                      · skip
                        have c171 : ¬ (rowI (cl (mA (mA (mA (tst M Gm) 0 (uI (M 0) c (M 0 c))) 1 (uI (M 1) c v)) 2 (uI (M 2) c (M 2 c)))) (M 37) c (M 38 0)) := b2i_f c171
                        refine g_iconst F dX6_whose_178 ?_
                        refine g_iadd F dX6_whose_179 ?_
                        refine g_istore F (lv' := [(5, .int (iI (m + 0))), (4, .int (iI b)), (7, .int (iI (b2i (rowI (cl (mA (mA (mA (tst M Gm) 0 (uI (M 0) c (M 0 c))) 1 (uI (M 1) c v)) 2 (uI (M 2) c (M 2 c)))) (M 37) c (M 38 0))))), (6, .int (iI v)), (0, .ref (ma 100)), (1, .int (iI c)), (2, .int (iI w))]) dX6_whose_180 (by decide) rfl ?_
                        refine g_iinc F (lv' := [(6, .int (iI (v + 1))), (5, .int (iI (m + 0))), (4, .int (iI b)), (7, .int (iI (b2i (rowI (cl (mA (mA (mA (tst M Gm) 0 (uI (M 0) c (M 0 c))) 1 (uI (M 1) c v)) 2 (uI (M 2) c (M 2 c)))) (M 37) c (M 38 0))))), (0, .ref (ma 100)), (1, .int (iI c)), (2, .int (iI w))]) 3 dX6_whose_182 rfl (by decide) rfl ?_
                        refine g_goto F 46 dX6_whose_185 (by decide) ?_
                        refine g_sub F (lv' := [(6, .int (iI (v + 1))), (5, .int (iI (m + 0))), (4, .int (iI b)), (0, .ref (ma 100)), (1, .int (iI c)), (2, .int (iI w))]) [0, 1, 2, 4, 5, 6] rfl ?_
                        refine g_ws (ws' := mw κ ma (tst M (agn (mA (mA (mA (tst M Gm) 0 (uI (M 0) c (M 0 c))) 1 (uI (M 1) c v)) 2 (uI (M 2) c (M 2 c))) M))) rfl ?_
                        exact ih46 _ (by omega) (v + 1) b (m + 0) (agn (mA (mA (mA (tst M Gm) 0 (uI (M 0) c (M 0 c))) 1 (uI (M 1) c v)) 2 (uI (M 2) c (M 2 c))) M) rfl (by omega) (by first | (exfalso; omega) | (rw [if_pos (show w = 2 by omega)] at hb ⊢; omega) | (rw [if_neg (show ¬ w = 2 by omega)] at hb ⊢; rw [sumI_s _ hv.1, ← hb]; unfold wsb; first | rw [if_pos (by rw [← hC]; exact c148)] | (rw [if_neg (by rw [← hC]; exact c148)]; omega))) (by omega) (by first | (exfalso; omega) | (rw [sumI_s _ hv.1, ← hm]; unfold wsf; first | rw [if_pos (by rw [← hC]; exact c148)] | rw [if_neg (by rw [← hC]; exact c148)])) (by omega)
                      · skip
                        have c171 : rowI (cl (mA (mA (mA (tst M Gm) 0 (uI (M 0) c (M 0 c))) 1 (uI (M 1) c v)) 2 (uI (M 2) c (M 2 c)))) (M 37) c (M 38 0) := b2i_t c171
                        exact absurd trivial (by omega)
                    · skip
                      have c148 : rowI (cl (mA (mA (mA (tst M Gm) 0 (uI (M 0) c (M 0 c))) 1 (uI (M 1) c v)) 2 (uI (M 2) c (M 2 c)))) (M 37) c (M 38 0) := b2i_t c148
                      refine g_iload_n F 6 dX6_whose_151 rfl ?_
                      refine g_iconst F dX6_whose_152 ?_
                      refine g_icmp_ge F 163 (by omega) dX6_whose_153 (by decide) (fun c153 => ?_) (fun c153 => ?_)
                      · skip
                        exact absurd trivial (by omega)
                      · skip
                        refine g_iconst F dX6_whose_156 ?_
                        refine g_iload F 1 dX6_whose_157 rfl ?_
                        refine g_ishl F dX6_whose_159 ?_
                        refine g_top (y := iI (p2 v)) (iI_shl1 (by omega) (by omega)) ?_
                        refine g_goto F 164 dX6_whose_160 (by decide) ?_
                        refine g_ior F dX6_whose_164 ?_
                        refine g_top (y := iI (b + p2 v)) (by rw [iI_bor hbb.1 (by omega), bor_p2 hbb.1 (hbb.2 (by omega))]) ?_
                        refine g_istore F (lv' := [(4, .int (iI (b + p2 v))), (7, .int (iI (b2i (rowI (cl (mA (mA (mA (tst M Gm) 0 (uI (M 0) c (M 0 c))) 1 (uI (M 1) c v)) 2 (uI (M 2) c (M 2 c)))) (M 37) c (M 38 0))))), (6, .int (iI v)), (5, .int (iI m)), (0, .ref (ma 100)), (1, .int (iI c)), (2, .int (iI w))]) dX6_whose_165 (by decide) rfl ?_
                        refine g_iload F 3 dX6_whose_167 rfl ?_
                        refine g_iload F 1 dX6_whose_169 rfl ?_
                        refine g_if_eq F 178 (b2i_in _) dX6_whose_171 (by decide) (fun c171 => ?_) (fun c171 => ?_)
                        · skip
                          have c171 : ¬ (rowI (cl (mA (mA (mA (tst M Gm) 0 (uI (M 0) c (M 0 c))) 1 (uI (M 1) c v)) 2 (uI (M 2) c (M 2 c)))) (M 37) c (M 38 0)) := b2i_f c171
                          exact absurd trivial (by omega)
                        · skip
                          have c171 : rowI (cl (mA (mA (mA (tst M Gm) 0 (uI (M 0) c (M 0 c))) 1 (uI (M 1) c v)) 2 (uI (M 2) c (M 2 c)))) (M 37) c (M 38 0) := b2i_t c171
                          refine g_iconst F dX6_whose_174 ?_
                          refine g_goto F 179 dX6_whose_175 (by decide) ?_
                          refine g_iadd F dX6_whose_179 ?_
                          refine g_istore F (lv' := [(5, .int (iI (m + 1))), (4, .int (iI (b + p2 v))), (7, .int (iI (b2i (rowI (cl (mA (mA (mA (tst M Gm) 0 (uI (M 0) c (M 0 c))) 1 (uI (M 1) c v)) 2 (uI (M 2) c (M 2 c)))) (M 37) c (M 38 0))))), (6, .int (iI v)), (0, .ref (ma 100)), (1, .int (iI c)), (2, .int (iI w))]) dX6_whose_180 (by decide) rfl ?_
                          refine g_iinc F (lv' := [(6, .int (iI (v + 1))), (5, .int (iI (m + 1))), (4, .int (iI (b + p2 v))), (7, .int (iI (b2i (rowI (cl (mA (mA (mA (tst M Gm) 0 (uI (M 0) c (M 0 c))) 1 (uI (M 1) c v)) 2 (uI (M 2) c (M 2 c)))) (M 37) c (M 38 0))))), (0, .ref (ma 100)), (1, .int (iI c)), (2, .int (iI w))]) 3 dX6_whose_182 rfl (by decide) rfl ?_
                          refine g_goto F 46 dX6_whose_185 (by decide) ?_
                          refine g_sub F (lv' := [(6, .int (iI (v + 1))), (5, .int (iI (m + 1))), (4, .int (iI (b + p2 v))), (0, .ref (ma 100)), (1, .int (iI c)), (2, .int (iI w))]) [0, 1, 2, 4, 5, 6] rfl ?_
                          refine g_ws (ws' := mw κ ma (tst M (agn (mA (mA (mA (tst M Gm) 0 (uI (M 0) c (M 0 c))) 1 (uI (M 1) c v)) 2 (uI (M 2) c (M 2 c))) M))) rfl ?_
                          exact ih46 _ (by omega) (v + 1) (b + p2 v) (m + 1) (agn (mA (mA (mA (tst M Gm) 0 (uI (M 0) c (M 0 c))) 1 (uI (M 1) c v)) 2 (uI (M 2) c (M 2 c))) M) rfl (by omega) (by first | (exfalso; omega) | (rw [if_pos (show w = 2 by omega)] at hb ⊢; omega) | (rw [if_neg (show ¬ w = 2 by omega)] at hb ⊢; rw [sumI_s _ hv.1, ← hb]; unfold wsb; first | rw [if_pos (by rw [← hC]; exact c148)] | (rw [if_neg (by rw [← hC]; exact c148)]; omega))) (by omega) (by first | (exfalso; omega) | (rw [sumI_s _ hv.1, ← hm]; unfold wsf; first | rw [if_pos (by rw [← hC]; exact c148)] | rw [if_neg (by rw [← hC]; exact c148)])) (by omega)
                  · skip
                    exact absurd trivial (by omega)
              · skip
                exact absurd trivial (by omega)
        · skip
          refine g_bipush F dX6_whose_52 (by decide +kernel) ?_
          refine g_goto F 69 dX6_whose_54 (by decide) ?_
          refine g_icmp_ge F 188 (by omega) dX6_whose_69 (by decide) (fun c69 => ?_) (fun c69 => ?_)
          · skip
            have hbz : 0 ≤ b := hb0
            refine g_iload_n F 5 dX6_whose_188 rfl ?_
            refine g_iconst F dX6_whose_189 ?_
            refine g_icmp_ne F 198 (by omega) dX6_whose_190 (by decide) (fun c190 => ?_) (fun c190 => ?_)
            · skip
              refine g_iload F 2 dX6_whose_198 rfl ?_
              have hq : b = qWhose (cl M) (M 37) (M 38 0) c w := by unfold qWhose; rw [if_neg (by omega), if_neg (by omega)]; first | (exfalso; omega) | (rw [if_pos (by omega), hm, show v = 100 by omega]) | (rw [if_neg (by omega), hb, if_neg (by omega), show v = (if w = 0 then 6 else 10) by split <;> omega])
              exact K mw_same ⟨_, rfl, iIc hq, ⟨rfl, rfl, rfl, rfl, rfl, rfl, rfl, rfl, rfl, rfl, rfl, rfl, rfl, rfl, rfl, rfl, rfl, rfl⟩, (by rw [← hq]; show M 11 = _; exact (rfa_n (by omega)).symm)⟩ rfl dX6_whose_200
            · skip
              exact absurd trivial (by omega)
          · skip
            have hk : (0 ≤ M 0 c ∧ M 0 c ≤ 5) ∧ (0 ≤ M 1 c ∧ M 1 c ≤ 9) ∧ (0 ≤ M 2 c ∧ M 2 c ≤ 99) ∧ 0 ≤ M 3 c ∧ M 3 c ≤ 99 := ok.r (by omega) (by omega)
            refine g_aload_n F 3 dX6_whose_72 rfl ?_
            refine gm_get_0 F dX6_whose_73 ?_
            refine g_iload_n F 4 dX6_whose_76 rfl ?_
            refine g_iload_n F 5 dX6_whose_77 rfl ?_
            refine g_if_ne F 86 (by omega) dX6_whose_78 (by decide) (fun c78 => ?_) (fun c78 => ?_)
            · skip
              exact absurd trivial (by omega)
            · skip
              refine g_iload F 0 dX6_whose_81 rfl ?_
              refine g_goto F 92 dX6_whose_83 (by decide) ?_
              refine gm_ast_0 F (by omega) dX6_whose_92 ?_
              refine g_ws (ws' := mw κ ma (mA (tst M Gm) 0 (uI (M 0) c v))) rfl ?_
              refine g_aload_n F 3 dX6_whose_93 rfl ?_
              refine gm_get_1 F dX6_whose_94 ?_
              refine g_iload_n F 4 dX6_whose_97 rfl ?_
              refine g_iload_n F 5 dX6_whose_98 rfl ?_
              refine g_iconst F dX6_whose_99 ?_
              refine g_icmp_ne F 108 (by omega) dX6_whose_100 (by decide) (fun c100 => ?_) (fun c100 => ?_)
              · skip
                refine g_aload_n F 3 dX6_whose_108 rfl ?_
                refine gm_get_1 F dX6_whose_109 ?_
                refine g_iload_n F 4 dX6_whose_112 rfl ?_
                refine gm_ald_1 F (by omega) dX6_whose_113 ?_
                refine g_top (y := iI (M 1 c)) rfl ?_
                refine gm_ast_1 F (by omega) dX6_whose_114 ?_
                refine g_ws (ws' := mw κ ma (mA (mA (tst M Gm) 0 (uI (M 0) c v)) 1 (uI (M 1) c (M 1 c)))) rfl ?_
                refine g_aload_n F 3 dX6_whose_115 rfl ?_
                refine gm_get_2 F dX6_whose_116 ?_
                refine g_iload_n F 4 dX6_whose_119 rfl ?_
                refine g_iload_n F 5 dX6_whose_120 rfl ?_
                refine g_iconst F dX6_whose_121 ?_
                refine g_icmp_ne F 130 (by omega) dX6_whose_122 (by decide) (fun c122 => ?_) (fun c122 => ?_)
                · skip
                  refine g_aload_n F 3 dX6_whose_130 rfl ?_
                  refine gm_get_2 F dX6_whose_131 ?_
                  refine g_iload_n F 4 dX6_whose_134 rfl ?_
                  refine gm_ald_2 F (by omega) dX6_whose_135 ?_
                  refine g_top (y := iI (M 2 c)) rfl ?_
                  refine gm_ast_2 F (by omega) dX6_whose_136 ?_
                  refine g_ws (ws' := mw κ ma (mA (mA (mA (tst M Gm) 0 (uI (M 0) c v)) 1 (uI (M 1) c (M 1 c))) 2 (uI (M 2) c (M 2 c)))) rfl ?_
                  have hC : cl (mA (mA (mA (tst M Gm) 0 (uI (M 0) c v)) 1 (uI (M 1) c (M 1 c))) 2 (uI (M 2) c (M 2 c))) = oth (cl M) w c v := by first | (exfalso; omega) | (rw [oth_0 (by omega)]; show (uI (M 0) c v, uI (M 1) c (M 1 c), uI (M 2) c (M 2 c), M 3, M 4 0) = (uI (M 0) c v, M 1, M 2, M 3, M 4 0); rw [uI_self, uI_self]) | (rw [oth_1 (by omega)]; show (uI (M 0) c (M 0 c), uI (M 1) c v, uI (M 2) c (M 2 c), M 3, M 4 0) = (M 0, uI (M 1) c v, M 2, M 3, M 4 0); rw [uI_self, uI_self]) | (rw [oth_2 (by omega) (by omega)]; show (uI (M 0) c (M 0 c), uI (M 1) c (M 1 c), uI (M 2) c v, M 3, M 4 0) = (M 0, M 1, uI (M 2) c v, M 3, M 4 0); rw [uI_self, uI_self])
                  have hbb : 0 ≤ b ∧ (w ≠ 2 → b < p2 v) := by have k := wsb_bd (cl M) (M 37) (M 38 0) c w hv.1; have p := p2_pos v; rw [hb]; split <;> omega
                  have hp2 := p2_pos v
                  refine g_aload_n F 3 dX6_whose_137 rfl ?_
                  refine g_iload_n F 4 dX6_whose_138 rfl ?_
                  refine g_callI F (stk := [.int (iI c), .ref (ma 100)]) (st := []) (k_X6_isRow κ ma (mA (mA (mA (tst M Gm) 0 (uI (M 0) c v)) 1 (uI (M 1) c (M 1 c))) 2 (uI (M 2) c (M 2 c))) M c (by omega) (show M 4 0 ≤ 990000 by omega) (by rw [hC]; exact oth_ok ok (by omega)) hn hro (fun _ _ _ => rfl)) cal_X6_isRow lm_X6_298 0 rfl rfl rfl rfl (by decide) rfl (Nat.le_of_ble_eq_true rfl) dX6_whose_139 (fun r139 ws139 _ hr139 => ?_)
                  obtain ⟨rfl, rfl⟩ := hr139
                  refine g_top (y := iI (b2i (rowI (cl (mA (mA (mA (tst M Gm) 0 (uI (M 0) c v)) 1 (uI (M 1) c (M 1 c))) 2 (uI (M 2) c (M 2 c)))) (M 37) c (M 38 0)))) rfl ?_
                  refine g_istore F (lv' := [(7, .int (iI (b2i (rowI (cl (mA (mA (mA (tst M Gm) 0 (uI (M 0) c v)) 1 (uI (M 1) c (M 1 c))) 2 (uI (M 2) c (M 2 c)))) (M 37) c (M 38 0))))), (6, .int (iI v)), (5, .int (iI m)), (4, .int (iI b)), (0, .ref (ma 100)), (1, .int (iI c)), (2, .int (iI w))]) dX6_whose_142 (by decide) rfl ?_
                  refine g_iload F 3 dX6_whose_144 rfl ?_
                  refine g_iload F 0 dX6_whose_146 rfl ?_
                  refine g_if_eq F 163 (b2i_in _) dX6_whose_148 (by decide) (fun c148 => ?_) (fun c148 => ?_)
                  · skip
                    have c148 : ¬ (rowI (cl (mA (mA (mA (tst M Gm) 0 (uI (M 0) c v)) 1 (uI (M 1) c (M 1 c))) 2 (uI (M 2) c (M 2 c)))) (M 37) c (M 38 0)) := b2i_f c148
                    refine g_iconst F dX6_whose_163 ?_
                    refine g_ior F dX6_whose_164 ?_
                    refine g_top (y := iI b) (by rw [iI_bor hbb.1 (by decide), bor_0 hbb.1]) ?_
                    refine g_istore F (lv' := [(4, .int (iI b)), (7, .int (iI (b2i (rowI (cl (mA (mA (mA (tst M Gm) 0 (uI (M 0) c v)) 1 (uI (M 1) c (M 1 c))) 2 (uI (M 2) c (M 2 c)))) (M 37) c (M 38 0))))), (6, .int (iI v)), (5, .int (iI m)), (0, .ref (ma 100)), (1, .int (iI c)), (2, .int (iI w))]) dX6_whose_165 (by decide) rfl ?_
                    refine g_iload F 3 dX6_whose_167 rfl ?_
                    refine g_iload F 1 dX6_whose_169 rfl ?_
                    refine g_if_eq F 178 (b2i_in _) dX6_whose_171 (by decide) (fun c171 => ?_) (fun c171 => ?_)
                    · skip
                      have c171 : ¬ (rowI (cl (mA (mA (mA (tst M Gm) 0 (uI (M 0) c v)) 1 (uI (M 1) c (M 1 c))) 2 (uI (M 2) c (M 2 c)))) (M 37) c (M 38 0)) := b2i_f c171
                      refine g_iconst F dX6_whose_178 ?_
                      refine g_iadd F dX6_whose_179 ?_
                      refine g_istore F (lv' := [(5, .int (iI (m + 0))), (4, .int (iI b)), (7, .int (iI (b2i (rowI (cl (mA (mA (mA (tst M Gm) 0 (uI (M 0) c v)) 1 (uI (M 1) c (M 1 c))) 2 (uI (M 2) c (M 2 c)))) (M 37) c (M 38 0))))), (6, .int (iI v)), (0, .ref (ma 100)), (1, .int (iI c)), (2, .int (iI w))]) dX6_whose_180 (by decide) rfl ?_
                      refine g_iinc F (lv' := [(6, .int (iI (v + 1))), (5, .int (iI (m + 0))), (4, .int (iI b)), (7, .int (iI (b2i (rowI (cl (mA (mA (mA (tst M Gm) 0 (uI (M 0) c v)) 1 (uI (M 1) c (M 1 c))) 2 (uI (M 2) c (M 2 c)))) (M 37) c (M 38 0))))), (0, .ref (ma 100)), (1, .int (iI c)), (2, .int (iI w))]) 3 dX6_whose_182 rfl (by decide) rfl ?_
                      refine g_goto F 46 dX6_whose_185 (by decide) ?_
                      refine g_sub F (lv' := [(6, .int (iI (v + 1))), (5, .int (iI (m + 0))), (4, .int (iI b)), (0, .ref (ma 100)), (1, .int (iI c)), (2, .int (iI w))]) [0, 1, 2, 4, 5, 6] rfl ?_
                      refine g_ws (ws' := mw κ ma (tst M (agn (mA (mA (mA (tst M Gm) 0 (uI (M 0) c v)) 1 (uI (M 1) c (M 1 c))) 2 (uI (M 2) c (M 2 c))) M))) rfl ?_
                      exact ih46 _ (by omega) (v + 1) b (m + 0) (agn (mA (mA (mA (tst M Gm) 0 (uI (M 0) c v)) 1 (uI (M 1) c (M 1 c))) 2 (uI (M 2) c (M 2 c))) M) rfl (by omega) (by first | (exfalso; omega) | (rw [if_pos (show w = 2 by omega)] at hb ⊢; omega) | (rw [if_neg (show ¬ w = 2 by omega)] at hb ⊢; rw [sumI_s _ hv.1, ← hb]; unfold wsb; first | rw [if_pos (by rw [← hC]; exact c148)] | (rw [if_neg (by rw [← hC]; exact c148)]; omega))) (by omega) (by first | (exfalso; omega) | (rw [sumI_s _ hv.1, ← hm]; unfold wsf; first | rw [if_pos (by rw [← hC]; exact c148)] | rw [if_neg (by rw [← hC]; exact c148)])) (by omega)
                    · skip
                      have c171 : rowI (cl (mA (mA (mA (tst M Gm) 0 (uI (M 0) c v)) 1 (uI (M 1) c (M 1 c))) 2 (uI (M 2) c (M 2 c)))) (M 37) c (M 38 0) := b2i_t c171
                      exact absurd trivial (by omega)
                  · skip
                    have c148 : rowI (cl (mA (mA (mA (tst M Gm) 0 (uI (M 0) c v)) 1 (uI (M 1) c (M 1 c))) 2 (uI (M 2) c (M 2 c)))) (M 37) c (M 38 0) := b2i_t c148
                    refine g_iload_n F 6 dX6_whose_151 rfl ?_
                    refine g_iconst F dX6_whose_152 ?_
                    refine g_icmp_ge F 163 (by omega) dX6_whose_153 (by decide) (fun c153 => ?_) (fun c153 => ?_)
                    · skip
                      exact absurd trivial (by omega)
                    · skip
                      refine g_iconst F dX6_whose_156 ?_
                      refine g_iload F 1 dX6_whose_157 rfl ?_
                      refine g_ishl F dX6_whose_159 ?_
                      refine g_top (y := iI (p2 v)) (iI_shl1 (by omega) (by omega)) ?_
                      refine g_goto F 164 dX6_whose_160 (by decide) ?_
                      refine g_ior F dX6_whose_164 ?_
                      refine g_top (y := iI (b + p2 v)) (by rw [iI_bor hbb.1 (by omega), bor_p2 hbb.1 (hbb.2 (by omega))]) ?_
                      refine g_istore F (lv' := [(4, .int (iI (b + p2 v))), (7, .int (iI (b2i (rowI (cl (mA (mA (mA (tst M Gm) 0 (uI (M 0) c v)) 1 (uI (M 1) c (M 1 c))) 2 (uI (M 2) c (M 2 c)))) (M 37) c (M 38 0))))), (6, .int (iI v)), (5, .int (iI m)), (0, .ref (ma 100)), (1, .int (iI c)), (2, .int (iI w))]) dX6_whose_165 (by decide) rfl ?_
                      refine g_iload F 3 dX6_whose_167 rfl ?_
                      refine g_iload F 1 dX6_whose_169 rfl ?_
                      refine g_if_eq F 178 (b2i_in _) dX6_whose_171 (by decide) (fun c171 => ?_) (fun c171 => ?_)
                      · skip
                        have c171 : ¬ (rowI (cl (mA (mA (mA (tst M Gm) 0 (uI (M 0) c v)) 1 (uI (M 1) c (M 1 c))) 2 (uI (M 2) c (M 2 c)))) (M 37) c (M 38 0)) := b2i_f c171
                        exact absurd trivial (by omega)
                      · skip
                        have c171 : rowI (cl (mA (mA (mA (tst M Gm) 0 (uI (M 0) c v)) 1 (uI (M 1) c (M 1 c))) 2 (uI (M 2) c (M 2 c)))) (M 37) c (M 38 0) := b2i_t c171
                        refine g_iconst F dX6_whose_174 ?_
                        refine g_goto F 179 dX6_whose_175 (by decide) ?_
                        refine g_iadd F dX6_whose_179 ?_
                        refine g_istore F (lv' := [(5, .int (iI (m + 1))), (4, .int (iI (b + p2 v))), (7, .int (iI (b2i (rowI (cl (mA (mA (mA (tst M Gm) 0 (uI (M 0) c v)) 1 (uI (M 1) c (M 1 c))) 2 (uI (M 2) c (M 2 c)))) (M 37) c (M 38 0))))), (6, .int (iI v)), (0, .ref (ma 100)), (1, .int (iI c)), (2, .int (iI w))]) dX6_whose_180 (by decide) rfl ?_
                        refine g_iinc F (lv' := [(6, .int (iI (v + 1))), (5, .int (iI (m + 1))), (4, .int (iI (b + p2 v))), (7, .int (iI (b2i (rowI (cl (mA (mA (mA (tst M Gm) 0 (uI (M 0) c v)) 1 (uI (M 1) c (M 1 c))) 2 (uI (M 2) c (M 2 c)))) (M 37) c (M 38 0))))), (0, .ref (ma 100)), (1, .int (iI c)), (2, .int (iI w))]) 3 dX6_whose_182 rfl (by decide) rfl ?_
                        refine g_goto F 46 dX6_whose_185 (by decide) ?_
                        refine g_sub F (lv' := [(6, .int (iI (v + 1))), (5, .int (iI (m + 1))), (4, .int (iI (b + p2 v))), (0, .ref (ma 100)), (1, .int (iI c)), (2, .int (iI w))]) [0, 1, 2, 4, 5, 6] rfl ?_
                        refine g_ws (ws' := mw κ ma (tst M (agn (mA (mA (mA (tst M Gm) 0 (uI (M 0) c v)) 1 (uI (M 1) c (M 1 c))) 2 (uI (M 2) c (M 2 c))) M))) rfl ?_
                        exact ih46 _ (by omega) (v + 1) (b + p2 v) (m + 1) (agn (mA (mA (mA (tst M Gm) 0 (uI (M 0) c v)) 1 (uI (M 1) c (M 1 c))) 2 (uI (M 2) c (M 2 c))) M) rfl (by omega) (by first | (exfalso; omega) | (rw [if_pos (show w = 2 by omega)] at hb ⊢; omega) | (rw [if_neg (show ¬ w = 2 by omega)] at hb ⊢; rw [sumI_s _ hv.1, ← hb]; unfold wsb; first | rw [if_pos (by rw [← hC]; exact c148)] | (rw [if_neg (by rw [← hC]; exact c148)]; omega))) (by omega) (by first | (exfalso; omega) | (rw [sumI_s _ hv.1, ← hm]; unfold wsf; first | rw [if_pos (by rw [← hC]; exact c148)] | rw [if_neg (by rw [← hC]; exact c148)])) (by omega)
                · skip
                  exact absurd trivial (by omega)
              · skip
                exact absurd trivial (by omega)
      refine g_sub F (lv' := [(6, .int (iI 0)), (5, .int (iI 0)), (4, .int (iI 0)), (0, .ref (ma 100)), (1, .int (iI c)), (2, .int (iI w))]) [0, 1, 2, 4, 5, 6] rfl ?_
      refine g_ws (ws' := mw κ ma (tst M (thk (mA M 10 (fun _ => 0))))) (by unfold thk; rw [snapF_mA (by decide)]; rfl) ?_
      exact L46 _ 0 0 0 (thk (mA M 10 (fun _ => 0))) rfl (by omega) (by split <;> rfl) (by omega) rfl (by omega)
    · skip
      refine g_aload_n F 1 dX6_whose_27 rfl ?_
      refine g_iload_n F 0 dX6_whose_28 rfl ?_
      refine g_callI F (stk := [.int (iI (wbit (-1) w 2)), .ref (ma 100)]) (st := []) (k_X6_refuse κ ma (mA M 10 (fun _ => 0)) (wbit (-1) w 2) (by omega)) cal_X6_refuse lm_X6_138 0 rfl rfl rfl rfl (by decide) rfl (Nat.le_of_ble_eq_true rfl) dX6_whose_29 (fun r29 ws29 _ hr29 => ?_)
      obtain ⟨rfl, rfl⟩ := hr29
      refine g_top (y := iI (wbit (-1) w 2)) rfl ?_
      refine g_ws (ws' := mw κ ma (mA (mA M 10 (fun _ => 0)) 11 (uI (M 11) (-(wbit (-1) w 2)) (M 11 (-(wbit (-1) w 2)) + 1)))) rfl ?_
      have hq : (wbit (-1) w 2) = qWhose (cl M) (M 37) (M 38 0) c w := by unfold qWhose; (repeat' split) <;> omega
      exact K mw_same ⟨_, rfl, iIc hq, ⟨rfl, rfl, rfl, rfl, rfl, rfl, rfl, rfl, rfl, rfl, rfl, rfl, rfl, rfl, rfl, rfl, rfl, rfl⟩, (by rw [← hq]; exact (rfa_r (by omega)).symm)⟩ rfl dX6_whose_32
  · skip
    have c9 : 0 ≤ c ∧ c < 12 := b2i_t c9
    refine g_iconst F dX6_whose_12 ?_
    refine g_goto F 17 dX6_whose_13 (by decide) ?_
    refine g_iload_n F 2 dX6_whose_17 rfl ?_
    refine g_iconst F dX6_whose_18 ?_
    refine g_callSI F (stk := [.int (iI 2), .int (iI w), .int (iI 0)]) (st := []) (k_X6_wrongBit κ (mw κ ma (mA M 10 (fun _ => 0))) 0 w 2 (by omega)) cal_X6_wrongBit lm_X6_247 rfl (by decide) rfl (Nat.le_of_ble_eq_true rfl) dX6_whose_19 (fun r19 ws19 _ hr19 => ?_)
    obtain ⟨rfl, rfl⟩ := hr19
    have hwb19 := wb_spec 0 w 2
    refine g_istore_n F (lv' := [(3, .int (iI (wbit 0 w 2))), (0, .ref (ma 100)), (1, .int (iI c)), (2, .int (iI w))]) 3 dX6_whose_22 rfl (by decide) rfl ?_
    refine g_iload_n F 0 dX6_whose_23 rfl ?_
    refine g_if_ge F 33 (by omega) dX6_whose_24 (by decide) (fun c24 => ?_) (fun c24 => ?_)
    · skip
      refine g_iconst F dX6_whose_33 ?_
      refine g_istore F (lv' := [(4, .int (iI 0)), (3, .int (iI (wbit 0 w 2))), (0, .ref (ma 100)), (1, .int (iI c)), (2, .int (iI w))]) dX6_whose_34 (by decide) rfl ?_
      refine g_iconst F dX6_whose_36 ?_
      refine g_istore F (lv' := [(5, .int (iI 0)), (4, .int (iI 0)), (3, .int (iI (wbit 0 w 2))), (0, .ref (ma 100)), (1, .int (iI c)), (2, .int (iI w))]) dX6_whose_37 (by decide) rfl ?_
      refine g_aload_n F 3 dX6_whose_39 rfl ?_
      refine g_callV F (stk := [.ref (ma 100)]) (st := []) (k_X6_think κ ma (mA M 10 (fun _ => 0))) cal_X6_think lm_X6_191 0 rfl rfl rfl rfl (by decide) rfl (Nat.le_of_ble_eq_true rfl) dX6_whose_40 (fun ws40 _ hr40 => ?_)
      obtain rfl := hr40
      refine g_ws (ws' := mw κ ma (thk (mA M 10 (fun _ => 0)))) rfl ?_
      refine g_iconst F dX6_whose_43 ?_
      refine g_istore F (lv' := [(6, .int (iI 0)), (5, .int (iI 0)), (4, .int (iI 0)), (3, .int (iI (wbit 0 w 2))), (0, .ref (ma 100)), (1, .int (iI c)), (2, .int (iI w))]) dX6_whose_44 (by decide) rfl ?_
      have L46 : ∀ (mz46 : Nat) (v : Int) (b : Int) (m : Int) (Gm : MS), (100 - v).toNat = mz46 → (0 ≤ v ∧ v ≤ 100 ∧ (w = 0 → v ≤ 6) ∧ (w = 1 → v ≤ 10)) → (b = if w = 2 then 0 else sumI (wsb (cl M) (M 37) (M 38 0) c w) v) → (0 ≤ b) → (m = sumI (wsf (cl M) (M 37) (M 38 0) c w) v) → (0 ≤ m ∧ m ≤ v) → G E (mw κ ma (tst M Gm)) [(6, .int (iI v)), (5, .int (iI m)), (4, .int (iI b)), (0, .ref (ma 100)), (1, .int (iI c)), (2, .int (iI w))] 46 [] := by
        intro mz46
        induction mz46 using Nat.strongRecOn with
        | _ mz46 ih46 =>
        intro v b m Gm hmz46 hv hb hb0 hm hmb
        refine g_iload F 0 dX6_whose_46 rfl ?_
        refine g_iload_n F 5 dX6_whose_48 rfl ?_
        refine g_if_ne F 57 (by omega) dX6_whose_49 (by decide) (fun c49 => ?_) (fun c49 => ?_)
        · skip
          refine g_iload_n F 5 dX6_whose_57 rfl ?_
          refine g_iconst F dX6_whose_58 ?_
          refine g_icmp_ne F 67 (by omega) dX6_whose_59 (by decide) (fun c59 => ?_) (fun c59 => ?_)
          · skip
            refine g_bipush F dX6_whose_67 (by decide +kernel) ?_
            refine g_icmp_ge F 188 (by omega) dX6_whose_69 (by decide) (fun c69 => ?_) (fun c69 => ?_)
            · skip
              have hbz : 0 ≤ b := hb0
              refine g_iload_n F 5 dX6_whose_188 rfl ?_
              refine g_iconst F dX6_whose_189 ?_
              refine g_icmp_ne F 198 (by omega) dX6_whose_190 (by decide) (fun c190 => ?_) (fun c190 => ?_)
              · skip
                refine g_iload F 2 dX6_whose_198 rfl ?_
                have hq : b = qWhose (cl M) (M 37) (M 38 0) c w := by unfold qWhose; rw [if_neg (by omega), if_neg (by omega)]; first | (exfalso; omega) | (rw [if_pos (by omega), hm, show v = 100 by omega]) | (rw [if_neg (by omega), hb, if_neg (by omega), show v = (if w = 0 then 6 else 10) by split <;> omega])
                exact K mw_same ⟨_, rfl, iIc hq, ⟨rfl, rfl, rfl, rfl, rfl, rfl, rfl, rfl, rfl, rfl, rfl, rfl, rfl, rfl, rfl, rfl, rfl, rfl⟩, (by rw [← hq]; show M 11 = _; exact (rfa_n (by omega)).symm)⟩ rfl dX6_whose_200
              · skip
                refine g_iload F 1 dX6_whose_193 rfl ?_
                refine g_goto F 200 dX6_whose_195 (by decide) ?_
                have hq : m = qWhose (cl M) (M 37) (M 38 0) c w := by unfold qWhose; rw [if_neg (by omega), if_neg (by omega)]; first | (exfalso; omega) | (rw [if_pos (by omega), hm, show v = 100 by omega]) | (rw [if_neg (by omega), hb, if_neg (by omega), show v = (if w = 0 then 6 else 10) by split <;> omega])
                exact K mw_same ⟨_, rfl, iIc hq, ⟨rfl, rfl, rfl, rfl, rfl, rfl, rfl, rfl, rfl, rfl, rfl, rfl, rfl, rfl, rfl, rfl, rfl, rfl⟩, (by rw [← hq]; show M 11 = _; exact (rfa_n (by omega)).symm)⟩ rfl dX6_whose_200
            · skip
              have hk : (0 ≤ M 0 c ∧ M 0 c ≤ 5) ∧ (0 ≤ M 1 c ∧ M 1 c ≤ 9) ∧ (0 ≤ M 2 c ∧ M 2 c ≤ 99) ∧ 0 ≤ M 3 c ∧ M 3 c ≤ 99 := ok.r (by omega) (by omega)
              refine g_aload_n F 3 dX6_whose_72 rfl ?_
              refine gm_get_0 F dX6_whose_73 ?_
              refine g_iload_n F 4 dX6_whose_76 rfl ?_
              refine g_iload_n F 5 dX6_whose_77 rfl ?_
              refine g_if_ne F 86 (by omega) dX6_whose_78 (by decide) (fun c78 => ?_) (fun c78 => ?_)
              · skip
                refine g_aload_n F 3 dX6_whose_86 rfl ?_
                refine gm_get_0 F dX6_whose_87 ?_
                refine g_iload_n F 4 dX6_whose_90 rfl ?_
                refine gm_ald_0 F (by omega) dX6_whose_91 ?_
                refine g_top (y := iI (M 0 c)) rfl ?_
                refine gm_ast_0 F (by omega) dX6_whose_92 ?_
                refine g_ws (ws' := mw κ ma (mA (tst M Gm) 0 (uI (M 0) c (M 0 c)))) rfl ?_
                refine g_aload_n F 3 dX6_whose_93 rfl ?_
                refine gm_get_1 F dX6_whose_94 ?_
                refine g_iload_n F 4 dX6_whose_97 rfl ?_
                refine g_iload_n F 5 dX6_whose_98 rfl ?_
                refine g_iconst F dX6_whose_99 ?_
                refine g_icmp_ne F 108 (by omega) dX6_whose_100 (by decide) (fun c100 => ?_) (fun c100 => ?_)
                · skip
                  refine g_aload_n F 3 dX6_whose_108 rfl ?_
                  refine gm_get_1 F dX6_whose_109 ?_
                  refine g_iload_n F 4 dX6_whose_112 rfl ?_
                  refine gm_ald_1 F (by omega) dX6_whose_113 ?_
                  refine g_top (y := iI (M 1 c)) rfl ?_
                  refine gm_ast_1 F (by omega) dX6_whose_114 ?_
                  refine g_ws (ws' := mw κ ma (mA (mA (tst M Gm) 0 (uI (M 0) c (M 0 c))) 1 (uI (M 1) c (M 1 c)))) rfl ?_
                  refine g_aload_n F 3 dX6_whose_115 rfl ?_
                  refine gm_get_2 F dX6_whose_116 ?_
                  refine g_iload_n F 4 dX6_whose_119 rfl ?_
                  refine g_iload_n F 5 dX6_whose_120 rfl ?_
                  refine g_iconst F dX6_whose_121 ?_
                  refine g_icmp_ne F 130 (by omega) dX6_whose_122 (by decide) (fun c122 => ?_) (fun c122 => ?_)
                  · skip
                    refine g_aload_n F 3 dX6_whose_130 rfl ?_
                    refine gm_get_2 F dX6_whose_131 ?_
                    refine g_iload_n F 4 dX6_whose_134 rfl ?_
                    refine gm_ald_2 F (by omega) dX6_whose_135 ?_
                    refine g_top (y := iI (M 2 c)) rfl ?_
                    refine gm_ast_2 F (by omega) dX6_whose_136 ?_
                    refine g_ws (ws' := mw κ ma (mA (mA (mA (tst M Gm) 0 (uI (M 0) c (M 0 c))) 1 (uI (M 1) c (M 1 c))) 2 (uI (M 2) c (M 2 c)))) rfl ?_
                    have hC : cl (mA (mA (mA (tst M Gm) 0 (uI (M 0) c (M 0 c))) 1 (uI (M 1) c (M 1 c))) 2 (uI (M 2) c (M 2 c))) = oth (cl M) w c v := by first | (exfalso; omega) | (rw [oth_0 (by omega)]; show (uI (M 0) c v, uI (M 1) c (M 1 c), uI (M 2) c (M 2 c), M 3, M 4 0) = (uI (M 0) c v, M 1, M 2, M 3, M 4 0); rw [uI_self, uI_self]) | (rw [oth_1 (by omega)]; show (uI (M 0) c (M 0 c), uI (M 1) c v, uI (M 2) c (M 2 c), M 3, M 4 0) = (M 0, uI (M 1) c v, M 2, M 3, M 4 0); rw [uI_self, uI_self]) | (rw [oth_2 (by omega) (by omega)]; show (uI (M 0) c (M 0 c), uI (M 1) c (M 1 c), uI (M 2) c v, M 3, M 4 0) = (M 0, M 1, uI (M 2) c v, M 3, M 4 0); rw [uI_self, uI_self])
                    have hbb : 0 ≤ b ∧ (w ≠ 2 → b < p2 v) := by have k := wsb_bd (cl M) (M 37) (M 38 0) c w hv.1; have p := p2_pos v; rw [hb]; split <;> omega
                    have hp2 := p2_pos v
                    refine g_aload_n F 3 dX6_whose_137 rfl ?_
                    refine g_iload_n F 4 dX6_whose_138 rfl ?_
                    refine g_callI F (stk := [.int (iI c), .ref (ma 100)]) (st := []) (k_X6_isRow κ ma (mA (mA (mA (tst M Gm) 0 (uI (M 0) c (M 0 c))) 1 (uI (M 1) c (M 1 c))) 2 (uI (M 2) c (M 2 c))) M c (by omega) (show M 4 0 ≤ 990000 by omega) (by rw [hC]; exact oth_ok ok (by omega)) hn hro (fun _ _ _ => rfl)) cal_X6_isRow lm_X6_298 0 rfl rfl rfl rfl (by decide) rfl (Nat.le_of_ble_eq_true rfl) dX6_whose_139 (fun r139 ws139 _ hr139 => ?_)
                    obtain ⟨rfl, rfl⟩ := hr139
                    refine g_top (y := iI (b2i (rowI (cl (mA (mA (mA (tst M Gm) 0 (uI (M 0) c (M 0 c))) 1 (uI (M 1) c (M 1 c))) 2 (uI (M 2) c (M 2 c)))) (M 37) c (M 38 0)))) rfl ?_
                    refine g_istore F (lv' := [(7, .int (iI (b2i (rowI (cl (mA (mA (mA (tst M Gm) 0 (uI (M 0) c (M 0 c))) 1 (uI (M 1) c (M 1 c))) 2 (uI (M 2) c (M 2 c)))) (M 37) c (M 38 0))))), (6, .int (iI v)), (5, .int (iI m)), (4, .int (iI b)), (0, .ref (ma 100)), (1, .int (iI c)), (2, .int (iI w))]) dX6_whose_142 (by decide) rfl ?_
                    refine g_iload F 3 dX6_whose_144 rfl ?_
                    refine g_iload F 0 dX6_whose_146 rfl ?_
                    refine g_if_eq F 163 (b2i_in _) dX6_whose_148 (by decide) (fun c148 => ?_) (fun c148 => ?_)
                    · skip
                      have c148 : ¬ (rowI (cl (mA (mA (mA (tst M Gm) 0 (uI (M 0) c (M 0 c))) 1 (uI (M 1) c (M 1 c))) 2 (uI (M 2) c (M 2 c)))) (M 37) c (M 38 0)) := b2i_f c148
                      refine g_iconst F dX6_whose_163 ?_
                      refine g_ior F dX6_whose_164 ?_
                      refine g_top (y := iI b) (by rw [iI_bor hbb.1 (by decide), bor_0 hbb.1]) ?_
                      refine g_istore F (lv' := [(4, .int (iI b)), (7, .int (iI (b2i (rowI (cl (mA (mA (mA (tst M Gm) 0 (uI (M 0) c (M 0 c))) 1 (uI (M 1) c (M 1 c))) 2 (uI (M 2) c (M 2 c)))) (M 37) c (M 38 0))))), (6, .int (iI v)), (5, .int (iI m)), (0, .ref (ma 100)), (1, .int (iI c)), (2, .int (iI w))]) dX6_whose_165 (by decide) rfl ?_
                      refine g_iload F 3 dX6_whose_167 rfl ?_
                      refine g_iload F 1 dX6_whose_169 rfl ?_
                      refine g_if_eq F 178 (b2i_in _) dX6_whose_171 (by decide) (fun c171 => ?_) (fun c171 => ?_)
                      · skip
                        have c171 : ¬ (rowI (cl (mA (mA (mA (tst M Gm) 0 (uI (M 0) c (M 0 c))) 1 (uI (M 1) c (M 1 c))) 2 (uI (M 2) c (M 2 c)))) (M 37) c (M 38 0)) := b2i_f c171
                        refine g_iconst F dX6_whose_178 ?_
                        refine g_iadd F dX6_whose_179 ?_
                        refine g_istore F (lv' := [(5, .int (iI (m + 0))), (4, .int (iI b)), (7, .int (iI (b2i (rowI (cl (mA (mA (mA (tst M Gm) 0 (uI (M 0) c (M 0 c))) 1 (uI (M 1) c (M 1 c))) 2 (uI (M 2) c (M 2 c)))) (M 37) c (M 38 0))))), (6, .int (iI v)), (0, .ref (ma 100)), (1, .int (iI c)), (2, .int (iI w))]) dX6_whose_180 (by decide) rfl ?_
                        refine g_iinc F (lv' := [(6, .int (iI (v + 1))), (5, .int (iI (m + 0))), (4, .int (iI b)), (7, .int (iI (b2i (rowI (cl (mA (mA (mA (tst M Gm) 0 (uI (M 0) c (M 0 c))) 1 (uI (M 1) c (M 1 c))) 2 (uI (M 2) c (M 2 c)))) (M 37) c (M 38 0))))), (0, .ref (ma 100)), (1, .int (iI c)), (2, .int (iI w))]) 3 dX6_whose_182 rfl (by decide) rfl ?_
                        refine g_goto F 46 dX6_whose_185 (by decide) ?_
                        refine g_sub F (lv' := [(6, .int (iI (v + 1))), (5, .int (iI (m + 0))), (4, .int (iI b)), (0, .ref (ma 100)), (1, .int (iI c)), (2, .int (iI w))]) [0, 1, 2, 4, 5, 6] rfl ?_
                        refine g_ws (ws' := mw κ ma (tst M (agn (mA (mA (mA (tst M Gm) 0 (uI (M 0) c (M 0 c))) 1 (uI (M 1) c (M 1 c))) 2 (uI (M 2) c (M 2 c))) M))) rfl ?_
                        exact ih46 _ (by omega) (v + 1) b (m + 0) (agn (mA (mA (mA (tst M Gm) 0 (uI (M 0) c (M 0 c))) 1 (uI (M 1) c (M 1 c))) 2 (uI (M 2) c (M 2 c))) M) rfl (by omega) (by first | (exfalso; omega) | (rw [if_pos (show w = 2 by omega)] at hb ⊢; omega) | (rw [if_neg (show ¬ w = 2 by omega)] at hb ⊢; rw [sumI_s _ hv.1, ← hb]; unfold wsb; first | rw [if_pos (by rw [← hC]; exact c148)] | (rw [if_neg (by rw [← hC]; exact c148)]; omega))) (by omega) (by first | (exfalso; omega) | (rw [sumI_s _ hv.1, ← hm]; unfold wsf; first | rw [if_pos (by rw [← hC]; exact c148)] | rw [if_neg (by rw [← hC]; exact c148)])) (by omega)
                      · skip
                        have c171 : rowI (cl (mA (mA (mA (tst M Gm) 0 (uI (M 0) c (M 0 c))) 1 (uI (M 1) c (M 1 c))) 2 (uI (M 2) c (M 2 c)))) (M 37) c (M 38 0) := b2i_t c171
                        exact absurd trivial (by omega)
                    · skip
                      have c148 : rowI (cl (mA (mA (mA (tst M Gm) 0 (uI (M 0) c (M 0 c))) 1 (uI (M 1) c (M 1 c))) 2 (uI (M 2) c (M 2 c)))) (M 37) c (M 38 0) := b2i_t c148
                      refine g_iload_n F 6 dX6_whose_151 rfl ?_
                      refine g_iconst F dX6_whose_152 ?_
                      refine g_icmp_ge F 163 (by omega) dX6_whose_153 (by decide) (fun c153 => ?_) (fun c153 => ?_)
                      · skip
                        refine g_iconst F dX6_whose_163 ?_
                        refine g_ior F dX6_whose_164 ?_
                        refine g_top (y := iI b) (by rw [iI_bor hbb.1 (by decide), bor_0 hbb.1]) ?_
                        refine g_istore F (lv' := [(4, .int (iI b)), (7, .int (iI (b2i (rowI (cl (mA (mA (mA (tst M Gm) 0 (uI (M 0) c (M 0 c))) 1 (uI (M 1) c (M 1 c))) 2 (uI (M 2) c (M 2 c)))) (M 37) c (M 38 0))))), (6, .int (iI v)), (5, .int (iI m)), (0, .ref (ma 100)), (1, .int (iI c)), (2, .int (iI w))]) dX6_whose_165 (by decide) rfl ?_
                        refine g_iload F 3 dX6_whose_167 rfl ?_
                        refine g_iload F 1 dX6_whose_169 rfl ?_
                        refine g_if_eq F 178 (b2i_in _) dX6_whose_171 (by decide) (fun c171 => ?_) (fun c171 => ?_)
                        · skip
                          have c171 : ¬ (rowI (cl (mA (mA (mA (tst M Gm) 0 (uI (M 0) c (M 0 c))) 1 (uI (M 1) c (M 1 c))) 2 (uI (M 2) c (M 2 c)))) (M 37) c (M 38 0)) := b2i_f c171
                          exact absurd trivial (by omega)
                        · skip
                          have c171 : rowI (cl (mA (mA (mA (tst M Gm) 0 (uI (M 0) c (M 0 c))) 1 (uI (M 1) c (M 1 c))) 2 (uI (M 2) c (M 2 c)))) (M 37) c (M 38 0) := b2i_t c171
                          refine g_iconst F dX6_whose_174 ?_
                          refine g_goto F 179 dX6_whose_175 (by decide) ?_
                          refine g_iadd F dX6_whose_179 ?_
                          refine g_istore F (lv' := [(5, .int (iI (m + 1))), (4, .int (iI b)), (7, .int (iI (b2i (rowI (cl (mA (mA (mA (tst M Gm) 0 (uI (M 0) c (M 0 c))) 1 (uI (M 1) c (M 1 c))) 2 (uI (M 2) c (M 2 c)))) (M 37) c (M 38 0))))), (6, .int (iI v)), (0, .ref (ma 100)), (1, .int (iI c)), (2, .int (iI w))]) dX6_whose_180 (by decide) rfl ?_
                          refine g_iinc F (lv' := [(6, .int (iI (v + 1))), (5, .int (iI (m + 1))), (4, .int (iI b)), (7, .int (iI (b2i (rowI (cl (mA (mA (mA (tst M Gm) 0 (uI (M 0) c (M 0 c))) 1 (uI (M 1) c (M 1 c))) 2 (uI (M 2) c (M 2 c)))) (M 37) c (M 38 0))))), (0, .ref (ma 100)), (1, .int (iI c)), (2, .int (iI w))]) 3 dX6_whose_182 rfl (by decide) rfl ?_
                          refine g_goto F 46 dX6_whose_185 (by decide) ?_
                          refine g_sub F (lv' := [(6, .int (iI (v + 1))), (5, .int (iI (m + 1))), (4, .int (iI b)), (0, .ref (ma 100)), (1, .int (iI c)), (2, .int (iI w))]) [0, 1, 2, 4, 5, 6] rfl ?_
                          refine g_ws (ws' := mw κ ma (tst M (agn (mA (mA (mA (tst M Gm) 0 (uI (M 0) c (M 0 c))) 1 (uI (M 1) c (M 1 c))) 2 (uI (M 2) c (M 2 c))) M))) rfl ?_
                          exact ih46 _ (by omega) (v + 1) b (m + 1) (agn (mA (mA (mA (tst M Gm) 0 (uI (M 0) c (M 0 c))) 1 (uI (M 1) c (M 1 c))) 2 (uI (M 2) c (M 2 c))) M) rfl (by omega) (by first | (exfalso; omega) | (rw [if_pos (show w = 2 by omega)] at hb ⊢; omega) | (rw [if_neg (show ¬ w = 2 by omega)] at hb ⊢; rw [sumI_s _ hv.1, ← hb]; unfold wsb; first | rw [if_pos (by rw [← hC]; exact c148)] | (rw [if_neg (by rw [← hC]; exact c148)]; omega))) (by omega) (by first | (exfalso; omega) | (rw [sumI_s _ hv.1, ← hm]; unfold wsf; first | rw [if_pos (by rw [← hC]; exact c148)] | rw [if_neg (by rw [← hC]; exact c148)])) (by omega)
                      · skip
                        refine g_iconst F dX6_whose_156 ?_
                        refine g_iload F 1 dX6_whose_157 rfl ?_
                        refine g_ishl F dX6_whose_159 ?_
                        refine g_top (y := iI (p2 v)) (iI_shl1 (by omega) (by omega)) ?_
                        refine g_goto F 164 dX6_whose_160 (by decide) ?_
                        refine g_ior F dX6_whose_164 ?_
                        refine g_top (y := iI (b + p2 v)) (by rw [iI_bor hbb.1 (by omega), bor_p2 hbb.1 (hbb.2 (by omega))]) ?_
                        refine g_istore F (lv' := [(4, .int (iI (b + p2 v))), (7, .int (iI (b2i (rowI (cl (mA (mA (mA (tst M Gm) 0 (uI (M 0) c (M 0 c))) 1 (uI (M 1) c (M 1 c))) 2 (uI (M 2) c (M 2 c)))) (M 37) c (M 38 0))))), (6, .int (iI v)), (5, .int (iI m)), (0, .ref (ma 100)), (1, .int (iI c)), (2, .int (iI w))]) dX6_whose_165 (by decide) rfl ?_
                        refine g_iload F 3 dX6_whose_167 rfl ?_
                        refine g_iload F 1 dX6_whose_169 rfl ?_
                        refine g_if_eq F 178 (b2i_in _) dX6_whose_171 (by decide) (fun c171 => ?_) (fun c171 => ?_)
                        · skip
                          have c171 : ¬ (rowI (cl (mA (mA (mA (tst M Gm) 0 (uI (M 0) c (M 0 c))) 1 (uI (M 1) c (M 1 c))) 2 (uI (M 2) c (M 2 c)))) (M 37) c (M 38 0)) := b2i_f c171
                          exact absurd trivial (by omega)
                        · skip
                          have c171 : rowI (cl (mA (mA (mA (tst M Gm) 0 (uI (M 0) c (M 0 c))) 1 (uI (M 1) c (M 1 c))) 2 (uI (M 2) c (M 2 c)))) (M 37) c (M 38 0) := b2i_t c171
                          refine g_iconst F dX6_whose_174 ?_
                          refine g_goto F 179 dX6_whose_175 (by decide) ?_
                          refine g_iadd F dX6_whose_179 ?_
                          refine g_istore F (lv' := [(5, .int (iI (m + 1))), (4, .int (iI (b + p2 v))), (7, .int (iI (b2i (rowI (cl (mA (mA (mA (tst M Gm) 0 (uI (M 0) c (M 0 c))) 1 (uI (M 1) c (M 1 c))) 2 (uI (M 2) c (M 2 c)))) (M 37) c (M 38 0))))), (6, .int (iI v)), (0, .ref (ma 100)), (1, .int (iI c)), (2, .int (iI w))]) dX6_whose_180 (by decide) rfl ?_
                          refine g_iinc F (lv' := [(6, .int (iI (v + 1))), (5, .int (iI (m + 1))), (4, .int (iI (b + p2 v))), (7, .int (iI (b2i (rowI (cl (mA (mA (mA (tst M Gm) 0 (uI (M 0) c (M 0 c))) 1 (uI (M 1) c (M 1 c))) 2 (uI (M 2) c (M 2 c)))) (M 37) c (M 38 0))))), (0, .ref (ma 100)), (1, .int (iI c)), (2, .int (iI w))]) 3 dX6_whose_182 rfl (by decide) rfl ?_
                          refine g_goto F 46 dX6_whose_185 (by decide) ?_
                          refine g_sub F (lv' := [(6, .int (iI (v + 1))), (5, .int (iI (m + 1))), (4, .int (iI (b + p2 v))), (0, .ref (ma 100)), (1, .int (iI c)), (2, .int (iI w))]) [0, 1, 2, 4, 5, 6] rfl ?_
                          refine g_ws (ws' := mw κ ma (tst M (agn (mA (mA (mA (tst M Gm) 0 (uI (M 0) c (M 0 c))) 1 (uI (M 1) c (M 1 c))) 2 (uI (M 2) c (M 2 c))) M))) rfl ?_
                          exact ih46 _ (by omega) (v + 1) (b + p2 v) (m + 1) (agn (mA (mA (mA (tst M Gm) 0 (uI (M 0) c (M 0 c))) 1 (uI (M 1) c (M 1 c))) 2 (uI (M 2) c (M 2 c))) M) rfl (by omega) (by first | (exfalso; omega) | (rw [if_pos (show w = 2 by omega)] at hb ⊢; omega) | (rw [if_neg (show ¬ w = 2 by omega)] at hb ⊢; rw [sumI_s _ hv.1, ← hb]; unfold wsb; first | rw [if_pos (by rw [← hC]; exact c148)] | (rw [if_neg (by rw [← hC]; exact c148)]; omega))) (by omega) (by first | (exfalso; omega) | (rw [sumI_s _ hv.1, ← hm]; unfold wsf; first | rw [if_pos (by rw [← hC]; exact c148)] | rw [if_neg (by rw [← hC]; exact c148)])) (by omega)
                  · skip
                    refine g_iload F 0 dX6_whose_125 rfl ?_
                    refine g_goto F 136 dX6_whose_127 (by decide) ?_
                    refine gm_ast_2 F (by omega) dX6_whose_136 ?_
                    refine g_ws (ws' := mw κ ma (mA (mA (mA (tst M Gm) 0 (uI (M 0) c (M 0 c))) 1 (uI (M 1) c (M 1 c))) 2 (uI (M 2) c v))) rfl ?_
                    have hC : cl (mA (mA (mA (tst M Gm) 0 (uI (M 0) c (M 0 c))) 1 (uI (M 1) c (M 1 c))) 2 (uI (M 2) c v)) = oth (cl M) w c v := by first | (exfalso; omega) | (rw [oth_0 (by omega)]; show (uI (M 0) c v, uI (M 1) c (M 1 c), uI (M 2) c (M 2 c), M 3, M 4 0) = (uI (M 0) c v, M 1, M 2, M 3, M 4 0); rw [uI_self, uI_self]) | (rw [oth_1 (by omega)]; show (uI (M 0) c (M 0 c), uI (M 1) c v, uI (M 2) c (M 2 c), M 3, M 4 0) = (M 0, uI (M 1) c v, M 2, M 3, M 4 0); rw [uI_self, uI_self]) | (rw [oth_2 (by omega) (by omega)]; show (uI (M 0) c (M 0 c), uI (M 1) c (M 1 c), uI (M 2) c v, M 3, M 4 0) = (M 0, M 1, uI (M 2) c v, M 3, M 4 0); rw [uI_self, uI_self])
                    have hbb : 0 ≤ b ∧ (w ≠ 2 → b < p2 v) := by have k := wsb_bd (cl M) (M 37) (M 38 0) c w hv.1; have p := p2_pos v; rw [hb]; split <;> omega
                    have hp2 := p2_pos v
                    refine g_aload_n F 3 dX6_whose_137 rfl ?_
                    refine g_iload_n F 4 dX6_whose_138 rfl ?_
                    refine g_callI F (stk := [.int (iI c), .ref (ma 100)]) (st := []) (k_X6_isRow κ ma (mA (mA (mA (tst M Gm) 0 (uI (M 0) c (M 0 c))) 1 (uI (M 1) c (M 1 c))) 2 (uI (M 2) c v)) M c (by omega) (show M 4 0 ≤ 990000 by omega) (by rw [hC]; exact oth_ok ok (by omega)) hn hro (fun _ _ _ => rfl)) cal_X6_isRow lm_X6_298 0 rfl rfl rfl rfl (by decide) rfl (Nat.le_of_ble_eq_true rfl) dX6_whose_139 (fun r139 ws139 _ hr139 => ?_)
                    obtain ⟨rfl, rfl⟩ := hr139
                    refine g_top (y := iI (b2i (rowI (cl (mA (mA (mA (tst M Gm) 0 (uI (M 0) c (M 0 c))) 1 (uI (M 1) c (M 1 c))) 2 (uI (M 2) c v))) (M 37) c (M 38 0)))) rfl ?_
                    refine g_istore F (lv' := [(7, .int (iI (b2i (rowI (cl (mA (mA (mA (tst M Gm) 0 (uI (M 0) c (M 0 c))) 1 (uI (M 1) c (M 1 c))) 2 (uI (M 2) c v))) (M 37) c (M 38 0))))), (6, .int (iI v)), (5, .int (iI m)), (4, .int (iI b)), (0, .ref (ma 100)), (1, .int (iI c)), (2, .int (iI w))]) dX6_whose_142 (by decide) rfl ?_
                    refine g_iload F 3 dX6_whose_144 rfl ?_
                    refine g_iload F 0 dX6_whose_146 rfl ?_
                    refine g_if_eq F 163 (b2i_in _) dX6_whose_148 (by decide) (fun c148 => ?_) (fun c148 => ?_)
                    · skip
                      have c148 : ¬ (rowI (cl (mA (mA (mA (tst M Gm) 0 (uI (M 0) c (M 0 c))) 1 (uI (M 1) c (M 1 c))) 2 (uI (M 2) c v))) (M 37) c (M 38 0)) := b2i_f c148
                      refine g_iconst F dX6_whose_163 ?_
                      refine g_ior F dX6_whose_164 ?_
                      refine g_top (y := iI b) (by rw [iI_bor hbb.1 (by decide), bor_0 hbb.1]) ?_
                      refine g_istore F (lv' := [(4, .int (iI b)), (7, .int (iI (b2i (rowI (cl (mA (mA (mA (tst M Gm) 0 (uI (M 0) c (M 0 c))) 1 (uI (M 1) c (M 1 c))) 2 (uI (M 2) c v))) (M 37) c (M 38 0))))), (6, .int (iI v)), (5, .int (iI m)), (0, .ref (ma 100)), (1, .int (iI c)), (2, .int (iI w))]) dX6_whose_165 (by decide) rfl ?_
                      refine g_iload F 3 dX6_whose_167 rfl ?_
                      refine g_iload F 1 dX6_whose_169 rfl ?_
                      refine g_if_eq F 178 (b2i_in _) dX6_whose_171 (by decide) (fun c171 => ?_) (fun c171 => ?_)
                      · skip
                        have c171 : ¬ (rowI (cl (mA (mA (mA (tst M Gm) 0 (uI (M 0) c (M 0 c))) 1 (uI (M 1) c (M 1 c))) 2 (uI (M 2) c v))) (M 37) c (M 38 0)) := b2i_f c171
                        refine g_iconst F dX6_whose_178 ?_
                        refine g_iadd F dX6_whose_179 ?_
                        refine g_istore F (lv' := [(5, .int (iI (m + 0))), (4, .int (iI b)), (7, .int (iI (b2i (rowI (cl (mA (mA (mA (tst M Gm) 0 (uI (M 0) c (M 0 c))) 1 (uI (M 1) c (M 1 c))) 2 (uI (M 2) c v))) (M 37) c (M 38 0))))), (6, .int (iI v)), (0, .ref (ma 100)), (1, .int (iI c)), (2, .int (iI w))]) dX6_whose_180 (by decide) rfl ?_
                        refine g_iinc F (lv' := [(6, .int (iI (v + 1))), (5, .int (iI (m + 0))), (4, .int (iI b)), (7, .int (iI (b2i (rowI (cl (mA (mA (mA (tst M Gm) 0 (uI (M 0) c (M 0 c))) 1 (uI (M 1) c (M 1 c))) 2 (uI (M 2) c v))) (M 37) c (M 38 0))))), (0, .ref (ma 100)), (1, .int (iI c)), (2, .int (iI w))]) 3 dX6_whose_182 rfl (by decide) rfl ?_
                        refine g_goto F 46 dX6_whose_185 (by decide) ?_
                        refine g_sub F (lv' := [(6, .int (iI (v + 1))), (5, .int (iI (m + 0))), (4, .int (iI b)), (0, .ref (ma 100)), (1, .int (iI c)), (2, .int (iI w))]) [0, 1, 2, 4, 5, 6] rfl ?_
                        refine g_ws (ws' := mw κ ma (tst M (agn (mA (mA (mA (tst M Gm) 0 (uI (M 0) c (M 0 c))) 1 (uI (M 1) c (M 1 c))) 2 (uI (M 2) c v)) M))) rfl ?_
                        exact ih46 _ (by omega) (v + 1) b (m + 0) (agn (mA (mA (mA (tst M Gm) 0 (uI (M 0) c (M 0 c))) 1 (uI (M 1) c (M 1 c))) 2 (uI (M 2) c v)) M) rfl (by omega) (by first | (exfalso; omega) | (rw [if_pos (show w = 2 by omega)] at hb ⊢; omega) | (rw [if_neg (show ¬ w = 2 by omega)] at hb ⊢; rw [sumI_s _ hv.1, ← hb]; unfold wsb; first | rw [if_pos (by rw [← hC]; exact c148)] | (rw [if_neg (by rw [← hC]; exact c148)]; omega))) (by omega) (by first | (exfalso; omega) | (rw [sumI_s _ hv.1, ← hm]; unfold wsf; first | rw [if_pos (by rw [← hC]; exact c148)] | rw [if_neg (by rw [← hC]; exact c148)])) (by omega)
                      · skip
                        have c171 : rowI (cl (mA (mA (mA (tst M Gm) 0 (uI (M 0) c (M 0 c))) 1 (uI (M 1) c (M 1 c))) 2 (uI (M 2) c v))) (M 37) c (M 38 0) := b2i_t c171
                        exact absurd trivial (by omega)
                    · skip
                      have c148 : rowI (cl (mA (mA (mA (tst M Gm) 0 (uI (M 0) c (M 0 c))) 1 (uI (M 1) c (M 1 c))) 2 (uI (M 2) c v))) (M 37) c (M 38 0) := b2i_t c148
                      refine g_iload_n F 6 dX6_whose_151 rfl ?_
                      refine g_iconst F dX6_whose_152 ?_
                      refine g_icmp_ge F 163 (by omega) dX6_whose_153 (by decide) (fun c153 => ?_) (fun c153 => ?_)
                      · skip
                        refine g_iconst F dX6_whose_163 ?_
                        refine g_ior F dX6_whose_164 ?_
                        refine g_top (y := iI b) (by rw [iI_bor hbb.1 (by decide), bor_0 hbb.1]) ?_
                        refine g_istore F (lv' := [(4, .int (iI b)), (7, .int (iI (b2i (rowI (cl (mA (mA (mA (tst M Gm) 0 (uI (M 0) c (M 0 c))) 1 (uI (M 1) c (M 1 c))) 2 (uI (M 2) c v))) (M 37) c (M 38 0))))), (6, .int (iI v)), (5, .int (iI m)), (0, .ref (ma 100)), (1, .int (iI c)), (2, .int (iI w))]) dX6_whose_165 (by decide) rfl ?_
                        refine g_iload F 3 dX6_whose_167 rfl ?_
                        refine g_iload F 1 dX6_whose_169 rfl ?_
                        refine g_if_eq F 178 (b2i_in _) dX6_whose_171 (by decide) (fun c171 => ?_) (fun c171 => ?_)
                        · skip
                          have c171 : ¬ (rowI (cl (mA (mA (mA (tst M Gm) 0 (uI (M 0) c (M 0 c))) 1 (uI (M 1) c (M 1 c))) 2 (uI (M 2) c v))) (M 37) c (M 38 0)) := b2i_f c171
                          exact absurd trivial (by omega)
                        · skip
                          have c171 : rowI (cl (mA (mA (mA (tst M Gm) 0 (uI (M 0) c (M 0 c))) 1 (uI (M 1) c (M 1 c))) 2 (uI (M 2) c v))) (M 37) c (M 38 0) := b2i_t c171
                          refine g_iconst F dX6_whose_174 ?_
                          refine g_goto F 179 dX6_whose_175 (by decide) ?_
                          refine g_iadd F dX6_whose_179 ?_
                          refine g_istore F (lv' := [(5, .int (iI (m + 1))), (4, .int (iI b)), (7, .int (iI (b2i (rowI (cl (mA (mA (mA (tst M Gm) 0 (uI (M 0) c (M 0 c))) 1 (uI (M 1) c (M 1 c))) 2 (uI (M 2) c v))) (M 37) c (M 38 0))))), (6, .int (iI v)), (0, .ref (ma 100)), (1, .int (iI c)), (2, .int (iI w))]) dX6_whose_180 (by decide) rfl ?_
                          refine g_iinc F (lv' := [(6, .int (iI (v + 1))), (5, .int (iI (m + 1))), (4, .int (iI b)), (7, .int (iI (b2i (rowI (cl (mA (mA (mA (tst M Gm) 0 (uI (M 0) c (M 0 c))) 1 (uI (M 1) c (M 1 c))) 2 (uI (M 2) c v))) (M 37) c (M 38 0))))), (0, .ref (ma 100)), (1, .int (iI c)), (2, .int (iI w))]) 3 dX6_whose_182 rfl (by decide) rfl ?_
                          refine g_goto F 46 dX6_whose_185 (by decide) ?_
                          refine g_sub F (lv' := [(6, .int (iI (v + 1))), (5, .int (iI (m + 1))), (4, .int (iI b)), (0, .ref (ma 100)), (1, .int (iI c)), (2, .int (iI w))]) [0, 1, 2, 4, 5, 6] rfl ?_
                          refine g_ws (ws' := mw κ ma (tst M (agn (mA (mA (mA (tst M Gm) 0 (uI (M 0) c (M 0 c))) 1 (uI (M 1) c (M 1 c))) 2 (uI (M 2) c v)) M))) rfl ?_
                          exact ih46 _ (by omega) (v + 1) b (m + 1) (agn (mA (mA (mA (tst M Gm) 0 (uI (M 0) c (M 0 c))) 1 (uI (M 1) c (M 1 c))) 2 (uI (M 2) c v)) M) rfl (by omega) (by first | (exfalso; omega) | (rw [if_pos (show w = 2 by omega)] at hb ⊢; omega) | (rw [if_neg (show ¬ w = 2 by omega)] at hb ⊢; rw [sumI_s _ hv.1, ← hb]; unfold wsb; first | rw [if_pos (by rw [← hC]; exact c148)] | (rw [if_neg (by rw [← hC]; exact c148)]; omega))) (by omega) (by first | (exfalso; omega) | (rw [sumI_s _ hv.1, ← hm]; unfold wsf; first | rw [if_pos (by rw [← hC]; exact c148)] | rw [if_neg (by rw [← hC]; exact c148)])) (by omega)
                      · skip
                        exact absurd trivial (by omega)
                · skip
                  exact absurd trivial (by omega)
              · skip
                exact absurd trivial (by omega)
          · skip
            refine g_bipush F dX6_whose_62 (by decide +kernel) ?_
            refine g_goto F 69 dX6_whose_64 (by decide) ?_
            refine g_icmp_ge F 188 (by omega) dX6_whose_69 (by decide) (fun c69 => ?_) (fun c69 => ?_)
            · skip
              have hbz : 0 ≤ b := hb0
              refine g_iload_n F 5 dX6_whose_188 rfl ?_
              refine g_iconst F dX6_whose_189 ?_
              refine g_icmp_ne F 198 (by omega) dX6_whose_190 (by decide) (fun c190 => ?_) (fun c190 => ?_)
              · skip
                refine g_iload F 2 dX6_whose_198 rfl ?_
                have hq : b = qWhose (cl M) (M 37) (M 38 0) c w := by unfold qWhose; rw [if_neg (by omega), if_neg (by omega)]; first | (exfalso; omega) | (rw [if_pos (by omega), hm, show v = 100 by omega]) | (rw [if_neg (by omega), hb, if_neg (by omega), show v = (if w = 0 then 6 else 10) by split <;> omega])
                exact K mw_same ⟨_, rfl, iIc hq, ⟨rfl, rfl, rfl, rfl, rfl, rfl, rfl, rfl, rfl, rfl, rfl, rfl, rfl, rfl, rfl, rfl, rfl, rfl⟩, (by rw [← hq]; show M 11 = _; exact (rfa_n (by omega)).symm)⟩ rfl dX6_whose_200
              · skip
                exact absurd trivial (by omega)
            · skip
              have hk : (0 ≤ M 0 c ∧ M 0 c ≤ 5) ∧ (0 ≤ M 1 c ∧ M 1 c ≤ 9) ∧ (0 ≤ M 2 c ∧ M 2 c ≤ 99) ∧ 0 ≤ M 3 c ∧ M 3 c ≤ 99 := ok.r (by omega) (by omega)
              refine g_aload_n F 3 dX6_whose_72 rfl ?_
              refine gm_get_0 F dX6_whose_73 ?_
              refine g_iload_n F 4 dX6_whose_76 rfl ?_
              refine g_iload_n F 5 dX6_whose_77 rfl ?_
              refine g_if_ne F 86 (by omega) dX6_whose_78 (by decide) (fun c78 => ?_) (fun c78 => ?_)
              · skip
                refine g_aload_n F 3 dX6_whose_86 rfl ?_
                refine gm_get_0 F dX6_whose_87 ?_
                refine g_iload_n F 4 dX6_whose_90 rfl ?_
                refine gm_ald_0 F (by omega) dX6_whose_91 ?_
                refine g_top (y := iI (M 0 c)) rfl ?_
                refine gm_ast_0 F (by omega) dX6_whose_92 ?_
                refine g_ws (ws' := mw κ ma (mA (tst M Gm) 0 (uI (M 0) c (M 0 c)))) rfl ?_
                refine g_aload_n F 3 dX6_whose_93 rfl ?_
                refine gm_get_1 F dX6_whose_94 ?_
                refine g_iload_n F 4 dX6_whose_97 rfl ?_
                refine g_iload_n F 5 dX6_whose_98 rfl ?_
                refine g_iconst F dX6_whose_99 ?_
                refine g_icmp_ne F 108 (by omega) dX6_whose_100 (by decide) (fun c100 => ?_) (fun c100 => ?_)
                · skip
                  exact absurd trivial (by omega)
                · skip
                  refine g_iload F 0 dX6_whose_103 rfl ?_
                  refine g_goto F 114 dX6_whose_105 (by decide) ?_
                  refine gm_ast_1 F (by omega) dX6_whose_114 ?_
                  refine g_ws (ws' := mw κ ma (mA (mA (tst M Gm) 0 (uI (M 0) c (M 0 c))) 1 (uI (M 1) c v))) rfl ?_
                  refine g_aload_n F 3 dX6_whose_115 rfl ?_
                  refine gm_get_2 F dX6_whose_116 ?_
                  refine g_iload_n F 4 dX6_whose_119 rfl ?_
                  refine g_iload_n F 5 dX6_whose_120 rfl ?_
                  refine g_iconst F dX6_whose_121 ?_
                  refine g_icmp_ne F 130 (by omega) dX6_whose_122 (by decide) (fun c122 => ?_) (fun c122 => ?_)
                  · skip
                    refine g_aload_n F 3 dX6_whose_130 rfl ?_
                    refine gm_get_2 F dX6_whose_131 ?_
                    refine g_iload_n F 4 dX6_whose_134 rfl ?_
                    refine gm_ald_2 F (by omega) dX6_whose_135 ?_
                    refine g_top (y := iI (M 2 c)) rfl ?_
                    refine gm_ast_2 F (by omega) dX6_whose_136 ?_
                    refine g_ws (ws' := mw κ ma (mA (mA (mA (tst M Gm) 0 (uI (M 0) c (M 0 c))) 1 (uI (M 1) c v)) 2 (uI (M 2) c (M 2 c)))) rfl ?_
                    have hC : cl (mA (mA (mA (tst M Gm) 0 (uI (M 0) c (M 0 c))) 1 (uI (M 1) c v)) 2 (uI (M 2) c (M 2 c))) = oth (cl M) w c v := by first | (exfalso; omega) | (rw [oth_0 (by omega)]; show (uI (M 0) c v, uI (M 1) c (M 1 c), uI (M 2) c (M 2 c), M 3, M 4 0) = (uI (M 0) c v, M 1, M 2, M 3, M 4 0); rw [uI_self, uI_self]) | (rw [oth_1 (by omega)]; show (uI (M 0) c (M 0 c), uI (M 1) c v, uI (M 2) c (M 2 c), M 3, M 4 0) = (M 0, uI (M 1) c v, M 2, M 3, M 4 0); rw [uI_self, uI_self]) | (rw [oth_2 (by omega) (by omega)]; show (uI (M 0) c (M 0 c), uI (M 1) c (M 1 c), uI (M 2) c v, M 3, M 4 0) = (M 0, M 1, uI (M 2) c v, M 3, M 4 0); rw [uI_self, uI_self])
                    have hbb : 0 ≤ b ∧ (w ≠ 2 → b < p2 v) := by have k := wsb_bd (cl M) (M 37) (M 38 0) c w hv.1; have p := p2_pos v; rw [hb]; split <;> omega
                    have hp2 := p2_pos v
                    refine g_aload_n F 3 dX6_whose_137 rfl ?_
                    refine g_iload_n F 4 dX6_whose_138 rfl ?_
                    refine g_callI F (stk := [.int (iI c), .ref (ma 100)]) (st := []) (k_X6_isRow κ ma (mA (mA (mA (tst M Gm) 0 (uI (M 0) c (M 0 c))) 1 (uI (M 1) c v)) 2 (uI (M 2) c (M 2 c))) M c (by omega) (show M 4 0 ≤ 990000 by omega) (by rw [hC]; exact oth_ok ok (by omega)) hn hro (fun _ _ _ => rfl)) cal_X6_isRow lm_X6_298 0 rfl rfl rfl rfl (by decide) rfl (Nat.le_of_ble_eq_true rfl) dX6_whose_139 (fun r139 ws139 _ hr139 => ?_)
                    obtain ⟨rfl, rfl⟩ := hr139
                    refine g_top (y := iI (b2i (rowI (cl (mA (mA (mA (tst M Gm) 0 (uI (M 0) c (M 0 c))) 1 (uI (M 1) c v)) 2 (uI (M 2) c (M 2 c)))) (M 37) c (M 38 0)))) rfl ?_
                    refine g_istore F (lv' := [(7, .int (iI (b2i (rowI (cl (mA (mA (mA (tst M Gm) 0 (uI (M 0) c (M 0 c))) 1 (uI (M 1) c v)) 2 (uI (M 2) c (M 2 c)))) (M 37) c (M 38 0))))), (6, .int (iI v)), (5, .int (iI m)), (4, .int (iI b)), (0, .ref (ma 100)), (1, .int (iI c)), (2, .int (iI w))]) dX6_whose_142 (by decide) rfl ?_
                    refine g_iload F 3 dX6_whose_144 rfl ?_
                    refine g_iload F 0 dX6_whose_146 rfl ?_
                    refine g_if_eq F 163 (b2i_in _) dX6_whose_148 (by decide) (fun c148 => ?_) (fun c148 => ?_)
                    · skip
                      have c148 : ¬ (rowI (cl (mA (mA (mA (tst M Gm) 0 (uI (M 0) c (M 0 c))) 1 (uI (M 1) c v)) 2 (uI (M 2) c (M 2 c)))) (M 37) c (M 38 0)) := b2i_f c148
                      refine g_iconst F dX6_whose_163 ?_
                      refine g_ior F dX6_whose_164 ?_
                      refine g_top (y := iI b) (by rw [iI_bor hbb.1 (by decide), bor_0 hbb.1]) ?_
                      refine g_istore F (lv' := [(4, .int (iI b)), (7, .int (iI (b2i (rowI (cl (mA (mA (mA (tst M Gm) 0 (uI (M 0) c (M 0 c))) 1 (uI (M 1) c v)) 2 (uI (M 2) c (M 2 c)))) (M 37) c (M 38 0))))), (6, .int (iI v)), (5, .int (iI m)), (0, .ref (ma 100)), (1, .int (iI c)), (2, .int (iI w))]) dX6_whose_165 (by decide) rfl ?_
                      refine g_iload F 3 dX6_whose_167 rfl ?_
                      refine g_iload F 1 dX6_whose_169 rfl ?_
                      refine g_if_eq F 178 (b2i_in _) dX6_whose_171 (by decide) (fun c171 => ?_) (fun c171 => ?_)
                      · skip
                        have c171 : ¬ (rowI (cl (mA (mA (mA (tst M Gm) 0 (uI (M 0) c (M 0 c))) 1 (uI (M 1) c v)) 2 (uI (M 2) c (M 2 c)))) (M 37) c (M 38 0)) := b2i_f c171
                        refine g_iconst F dX6_whose_178 ?_
                        refine g_iadd F dX6_whose_179 ?_
                        refine g_istore F (lv' := [(5, .int (iI (m + 0))), (4, .int (iI b)), (7, .int (iI (b2i (rowI (cl (mA (mA (mA (tst M Gm) 0 (uI (M 0) c (M 0 c))) 1 (uI (M 1) c v)) 2 (uI (M 2) c (M 2 c)))) (M 37) c (M 38 0))))), (6, .int (iI v)), (0, .ref (ma 100)), (1, .int (iI c)), (2, .int (iI w))]) dX6_whose_180 (by decide) rfl ?_
                        refine g_iinc F (lv' := [(6, .int (iI (v + 1))), (5, .int (iI (m + 0))), (4, .int (iI b)), (7, .int (iI (b2i (rowI (cl (mA (mA (mA (tst M Gm) 0 (uI (M 0) c (M 0 c))) 1 (uI (M 1) c v)) 2 (uI (M 2) c (M 2 c)))) (M 37) c (M 38 0))))), (0, .ref (ma 100)), (1, .int (iI c)), (2, .int (iI w))]) 3 dX6_whose_182 rfl (by decide) rfl ?_
                        refine g_goto F 46 dX6_whose_185 (by decide) ?_
                        refine g_sub F (lv' := [(6, .int (iI (v + 1))), (5, .int (iI (m + 0))), (4, .int (iI b)), (0, .ref (ma 100)), (1, .int (iI c)), (2, .int (iI w))]) [0, 1, 2, 4, 5, 6] rfl ?_
                        refine g_ws (ws' := mw κ ma (tst M (agn (mA (mA (mA (tst M Gm) 0 (uI (M 0) c (M 0 c))) 1 (uI (M 1) c v)) 2 (uI (M 2) c (M 2 c))) M))) rfl ?_
                        exact ih46 _ (by omega) (v + 1) b (m + 0) (agn (mA (mA (mA (tst M Gm) 0 (uI (M 0) c (M 0 c))) 1 (uI (M 1) c v)) 2 (uI (M 2) c (M 2 c))) M) rfl (by omega) (by first | (exfalso; omega) | (rw [if_pos (show w = 2 by omega)] at hb ⊢; omega) | (rw [if_neg (show ¬ w = 2 by omega)] at hb ⊢; rw [sumI_s _ hv.1, ← hb]; unfold wsb; first | rw [if_pos (by rw [← hC]; exact c148)] | (rw [if_neg (by rw [← hC]; exact c148)]; omega))) (by omega) (by first | (exfalso; omega) | (rw [sumI_s _ hv.1, ← hm]; unfold wsf; first | rw [if_pos (by rw [← hC]; exact c148)] | rw [if_neg (by rw [← hC]; exact c148)])) (by omega)
                      · skip
                        have c171 : rowI (cl (mA (mA (mA (tst M Gm) 0 (uI (M 0) c (M 0 c))) 1 (uI (M 1) c v)) 2 (uI (M 2) c (M 2 c)))) (M 37) c (M 38 0) := b2i_t c171
                        exact absurd trivial (by omega)
                    · skip
                      have c148 : rowI (cl (mA (mA (mA (tst M Gm) 0 (uI (M 0) c (M 0 c))) 1 (uI (M 1) c v)) 2 (uI (M 2) c (M 2 c)))) (M 37) c (M 38 0) := b2i_t c148
                      refine g_iload_n F 6 dX6_whose_151 rfl ?_
                      refine g_iconst F dX6_whose_152 ?_
                      refine g_icmp_ge F 163 (by omega) dX6_whose_153 (by decide) (fun c153 => ?_) (fun c153 => ?_)
                      · skip
                        exact absurd trivial (by omega)
                      · skip
                        refine g_iconst F dX6_whose_156 ?_
                        refine g_iload F 1 dX6_whose_157 rfl ?_
                        refine g_ishl F dX6_whose_159 ?_
                        refine g_top (y := iI (p2 v)) (iI_shl1 (by omega) (by omega)) ?_
                        refine g_goto F 164 dX6_whose_160 (by decide) ?_
                        refine g_ior F dX6_whose_164 ?_
                        refine g_top (y := iI (b + p2 v)) (by rw [iI_bor hbb.1 (by omega), bor_p2 hbb.1 (hbb.2 (by omega))]) ?_
                        refine g_istore F (lv' := [(4, .int (iI (b + p2 v))), (7, .int (iI (b2i (rowI (cl (mA (mA (mA (tst M Gm) 0 (uI (M 0) c (M 0 c))) 1 (uI (M 1) c v)) 2 (uI (M 2) c (M 2 c)))) (M 37) c (M 38 0))))), (6, .int (iI v)), (5, .int (iI m)), (0, .ref (ma 100)), (1, .int (iI c)), (2, .int (iI w))]) dX6_whose_165 (by decide) rfl ?_
                        refine g_iload F 3 dX6_whose_167 rfl ?_
                        refine g_iload F 1 dX6_whose_169 rfl ?_
                        refine g_if_eq F 178 (b2i_in _) dX6_whose_171 (by decide) (fun c171 => ?_) (fun c171 => ?_)
                        · skip
                          have c171 : ¬ (rowI (cl (mA (mA (mA (tst M Gm) 0 (uI (M 0) c (M 0 c))) 1 (uI (M 1) c v)) 2 (uI (M 2) c (M 2 c)))) (M 37) c (M 38 0)) := b2i_f c171
                          exact absurd trivial (by omega)
                        · skip
                          have c171 : rowI (cl (mA (mA (mA (tst M Gm) 0 (uI (M 0) c (M 0 c))) 1 (uI (M 1) c v)) 2 (uI (M 2) c (M 2 c)))) (M 37) c (M 38 0) := b2i_t c171
                          refine g_iconst F dX6_whose_174 ?_
                          refine g_goto F 179 dX6_whose_175 (by decide) ?_
                          refine g_iadd F dX6_whose_179 ?_
                          refine g_istore F (lv' := [(5, .int (iI (m + 1))), (4, .int (iI (b + p2 v))), (7, .int (iI (b2i (rowI (cl (mA (mA (mA (tst M Gm) 0 (uI (M 0) c (M 0 c))) 1 (uI (M 1) c v)) 2 (uI (M 2) c (M 2 c)))) (M 37) c (M 38 0))))), (6, .int (iI v)), (0, .ref (ma 100)), (1, .int (iI c)), (2, .int (iI w))]) dX6_whose_180 (by decide) rfl ?_
                          refine g_iinc F (lv' := [(6, .int (iI (v + 1))), (5, .int (iI (m + 1))), (4, .int (iI (b + p2 v))), (7, .int (iI (b2i (rowI (cl (mA (mA (mA (tst M Gm) 0 (uI (M 0) c (M 0 c))) 1 (uI (M 1) c v)) 2 (uI (M 2) c (M 2 c)))) (M 37) c (M 38 0))))), (0, .ref (ma 100)), (1, .int (iI c)), (2, .int (iI w))]) 3 dX6_whose_182 rfl (by decide) rfl ?_
                          refine g_goto F 46 dX6_whose_185 (by decide) ?_
                          refine g_sub F (lv' := [(6, .int (iI (v + 1))), (5, .int (iI (m + 1))), (4, .int (iI (b + p2 v))), (0, .ref (ma 100)), (1, .int (iI c)), (2, .int (iI w))]) [0, 1, 2, 4, 5, 6] rfl ?_
                          refine g_ws (ws' := mw κ ma (tst M (agn (mA (mA (mA (tst M Gm) 0 (uI (M 0) c (M 0 c))) 1 (uI (M 1) c v)) 2 (uI (M 2) c (M 2 c))) M))) rfl ?_
                          exact ih46 _ (by omega) (v + 1) (b + p2 v) (m + 1) (agn (mA (mA (mA (tst M Gm) 0 (uI (M 0) c (M 0 c))) 1 (uI (M 1) c v)) 2 (uI (M 2) c (M 2 c))) M) rfl (by omega) (by first | (exfalso; omega) | (rw [if_pos (show w = 2 by omega)] at hb ⊢; omega) | (rw [if_neg (show ¬ w = 2 by omega)] at hb ⊢; rw [sumI_s _ hv.1, ← hb]; unfold wsb; first | rw [if_pos (by rw [← hC]; exact c148)] | (rw [if_neg (by rw [← hC]; exact c148)]; omega))) (by omega) (by first | (exfalso; omega) | (rw [sumI_s _ hv.1, ← hm]; unfold wsf; first | rw [if_pos (by rw [← hC]; exact c148)] | rw [if_neg (by rw [← hC]; exact c148)])) (by omega)
                  · skip
                    exact absurd trivial (by omega)
              · skip
                exact absurd trivial (by omega)
        · skip
          refine g_bipush F dX6_whose_52 (by decide +kernel) ?_
          refine g_goto F 69 dX6_whose_54 (by decide) ?_
          refine g_icmp_ge F 188 (by omega) dX6_whose_69 (by decide) (fun c69 => ?_) (fun c69 => ?_)
          · skip
            have hbz : 0 ≤ b := hb0
            refine g_iload_n F 5 dX6_whose_188 rfl ?_
            refine g_iconst F dX6_whose_189 ?_
            refine g_icmp_ne F 198 (by omega) dX6_whose_190 (by decide) (fun c190 => ?_) (fun c190 => ?_)
            · skip
              refine g_iload F 2 dX6_whose_198 rfl ?_
              have hq : b = qWhose (cl M) (M 37) (M 38 0) c w := by unfold qWhose; rw [if_neg (by omega), if_neg (by omega)]; first | (exfalso; omega) | (rw [if_pos (by omega), hm, show v = 100 by omega]) | (rw [if_neg (by omega), hb, if_neg (by omega), show v = (if w = 0 then 6 else 10) by split <;> omega])
              exact K mw_same ⟨_, rfl, iIc hq, ⟨rfl, rfl, rfl, rfl, rfl, rfl, rfl, rfl, rfl, rfl, rfl, rfl, rfl, rfl, rfl, rfl, rfl, rfl⟩, (by rw [← hq]; show M 11 = _; exact (rfa_n (by omega)).symm)⟩ rfl dX6_whose_200
            · skip
              exact absurd trivial (by omega)
          · skip
            have hk : (0 ≤ M 0 c ∧ M 0 c ≤ 5) ∧ (0 ≤ M 1 c ∧ M 1 c ≤ 9) ∧ (0 ≤ M 2 c ∧ M 2 c ≤ 99) ∧ 0 ≤ M 3 c ∧ M 3 c ≤ 99 := ok.r (by omega) (by omega)
            refine g_aload_n F 3 dX6_whose_72 rfl ?_
            refine gm_get_0 F dX6_whose_73 ?_
            refine g_iload_n F 4 dX6_whose_76 rfl ?_
            refine g_iload_n F 5 dX6_whose_77 rfl ?_
            refine g_if_ne F 86 (by omega) dX6_whose_78 (by decide) (fun c78 => ?_) (fun c78 => ?_)
            · skip
              exact absurd trivial (by omega)
            · skip
              refine g_iload F 0 dX6_whose_81 rfl ?_
              refine g_goto F 92 dX6_whose_83 (by decide) ?_
              refine gm_ast_0 F (by omega) dX6_whose_92 ?_
              refine g_ws (ws' := mw κ ma (mA (tst M Gm) 0 (uI (M 0) c v))) rfl ?_
              refine g_aload_n F 3 dX6_whose_93 rfl ?_
              refine gm_get_1 F dX6_whose_94 ?_
              refine g_iload_n F 4 dX6_whose_97 rfl ?_
              refine g_iload_n F 5 dX6_whose_98 rfl ?_
              refine g_iconst F dX6_whose_99 ?_
              refine g_icmp_ne F 108 (by omega) dX6_whose_100 (by decide) (fun c100 => ?_) (fun c100 => ?_)
              · skip
                refine g_aload_n F 3 dX6_whose_108 rfl ?_
                refine gm_get_1 F dX6_whose_109 ?_
                refine g_iload_n F 4 dX6_whose_112 rfl ?_
                refine gm_ald_1 F (by omega) dX6_whose_113 ?_
                refine g_top (y := iI (M 1 c)) rfl ?_
                refine gm_ast_1 F (by omega) dX6_whose_114 ?_
                refine g_ws (ws' := mw κ ma (mA (mA (tst M Gm) 0 (uI (M 0) c v)) 1 (uI (M 1) c (M 1 c)))) rfl ?_
                refine g_aload_n F 3 dX6_whose_115 rfl ?_
                refine gm_get_2 F dX6_whose_116 ?_
                refine g_iload_n F 4 dX6_whose_119 rfl ?_
                refine g_iload_n F 5 dX6_whose_120 rfl ?_
                refine g_iconst F dX6_whose_121 ?_
                refine g_icmp_ne F 130 (by omega) dX6_whose_122 (by decide) (fun c122 => ?_) (fun c122 => ?_)
                · skip
                  refine g_aload_n F 3 dX6_whose_130 rfl ?_
                  refine gm_get_2 F dX6_whose_131 ?_
                  refine g_iload_n F 4 dX6_whose_134 rfl ?_
                  refine gm_ald_2 F (by omega) dX6_whose_135 ?_
                  refine g_top (y := iI (M 2 c)) rfl ?_
                  refine gm_ast_2 F (by omega) dX6_whose_136 ?_
                  refine g_ws (ws' := mw κ ma (mA (mA (mA (tst M Gm) 0 (uI (M 0) c v)) 1 (uI (M 1) c (M 1 c))) 2 (uI (M 2) c (M 2 c)))) rfl ?_
                  have hC : cl (mA (mA (mA (tst M Gm) 0 (uI (M 0) c v)) 1 (uI (M 1) c (M 1 c))) 2 (uI (M 2) c (M 2 c))) = oth (cl M) w c v := by first | (exfalso; omega) | (rw [oth_0 (by omega)]; show (uI (M 0) c v, uI (M 1) c (M 1 c), uI (M 2) c (M 2 c), M 3, M 4 0) = (uI (M 0) c v, M 1, M 2, M 3, M 4 0); rw [uI_self, uI_self]) | (rw [oth_1 (by omega)]; show (uI (M 0) c (M 0 c), uI (M 1) c v, uI (M 2) c (M 2 c), M 3, M 4 0) = (M 0, uI (M 1) c v, M 2, M 3, M 4 0); rw [uI_self, uI_self]) | (rw [oth_2 (by omega) (by omega)]; show (uI (M 0) c (M 0 c), uI (M 1) c (M 1 c), uI (M 2) c v, M 3, M 4 0) = (M 0, M 1, uI (M 2) c v, M 3, M 4 0); rw [uI_self, uI_self])
                  have hbb : 0 ≤ b ∧ (w ≠ 2 → b < p2 v) := by have k := wsb_bd (cl M) (M 37) (M 38 0) c w hv.1; have p := p2_pos v; rw [hb]; split <;> omega
                  have hp2 := p2_pos v
                  refine g_aload_n F 3 dX6_whose_137 rfl ?_
                  refine g_iload_n F 4 dX6_whose_138 rfl ?_
                  refine g_callI F (stk := [.int (iI c), .ref (ma 100)]) (st := []) (k_X6_isRow κ ma (mA (mA (mA (tst M Gm) 0 (uI (M 0) c v)) 1 (uI (M 1) c (M 1 c))) 2 (uI (M 2) c (M 2 c))) M c (by omega) (show M 4 0 ≤ 990000 by omega) (by rw [hC]; exact oth_ok ok (by omega)) hn hro (fun _ _ _ => rfl)) cal_X6_isRow lm_X6_298 0 rfl rfl rfl rfl (by decide) rfl (Nat.le_of_ble_eq_true rfl) dX6_whose_139 (fun r139 ws139 _ hr139 => ?_)
                  obtain ⟨rfl, rfl⟩ := hr139
                  refine g_top (y := iI (b2i (rowI (cl (mA (mA (mA (tst M Gm) 0 (uI (M 0) c v)) 1 (uI (M 1) c (M 1 c))) 2 (uI (M 2) c (M 2 c)))) (M 37) c (M 38 0)))) rfl ?_
                  refine g_istore F (lv' := [(7, .int (iI (b2i (rowI (cl (mA (mA (mA (tst M Gm) 0 (uI (M 0) c v)) 1 (uI (M 1) c (M 1 c))) 2 (uI (M 2) c (M 2 c)))) (M 37) c (M 38 0))))), (6, .int (iI v)), (5, .int (iI m)), (4, .int (iI b)), (0, .ref (ma 100)), (1, .int (iI c)), (2, .int (iI w))]) dX6_whose_142 (by decide) rfl ?_
                  refine g_iload F 3 dX6_whose_144 rfl ?_
                  refine g_iload F 0 dX6_whose_146 rfl ?_
                  refine g_if_eq F 163 (b2i_in _) dX6_whose_148 (by decide) (fun c148 => ?_) (fun c148 => ?_)
                  · skip
                    have c148 : ¬ (rowI (cl (mA (mA (mA (tst M Gm) 0 (uI (M 0) c v)) 1 (uI (M 1) c (M 1 c))) 2 (uI (M 2) c (M 2 c)))) (M 37) c (M 38 0)) := b2i_f c148
                    refine g_iconst F dX6_whose_163 ?_
                    refine g_ior F dX6_whose_164 ?_
                    refine g_top (y := iI b) (by rw [iI_bor hbb.1 (by decide), bor_0 hbb.1]) ?_
                    refine g_istore F (lv' := [(4, .int (iI b)), (7, .int (iI (b2i (rowI (cl (mA (mA (mA (tst M Gm) 0 (uI (M 0) c v)) 1 (uI (M 1) c (M 1 c))) 2 (uI (M 2) c (M 2 c)))) (M 37) c (M 38 0))))), (6, .int (iI v)), (5, .int (iI m)), (0, .ref (ma 100)), (1, .int (iI c)), (2, .int (iI w))]) dX6_whose_165 (by decide) rfl ?_
                    refine g_iload F 3 dX6_whose_167 rfl ?_
                    refine g_iload F 1 dX6_whose_169 rfl ?_
                    refine g_if_eq F 178 (b2i_in _) dX6_whose_171 (by decide) (fun c171 => ?_) (fun c171 => ?_)
                    · skip
                      have c171 : ¬ (rowI (cl (mA (mA (mA (tst M Gm) 0 (uI (M 0) c v)) 1 (uI (M 1) c (M 1 c))) 2 (uI (M 2) c (M 2 c)))) (M 37) c (M 38 0)) := b2i_f c171
                      refine g_iconst F dX6_whose_178 ?_
                      refine g_iadd F dX6_whose_179 ?_
                      refine g_istore F (lv' := [(5, .int (iI (m + 0))), (4, .int (iI b)), (7, .int (iI (b2i (rowI (cl (mA (mA (mA (tst M Gm) 0 (uI (M 0) c v)) 1 (uI (M 1) c (M 1 c))) 2 (uI (M 2) c (M 2 c)))) (M 37) c (M 38 0))))), (6, .int (iI v)), (0, .ref (ma 100)), (1, .int (iI c)), (2, .int (iI w))]) dX6_whose_180 (by decide) rfl ?_
                      refine g_iinc F (lv' := [(6, .int (iI (v + 1))), (5, .int (iI (m + 0))), (4, .int (iI b)), (7, .int (iI (b2i (rowI (cl (mA (mA (mA (tst M Gm) 0 (uI (M 0) c v)) 1 (uI (M 1) c (M 1 c))) 2 (uI (M 2) c (M 2 c)))) (M 37) c (M 38 0))))), (0, .ref (ma 100)), (1, .int (iI c)), (2, .int (iI w))]) 3 dX6_whose_182 rfl (by decide) rfl ?_
                      refine g_goto F 46 dX6_whose_185 (by decide) ?_
                      refine g_sub F (lv' := [(6, .int (iI (v + 1))), (5, .int (iI (m + 0))), (4, .int (iI b)), (0, .ref (ma 100)), (1, .int (iI c)), (2, .int (iI w))]) [0, 1, 2, 4, 5, 6] rfl ?_
                      refine g_ws (ws' := mw κ ma (tst M (agn (mA (mA (mA (tst M Gm) 0 (uI (M 0) c v)) 1 (uI (M 1) c (M 1 c))) 2 (uI (M 2) c (M 2 c))) M))) rfl ?_
                      exact ih46 _ (by omega) (v + 1) b (m + 0) (agn (mA (mA (mA (tst M Gm) 0 (uI (M 0) c v)) 1 (uI (M 1) c (M 1 c))) 2 (uI (M 2) c (M 2 c))) M) rfl (by omega) (by first | (exfalso; omega) | (rw [if_pos (show w = 2 by omega)] at hb ⊢; omega) | (rw [if_neg (show ¬ w = 2 by omega)] at hb ⊢; rw [sumI_s _ hv.1, ← hb]; unfold wsb; first | rw [if_pos (by rw [← hC]; exact c148)] | (rw [if_neg (by rw [← hC]; exact c148)]; omega))) (by omega) (by first | (exfalso; omega) | (rw [sumI_s _ hv.1, ← hm]; unfold wsf; first | rw [if_pos (by rw [← hC]; exact c148)] | rw [if_neg (by rw [← hC]; exact c148)])) (by omega)
                    · skip
                      have c171 : rowI (cl (mA (mA (mA (tst M Gm) 0 (uI (M 0) c v)) 1 (uI (M 1) c (M 1 c))) 2 (uI (M 2) c (M 2 c)))) (M 37) c (M 38 0) := b2i_t c171
                      exact absurd trivial (by omega)
                  · skip
                    have c148 : rowI (cl (mA (mA (mA (tst M Gm) 0 (uI (M 0) c v)) 1 (uI (M 1) c (M 1 c))) 2 (uI (M 2) c (M 2 c)))) (M 37) c (M 38 0) := b2i_t c148
                    refine g_iload_n F 6 dX6_whose_151 rfl ?_
                    refine g_iconst F dX6_whose_152 ?_
                    refine g_icmp_ge F 163 (by omega) dX6_whose_153 (by decide) (fun c153 => ?_) (fun c153 => ?_)
                    · skip
                      exact absurd trivial (by omega)
                    · skip
                      refine g_iconst F dX6_whose_156 ?_
                      refine g_iload F 1 dX6_whose_157 rfl ?_
                      refine g_ishl F dX6_whose_159 ?_
                      refine g_top (y := iI (p2 v)) (iI_shl1 (by omega) (by omega)) ?_
                      refine g_goto F 164 dX6_whose_160 (by decide) ?_
                      refine g_ior F dX6_whose_164 ?_
                      refine g_top (y := iI (b + p2 v)) (by rw [iI_bor hbb.1 (by omega), bor_p2 hbb.1 (hbb.2 (by omega))]) ?_
                      refine g_istore F (lv' := [(4, .int (iI (b + p2 v))), (7, .int (iI (b2i (rowI (cl (mA (mA (mA (tst M Gm) 0 (uI (M 0) c v)) 1 (uI (M 1) c (M 1 c))) 2 (uI (M 2) c (M 2 c)))) (M 37) c (M 38 0))))), (6, .int (iI v)), (5, .int (iI m)), (0, .ref (ma 100)), (1, .int (iI c)), (2, .int (iI w))]) dX6_whose_165 (by decide) rfl ?_
                      refine g_iload F 3 dX6_whose_167 rfl ?_
                      refine g_iload F 1 dX6_whose_169 rfl ?_
                      refine g_if_eq F 178 (b2i_in _) dX6_whose_171 (by decide) (fun c171 => ?_) (fun c171 => ?_)
                      · skip
                        have c171 : ¬ (rowI (cl (mA (mA (mA (tst M Gm) 0 (uI (M 0) c v)) 1 (uI (M 1) c (M 1 c))) 2 (uI (M 2) c (M 2 c)))) (M 37) c (M 38 0)) := b2i_f c171
                        exact absurd trivial (by omega)
                      · skip
                        have c171 : rowI (cl (mA (mA (mA (tst M Gm) 0 (uI (M 0) c v)) 1 (uI (M 1) c (M 1 c))) 2 (uI (M 2) c (M 2 c)))) (M 37) c (M 38 0) := b2i_t c171
                        refine g_iconst F dX6_whose_174 ?_
                        refine g_goto F 179 dX6_whose_175 (by decide) ?_
                        refine g_iadd F dX6_whose_179 ?_
                        refine g_istore F (lv' := [(5, .int (iI (m + 1))), (4, .int (iI (b + p2 v))), (7, .int (iI (b2i (rowI (cl (mA (mA (mA (tst M Gm) 0 (uI (M 0) c v)) 1 (uI (M 1) c (M 1 c))) 2 (uI (M 2) c (M 2 c)))) (M 37) c (M 38 0))))), (6, .int (iI v)), (0, .ref (ma 100)), (1, .int (iI c)), (2, .int (iI w))]) dX6_whose_180 (by decide) rfl ?_
                        refine g_iinc F (lv' := [(6, .int (iI (v + 1))), (5, .int (iI (m + 1))), (4, .int (iI (b + p2 v))), (7, .int (iI (b2i (rowI (cl (mA (mA (mA (tst M Gm) 0 (uI (M 0) c v)) 1 (uI (M 1) c (M 1 c))) 2 (uI (M 2) c (M 2 c)))) (M 37) c (M 38 0))))), (0, .ref (ma 100)), (1, .int (iI c)), (2, .int (iI w))]) 3 dX6_whose_182 rfl (by decide) rfl ?_
                        refine g_goto F 46 dX6_whose_185 (by decide) ?_
                        refine g_sub F (lv' := [(6, .int (iI (v + 1))), (5, .int (iI (m + 1))), (4, .int (iI (b + p2 v))), (0, .ref (ma 100)), (1, .int (iI c)), (2, .int (iI w))]) [0, 1, 2, 4, 5, 6] rfl ?_
                        refine g_ws (ws' := mw κ ma (tst M (agn (mA (mA (mA (tst M Gm) 0 (uI (M 0) c v)) 1 (uI (M 1) c (M 1 c))) 2 (uI (M 2) c (M 2 c))) M))) rfl ?_
                        exact ih46 _ (by omega) (v + 1) (b + p2 v) (m + 1) (agn (mA (mA (mA (tst M Gm) 0 (uI (M 0) c v)) 1 (uI (M 1) c (M 1 c))) 2 (uI (M 2) c (M 2 c))) M) rfl (by omega) (by first | (exfalso; omega) | (rw [if_pos (show w = 2 by omega)] at hb ⊢; omega) | (rw [if_neg (show ¬ w = 2 by omega)] at hb ⊢; rw [sumI_s _ hv.1, ← hb]; unfold wsb; first | rw [if_pos (by rw [← hC]; exact c148)] | (rw [if_neg (by rw [← hC]; exact c148)]; omega))) (by omega) (by first | (exfalso; omega) | (rw [sumI_s _ hv.1, ← hm]; unfold wsf; first | rw [if_pos (by rw [← hC]; exact c148)] | rw [if_neg (by rw [← hC]; exact c148)])) (by omega)
                · skip
                  exact absurd trivial (by omega)
              · skip
                exact absurd trivial (by omega)
      refine g_sub F (lv' := [(6, .int (iI 0)), (5, .int (iI 0)), (4, .int (iI 0)), (0, .ref (ma 100)), (1, .int (iI c)), (2, .int (iI w))]) [0, 1, 2, 4, 5, 6] rfl ?_
      refine g_ws (ws' := mw κ ma (tst M (thk (mA M 10 (fun _ => 0))))) (by unfold thk; rw [snapF_mA (by decide)]; rfl) ?_
      exact L46 _ 0 0 0 (thk (mA M 10 (fun _ => 0))) rfl (by omega) (by split <;> rfl) (by omega) rfl (by omega)
    · skip
      refine g_aload_n F 1 dX6_whose_27 rfl ?_
      refine g_iload_n F 0 dX6_whose_28 rfl ?_
      refine g_callI F (stk := [.int (iI (wbit 0 w 2)), .ref (ma 100)]) (st := []) (k_X6_refuse κ ma (mA M 10 (fun _ => 0)) (wbit 0 w 2) (by omega)) cal_X6_refuse lm_X6_138 0 rfl rfl rfl rfl (by decide) rfl (Nat.le_of_ble_eq_true rfl) dX6_whose_29 (fun r29 ws29 _ hr29 => ?_)
      obtain ⟨rfl, rfl⟩ := hr29
      refine g_top (y := iI (wbit 0 w 2)) rfl ?_
      refine g_ws (ws' := mw κ ma (mA (mA M 10 (fun _ => 0)) 11 (uI (M 11) (-(wbit 0 w 2)) (M 11 (-(wbit 0 w 2)) + 1)))) rfl ?_
      have hq : (wbit 0 w 2) = qWhose (cl M) (M 37) (M 38 0) c w := by unfold qWhose; (repeat' split) <;> omega
      exact K mw_same ⟨_, rfl, iIc hq, ⟨rfl, rfl, rfl, rfl, rfl, rfl, rfl, rfl, rfl, rfl, rfl, rfl, rfl, rfl, rfl, rfl, rfl, rfl⟩, (by rw [← hq]; exact (rfa_r (by omega)).symm)⟩ rfl dX6_whose_32
theorem dX5_bitsThatWoreSo_0 : decode cX5_bitsThatWoreSo 0 = .ok (.iconst 0, 1) := by decide +kernel
theorem dX5_bitsThatWoreSo_1 : decode cX5_bitsThatWoreSo 1 = .ok (.istore 4, 2) := by decide +kernel
theorem dX5_bitsThatWoreSo_3 : decode cX5_bitsThatWoreSo 3 = .ok (.iconst 0, 1) := by decide +kernel
theorem dX5_bitsThatWoreSo_4 : decode cX5_bitsThatWoreSo 4 = .ok (.istore 5, 2) := by decide +kernel
theorem dX5_bitsThatWoreSo_6 : decode cX5_bitsThatWoreSo 6 = .ok (.iload 5, 2) := by decide +kernel
theorem dX5_bitsThatWoreSo_8 : decode cX5_bitsThatWoreSo 8 = .ok (.iload_n 3, 1) := by decide +kernel
theorem dX5_bitsThatWoreSo_9 : decode cX5_bitsThatWoreSo 9 = .ok (.if_icmp .ge 34, 3) := by decide +kernel
theorem dX5_bitsThatWoreSo_12 : decode cX5_bitsThatWoreSo 12 = .ok (.aload_n 0, 1) := by decide +kernel
theorem dX5_bitsThatWoreSo_13 : decode cX5_bitsThatWoreSo 13 = .ok (.iload_n 1, 1) := by decide +kernel
theorem dX5_bitsThatWoreSo_14 : decode cX5_bitsThatWoreSo 14 = .ok (.iload_n 2, 1) := by decide +kernel
theorem dX5_bitsThatWoreSo_15 : decode cX5_bitsThatWoreSo 15 = .ok (.iload 5, 2) := by decide +kernel
theorem dX5_bitsThatWoreSo_17 : decode cX5_bitsThatWoreSo 17 = .ok (.invokevirtual 278, 3) := by decide +kernel
theorem dX5_bitsThatWoreSo_20 : decode cX5_bitsThatWoreSo 20 = .ok (.aload_n 0, 1) := by decide +kernel
theorem dX5_bitsThatWoreSo_21 : decode cX5_bitsThatWoreSo 21 = .ok (.iload_n 1, 1) := by decide +kernel
theorem dX5_bitsThatWoreSo_22 : decode cX5_bitsThatWoreSo 22 = .ok (.invokevirtual 291, 3) := by decide +kernel
theorem dX5_bitsThatWoreSo_25 : decode cX5_bitsThatWoreSo 25 = .ok (.ifCond .eq 12, 3) := by decide +kernel
theorem dX5_bitsThatWoreSo_28 : decode cX5_bitsThatWoreSo 28 = .ok (.iload 4, 2) := by decide +kernel
theorem dX5_bitsThatWoreSo_30 : decode cX5_bitsThatWoreSo 30 = .ok (.iconst 1, 1) := by decide +kernel
theorem dX5_bitsThatWoreSo_31 : decode cX5_bitsThatWoreSo 31 = .ok (.iload 5, 2) := by decide +kernel
theorem dX5_bitsThatWoreSo_33 : decode cX5_bitsThatWoreSo 33 = .ok (.ishl, 1) := by decide +kernel
theorem dX5_bitsThatWoreSo_34 : decode cX5_bitsThatWoreSo 34 = .ok (.ior, 1) := by decide +kernel
theorem dX5_bitsThatWoreSo_35 : decode cX5_bitsThatWoreSo 35 = .ok (.istore 4, 2) := by decide +kernel
theorem dX5_bitsThatWoreSo_37 : decode cX5_bitsThatWoreSo 37 = .ok (.iinc 5 1, 3) := by decide +kernel
theorem dX5_bitsThatWoreSo_40 : decode cX5_bitsThatWoreSo 40 = .ok (.goto (-34), 3) := by decide +kernel
theorem dX5_bitsThatWoreSo_43 : decode cX5_bitsThatWoreSo 43 = .ok (.iload 4, 2) := by decide +kernel
theorem dX5_bitsThatWoreSo_45 : decode cX5_bitsThatWoreSo 45 = .ok (.ireturn, 1) := by decide +kernel
set_option maxRecDepth 100000 in
set_option maxHeartbeats 4000000 in
theorem k_X5_bitsThatWoreSo (κ : Kp) (xa : Nat → Nat → Nat) (X : XS) (c : Int) (u : Int) (n : Int)  (h0 : (0 ≤ c ∧ c < 12) ∧ ((u = 0 ∧ n = 6) ∨ (u = 1 ∧ n = 10))) (hy : X 0 4 0 ≤ 990000) (ok : okC (cl (X 0))) (hr : (0 ≤ X 18 5 0 ∧ X 18 5 0 ≤ 12) ∧ ∀ j : Int, 0 ≤ j → j < X 18 5 0 → 0 ≤ X 18 4 j ∧ X 18 4 j ≤ 99) : mI κ yX5_bitsThatWoreSo cX5_bitsThatWoreSo 6 .int 5 [.ref (xa 18 100), .int (iI c), .int (iI u), .int (iI n)] (xw κ xa X) (fun r w => r = iI (sumI (wsb (cl (X 0)) (X 18 4) (X 18 5 0) c u) n) ∧ ∃ D, w = xw κ xa (setO X 2 D)) := by
  refine mI_of (by decide) (Nat.le_of_ble_eq_true rfl) (fun E F K => ?_)
  refine g_lv (lv' := [(0, .ref (xa 18 100)), (1, .int (iI c)), (2, .int (iI u)), (3, .int (iI n))]) rfl ?_
  refine g_iconst F dX5_bitsThatWoreSo_0 ?_
  refine g_istore F (lv' := [(4, .int (iI 0)), (0, .ref (xa 18 100)), (1, .int (iI c)), (2, .int (iI u)), (3, .int (iI n))]) dX5_bitsThatWoreSo_1 (by decide) rfl ?_
  refine g_iconst F dX5_bitsThatWoreSo_3 ?_
  refine g_istore F (lv' := [(5, .int (iI 0)), (4, .int (iI 0)), (0, .ref (xa 18 100)), (1, .int (iI c)), (2, .int (iI u)), (3, .int (iI n))]) dX5_bitsThatWoreSo_4 (by decide) rfl ?_
  have L6 : ∀ (mz6 : Nat) (v : Int) (b : Int) (D : MS), (n - v).toNat = mz6 → (0 ≤ v ∧ v ≤ n) → (b = sumI (wsb (cl (X 0)) (X 18 4) (X 18 5 0) c u) v) → G E (xw κ xa (setO X 2 D)) [(5, .int (iI v)), (4, .int (iI b)), (0, .ref (xa 18 100)), (1, .int (iI c)), (2, .int (iI u)), (3, .int (iI n))] 6 [] := by
    intro mz6
    induction mz6 using Nat.strongRecOn with
    | _ mz6 ih6 =>
    intro v b D hmz6 hv hb
    refine g_iload F 0 dX5_bitsThatWoreSo_6 rfl ?_
    refine g_iload_n F 5 dX5_bitsThatWoreSo_8 rfl ?_
    refine g_icmp_ge F 43 (by omega) dX5_bitsThatWoreSo_9 (by decide) (fun c9 => ?_) (fun c9 => ?_)
    · skip
      refine g_iload F 1 dX5_bitsThatWoreSo_43 rfl ?_
      exact K xw_same ⟨iIc (by rw [hb, show v = n by omega]), _, rfl⟩ rfl dX5_bitsThatWoreSo_45
    · skip
      have hbb : 0 ≤ b ∧ b < p2 v := by rw [hb]; exact wsb_bd _ _ _ _ _ hv.1
      refine g_aload_n F 2 dX5_bitsThatWoreSo_12 rfl ?_
      refine g_iload_n F 3 dX5_bitsThatWoreSo_13 rfl ?_
      refine g_iload_n F 4 dX5_bitsThatWoreSo_14 rfl ?_
      refine g_iload F 0 dX5_bitsThatWoreSo_15 rfl ?_
      refine g_callV F (stk := [.int (iI v), .int (iI u), .int (iI c), .ref (xa 18 100)]) (st := []) (k_X5_thinkOther κ xa (setO X 2 D) c u v (by omega)) cal_X5_thinkOther lm_X5_278 81 rfl rfl rfl rfl (by decide) rfl (Nat.le_of_ble_eq_true rfl) dX5_bitsThatWoreSo_17 (fun ws17 _ hr17 => ?_)
      obtain rfl := hr17
      refine g_ws (ws' := xw κ xa (setO X 2 (stC D (oth (cl (X 0)) u c v)))) rfl ?_
      refine g_aload_n F 2 dX5_bitsThatWoreSo_20 rfl ?_
      refine g_iload_n F 3 dX5_bitsThatWoreSo_21 rfl ?_
      refine g_callI F (stk := [.int (iI c), .ref (xa 18 100)]) (st := []) (k_X5_mindWoreSo κ xa (setO X 2 (stC D (oth (cl (X 0)) u c v))) c (by omega) hr (show yr (oth (cl (X 0)) u c v) ≤ 990000 by rw [oth_yr]; show X 0 4 0 ≤ 990000; omega) (show okC (oth (cl (X 0)) u c v) from oth_ok ok (by omega))) cal_X5_mindWoreSo lm_X5_291 81 rfl rfl rfl rfl (by decide) rfl (Nat.le_of_ble_eq_true rfl) dX5_bitsThatWoreSo_22 (fun r22 ws22 _ hr22 => ?_)
      obtain ⟨rfl, D22, rfl⟩ := hr22
      refine g_top (y := iI (b2i (rowI (oth (cl (X 0)) u c v) (X 18 4) c (X 18 5 0)))) rfl ?_
      refine g_ws (ws' := xw κ xa (setO X 2 D22)) rfl ?_
      refine g_if_eq F 37 (b2i_in _) dX5_bitsThatWoreSo_25 (by decide) (fun c25 => ?_) (fun c25 => ?_)
      · skip
        have c25 : ¬ (rowI (oth (cl (X 0)) u c v) (X 18 4) c (X 18 5 0)) := b2i_f c25
        refine g_iinc F (lv' := [(5, .int (iI (v + 1))), (4, .int (iI b)), (0, .ref (xa 18 100)), (1, .int (iI c)), (2, .int (iI u)), (3, .int (iI n))]) 0 dX5_bitsThatWoreSo_37 rfl (by decide) rfl ?_
        refine g_goto F 6 dX5_bitsThatWoreSo_40 (by decide) ?_
        refine g_sub F (lv' := [(5, .int (iI (v + 1))), (4, .int (iI b)), (0, .ref (xa 18 100)), (1, .int (iI c)), (2, .int (iI u)), (3, .int (iI n))]) [0, 1, 2, 3, 4, 5] rfl ?_
        exact ih6 _ (by omega) (v + 1) b D22 rfl (by omega) (by rw [sumI_s _ hv.1, ← hb]; unfold wsb; first | rw [if_pos c25] | (rw [if_neg c25]; omega))
      · skip
        have c25 : rowI (oth (cl (X 0)) u c v) (X 18 4) c (X 18 5 0) := b2i_t c25
        refine g_iload F 1 dX5_bitsThatWoreSo_28 rfl ?_
        refine g_iconst F dX5_bitsThatWoreSo_30 ?_
        refine g_iload F 0 dX5_bitsThatWoreSo_31 rfl ?_
        refine g_ishl F dX5_bitsThatWoreSo_33 ?_
        refine g_top (y := iI (p2 v)) (iI_shl1 (by omega) (by omega)) ?_
        refine g_ior F dX5_bitsThatWoreSo_34 ?_
        refine g_top (y := iI (b + p2 v)) (by rw [iI_bor hbb.1 (by have := p2_pos v; omega), bor_p2 hbb.1 hbb.2]) ?_
        refine g_istore F (lv' := [(4, .int (iI (b + p2 v))), (5, .int (iI v)), (0, .ref (xa 18 100)), (1, .int (iI c)), (2, .int (iI u)), (3, .int (iI n))]) dX5_bitsThatWoreSo_35 (by decide) rfl ?_
        refine g_iinc F (lv' := [(5, .int (iI (v + 1))), (4, .int (iI (b + p2 v))), (0, .ref (xa 18 100)), (1, .int (iI c)), (2, .int (iI u)), (3, .int (iI n))]) 1 dX5_bitsThatWoreSo_37 rfl (by decide) rfl ?_
        refine g_goto F 6 dX5_bitsThatWoreSo_40 (by decide) ?_
        refine g_sub F (lv' := [(5, .int (iI (v + 1))), (4, .int (iI (b + p2 v))), (0, .ref (xa 18 100)), (1, .int (iI c)), (2, .int (iI u)), (3, .int (iI n))]) [0, 1, 2, 3, 4, 5] rfl ?_
        exact ih6 _ (by omega) (v + 1) (b + p2 v) D22 rfl (by omega) (by rw [sumI_s _ hv.1, ← hb]; unfold wsb; first | rw [if_pos c25] | (rw [if_neg c25]; omega))
  refine g_sub F (lv' := [(5, .int (iI 0)), (4, .int (iI 0)), (0, .ref (xa 18 100)), (1, .int (iI c)), (2, .int (iI u)), (3, .int (iI n))]) [0, 1, 2, 3, 4, 5] rfl ?_
  refine g_ws (ws' := xw κ xa (setO X 2 (X 2))) rfl ?_
  exact L6 _ 0 0 (X 2) rfl (by omega) rfl
theorem dX5_agesThatWoreSo_0 : decode cX5_agesThatWoreSo 0 = .ok (.iconst 0, 1) := by decide +kernel
theorem dX5_agesThatWoreSo_1 : decode cX5_agesThatWoreSo 1 = .ok (.istore_n 2, 1) := by decide +kernel
theorem dX5_agesThatWoreSo_2 : decode cX5_agesThatWoreSo 2 = .ok (.iconst 0, 1) := by decide +kernel
theorem dX5_agesThatWoreSo_3 : decode cX5_agesThatWoreSo 3 = .ok (.istore_n 3, 1) := by decide +kernel
theorem dX5_agesThatWoreSo_4 : decode cX5_agesThatWoreSo 4 = .ok (.iload_n 3, 1) := by decide +kernel
theorem dX5_agesThatWoreSo_5 : decode cX5_agesThatWoreSo 5 = .ok (.bipush 100, 2) := by decide +kernel
theorem dX5_agesThatWoreSo_7 : decode cX5_agesThatWoreSo 7 = .ok (.if_icmp .ge 27, 3) := by decide +kernel
theorem dX5_agesThatWoreSo_10 : decode cX5_agesThatWoreSo 10 = .ok (.aload_n 0, 1) := by decide +kernel
theorem dX5_agesThatWoreSo_11 : decode cX5_agesThatWoreSo 11 = .ok (.iload_n 1, 1) := by decide +kernel
theorem dX5_agesThatWoreSo_12 : decode cX5_agesThatWoreSo 12 = .ok (.iconst 2, 1) := by decide +kernel
theorem dX5_agesThatWoreSo_13 : decode cX5_agesThatWoreSo 13 = .ok (.iload_n 3, 1) := by decide +kernel
theorem dX5_agesThatWoreSo_14 : decode cX5_agesThatWoreSo 14 = .ok (.invokevirtual 278, 3) := by decide +kernel
theorem dX5_agesThatWoreSo_17 : decode cX5_agesThatWoreSo 17 = .ok (.aload_n 0, 1) := by decide +kernel
theorem dX5_agesThatWoreSo_18 : decode cX5_agesThatWoreSo 18 = .ok (.iload_n 1, 1) := by decide +kernel
theorem dX5_agesThatWoreSo_19 : decode cX5_agesThatWoreSo 19 = .ok (.invokevirtual 291, 3) := by decide +kernel
theorem dX5_agesThatWoreSo_22 : decode cX5_agesThatWoreSo 22 = .ok (.ifCond .eq 6, 3) := by decide +kernel
theorem dX5_agesThatWoreSo_25 : decode cX5_agesThatWoreSo 25 = .ok (.iinc 2 1, 3) := by decide +kernel
theorem dX5_agesThatWoreSo_28 : decode cX5_agesThatWoreSo 28 = .ok (.iinc 3 1, 3) := by decide +kernel
theorem dX5_agesThatWoreSo_31 : decode cX5_agesThatWoreSo 31 = .ok (.goto (-27), 3) := by decide +kernel
theorem dX5_agesThatWoreSo_34 : decode cX5_agesThatWoreSo 34 = .ok (.iload_n 2, 1) := by decide +kernel
theorem dX5_agesThatWoreSo_35 : decode cX5_agesThatWoreSo 35 = .ok (.ireturn, 1) := by decide +kernel
set_option maxRecDepth 100000 in
set_option maxHeartbeats 4000000 in
theorem k_X5_agesThatWoreSo (κ : Kp) (xa : Nat → Nat → Nat) (X : XS) (c : Int)  (h0 : 0 ≤ c ∧ c < 12) (hy : X 0 4 0 ≤ 990000) (ok : okC (cl (X 0))) (hr : (0 ≤ X 18 5 0 ∧ X 18 5 0 ≤ 12) ∧ ∀ j : Int, 0 ≤ j → j < X 18 5 0 → 0 ≤ X 18 4 j ∧ X 18 4 j ≤ 99) : mI κ yX5_agesThatWoreSo cX5_agesThatWoreSo 4 .int 5 [.ref (xa 18 100), .int (iI c)] (xw κ xa X) (fun r w => r = iI (sumI (wsf (cl (X 0)) (X 18 4) (X 18 5 0) c 2) 100) ∧ ∃ D, w = xw κ xa (setO X 2 D)) := by
  refine mI_of (by decide) (Nat.le_of_ble_eq_true rfl) (fun E F K => ?_)
  refine g_lv (lv' := [(0, .ref (xa 18 100)), (1, .int (iI c))]) rfl ?_
  refine g_iconst F dX5_agesThatWoreSo_0 ?_
  refine g_istore_n F (lv' := [(2, .int (iI 0)), (0, .ref (xa 18 100)), (1, .int (iI c))]) 2 dX5_agesThatWoreSo_1 rfl (by decide) rfl ?_
  refine g_iconst F dX5_agesThatWoreSo_2 ?_
  refine g_istore_n F (lv' := [(3, .int (iI 0)), (2, .int (iI 0)), (0, .ref (xa 18 100)), (1, .int (iI c))]) 3 dX5_agesThatWoreSo_3 rfl (by decide) rfl ?_
  have L4 : ∀ (mz4 : Nat) (v : Int) (m : Int) (D : MS), (100 - v).toNat = mz4 → (0 ≤ v ∧ v ≤ 100) → (m = sumI (wsf (cl (X 0)) (X 18 4) (X 18 5 0) c 2) v) → (0 ≤ m ∧ m ≤ v) → G E (xw κ xa (setO X 2 D)) [(3, .int (iI v)), (2, .int (iI m)), (0, .ref (xa 18 100)), (1, .int (iI c))] 4 [] := by
    intro mz4
    induction mz4 using Nat.strongRecOn with
    | _ mz4 ih4 =>
    intro v m D hmz4 hv hm hmb
    refine g_iload_n F 0 dX5_agesThatWoreSo_4 rfl ?_
    refine g_bipush F dX5_agesThatWoreSo_5 (by decide +kernel) ?_
    refine g_icmp_ge F 34 (by omega) dX5_agesThatWoreSo_7 (by decide) (fun c7 => ?_) (fun c7 => ?_)
    · skip
      refine g_iload_n F 1 dX5_agesThatWoreSo_34 rfl ?_
      exact K xw_same ⟨iIc (by rw [hm, show v = 100 by omega]), _, rfl⟩ rfl dX5_agesThatWoreSo_35
    · skip
      refine g_aload_n F 2 dX5_agesThatWoreSo_10 rfl ?_
      refine g_iload_n F 3 dX5_agesThatWoreSo_11 rfl ?_
      refine g_iconst F dX5_agesThatWoreSo_12 ?_
      refine g_iload_n F 0 dX5_agesThatWoreSo_13 rfl ?_
      refine g_callV F (stk := [.int (iI v), .int (iI 2), .int (iI c), .ref (xa 18 100)]) (st := []) (k_X5_thinkOther κ xa (setO X 2 D) c 2 v (by omega)) cal_X5_thinkOther lm_X5_278 81 rfl rfl rfl rfl (by decide) rfl (Nat.le_of_ble_eq_true rfl) dX5_agesThatWoreSo_14 (fun ws14 _ hr14 => ?_)
      obtain rfl := hr14
      refine g_ws (ws' := xw κ xa (setO X 2 (stC D (oth (cl (X 0)) 2 c v)))) rfl ?_
      refine g_aload_n F 2 dX5_agesThatWoreSo_17 rfl ?_
      refine g_iload_n F 3 dX5_agesThatWoreSo_18 rfl ?_
      refine g_callI F (stk := [.int (iI c), .ref (xa 18 100)]) (st := []) (k_X5_mindWoreSo κ xa (setO X 2 (stC D (oth (cl (X 0)) 2 c v))) c (by omega) hr (show yr (oth (cl (X 0)) 2 c v) ≤ 990000 by rw [oth_yr]; show X 0 4 0 ≤ 990000; omega) (show okC (oth (cl (X 0)) 2 c v) from oth_ok ok (by omega))) cal_X5_mindWoreSo lm_X5_291 81 rfl rfl rfl rfl (by decide) rfl (Nat.le_of_ble_eq_true rfl) dX5_agesThatWoreSo_19 (fun r19 ws19 _ hr19 => ?_)
      obtain ⟨rfl, D19, rfl⟩ := hr19
      refine g_top (y := iI (b2i (rowI (oth (cl (X 0)) 2 c v) (X 18 4) c (X 18 5 0)))) rfl ?_
      refine g_ws (ws' := xw κ xa (setO X 2 D19)) rfl ?_
      refine g_if_eq F 28 (b2i_in _) dX5_agesThatWoreSo_22 (by decide) (fun c22 => ?_) (fun c22 => ?_)
      · skip
        have c22 : ¬ (rowI (oth (cl (X 0)) 2 c v) (X 18 4) c (X 18 5 0)) := b2i_f c22
        refine g_iinc F (lv' := [(3, .int (iI (v + 1))), (2, .int (iI m)), (0, .ref (xa 18 100)), (1, .int (iI c))]) 0 dX5_agesThatWoreSo_28 rfl (by decide) rfl ?_
        refine g_goto F 4 dX5_agesThatWoreSo_31 (by decide) ?_
        refine g_sub F (lv' := [(3, .int (iI (v + 1))), (2, .int (iI m)), (0, .ref (xa 18 100)), (1, .int (iI c))]) [0, 1, 2, 3] rfl ?_
        exact ih4 _ (by omega) (v + 1) m D19 rfl (by omega) (by rw [sumI_s _ hv.1, ← hm]; unfold wsf; first | rw [if_pos c22] | (rw [if_neg c22]; omega)) (by omega)
      · skip
        have c22 : rowI (oth (cl (X 0)) 2 c v) (X 18 4) c (X 18 5 0) := b2i_t c22
        refine g_iinc F (lv' := [(2, .int (iI (m + 1))), (3, .int (iI v)), (0, .ref (xa 18 100)), (1, .int (iI c))]) 1 dX5_agesThatWoreSo_25 rfl (by decide) rfl ?_
        refine g_iinc F (lv' := [(3, .int (iI (v + 1))), (2, .int (iI (m + 1))), (0, .ref (xa 18 100)), (1, .int (iI c))]) 1 dX5_agesThatWoreSo_28 rfl (by decide) rfl ?_
        refine g_goto F 4 dX5_agesThatWoreSo_31 (by decide) ?_
        refine g_sub F (lv' := [(3, .int (iI (v + 1))), (2, .int (iI (m + 1))), (0, .ref (xa 18 100)), (1, .int (iI c))]) [0, 1, 2, 3] rfl ?_
        exact ih4 _ (by omega) (v + 1) (m + 1) D19 rfl (by omega) (by rw [sumI_s _ hv.1, ← hm]; unfold wsf; first | rw [if_pos c22] | (rw [if_neg c22]; omega)) (by omega)
  refine g_sub F (lv' := [(3, .int (iI 0)), (2, .int (iI 0)), (0, .ref (xa 18 100)), (1, .int (iI c))]) [0, 1, 2, 3] rfl ?_
  refine g_ws (ws' := xw κ xa (setO X 2 (X 2))) rfl ?_
  exact L4 _ 0 0 (X 2) rfl (by omega) rfl (by omega)
theorem dX5_whose_0 : decode cX5_whose 0 = .ok (.iload_n 1, 1) := by decide +kernel
theorem dX5_whose_1 : decode cX5_whose 1 = .ok (.invokestatic 134, 3) := by decide +kernel
theorem dX5_whose_4 : decode cX5_whose 4 = .ok (.ifCond .ne 9, 3) := by decide +kernel
theorem dX5_whose_7 : decode cX5_whose 7 = .ok (.aload_n 0, 1) := by decide +kernel
theorem dX5_whose_8 : decode cX5_whose 8 = .ok (.iconst (-1), 1) := by decide +kernel
theorem dX5_whose_9 : decode cX5_whose 9 = .ok (.invokevirtual 69, 3) := by decide +kernel
theorem dX5_whose_12 : decode cX5_whose 12 = .ok (.ireturn, 1) := by decide +kernel
theorem dX5_whose_13 : decode cX5_whose 13 = .ok (.iload_n 2, 1) := by decide +kernel
theorem dX5_whose_14 : decode cX5_whose 14 = .ok (.tableswitch 50 0 2 #[26, 35, 44], 26) := by decide +kernel
theorem dX5_whose_40 : decode cX5_whose 40 = .ok (.aload_n 0, 1) := by decide +kernel
theorem dX5_whose_41 : decode cX5_whose 41 = .ok (.iload_n 1, 1) := by decide +kernel
theorem dX5_whose_42 : decode cX5_whose 42 = .ok (.iconst 0, 1) := by decide +kernel
theorem dX5_whose_43 : decode cX5_whose 43 = .ok (.bipush 6, 2) := by decide +kernel
theorem dX5_whose_45 : decode cX5_whose 45 = .ok (.invokevirtual 284, 3) := by decide +kernel
theorem dX5_whose_48 : decode cX5_whose 48 = .ok (.ireturn, 1) := by decide +kernel
theorem dX5_whose_49 : decode cX5_whose 49 = .ok (.aload_n 0, 1) := by decide +kernel
theorem dX5_whose_50 : decode cX5_whose 50 = .ok (.iload_n 1, 1) := by decide +kernel
theorem dX5_whose_51 : decode cX5_whose 51 = .ok (.iconst 1, 1) := by decide +kernel
theorem dX5_whose_52 : decode cX5_whose 52 = .ok (.bipush 10, 2) := by decide +kernel
theorem dX5_whose_54 : decode cX5_whose 54 = .ok (.invokevirtual 284, 3) := by decide +kernel
theorem dX5_whose_57 : decode cX5_whose 57 = .ok (.ireturn, 1) := by decide +kernel
theorem dX5_whose_58 : decode cX5_whose 58 = .ok (.aload_n 0, 1) := by decide +kernel
theorem dX5_whose_59 : decode cX5_whose 59 = .ok (.iload_n 1, 1) := by decide +kernel
theorem dX5_whose_60 : decode cX5_whose 60 = .ok (.invokevirtual 288, 3) := by decide +kernel
theorem dX5_whose_63 : decode cX5_whose 63 = .ok (.ireturn, 1) := by decide +kernel
theorem dX5_whose_64 : decode cX5_whose 64 = .ok (.aload_n 0, 1) := by decide +kernel
theorem dX5_whose_65 : decode cX5_whose 65 = .ok (.bipush (-2), 2) := by decide +kernel
theorem dX5_whose_67 : decode cX5_whose 67 = .ok (.invokevirtual 69, 3) := by decide +kernel
theorem dX5_whose_70 : decode cX5_whose 70 = .ok (.ireturn, 1) := by decide +kernel
set_option maxRecDepth 100000 in
set_option maxHeartbeats 4000000 in
theorem k_X5_whose (κ : Kp) (xa : Nat → Nat → Nat) (X : XS) (c : Int) (w : Int)  (ha_c : In32 c) (ha_w : In32 w) (ok : okC (cl (X 0))) (hy : X 0 4 0 ≤ 999) (hr : (0 ≤ X 18 5 0 ∧ X 18 5 0 ≤ 12) ∧ ∀ j : Int, 0 ≤ j → j < X 18 5 0 → 0 ≤ X 18 4 j ∧ X 18 4 j ≤ 99) : mI κ yX5_whose cX5_whose 3 .int 6 [.ref (xa 18 100), .int (iI c), .int (iI w)] (xw κ xa X) (qX κ xa X (qWhose (cl (X 0)) (X 18 4) (X 18 5 0) c w)) := by
  refine mI_of (by decide) (Nat.le_of_ble_eq_true rfl) (fun E F K => ?_)
  refine g_lv (lv' := [(0, .ref (xa 18 100)), (1, .int (iI c)), (2, .int (iI w))]) rfl ?_
  have hw0 := wsb_bd (cl (X 0)) (X 18 4) (X 18 5 0) c 0 (v := 6) (by decide)
  have hw1 := wsb_bd (cl (X 0)) (X 18 4) (X 18 5 0) c 1 (v := 10) (by decide)
  have hw2 := wsf_bd (cl (X 0)) (X 18 4) (X 18 5 0) c 2 (v := 100) (by decide)
  refine g_iload_n F 1 dX5_whose_0 rfl ?_
  refine g_callSI F (stk := [.int (iI c)]) (st := []) (k_X5_isCell κ (xw κ xa X) c (by omega)) cal_X5_isCell lm_X5_134 rfl (by decide) rfl (Nat.le_of_ble_eq_true rfl) dX5_whose_1 (fun r1 ws1 _ hr1 => ?_)
  obtain ⟨rfl, rfl⟩ := hr1
  refine g_if_ne F 13 (b2i_in _) dX5_whose_4 (by decide) (fun c4 => ?_) (fun c4 => ?_)
  · skip
    have c4 : 0 ≤ c ∧ c < 12 := b2i_t c4
    refine g_iload_n F 2 dX5_whose_13 rfl ?_
    by_cases c14_0 : w = 0
    · skip
      refine g_tsw_in F 40 (by omega) dX5_whose_14 (by omega) (by omega) (by rw [c14_0]; rfl) (by decide) ?_
      refine g_aload_n F 0 dX5_whose_40 rfl ?_
      refine g_iload_n F 1 dX5_whose_41 rfl ?_
      refine g_iconst F dX5_whose_42 ?_
      refine g_bipush F dX5_whose_43 (by decide +kernel) ?_
      refine g_callI F (stk := [.int (iI 6), .int (iI 0), .int (iI c), .ref (xa 18 100)]) (st := []) (k_X5_bitsThatWoreSo κ xa X c 0 6 (by omega) (show ((X 0) 4 0) ≤ 990000 from by omega) ok hr) cal_X5_bitsThatWoreSo lm_X5_284 81 rfl rfl rfl rfl (by decide) rfl (Nat.le_of_ble_eq_true rfl) dX5_whose_45 (fun r45 ws45 _ hr45 => ?_)
      obtain ⟨rfl, D45, rfl⟩ := hr45
      have hq : sumI (wsb (cl (X 0)) (X 18 4) (X 18 5 0) c 0) 6 = qWhose (cl (X 0)) (X 18 4) (X 18 5 0) c w := by unfold qWhose; rw [if_neg (by omega), if_neg (by omega), if_neg (by omega), if_pos (by omega), c14_0]
      exact K xw_same ⟨_, rfl, iIc hq, (sX_o sX_0 (by decide)), (by rw [← hq]; exact (rfa_n (by omega)).symm)⟩ rfl dX5_whose_48
    by_cases c14_1 : w = 1
    · skip
      refine g_tsw_in F 49 (by omega) dX5_whose_14 (by omega) (by omega) (by rw [c14_1]; rfl) (by decide) ?_
      refine g_aload_n F 0 dX5_whose_49 rfl ?_
      refine g_iload_n F 1 dX5_whose_50 rfl ?_
      refine g_iconst F dX5_whose_51 ?_
      refine g_bipush F dX5_whose_52 (by decide +kernel) ?_
      refine g_callI F (stk := [.int (iI 10), .int (iI 1), .int (iI c), .ref (xa 18 100)]) (st := []) (k_X5_bitsThatWoreSo κ xa X c 1 10 (by omega) (show ((X 0) 4 0) ≤ 990000 from by omega) ok hr) cal_X5_bitsThatWoreSo lm_X5_284 81 rfl rfl rfl rfl (by decide) rfl (Nat.le_of_ble_eq_true rfl) dX5_whose_54 (fun r54 ws54 _ hr54 => ?_)
      obtain ⟨rfl, D54, rfl⟩ := hr54
      have hq : sumI (wsb (cl (X 0)) (X 18 4) (X 18 5 0) c 1) 10 = qWhose (cl (X 0)) (X 18 4) (X 18 5 0) c w := by unfold qWhose; rw [if_neg (by omega), if_neg (by omega), if_neg (by omega), if_neg (by omega), c14_1]
      exact K xw_same ⟨_, rfl, iIc hq, (sX_o sX_0 (by decide)), (by rw [← hq]; exact (rfa_n (by omega)).symm)⟩ rfl dX5_whose_57
    by_cases c14_2 : w = 2
    · skip
      refine g_tsw_in F 58 (by omega) dX5_whose_14 (by omega) (by omega) (by rw [c14_2]; rfl) (by decide) ?_
      refine g_aload_n F 0 dX5_whose_58 rfl ?_
      refine g_iload_n F 1 dX5_whose_59 rfl ?_
      refine g_callI F (stk := [.int (iI c), .ref (xa 18 100)]) (st := []) (k_X5_agesThatWoreSo κ xa X c (by omega) (show ((X 0) 4 0) ≤ 990000 from by omega) ok hr) cal_X5_agesThatWoreSo lm_X5_288 81 rfl rfl rfl rfl (by decide) rfl (Nat.le_of_ble_eq_true rfl) dX5_whose_60 (fun r60 ws60 _ hr60 => ?_)
      obtain ⟨rfl, D60, rfl⟩ := hr60
      have hq : sumI (wsf (cl (X 0)) (X 18 4) (X 18 5 0) c 2) 100 = qWhose (cl (X 0)) (X 18 4) (X 18 5 0) c w := by unfold qWhose; rw [if_neg (by omega), if_neg (by omega), if_pos (by omega), c14_2]
      exact K xw_same ⟨_, rfl, iIc hq, (sX_o sX_0 (by decide)), (by rw [← hq]; exact (rfa_n (by omega)).symm)⟩ rfl dX5_whose_63
    refine g_tsw_out F 64 (by omega) dX5_whose_14 (by omega) (by decide) ?_
    refine g_aload_n F 0 dX5_whose_64 rfl ?_
    refine g_bipush F dX5_whose_65 (by decide +kernel) ?_
    refine g_callI F (stk := [.int (iI (-2)), .ref (xa 18 100)]) (st := []) (k_X5_refuse κ xa X (-2) (by omega)) cal_X5_refuse lm_X5_69 81 rfl rfl rfl rfl (by decide) rfl (Nat.le_of_ble_eq_true rfl) dX5_whose_67 (fun r67 ws67 _ hr67 => ?_)
    obtain ⟨rfl, rfl⟩ := hr67
    have hq : (-2) = qWhose (cl (X 0)) (X 18 4) (X 18 5 0) c w := by unfold qWhose; (repeat' split) <;> omega
    exact K xw_same ⟨_, rfl, iIc hq, (sX_18 sX_0 rfl rfl rfl), (by rw [← hq]; exact (rfa_r (by omega)).symm)⟩ rfl dX5_whose_70
  · skip
    have c4 : ¬ (0 ≤ c ∧ c < 12) := b2i_f c4
    refine g_aload_n F 0 dX5_whose_7 rfl ?_
    refine g_iconst F dX5_whose_8 ?_
    refine g_callI F (stk := [.int (iI (-1)), .ref (xa 18 100)]) (st := []) (k_X5_refuse κ xa X (-1) (by omega)) cal_X5_refuse lm_X5_69 81 rfl rfl rfl rfl (by decide) rfl (Nat.le_of_ble_eq_true rfl) dX5_whose_9 (fun r9 ws9 _ hr9 => ?_)
    obtain ⟨rfl, rfl⟩ := hr9
    have hq : (-1) = qWhose (cl (X 0)) (X 18 4) (X 18 5 0) c w := by unfold qWhose; (repeat' split) <;> omega
    exact K xw_same ⟨_, rfl, iIc hq, (sX_18 sX_0 rfl rfl rfl), (by rw [← hq]; exact (rfa_r (by omega)).symm)⟩ rfl dX5_whose_12
