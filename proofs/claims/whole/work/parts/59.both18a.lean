theorem dX3_letterAt_0 : decode cX3_letterAt 0 = .ok (.iload_n 1, 1) := by decide +kernel
theorem dX3_letterAt_1 : decode cX3_letterAt 1 = .ok (.ifCond .lt 20, 3) := by decide +kernel
theorem dX3_letterAt_4 : decode cX3_letterAt 4 = .ok (.iload_n 1, 1) := by decide +kernel
theorem dX3_letterAt_5 : decode cX3_letterAt 5 = .ok (.aload_n 0, 1) := by decide +kernel
theorem dX3_letterAt_6 : decode cX3_letterAt 6 = .ok (.getfield 15, 3) := by decide +kernel
theorem dX3_letterAt_9 : decode cX3_letterAt 9 = .ok (.if_icmp .ge 12, 3) := by decide +kernel
theorem dX3_letterAt_12 : decode cX3_letterAt 12 = .ok (.aload_n 0, 1) := by decide +kernel
theorem dX3_letterAt_13 : decode cX3_letterAt 13 = .ok (.getfield 9, 3) := by decide +kernel
theorem dX3_letterAt_16 : decode cX3_letterAt 16 = .ok (.iload_n 1, 1) := by decide +kernel
theorem dX3_letterAt_17 : decode cX3_letterAt 17 = .ok (.iaload, 1) := by decide +kernel
theorem dX3_letterAt_18 : decode cX3_letterAt 18 = .ok (.goto 4, 3) := by decide +kernel
theorem dX3_letterAt_21 : decode cX3_letterAt 21 = .ok (.iconst (-1), 1) := by decide +kernel
theorem dX3_letterAt_22 : decode cX3_letterAt 22 = .ok (.ireturn, 1) := by decide +kernel
set_option maxRecDepth 100000 in
set_option maxHeartbeats 4000000 in
theorem k_X3_letterAt (κ : Kp) (xa : Nat → Nat → Nat) (X : XS) (p : Int)  (hp : In32 p) (hn : 0 ≤ X 16 1 0 ∧ X 16 1 0 ≤ 96) : mI κ yX3_letterAt cX3_letterAt 2 .int 0 [.ref (xa 16 100), .int (iI p)] (xw κ xa X) (is1 (iI (lt (X 16 0) (X 16 1 0) p)) (xw κ xa X)) := by
  refine mI_of (by decide) (Nat.le_of_ble_eq_true rfl) (fun E F K => ?_)
  refine g_lv (lv' := [(0, .ref (xa 16 100)), (1, .int (iI p))]) rfl ?_
  refine g_iload_n F 1 dX3_letterAt_0 rfl ?_
  refine g_if_lt F 21 (by omega) dX3_letterAt_1 (by decide) (fun c1 => ?_) (fun c1 => ?_)
  · skip
    refine g_iconst F dX3_letterAt_21 ?_
    exact K xw_same ⟨iIc (by unfold lt; first | rw [if_pos (show 0 ≤ p ∧ p < X 16 1 0 by omega)] | rw [if_neg (show ¬ (0 ≤ p ∧ p < X 16 1 0) by omega)]), rfl⟩ rfl dX3_letterAt_22
  · skip
    refine g_iload_n F 1 dX3_letterAt_4 rfl ?_
    refine g_aload_n F 0 dX3_letterAt_5 rfl ?_
    refine g16_get_1 F  lf_X3_15 dX3_letterAt_6 ?_
    refine g_icmp_ge F 21 (by omega) dX3_letterAt_9 (by decide) (fun c9 => ?_) (fun c9 => ?_)
    · skip
      refine g_iconst F dX3_letterAt_21 ?_
      exact K xw_same ⟨iIc (by unfold lt; first | rw [if_pos (show 0 ≤ p ∧ p < X 16 1 0 by omega)] | rw [if_neg (show ¬ (0 ≤ p ∧ p < X 16 1 0) by omega)]), rfl⟩ rfl dX3_letterAt_22
    · skip
      refine g_aload_n F 0 dX3_letterAt_12 rfl ?_
      refine g16_get_0 F  lf_X3_9 dX3_letterAt_13 ?_
      refine g_iload_n F 1 dX3_letterAt_16 rfl ?_
      refine g16_ald_0 F  (by omega) dX3_letterAt_17 ?_
      refine g_goto F 22 dX3_letterAt_18 (by decide) ?_
      exact K xw_same ⟨iIc (by unfold lt; first | rw [if_pos (show 0 ≤ p ∧ p < X 16 1 0 by omega)] | rw [if_neg (show ¬ (0 ≤ p ∧ p < X 16 1 0) by omega)]), rfl⟩ rfl dX3_letterAt_22
theorem dX3_sizeAt_0 : decode cX3_sizeAt 0 = .ok (.aload_n 0, 1) := by decide +kernel
theorem dX3_sizeAt_1 : decode cX3_sizeAt 1 = .ok (.iload_n 1, 1) := by decide +kernel
theorem dX3_sizeAt_2 : decode cX3_sizeAt 2 = .ok (.invokevirtual 19, 3) := by decide +kernel
theorem dX3_sizeAt_5 : decode cX3_sizeAt 5 = .ok (.lookupswitch 61 #[(99, 51), (112, 57), (114, 54), (119, 54), (121, 59)], 51) := by decide +kernel
theorem dX3_sizeAt_56 : decode cX3_sizeAt 56 = .ok (.bipush 10, 2) := by decide +kernel
theorem dX3_sizeAt_58 : decode cX3_sizeAt 58 = .ok (.ireturn, 1) := by decide +kernel
theorem dX3_sizeAt_59 : decode cX3_sizeAt 59 = .ok (.bipush 6, 2) := by decide +kernel
theorem dX3_sizeAt_61 : decode cX3_sizeAt 61 = .ok (.ireturn, 1) := by decide +kernel
theorem dX3_sizeAt_62 : decode cX3_sizeAt 62 = .ok (.iconst 5, 1) := by decide +kernel
theorem dX3_sizeAt_63 : decode cX3_sizeAt 63 = .ok (.ireturn, 1) := by decide +kernel
theorem dX3_sizeAt_64 : decode cX3_sizeAt 64 = .ok (.iconst 4, 1) := by decide +kernel
theorem dX3_sizeAt_65 : decode cX3_sizeAt 65 = .ok (.ireturn, 1) := by decide +kernel
theorem dX3_sizeAt_66 : decode cX3_sizeAt 66 = .ok (.iconst 0, 1) := by decide +kernel
theorem dX3_sizeAt_67 : decode cX3_sizeAt 67 = .ok (.ireturn, 1) := by decide +kernel
set_option maxRecDepth 100000 in
set_option maxHeartbeats 4000000 in
theorem k_X3_sizeAt (κ : Kp) (xa : Nat → Nat → Nat) (X : XS) (p : Int)  (hp : In32 p) (hn : 0 ≤ X 16 1 0 ∧ X 16 1 0 ≤ 96) (hlr : ∀ j : Int, 0 ≤ j → j < 96 → 0 ≤ X 16 0 j ∧ X 16 0 j ≤ 255) : mI κ yX3_sizeAt cX3_sizeAt 2 .int 1 [.ref (xa 16 100), .int (iI p)] (xw κ xa X) (is1 (iI (szC (lt (X 16 0) (X 16 1 0) p))) (xw κ xa X)) := by
  refine mI_of (by decide) (Nat.le_of_ble_eq_true rfl) (fun E F K => ?_)
  refine g_lv (lv' := [(0, .ref (xa 16 100)), (1, .int (iI p))]) rfl ?_
  have hlt := lt_bd (L := X 16 0) (n := X 16 1 0) hlr (by omega) p
  refine g_aload_n F 0 dX3_sizeAt_0 rfl ?_
  refine g_iload_n F 1 dX3_sizeAt_1 rfl ?_
  refine g_callI F (stk := [.int (iI p), .ref (xa 16 100)]) (st := []) (k_X3_letterAt κ xa X p (by omega) (show 0 ≤ ((X 16) 1 0) ∧ ((X 16) 1 0) ≤ 96 from by omega)) cal_X3_letterAt lm_X3_19 75 rfl rfl rfl rfl (by decide) rfl (Nat.le_of_ble_eq_true rfl) dX3_sizeAt_2 (fun r2 ws2 _ hr2 => ?_)
  obtain ⟨rfl, rfl⟩ := hr2
  by_cases c5_99 : (lt (X 16 0) (X 16 1 0) p) = 99
  · skip
    refine g_lsw F 56 (by omega) dX3_sizeAt_5 (by decide +kernel) (off := 51) (by rw [c5_99]; decide +kernel) (by decide) ?_
    refine g_bipush F dX3_sizeAt_56 (by decide +kernel) ?_
    exact K xw_same ⟨iIc (by unfold szC; (repeat' split) <;> omega), rfl⟩ rfl dX3_sizeAt_58
  by_cases c5_112 : (lt (X 16 0) (X 16 1 0) p) = 112
  · skip
    refine g_lsw F 62 (by omega) dX3_sizeAt_5 (by decide +kernel) (off := 57) (by rw [c5_112]; decide +kernel) (by decide) ?_
    refine g_iconst F dX3_sizeAt_62 ?_
    exact K xw_same ⟨iIc (by unfold szC; (repeat' split) <;> omega), rfl⟩ rfl dX3_sizeAt_63
  by_cases c5_114 : (lt (X 16 0) (X 16 1 0) p) = 114
  · skip
    refine g_lsw F 59 (by omega) dX3_sizeAt_5 (by decide +kernel) (off := 54) (by rw [c5_114]; decide +kernel) (by decide) ?_
    refine g_bipush F dX3_sizeAt_59 (by decide +kernel) ?_
    exact K xw_same ⟨iIc (by unfold szC; (repeat' split) <;> omega), rfl⟩ rfl dX3_sizeAt_61
  by_cases c5_119 : (lt (X 16 0) (X 16 1 0) p) = 119
  · skip
    refine g_lsw F 59 (by omega) dX3_sizeAt_5 (by decide +kernel) (off := 54) (by rw [c5_119]; decide +kernel) (by decide) ?_
    refine g_bipush F dX3_sizeAt_59 (by decide +kernel) ?_
    exact K xw_same ⟨iIc (by unfold szC; (repeat' split) <;> omega), rfl⟩ rfl dX3_sizeAt_61
  by_cases c5_121 : (lt (X 16 0) (X 16 1 0) p) = 121
  · skip
    refine g_lsw F 64 (by omega) dX3_sizeAt_5 (by decide +kernel) (off := 59) (by rw [c5_121]; decide +kernel) (by decide) ?_
    refine g_iconst F dX3_sizeAt_64 ?_
    exact K xw_same ⟨iIc (by unfold szC; (repeat' split) <;> omega), rfl⟩ rfl dX3_sizeAt_65
  refine g_lsw F 66 (by omega) dX3_sizeAt_5 (by decide +kernel) (off := 61) (by simp [Op.lookupswitch.offset, List.find?]; omega) (by decide) ?_
  refine g_iconst F dX3_sizeAt_66 ?_
  exact K xw_same ⟨iIc (by unfold szC; (repeat' split) <;> omega), rfl⟩ rfl dX3_sizeAt_67
theorem dX3_isDigit_0 : decode cX3_isDigit 0 = .ok (.iload_n 0, 1) := by decide +kernel
theorem dX3_isDigit_1 : decode cX3_isDigit 1 = .ok (.bipush 48, 2) := by decide +kernel
theorem dX3_isDigit_3 : decode cX3_isDigit 3 = .ok (.if_icmp .lt 13, 3) := by decide +kernel
theorem dX3_isDigit_6 : decode cX3_isDigit 6 = .ok (.iload_n 0, 1) := by decide +kernel
theorem dX3_isDigit_7 : decode cX3_isDigit 7 = .ok (.bipush 57, 2) := by decide +kernel
theorem dX3_isDigit_9 : decode cX3_isDigit 9 = .ok (.if_icmp .gt 7, 3) := by decide +kernel
theorem dX3_isDigit_12 : decode cX3_isDigit 12 = .ok (.iconst 1, 1) := by decide +kernel
theorem dX3_isDigit_13 : decode cX3_isDigit 13 = .ok (.goto 4, 3) := by decide +kernel
theorem dX3_isDigit_16 : decode cX3_isDigit 16 = .ok (.iconst 0, 1) := by decide +kernel
theorem dX3_isDigit_17 : decode cX3_isDigit 17 = .ok (.ireturn, 1) := by decide +kernel
set_option maxRecDepth 100000 in
set_option maxHeartbeats 4000000 in
theorem k_X3_isDigit (κ : Kp) (ws : va_W) (c : Int)  (hr : In32 c) : mI κ yX3_isDigit cX3_isDigit 1 .boolean 0 [.int (iI c)] ws (is1 (iI (b2i (dig c))) ws) := by
  refine mI_of (by decide) (Nat.le_of_ble_eq_true rfl) (fun E F K => ?_)
  refine g_lv (lv' := [(0, .int (iI c))]) rfl ?_
  refine g_iload_n F 0 dX3_isDigit_0 rfl ?_
  refine g_bipush F dX3_isDigit_1 (by decide +kernel) ?_
  refine g_icmp_lt F 16 (by omega) dX3_isDigit_3 (by decide) (fun c3 => ?_) (fun c3 => ?_)
  · skip
    refine g_iconst F dX3_isDigit_16 ?_
    exact K sameA.rf ⟨b2i_0 (by omega), rfl⟩ (by decide +kernel) dX3_isDigit_17
  · skip
    refine g_iload_n F 0 dX3_isDigit_6 rfl ?_
    refine g_bipush F dX3_isDigit_7 (by decide +kernel) ?_
    refine g_icmp_gt F 16 (by omega) dX3_isDigit_9 (by decide) (fun c9 => ?_) (fun c9 => ?_)
    · skip
      refine g_iconst F dX3_isDigit_16 ?_
      exact K sameA.rf ⟨b2i_0 (by omega), rfl⟩ (by decide +kernel) dX3_isDigit_17
    · skip
      refine g_iconst F dX3_isDigit_12 ?_
      refine g_goto F 17 dX3_isDigit_13 (by decide) ?_
      exact K sameA.rf ⟨b2i_1 (by omega), rfl⟩ (by decide +kernel) dX3_isDigit_17
theorem dX3_number_0 : decode cX3_number 0 = .ok (.iconst 0, 1) := by decide +kernel
theorem dX3_number_1 : decode cX3_number 1 = .ok (.istore_n 3, 1) := by decide +kernel
theorem dX3_number_2 : decode cX3_number 2 = .ok (.iload_n 1, 1) := by decide +kernel
theorem dX3_number_3 : decode cX3_number 3 = .ok (.istore 4, 2) := by decide +kernel
theorem dX3_number_5 : decode cX3_number 5 = .ok (.iload 4, 2) := by decide +kernel
theorem dX3_number_7 : decode cX3_number 7 = .ok (.iload_n 1, 1) := by decide +kernel
theorem dX3_number_8 : decode cX3_number 8 = .ok (.iload_n 2, 1) := by decide +kernel
theorem dX3_number_9 : decode cX3_number 9 = .ok (.iadd, 1) := by decide +kernel
theorem dX3_number_10 : decode cX3_number 10 = .ok (.if_icmp .ge 24, 3) := by decide +kernel
theorem dX3_number_13 : decode cX3_number 13 = .ok (.bipush 10, 2) := by decide +kernel
theorem dX3_number_15 : decode cX3_number 15 = .ok (.iload_n 3, 1) := by decide +kernel
theorem dX3_number_16 : decode cX3_number 16 = .ok (.imul, 1) := by decide +kernel
theorem dX3_number_17 : decode cX3_number 17 = .ok (.aload_n 0, 1) := by decide +kernel
theorem dX3_number_18 : decode cX3_number 18 = .ok (.iload 4, 2) := by decide +kernel
theorem dX3_number_20 : decode cX3_number 20 = .ok (.invokevirtual 19, 3) := by decide +kernel
theorem dX3_number_23 : decode cX3_number 23 = .ok (.iadd, 1) := by decide +kernel
theorem dX3_number_24 : decode cX3_number 24 = .ok (.bipush 48, 2) := by decide +kernel
theorem dX3_number_26 : decode cX3_number 26 = .ok (.isub, 1) := by decide +kernel
theorem dX3_number_27 : decode cX3_number 27 = .ok (.istore_n 3, 1) := by decide +kernel
theorem dX3_number_28 : decode cX3_number 28 = .ok (.iinc 4 1, 3) := by decide +kernel
theorem dX3_number_31 : decode cX3_number 31 = .ok (.goto (-26), 3) := by decide +kernel
theorem dX3_number_34 : decode cX3_number 34 = .ok (.iload_n 3, 1) := by decide +kernel
theorem dX3_number_35 : decode cX3_number 35 = .ok (.ireturn, 1) := by decide +kernel
set_option maxRecDepth 100000 in
set_option maxHeartbeats 4000000 in
theorem k_X3_number (κ : Kp) (xa : Nat → Nat → Nat) (X : XS) (p : Int) (d : Int)  (hp : (0 ≤ p ∧ p ≤ 200) ∧ 1 ≤ d ∧ d ≤ 2) (hn : 0 ≤ X 16 1 0 ∧ X 16 1 0 ≤ 96) : mI κ yX3_number cX3_number 5 .int 1 [.ref (xa 16 100), .int (iI p), .int (iI d)] (xw κ xa X) (is1 (iI (num (X 16 0) (X 16 1 0) p d)) (xw κ xa X)) := by
  refine mI_of (by decide) (Nat.le_of_ble_eq_true rfl) (fun E F K => ?_)
  refine g_lv (lv' := [(0, .ref (xa 16 100)), (1, .int (iI p)), (2, .int (iI d))]) rfl ?_
  refine g_iconst F dX3_number_0 ?_
  refine g_istore_n F (lv' := [(3, .int (iI 0)), (0, .ref (xa 16 100)), (1, .int (iI p)), (2, .int (iI d))]) 3 dX3_number_1 rfl (by decide) rfl ?_
  refine g_iload_n F 2 dX3_number_2 rfl ?_
  refine g_istore F (lv' := [(4, .int (iI p)), (3, .int (iI 0)), (0, .ref (xa 16 100)), (1, .int (iI p)), (2, .int (iI d))]) dX3_number_3 (by decide) rfl ?_
  have L5 : ∀ (mz5 : Nat) (q : Int) (v : Int), (p + d - q).toNat = mz5 → (p ≤ q ∧ q ≤ p + d) → (v = num (X 16 0) (X 16 1 0) p (q - p)) → G E (xw κ xa X) [(4, .int (iI q)), (3, .int (iI v)), (0, .ref (xa 16 100)), (1, .int (iI p)), (2, .int (iI d))] 5 [] := by
    intro mz5
    induction mz5 using Nat.strongRecOn with
    | _ mz5 ih5 =>
    intro q v hmz5 hq hv
    refine g_iload F 0 dX3_number_5 rfl ?_
    refine g_iload_n F 3 dX3_number_7 rfl ?_
    refine g_iload_n F 4 dX3_number_8 rfl ?_
    refine g_iadd F dX3_number_9 ?_
    refine g_icmp_ge F 34 (by omega) dX3_number_10 (by decide) (fun c10 => ?_) (fun c10 => ?_)
    · skip
      refine g_iload_n F 1 dX3_number_34 rfl ?_
      exact K xw_same ⟨iIc (by rw [hv, show q - p = d by omega]), rfl⟩ rfl dX3_number_35
    · skip
      refine g_bipush F dX3_number_13 (by decide +kernel) ?_
      refine g_iload_n F 1 dX3_number_15 rfl ?_
      refine g_imul F dX3_number_16 ?_
      refine g_aload_n F 2 dX3_number_17 rfl ?_
      refine g_iload F 0 dX3_number_18 rfl ?_
      refine g_callI F (stk := [.int (iI q), .ref (xa 16 100), .int (iI (10 * v))]) (st := [.int (iI (10 * v))]) (k_X3_letterAt κ xa X q (by omega) (show 0 ≤ ((X 16) 1 0) ∧ ((X 16) 1 0) ≤ 96 from by omega)) cal_X3_letterAt lm_X3_19 75 rfl rfl rfl rfl (by decide) rfl (Nat.le_of_ble_eq_true rfl) dX3_number_20 (fun r20 ws20 _ hr20 => ?_)
      obtain ⟨rfl, rfl⟩ := hr20
      refine g_iadd F dX3_number_23 ?_
      refine g_bipush F dX3_number_24 (by decide +kernel) ?_
      refine g_isub F dX3_number_26 ?_
      refine g_istore_n F (lv' := [(3, .int (iI (((10 * v) + (lt (X 16 0) (X 16 1 0) q)) - 48))), (4, .int (iI q)), (0, .ref (xa 16 100)), (1, .int (iI p)), (2, .int (iI d))]) 3 dX3_number_27 rfl (by decide) rfl ?_
      refine g_iinc F (lv' := [(4, .int (iI (q + 1))), (3, .int (iI (((10 * v) + (lt (X 16 0) (X 16 1 0) q)) - 48))), (0, .ref (xa 16 100)), (1, .int (iI p)), (2, .int (iI d))]) 1 dX3_number_28 rfl (by decide) rfl ?_
      refine g_goto F 5 dX3_number_31 (by decide) ?_
      refine g_sub F (lv' := [(4, .int (iI (q + 1))), (3, .int (iI (((10 * v) + (lt (X 16 0) (X 16 1 0) q)) - 48))), (0, .ref (xa 16 100)), (1, .int (iI p)), (2, .int (iI d))]) [0, 1, 2, 3, 4] rfl ?_
      exact ih5 _ (by omega) (q + 1) (((10 * v) + (lt (X 16 0) (X 16 1 0) q)) - 48) rfl (by omega) (by rw [show q + 1 - p = (q - p) + 1 by omega, num_s _ _ _ (by omega), ← hv, show p + (q - p) = q by omega])
  refine g_sub F (lv' := [(4, .int (iI p)), (3, .int (iI 0)), (0, .ref (xa 16 100)), (1, .int (iI p)), (2, .int (iI d))]) [0, 1, 2, 3, 4] rfl ?_
  exact L5 _ p 0 rfl (by omega) (by rw [Int.sub_self]; rfl)
theorem dX3_formFault_0 : decode cX3_formFault 0 = .ok (.aload_n 0, 1) := by decide +kernel
theorem dX3_formFault_1 : decode cX3_formFault 1 = .ok (.getfield 15, 3) := by decide +kernel
theorem dX3_formFault_4 : decode cX3_formFault 4 = .ok (.ifCond .ne 5, 3) := by decide +kernel
theorem dX3_formFault_7 : decode cX3_formFault 7 = .ok (.iconst 0, 1) := by decide +kernel
theorem dX3_formFault_8 : decode cX3_formFault 8 = .ok (.ireturn, 1) := by decide +kernel
theorem dX3_formFault_9 : decode cX3_formFault 9 = .ok (.iconst 0, 1) := by decide +kernel
theorem dX3_formFault_10 : decode cX3_formFault 10 = .ok (.istore_n 1, 1) := by decide +kernel
theorem dX3_formFault_11 : decode cX3_formFault 11 = .ok (.iconst 0, 1) := by decide +kernel
theorem dX3_formFault_12 : decode cX3_formFault 12 = .ok (.istore_n 2, 1) := by decide +kernel
theorem dX3_formFault_13 : decode cX3_formFault 13 = .ok (.iload_n 2, 1) := by decide +kernel
theorem dX3_formFault_14 : decode cX3_formFault 14 = .ok (.bipush 96, 2) := by decide +kernel
theorem dX3_formFault_16 : decode cX3_formFault 16 = .ok (.if_icmp .ge 82, 3) := by decide +kernel
theorem dX3_formFault_19 : decode cX3_formFault 19 = .ok (.iload_n 1, 1) := by decide +kernel
theorem dX3_formFault_20 : decode cX3_formFault 20 = .ok (.aload_n 0, 1) := by decide +kernel
theorem dX3_formFault_21 : decode cX3_formFault 21 = .ok (.getfield 15, 3) := by decide +kernel
theorem dX3_formFault_24 : decode cX3_formFault 24 = .ok (.if_icmp .ge 74, 3) := by decide +kernel
theorem dX3_formFault_27 : decode cX3_formFault 27 = .ok (.iload_n 1, 1) := by decide +kernel
theorem dX3_formFault_28 : decode cX3_formFault 28 = .ok (.aload_n 0, 1) := by decide +kernel
theorem dX3_formFault_29 : decode cX3_formFault 29 = .ok (.iload_n 1, 1) := by decide +kernel
theorem dX3_formFault_30 : decode cX3_formFault 30 = .ok (.invokevirtual 23, 3) := by decide +kernel
theorem dX3_formFault_33 : decode cX3_formFault 33 = .ok (.iadd, 1) := by decide +kernel
theorem dX3_formFault_34 : decode cX3_formFault 34 = .ok (.iconst 1, 1) := by decide +kernel
theorem dX3_formFault_35 : decode cX3_formFault 35 = .ok (.isub, 1) := by decide +kernel
theorem dX3_formFault_36 : decode cX3_formFault 36 = .ok (.istore_n 3, 1) := by decide +kernel
theorem dX3_formFault_37 : decode cX3_formFault 37 = .ok (.iload_n 3, 1) := by decide +kernel
theorem dX3_formFault_38 : decode cX3_formFault 38 = .ok (.iload_n 1, 1) := by decide +kernel
theorem dX3_formFault_39 : decode cX3_formFault 39 = .ok (.if_icmp .ge 5, 3) := by decide +kernel
theorem dX3_formFault_42 : decode cX3_formFault 42 = .ok (.iload_n 1, 1) := by decide +kernel
theorem dX3_formFault_43 : decode cX3_formFault 43 = .ok (.ireturn, 1) := by decide +kernel
theorem dX3_formFault_44 : decode cX3_formFault 44 = .ok (.iload_n 1, 1) := by decide +kernel
theorem dX3_formFault_45 : decode cX3_formFault 45 = .ok (.iconst 1, 1) := by decide +kernel
theorem dX3_formFault_46 : decode cX3_formFault 46 = .ok (.iadd, 1) := by decide +kernel
theorem dX3_formFault_47 : decode cX3_formFault 47 = .ok (.istore 4, 2) := by decide +kernel
theorem dX3_formFault_49 : decode cX3_formFault 49 = .ok (.iload 4, 2) := by decide +kernel
theorem dX3_formFault_51 : decode cX3_formFault 51 = .ok (.iload_n 3, 1) := by decide +kernel
theorem dX3_formFault_52 : decode cX3_formFault 52 = .ok (.if_icmp .ge 24, 3) := by decide +kernel
theorem dX3_formFault_55 : decode cX3_formFault 55 = .ok (.aload_n 0, 1) := by decide +kernel
theorem dX3_formFault_56 : decode cX3_formFault 56 = .ok (.iload 4, 2) := by decide +kernel
theorem dX3_formFault_58 : decode cX3_formFault 58 = .ok (.invokevirtual 19, 3) := by decide +kernel
theorem dX3_formFault_61 : decode cX3_formFault 61 = .ok (.invokestatic 26, 3) := by decide +kernel
theorem dX3_formFault_64 : decode cX3_formFault 64 = .ok (.ifCond .ne 6, 3) := by decide +kernel
theorem dX3_formFault_67 : decode cX3_formFault 67 = .ok (.iload 4, 2) := by decide +kernel
theorem dX3_formFault_69 : decode cX3_formFault 69 = .ok (.ireturn, 1) := by decide +kernel
theorem dX3_formFault_70 : decode cX3_formFault 70 = .ok (.iinc 4 1, 3) := by decide +kernel
theorem dX3_formFault_73 : decode cX3_formFault 73 = .ok (.goto (-24), 3) := by decide +kernel
theorem dX3_formFault_76 : decode cX3_formFault 76 = .ok (.aload_n 0, 1) := by decide +kernel
theorem dX3_formFault_77 : decode cX3_formFault 77 = .ok (.iload_n 3, 1) := by decide +kernel
theorem dX3_formFault_78 : decode cX3_formFault 78 = .ok (.invokevirtual 19, 3) := by decide +kernel
theorem dX3_formFault_81 : decode cX3_formFault 81 = .ok (.bipush 59, 2) := by decide +kernel
theorem dX3_formFault_83 : decode cX3_formFault 83 = .ok (.if_icmp .eq 5, 3) := by decide +kernel
theorem dX3_formFault_86 : decode cX3_formFault 86 = .ok (.iload_n 3, 1) := by decide +kernel
theorem dX3_formFault_87 : decode cX3_formFault 87 = .ok (.ireturn, 1) := by decide +kernel
theorem dX3_formFault_88 : decode cX3_formFault 88 = .ok (.iload_n 3, 1) := by decide +kernel
theorem dX3_formFault_89 : decode cX3_formFault 89 = .ok (.iconst 1, 1) := by decide +kernel
theorem dX3_formFault_90 : decode cX3_formFault 90 = .ok (.iadd, 1) := by decide +kernel
theorem dX3_formFault_91 : decode cX3_formFault 91 = .ok (.istore_n 1, 1) := by decide +kernel
theorem dX3_formFault_92 : decode cX3_formFault 92 = .ok (.iinc 2 1, 3) := by decide +kernel
theorem dX3_formFault_95 : decode cX3_formFault 95 = .ok (.goto (-82), 3) := by decide +kernel
theorem dX3_formFault_98 : decode cX3_formFault 98 = .ok (.iconst (-1), 1) := by decide +kernel
theorem dX3_formFault_99 : decode cX3_formFault 99 = .ok (.ireturn, 1) := by decide +kernel
set_option maxRecDepth 100000 in
set_option maxHeartbeats 4000000 in
theorem k_X3_formFault (κ : Kp) (xa : Nat → Nat → Nat) (X : XS) (hn : 0 ≤ X 16 1 0 ∧ X 16 1 0 ≤ 96) (hlr : ∀ j : Int, 0 ≤ j → j < 96 → 0 ≤ X 16 0 j ∧ X 16 0 j ≤ 255) : mI κ yX3_formFault cX3_formFault 5 .int 2 [.ref (xa 16 100)] (xw κ xa X) (fun r w => ∃ f, r = iI f ∧ w = xw κ xa X ∧ FFR (X 16 0) (X 16 1 0) f) := by
  refine mI_of (by decide) (Nat.le_of_ble_eq_true rfl) (fun E F K => ?_)
  refine g_lv (lv' := [(0, .ref (xa 16 100))]) rfl ?_
  refine g_aload_n F 0 dX3_formFault_0 rfl ?_
  refine g16_get_1 F  lf_X3_15 dX3_formFault_1 ?_
  refine g_if_ne F 9 (by omega) dX3_formFault_4 (by decide) (fun c4 => ?_) (fun c4 => ?_)
  · skip
    refine g_iconst F dX3_formFault_9 ?_
    refine g_istore_n F (lv' := [(1, .int (iI 0)), (0, .ref (xa 16 100))]) 1 dX3_formFault_10 rfl (by decide) rfl ?_
    refine g_iconst F dX3_formFault_11 ?_
    refine g_istore_n F (lv' := [(2, .int (iI 0)), (1, .int (iI 0)), (0, .ref (xa 16 100))]) 2 dX3_formFault_12 rfl (by decide) rfl ?_
    have L13 : ∀ (mz13 : Nat) (a : Int) (st : Int) (KK : Nat), (96 - st).toNat = mz13 → (a = ps (X 16 0) (X 16 1 0) KK) → (st = (KK : Int)) → (0 ≤ st ∧ st ≤ 96) → (gd (X 16 0) (X 16 1 0) KK) → G E (xw κ xa X) [(2, .int (iI st)), (1, .int (iI a)), (0, .ref (xa 16 100))] 13 [] := by
      intro mz13
      induction mz13 using Nat.strongRecOn with
      | _ mz13 ih13 =>
      intro a st KK hmz13 ha hst hstb hg
      have hab := ps_0 hg ha hn.2
      refine g_iload_n F 0 dX3_formFault_13 rfl ?_
      refine g_bipush F dX3_formFault_14 (by decide +kernel) ?_
      refine g_icmp_ge F 98 (by omega) dX3_formFault_16 (by decide) (fun c16 => ?_) (fun c16 => ?_)
      · skip
        refine g_iconst F dX3_formFault_98 ?_
        exact K xw_same ⟨-1, rfl, rfl, KK, hg, Or.inl ⟨by have h := gd_ps hg; rcases Nat.eq_zero_or_pos KK with q | q; (rw [q] at ha; have e : a = 0 := ha; omega); omega, by have h := gd_ps hg; omega, rfl⟩⟩ rfl dX3_formFault_99
      · skip
        refine g_iload_n F 1 dX3_formFault_19 rfl ?_
        refine g_aload_n F 2 dX3_formFault_20 rfl ?_
        refine g16_get_1 F  lf_X3_15 dX3_formFault_21 ?_
        refine g_icmp_ge F 98 (by omega) dX3_formFault_24 (by decide) (fun c24 => ?_) (fun c24 => ?_)
        · skip
          refine g_iconst F dX3_formFault_98 ?_
          exact K xw_same ⟨-1, rfl, rfl, KK, hg, Or.inl ⟨by have h := gd_ps hg; rcases Nat.eq_zero_or_pos KK with q | q; (rw [q] at ha; have e : a = 0 := ha; omega); omega, by have h := gd_ps hg; omega, rfl⟩⟩ rfl dX3_formFault_99
        · skip
          have hlt := lt_bd (L := X 16 0) (n := X 16 1 0) hlr (by omega) a
          have hsz := szC_in (lt (X 16 0) (X 16 1 0) a)
          refine g_iload_n F 1 dX3_formFault_27 rfl ?_
          refine g_aload_n F 2 dX3_formFault_28 rfl ?_
          refine g_iload_n F 1 dX3_formFault_29 rfl ?_
          refine g_callI F (stk := [.int (iI a), .ref (xa 16 100), .int (iI a)]) (st := [.int (iI a)]) (k_X3_sizeAt κ xa X a (by omega) (show 0 ≤ ((X 16) 1 0) ∧ ((X 16) 1 0) ≤ 96 from by omega) hlr) cal_X3_sizeAt lm_X3_23 75 rfl rfl rfl rfl (by decide) rfl (Nat.le_of_ble_eq_true rfl) dX3_formFault_30 (fun r30 ws30 _ hr30 => ?_)
          obtain ⟨rfl, rfl⟩ := hr30
          refine g_iadd F dX3_formFault_33 ?_
          refine g_iconst F dX3_formFault_34 ?_
          refine g_isub F dX3_formFault_35 ?_
          refine g_istore_n F (lv' := [(3, .int (iI ((a + (szC (lt (X 16 0) (X 16 1 0) a))) - 1))), (2, .int (iI st)), (1, .int (iI a)), (0, .ref (xa 16 100))]) 3 dX3_formFault_36 rfl (by decide) rfl ?_
          refine g_iload_n F 0 dX3_formFault_37 rfl ?_
          refine g_iload_n F 2 dX3_formFault_38 rfl ?_
          refine g_icmp_ge F 44 (by omega) dX3_formFault_39 (by decide) (fun c39 => ?_) (fun c39 => ?_)
          · skip
            refine g_iload_n F 2 dX3_formFault_44 rfl ?_
            refine g_iconst F dX3_formFault_45 ?_
            refine g_iadd F dX3_formFault_46 ?_
            refine g_istore F (lv' := [(4, .int (iI (a + 1))), (3, .int (iI ((a + (szC (lt (X 16 0) (X 16 1 0) a))) - 1))), (2, .int (iI st)), (1, .int (iI a)), (0, .ref (xa 16 100))]) dX3_formFault_47 (by decide) rfl ?_
            have L49 : ∀ (mz49 : Nat) (q : Int), (a + szC (lt (X 16 0) (X 16 1 0) a) - 1 - q).toNat = mz49 → (a + 1 ≤ q ∧ q ≤ a + szC (lt (X 16 0) (X 16 1 0) a) - 1) → (ndg (X 16 0) (X 16 1 0) q (a + szC (lt (X 16 0) (X 16 1 0) a) - 1 - q) = ndg (X 16 0) (X 16 1 0) (a + 1) (szC (lt (X 16 0) (X 16 1 0) a) - 2)) → G E (xw κ xa X) [(4, .int (iI q)), (3, .int (iI ((a + (szC (lt (X 16 0) (X 16 1 0) a))) - 1))), (2, .int (iI st)), (1, .int (iI a)), (0, .ref (xa 16 100))] 49 [] := by
              intro mz49
              induction mz49 using Nat.strongRecOn with
              | _ mz49 ih49 =>
              intro q hmz49 hq hnd
              refine g_iload F 0 dX3_formFault_49 rfl ?_
              refine g_iload_n F 1 dX3_formFault_51 rfl ?_
              refine g_icmp_ge F 76 (by omega) dX3_formFault_52 (by decide) (fun c52 => ?_) (fun c52 => ?_)
              · skip
                have hlt3 := lt_bd (L := X 16 0) (n := X 16 1 0) hlr (by omega) (a + szC (lt (X 16 0) (X 16 1 0) a) - 1)
                have hne : ndg (X 16 0) (X 16 1 0) (a + 1) (szC (lt (X 16 0) (X 16 1 0) a) - 2) = -1 := by rw [← hnd]; exact ndg_0 _ _ _ (by omega)
                refine g_aload_n F 4 dX3_formFault_76 rfl ?_
                refine g_iload_n F 1 dX3_formFault_77 rfl ?_
                refine g_callI F (stk := [.int (iI ((a + (szC (lt (X 16 0) (X 16 1 0) a))) - 1)), .ref (xa 16 100)]) (st := []) (k_X3_letterAt κ xa X ((a + (szC (lt (X 16 0) (X 16 1 0) a))) - 1) (by omega) (show 0 ≤ ((X 16) 1 0) ∧ ((X 16) 1 0) ≤ 96 from by omega)) cal_X3_letterAt lm_X3_19 75 rfl rfl rfl rfl (by decide) rfl (Nat.le_of_ble_eq_true rfl) dX3_formFault_78 (fun r78 ws78 _ hr78 => ?_)
                obtain ⟨rfl, rfl⟩ := hr78
                refine g_bipush F dX3_formFault_81 (by decide +kernel) ?_
                refine g_icmp_eq F 88 (by omega) dX3_formFault_83 (by decide) (fun c83 => ?_) (fun c83 => ?_)
                · skip
                  refine g_iload_n F 1 dX3_formFault_88 rfl ?_
                  refine g_iconst F dX3_formFault_89 ?_
                  refine g_iadd F dX3_formFault_90 ?_
                  refine g_istore_n F (lv' := [(1, .int (iI (((a + (szC (lt (X 16 0) (X 16 1 0) a))) - 1) + 1))), (4, .int (iI q)), (3, .int (iI ((a + (szC (lt (X 16 0) (X 16 1 0) a))) - 1))), (2, .int (iI st)), (0, .ref (xa 16 100))]) 1 dX3_formFault_91 rfl (by decide) rfl ?_
                  refine g_iinc F (lv' := [(2, .int (iI (st + 1))), (1, .int (iI (((a + (szC (lt (X 16 0) (X 16 1 0) a))) - 1) + 1))), (4, .int (iI q)), (3, .int (iI ((a + (szC (lt (X 16 0) (X 16 1 0) a))) - 1))), (0, .ref (xa 16 100))]) 3 dX3_formFault_92 rfl (by decide) rfl ?_
                  refine g_goto F 13 dX3_formFault_95 (by decide) ?_
                  refine g_sub F (lv' := [(2, .int (iI (st + 1))), (1, .int (iI (((a + (szC (lt (X 16 0) (X 16 1 0) a))) - 1) + 1))), (0, .ref (xa 16 100))]) [0, 1, 4] rfl ?_
                  exact ih13 _ (by omega) (((a + (szC (lt (X 16 0) (X 16 1 0) a))) - 1) + 1) (st + 1) (KK + 1) rfl (by show (((a + (szC (lt (X 16 0) (X 16 1 0) a))) - 1) + 1) = ps (X 16 0) (X 16 1 0) KK + szC (lt (X 16 0) (X 16 1 0) (ps (X 16 0) (X 16 1 0) KK)); rw [← ha]; omega) (by omega) (by omega) (gd_s hg (Or.inl (by omega)) (by rw [← ha]; exact stF_g (by omega) hne c83))
                · skip
                  refine g_iload_n F 1 dX3_formFault_86 rfl ?_
                  exact K xw_same ⟨a + szC (lt (X 16 0) (X 16 1 0) a) - 1, rfl, rfl, KK, hg, Or.inr ⟨Or.inl (by omega), by rw [← ha, stF_e (by omega) hne c83]; omega, by rw [← ha, stF_e (by omega) hne c83]⟩⟩ rfl dX3_formFault_87
              · skip
                have hlt2 := lt_bd (L := X 16 0) (n := X 16 1 0) hlr (by omega) q
                refine g_aload_n F 4 dX3_formFault_55 rfl ?_
                refine g_iload F 0 dX3_formFault_56 rfl ?_
                refine g_callI F (stk := [.int (iI q), .ref (xa 16 100)]) (st := []) (k_X3_letterAt κ xa X q (by omega) (show 0 ≤ ((X 16) 1 0) ∧ ((X 16) 1 0) ≤ 96 from by omega)) cal_X3_letterAt lm_X3_19 75 rfl rfl rfl rfl (by decide) rfl (Nat.le_of_ble_eq_true rfl) dX3_formFault_58 (fun r58 ws58 _ hr58 => ?_)
                obtain ⟨rfl, rfl⟩ := hr58
                refine g_callSI F (stk := [.int (iI (lt (X 16 0) (X 16 1 0) q))]) (st := []) (k_X3_isDigit κ (xw κ xa X) (lt (X 16 0) (X 16 1 0) q) (by omega)) cal_X3_isDigit lm_X3_26 rfl (by decide) rfl (Nat.le_of_ble_eq_true rfl) dX3_formFault_61 (fun r61 ws61 _ hr61 => ?_)
                obtain ⟨rfl, rfl⟩ := hr61
                refine g_if_ne F 70 (b2i_in _) dX3_formFault_64 (by decide) (fun c64 => ?_) (fun c64 => ?_)
                · skip
                  have c64 : dig (lt (X 16 0) (X 16 1 0) q) := b2i_t c64
                  refine g_iinc F (lv' := [(4, .int (iI (q + 1))), (3, .int (iI ((a + (szC (lt (X 16 0) (X 16 1 0) a))) - 1))), (2, .int (iI st)), (1, .int (iI a)), (0, .ref (xa 16 100))]) 0 dX3_formFault_70 rfl (by decide) rfl ?_
                  refine g_goto F 49 dX3_formFault_73 (by decide) ?_
                  refine g_sub F (lv' := [(4, .int (iI (q + 1))), (3, .int (iI ((a + (szC (lt (X 16 0) (X 16 1 0) a))) - 1))), (2, .int (iI st)), (1, .int (iI a)), (0, .ref (xa 16 100))]) [0, 1, 2, 3, 4] rfl ?_
                  exact ih49 _ (by omega) (q + 1) rfl (by omega) (by rw [← hnd, ndg_s _ _ q (by omega), if_pos c64, show a + szC (lt (X 16 0) (X 16 1 0) a) - 1 - q - 1 = a + szC (lt (X 16 0) (X 16 1 0) a) - 1 - (q + 1) by omega])
                · skip
                  have c64 : ¬ (dig (lt (X 16 0) (X 16 1 0) q)) := b2i_f c64
                  refine g_iload F 0 dX3_formFault_67 rfl ?_
                  have hq3 : ndg (X 16 0) (X 16 1 0) (a + 1) (szC (lt (X 16 0) (X 16 1 0) a) - 2) = q := by rw [← hnd, ndg_s _ _ q (by omega), if_neg c64]
                  exact K xw_same ⟨q, rfl, rfl, KK, hg, Or.inr ⟨Or.inl (by omega), by rw [← ha, stF_d (by omega) hq3 (by omega)]; omega, by rw [← ha, stF_d (by omega) hq3 (by omega)]⟩⟩ rfl dX3_formFault_69
            refine g_sub F (lv' := [(4, .int (iI (a + 1))), (3, .int (iI ((a + (szC (lt (X 16 0) (X 16 1 0) a))) - 1))), (2, .int (iI st)), (1, .int (iI a)), (0, .ref (xa 16 100))]) [0, 1, 2, 3, 4] rfl ?_
            exact L49 _ (a + 1) rfl (by omega) (by rw [show a + szC (lt (X 16 0) (X 16 1 0) a) - 1 - (a + 1) = szC (lt (X 16 0) (X 16 1 0) a) - 2 by omega])
          · skip
            refine g_iload_n F 2 dX3_formFault_42 rfl ?_
            exact K xw_same ⟨a, rfl, rfl, KK, hg, Or.inr ⟨Or.inl (by omega), by rw [← ha, stF_0 (by omega)]; omega, by rw [← ha, stF_0 (by omega)]⟩⟩ rfl dX3_formFault_43
    refine g_sub F (lv' := [(2, .int (iI 0)), (1, .int (iI 0)), (0, .ref (xa 16 100))]) [0, 1, 2] rfl ?_
    exact L13 _ 0 0 0 rfl rfl rfl (by omega) (gd_0 _ _)
  · skip
    refine g_iconst F dX3_formFault_7 ?_
    exact K xw_same ⟨0, rfl, rfl, 0, gd_0 _ _, Or.inr ⟨Or.inr rfl, by show stF (X 16 0) (X 16 1 0) 0 ≠ -1; rw [stF_0 (by unfold lt; rw [if_neg (by omega)]; rfl)]; decide, by show 0 = stF (X 16 0) (X 16 1 0) 0; rw [stF_0 (by unfold lt; rw [if_neg (by omega)]; rfl)]⟩⟩ rfl dX3_formFault_8
