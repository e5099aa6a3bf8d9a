theorem dX5_tellCells_0 : decode cX5_tellCells 0 = .ok (.aload_n 0, 1) := by decide +kernel
theorem dX5_tellCells_1 : decode cX5_tellCells 1 = .ok (.getfield 33, 3) := by decide +kernel
theorem dX5_tellCells_4 : decode cX5_tellCells 4 = .ok (.iload_n 3, 1) := by decide +kernel
theorem dX5_tellCells_5 : decode cX5_tellCells 5 = .ok (.iconst 1, 1) := by decide +kernel
theorem dX5_tellCells_6 : decode cX5_tellCells 6 = .ok (.invokevirtual 114, 3) := by decide +kernel
theorem dX5_tellCells_9 : decode cX5_tellCells 9 = .ok (.istore 4, 2) := by decide +kernel
theorem dX5_tellCells_11 : decode cX5_tellCells 11 = .ok (.iload_n 1, 1) := by decide +kernel
theorem dX5_tellCells_12 : decode cX5_tellCells 12 = .ok (.invokestatic 134, 3) := by decide +kernel
theorem dX5_tellCells_15 : decode cX5_tellCells 15 = .ok (.ifCond .eq 23, 3) := by decide +kernel
theorem dX5_tellCells_18 : decode cX5_tellCells 18 = .ok (.iload_n 2, 1) := by decide +kernel
theorem dX5_tellCells_19 : decode cX5_tellCells 19 = .ok (.invokestatic 134, 3) := by decide +kernel
theorem dX5_tellCells_22 : decode cX5_tellCells 22 = .ok (.ifCond .eq 16, 3) := by decide +kernel
theorem dX5_tellCells_25 : decode cX5_tellCells 25 = .ok (.iload_n 1, 1) := by decide +kernel
theorem dX5_tellCells_26 : decode cX5_tellCells 26 = .ok (.iload_n 2, 1) := by decide +kernel
theorem dX5_tellCells_27 : decode cX5_tellCells 27 = .ok (.if_icmp .gt 11, 3) := by decide +kernel
theorem dX5_tellCells_30 : decode cX5_tellCells 30 = .ok (.iload 4, 2) := by decide +kernel
theorem dX5_tellCells_32 : decode cX5_tellCells 32 = .ok (.invokestatic 137, 3) := by decide +kernel
theorem dX5_tellCells_35 : decode cX5_tellCells 35 = .ok (.ifCond .ne 5, 3) := by decide +kernel
theorem dX5_tellCells_38 : decode cX5_tellCells 38 = .ok (.iconst 0, 1) := by decide +kernel
theorem dX5_tellCells_39 : decode cX5_tellCells 39 = .ok (.ireturn, 1) := by decide +kernel
theorem dX5_tellCells_40 : decode cX5_tellCells 40 = .ok (.iload_n 1, 1) := by decide +kernel
theorem dX5_tellCells_41 : decode cX5_tellCells 41 = .ok (.istore 5, 2) := by decide +kernel
theorem dX5_tellCells_43 : decode cX5_tellCells 43 = .ok (.iload 5, 2) := by decide +kernel
theorem dX5_tellCells_45 : decode cX5_tellCells 45 = .ok (.iload_n 2, 1) := by decide +kernel
theorem dX5_tellCells_46 : decode cX5_tellCells 46 = .ok (.if_icmp .gt 42, 3) := by decide +kernel
theorem dX5_tellCells_49 : decode cX5_tellCells 49 = .ok (.aload_n 0, 1) := by decide +kernel
theorem dX5_tellCells_50 : decode cX5_tellCells 50 = .ok (.getfield 50, 3) := by decide +kernel
theorem dX5_tellCells_53 : decode cX5_tellCells 53 = .ok (.iload 5, 2) := by decide +kernel
theorem dX5_tellCells_55 : decode cX5_tellCells 55 = .ok (.iload 4, 2) := by decide +kernel
theorem dX5_tellCells_57 : decode cX5_tellCells 57 = .ok (.aload_n 0, 1) := by decide +kernel
theorem dX5_tellCells_58 : decode cX5_tellCells 58 = .ok (.getfield 33, 3) := by decide +kernel
theorem dX5_tellCells_61 : decode cX5_tellCells 61 = .ok (.iload_n 3, 1) := by decide +kernel
theorem dX5_tellCells_62 : decode cX5_tellCells 62 = .ok (.iconst 1, 1) := by decide +kernel
theorem dX5_tellCells_63 : decode cX5_tellCells 63 = .ok (.iadd, 1) := by decide +kernel
theorem dX5_tellCells_64 : decode cX5_tellCells 64 = .ok (.iconst 1, 1) := by decide +kernel
theorem dX5_tellCells_65 : decode cX5_tellCells 65 = .ok (.invokevirtual 114, 3) := by decide +kernel
theorem dX5_tellCells_68 : decode cX5_tellCells 68 = .ok (.aload_n 0, 1) := by decide +kernel
theorem dX5_tellCells_69 : decode cX5_tellCells 69 = .ok (.getfield 33, 3) := by decide +kernel
theorem dX5_tellCells_72 : decode cX5_tellCells 72 = .ok (.iload_n 3, 1) := by decide +kernel
theorem dX5_tellCells_73 : decode cX5_tellCells 73 = .ok (.iconst 2, 1) := by decide +kernel
theorem dX5_tellCells_74 : decode cX5_tellCells 74 = .ok (.iadd, 1) := by decide +kernel
theorem dX5_tellCells_75 : decode cX5_tellCells 75 = .ok (.iconst 2, 1) := by decide +kernel
theorem dX5_tellCells_76 : decode cX5_tellCells 76 = .ok (.invokevirtual 114, 3) := by decide +kernel
theorem dX5_tellCells_79 : decode cX5_tellCells 79 = .ok (.invokevirtual 140, 3) := by decide +kernel
theorem dX5_tellCells_82 : decode cX5_tellCells 82 = .ok (.iinc 5 1, 3) := by decide +kernel
theorem dX5_tellCells_85 : decode cX5_tellCells 85 = .ok (.goto (-42), 3) := by decide +kernel
theorem dX5_tellCells_88 : decode cX5_tellCells 88 = .ok (.iconst 1, 1) := by decide +kernel
theorem dX5_tellCells_89 : decode cX5_tellCells 89 = .ok (.ireturn, 1) := by decide +kernel
set_option maxRecDepth 100000 in
set_option maxHeartbeats 4000000 in
theorem k_X5_tellCells (κ : Kp) (xa : Nat → Nat → Nat) (X : XS) (f : Int) (l : Int) (p : Int)  (hf : (0 ≤ f ∧ f ≤ 99) ∧ (0 ≤ l ∧ l ≤ 99) ∧ (0 ≤ p ∧ p ≤ 190) ∧ 0 ≤ num (X 16 0) (X 16 1 0) p 1 ∧ num (X 16 0) (X 16 1 0) p 1 ≤ 9) (hn : 0 ≤ X 16 1 0 ∧ X 16 1 0 ≤ 96) : mI κ yX5_tellCells cX5_tellCells 6 .boolean 2 [.ref (xa 18 100), .int (iI f), .int (iI l), .int (iI p)] (xw κ xa X) (is1 (iI (b2i (f ≤ l ∧ l < 12 ∧ num (X 16 0) (X 16 1 0) p 1 < 6))) (xw κ xa (if f ≤ l ∧ l < 12 ∧ num (X 16 0) (X 16 1 0) p 1 < 6 then setO X 2 (stC (X 2) (fil (cl (X 2)) f l (num (X 16 0) (X 16 1 0) p 1) (num (X 16 0) (X 16 1 0) (p + 1) 1) (num (X 16 0) (X 16 1 0) (p + 2) 2))) else X))) := by
  refine mI_of (by decide) (Nat.le_of_ble_eq_true rfl) (fun E F K => ?_)
  refine g_lv (lv' := [(0, .ref (xa 18 100)), (1, .int (iI f)), (2, .int (iI l)), (3, .int (iI p))]) rfl ?_
  refine g_aload_n F 0 dX5_tellCells_0 rfl ?_
  refine g18_get_3 F  lf_X5_33 dX5_tellCells_1 ?_
  refine g_iload_n F 3 dX5_tellCells_4 rfl ?_
  refine g_iconst F dX5_tellCells_5 ?_
  refine g_callNI F (stk := [.int (iI 1), .int (iI p), .ref (xa 16 100)]) (st := []) (k_X3_number κ xa X p 1 (by omega) (show 0 ≤ ((X 16) 1 0) ∧ ((X 16) 1 0) ≤ 96 from by omega)) cal_X3_number nm_X5_114 75 rfl rfl rfl rfl (by decide) rfl (Nat.le_of_ble_eq_true rfl) dX5_tellCells_6 (fun r6 ws6 _ hr6 => ?_)
  obtain ⟨rfl, rfl⟩ := hr6
  refine g_istore F (lv' := [(4, .int (iI (num (X 16 0) (X 16 1 0) p 1))), (0, .ref (xa 18 100)), (1, .int (iI f)), (2, .int (iI l)), (3, .int (iI p))]) dX5_tellCells_9 (by decide) rfl ?_
  refine g_iload_n F 2 dX5_tellCells_11 rfl ?_
  refine g_callSI F (stk := [.int (iI f)]) (st := []) (k_X5_isCell κ (xw κ xa X) f (by omega)) cal_X5_isCell lm_X5_134 rfl (by decide) rfl (Nat.le_of_ble_eq_true rfl) dX5_tellCells_12 (fun r12 ws12 _ hr12 => ?_)
  obtain ⟨rfl, rfl⟩ := hr12
  refine g_if_eq F 38 (b2i_in _) dX5_tellCells_15 (by decide) (fun c15 => ?_) (fun c15 => ?_)
  · skip
    have c15 : ¬ (0 ≤ f ∧ f < 12) := b2i_f c15
    refine g_iconst F dX5_tellCells_38 ?_
    exact K xw_same ⟨b2i_0 (show ¬ (f ≤ l ∧ l < 12 ∧ num (X 16 0) (X 16 1 0) p 1 < 6) by omega), by rw [if_neg (show ¬ (f ≤ l ∧ l < 12 ∧ num (X 16 0) (X 16 1 0) p 1 < 6) by omega)]⟩ (by decide +kernel) dX5_tellCells_39
  · skip
    have c15 : 0 ≤ f ∧ f < 12 := b2i_t c15
    refine g_iload_n F 3 dX5_tellCells_18 rfl ?_
    refine g_callSI F (stk := [.int (iI l)]) (st := []) (k_X5_isCell κ (xw κ xa X) l (by omega)) cal_X5_isCell lm_X5_134 rfl (by decide) rfl (Nat.le_of_ble_eq_true rfl) dX5_tellCells_19 (fun r19 ws19 _ hr19 => ?_)
    obtain ⟨rfl, rfl⟩ := hr19
    refine g_if_eq F 38 (b2i_in _) dX5_tellCells_22 (by decide) (fun c22 => ?_) (fun c22 => ?_)
    · skip
      have c22 : ¬ (0 ≤ l ∧ l < 12) := b2i_f c22
      refine g_iconst F dX5_tellCells_38 ?_
      exact K xw_same ⟨b2i_0 (show ¬ (f ≤ l ∧ l < 12 ∧ num (X 16 0) (X 16 1 0) p 1 < 6) by omega), by rw [if_neg (show ¬ (f ≤ l ∧ l < 12 ∧ num (X 16 0) (X 16 1 0) p 1 < 6) by omega)]⟩ (by decide +kernel) dX5_tellCells_39
    · skip
      have c22 : 0 ≤ l ∧ l < 12 := b2i_t c22
      refine g_iload_n F 2 dX5_tellCells_25 rfl ?_
      refine g_iload_n F 3 dX5_tellCells_26 rfl ?_
      refine g_icmp_gt F 38 (by omega) dX5_tellCells_27 (by decide) (fun c27 => ?_) (fun c27 => ?_)
      · skip
        refine g_iconst F dX5_tellCells_38 ?_
        exact K xw_same ⟨b2i_0 (show ¬ (f ≤ l ∧ l < 12 ∧ num (X 16 0) (X 16 1 0) p 1 < 6) by omega), by rw [if_neg (show ¬ (f ≤ l ∧ l < 12 ∧ num (X 16 0) (X 16 1 0) p 1 < 6) by omega)]⟩ (by decide +kernel) dX5_tellCells_39
      · skip
        refine g_iload F 0 dX5_tellCells_30 rfl ?_
        refine g_callSI F (stk := [.int (iI (num (X 16 0) (X 16 1 0) p 1))]) (st := []) (k_X5_isKind κ (xw κ xa X) (num (X 16 0) (X 16 1 0) p 1) (by omega)) cal_X5_isKind lm_X5_137 rfl (by decide) rfl (Nat.le_of_ble_eq_true rfl) dX5_tellCells_32 (fun r32 ws32 _ hr32 => ?_)
        obtain ⟨rfl, rfl⟩ := hr32
        refine g_if_ne F 40 (b2i_in _) dX5_tellCells_35 (by decide) (fun c35 => ?_) (fun c35 => ?_)
        · skip
          have c35 : 0 ≤ (num (X 16 0) (X 16 1 0) p 1) ∧ (num (X 16 0) (X 16 1 0) p 1) < 6 := b2i_t c35
          refine g_iload_n F 2 dX5_tellCells_40 rfl ?_
          refine g_istore F (lv' := [(5, .int (iI f)), (4, .int (iI (num (X 16 0) (X 16 1 0) p 1))), (0, .ref (xa 18 100)), (1, .int (iI f)), (2, .int (iI l)), (3, .int (iI p))]) dX5_tellCells_41 (by decide) rfl ?_
          have L43 : ∀ (mz43 : Nat) (c : Int), (l + 1 - c).toNat = mz43 → (f ≤ c ∧ c ≤ l + 1) → G E (xw κ xa (setO X 2 (stC (X 2) (filN (cl (X 2)) f (num (X 16 0) (X 16 1 0) p 1) (num (X 16 0) (X 16 1 0) (p + 1) 1) (num (X 16 0) (X 16 1 0) (p + 2) 2) (c - f).toNat)))) [(5, .int (iI c)), (4, .int (iI (num (X 16 0) (X 16 1 0) p 1))), (0, .ref (xa 18 100)), (1, .int (iI f)), (2, .int (iI l)), (3, .int (iI p))] 43 [] := by
            intro mz43
            induction mz43 using Nat.strongRecOn with
            | _ mz43 ih43 =>
            intro c hmz43 hc
            refine g_iload F 0 dX5_tellCells_43 rfl ?_
            refine g_iload_n F 4 dX5_tellCells_45 rfl ?_
            refine g_icmp_gt F 88 (by omega) dX5_tellCells_46 (by decide) (fun c46 => ?_) (fun c46 => ?_)
            · skip
              refine g_iconst F dX5_tellCells_88 ?_
              exact K xw_same ⟨b2i_1 (show f ≤ l ∧ l < 12 ∧ num (X 16 0) (X 16 1 0) p 1 < 6 by omega), by rw [if_pos (show f ≤ l ∧ l < 12 ∧ num (X 16 0) (X 16 1 0) p 1 < 6 by omega), fil, show l - f + 1 = c - f by omega]⟩ (by decide +kernel) dX5_tellCells_89
            · skip
              refine g_aload_n F 2 dX5_tellCells_49 rfl ?_
              refine g18_get_10 F  lf_X5_50 dX5_tellCells_50 ?_
              refine g_iload F 0 dX5_tellCells_53 rfl ?_
              refine g_iload F 1 dX5_tellCells_55 rfl ?_
              refine g_aload_n F 2 dX5_tellCells_57 rfl ?_
              refine g18_get_3 F  lf_X5_33 dX5_tellCells_58 ?_
              refine g_iload_n F 5 dX5_tellCells_61 rfl ?_
              refine g_iconst F dX5_tellCells_62 ?_
              refine g_iadd F dX5_tellCells_63 ?_
              refine g_iconst F dX5_tellCells_64 ?_
              refine g_callNI F (stk := [.int (iI 1), .int (iI (p + 1)), .ref (xa 16 100), .int (iI (num (X 16 0) (X 16 1 0) p 1)), .int (iI c), .ref (xa 2 100)]) (st := [.int (iI (num (X 16 0) (X 16 1 0) p 1)), .int (iI c), .ref (xa 2 100)]) (k_X3_number κ xa (setO X 2 (stC (X 2) (filN (cl (X 2)) f (num (X 16 0) (X 16 1 0) p 1) (num (X 16 0) (X 16 1 0) (p + 1) 1) (num (X 16 0) (X 16 1 0) (p + 2) 2) (c - f).toNat))) (p + 1) 1 (by omega) (show 0 ≤ ((X 16) 1 0) ∧ ((X 16) 1 0) ≤ 96 from by omega)) cal_X3_number nm_X5_114 75 rfl rfl rfl rfl (by decide) rfl (Nat.le_of_ble_eq_true rfl) dX5_tellCells_65 (fun r65 ws65 _ hr65 => ?_)
              obtain ⟨rfl, rfl⟩ := hr65
              refine g_top (y := iI (num ((X 16) 0) (((X 16) 1 0)) (p + 1) 1)) rfl ?_
              refine g_aload_n F 2 dX5_tellCells_68 rfl ?_
              refine g18_get_3 F  lf_X5_33 dX5_tellCells_69 ?_
              refine g_iload_n F 5 dX5_tellCells_72 rfl ?_
              refine g_iconst F dX5_tellCells_73 ?_
              refine g_iadd F dX5_tellCells_74 ?_
              refine g_iconst F dX5_tellCells_75 ?_
              refine g_callNI F (stk := [.int (iI 2), .int (iI (p + 2)), .ref (xa 16 100), .int (iI (num ((X 16) 0) (((X 16) 1 0)) (p + 1) 1)), .int (iI (num (X 16 0) (X 16 1 0) p 1)), .int (iI c), .ref (xa 2 100)]) (st := [.int (iI (num ((X 16) 0) (((X 16) 1 0)) (p + 1) 1)), .int (iI (num (X 16 0) (X 16 1 0) p 1)), .int (iI c), .ref (xa 2 100)]) (k_X3_number κ xa (setO X 2 (stC (X 2) (filN (cl (X 2)) f (num (X 16 0) (X 16 1 0) p 1) (num (X 16 0) (X 16 1 0) (p + 1) 1) (num (X 16 0) (X 16 1 0) (p + 2) 2) (c - f).toNat))) (p + 2) 2 (by omega) (show 0 ≤ ((X 16) 1 0) ∧ ((X 16) 1 0) ≤ 96 from by omega)) cal_X3_number nm_X5_114 75 rfl rfl rfl rfl (by decide) rfl (Nat.le_of_ble_eq_true rfl) dX5_tellCells_76 (fun r76 ws76 _ hr76 => ?_)
              obtain ⟨rfl, rfl⟩ := hr76
              refine g_top (y := iI (num ((X 16) 0) (((X 16) 1 0)) (p + 2) 2)) rfl ?_
              refine g_callNV F (stk := [.int (iI (num ((X 16) 0) (((X 16) 1 0)) (p + 2) 2)), .int (iI (num ((X 16) 0) (((X 16) 1 0)) (p + 1) 1)), .int (iI (num (X 16 0) (X 16 1 0) p 1)), .int (iI c), .ref (xa 2 100)]) (st := []) (kS_X0_make κ xa X 2 (by decide) (stC (X 2) (filN (cl (X 2)) f (num (X 16 0) (X 16 1 0) p 1) (num (X 16 0) (X 16 1 0) (p + 1) 1) (num (X 16 0) (X 16 1 0) (p + 2) 2) (c - f).toNat)) c (num (X 16 0) (X 16 1 0) p 1) (num ((X 16) 0) (((X 16) 1 0)) (p + 1) 1) (num ((X 16) 0) (((X 16) 1 0)) (p + 2) 2) (by omega)) cal_X0_make nm_X5_140 10 rfl rfl rfl rfl (by decide) rfl (Nat.le_of_ble_eq_true rfl) dX5_tellCells_79 (fun ws79 _ hr79 => ?_)
              obtain rfl := hr79
              refine g_ws (ws' := xw κ xa (setO X 2 (stC (X 2) (make (filN (cl (X 2)) f (num (X 16 0) (X 16 1 0) p 1) (num (X 16 0) (X 16 1 0) (p + 1) 1) (num (X 16 0) (X 16 1 0) (p + 2) 2) (c - f).toNat) c (num (X 16 0) (X 16 1 0) p 1) (num ((X 16) 0) (((X 16) 1 0)) (p + 1) 1) (num ((X 16) 0) (((X 16) 1 0)) (p + 2) 2))))) rfl ?_
              refine g_iinc F (lv' := [(5, .int (iI (c + 1))), (4, .int (iI (num (X 16 0) (X 16 1 0) p 1))), (0, .ref (xa 18 100)), (1, .int (iI f)), (2, .int (iI l)), (3, .int (iI p))]) 0 dX5_tellCells_82 rfl (by decide) rfl ?_
              refine g_goto F 43 dX5_tellCells_85 (by decide) ?_
              refine g_sub F (lv' := [(5, .int (iI (c + 1))), (4, .int (iI (num (X 16 0) (X 16 1 0) p 1))), (0, .ref (xa 18 100)), (1, .int (iI f)), (2, .int (iI l)), (3, .int (iI p))]) [0, 1, 2, 3, 4, 5] rfl ?_
              refine g_ws (ws' := xw κ xa (setO X 2 (stC (X 2) (filN (cl (X 2)) f (num (X 16 0) (X 16 1 0) p 1) (num (X 16 0) (X 16 1 0) (p + 1) 1) (num (X 16 0) (X 16 1 0) (p + 2) 2) ((c + 1) - f).toNat)))) (by have e := fil_s (cl (X 2)) f (num (X 16 0) (X 16 1 0) p 1) (num (X 16 0) (X 16 1 0) (p + 1) 1) (num (X 16 0) (X 16 1 0) (p + 2) 2) (m := c - f) (by omega); rw [show f + (c - f) = c by omega, show c - f + 1 = c + 1 - f by omega] at e; rw [e]) ?_
              exact ih43 _ (by omega) (c + 1) rfl (by omega)
          refine g_sub F (lv' := [(5, .int (iI f)), (4, .int (iI (num (X 16 0) (X 16 1 0) p 1))), (0, .ref (xa 18 100)), (1, .int (iI f)), (2, .int (iI l)), (3, .int (iI p))]) [0, 1, 2, 3, 4, 5] rfl ?_
          refine g_ws (ws' := xw κ xa (setO X 2 (stC (X 2) (filN (cl (X 2)) f (num (X 16 0) (X 16 1 0) p 1) (num (X 16 0) (X 16 1 0) (p + 1) 1) (num (X 16 0) (X 16 1 0) (p + 2) 2) (f - f).toNat)))) (by rw [show f - f = 0 by omega]; rfl) ?_
          exact L43 _ f rfl (by omega)
        · skip
          have c35 : ¬ (0 ≤ (num (X 16 0) (X 16 1 0) p 1) ∧ (num (X 16 0) (X 16 1 0) p 1) < 6) := b2i_f c35
          refine g_iconst F dX5_tellCells_38 ?_
          exact K xw_same ⟨b2i_0 (show ¬ (f ≤ l ∧ l < 12 ∧ num (X 16 0) (X 16 1 0) p 1 < 6) by omega), by rw [if_neg (show ¬ (f ≤ l ∧ l < 12 ∧ num (X 16 0) (X 16 1 0) p 1 < 6) by omega)]⟩ (by decide +kernel) dX5_tellCells_39
theorem dX5_tellPiece_0 : decode cX5_tellPiece 0 = .ok (.iload_n 1, 1) := by decide +kernel
theorem dX5_tellPiece_1 : decode cX5_tellPiece 1 = .ok (.invokestatic 137, 3) := by decide +kernel
theorem dX5_tellPiece_4 : decode cX5_tellPiece 4 = .ok (.ifCond .eq 15, 3) := by decide +kernel
theorem dX5_tellPiece_7 : decode cX5_tellPiece 7 = .ok (.aload_n 0, 1) := by decide +kernel
theorem dX5_tellPiece_8 : decode cX5_tellPiece 8 = .ok (.getfield 56, 3) := by decide +kernel
theorem dX5_tellPiece_11 : decode cX5_tellPiece 11 = .ok (.getfield 144, 3) := by decide +kernel
theorem dX5_tellPiece_14 : decode cX5_tellPiece 14 = .ok (.bipush 6, 2) := by decide +kernel
theorem dX5_tellPiece_16 : decode cX5_tellPiece 16 = .ok (.if_icmp .lt 5, 3) := by decide +kernel
theorem dX5_tellPiece_19 : decode cX5_tellPiece 19 = .ok (.iconst 0, 1) := by decide +kernel
theorem dX5_tellPiece_20 : decode cX5_tellPiece 20 = .ok (.ireturn, 1) := by decide +kernel
theorem dX5_tellPiece_21 : decode cX5_tellPiece 21 = .ok (.aload_n 0, 1) := by decide +kernel
theorem dX5_tellPiece_22 : decode cX5_tellPiece 22 = .ok (.getfield 56, 3) := by decide +kernel
theorem dX5_tellPiece_25 : decode cX5_tellPiece 25 = .ok (.iload_n 1, 1) := by decide +kernel
theorem dX5_tellPiece_26 : decode cX5_tellPiece 26 = .ok (.iload_n 2, 1) := by decide +kernel
theorem dX5_tellPiece_27 : decode cX5_tellPiece 27 = .ok (.iload_n 3, 1) := by decide +kernel
theorem dX5_tellPiece_28 : decode cX5_tellPiece 28 = .ok (.invokevirtual 147, 3) := by decide +kernel
theorem dX5_tellPiece_31 : decode cX5_tellPiece 31 = .ok (.iconst 1, 1) := by decide +kernel
theorem dX5_tellPiece_32 : decode cX5_tellPiece 32 = .ok (.ireturn, 1) := by decide +kernel
set_option maxRecDepth 100000 in
set_option maxHeartbeats 4000000 in
theorem k_X5_tellPiece (κ : Kp) (xa : Nat → Nat → Nat) (X : XS) (k : Int) (f : Int) (a : Int)  (hf : (0 ≤ k ∧ k ≤ 9) ∧ 0 ≤ X 14 3 0 ∧ X 14 3 0 ≤ 6) : mI κ yX5_tellPiece cX5_tellPiece 4 .boolean 2 [.ref (xa 18 100), .int (iI k), .int (iI f), .int (iI a)] (xw κ xa X) (is1 (iI (b2i (k < 6 ∧ X 14 3 0 < 6))) (xw κ xa (if k < 6 ∧ X 14 3 0 < 6 then setO X 14 (mA (mA (mA (mA (X 14) 0 (uI (X 14 0) (X 14 3 0) k)) 1 (uI (X 14 1) (X 14 3 0) f)) 2 (uI (X 14 2) (X 14 3 0) a)) 3 (fun _ => X 14 3 0 + 1)) else X))) := by
  refine mI_of (by decide) (Nat.le_of_ble_eq_true rfl) (fun E F K => ?_)
  refine g_lv (lv' := [(0, .ref (xa 18 100)), (1, .int (iI k)), (2, .int (iI f)), (3, .int (iI a))]) rfl ?_
  refine g_iload_n F 1 dX5_tellPiece_0 rfl ?_
  refine g_callSI F (stk := [.int (iI k)]) (st := []) (k_X5_isKind κ (xw κ xa X) k (by omega)) cal_X5_isKind lm_X5_137 rfl (by decide) rfl (Nat.le_of_ble_eq_true rfl) dX5_tellPiece_1 (fun r1 ws1 _ hr1 => ?_)
  obtain ⟨rfl, rfl⟩ := hr1
  refine g_if_eq F 19 (b2i_in _) dX5_tellPiece_4 (by decide) (fun c4 => ?_) (fun c4 => ?_)
  · skip
    have c4 : ¬ (0 ≤ k ∧ k < 6) := b2i_f c4
    refine g_iconst F dX5_tellPiece_19 ?_
    exact K xw_same ⟨b2i_0 (show ¬ (k < 6 ∧ X 14 3 0 < 6) by omega), by rw [if_neg (show ¬ (k < 6 ∧ X 14 3 0 < 6) by omega)]⟩ (by decide +kernel) dX5_tellPiece_20
  · skip
    have c4 : 0 ≤ k ∧ k < 6 := b2i_t c4
    refine g_aload_n F 0 dX5_tellPiece_7 rfl ?_
    refine g18_get_12 F  lf_X5_56 dX5_tellPiece_8 ?_
    refine gr_getN_3 F (o := 2) (by decide) nf_X5_144 dX5_tellPiece_11 ?_
    refine g_top (y := iI ((X 14) 3 0)) rfl ?_
    refine g_bipush F dX5_tellPiece_14 (by decide +kernel) ?_
    refine g_icmp_lt F 21 (by omega) dX5_tellPiece_16 (by decide) (fun c16 => ?_) (fun c16 => ?_)
    · skip
      refine g_aload_n F 0 dX5_tellPiece_21 rfl ?_
      refine g18_get_12 F  lf_X5_56 dX5_tellPiece_22 ?_
      refine g_iload_n F 1 dX5_tellPiece_25 rfl ?_
      refine g_iload_n F 2 dX5_tellPiece_26 rfl ?_
      refine g_iload_n F 3 dX5_tellPiece_27 rfl ?_
      refine g_callNV F (stk := [.int (iI a), .int (iI f), .int (iI k), .ref (xa 14 100)]) (st := []) (k_X2_add κ xa X 2 (by decide) k f a (show 0 ≤ ((X 14) 3 0) ∧ ((X 14) 3 0) < 6 from by omega)) cal_X2_add nm_X5_147 68 rfl rfl rfl rfl (by decide) rfl (Nat.le_of_ble_eq_true rfl) dX5_tellPiece_28 (fun ws28 _ hr28 => ?_)
      obtain rfl := hr28
      refine g_iconst F dX5_tellPiece_31 ?_
      exact K xw_same ⟨b2i_1 (show k < 6 ∧ X 14 3 0 < 6 by omega), by rw [if_pos (show k < 6 ∧ X 14 3 0 < 6 by omega)]⟩ (by decide +kernel) dX5_tellPiece_32
    · skip
      refine g_iconst F dX5_tellPiece_19 ?_
      exact K xw_same ⟨b2i_0 (show ¬ (k < 6 ∧ X 14 3 0 < 6) by omega), by rw [if_neg (show ¬ (k < 6 ∧ X 14 3 0 < 6) by omega)]⟩ (by decide +kernel) dX5_tellPiece_20
theorem dX5_tellPut_0 : decode cX5_tellPut 0 = .ok (.aload_n 0, 1) := by decide +kernel
theorem dX5_tellPut_1 : decode cX5_tellPut 1 = .ok (.getfield 56, 3) := by decide +kernel
theorem dX5_tellPut_4 : decode cX5_tellPut 4 = .ok (.iload_n 1, 1) := by decide +kernel
theorem dX5_tellPut_5 : decode cX5_tellPut 5 = .ok (.invokevirtual 150, 3) := by decide +kernel
theorem dX5_tellPut_8 : decode cX5_tellPut 8 = .ok (.ifCond .eq 10, 3) := by decide +kernel
theorem dX5_tellPut_11 : decode cX5_tellPut 11 = .ok (.iload_n 2, 1) := by decide +kernel
theorem dX5_tellPut_12 : decode cX5_tellPut 12 = .ok (.invokestatic 134, 3) := by decide +kernel
theorem dX5_tellPut_15 : decode cX5_tellPut 15 = .ok (.ifCond .ne 5, 3) := by decide +kernel
theorem dX5_tellPut_18 : decode cX5_tellPut 18 = .ok (.iconst 0, 1) := by decide +kernel
theorem dX5_tellPut_19 : decode cX5_tellPut 19 = .ok (.ireturn, 1) := by decide +kernel
theorem dX5_tellPut_20 : decode cX5_tellPut 20 = .ok (.aload_n 0, 1) := by decide +kernel
theorem dX5_tellPut_21 : decode cX5_tellPut 21 = .ok (.getfield 50, 3) := by decide +kernel
theorem dX5_tellPut_24 : decode cX5_tellPut 24 = .ok (.aload_n 0, 1) := by decide +kernel
theorem dX5_tellPut_25 : decode cX5_tellPut 25 = .ok (.getfield 56, 3) := by decide +kernel
theorem dX5_tellPut_28 : decode cX5_tellPut 28 = .ok (.iload_n 1, 1) := by decide +kernel
theorem dX5_tellPut_29 : decode cX5_tellPut 29 = .ok (.iload_n 2, 1) := by decide +kernel
theorem dX5_tellPut_30 : decode cX5_tellPut 30 = .ok (.invokevirtual 153, 3) := by decide +kernel
theorem dX5_tellPut_33 : decode cX5_tellPut 33 = .ok (.aload_n 0, 1) := by decide +kernel
theorem dX5_tellPut_34 : decode cX5_tellPut 34 = .ok (.getfield 56, 3) := by decide +kernel
theorem dX5_tellPut_37 : decode cX5_tellPut 37 = .ok (.iload_n 1, 1) := by decide +kernel
theorem dX5_tellPut_38 : decode cX5_tellPut 38 = .ok (.invokevirtual 157, 3) := by decide +kernel
theorem dX5_tellPut_41 : decode cX5_tellPut 41 = .ok (.iconst 1, 1) := by decide +kernel
theorem dX5_tellPut_42 : decode cX5_tellPut 42 = .ok (.ireturn, 1) := by decide +kernel
set_option maxRecDepth 100000 in
set_option maxHeartbeats 4000000 in
theorem k_X5_tellPut (κ : Kp) (xa : Nat → Nat → Nat) (X : XS) (p : Int) (c : Int)  (hf : (0 ≤ p ∧ p ≤ 9) ∧ 0 ≤ c ∧ c ≤ 99) (okr : okRl (X 14)) : mI κ yX5_tellPut cX5_tellPut 3 .boolean 3 [.ref (xa 18 100), .int (iI p), .int (iI c)] (xw κ xa X) (is1 (iI (b2i (p < X 14 3 0 ∧ uR (X 14) p = 0 ∧ c < 12))) (xw κ xa (if p < X 14 3 0 ∧ uR (X 14) p = 0 ∧ c < 12 then setO (setO X 2 (stC (X 2) (make (cl (X 2)) c (X 14 0 p) (X 14 1 p) (X 14 2 p)))) 14 (mA (X 14) 4 (fun _ => bor (X 14 4 0) (p2 p))) else X))) := by
  refine mI_of (by decide) (Nat.le_of_ble_eq_true rfl) (fun E F K => ?_)
  refine g_lv (lv' := [(0, .ref (xa 18 100)), (1, .int (iI p)), (2, .int (iI c))]) rfl ?_
  have hn := okr.1
  have hu : uR (X 14) p = X 14 4 0 / p2 p % 2 := rfl
  refine g_aload_n F 0 dX5_tellPut_0 rfl ?_
  refine g18_get_12 F  lf_X5_56 dX5_tellPut_1 ?_
  refine g_iload_n F 1 dX5_tellPut_4 rfl ?_
  refine g_callNI F (stk := [.int (iI p), .ref (xa 14 100)]) (st := []) (k_X2_isFree κ xa X 2 (by decide) p (show In32 p ∧ (0 ≤ ((X 14) 3 0) ∧ ((X 14) 3 0) ≤ 6) ∧ 0 ≤ ((X 14) 4 0) ∧ ((X 14) 4 0) < 64 from by omega)) cal_X2_isFree nm_X5_150 68 rfl rfl rfl rfl (by decide) rfl (Nat.le_of_ble_eq_true rfl) dX5_tellPut_5 (fun r5 ws5 _ hr5 => ?_)
  obtain ⟨rfl, rfl⟩ := hr5
  refine g_if_eq F 18 (b2i_in _) dX5_tellPut_8 (by decide) (fun c8 => ?_) (fun c8 => ?_)
  · skip
    have c8 : ¬ ((0 ≤ p ∧ p < (X 14) 3 0) ∧ (X 14) 4 0 / p2 p % 2 = 0) := b2i_f c8
    refine g_iconst F dX5_tellPut_18 ?_
    exact K xw_same ⟨b2i_0 (show ¬ (p < X 14 3 0 ∧ uR (X 14) p = 0 ∧ c < 12) by omega), by rw [if_neg (show ¬ (p < X 14 3 0 ∧ uR (X 14) p = 0 ∧ c < 12) by omega)]⟩ (by decide +kernel) dX5_tellPut_19
  · skip
    have c8 : (0 ≤ p ∧ p < (X 14) 3 0) ∧ (X 14) 4 0 / p2 p % 2 = 0 := b2i_t c8
    refine g_iload_n F 2 dX5_tellPut_11 rfl ?_
    refine g_callSI F (stk := [.int (iI c)]) (st := []) (k_X5_isCell κ (xw κ xa X) c (by omega)) cal_X5_isCell lm_X5_134 rfl (by decide) rfl (Nat.le_of_ble_eq_true rfl) dX5_tellPut_12 (fun r12 ws12 _ hr12 => ?_)
    obtain ⟨rfl, rfl⟩ := hr12
    refine g_if_ne F 20 (b2i_in _) dX5_tellPut_15 (by decide) (fun c15 => ?_) (fun c15 => ?_)
    · skip
      have c15 : 0 ≤ c ∧ c < 12 := b2i_t c15
      refine g_aload_n F 0 dX5_tellPut_20 rfl ?_
      refine g18_get_10 F  lf_X5_50 dX5_tellPut_21 ?_
      refine g_aload_n F 0 dX5_tellPut_24 rfl ?_
      refine g18_get_12 F  lf_X5_56 dX5_tellPut_25 ?_
      refine g_iload_n F 1 dX5_tellPut_28 rfl ?_
      refine g_iload_n F 2 dX5_tellPut_29 rfl ?_
      refine g_callNV F (stk := [.int (iI c), .int (iI p), .ref (xa 14 100), .ref (xa 2 100)]) (st := []) (k_X0_put κ xa X 2 (by decide) 2 p c (by decide) (by omega) (by omega)) cal_X0_put nm_X5_153 10 rfl rfl rfl rfl (by decide) rfl (Nat.le_of_ble_eq_true rfl) dX5_tellPut_30 (fun ws30 _ hr30 => ?_)
      obtain rfl := hr30
      refine g_aload_n F 0 dX5_tellPut_33 rfl ?_
      refine g18_get_12 F  lf_X5_56 dX5_tellPut_34 ?_
      refine g_iload_n F 1 dX5_tellPut_37 rfl ?_
      refine g_callNV F (stk := [.int (iI p), .ref (xa 14 100)]) (st := []) (k_X2_use κ xa (setO X 2 (stC (X 2) (make (cl (X 2)) c ((X 14) 0 p) ((X 14) 1 p) ((X 14) 2 p)))) 2 (by decide) p (show (0 ≤ p ∧ p < 6) ∧ 0 ≤ ((X 14) 4 0) from by omega)) cal_X2_use nm_X5_157 68 rfl rfl rfl rfl (by decide) rfl (Nat.le_of_ble_eq_true rfl) dX5_tellPut_38 (fun ws38 _ hr38 => ?_)
      obtain rfl := hr38
      refine g_ws (ws' := xw κ xa (setO (setO X 2 (stC (X 2) (make (cl (X 2)) c ((X 14) 0 p) ((X 14) 1 p) ((X 14) 2 p)))) 14 (mA (X 14) 4 (fun _ => bor ((X 14) 4 0) (p2 p))))) rfl ?_
      refine g_iconst F dX5_tellPut_41 ?_
      exact K xw_same ⟨b2i_1 (show p < X 14 3 0 ∧ uR (X 14) p = 0 ∧ c < 12 by omega), by rw [if_pos (show p < X 14 3 0 ∧ uR (X 14) p = 0 ∧ c < 12 by omega)]⟩ (by decide +kernel) dX5_tellPut_42
    · skip
      have c15 : ¬ (0 ≤ c ∧ c < 12) := b2i_f c15
      refine g_iconst F dX5_tellPut_18 ?_
      exact K xw_same ⟨b2i_0 (show ¬ (p < X 14 3 0 ∧ uR (X 14) p = 0 ∧ c < 12) by omega), by rw [if_neg (show ¬ (p < X 14 3 0 ∧ uR (X 14) p = 0 ∧ c < 12) by omega)]⟩ (by decide +kernel) dX5_tellPut_19
theorem dX5_tellWear_0 : decode cX5_tellWear 0 = .ok (.iload_n 1, 1) := by decide +kernel
theorem dX5_tellWear_1 : decode cX5_tellWear 1 = .ok (.invokestatic 134, 3) := by decide +kernel
theorem dX5_tellWear_4 : decode cX5_tellWear 4 = .ok (.ifCond .ne 5, 3) := by decide +kernel
theorem dX5_tellWear_7 : decode cX5_tellWear 7 = .ok (.iconst 0, 1) := by decide +kernel
theorem dX5_tellWear_8 : decode cX5_tellWear 8 = .ok (.ireturn, 1) := by decide +kernel
theorem dX5_tellWear_9 : decode cX5_tellWear 9 = .ok (.aload_n 0, 1) := by decide +kernel
theorem dX5_tellWear_10 : decode cX5_tellWear 10 = .ok (.getfield 50, 3) := by decide +kernel
theorem dX5_tellWear_13 : decode cX5_tellWear 13 = .ok (.getfield 160, 3) := by decide +kernel
theorem dX5_tellWear_16 : decode cX5_tellWear 16 = .ok (.iload_n 1, 1) := by decide +kernel
theorem dX5_tellWear_17 : decode cX5_tellWear 17 = .ok (.iload_n 2, 1) := by decide +kernel
theorem dX5_tellWear_18 : decode cX5_tellWear 18 = .ok (.iastore, 1) := by decide +kernel
theorem dX5_tellWear_19 : decode cX5_tellWear 19 = .ok (.iconst 1, 1) := by decide +kernel
theorem dX5_tellWear_20 : decode cX5_tellWear 20 = .ok (.ireturn, 1) := by decide +kernel
set_option maxRecDepth 100000 in
set_option maxHeartbeats 4000000 in
theorem k_X5_tellWear (κ : Kp) (xa : Nat → Nat → Nat) (X : XS) (c : Int) (v : Int)  (hf : 0 ≤ c ∧ c ≤ 99) : mI κ yX5_tellWear cX5_tellWear 3 .boolean 2 [.ref (xa 18 100), .int (iI c), .int (iI v)] (xw κ xa X) (is1 (iI (b2i (c < 12))) (xw κ xa (if c < 12 then setO X 2 (mA (X 2) 3 (uI (X 2 3) c v)) else X))) := by
  refine mI_of (by decide) (Nat.le_of_ble_eq_true rfl) (fun E F K => ?_)
  refine g_lv (lv' := [(0, .ref (xa 18 100)), (1, .int (iI c)), (2, .int (iI v))]) rfl ?_
  refine g_iload_n F 1 dX5_tellWear_0 rfl ?_
  refine g_callSI F (stk := [.int (iI c)]) (st := []) (k_X5_isCell κ (xw κ xa X) c (by omega)) cal_X5_isCell lm_X5_134 rfl (by decide) rfl (Nat.le_of_ble_eq_true rfl) dX5_tellWear_1 (fun r1 ws1 _ hr1 => ?_)
  obtain ⟨rfl, rfl⟩ := hr1
  refine g_if_ne F 9 (b2i_in _) dX5_tellWear_4 (by decide) (fun c4 => ?_) (fun c4 => ?_)
  · skip
    have c4 : 0 ≤ c ∧ c < 12 := b2i_t c4
    refine g_aload_n F 0 dX5_tellWear_9 rfl ?_
    refine g18_get_10 F  lf_X5_50 dX5_tellWear_10 ?_
    refine gc_getN_3 F (o := 2) (by decide) nf_X5_160 dX5_tellWear_13 ?_
    refine g_iload_n F 1 dX5_tellWear_16 rfl ?_
    refine g_iload_n F 2 dX5_tellWear_17 rfl ?_
    refine gc_ast_3 F (o := 2) (by decide) (by omega) dX5_tellWear_18 ?_
    refine g_iconst F dX5_tellWear_19 ?_
    exact K xw_same ⟨b2i_1 (show c < 12 by omega), by rw [if_pos (show c < 12 by omega)]⟩ (by decide +kernel) dX5_tellWear_20
  · skip
    have c4 : ¬ (0 ≤ c ∧ c < 12) := b2i_f c4
    refine g_iconst F dX5_tellWear_7 ?_
    exact K xw_same ⟨b2i_0 (show ¬ (c < 12) by omega), by rw [if_neg (show ¬ (c < 12) by omega)]⟩ (by decide +kernel) dX5_tellWear_8
theorem dX5_tellYears_0 : decode cX5_tellYears 0 = .ok (.iload_n 1, 1) := by decide +kernel
theorem dX5_tellYears_1 : decode cX5_tellYears 1 = .ok (.iconst 1, 1) := by decide +kernel
theorem dX5_tellYears_2 : decode cX5_tellYears 2 = .ok (.if_icmp .lt 24, 3) := by decide +kernel
theorem dX5_tellYears_5 : decode cX5_tellYears 5 = .ok (.iload_n 1, 1) := by decide +kernel
theorem dX5_tellYears_6 : decode cX5_tellYears 6 = .ok (.bipush 60, 2) := by decide +kernel
theorem dX5_tellYears_8 : decode cX5_tellYears 8 = .ok (.if_icmp .gt 18, 3) := by decide +kernel
theorem dX5_tellYears_11 : decode cX5_tellYears 11 = .ok (.aload_n 0, 1) := by decide +kernel
theorem dX5_tellYears_12 : decode cX5_tellYears 12 = .ok (.getfield 50, 3) := by decide +kernel
theorem dX5_tellYears_15 : decode cX5_tellYears 15 = .ok (.getfield 163, 3) := by decide +kernel
theorem dX5_tellYears_18 : decode cX5_tellYears 18 = .ok (.iload_n 1, 1) := by decide +kernel
theorem dX5_tellYears_19 : decode cX5_tellYears 19 = .ok (.iadd, 1) := by decide +kernel
theorem dX5_tellYears_20 : decode cX5_tellYears 20 = .ok (.sipush 999, 3) := by decide +kernel
theorem dX5_tellYears_23 : decode cX5_tellYears 23 = .ok (.if_icmp .le 5, 3) := by decide +kernel
theorem dX5_tellYears_26 : decode cX5_tellYears 26 = .ok (.iconst 0, 1) := by decide +kernel
theorem dX5_tellYears_27 : decode cX5_tellYears 27 = .ok (.ireturn, 1) := by decide +kernel
theorem dX5_tellYears_28 : decode cX5_tellYears 28 = .ok (.aload_n 0, 1) := by decide +kernel
theorem dX5_tellYears_29 : decode cX5_tellYears 29 = .ok (.getfield 50, 3) := by decide +kernel
theorem dX5_tellYears_32 : decode cX5_tellYears 32 = .ok (.iload_n 1, 1) := by decide +kernel
theorem dX5_tellYears_33 : decode cX5_tellYears 33 = .ok (.invokevirtual 166, 3) := by decide +kernel
theorem dX5_tellYears_36 : decode cX5_tellYears 36 = .ok (.iconst 1, 1) := by decide +kernel
theorem dX5_tellYears_37 : decode cX5_tellYears 37 = .ok (.ireturn, 1) := by decide +kernel
set_option maxRecDepth 100000 in
set_option maxHeartbeats 4000000 in
theorem k_X5_tellYears (κ : Kp) (xa : Nat → Nat → Nat) (X : XS) (m : Int)  (hf : 0 ≤ m ∧ m ≤ 99) (hy : 0 ≤ X 2 4 0 ∧ X 2 4 0 ≤ 999) (ok : okC (cl (X 2))) : mI κ yX5_tellYears cX5_tellYears 2 .boolean 5 [.ref (xa 18 100), .int (iI m)] (xw κ xa X) (is1 (iI (b2i ((1 ≤ m ∧ m ≤ 60) ∧ yr (cl (X 2)) + m ≤ 999))) (xw κ xa (if (1 ≤ m ∧ m ≤ 60) ∧ yr (cl (X 2)) + m ≤ 999 then setO X 2 (stC (X 2) (goI m (cl (X 2)))) else X))) := by
  refine mI_of (by decide) (Nat.le_of_ble_eq_true rfl) (fun E F K => ?_)
  refine g_lv (lv' := [(0, .ref (xa 18 100)), (1, .int (iI m))]) rfl ?_
  have hye : yr (cl (X 2)) = X 2 4 0 := rfl
  refine g_iload_n F 1 dX5_tellYears_0 rfl ?_
  refine g_iconst F dX5_tellYears_1 ?_
  refine g_icmp_lt F 26 (by omega) dX5_tellYears_2 (by decide) (fun c2 => ?_) (fun c2 => ?_)
  · skip
    refine g_iconst F dX5_tellYears_26 ?_
    exact K xw_same ⟨b2i_0 (show ¬ ((1 ≤ m ∧ m ≤ 60) ∧ yr (cl (X 2)) + m ≤ 999) by omega), by rw [if_neg (show ¬ ((1 ≤ m ∧ m ≤ 60) ∧ yr (cl (X 2)) + m ≤ 999) by omega)]⟩ (by decide +kernel) dX5_tellYears_27
  · skip
    refine g_iload_n F 1 dX5_tellYears_5 rfl ?_
    refine g_bipush F dX5_tellYears_6 (by decide +kernel) ?_
    refine g_icmp_gt F 26 (by omega) dX5_tellYears_8 (by decide) (fun c8 => ?_) (fun c8 => ?_)
    · skip
      refine g_iconst F dX5_tellYears_26 ?_
      exact K xw_same ⟨b2i_0 (show ¬ ((1 ≤ m ∧ m ≤ 60) ∧ yr (cl (X 2)) + m ≤ 999) by omega), by rw [if_neg (show ¬ ((1 ≤ m ∧ m ≤ 60) ∧ yr (cl (X 2)) + m ≤ 999) by omega)]⟩ (by decide +kernel) dX5_tellYears_27
    · skip
      refine g_aload_n F 0 dX5_tellYears_11 rfl ?_
      refine g18_get_10 F  lf_X5_50 dX5_tellYears_12 ?_
      refine gc_getN_4 F (o := 2) (by decide) nf_X5_163 dX5_tellYears_15 ?_
      refine g_iload_n F 1 dX5_tellYears_18 rfl ?_
      refine g_iadd F dX5_tellYears_19 ?_
      refine g_sipush F dX5_tellYears_20 (by decide +kernel) ?_
      refine g_icmp_le F 28 (by omega) dX5_tellYears_23 (by decide) (fun c23 => ?_) (fun c23 => ?_)
      · skip
        refine g_aload_n F 0 dX5_tellYears_28 rfl ?_
        refine g18_get_10 F  lf_X5_50 dX5_tellYears_29 ?_
        refine g_iload_n F 1 dX5_tellYears_32 rfl ?_
        refine g_callNV F (stk := [.int (iI m), .ref (xa 2 100)]) (st := []) (k_X0_goOn κ xa X 2 (by decide) m (show (0 ≤ m ∧ m ≤ 1000) ∧ ((X 2) 4 0) + m ≤ 1000000 from by omega) ok) cal_X0_goOn nm_X5_166 10 rfl rfl rfl rfl (by decide) rfl (Nat.le_of_ble_eq_true rfl) dX5_tellYears_33 (fun ws33 _ hr33 => ?_)
        obtain rfl := hr33
        refine g_iconst F dX5_tellYears_36 ?_
        exact K xw_same ⟨b2i_1 (show (1 ≤ m ∧ m ≤ 60) ∧ yr (cl (X 2)) + m ≤ 999 by omega), by rw [if_pos (show (1 ≤ m ∧ m ≤ 60) ∧ yr (cl (X 2)) + m ≤ 999 by omega)]⟩ (by decide +kernel) dX5_tellYears_37
      · skip
        refine g_iconst F dX5_tellYears_26 ?_
        exact K xw_same ⟨b2i_0 (show ¬ ((1 ≤ m ∧ m ≤ 60) ∧ yr (cl (X 2)) + m ≤ 999) by omega), by rw [if_neg (show ¬ ((1 ≤ m ∧ m ≤ 60) ∧ yr (cl (X 2)) + m ≤ 999) by omega)]⟩ (by decide +kernel) dX5_tellYears_27
