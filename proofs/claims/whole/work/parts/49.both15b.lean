theorem dX4_reckon_0 : decode cX4_reckon 0 = .ok (.iconst 0, 1) := by decide +kernel
theorem dX4_reckon_1 : decode cX4_reckon 1 = .ok (.istore 4, 2) := by decide +kernel
theorem dX4_reckon_3 : decode cX4_reckon 3 = .ok (.iload 4, 2) := by decide +kernel
theorem dX4_reckon_5 : decode cX4_reckon 5 = .ok (.aload_n 0, 1) := by decide +kernel
theorem dX4_reckon_6 : decode cX4_reckon 6 = .ok (.invokevirtual 32, 3) := by decide +kernel
theorem dX4_reckon_9 : decode cX4_reckon 9 = .ok (.if_icmp .ge 104, 3) := by decide +kernel
theorem dX4_reckon_12 : decode cX4_reckon 12 = .ok (.aload_n 0, 1) := by decide +kernel
theorem dX4_reckon_13 : decode cX4_reckon 13 = .ok (.invokevirtual 36, 3) := by decide +kernel
theorem dX4_reckon_16 : decode cX4_reckon 16 = .ok (.aload_n 3, 1) := by decide +kernel
theorem dX4_reckon_17 : decode cX4_reckon 17 = .ok (.aload_n 1, 1) := by decide +kernel
theorem dX4_reckon_18 : decode cX4_reckon 18 = .ok (.invokevirtual 39, 3) := by decide +kernel
theorem dX4_reckon_21 : decode cX4_reckon 21 = .ok (.iconst 1, 1) := by decide +kernel
theorem dX4_reckon_22 : decode cX4_reckon 22 = .ok (.istore 5, 2) := by decide +kernel
theorem dX4_reckon_24 : decode cX4_reckon 24 = .ok (.iconst 0, 1) := by decide +kernel
theorem dX4_reckon_25 : decode cX4_reckon 25 = .ok (.istore 6, 2) := by decide +kernel
theorem dX4_reckon_27 : decode cX4_reckon 27 = .ok (.iload 6, 2) := by decide +kernel
theorem dX4_reckon_29 : decode cX4_reckon 29 = .ok (.aload_n 0, 1) := by decide +kernel
theorem dX4_reckon_30 : decode cX4_reckon 30 = .ok (.getfield 21, 3) := by decide +kernel
theorem dX4_reckon_33 : decode cX4_reckon 33 = .ok (.if_icmp .ge 54, 3) := by decide +kernel
theorem dX4_reckon_36 : decode cX4_reckon 36 = .ok (.aload_n 0, 1) := by decide +kernel
theorem dX4_reckon_37 : decode cX4_reckon 37 = .ok (.iload 4, 2) := by decide +kernel
theorem dX4_reckon_39 : decode cX4_reckon 39 = .ok (.iload 6, 2) := by decide +kernel
theorem dX4_reckon_41 : decode cX4_reckon 41 = .ok (.invokevirtual 45, 3) := by decide +kernel
theorem dX4_reckon_44 : decode cX4_reckon 44 = .ok (.istore 7, 2) := by decide +kernel
theorem dX4_reckon_46 : decode cX4_reckon 46 = .ok (.aload_n 0, 1) := by decide +kernel
theorem dX4_reckon_47 : decode cX4_reckon 47 = .ok (.iload 7, 2) := by decide +kernel
theorem dX4_reckon_49 : decode cX4_reckon 49 = .ok (.invokevirtual 49, 3) := by decide +kernel
theorem dX4_reckon_52 : decode cX4_reckon 52 = .ok (.ifCond .eq 6, 3) := by decide +kernel
theorem dX4_reckon_55 : decode cX4_reckon 55 = .ok (.iconst 0, 1) := by decide +kernel
theorem dX4_reckon_56 : decode cX4_reckon 56 = .ok (.istore 5, 2) := by decide +kernel
theorem dX4_reckon_58 : decode cX4_reckon 58 = .ok (.aload_n 0, 1) := by decide +kernel
theorem dX4_reckon_59 : decode cX4_reckon 59 = .ok (.getfield 15, 3) := by decide +kernel
theorem dX4_reckon_62 : decode cX4_reckon 62 = .ok (.iload 6, 2) := by decide +kernel
theorem dX4_reckon_64 : decode cX4_reckon 64 = .ok (.iload 7, 2) := by decide +kernel
theorem dX4_reckon_66 : decode cX4_reckon 66 = .ok (.iastore, 1) := by decide +kernel
theorem dX4_reckon_67 : decode cX4_reckon 67 = .ok (.aload_n 3, 1) := by decide +kernel
theorem dX4_reckon_68 : decode cX4_reckon 68 = .ok (.aload_n 2, 1) := by decide +kernel
theorem dX4_reckon_69 : decode cX4_reckon 69 = .ok (.aload_n 0, 1) := by decide +kernel
theorem dX4_reckon_70 : decode cX4_reckon 70 = .ok (.getfield 9, 3) := by decide +kernel
theorem dX4_reckon_73 : decode cX4_reckon 73 = .ok (.iload 6, 2) := by decide +kernel
theorem dX4_reckon_75 : decode cX4_reckon 75 = .ok (.iaload, 1) := by decide +kernel
theorem dX4_reckon_76 : decode cX4_reckon 76 = .ok (.iload 7, 2) := by decide +kernel
theorem dX4_reckon_78 : decode cX4_reckon 78 = .ok (.invokevirtual 52, 3) := by decide +kernel
theorem dX4_reckon_81 : decode cX4_reckon 81 = .ok (.iinc 6 1, 3) := by decide +kernel
theorem dX4_reckon_84 : decode cX4_reckon 84 = .ok (.goto (-57), 3) := by decide +kernel
theorem dX4_reckon_87 : decode cX4_reckon 87 = .ok (.aload_n 0, 1) := by decide +kernel
theorem dX4_reckon_88 : decode cX4_reckon 88 = .ok (.getfield 18, 3) := by decide +kernel
theorem dX4_reckon_91 : decode cX4_reckon 91 = .ok (.iload 4, 2) := by decide +kernel
theorem dX4_reckon_93 : decode cX4_reckon 93 = .ok (.iload 5, 2) := by decide +kernel
theorem dX4_reckon_95 : decode cX4_reckon 95 = .ok (.ifCond .eq 10, 3) := by decide +kernel
theorem dX4_reckon_98 : decode cX4_reckon 98 = .ok (.aload_n 3, 1) := by decide +kernel
theorem dX4_reckon_99 : decode cX4_reckon 99 = .ok (.invokevirtual 56, 3) := by decide +kernel
theorem dX4_reckon_102 : decode cX4_reckon 102 = .ok (.goto 4, 3) := by decide +kernel
theorem dX4_reckon_105 : decode cX4_reckon 105 = .ok (.iconst (-1), 1) := by decide +kernel
theorem dX4_reckon_106 : decode cX4_reckon 106 = .ok (.iastore, 1) := by decide +kernel
theorem dX4_reckon_107 : decode cX4_reckon 107 = .ok (.iinc 4 1, 3) := by decide +kernel
theorem dX4_reckon_110 : decode cX4_reckon 110 = .ok (.goto (-107), 3) := by decide +kernel
theorem dX4_reckon_113 : decode cX4_reckon 113 = .ok (.return_, 1) := by decide +kernel
set_option maxRecDepth 100000 in
set_option maxHeartbeats 4000000 in
theorem k_X4_reckon (κ : Kp) (xa : Nat → Nat → Nat) (X : XS) (hn : 1 ≤ X 17 3 0 ∧ X 17 3 0 ≤ 3) (ok : okC (cl (X 0))) (hfr : ∀ i : Int, 0 ≤ i → i < X 17 3 0 → 0 ≤ X 17 0 i ∧ X 17 0 i < 6) (okr : okRl (X 12)) : mV κ yX4_reckon cX4_reckon 8 4 [.ref (xa 17 100), .ref (xa 0 100), .ref (xa 12 100), .ref (xa 2 100)] (xw κ xa X) (fun w => ∃ (a P : Int → Int) (D : MS), w = xw κ xa (setO (setO X 17 (mA (mA (X 17) 1 a) 2 P)) 2 D) ∧ (∀ j : Int, 0 ≤ j → j < 3 → -1 ≤ a j ∧ a j ≤ 11) ∧ tabP (cl (X 0)) (X 12 0) (X 12 1) (X 12 2) (X 17 0) (X 17 3 0) P (pwT (X 17 3 0))) := by
  refine mV_of (by decide) (Nat.le_of_ble_eq_true rfl) (fun E F K => ?_)
  refine g_lv (lv' := [(0, .ref (xa 17 100)), (1, .ref (xa 0 100)), (2, .ref (xa 12 100)), (3, .ref (xa 2 100))]) rfl ?_
  have hpb := pwT_bd (X 17 3 0)
  refine g_iconst F dX4_reckon_0 ?_
  refine g_istore F (lv' := [(4, .int (iI 0)), (0, .ref (xa 17 100)), (1, .ref (xa 0 100)), (2, .ref (xa 12 100)), (3, .ref (xa 2 100))]) dX4_reckon_1 (by decide) rfl ?_
  have L3 : ∀ (mz3 : Nat) (k : Int) (a : Int → Int) (P : Int → Int) (D : MS), (pwT (X 17 3 0) - k).toNat = mz3 → (0 ≤ k ∧ k ≤ pwT (X 17 3 0)) → (k = 0 ∨ (∀ j : Int, 0 ≤ j → j < 3 → -1 ≤ a j ∧ a j ≤ 11)) → (tabP (cl (X 0)) (X 12 0) (X 12 1) (X 12 2) (X 17 0) (X 17 3 0) P k) → G E (xw κ xa (setO (setO X 17 (mA (mA (X 17) 1 a) 2 P)) 2 D)) [(4, .int (iI k)), (0, .ref (xa 17 100)), (1, .ref (xa 0 100)), (2, .ref (xa 12 100)), (3, .ref (xa 2 100))] 3 [] := by
    intro mz3
    induction mz3 using Nat.strongRecOn with
    | _ mz3 ih3 =>
    intro k a P D hmz3 hk hra1 hT
    refine g_iload F 0 dX4_reckon_3 rfl ?_
    refine g_aload_n F 1 dX4_reckon_5 rfl ?_
    refine g_callI F (stk := [.ref (xa 17 100), .int (iI k)]) (st := [.int (iI k)]) (k_X4_many κ xa (setO (setO X 17 (mA (mA (X 17) 1 a) 2 P)) 2 D) (show 0 ≤ ((X 17) 3 0) ∧ ((X 17) 3 0) ≤ 3 from by omega)) cal_X4_many lm_X4_32 77 rfl rfl rfl rfl (by decide) rfl (Nat.le_of_ble_eq_true rfl) dX4_reckon_6 (fun r6 ws6 _ hr6 => ?_)
    obtain ⟨rfl, rfl⟩ := hr6
    refine g_top (y := iI (pwT (((X 17) 3 0)))) rfl ?_
    refine g_icmp_ge F 113 (by omega) dX4_reckon_9 (by decide) (fun c9 => ?_) (fun c9 => ?_)
    · skip
      exact K xw_same ⟨a, P, D, rfl, hra1.resolve_left (by omega), by rw [← show k = pwT (X 17 3 0) by omega]; exact hT⟩ dX4_reckon_113
    · skip
      refine g_aload_n F 1 dX4_reckon_12 rfl ?_
      refine g_callV F (stk := [.ref (xa 17 100)]) (st := []) (k_X4_takeOff κ xa (setO (setO X 17 (mA (mA (X 17) 1 a) 2 P)) 2 D)) cal_X4_takeOff lm_X4_36 77 rfl rfl rfl rfl (by decide) rfl (Nat.le_of_ble_eq_true rfl) dX4_reckon_13 (fun ws13 _ hr13 => ?_)
      obtain rfl := hr13
      refine g_ws (ws' := xw κ xa (setO (setO (setO X 17 (mA (mA (X 17) 1 a) 2 P)) 2 D) 17 (mA (mA (mA (X 17) 1 a) 2 P) 1 (upTo a (fun _ => -1) 3)))) rfl ?_
      refine g_aload_n F 4 dX4_reckon_16 rfl ?_
      refine g_aload_n F 2 dX4_reckon_17 rfl ?_
      refine g_callNV F (stk := [.ref (xa 0 100), .ref (xa 2 100)]) (st := []) (k_X0_become κ xa (setO (setO (setO X 17 (mA (mA (X 17) 1 a) 2 P)) 2 D) 17 (mA (mA (mA (X 17) 1 a) 2 P) 1 (upTo a (fun _ => -1) 3))) 2 (by decide) 0 (by decide) (by decide)) cal_X0_become nm_X4_39 10 rfl rfl rfl rfl (by decide) rfl (Nat.le_of_ble_eq_true rfl) dX4_reckon_18 (fun ws18 _ hr18 => ?_)
      obtain rfl := hr18
      refine g_ws (ws' := xw κ xa (setO (setO (setO (setO X 17 (mA (mA (X 17) 1 a) 2 P)) 2 D) 17 (mA (mA (mA (X 17) 1 a) 2 P) 1 (upTo a (fun _ => -1) 3))) 2 (stC D (cl (X 0))))) rfl ?_
      refine g_iconst F dX4_reckon_21 ?_
      refine g_istore F (lv' := [(5, .int (iI 1)), (4, .int (iI k)), (0, .ref (xa 17 100)), (1, .ref (xa 0 100)), (2, .ref (xa 12 100)), (3, .ref (xa 2 100))]) dX4_reckon_22 (by decide) rfl ?_
      refine g_iconst F dX4_reckon_24 ?_
      refine g_istore F (lv' := [(6, .int (iI 0)), (5, .int (iI 1)), (4, .int (iI k)), (0, .ref (xa 17 100)), (1, .ref (xa 0 100)), (2, .ref (xa 12 100)), (3, .ref (xa 2 100))]) dX4_reckon_25 (by decide) rfl ?_
      have L27 : ∀ (mz27 : Nat) (i : Int) (un : Int) (a2 : Int → Int) (D2 : MS), (X 17 3 0 - i).toNat = mz27 → (0 ≤ i ∧ i ≤ X 17 3 0) → (∀ j : Int, 0 ≤ j → j < 3 → -1 ≤ a2 j ∧ a2 j ≤ 11) → (∀ j : Int, 0 ≤ j → j < 3 → a2 j = dgU (X 17 3 0) k i j) → (okC (cl D2)) → ((un = 1 ∧ apQ (dgA (X 17 3 0) k) i 0 ∧ cl D2 = asC (cl (X 0)) (X 12 0) (X 12 1) (X 12 2) (X 17 0) (dgU (X 17 3 0) k i) (X 17 3 0)) ∨ (un = 0 ∧ ¬ apQ (dgA (X 17 3 0) k) i 0)) → G E (xw κ xa (setO (setO X 17 (mA (mA (X 17) 1 a2) 2 P)) 2 D2)) [(6, .int (iI i)), (5, .int (iI un)), (4, .int (iI k)), (0, .ref (xa 17 100)), (1, .ref (xa 0 100)), (2, .ref (xa 12 100)), (3, .ref (xa 2 100))] 27 [] := by
        intro mz27
        induction mz27 using Nat.strongRecOn with
        | _ mz27 ih27 =>
        intro i un a2 D2 hmz27 hi hra2 ha2 okd hu2
        refine g_iload F 0 dX4_reckon_27 rfl ?_
        refine g_aload_n F 3 dX4_reckon_29 rfl ?_
        refine g17_get_3 F  lf_X4_21 dX4_reckon_30 ?_
        refine g_top (y := iI ((X 17) 3 0)) rfl ?_
        refine g_icmp_ge F 87 (by omega) dX4_reckon_33 (by decide) (fun c33 => ?_) (fun c33 => ?_)
        · skip
          have hie : i = X 17 3 0 := by omega
          rw [hie] at hu2
          refine g_aload_n F 3 dX4_reckon_87 rfl ?_
          refine g17_get_2 F  lf_X4_18 dX4_reckon_88 ?_
          refine g_iload F 2 dX4_reckon_91 rfl ?_
          refine g_iload F 1 dX4_reckon_93 rfl ?_
          refine g_if_eq F 105 (by omega) dX4_reckon_95 (by decide) (fun c95 => ?_) (fun c95 => ?_)
          · skip
            refine g_iconst F dX4_reckon_105 ?_
            refine g17_ast_2 F  (by omega) dX4_reckon_106 ?_
            refine g_ws (ws' := xw κ xa (setO (setO (setO X 17 (mA (mA (X 17) 1 a2) 2 P)) 2 D2) 17 (mA (mA (X 17) 1 a2) 2 (uI P k (-1))))) rfl ?_
            refine g_iinc F (lv' := [(4, .int (iI (k + 1))), (6, .int (iI i)), (5, .int (iI un)), (0, .ref (xa 17 100)), (1, .ref (xa 0 100)), (2, .ref (xa 12 100)), (3, .ref (xa 2 100))]) 2 dX4_reckon_107 rfl (by decide) rfl ?_
            refine g_goto F 3 dX4_reckon_110 (by decide) ?_
            refine g_sub F (lv' := [(4, .int (iI (k + 1))), (0, .ref (xa 17 100)), (1, .ref (xa 0 100)), (2, .ref (xa 12 100)), (3, .ref (xa 2 100))]) [0, 3, 4, 5, 6] rfl ?_
            refine g_ws (ws' := xw κ xa (setO (setO X 17 (mA (mA (X 17) 1 a2) 2 (uI P k (-1)))) 2 D2)) rfl ?_
            exact ih3 _ (by omega) (k + 1) a2 (uI P k (-1)) D2 rfl (by omega) (Or.inr hra2) (tab_s hT (by first | exact Or.inl ⟨by first | exact (apQ_P _ _).mp (hu2.resolve_right (fun z => absurd z.1 (by omega))).2.1 , hPl⟩ | exact Or.inr ⟨fun z => (hu2.resolve_left (fun z => absurd z.1 (by omega))).2 ((apQ_P _ _).mpr z), rfl⟩))
          · skip
            refine g_aload_n F 6 dX4_reckon_98 rfl ?_
            have hPl : allPull (cl D2) = leaf (cl (X 0)) (X 12 0) (X 12 1) (X 12 2) (X 17 0) (X 17 3 0) (dgA (X 17 3 0) k) := by rw [(hu2.resolve_right (fun z => absurd z.1 (by omega))).2.2]; exact congrArg allPull (asC_at _ _ _ _ _ (dgU_all (n := X 17 3 0) (k := k)))
            have hPb := allPull_bd okd.A
            refine g_callNI F (stk := [.ref (xa 2 100), .int (iI k), .ref (xa 17 2)]) (st := [.int (iI k), .ref (xa 17 2)]) (kS_X0_pullTogether κ xa (setO X 17 (mA (mA (X 17) 1 a2) 2 P)) 2 (by decide) D2 okd.A) cal_X0_pullTogether nm_X4_56 10 rfl rfl rfl rfl (by decide) rfl (Nat.le_of_ble_eq_true rfl) dX4_reckon_99 (fun r99 ws99 _ hr99 => ?_)
            obtain ⟨rfl, rfl⟩ := hr99
            refine g_goto F 106 dX4_reckon_102 (by decide) ?_
            refine g17_ast_2 F  (by omega) dX4_reckon_106 ?_
            refine g_ws (ws' := xw κ xa (setO (setO (setO X 17 (mA (mA (X 17) 1 a2) 2 P)) 2 D2) 17 (mA (mA (X 17) 1 a2) 2 (uI P k (allPull (cl D2)))))) rfl ?_
            refine g_iinc F (lv' := [(4, .int (iI (k + 1))), (6, .int (iI i)), (5, .int (iI un)), (0, .ref (xa 17 100)), (1, .ref (xa 0 100)), (2, .ref (xa 12 100)), (3, .ref (xa 2 100))]) 2 dX4_reckon_107 rfl (by decide) rfl ?_
            refine g_goto F 3 dX4_reckon_110 (by decide) ?_
            refine g_sub F (lv' := [(4, .int (iI (k + 1))), (0, .ref (xa 17 100)), (1, .ref (xa 0 100)), (2, .ref (xa 12 100)), (3, .ref (xa 2 100))]) [0, 3, 4, 5, 6] rfl ?_
            refine g_ws (ws' := xw κ xa (setO (setO X 17 (mA (mA (X 17) 1 a2) 2 (uI P k (allPull (cl D2))))) 2 D2)) rfl ?_
            exact ih3 _ (by omega) (k + 1) a2 (uI P k (allPull (cl D2))) D2 rfl (by omega) (Or.inr hra2) (tab_s hT (by first | exact Or.inl ⟨by first | exact (apQ_P _ _).mp (hu2.resolve_right (fun z => absurd z.1 (by omega))).2.1 , hPl⟩ | exact Or.inr ⟨fun z => (hu2.resolve_left (fun z => absurd z.1 (by omega))).2 ((apQ_P _ _).mpr z), rfl⟩))
        · skip
          have hdg := dg_bd (X 17 3 0) k i
          have hdg2 := hdg.2.2 hi.1 (by omega)
          have htk := ap_tk (a := a2) hi.1 (show i < X 17 3 0 by omega) (by omega) ha2
          have hfi := hfr i hi.1 (by omega)
          refine g_aload_n F 3 dX4_reckon_36 rfl ?_
          refine g_iload F 2 dX4_reckon_37 rfl ?_
          refine g_iload F 0 dX4_reckon_39 rfl ?_
          refine g_callI F (stk := [.int (iI i), .int (iI k), .ref (xa 17 100)]) (st := []) (k_X4_cellIn κ xa (setO (setO X 17 (mA (mA (X 17) 1 a2) 2 P)) 2 D2) k i (show (0 ≤ ((X 17) 3 0) ∧ ((X 17) 3 0) ≤ 3) ∧ (0 ≤ k ∧ k < 1728) ∧ 0 ≤ i ∧ i < ((X 17) 3 0) from by omega)) cal_X4_cellIn lm_X4_45 77 rfl rfl rfl rfl (by decide) rfl (Nat.le_of_ble_eq_true rfl) dX4_reckon_41 (fun r41 ws41 _ hr41 => ?_)
          obtain ⟨rfl, rfl⟩ := hr41
          refine g_top (y := iI (dgA (((X 17) 3 0)) k i)) rfl ?_
          refine g_istore F (lv' := [(7, .int (iI (dgA (((X 17) 3 0)) k i))), (6, .int (iI i)), (5, .int (iI un)), (4, .int (iI k)), (0, .ref (xa 17 100)), (1, .ref (xa 0 100)), (2, .ref (xa 12 100)), (3, .ref (xa 2 100))]) dX4_reckon_44 (by decide) rfl ?_
          refine g_aload_n F 4 dX4_reckon_46 rfl ?_
          refine g_iload F 0 dX4_reckon_47 rfl ?_
          refine g_callI F (stk := [.int (iI (dgA (((X 17) 3 0)) k i)), .ref (xa 17 100)]) (st := []) (k_X4_isTaken κ xa (setO (setO X 17 (mA (mA (X 17) 1 a2) 2 P)) 2 D2) (dgA (((X 17) 3 0)) k i) (show 0 ≤ ((X 17) 3 0) ∧ ((X 17) 3 0) ≤ 3 from by omega) hra2 (by omega)) cal_X4_isTaken lm_X4_49 77 rfl rfl rfl rfl (by decide) rfl (Nat.le_of_ble_eq_true rfl) dX4_reckon_49 (fun r49 ws49 _ hr49 => ?_)
          obtain ⟨rfl, rfl⟩ := hr49
          refine g_top (y := iI (b2i (tkn a2 (((X 17) 3 0)) (dgA (((X 17) 3 0)) k i)))) rfl ?_
          refine g_if_eq F 58 (b2i_in _) dX4_reckon_52 (by decide) (fun c52 => ?_) (fun c52 => ?_)
          · skip
            have c52 : ¬ (tkn a2 (((X 17) 3 0)) (dgA (((X 17) 3 0)) k i)) := b2i_f c52
            refine g_aload_n F 4 dX4_reckon_58 rfl ?_
            refine g17_get_1 F  lf_X4_15 dX4_reckon_59 ?_
            refine g_iload F 1 dX4_reckon_62 rfl ?_
            refine g_iload F 0 dX4_reckon_64 rfl ?_
            refine g17_ast_1 F  (by omega) dX4_reckon_66 ?_
            refine g_ws (ws' := xw κ xa (setO (setO (setO X 17 (mA (mA (X 17) 1 a2) 2 P)) 2 D2) 17 (mA (mA (mA (X 17) 1 a2) 2 P) 1 (uI a2 i (dgA (((X 17) 3 0)) k i))))) rfl ?_
            refine g_aload_n F 7 dX4_reckon_67 rfl ?_
            have hrp := okr.p (p := X 17 0 i) (by omega) (by omega)
            refine g_aload_n F 6 dX4_reckon_68 rfl ?_
            refine g_aload_n F 4 dX4_reckon_69 rfl ?_
            refine g17_get_0 F  lf_X4_9 dX4_reckon_70 ?_
            refine g_iload F 1 dX4_reckon_73 rfl ?_
            refine g17_ald_0 F  (by omega) dX4_reckon_75 ?_
            refine g_top (y := iI ((X 17) 0 i)) rfl ?_
            refine g_iload F 0 dX4_reckon_76 rfl ?_
            refine g_callNV F (stk := [.int (iI (dgA (((X 17) 3 0)) k i)), .int (iI ((X 17) 0 i)), .ref (xa 12 100), .ref (xa 2 100)]) (st := []) (k_X0_put κ xa (setO (setO (setO X 17 (mA (mA (X 17) 1 a2) 2 P)) 2 D2) 17 (mA (mA (mA (X 17) 1 a2) 2 P) 1 (uI a2 i (dgA (((X 17) 3 0)) k i)))) 2 (by decide) 0 ((X 17) 0 i) (dgA (((X 17) 3 0)) k i) (by decide) (by omega) (by omega)) cal_X0_put nm_X4_52 10 rfl rfl rfl rfl (by decide) rfl (Nat.le_of_ble_eq_true rfl) dX4_reckon_78 (fun ws78 _ hr78 => ?_)
            obtain rfl := hr78
            refine g_ws (ws' := xw κ xa (setO (setO (setO (setO X 17 (mA (mA (X 17) 1 a2) 2 P)) 2 D2) 17 (mA (mA (mA (X 17) 1 a2) 2 P) 1 (uI a2 i (dgA (((X 17) 3 0)) k i)))) 2 (stC D2 (make (cl D2) (dgA (((X 17) 3 0)) k i) ((X 12) 0 ((X 17) 0 i)) ((X 12) 1 ((X 17) 0 i)) ((X 12) 2 ((X 17) 0 i)))))) rfl ?_
            refine g_iinc F (lv' := [(6, .int (iI (i + 1))), (7, .int (iI (dgA (((X 17) 3 0)) k i))), (5, .int (iI un)), (4, .int (iI k)), (0, .ref (xa 17 100)), (1, .ref (xa 0 100)), (2, .ref (xa 12 100)), (3, .ref (xa 2 100))]) 1 dX4_reckon_81 rfl (by decide) rfl ?_
            refine g_goto F 27 dX4_reckon_84 (by decide) ?_
            refine g_sub F (lv' := [(6, .int (iI (i + 1))), (5, .int (iI un)), (4, .int (iI k)), (0, .ref (xa 17 100)), (1, .ref (xa 0 100)), (2, .ref (xa 12 100)), (3, .ref (xa 2 100))]) [0, 2, 3, 4, 5, 6, 7] rfl ?_
            refine g_ws (ws' := xw κ xa (setO (setO X 17 (mA (mA (X 17) 1 (uI a2 i (dgA (((X 17) 3 0)) k i))) 2 P)) 2 (stC D2 (make (cl D2) (dgA (((X 17) 3 0)) k i) ((X 12) 0 ((X 17) 0 i)) ((X 12) 1 ((X 17) 0 i)) ((X 12) 2 ((X 17) 0 i)))))) rfl ?_
            exact ih27 _ (by omega) (i + 1) un (uI a2 i (dgA (((X 17) 3 0)) k i)) (stC D2 (make (cl D2) (dgA (((X 17) 3 0)) k i) ((X 12) 0 ((X 17) 0 i)) ((X 12) 1 ((X 17) 0 i)) ((X 12) 2 ((X 17) 0 i)))) rfl (by omega) (fun j x y => by have h := dg_bd (X 17 3 0) k i; by_cases q : j = i <;> first | (rw [q, uI_s]; omega) | (rw [uI_n q]; exact hra2 j x y)) (fun j x y => by rw [← dgU_s hi.1]; by_cases q : j = i <;> first | (rw [q, uI_s, uI_s]) | (rw [uI_n q, uI_n q]; exact ha2 j x y)) (make_ok okd hrp.1 hrp.2.1 hrp.2.2) (by rcases hu2 with ⟨q1, q2, q3⟩ | ⟨q1, q2⟩ <;> first | exact Or.inl ⟨by first | omega | rfl, htk.mpr ⟨q2, c52⟩, by rw [← way_put (cl (X 0)) (X 12 0) (X 12 1) (X 12 2) (X 17 0) ⟨hi.1, by omega⟩ (by omega) (htk.mpr ⟨q2, c52⟩), ← q3]; rfl⟩ | exact Or.inr ⟨by first | omega | rfl, fun z => (htk.mp z).2 c52⟩ | exact Or.inr ⟨by first | omega | rfl, fun z => q2 (htk.mp z).1⟩)
          · skip
            have c52 : tkn a2 (((X 17) 3 0)) (dgA (((X 17) 3 0)) k i) := b2i_t c52
            refine g_iconst F dX4_reckon_55 ?_
            refine g_istore F (lv' := [(5, .int (iI 0)), (7, .int (iI (dgA (((X 17) 3 0)) k i))), (6, .int (iI i)), (4, .int (iI k)), (0, .ref (xa 17 100)), (1, .ref (xa 0 100)), (2, .ref (xa 12 100)), (3, .ref (xa 2 100))]) dX4_reckon_56 (by decide) rfl ?_
            refine g_aload_n F 4 dX4_reckon_58 rfl ?_
            refine g17_get_1 F  lf_X4_15 dX4_reckon_59 ?_
            refine g_iload F 2 dX4_reckon_62 rfl ?_
            refine g_iload F 1 dX4_reckon_64 rfl ?_
            refine g17_ast_1 F  (by omega) dX4_reckon_66 ?_
            refine g_ws (ws' := xw κ xa (setO (setO (setO X 17 (mA (mA (X 17) 1 a2) 2 P)) 2 D2) 17 (mA (mA (mA (X 17) 1 a2) 2 P) 1 (uI a2 i (dgA (((X 17) 3 0)) k i))))) rfl ?_
            refine g_aload_n F 7 dX4_reckon_67 rfl ?_
            have hrp := okr.p (p := X 17 0 i) (by omega) (by omega)
            refine g_aload_n F 6 dX4_reckon_68 rfl ?_
            refine g_aload_n F 4 dX4_reckon_69 rfl ?_
            refine g17_get_0 F  lf_X4_9 dX4_reckon_70 ?_
            refine g_iload F 2 dX4_reckon_73 rfl ?_
            refine g17_ald_0 F  (by omega) dX4_reckon_75 ?_
            refine g_top (y := iI ((X 17) 0 i)) rfl ?_
            refine g_iload F 1 dX4_reckon_76 rfl ?_
            refine g_callNV F (stk := [.int (iI (dgA (((X 17) 3 0)) k i)), .int (iI ((X 17) 0 i)), .ref (xa 12 100), .ref (xa 2 100)]) (st := []) (k_X0_put κ xa (setO (setO (setO X 17 (mA (mA (X 17) 1 a2) 2 P)) 2 D2) 17 (mA (mA (mA (X 17) 1 a2) 2 P) 1 (uI a2 i (dgA (((X 17) 3 0)) k i)))) 2 (by decide) 0 ((X 17) 0 i) (dgA (((X 17) 3 0)) k i) (by decide) (by omega) (by omega)) cal_X0_put nm_X4_52 10 rfl rfl rfl rfl (by decide) rfl (Nat.le_of_ble_eq_true rfl) dX4_reckon_78 (fun ws78 _ hr78 => ?_)
            obtain rfl := hr78
            refine g_ws (ws' := xw κ xa (setO (setO (setO (setO X 17 (mA (mA (X 17) 1 a2) 2 P)) 2 D2) 17 (mA (mA (mA (X 17) 1 a2) 2 P) 1 (uI a2 i (dgA (((X 17) 3 0)) k i)))) 2 (stC D2 (make (cl D2) (dgA (((X 17) 3 0)) k i) ((X 12) 0 ((X 17) 0 i)) ((X 12) 1 ((X 17) 0 i)) ((X 12) 2 ((X 17) 0 i)))))) rfl ?_
            refine g_iinc F (lv' := [(6, .int (iI (i + 1))), (5, .int (iI 0)), (7, .int (iI (dgA (((X 17) 3 0)) k i))), (4, .int (iI k)), (0, .ref (xa 17 100)), (1, .ref (xa 0 100)), (2, .ref (xa 12 100)), (3, .ref (xa 2 100))]) 2 dX4_reckon_81 rfl (by decide) rfl ?_
            refine g_goto F 27 dX4_reckon_84 (by decide) ?_
            refine g_sub F (lv' := [(6, .int (iI (i + 1))), (5, .int (iI 0)), (4, .int (iI k)), (0, .ref (xa 17 100)), (1, .ref (xa 0 100)), (2, .ref (xa 12 100)), (3, .ref (xa 2 100))]) [0, 1, 3, 4, 5, 6, 7] rfl ?_
            refine g_ws (ws' := xw κ xa (setO (setO X 17 (mA (mA (X 17) 1 (uI a2 i (dgA (((X 17) 3 0)) k i))) 2 P)) 2 (stC D2 (make (cl D2) (dgA (((X 17) 3 0)) k i) ((X 12) 0 ((X 17) 0 i)) ((X 12) 1 ((X 17) 0 i)) ((X 12) 2 ((X 17) 0 i)))))) rfl ?_
            exact ih27 _ (by omega) (i + 1) 0 (uI a2 i (dgA (((X 17) 3 0)) k i)) (stC D2 (make (cl D2) (dgA (((X 17) 3 0)) k i) ((X 12) 0 ((X 17) 0 i)) ((X 12) 1 ((X 17) 0 i)) ((X 12) 2 ((X 17) 0 i)))) rfl (by omega) (fun j x y => by have h := dg_bd (X 17 3 0) k i; by_cases q : j = i <;> first | (rw [q, uI_s]; omega) | (rw [uI_n q]; exact hra2 j x y)) (fun j x y => by rw [← dgU_s hi.1]; by_cases q : j = i <;> first | (rw [q, uI_s, uI_s]) | (rw [uI_n q, uI_n q]; exact ha2 j x y)) (make_ok okd hrp.1 hrp.2.1 hrp.2.2) (by rcases hu2 with ⟨q1, q2, q3⟩ | ⟨q1, q2⟩ <;> first | exact Or.inl ⟨by first | omega | rfl, htk.mpr ⟨q2, c52⟩, by rw [← way_put (cl (X 0)) (X 12 0) (X 12 1) (X 12 2) (X 17 0) ⟨hi.1, by omega⟩ (by omega) (htk.mpr ⟨q2, c52⟩), ← q3]; rfl⟩ | exact Or.inr ⟨by first | omega | rfl, fun z => (htk.mp z).2 c52⟩ | exact Or.inr ⟨by first | omega | rfl, fun z => q2 (htk.mp z).1⟩)
      refine g_sub F (lv' := [(6, .int (iI 0)), (5, .int (iI 1)), (4, .int (iI k)), (0, .ref (xa 17 100)), (1, .ref (xa 0 100)), (2, .ref (xa 12 100)), (3, .ref (xa 2 100))]) [0, 1, 2, 3, 4, 5, 6] rfl ?_
      refine g_ws (ws' := xw κ xa (setO (setO X 17 (mA (mA (X 17) 1 (upTo a (fun _ => -1) 3)) 2 P)) 2 (stC D (cl (X 0))))) rfl ?_
      exact L27 _ 0 1 (upTo a (fun _ => -1) 3) (stC D (cl (X 0))) rfl (by omega) (fun j x y => by rw [upTo_in x y]; decide) (fun j x y => by rw [upTo_in x y]; unfold dgU; rw [if_neg (by omega)]) ok (Or.inl ⟨rfl, by unfold apQ; omega, (asC_no _ _ _ _ _ (dgU_no _ k)).symm⟩)
  refine g_sub F (lv' := [(4, .int (iI 0)), (0, .ref (xa 17 100)), (1, .ref (xa 0 100)), (2, .ref (xa 12 100)), (3, .ref (xa 2 100))]) [0, 1, 2, 3, 4] rfl ?_
  refine g_ws (ws' := xw κ xa (setO (setO X 17 (mA (mA (X 17) 1 ((X 17) 1)) 2 ((X 17) 2))) 2 (X 2))) (by rw [mA_self, mA_self, setO_self, setO_self]) ?_
  exact L3 _ 0 ((X 17) 1) ((X 17) 2) (X 2) rfl (by omega) (Or.inl rfl) (fun k a b => absurd b (by omega))
