theorem goI_1 (C : Cl) : goI 1 C = yearOn C := rfl

theorem dX0_goOn_0 : decode cX0_goOn 0 = .ok (.iconst 0, 1) := by decide +kernel
theorem dX0_goOn_1 : decode cX0_goOn 1 = .ok (.istore_n 2, 1) := by decide +kernel
theorem dX0_goOn_2 : decode cX0_goOn 2 = .ok (.iload_n 2, 1) := by decide +kernel
theorem dX0_goOn_3 : decode cX0_goOn 3 = .ok (.iload_n 1, 1) := by decide +kernel
theorem dX0_goOn_4 : decode cX0_goOn 4 = .ok (.if_icmp .ge 61, 3) := by decide +kernel
theorem dX0_goOn_7 : decode cX0_goOn 7 = .ok (.iconst 0, 1) := by decide +kernel
theorem dX0_goOn_8 : decode cX0_goOn 8 = .ok (.istore_n 3, 1) := by decide +kernel
theorem dX0_goOn_9 : decode cX0_goOn 9 = .ok (.iload_n 3, 1) := by decide +kernel
theorem dX0_goOn_10 : decode cX0_goOn 10 = .ok (.bipush 12, 2) := by decide +kernel
theorem dX0_goOn_12 : decode cX0_goOn 12 = .ok (.if_icmp .ge 32, 3) := by decide +kernel
theorem dX0_goOn_15 : decode cX0_goOn 15 = .ok (.aload_n 0, 1) := by decide +kernel
theorem dX0_goOn_16 : decode cX0_goOn 16 = .ok (.getfield 21, 3) := by decide +kernel
theorem dX0_goOn_19 : decode cX0_goOn 19 = .ok (.iload_n 3, 1) := by decide +kernel
theorem dX0_goOn_20 : decode cX0_goOn 20 = .ok (.bipush 99, 2) := by decide +kernel
theorem dX0_goOn_22 : decode cX0_goOn 22 = .ok (.aload_n 0, 1) := by decide +kernel
theorem dX0_goOn_23 : decode cX0_goOn 23 = .ok (.getfield 21, 3) := by decide +kernel
theorem dX0_goOn_26 : decode cX0_goOn 26 = .ok (.iload_n 3, 1) := by decide +kernel
theorem dX0_goOn_27 : decode cX0_goOn 27 = .ok (.iaload, 1) := by decide +kernel
theorem dX0_goOn_28 : decode cX0_goOn 28 = .ok (.aload_n 0, 1) := by decide +kernel
theorem dX0_goOn_29 : decode cX0_goOn 29 = .ok (.iload_n 3, 1) := by decide +kernel
theorem dX0_goOn_30 : decode cX0_goOn 30 = .ok (.invokevirtual 70, 3) := by decide +kernel
theorem dX0_goOn_33 : decode cX0_goOn 33 = .ok (.iadd, 1) := by decide +kernel
theorem dX0_goOn_34 : decode cX0_goOn 34 = .ok (.invokestatic 73, 3) := by decide +kernel
theorem dX0_goOn_37 : decode cX0_goOn 37 = .ok (.iastore, 1) := by decide +kernel
theorem dX0_goOn_38 : decode cX0_goOn 38 = .ok (.iinc 3 1, 3) := by decide +kernel
theorem dX0_goOn_41 : decode cX0_goOn 41 = .ok (.goto (-32), 3) := by decide +kernel
theorem dX0_goOn_44 : decode cX0_goOn 44 = .ok (.aload_n 0, 1) := by decide +kernel
theorem dX0_goOn_45 : decode cX0_goOn 45 = .ok (.iconst 1, 1) := by decide +kernel
theorem dX0_goOn_46 : decode cX0_goOn 46 = .ok (.invokevirtual 76, 3) := by decide +kernel
theorem dX0_goOn_49 : decode cX0_goOn 49 = .ok (.aload_n 0, 1) := by decide +kernel
theorem dX0_goOn_50 : decode cX0_goOn 50 = .ok (.dup, 1) := by decide +kernel
theorem dX0_goOn_51 : decode cX0_goOn 51 = .ok (.getfield 30, 3) := by decide +kernel
theorem dX0_goOn_54 : decode cX0_goOn 54 = .ok (.iconst 1, 1) := by decide +kernel
theorem dX0_goOn_55 : decode cX0_goOn 55 = .ok (.iadd, 1) := by decide +kernel
theorem dX0_goOn_56 : decode cX0_goOn 56 = .ok (.putfield 30, 3) := by decide +kernel
theorem dX0_goOn_59 : decode cX0_goOn 59 = .ok (.iinc 2 1, 3) := by decide +kernel
theorem dX0_goOn_62 : decode cX0_goOn 62 = .ok (.goto (-60), 3) := by decide +kernel
theorem dX0_goOn_65 : decode cX0_goOn 65 = .ok (.return_, 1) := by decide +kernel
set_option maxRecDepth 100000 in
set_option maxHeartbeats 4000000 in
theorem kS_X0_goOn (κ : Kp) (xa : Nat → Nat → Nat) (X : XS) (o : Nat) (ho : o < 12) (C : MS) (n : Int)  (hn : (0 ≤ n ∧ n ≤ 1000) ∧ C 4 0 + n ≤ 1000000) (ok : okC (cl C)) : mV κ yX0_goOn cX0_goOn 4 3 [.ref (xa o 100), .int (iI n)] (xw κ xa (setO X o C)) (is0 (xw κ xa (setO X o (stC C (goI n (cl C)))))) := by
  refine mV_of (by decide) (Nat.le_of_ble_eq_true rfl) (fun E F K => ?_)
  refine g_lv (lv' := [(0, .ref (xa o 100)), (1, .int (iI n))]) rfl ?_
  refine g_iconst F dX0_goOn_0 ?_
  refine g_istore_n F (lv' := [(2, .int (iI 0)), (0, .ref (xa o 100)), (1, .int (iI n))]) 2 dX0_goOn_1 rfl (by decide) rfl ?_
  have L2 : ∀ (mz2 : Nat) (k : Int), (n - k).toNat = mz2 → (0 ≤ k ∧ k ≤ n) → G E (xw κ xa (setO X o (stC C (goI k (cl C))))) [(2, .int (iI k)), (0, .ref (xa o 100)), (1, .int (iI n))] 2 [] := by
    intro mz2
    induction mz2 using Nat.strongRecOn with
    | _ mz2 ih2 =>
    intro k hmz2 hk
    refine g_iload_n F 0 dX0_goOn_2 rfl ?_
    refine g_iload_n F 2 dX0_goOn_3 rfl ?_
    refine g_icmp_ge F 65 (by omega) dX0_goOn_4 (by decide) (fun c4 => ?_) (fun c4 => ?_)
    · skip
      exact K xw_same (by rw [show k = n by omega]) dX0_goOn_65
    · skip
      have hyk : 0 ≤ yr (goI k (cl C)) ∧ yr (goI k (cl C)) < 1000000 := by have e := goI_yr (C := cl C) hk.1; have e2 : yr (cl C) = C 4 0 := rfl; have e3 := ok.2; omega
      refine g_iconst F dX0_goOn_7 ?_
      refine g_istore_n F (lv' := [(3, .int (iI 0)), (2, .int (iI k)), (0, .ref (xa o 100)), (1, .int (iI n))]) 3 dX0_goOn_8 rfl (by decide) rfl ?_
      have L9 : ∀ (mz9 : Nat) (c : Int) (f : Int → Int), (12 - c).toNat = mz9 → (0 ≤ c ∧ c ≤ 12) → (f = upTo (we (goI k (cl C))) (wearOn (goI k (cl C))) c) → G E (xw κ xa (setO X o (mA (stC C (goI k (cl C))) 3 f))) [(3, .int (iI c)), (2, .int (iI k)), (0, .ref (xa o 100)), (1, .int (iI n))] 9 [] := by
        intro mz9
        induction mz9 using Nat.strongRecOn with
        | _ mz9 ih9 =>
        intro c f hmz9 hc hf
        refine g_iload_n F 0 dX0_goOn_9 rfl ?_
        refine g_bipush F dX0_goOn_10 (by decide +kernel) ?_
        refine g_icmp_ge F 44 (by omega) dX0_goOn_12 (by decide) (fun c12 => ?_) (fun c12 => ?_)
        · skip
          refine g_aload_n F 2 dX0_goOn_44 rfl ?_
          refine g_iconst F dX0_goOn_45 ?_
          refine g_callV F (stk := [.int (iI 1), .ref (xa o 100)]) (st := []) (kS_X0_growOlder κ xa X o ho (mA (stC C (goI k (cl C))) 3 f) 1 (by omega) (fun c a b => ((goI_ok ok k).r a b).2.2.1)) cal_X0_growOlder lm_X0_76 (5 * o + 0) (xc_obj ho) rfl rfl rfl (by decide) rfl (Nat.le_of_ble_eq_true rfl) dX0_goOn_46 (fun ws46 _ hr46 => ?_)
          obtain rfl := hr46
          refine g_aload_n F 2 dX0_goOn_49 rfl ?_
          refine g_dup F dX0_goOn_50 rfl ?_
          refine gcS_get_4 F ho lf_X0_30 dX0_goOn_51 ?_
          refine g_top (y := iI (yr (older (cl (mA (stC C (goI k (cl C))) 3 f)) 1))) rfl ?_
          refine g_iconst F dX0_goOn_54 ?_
          refine g_iadd F dX0_goOn_55 ?_
          refine gcS_put_4 F  ho lf_X0_30 dX0_goOn_56 ?_
          refine g_iinc F (lv' := [(2, .int (iI (k + 1))), (3, .int (iI c)), (0, .ref (xa o 100)), (1, .int (iI n))]) 1 dX0_goOn_59 rfl (by decide) rfl ?_
          refine g_goto F 2 dX0_goOn_62 (by decide) ?_
          refine g_sub F (lv' := [(2, .int (iI (k + 1))), (0, .ref (xa o 100)), (1, .int (iI n))]) [0, 2, 3] rfl ?_
          refine g_ws (ws' := xw κ xa (setO X o (stC C (goI (k + 1) (cl C))))) (by rw [goI_s hk.1, hf, show c = 12 by omega]; exact xc_ext ho rfl) ?_
          exact ih2 _ (by omega) (k + 1) rfl (by omega)
        · skip
          refine g_aload_n F 2 dX0_goOn_15 rfl ?_
          refine gcS_get_3 F ho lf_X0_21 dX0_goOn_16 ?_
          refine g_iload_n F 0 dX0_goOn_19 rfl ?_
          refine g_bipush F dX0_goOn_20 (by decide +kernel) ?_
          refine g_aload_n F 2 dX0_goOn_22 rfl ?_
          refine gcS_get_3 F ho lf_X0_21 dX0_goOn_23 ?_
          refine g_iload_n F 0 dX0_goOn_26 rfl ?_
          refine gcS_ald_3 F ho (by omega) dX0_goOn_27 ?_
          refine g_top (y := iI (f c)) rfl ?_
          refine g_top (y := iI (we (goI k (cl C)) c)) (iIc (by rw [hf, upTo_out (by omega)])) ?_
          refine g_aload_n F 2 dX0_goOn_28 rfl ?_
          refine g_iload_n F 0 dX0_goOn_29 rfl ?_
          refine g_callI F (stk := [.int (iI c), .ref (xa o 100), .int (iI (we (goI k (cl C)) c)), .int (iI 99), .int (iI c), .ref (xa o 3)]) (st := [.int (iI (we (goI k (cl C)) c)), .int (iI 99), .int (iI c), .ref (xa o 3)]) (kS_X0_wearing κ xa X o ho (mA (stC C (goI k (cl C))) 3 f) c (by omega) hyk (goI_ok ok k).A) cal_X0_wearing lm_X0_70 (5 * o + 0) (xc_obj ho) rfl rfl rfl (by decide) rfl (Nat.le_of_ble_eq_true rfl) dX0_goOn_30 (fun r30 ws30 _ hr30 => ?_)
          obtain ⟨rfl, rfl⟩ := hr30
          refine g_top (y := iI (wearing (goI k (cl C)) (yr (goI k (cl C)) + 1) c)) rfl ?_
          have hw := wearing_bd (goI_ok ok k).A (y := yr (goI k (cl C)) + 1) hc.1 (by omega)
          have hk2 := (goI_ok ok k).r hc.1 (by omega)
          refine g_iadd F dX0_goOn_33 ?_
          refine g_min F (by omega) lm_X0_73 ms_min ms_ini mc_min (by decide) (Nat.le_of_ble_eq_true rfl) dX0_goOn_34 ?_
          refine g_top (y := iI (wearOn (goI k (cl C)) c)) rfl ?_
          refine gcSS_ast_3 F ho (by omega) dX0_goOn_37 ?_
          refine g_iinc F (lv' := [(3, .int (iI (c + 1))), (2, .int (iI k)), (0, .ref (xa o 100)), (1, .int (iI n))]) 0 dX0_goOn_38 rfl (by decide) rfl ?_
          refine g_goto F 9 dX0_goOn_41 (by decide) ?_
          refine g_sub F (lv' := [(3, .int (iI (c + 1))), (2, .int (iI k)), (0, .ref (xa o 100)), (1, .int (iI n))]) [0, 1, 2, 3] rfl ?_
          exact ih9 _ (by omega) (c + 1) (uI f c (wearOn (goI k (cl C)) c)) rfl (by omega) (by rw [hf, upTo_s _ _ hc.1])
      refine g_sub F (lv' := [(3, .int (iI 0)), (2, .int (iI k)), (0, .ref (xa o 100)), (1, .int (iI n))]) [0, 1, 2, 3] rfl ?_
      refine g_ws (ws' := xw κ xa (setO X o (mA (stC C (goI k (cl C))) 3 (we (goI k (cl C)))))) (xc_ext ho rfl) ?_
      exact L9 _ 0 (we (goI k (cl C))) rfl (by omega) (upTo_0 _ _).symm
  refine g_sub F (lv' := [(2, .int (iI 0)), (0, .ref (xa o 100)), (1, .int (iI n))]) [0, 1, 2] rfl ?_
  refine g_ws (ws' := xw κ xa (setO X o (stC C (goI 0 (cl C))))) (xc_ext ho rfl) ?_
  exact L2 _ 0 rfl (by omega)
theorem k_X0_goOn (κ : Kp) (xa : Nat → Nat → Nat) (X : XS) (o : Nat) (ho : o < 12) (n : Int) (hn : (0 ≤ n ∧ n ≤ 1000) ∧ (X o) 4 0 + n ≤ 1000000) (ok : okC (cl (X o))) : mV κ yX0_goOn cX0_goOn 4 3 [.ref (xa o 100), .int (iI n)] (xw κ xa X) (is0 (xw κ xa (setO X o (stC (X o) (goI n (cl (X o))))))) := by
  have h := kS_X0_goOn κ xa X o ho (X o) n hn ok
  rw [setO_self] at h
  exact h
theorem dX0_yearsToHole_0 : decode cX0_yearsToHole 0 = .ok (.iload_n 2, 1) := by decide +kernel
theorem dX0_yearsToHole_1 : decode cX0_yearsToHole 1 = .ok (.istore_n 3, 1) := by decide +kernel
theorem dX0_yearsToHole_2 : decode cX0_yearsToHole 2 = .ok (.iload_n 3, 1) := by decide +kernel
theorem dX0_yearsToHole_3 : decode cX0_yearsToHole 3 = .ok (.bipush 60, 2) := by decide +kernel
theorem dX0_yearsToHole_5 : decode cX0_yearsToHole 5 = .ok (.if_icmp .gt 25, 3) := by decide +kernel
theorem dX0_yearsToHole_8 : decode cX0_yearsToHole 8 = .ok (.aload_n 0, 1) := by decide +kernel
theorem dX0_yearsToHole_9 : decode cX0_yearsToHole 9 = .ok (.invokevirtual 80, 3) := by decide +kernel
theorem dX0_yearsToHole_12 : decode cX0_yearsToHole 12 = .ok (.iload_n 1, 1) := by decide +kernel
theorem dX0_yearsToHole_13 : decode cX0_yearsToHole 13 = .ok (.iand, 1) := by decide +kernel
theorem dX0_yearsToHole_14 : decode cX0_yearsToHole 14 = .ok (.ifCond .eq 5, 3) := by decide +kernel
theorem dX0_yearsToHole_17 : decode cX0_yearsToHole 17 = .ok (.iload_n 3, 1) := by decide +kernel
theorem dX0_yearsToHole_18 : decode cX0_yearsToHole 18 = .ok (.ireturn, 1) := by decide +kernel
theorem dX0_yearsToHole_19 : decode cX0_yearsToHole 19 = .ok (.aload_n 0, 1) := by decide +kernel
theorem dX0_yearsToHole_20 : decode cX0_yearsToHole 20 = .ok (.iconst 1, 1) := by decide +kernel
theorem dX0_yearsToHole_21 : decode cX0_yearsToHole 21 = .ok (.invokevirtual 84, 3) := by decide +kernel
theorem dX0_yearsToHole_24 : decode cX0_yearsToHole 24 = .ok (.iinc 3 1, 3) := by decide +kernel
theorem dX0_yearsToHole_27 : decode cX0_yearsToHole 27 = .ok (.goto (-25), 3) := by decide +kernel
theorem dX0_yearsToHole_30 : decode cX0_yearsToHole 30 = .ok (.bipush 61, 2) := by decide +kernel
theorem dX0_yearsToHole_32 : decode cX0_yearsToHole 32 = .ok (.ireturn, 1) := by decide +kernel
set_option maxRecDepth 100000 in
set_option maxHeartbeats 4000000 in
theorem kS_X0_yearsToHole (κ : Kp) (xa : Nat → Nat → Nat) (X : XS) (o : Nat) (ho : o < 12) (C : MS) (m : Int) (s : Int)  (hm : (0 ≤ m ∧ m ≤ 4095) ∧ 0 ≤ s ∧ s ≤ 60) (hy : C 4 0 ≤ 990000) (ok : okC (cl C)) : mI κ yX0_yearsToHole cX0_yearsToHole 4 .int 4 [.ref (xa o 100), .int (iI m), .int (iI s)] (xw κ xa (setO X o C)) (is1 (iI (ythI (cl C) m s)) (xw κ xa (setO X o (stC C (goI (ythI (cl C) m s - s) (cl C)))))) := by
  refine mI_of (by decide) (Nat.le_of_ble_eq_true rfl) (fun E F K => ?_)
  refine g_lv (lv' := [(0, .ref (xa o 100)), (1, .int (iI m)), (2, .int (iI s))]) rfl ?_
  refine g_iload_n F 2 dX0_yearsToHole_0 rfl ?_
  refine g_istore_n F (lv' := [(3, .int (iI s)), (0, .ref (xa o 100)), (1, .int (iI m)), (2, .int (iI s))]) 3 dX0_yearsToHole_1 rfl (by decide) rfl ?_
  have L2 : ∀ (mz2 : Nat) (n : Int), (61 - n).toNat = mz2 → (s ≤ n ∧ n ≤ 61) → (ythI (goI (n - s) (cl C)) m n = ythI (cl C) m s) → G E (xw κ xa (setO X o (stC C (goI (n - s) (cl C))))) [(3, .int (iI n)), (0, .ref (xa o 100)), (1, .int (iI m))] 2 [] := by
    intro mz2
    induction mz2 using Nat.strongRecOn with
    | _ mz2 ih2 =>
    intro n hmz2 hn hR
    refine g_iload_n F 0 dX0_yearsToHole_2 rfl ?_
    refine g_bipush F dX0_yearsToHole_3 (by decide +kernel) ?_
    refine g_icmp_gt F 30 (by omega) dX0_yearsToHole_5 (by decide) (fun c5 => ?_) (fun c5 => ?_)
    · skip
      have hq : (61 : Int) = ythI (cl C) m s := by rw [← hR, show n = 61 by omega]; rfl
      refine g_bipush F dX0_yearsToHole_30 (by decide +kernel) ?_
      exact K xw_same ⟨iIc hq, by rw [← hq, show n = 61 by omega]⟩ rfl dX0_yearsToHole_32
    · skip
      have hyn : yr (goI (n - s) (cl C)) + 1 ≤ 1000000 := by have e := goI_yr (C := cl C) (n := n - s) (by omega); have e2 : yr (cl C) = C 4 0 := rfl; omega
      have hhb : 0 ≤ hbits (goI (n - s) (cl C)) ∧ hbits (goI (n - s) (cl C)) < 4096 := hbits_bd _ (n := 12) (by decide)
      have hba : 0 ≤ band (hbits (goI (n - s) (cl C))) m ∧ band (hbits (goI (n - s) (cl C))) m ≤ hbits (goI (n - s) (cl C)) := ⟨band_bd _ _, band_le hhb.1⟩
      refine g_aload_n F 1 dX0_yearsToHole_8 rfl ?_
      refine g_callI F (stk := [.ref (xa o 100)]) (st := []) (kS_X0_holeBits κ xa X o ho (stC C (goI (n - s) (cl C))) (goI_ok ok _)) cal_X0_holeBits lm_X0_80 (5 * o + 0) (xc_obj ho) rfl rfl rfl (by decide) rfl (Nat.le_of_ble_eq_true rfl) dX0_yearsToHole_9 (fun r9 ws9 _ hr9 => ?_)
      obtain ⟨rfl, rfl⟩ := hr9
      refine g_top (y := iI (hbits (goI (n - s) (cl C)))) rfl ?_
      refine g_top (y := iI (hbits (goI (n - s) (cl C)))) rfl ?_
      refine g_iload_n F 2 dX0_yearsToHole_12 rfl ?_
      refine g_iand F dX0_yearsToHole_13 ?_
      refine g_top (y := iI (band (hbits (goI (n - s) (cl C))) m)) (iI_band hhb.1 (by omega)) ?_
      refine g_if_eq F 19 (by omega) dX0_yearsToHole_14 (by decide) (fun c14 => ?_) (fun c14 => ?_)
      · skip
        refine g_aload_n F 1 dX0_yearsToHole_19 rfl ?_
        refine g_iconst F dX0_yearsToHole_20 ?_
        refine g_callV F (stk := [.int (iI 1), .ref (xa o 100)]) (st := []) (kS_X0_goOn κ xa X o ho (stC C (goI (n - s) (cl C))) 1 ⟨by omega, hyn⟩ (goI_ok ok _)) cal_X0_goOn lm_X0_84 (5 * o + 0) (xc_obj ho) rfl rfl rfl (by decide) rfl (Nat.le_of_ble_eq_true rfl) dX0_yearsToHole_21 (fun ws21 _ hr21 => ?_)
        obtain rfl := hr21
        refine g_iinc F (lv' := [(3, .int (iI (n + 1))), (0, .ref (xa o 100)), (1, .int (iI m))]) 0 dX0_yearsToHole_24 rfl (by decide) rfl ?_
        refine g_goto F 2 dX0_yearsToHole_27 (by decide) ?_
        refine g_sub F (lv' := [(3, .int (iI (n + 1))), (0, .ref (xa o 100)), (1, .int (iI m))]) [0, 1, 2] rfl ?_
        refine g_ws (ws' := xw κ xa (setO X o (stC C (goI ((n + 1) - s) (cl C))))) (by rw [show n + 1 - s = (n - s) + 1 by omega, goI_s (by omega)]; exact xc_ext ho rfl) ?_
        exact ih2 _ (by omega) (n + 1) rfl (by omega) (by rw [← hR, yth_s (n := n) (by omega), if_pos c14, show n + 1 - s = (n - s) + 1 by omega, goI_s (by omega)])
      · skip
        refine g_iload_n F 0 dX0_yearsToHole_17 rfl ?_
        have hq : n = ythI (cl C) m s := by rw [← hR, yth_s (by omega), if_neg c14]
        exact K xw_same ⟨iIc hq, by rw [← hq]⟩ rfl dX0_yearsToHole_18
  refine g_sub F (lv' := [(3, .int (iI s)), (0, .ref (xa o 100)), (1, .int (iI m))]) [0, 1, 2] rfl ?_
  refine g_ws (ws' := xw κ xa (setO X o (stC C (goI (s - s) (cl C))))) (by rw [show s - s = 0 by omega]; exact xc_ext ho rfl) ?_
  exact L2 _ s rfl (by omega) (by rw [show s - s = 0 by omega, goI_0])
theorem k_X0_yearsToHole (κ : Kp) (xa : Nat → Nat → Nat) (X : XS) (o : Nat) (ho : o < 12) (m : Int) (s : Int) (hm : (0 ≤ m ∧ m ≤ 4095) ∧ 0 ≤ s ∧ s ≤ 60) (hy : (X o) 4 0 ≤ 990000) (ok : okC (cl (X o))) : mI κ yX0_yearsToHole cX0_yearsToHole 4 .int 4 [.ref (xa o 100), .int (iI m), .int (iI s)] (xw κ xa X) (is1 (iI (ythI (cl (X o)) m s)) (xw κ xa (setO X o (stC (X o) (goI (ythI (cl (X o)) m s - s) (cl (X o))))))) := by
  have h := kS_X0_yearsToHole κ xa X o ho (X o) m s hm hy ok
  rw [setO_self] at h
  exact h
theorem dX0_moreWorn_0 : decode cX0_moreWorn 0 = .ok (.iconst 0, 1) := by decide +kernel
theorem dX0_moreWorn_1 : decode cX0_moreWorn 1 = .ok (.istore_n 2, 1) := by decide +kernel
theorem dX0_moreWorn_2 : decode cX0_moreWorn 2 = .ok (.iconst 0, 1) := by decide +kernel
theorem dX0_moreWorn_3 : decode cX0_moreWorn 3 = .ok (.istore_n 3, 1) := by decide +kernel
theorem dX0_moreWorn_4 : decode cX0_moreWorn 4 = .ok (.iload_n 3, 1) := by decide +kernel
theorem dX0_moreWorn_5 : decode cX0_moreWorn 5 = .ok (.bipush 12, 2) := by decide +kernel
theorem dX0_moreWorn_7 : decode cX0_moreWorn 7 = .ok (.if_icmp .ge 47, 3) := by decide +kernel
theorem dX0_moreWorn_10 : decode cX0_moreWorn 10 = .ok (.aload_n 0, 1) := by decide +kernel
theorem dX0_moreWorn_11 : decode cX0_moreWorn 11 = .ok (.getfield 21, 3) := by decide +kernel
theorem dX0_moreWorn_14 : decode cX0_moreWorn 14 = .ok (.iload_n 3, 1) := by decide +kernel
theorem dX0_moreWorn_15 : decode cX0_moreWorn 15 = .ok (.iaload, 1) := by decide +kernel
theorem dX0_moreWorn_16 : decode cX0_moreWorn 16 = .ok (.aload_n 0, 1) := by decide +kernel
theorem dX0_moreWorn_17 : decode cX0_moreWorn 17 = .ok (.getfield 21, 3) := by decide +kernel
theorem dX0_moreWorn_20 : decode cX0_moreWorn 20 = .ok (.iload_n 1, 1) := by decide +kernel
theorem dX0_moreWorn_21 : decode cX0_moreWorn 21 = .ok (.iaload, 1) := by decide +kernel
theorem dX0_moreWorn_22 : decode cX0_moreWorn 22 = .ok (.if_icmp .gt 23, 3) := by decide +kernel
theorem dX0_moreWorn_25 : decode cX0_moreWorn 25 = .ok (.aload_n 0, 1) := by decide +kernel
theorem dX0_moreWorn_26 : decode cX0_moreWorn 26 = .ok (.getfield 21, 3) := by decide +kernel
theorem dX0_moreWorn_29 : decode cX0_moreWorn 29 = .ok (.iload_n 3, 1) := by decide +kernel
theorem dX0_moreWorn_30 : decode cX0_moreWorn 30 = .ok (.iaload, 1) := by decide +kernel
theorem dX0_moreWorn_31 : decode cX0_moreWorn 31 = .ok (.aload_n 0, 1) := by decide +kernel
theorem dX0_moreWorn_32 : decode cX0_moreWorn 32 = .ok (.getfield 21, 3) := by decide +kernel
theorem dX0_moreWorn_35 : decode cX0_moreWorn 35 = .ok (.iload_n 1, 1) := by decide +kernel
theorem dX0_moreWorn_36 : decode cX0_moreWorn 36 = .ok (.iaload, 1) := by decide +kernel
theorem dX0_moreWorn_37 : decode cX0_moreWorn 37 = .ok (.if_icmp .ne 11, 3) := by decide +kernel
theorem dX0_moreWorn_40 : decode cX0_moreWorn 40 = .ok (.iload_n 3, 1) := by decide +kernel
theorem dX0_moreWorn_41 : decode cX0_moreWorn 41 = .ok (.iload_n 1, 1) := by decide +kernel
theorem dX0_moreWorn_42 : decode cX0_moreWorn 42 = .ok (.if_icmp .ge 6, 3) := by decide +kernel
theorem dX0_moreWorn_45 : decode cX0_moreWorn 45 = .ok (.iinc 2 1, 3) := by decide +kernel
theorem dX0_moreWorn_48 : decode cX0_moreWorn 48 = .ok (.iinc 3 1, 3) := by decide +kernel
theorem dX0_moreWorn_51 : decode cX0_moreWorn 51 = .ok (.goto (-47), 3) := by decide +kernel
theorem dX0_moreWorn_54 : decode cX0_moreWorn 54 = .ok (.iload_n 2, 1) := by decide +kernel
theorem dX0_moreWorn_55 : decode cX0_moreWorn 55 = .ok (.ireturn, 1) := by decide +kernel
set_option maxRecDepth 100000 in
set_option maxHeartbeats 4000000 in
theorem kS_X0_moreWorn (κ : Kp) (xa : Nat → Nat → Nat) (X : XS) (o : Nat) (ho : o < 12) (C : MS) (c : Int)  (h0 : 0 ≤ c ∧ c < 12) (hwe : ∀ j : Int, 0 ≤ j → j < 12 → 0 ≤ C 3 j ∧ C 3 j ≤ 99) : mI κ yX0_moreWorn cX0_moreWorn 4 .int 0 [.ref (xa o 100), .int (iI c)] (xw κ xa (setO X o C)) (is1 (iI (rnk (C 3) c)) (xw κ xa (setO X o C))) := by
  refine mI_of (by decide) (Nat.le_of_ble_eq_true rfl) (fun E F K => ?_)
  refine g_lv (lv' := [(0, .ref (xa o 100)), (1, .int (iI c))]) rfl ?_
  refine g_iconst F dX0_moreWorn_0 ?_
  refine g_istore_n F (lv' := [(2, .int (iI 0)), (0, .ref (xa o 100)), (1, .int (iI c))]) 2 dX0_moreWorn_1 rfl (by decide) rfl ?_
  refine g_iconst F dX0_moreWorn_2 ?_
  refine g_istore_n F (lv' := [(3, .int (iI 0)), (2, .int (iI 0)), (0, .ref (xa o 100)), (1, .int (iI c))]) 3 dX0_moreWorn_3 rfl (by decide) rfl ?_
  have L4 : ∀ (mz4 : Nat) (p : Int) (a : Int), (12 - p).toNat = mz4 → (0 ≤ p ∧ p ≤ 12) → (a = sumI (rk1 (C 3) c) p) → G E (xw κ xa (setO X o C)) [(3, .int (iI p)), (2, .int (iI a)), (0, .ref (xa o 100)), (1, .int (iI c))] 4 [] := by
    intro mz4
    induction mz4 using Nat.strongRecOn with
    | _ mz4 ih4 =>
    intro p a hmz4 hp ha
    refine g_iload_n F 0 dX0_moreWorn_4 rfl ?_
    refine g_bipush F dX0_moreWorn_5 (by decide +kernel) ?_
    refine g_icmp_ge F 54 (by omega) dX0_moreWorn_7 (by decide) (fun c7 => ?_) (fun c7 => ?_)
    · skip
      refine g_iload_n F 1 dX0_moreWorn_54 rfl ?_
      exact K xw_same ⟨congrArg iI (show a = rnk (C 3) c from by rw [ha, show p = 12 by omega]; rfl), rfl⟩ rfl dX0_moreWorn_55
    · skip
      have h1 := hwe p hp.1 (by omega)
      have h2 := hwe c h0.1 h0.2
      refine g_aload_n F 2 dX0_moreWorn_10 rfl ?_
      refine gcS_get_3 F ho lf_X0_21 dX0_moreWorn_11 ?_
      refine g_iload_n F 0 dX0_moreWorn_14 rfl ?_
      refine gcS_ald_3 F ho (by omega) dX0_moreWorn_15 ?_
      refine g_top (y := iI (C 3 p)) rfl ?_
      refine g_aload_n F 2 dX0_moreWorn_16 rfl ?_
      refine gcS_get_3 F ho lf_X0_21 dX0_moreWorn_17 ?_
      refine g_iload_n F 3 dX0_moreWorn_20 rfl ?_
      refine gcS_ald_3 F ho (by omega) dX0_moreWorn_21 ?_
      refine g_top (y := iI (C 3 c)) rfl ?_
      refine g_icmp_gt F 45 (by omega) dX0_moreWorn_22 (by decide) (fun c22 => ?_) (fun c22 => ?_)
      · skip
        refine g_iinc F (lv' := [(2, .int (iI (a + 1))), (3, .int (iI p)), (0, .ref (xa o 100)), (1, .int (iI c))]) 1 dX0_moreWorn_45 rfl (by decide) rfl ?_
        refine g_iinc F (lv' := [(3, .int (iI (p + 1))), (2, .int (iI (a + 1))), (0, .ref (xa o 100)), (1, .int (iI c))]) 1 dX0_moreWorn_48 rfl (by decide) rfl ?_
        refine g_goto F 4 dX0_moreWorn_51 (by decide) ?_
        refine g_sub F (lv' := [(3, .int (iI (p + 1))), (2, .int (iI (a + 1))), (0, .ref (xa o 100)), (1, .int (iI c))]) [0, 1, 2, 3] rfl ?_
        exact ih4 _ (by omega) (p + 1) (a + 1) rfl (by omega) (by rw [sumI_s _ hp.1, ← ha]; unfold rk1; split <;> omega)
      · skip
        refine g_aload_n F 2 dX0_moreWorn_25 rfl ?_
        refine gcS_get_3 F ho lf_X0_21 dX0_moreWorn_26 ?_
        refine g_iload_n F 0 dX0_moreWorn_29 rfl ?_
        refine gcS_ald_3 F ho (by omega) dX0_moreWorn_30 ?_
        refine g_top (y := iI (C 3 p)) rfl ?_
        refine g_aload_n F 2 dX0_moreWorn_31 rfl ?_
        refine gcS_get_3 F ho lf_X0_21 dX0_moreWorn_32 ?_
        refine g_iload_n F 3 dX0_moreWorn_35 rfl ?_
        refine gcS_ald_3 F ho (by omega) dX0_moreWorn_36 ?_
        refine g_top (y := iI (C 3 c)) rfl ?_
        refine g_icmp_ne F 48 (by omega) dX0_moreWorn_37 (by decide) (fun c37 => ?_) (fun c37 => ?_)
        · skip
          refine g_iinc F (lv' := [(3, .int (iI (p + 1))), (2, .int (iI a)), (0, .ref (xa o 100)), (1, .int (iI c))]) 0 dX0_moreWorn_48 rfl (by decide) rfl ?_
          refine g_goto F 4 dX0_moreWorn_51 (by decide) ?_
          refine g_sub F (lv' := [(3, .int (iI (p + 1))), (2, .int (iI a)), (0, .ref (xa o 100)), (1, .int (iI c))]) [0, 1, 2, 3] rfl ?_
          exact ih4 _ (by omega) (p + 1) a rfl (by omega) (by rw [sumI_s _ hp.1, ← ha]; unfold rk1; split <;> omega)
        · skip
          refine g_iload_n F 0 dX0_moreWorn_40 rfl ?_
          refine g_iload_n F 3 dX0_moreWorn_41 rfl ?_
          refine g_icmp_ge F 48 (by omega) dX0_moreWorn_42 (by decide) (fun c42 => ?_) (fun c42 => ?_)
          · skip
            refine g_iinc F (lv' := [(3, .int (iI (p + 1))), (2, .int (iI a)), (0, .ref (xa o 100)), (1, .int (iI c))]) 0 dX0_moreWorn_48 rfl (by decide) rfl ?_
            refine g_goto F 4 dX0_moreWorn_51 (by decide) ?_
            refine g_sub F (lv' := [(3, .int (iI (p + 1))), (2, .int (iI a)), (0, .ref (xa o 100)), (1, .int (iI c))]) [0, 1, 2, 3] rfl ?_
            exact ih4 _ (by omega) (p + 1) a rfl (by omega) (by rw [sumI_s _ hp.1, ← ha]; unfold rk1; split <;> omega)
          · skip
            refine g_iinc F (lv' := [(2, .int (iI (a + 1))), (3, .int (iI p)), (0, .ref (xa o 100)), (1, .int (iI c))]) 1 dX0_moreWorn_45 rfl (by decide) rfl ?_
            refine g_iinc F (lv' := [(3, .int (iI (p + 1))), (2, .int (iI (a + 1))), (0, .ref (xa o 100)), (1, .int (iI c))]) 1 dX0_moreWorn_48 rfl (by decide) rfl ?_
            refine g_goto F 4 dX0_moreWorn_51 (by decide) ?_
            refine g_sub F (lv' := [(3, .int (iI (p + 1))), (2, .int (iI (a + 1))), (0, .ref (xa o 100)), (1, .int (iI c))]) [0, 1, 2, 3] rfl ?_
            exact ih4 _ (by omega) (p + 1) (a + 1) rfl (by omega) (by rw [sumI_s _ hp.1, ← ha]; unfold rk1; split <;> omega)
  refine g_sub F (lv' := [(3, .int (iI 0)), (2, .int (iI 0)), (0, .ref (xa o 100)), (1, .int (iI c))]) [0, 1, 2, 3] rfl ?_
  exact L4 _ 0 0 rfl (by omega) (sumI_0 _).symm
theorem k_X0_moreWorn (κ : Kp) (xa : Nat → Nat → Nat) (X : XS) (o : Nat) (ho : o < 12) (c : Int) (h0 : 0 ≤ c ∧ c < 12) (hwe : ∀ j : Int, 0 ≤ j → j < 12 → 0 ≤ (X o) 3 j ∧ (X o) 3 j ≤ 99) : mI κ yX0_moreWorn cX0_moreWorn 4 .int 0 [.ref (xa o 100), .int (iI c)] (xw κ xa X) (is1 (iI (rnk ((X o) 3) c)) (xw κ xa X)) := by
  have h := kS_X0_moreWorn κ xa X o ho (X o) c h0 hwe
  rw [setO_self] at h
  exact h
theorem dX0_risingFrom_0 : decode cX0_risingFrom 0 = .ok (.iconst 1, 1) := by decide +kernel
theorem dX0_risingFrom_1 : decode cX0_risingFrom 1 = .ok (.istore_n 2, 1) := by decide +kernel
theorem dX0_risingFrom_2 : decode cX0_risingFrom 2 = .ok (.iload_n 1, 1) := by decide +kernel
theorem dX0_risingFrom_3 : decode cX0_risingFrom 3 = .ok (.iconst 1, 1) := by decide +kernel
theorem dX0_risingFrom_4 : decode cX0_risingFrom 4 = .ok (.iadd, 1) := by decide +kernel
theorem dX0_risingFrom_5 : decode cX0_risingFrom 5 = .ok (.istore_n 3, 1) := by decide +kernel
theorem dX0_risingFrom_6 : decode cX0_risingFrom 6 = .ok (.iload_n 3, 1) := by decide +kernel
theorem dX0_risingFrom_7 : decode cX0_risingFrom 7 = .ok (.bipush 12, 2) := by decide +kernel
theorem dX0_risingFrom_9 : decode cX0_risingFrom 9 = .ok (.if_icmp .ge 37, 3) := by decide +kernel
theorem dX0_risingFrom_12 : decode cX0_risingFrom 12 = .ok (.iload_n 3, 1) := by decide +kernel
theorem dX0_risingFrom_13 : decode cX0_risingFrom 13 = .ok (.iconst 4, 1) := by decide +kernel
theorem dX0_risingFrom_14 : decode cX0_risingFrom 14 = .ok (.irem, 1) := by decide +kernel
theorem dX0_risingFrom_15 : decode cX0_risingFrom 15 = .ok (.ifCond .eq 31, 3) := by decide +kernel
theorem dX0_risingFrom_18 : decode cX0_risingFrom 18 = .ok (.aload_n 0, 1) := by decide +kernel
theorem dX0_risingFrom_19 : decode cX0_risingFrom 19 = .ok (.getfield 18, 3) := by decide +kernel
theorem dX0_risingFrom_22 : decode cX0_risingFrom 22 = .ok (.iload_n 3, 1) := by decide +kernel
theorem dX0_risingFrom_23 : decode cX0_risingFrom 23 = .ok (.iaload, 1) := by decide +kernel
theorem dX0_risingFrom_24 : decode cX0_risingFrom 24 = .ok (.aload_n 0, 1) := by decide +kernel
theorem dX0_risingFrom_25 : decode cX0_risingFrom 25 = .ok (.getfield 18, 3) := by decide +kernel
theorem dX0_risingFrom_28 : decode cX0_risingFrom 28 = .ok (.iload_n 3, 1) := by decide +kernel
theorem dX0_risingFrom_29 : decode cX0_risingFrom 29 = .ok (.iconst 1, 1) := by decide +kernel
theorem dX0_risingFrom_30 : decode cX0_risingFrom 30 = .ok (.isub, 1) := by decide +kernel
theorem dX0_risingFrom_31 : decode cX0_risingFrom 31 = .ok (.iaload, 1) := by decide +kernel
theorem dX0_risingFrom_32 : decode cX0_risingFrom 32 = .ok (.if_icmp .ge 5, 3) := by decide +kernel
theorem dX0_risingFrom_35 : decode cX0_risingFrom 35 = .ok (.iload_n 2, 1) := by decide +kernel
theorem dX0_risingFrom_36 : decode cX0_risingFrom 36 = .ok (.ireturn, 1) := by decide +kernel
theorem dX0_risingFrom_37 : decode cX0_risingFrom 37 = .ok (.iinc 2 1, 3) := by decide +kernel
theorem dX0_risingFrom_40 : decode cX0_risingFrom 40 = .ok (.iinc 3 1, 3) := by decide +kernel
theorem dX0_risingFrom_43 : decode cX0_risingFrom 43 = .ok (.goto (-37), 3) := by decide +kernel
theorem dX0_risingFrom_46 : decode cX0_risingFrom 46 = .ok (.iload_n 2, 1) := by decide +kernel
theorem dX0_risingFrom_47 : decode cX0_risingFrom 47 = .ok (.ireturn, 1) := by decide +kernel
set_option maxRecDepth 100000 in
set_option maxHeartbeats 4000000 in
theorem kS_X0_risingFrom (κ : Kp) (xa : Nat → Nat → Nat) (X : XS) (o : Nat) (ho : o < 12) (C : MS) (c : Int)  (h0 : 0 ≤ c ∧ c < 12) (hag : ∀ j : Int, 0 ≤ j → j < 12 → 0 ≤ C 2 j ∧ C 2 j ≤ 99) : mI κ yX0_risingFrom cX0_risingFrom 4 .int 0 [.ref (xa o 100), .int (iI c)] (xw κ xa (setO X o C)) (is1 (iI (rising (C 2) c)) (xw κ xa (setO X o C))) := by
  refine mI_of (by decide) (Nat.le_of_ble_eq_true rfl) (fun E F K => ?_)
  refine g_lv (lv' := [(0, .ref (xa o 100)), (1, .int (iI c))]) rfl ?_
  refine g_iconst F dX0_risingFrom_0 ?_
  refine g_istore_n F (lv' := [(2, .int (iI 1)), (0, .ref (xa o 100)), (1, .int (iI c))]) 2 dX0_risingFrom_1 rfl (by decide) rfl ?_
  refine g_iload_n F 2 dX0_risingFrom_2 rfl ?_
  refine g_iconst F dX0_risingFrom_3 ?_
  refine g_iadd F dX0_risingFrom_4 ?_
  refine g_istore_n F (lv' := [(3, .int (iI (c + 1))), (2, .int (iI 1)), (0, .ref (xa o 100)), (1, .int (iI c))]) 3 dX0_risingFrom_5 rfl (by decide) rfl ?_
  have L6 : ∀ (mz6 : Nat) (p : Int) (l : Int), (12 - p).toNat = mz6 → (1 ≤ p ∧ p ≤ 12) → (riseI (C 2) p l = rising (C 2) c) → G E (xw κ xa (setO X o C)) [(3, .int (iI p)), (2, .int (iI l)), (0, .ref (xa o 100)), (1, .int (iI c))] 6 [] := by
    intro mz6
    induction mz6 using Nat.strongRecOn with
    | _ mz6 ih6 =>
    intro p l hmz6 hp hl
    refine g_iload_n F 0 dX0_risingFrom_6 rfl ?_
    refine g_bipush F dX0_risingFrom_7 (by decide +kernel) ?_
    refine g_icmp_ge F 46 (by omega) dX0_risingFrom_9 (by decide) (fun c9 => ?_) (fun c9 => ?_)
    · skip
      refine g_iload_n F 1 dX0_risingFrom_46 rfl ?_
      exact K xw_same ⟨congrArg iI (show l = rising (C 2) c from by rw [← hl, riseI_s _ (by omega), if_neg (by omega)]), rfl⟩ rfl dX0_risingFrom_47
    · skip
      refine g_iload_n F 0 dX0_risingFrom_12 rfl ?_
      refine g_iconst F dX0_risingFrom_13 ?_
      refine g_irem F dX0_risingFrom_14 (by omega) ?_
      refine g_if_eq F 46 (by omega) dX0_risingFrom_15 (by decide) (fun c15 => ?_) (fun c15 => ?_)
      · skip
        refine g_iload_n F 1 dX0_risingFrom_46 rfl ?_
        exact K xw_same ⟨congrArg iI (show l = rising (C 2) c from by rw [← hl, riseI_s _ (by omega), if_neg (by omega)]), rfl⟩ rfl dX0_risingFrom_47
      · skip
        have h1 := hag p (by omega) (by omega)
        have h2 := hag (p - 1) (by omega) (by omega)
        refine g_aload_n F 2 dX0_risingFrom_18 rfl ?_
        refine gcS_get_2 F ho lf_X0_18 dX0_risingFrom_19 ?_
        refine g_iload_n F 0 dX0_risingFrom_22 rfl ?_
        refine gcS_ald_2 F ho (by omega) dX0_risingFrom_23 ?_
        refine g_top (y := iI (C 2 p)) rfl ?_
        refine g_aload_n F 2 dX0_risingFrom_24 rfl ?_
        refine gcS_get_2 F ho lf_X0_18 dX0_risingFrom_25 ?_
        refine g_iload_n F 0 dX0_risingFrom_28 rfl ?_
        refine g_iconst F dX0_risingFrom_29 ?_
        refine g_isub F dX0_risingFrom_30 ?_
        refine gcS_ald_2 F ho (by omega) dX0_risingFrom_31 ?_
        refine g_top (y := iI (C 2 (p - 1))) rfl ?_
        refine g_icmp_ge F 37 (by omega) dX0_risingFrom_32 (by decide) (fun c32 => ?_) (fun c32 => ?_)
        · skip
          refine g_iinc F (lv' := [(2, .int (iI (l + 1))), (3, .int (iI p)), (0, .ref (xa o 100)), (1, .int (iI c))]) 1 dX0_risingFrom_37 rfl (by decide) rfl ?_
          refine g_iinc F (lv' := [(3, .int (iI (p + 1))), (2, .int (iI (l + 1))), (0, .ref (xa o 100)), (1, .int (iI c))]) 1 dX0_risingFrom_40 rfl (by decide) rfl ?_
          refine g_goto F 6 dX0_risingFrom_43 (by decide) ?_
          refine g_sub F (lv' := [(3, .int (iI (p + 1))), (2, .int (iI (l + 1))), (0, .ref (xa o 100)), (1, .int (iI c))]) [0, 1, 2, 3] rfl ?_
          exact ih6 _ (by omega) (p + 1) (l + 1) rfl (by omega) (by rw [← hl, riseI_s (C 2) (p := p) (l := l) (by omega), if_pos ⟨by omega, by omega, by omega⟩])
        · skip
          refine g_iload_n F 1 dX0_risingFrom_35 rfl ?_
          exact K xw_same ⟨congrArg iI (show l = rising (C 2) c from by rw [← hl, riseI_s _ (by omega), if_neg (by omega)]), rfl⟩ rfl dX0_risingFrom_36
  refine g_sub F (lv' := [(3, .int (iI (c + 1))), (2, .int (iI 1)), (0, .ref (xa o 100)), (1, .int (iI c))]) [0, 1, 2, 3] rfl ?_
  exact L6 _ (c + 1) 1 rfl (by omega) rfl
theorem k_X0_risingFrom (κ : Kp) (xa : Nat → Nat → Nat) (X : XS) (o : Nat) (ho : o < 12) (c : Int) (h0 : 0 ≤ c ∧ c < 12) (hag : ∀ j : Int, 0 ≤ j → j < 12 → 0 ≤ (X o) 2 j ∧ (X o) 2 j ≤ 99) : mI κ yX0_risingFrom cX0_risingFrom 4 .int 0 [.ref (xa o 100), .int (iI c)] (xw κ xa X) (is1 (iI (rising ((X o) 2) c)) (xw κ xa X)) := by
  have h := kS_X0_risingFrom κ xa X o ho (X o) c h0 hag
  rw [setO_self] at h
  exact h
theorem dX0_make_0 : decode cX0_make 0 = .ok (.aload_n 0, 1) := by decide +kernel
theorem dX0_make_1 : decode cX0_make 1 = .ok (.getfield 9, 3) := by decide +kernel
theorem dX0_make_4 : decode cX0_make 4 = .ok (.iload_n 1, 1) := by decide +kernel
theorem dX0_make_5 : decode cX0_make 5 = .ok (.iload_n 2, 1) := by decide +kernel
theorem dX0_make_6 : decode cX0_make 6 = .ok (.iastore, 1) := by decide +kernel
theorem dX0_make_7 : decode cX0_make 7 = .ok (.aload_n 0, 1) := by decide +kernel
theorem dX0_make_8 : decode cX0_make 8 = .ok (.getfield 15, 3) := by decide +kernel
theorem dX0_make_11 : decode cX0_make 11 = .ok (.iload_n 1, 1) := by decide +kernel
theorem dX0_make_12 : decode cX0_make 12 = .ok (.iload_n 3, 1) := by decide +kernel
theorem dX0_make_13 : decode cX0_make 13 = .ok (.iastore, 1) := by decide +kernel
theorem dX0_make_14 : decode cX0_make 14 = .ok (.aload_n 0, 1) := by decide +kernel
theorem dX0_make_15 : decode cX0_make 15 = .ok (.getfield 18, 3) := by decide +kernel
theorem dX0_make_18 : decode cX0_make 18 = .ok (.iload_n 1, 1) := by decide +kernel
theorem dX0_make_19 : decode cX0_make 19 = .ok (.iload 4, 2) := by decide +kernel
theorem dX0_make_21 : decode cX0_make 21 = .ok (.iastore, 1) := by decide +kernel
theorem dX0_make_22 : decode cX0_make 22 = .ok (.aload_n 0, 1) := by decide +kernel
theorem dX0_make_23 : decode cX0_make 23 = .ok (.getfield 21, 3) := by decide +kernel
theorem dX0_make_26 : decode cX0_make 26 = .ok (.iload_n 1, 1) := by decide +kernel
theorem dX0_make_27 : decode cX0_make 27 = .ok (.iconst 0, 1) := by decide +kernel
theorem dX0_make_28 : decode cX0_make 28 = .ok (.iastore, 1) := by decide +kernel
theorem dX0_make_29 : decode cX0_make 29 = .ok (.return_, 1) := by decide +kernel
set_option maxRecDepth 100000 in
set_option maxHeartbeats 4000000 in
theorem kS_X0_make (κ : Kp) (xa : Nat → Nat → Nat) (X : XS) (o : Nat) (ho : o < 12) (C : MS) (c : Int) (k : Int) (f : Int) (a : Int)  (h0 : 0 ≤ c ∧ c < 12) : mV κ yX0_make cX0_make 5 0 [.ref (xa o 100), .int (iI c), .int (iI k), .int (iI f), .int (iI a)] (xw κ xa (setO X o C)) (is0 (xw κ xa (setO X o (stC C (make (cl C) c k f a))))) := by
  refine mV_of (by decide) (Nat.le_of_ble_eq_true rfl) (fun E F K => ?_)
  refine g_lv (lv' := [(0, .ref (xa o 100)), (1, .int (iI c)), (2, .int (iI k)), (3, .int (iI f)), (4, .int (iI a))]) rfl ?_
  refine g_aload_n F 0 dX0_make_0 rfl ?_
  refine gcS_get_0 F ho lf_X0_9 dX0_make_1 ?_
  refine g_iload_n F 1 dX0_make_4 rfl ?_
  refine g_iload_n F 2 dX0_make_5 rfl ?_
  refine gcS_ast_0 F ho (by omega) dX0_make_6 ?_
  refine g_aload_n F 0 dX0_make_7 rfl ?_
  refine gcS_get_1 F ho lf_X0_15 dX0_make_8 ?_
  refine g_iload_n F 1 dX0_make_11 rfl ?_
  refine g_iload_n F 3 dX0_make_12 rfl ?_
  refine gcS_ast_1 F ho (by omega) dX0_make_13 ?_
  refine g_ws (ws' := xw κ xa (setO X o (mA (mA C 0 (uI (C 0) c k)) 1 (uI (C 1) c f)))) rfl ?_
  refine g_aload_n F 0 dX0_make_14 rfl ?_
  refine gcS_get_2 F ho lf_X0_18 dX0_make_15 ?_
  refine g_iload_n F 1 dX0_make_18 rfl ?_
  refine g_iload F 4 dX0_make_19 rfl ?_
  refine gcS_ast_2 F ho (by omega) dX0_make_21 ?_
  refine g_ws (ws' := xw κ xa (setO X o (mA (mA (mA C 0 (uI (C 0) c k)) 1 (uI (C 1) c f)) 2 (uI (C 2) c a)))) rfl ?_
  refine g_aload_n F 0 dX0_make_22 rfl ?_
  refine gcS_get_3 F ho lf_X0_21 dX0_make_23 ?_
  refine g_iload_n F 1 dX0_make_26 rfl ?_
  refine g_iconst F dX0_make_27 ?_
  refine gcS_ast_3 F ho (by omega) dX0_make_28 ?_
  refine g_ws (ws' := xw κ xa (setO X o (mA (mA (mA (mA C 0 (uI (C 0) c k)) 1 (uI (C 1) c f)) 2 (uI (C 2) c a)) 3 (uI (C 3) c 0)))) rfl ?_
  exact K xw_same (xc_ext ho rfl) dX0_make_29
theorem k_X0_make (κ : Kp) (xa : Nat → Nat → Nat) (X : XS) (o : Nat) (ho : o < 12) (c : Int) (k : Int) (f : Int) (a : Int) (h0 : 0 ≤ c ∧ c < 12) : mV κ yX0_make cX0_make 5 0 [.ref (xa o 100), .int (iI c), .int (iI k), .int (iI f), .int (iI a)] (xw κ xa X) (is0 (xw κ xa (setO X o (stC (X o) (make (cl (X o)) c k f a))))) := by
  have h := kS_X0_make κ xa X o ho (X o) c k f a h0
  rw [setO_self] at h
  exact h
theorem dX0_changeIn_0 : decode cX0_changeIn 0 = .ok (.aload_n 0, 1) := by decide +kernel
theorem dX0_changeIn_1 : decode cX0_changeIn 1 = .ok (.iload_n 1, 1) := by decide +kernel
theorem dX0_changeIn_2 : decode cX0_changeIn 2 = .ok (.iaload, 1) := by decide +kernel
theorem dX0_changeIn_3 : decode cX0_changeIn 3 = .ok (.istore_n 3, 1) := by decide +kernel
theorem dX0_changeIn_4 : decode cX0_changeIn 4 = .ok (.aload_n 0, 1) := by decide +kernel
theorem dX0_changeIn_5 : decode cX0_changeIn 5 = .ok (.iload_n 1, 1) := by decide +kernel
theorem dX0_changeIn_6 : decode cX0_changeIn 6 = .ok (.aload_n 0, 1) := by decide +kernel
theorem dX0_changeIn_7 : decode cX0_changeIn 7 = .ok (.iload_n 2, 1) := by decide +kernel
theorem dX0_changeIn_8 : decode cX0_changeIn 8 = .ok (.iaload, 1) := by decide +kernel
theorem dX0_changeIn_9 : decode cX0_changeIn 9 = .ok (.iastore, 1) := by decide +kernel
theorem dX0_changeIn_10 : decode cX0_changeIn 10 = .ok (.aload_n 0, 1) := by decide +kernel
theorem dX0_changeIn_11 : decode cX0_changeIn 11 = .ok (.iload_n 2, 1) := by decide +kernel
theorem dX0_changeIn_12 : decode cX0_changeIn 12 = .ok (.iload_n 3, 1) := by decide +kernel
theorem dX0_changeIn_13 : decode cX0_changeIn 13 = .ok (.iastore, 1) := by decide +kernel
theorem dX0_changeIn_14 : decode cX0_changeIn 14 = .ok (.return_, 1) := by decide +kernel
set_option maxRecDepth 100000 in
set_option maxHeartbeats 4000000 in
theorem kS_X0_changeIn_0 (κ : Kp) (xa : Nat → Nat → Nat) (X : XS) (o : Nat) (ho : o < 12) (C : MS) (a b : Int) (hab : (0 ≤ a ∧ a < 12) ∧ 0 ≤ b ∧ b < 12) : mV κ yX0_changeIn cX0_changeIn 4 0 [.ref (xa o 0), .int (iI a), .int (iI b)] (xw κ xa (setO X o C)) (is0 (xw κ xa (setO X o (mA C 0 (swf (C 0) a b))))) := by
  refine mV_of (by decide) (Nat.le_of_ble_eq_true rfl) (fun E F K => ?_)
  refine g_lv (lv' := [(0, .ref (xa o 0)), (1, .int (iI a)), (2, .int (iI b))]) rfl ?_
  refine g_aload_n F 0 dX0_changeIn_0 rfl ?_
  refine g_iload_n F 1 dX0_changeIn_1 rfl ?_
  refine gcS_ald_0 F ho (by omega) dX0_changeIn_2 ?_
  refine g_top (y := iI (C 0 a)) rfl ?_
  refine g_istore_n F (lv' := [(3, .int (iI (C 0 a))), (0, .ref (xa o 0)), (1, .int (iI a)), (2, .int (iI b))]) 3 dX0_changeIn_3 rfl (by decide) rfl ?_
  refine g_aload_n F 1 dX0_changeIn_4 rfl ?_
  refine g_iload_n F 2 dX0_changeIn_5 rfl ?_
  refine g_aload_n F 1 dX0_changeIn_6 rfl ?_
  refine g_iload_n F 3 dX0_changeIn_7 rfl ?_
  refine gcS_ald_0 F ho (by omega) dX0_changeIn_8 ?_
  refine g_top (y := iI (C 0 b)) rfl ?_
  refine gcS_ast_0 F ho (by omega) dX0_changeIn_9 ?_
  refine g_aload_n F 1 dX0_changeIn_10 rfl ?_
  refine g_iload_n F 3 dX0_changeIn_11 rfl ?_
  refine g_iload_n F 0 dX0_changeIn_12 rfl ?_
  refine gcSS_ast_0 F ho (by omega) dX0_changeIn_13 ?_
  exact K xw_same rfl dX0_changeIn_14
set_option maxRecDepth 100000 in
set_option maxHeartbeats 4000000 in
theorem kS_X0_changeIn_1 (κ : Kp) (xa : Nat → Nat → Nat) (X : XS) (o : Nat) (ho : o < 12) (C : MS) (a b : Int) (hab : (0 ≤ a ∧ a < 12) ∧ 0 ≤ b ∧ b < 12) : mV κ yX0_changeIn cX0_changeIn 4 0 [.ref (xa o 1), .int (iI a), .int (iI b)] (xw κ xa (setO X o C)) (is0 (xw κ xa (setO X o (mA C 1 (swf (C 1) a b))))) := by
  refine mV_of (by decide) (Nat.le_of_ble_eq_true rfl) (fun E F K => ?_)
  refine g_lv (lv' := [(0, .ref (xa o 1)), (1, .int (iI a)), (2, .int (iI b))]) rfl ?_
  refine g_aload_n F 0 dX0_changeIn_0 rfl ?_
  refine g_iload_n F 1 dX0_changeIn_1 rfl ?_
  refine gcS_ald_1 F ho (by omega) dX0_changeIn_2 ?_
  refine g_top (y := iI (C 1 a)) rfl ?_
  refine g_istore_n F (lv' := [(3, .int (iI (C 1 a))), (0, .ref (xa o 1)), (1, .int (iI a)), (2, .int (iI b))]) 3 dX0_changeIn_3 rfl (by decide) rfl ?_
  refine g_aload_n F 1 dX0_changeIn_4 rfl ?_
  refine g_iload_n F 2 dX0_changeIn_5 rfl ?_
  refine g_aload_n F 1 dX0_changeIn_6 rfl ?_
  refine g_iload_n F 3 dX0_changeIn_7 rfl ?_
  refine gcS_ald_1 F ho (by omega) dX0_changeIn_8 ?_
  refine g_top (y := iI (C 1 b)) rfl ?_
  refine gcS_ast_1 F ho (by omega) dX0_changeIn_9 ?_
  refine g_aload_n F 1 dX0_changeIn_10 rfl ?_
  refine g_iload_n F 3 dX0_changeIn_11 rfl ?_
  refine g_iload_n F 0 dX0_changeIn_12 rfl ?_
  refine gcSS_ast_1 F ho (by omega) dX0_changeIn_13 ?_
  exact K xw_same rfl dX0_changeIn_14
set_option maxRecDepth 100000 in
set_option maxHeartbeats 4000000 in
theorem kS_X0_changeIn_2 (κ : Kp) (xa : Nat → Nat → Nat) (X : XS) (o : Nat) (ho : o < 12) (C : MS) (a b : Int) (hab : (0 ≤ a ∧ a < 12) ∧ 0 ≤ b ∧ b < 12) : mV κ yX0_changeIn cX0_changeIn 4 0 [.ref (xa o 2), .int (iI a), .int (iI b)] (xw κ xa (setO X o C)) (is0 (xw κ xa (setO X o (mA C 2 (swf (C 2) a b))))) := by
  refine mV_of (by decide) (Nat.le_of_ble_eq_true rfl) (fun E F K => ?_)
  refine g_lv (lv' := [(0, .ref (xa o 2)), (1, .int (iI a)), (2, .int (iI b))]) rfl ?_
  refine g_aload_n F 0 dX0_changeIn_0 rfl ?_
  refine g_iload_n F 1 dX0_changeIn_1 rfl ?_
  refine gcS_ald_2 F ho (by omega) dX0_changeIn_2 ?_
  refine g_top (y := iI (C 2 a)) rfl ?_
  refine g_istore_n F (lv' := [(3, .int (iI (C 2 a))), (0, .ref (xa o 2)), (1, .int (iI a)), (2, .int (iI b))]) 3 dX0_changeIn_3 rfl (by decide) rfl ?_
  refine g_aload_n F 1 dX0_changeIn_4 rfl ?_
  refine g_iload_n F 2 dX0_changeIn_5 rfl ?_
  refine g_aload_n F 1 dX0_changeIn_6 rfl ?_
  refine g_iload_n F 3 dX0_changeIn_7 rfl ?_
  refine gcS_ald_2 F ho (by omega) dX0_changeIn_8 ?_
  refine g_top (y := iI (C 2 b)) rfl ?_
  refine gcS_ast_2 F ho (by omega) dX0_changeIn_9 ?_
  refine g_aload_n F 1 dX0_changeIn_10 rfl ?_
  refine g_iload_n F 3 dX0_changeIn_11 rfl ?_
  refine g_iload_n F 0 dX0_changeIn_12 rfl ?_
  refine gcSS_ast_2 F ho (by omega) dX0_changeIn_13 ?_
  exact K xw_same rfl dX0_changeIn_14
set_option maxRecDepth 100000 in
set_option maxHeartbeats 4000000 in
theorem kS_X0_changeIn_3 (κ : Kp) (xa : Nat → Nat → Nat) (X : XS) (o : Nat) (ho : o < 12) (C : MS) (a b : Int) (hab : (0 ≤ a ∧ a < 12) ∧ 0 ≤ b ∧ b < 12) : mV κ yX0_changeIn cX0_changeIn 4 0 [.ref (xa o 3), .int (iI a), .int (iI b)] (xw κ xa (setO X o C)) (is0 (xw κ xa (setO X o (mA C 3 (swf (C 3) a b))))) := by
  refine mV_of (by decide) (Nat.le_of_ble_eq_true rfl) (fun E F K => ?_)
  refine g_lv (lv' := [(0, .ref (xa o 3)), (1, .int (iI a)), (2, .int (iI b))]) rfl ?_
  refine g_aload_n F 0 dX0_changeIn_0 rfl ?_
  refine g_iload_n F 1 dX0_changeIn_1 rfl ?_
  refine gcS_ald_3 F ho (by omega) dX0_changeIn_2 ?_
  refine g_top (y := iI (C 3 a)) rfl ?_
  refine g_istore_n F (lv' := [(3, .int (iI (C 3 a))), (0, .ref (xa o 3)), (1, .int (iI a)), (2, .int (iI b))]) 3 dX0_changeIn_3 rfl (by decide) rfl ?_
  refine g_aload_n F 1 dX0_changeIn_4 rfl ?_
  refine g_iload_n F 2 dX0_changeIn_5 rfl ?_
  refine g_aload_n F 1 dX0_changeIn_6 rfl ?_
  refine g_iload_n F 3 dX0_changeIn_7 rfl ?_
  refine gcS_ald_3 F ho (by omega) dX0_changeIn_8 ?_
  refine g_top (y := iI (C 3 b)) rfl ?_
  refine gcS_ast_3 F ho (by omega) dX0_changeIn_9 ?_
  refine g_aload_n F 1 dX0_changeIn_10 rfl ?_
  refine g_iload_n F 3 dX0_changeIn_11 rfl ?_
  refine g_iload_n F 0 dX0_changeIn_12 rfl ?_
  refine gcSS_ast_3 F ho (by omega) dX0_changeIn_13 ?_
  exact K xw_same rfl dX0_changeIn_14
theorem dX0_change_0 : decode cX0_change 0 = .ok (.aload_n 0, 1) := by decide +kernel
theorem dX0_change_1 : decode cX0_change 1 = .ok (.getfield 9, 3) := by decide +kernel
theorem dX0_change_4 : decode cX0_change 4 = .ok (.iload_n 1, 1) := by decide +kernel
theorem dX0_change_5 : decode cX0_change 5 = .ok (.iload_n 2, 1) := by decide +kernel
theorem dX0_change_6 : decode cX0_change 6 = .ok (.invokestatic 43, 3) := by decide +kernel
theorem dX0_change_9 : decode cX0_change 9 = .ok (.aload_n 0, 1) := by decide +kernel
theorem dX0_change_10 : decode cX0_change 10 = .ok (.getfield 15, 3) := by decide +kernel
theorem dX0_change_13 : decode cX0_change 13 = .ok (.iload_n 1, 1) := by decide +kernel
theorem dX0_change_14 : decode cX0_change 14 = .ok (.iload_n 2, 1) := by decide +kernel
theorem dX0_change_15 : decode cX0_change 15 = .ok (.invokestatic 43, 3) := by decide +kernel
theorem dX0_change_18 : decode cX0_change 18 = .ok (.aload_n 0, 1) := by decide +kernel
theorem dX0_change_19 : decode cX0_change 19 = .ok (.getfield 18, 3) := by decide +kernel
theorem dX0_change_22 : decode cX0_change 22 = .ok (.iload_n 1, 1) := by decide +kernel
theorem dX0_change_23 : decode cX0_change 23 = .ok (.iload_n 2, 1) := by decide +kernel
theorem dX0_change_24 : decode cX0_change 24 = .ok (.invokestatic 43, 3) := by decide +kernel
theorem dX0_change_27 : decode cX0_change 27 = .ok (.aload_n 0, 1) := by decide +kernel
theorem dX0_change_28 : decode cX0_change 28 = .ok (.getfield 21, 3) := by decide +kernel
theorem dX0_change_31 : decode cX0_change 31 = .ok (.iload_n 1, 1) := by decide +kernel
theorem dX0_change_32 : decode cX0_change 32 = .ok (.iload_n 2, 1) := by decide +kernel
theorem dX0_change_33 : decode cX0_change 33 = .ok (.invokestatic 43, 3) := by decide +kernel
theorem dX0_change_36 : decode cX0_change 36 = .ok (.return_, 1) := by decide +kernel
set_option maxRecDepth 100000 in
set_option maxHeartbeats 4000000 in
theorem kS_X0_change (κ : Kp) (xa : Nat → Nat → Nat) (X : XS) (o : Nat) (ho : o < 12) (C : MS) (a : Int) (b : Int)  (hab : (0 ≤ a ∧ a < 12) ∧ 0 ≤ b ∧ b < 12) : mV κ yX0_change cX0_change 3 1 [.ref (xa o 100), .int (iI a), .int (iI b)] (xw κ xa (setO X o C)) (is0 (xw κ xa (setO X o (stC C (swC (cl C) a b))))) := by
  refine mV_of (by decide) (Nat.le_of_ble_eq_true rfl) (fun E F K => ?_)
  refine g_lv (lv' := [(0, .ref (xa o 100)), (1, .int (iI a)), (2, .int (iI b))]) rfl ?_
  refine g_aload_n F 0 dX0_change_0 rfl ?_
  refine gcS_get_0 F ho lf_X0_9 dX0_change_1 ?_
  refine g_iload_n F 1 dX0_change_4 rfl ?_
  refine g_iload_n F 2 dX0_change_5 rfl ?_
  refine g_callSV F (stk := [.int (iI b), .int (iI a), .ref (xa o 0)]) (st := []) (kS_X0_changeIn_0 κ xa X o ho C a b (by omega)) cal_X0_changeIn lm_X0_43 rfl (by decide) rfl (Nat.le_of_ble_eq_true rfl) dX0_change_6 (fun ws6 _ hr6 => ?_)
  obtain rfl := hr6
  refine g_aload_n F 0 dX0_change_9 rfl ?_
  refine gcS_get_1 F ho lf_X0_15 dX0_change_10 ?_
  refine g_iload_n F 1 dX0_change_13 rfl ?_
  refine g_iload_n F 2 dX0_change_14 rfl ?_
  refine g_callSV F (stk := [.int (iI b), .int (iI a), .ref (xa o 1)]) (st := []) (kS_X0_changeIn_1 κ xa X o ho (mA C 0 (swf (C 0) a b)) a b (by omega)) cal_X0_changeIn lm_X0_43 rfl (by decide) rfl (Nat.le_of_ble_eq_true rfl) dX0_change_15 (fun ws15 _ hr15 => ?_)
  obtain rfl := hr15
  refine g_aload_n F 0 dX0_change_18 rfl ?_
  refine gcS_get_2 F ho lf_X0_18 dX0_change_19 ?_
  refine g_iload_n F 1 dX0_change_22 rfl ?_
  refine g_iload_n F 2 dX0_change_23 rfl ?_
  refine g_callSV F (stk := [.int (iI b), .int (iI a), .ref (xa o 2)]) (st := []) (kS_X0_changeIn_2 κ xa X o ho (mA (mA C 0 (swf (C 0) a b)) 1 (swf (C 1) a b)) a b (by omega)) cal_X0_changeIn lm_X0_43 rfl (by decide) rfl (Nat.le_of_ble_eq_true rfl) dX0_change_24 (fun ws24 _ hr24 => ?_)
  obtain rfl := hr24
  refine g_aload_n F 0 dX0_change_27 rfl ?_
  refine gcS_get_3 F ho lf_X0_21 dX0_change_28 ?_
  refine g_iload_n F 1 dX0_change_31 rfl ?_
  refine g_iload_n F 2 dX0_change_32 rfl ?_
  refine g_callSV F (stk := [.int (iI b), .int (iI a), .ref (xa o 3)]) (st := []) (kS_X0_changeIn_3 κ xa X o ho (mA (mA (mA C 0 (swf (C 0) a b)) 1 (swf (C 1) a b)) 2 (swf (C 2) a b)) a b (by omega)) cal_X0_changeIn lm_X0_43 rfl (by decide) rfl (Nat.le_of_ble_eq_true rfl) dX0_change_33 (fun ws33 _ hr33 => ?_)
  obtain rfl := hr33
  exact K xw_same (xc_ext ho rfl) dX0_change_36
theorem k_X0_change (κ : Kp) (xa : Nat → Nat → Nat) (X : XS) (o : Nat) (ho : o < 12) (a : Int) (b : Int) (hab : (0 ≤ a ∧ a < 12) ∧ 0 ≤ b ∧ b < 12) : mV κ yX0_change cX0_change 3 1 [.ref (xa o 100), .int (iI a), .int (iI b)] (xw κ xa X) (is0 (xw κ xa (setO X o (stC (X o) (swC (cl (X o)) a b))))) := by
  have h := kS_X0_change κ xa X o ho (X o) a b hab
  rw [setO_self] at h
  exact h
theorem dX0_become_0 : decode cX0_become 0 = .ok (.aload_n 1, 1) := by decide +kernel
theorem dX0_become_1 : decode cX0_become 1 = .ok (.getfield 9, 3) := by decide +kernel
theorem dX0_become_4 : decode cX0_become 4 = .ok (.iconst 0, 1) := by decide +kernel
theorem dX0_become_5 : decode cX0_become 5 = .ok (.aload_n 0, 1) := by decide +kernel
theorem dX0_become_6 : decode cX0_become 6 = .ok (.getfield 9, 3) := by decide +kernel
theorem dX0_become_9 : decode cX0_become 9 = .ok (.iconst 0, 1) := by decide +kernel
theorem dX0_become_10 : decode cX0_become 10 = .ok (.bipush 12, 2) := by decide +kernel
theorem dX0_become_12 : decode cX0_become 12 = .ok (.invokestatic 24, 3) := by decide +kernel
theorem dX0_become_15 : decode cX0_become 15 = .ok (.aload_n 1, 1) := by decide +kernel
theorem dX0_become_16 : decode cX0_become 16 = .ok (.getfield 15, 3) := by decide +kernel
theorem dX0_become_19 : decode cX0_become 19 = .ok (.iconst 0, 1) := by decide +kernel
theorem dX0_become_20 : decode cX0_become 20 = .ok (.aload_n 0, 1) := by decide +kernel
theorem dX0_become_21 : decode cX0_become 21 = .ok (.getfield 15, 3) := by decide +kernel
theorem dX0_become_24 : decode cX0_become 24 = .ok (.iconst 0, 1) := by decide +kernel
theorem dX0_become_25 : decode cX0_become 25 = .ok (.bipush 12, 2) := by decide +kernel
theorem dX0_become_27 : decode cX0_become 27 = .ok (.invokestatic 24, 3) := by decide +kernel
theorem dX0_become_30 : decode cX0_become 30 = .ok (.aload_n 1, 1) := by decide +kernel
theorem dX0_become_31 : decode cX0_become 31 = .ok (.getfield 18, 3) := by decide +kernel
theorem dX0_become_34 : decode cX0_become 34 = .ok (.iconst 0, 1) := by decide +kernel
theorem dX0_become_35 : decode cX0_become 35 = .ok (.aload_n 0, 1) := by decide +kernel
theorem dX0_become_36 : decode cX0_become 36 = .ok (.getfield 18, 3) := by decide +kernel
theorem dX0_become_39 : decode cX0_become 39 = .ok (.iconst 0, 1) := by decide +kernel
theorem dX0_become_40 : decode cX0_become 40 = .ok (.bipush 12, 2) := by decide +kernel
theorem dX0_become_42 : decode cX0_become 42 = .ok (.invokestatic 24, 3) := by decide +kernel
theorem dX0_become_45 : decode cX0_become 45 = .ok (.aload_n 1, 1) := by decide +kernel
theorem dX0_become_46 : decode cX0_become 46 = .ok (.getfield 21, 3) := by decide +kernel
theorem dX0_become_49 : decode cX0_become 49 = .ok (.iconst 0, 1) := by decide +kernel
theorem dX0_become_50 : decode cX0_become 50 = .ok (.aload_n 0, 1) := by decide +kernel
theorem dX0_become_51 : decode cX0_become 51 = .ok (.getfield 21, 3) := by decide +kernel
theorem dX0_become_54 : decode cX0_become 54 = .ok (.iconst 0, 1) := by decide +kernel
theorem dX0_become_55 : decode cX0_become 55 = .ok (.bipush 12, 2) := by decide +kernel
theorem dX0_become_57 : decode cX0_become 57 = .ok (.invokestatic 24, 3) := by decide +kernel
theorem dX0_become_60 : decode cX0_become 60 = .ok (.aload_n 0, 1) := by decide +kernel
theorem dX0_become_61 : decode cX0_become 61 = .ok (.aload_n 1, 1) := by decide +kernel
theorem dX0_become_62 : decode cX0_become 62 = .ok (.getfield 30, 3) := by decide +kernel
theorem dX0_become_65 : decode cX0_become 65 = .ok (.putfield 30, 3) := by decide +kernel
theorem dX0_become_68 : decode cX0_become 68 = .ok (.return_, 1) := by decide +kernel
set_option maxRecDepth 100000 in
set_option maxHeartbeats 4000000 in
theorem kS_X0_become (κ : Kp) (xa : Nat → Nat → Nat) (X : XS) (o : Nat) (ho : o < 12) (C : MS) (q : Nat) (hq : q < 12) (hne : q ≠ o) : mV κ yX0_become cX0_become 2 1 [.ref (xa o 100), .ref (xa q 100)] (xw κ xa (setO X o C)) (is0 (xw κ xa (setO X o (stC C (cl (X q)))))) := by
  refine mV_of (by decide) (Nat.le_of_ble_eq_true rfl) (fun E F K => ?_)
  refine g_lv (lv' := [(0, .ref (xa o 100)), (1, .ref (xa q 100))]) rfl ?_
  refine g_aload_n F 1 dX0_become_0 rfl ?_
  refine gc_get_0 F hq lf_X0_9 dX0_become_1 ?_
  refine g_iconst F dX0_become_4 ?_
  refine g_aload_n F 0 dX0_become_5 rfl ?_
  refine gcS_get_0 F ho lf_X0_9 dX0_become_6 ?_
  refine g_iconst F dX0_become_9 ?_
  refine g_bipush F dX0_become_10 (by decide +kernel) ?_
  refine g_copy F (ws' := xw κ xa (setO X o (mA C 0 ((X q) 0)))) (5 * q + 1) (5 * o + 1) (by rw [xc_arr_0 hq, setO_n hne]) (by rw [xc_arr_0 ho, setO_s]) (by decide) (by rw [xc_set_0 ho, setO_s, setO_setO]) lm_X0_24 sy_0 sy_1 sy_2 (by decide) (Nat.le_of_ble_eq_true rfl) dX0_become_12 ?_
  refine g_aload_n F 1 dX0_become_15 rfl ?_
  refine gc_get_1 F hq lf_X0_15 dX0_become_16 ?_
  refine g_iconst F dX0_become_19 ?_
  refine g_aload_n F 0 dX0_become_20 rfl ?_
  refine gcS_get_1 F ho lf_X0_15 dX0_become_21 ?_
  refine g_iconst F dX0_become_24 ?_
  refine g_bipush F dX0_become_25 (by decide +kernel) ?_
  refine g_copy F (ws' := xw κ xa (setO X o (mA (mA C 0 ((X q) 0)) 1 ((X q) 1)))) (5 * q + 2) (5 * o + 2) (by rw [xc_arr_1 hq, setO_n hne]) (by rw [xc_arr_1 ho, setO_s]) (by decide) (by rw [xc_set_1 ho, setO_s, setO_setO]) lm_X0_24 sy_0 sy_1 sy_2 (by decide) (Nat.le_of_ble_eq_true rfl) dX0_become_27 ?_
  refine g_aload_n F 1 dX0_become_30 rfl ?_
  refine gc_get_2 F hq lf_X0_18 dX0_become_31 ?_
  refine g_iconst F dX0_become_34 ?_
  refine g_aload_n F 0 dX0_become_35 rfl ?_
  refine gcS_get_2 F ho lf_X0_18 dX0_become_36 ?_
  refine g_iconst F dX0_become_39 ?_
  refine g_bipush F dX0_become_40 (by decide +kernel) ?_
  refine g_copy F (ws' := xw κ xa (setO X o (mA (mA (mA C 0 ((X q) 0)) 1 ((X q) 1)) 2 ((X q) 2)))) (5 * q + 3) (5 * o + 3) (by rw [xc_arr_2 hq, setO_n hne]) (by rw [xc_arr_2 ho, setO_s]) (by decide) (by rw [xc_set_2 ho, setO_s, setO_setO]) lm_X0_24 sy_0 sy_1 sy_2 (by decide) (Nat.le_of_ble_eq_true rfl) dX0_become_42 ?_
  refine g_aload_n F 1 dX0_become_45 rfl ?_
  refine gc_get_3 F hq lf_X0_21 dX0_become_46 ?_
  refine g_iconst F dX0_become_49 ?_
  refine g_aload_n F 0 dX0_become_50 rfl ?_
  refine gcS_get_3 F ho lf_X0_21 dX0_become_51 ?_
  refine g_iconst F dX0_become_54 ?_
  refine g_bipush F dX0_become_55 (by decide +kernel) ?_
  refine g_copy F (ws' := xw κ xa (setO X o (mA (mA (mA (mA C 0 ((X q) 0)) 1 ((X q) 1)) 2 ((X q) 2)) 3 ((X q) 3)))) (5 * q + 4) (5 * o + 4) (by rw [xc_arr_3 hq, setO_n hne]) (by rw [xc_arr_3 ho, setO_s]) (by decide) (by rw [xc_set_3 ho, setO_s, setO_setO]) lm_X0_24 sy_0 sy_1 sy_2 (by decide) (Nat.le_of_ble_eq_true rfl) dX0_become_57 ?_
  refine g_aload_n F 0 dX0_become_60 rfl ?_
  refine g_aload_n F 1 dX0_become_61 rfl ?_
  refine gc_get_4 F hq lf_X0_30 dX0_become_62 ?_
  refine g_top (y := iI ((X q) 4 0)) (by rw [setO_n hne]) ?_
  refine gcS_put_4 F  ho lf_X0_30 dX0_become_65 ?_
  exact K xw_same (xc_ext ho rfl) dX0_become_68
theorem k_X0_become (κ : Kp) (xa : Nat → Nat → Nat) (X : XS) (o : Nat) (ho : o < 12) (q : Nat) (hq : q < 12) (hne : q ≠ o) : mV κ yX0_become cX0_become 2 1 [.ref (xa o 100), .ref (xa q 100)] (xw κ xa X) (is0 (xw κ xa (setO X o (stC (X o) (cl (X q)))))) := by
  have h := kS_X0_become κ xa X o ho (X o) q hq hne
  rw [setO_self] at h
  exact h
theorem dX0_put_0 : decode cX0_put 0 = .ok (.aload_n 0, 1) := by decide +kernel
theorem dX0_put_1 : decode cX0_put 1 = .ok (.iload_n 3, 1) := by decide +kernel
theorem dX0_put_2 : decode cX0_put 2 = .ok (.aload_n 1, 1) := by decide +kernel
theorem dX0_put_3 : decode cX0_put 3 = .ok (.getfield 34, 3) := by decide +kernel
theorem dX0_put_6 : decode cX0_put 6 = .ok (.iload_n 2, 1) := by decide +kernel
theorem dX0_put_7 : decode cX0_put 7 = .ok (.iaload, 1) := by decide +kernel
theorem dX0_put_8 : decode cX0_put 8 = .ok (.aload_n 1, 1) := by decide +kernel
theorem dX0_put_9 : decode cX0_put 9 = .ok (.getfield 37, 3) := by decide +kernel
theorem dX0_put_12 : decode cX0_put 12 = .ok (.iload_n 2, 1) := by decide +kernel
theorem dX0_put_13 : decode cX0_put 13 = .ok (.iaload, 1) := by decide +kernel
theorem dX0_put_14 : decode cX0_put 14 = .ok (.aload_n 1, 1) := by decide +kernel
theorem dX0_put_15 : decode cX0_put 15 = .ok (.getfield 38, 3) := by decide +kernel
theorem dX0_put_18 : decode cX0_put 18 = .ok (.iload_n 2, 1) := by decide +kernel
theorem dX0_put_19 : decode cX0_put 19 = .ok (.iaload, 1) := by decide +kernel
theorem dX0_put_20 : decode cX0_put 20 = .ok (.invokevirtual 39, 3) := by decide +kernel
theorem dX0_put_23 : decode cX0_put 23 = .ok (.return_, 1) := by decide +kernel
set_option maxRecDepth 100000 in
set_option maxHeartbeats 4000000 in
theorem kS_X0_put (κ : Kp) (xa : Nat → Nat → Nat) (X : XS) (o : Nat) (ho : o < 12) (C : MS) (r : Nat) (p c : Int) (hr : r < 3) (hp : 0 ≤ p ∧ p < 6) (h0 : 0 ≤ c ∧ c < 12) : mV κ yX0_put cX0_put 4 1 [.ref (xa o 100), .ref (xa (12 + r) 100), .int (iI p), .int (iI c)] (xw κ xa (setO X o C)) (is0 (xw κ xa (setO X o (stC C (make (cl C) c (X (12 + r) 0 p) (X (12 + r) 1 p) (X (12 + r) 2 p)))))) := by
  refine mV_of (by decide) (Nat.le_of_ble_eq_true rfl) (fun E F K => ?_)
  refine g_lv (lv' := [(0, .ref (xa o 100)), (1, .ref (xa (12 + r) 100)), (2, .int (iI p)), (3, .int (iI c))]) rfl ?_
  refine g_aload_n F 0 dX0_put_0 rfl ?_
  refine g_iload_n F 3 dX0_put_1 rfl ?_
  refine g_aload_n F 1 dX0_put_2 rfl ?_
  refine gr_getN_0 F hr nf_X0_34 dX0_put_3 ?_
  refine g_iload_n F 2 dX0_put_6 rfl ?_
  refine gr_ald_0 F hr (by omega) dX0_put_7 ?_
  refine g_top (y := iI ((X (12 + r)) 0 p)) (by rw [setO_n (by omega)]) ?_
  refine g_aload_n F 1 dX0_put_8 rfl ?_
  refine gr_getN_1 F hr nf_X0_37 dX0_put_9 ?_
  refine g_iload_n F 2 dX0_put_12 rfl ?_
  refine gr_ald_1 F hr (by omega) dX0_put_13 ?_
  refine g_top (y := iI ((X (12 + r)) 1 p)) (by rw [setO_n (by omega)]) ?_
  refine g_aload_n F 1 dX0_put_14 rfl ?_
  refine gr_getN_2 F hr nf_X0_38 dX0_put_15 ?_
  refine g_iload_n F 2 dX0_put_18 rfl ?_
  refine gr_ald_2 F hr (by omega) dX0_put_19 ?_
  refine g_top (y := iI ((X (12 + r)) 2 p)) (by rw [setO_n (by omega)]) ?_
  refine g_callV F (stk := [.int (iI ((X (12 + r)) 2 p)), .int (iI ((X (12 + r)) 1 p)), .int (iI ((X (12 + r)) 0 p)), .int (iI c), .ref (xa o 100)]) (st := []) (kS_X0_make κ xa X o ho C c ((X (12 + r)) 0 p) ((X (12 + r)) 1 p) ((X (12 + r)) 2 p) (by omega)) cal_X0_make lm_X0_39 (5 * o + 0) (xc_obj ho) rfl rfl rfl (by decide) rfl (Nat.le_of_ble_eq_true rfl) dX0_put_20 (fun ws20 _ hr20 => ?_)
  obtain rfl := hr20
  exact K xw_same rfl dX0_put_23
theorem k_X0_put (κ : Kp) (xa : Nat → Nat → Nat) (X : XS) (o : Nat) (ho : o < 12) (r : Nat) (p c : Int) (hr : r < 3) (hp : 0 ≤ p ∧ p < 6) (h0 : 0 ≤ c ∧ c < 12) : mV κ yX0_put cX0_put 4 1 [.ref (xa o 100), .ref (xa (12 + r) 100), .int (iI p), .int (iI c)] (xw κ xa X) (is0 (xw κ xa (setO X o (stC (X o) (make (cl (X o)) c (X (12 + r) 0 p) (X (12 + r) 1 p) (X (12 + r) 2 p)))))) := by
  have h := kS_X0_put κ xa X o ho (X o) r p c hr hp h0
  rw [setO_self] at h
  exact h
