theorem dX6_lasts_0 : decode cX6_lasts 0 = .ok (.aload_n 0, 1) := by decide +kernel
theorem dX6_lasts_1 : decode cX6_lasts 1 = .ok (.iconst 0, 1) := by decide +kernel
theorem dX6_lasts_2 : decode cX6_lasts 2 = .ok (.putfield 91, 3) := by decide +kernel
theorem dX6_lasts_5 : decode cX6_lasts 5 = .ok (.iload_n 1, 1) := by decide +kernel
theorem dX6_lasts_6 : decode cX6_lasts 6 = .ok (.invokestatic 222, 3) := by decide +kernel
theorem dX6_lasts_9 : decode cX6_lasts 9 = .ok (.ifCond .ne 9, 3) := by decide +kernel
theorem dX6_lasts_12 : decode cX6_lasts 12 = .ok (.aload_n 0, 1) := by decide +kernel
theorem dX6_lasts_13 : decode cX6_lasts 13 = .ok (.iconst (-1), 1) := by decide +kernel
theorem dX6_lasts_14 : decode cX6_lasts 14 = .ok (.invokevirtual 138, 3) := by decide +kernel
theorem dX6_lasts_17 : decode cX6_lasts 17 = .ok (.ireturn, 1) := by decide +kernel
theorem dX6_lasts_18 : decode cX6_lasts 18 = .ok (.aload_n 0, 1) := by decide +kernel
theorem dX6_lasts_19 : decode cX6_lasts 19 = .ok (.invokevirtual 191, 3) := by decide +kernel
theorem dX6_lasts_22 : decode cX6_lasts 22 = .ok (.aload_n 0, 1) := by decide +kernel
theorem dX6_lasts_23 : decode cX6_lasts 23 = .ok (.invokevirtual 255, 3) := by decide +kernel
theorem dX6_lasts_26 : decode cX6_lasts 26 = .ok (.aload_n 0, 1) := by decide +kernel
theorem dX6_lasts_27 : decode cX6_lasts 27 = .ok (.invokevirtual 197, 3) := by decide +kernel
theorem dX6_lasts_30 : decode cX6_lasts 30 = .ok (.aload_n 0, 1) := by decide +kernel
theorem dX6_lasts_31 : decode cX6_lasts 31 = .ok (.getfield 61, 3) := by decide +kernel
theorem dX6_lasts_34 : decode cX6_lasts 34 = .ok (.iload_n 1, 1) := by decide +kernel
theorem dX6_lasts_35 : decode cX6_lasts 35 = .ok (.iaload, 1) := by decide +kernel
theorem dX6_lasts_36 : decode cX6_lasts 36 = .ok (.bipush 61, 2) := by decide +kernel
theorem dX6_lasts_38 : decode cX6_lasts 38 = .ok (.if_icmp .ne 8, 3) := by decide +kernel
theorem dX6_lasts_41 : decode cX6_lasts 41 = .ok (.bipush (-9), 2) := by decide +kernel
theorem dX6_lasts_43 : decode cX6_lasts 43 = .ok (.goto 9, 3) := by decide +kernel
theorem dX6_lasts_46 : decode cX6_lasts 46 = .ok (.aload_n 0, 1) := by decide +kernel
theorem dX6_lasts_47 : decode cX6_lasts 47 = .ok (.getfield 61, 3) := by decide +kernel
theorem dX6_lasts_50 : decode cX6_lasts 50 = .ok (.iload_n 1, 1) := by decide +kernel
theorem dX6_lasts_51 : decode cX6_lasts 51 = .ok (.iaload, 1) := by decide +kernel
theorem dX6_lasts_52 : decode cX6_lasts 52 = .ok (.ireturn, 1) := by decide +kernel
set_option maxRecDepth 100000 in
set_option maxHeartbeats 4000000 in
theorem k_X6_lasts (κ : Kp) (ma : Nat → Nat) (M : MS) (c : Int)  (ha_c : In32 c) (ok : okC (cl M)) (hy : M 4 0 ≤ 999) : mI κ yX6_lasts cX6_lasts 2 .int 5 [.ref (ma 100), .int (iI c)] (mw κ ma M) (qM κ ma M (qLasts (cl M) c)) := by
  refine mI_of (by decide) (Nat.le_of_ble_eq_true rfl) (fun E F K => ?_)
  refine g_lv (lv' := [(0, .ref (ma 100)), (1, .int (iI c))]) rfl ?_
  refine g_aload_n F 0 dX6_lasts_0 rfl ?_
  refine g_iconst F dX6_lasts_1 ?_
  refine gm_put_10 F dX6_lasts_2 ?_
  refine g_iload_n F 1 dX6_lasts_5 rfl ?_
  refine g_callSI F (stk := [.int (iI c)]) (st := []) (k_X6_isCell κ (mw κ ma (mA M 10 (fun _ => 0))) c (by omega)) cal_X6_isCell lm_X6_222 rfl (by decide) rfl (Nat.le_of_ble_eq_true rfl) dX6_lasts_6 (fun r6 ws6 _ hr6 => ?_)
  obtain ⟨rfl, rfl⟩ := hr6
  refine g_if_ne F 18 (b2i_in _) dX6_lasts_9 (by decide) (fun c9 => ?_) (fun c9 => ?_)
  · skip
    have c9 : 0 ≤ c ∧ c < 12 := b2i_t c9
    refine g_aload_n F 0 dX6_lasts_18 rfl ?_
    refine g_callV F (stk := [.ref (ma 100)]) (st := []) (k_X6_think κ ma (mA M 10 (fun _ => 0))) cal_X6_think lm_X6_191 0 rfl rfl rfl rfl (by decide) rfl (Nat.le_of_ble_eq_true rfl) dX6_lasts_19 (fun ws19 _ hr19 => ?_)
    obtain rfl := hr19
    refine g_ws (ws' := mw κ ma (thk (mA M 10 (fun _ => 0)))) rfl ?_
    refine g_aload_n F 0 dX6_lasts_22 rfl ?_
    refine g_callV F (stk := [.ref (ma 100)]) (st := []) (k_X6_layLasts κ ma (thk (mA M 10 (fun _ => 0))) (show (M 4 0) ≤ 990000 from by omega) ok) cal_X6_layLasts lm_X6_255 0 rfl rfl rfl rfl (by decide) rfl (Nat.le_of_ble_eq_true rfl) dX6_lasts_23 (fun ws23 _ hr23 => ?_)
    obtain rfl := hr23
    refine g_ws (ws' := mw κ ma (mA (stC (thk (mA M 10 (fun _ => 0))) (goI 61 (cl M))) 29 (lasts (cl M)))) rfl ?_
    refine g_aload_n F 0 dX6_lasts_26 rfl ?_
    refine g_callV F (stk := [.ref (ma 100)]) (st := []) (k_X6_again κ ma (mA (stC (thk (mA M 10 (fun _ => 0))) (goI 61 (cl M))) 29 (lasts (cl M))) (mA M 10 (fun _ => 0)) (fun _ _ _ => rfl)) cal_X6_again lm_X6_197 0 rfl rfl rfl rfl (by decide) rfl (Nat.le_of_ble_eq_true rfl) dX6_lasts_27 (fun ws27 _ hr27 => ?_)
    obtain rfl := hr27
    refine g_aload_n F 0 dX6_lasts_30 rfl ?_
    refine gm_get_29 F dX6_lasts_31 ?_
    refine g_iload_n F 1 dX6_lasts_34 rfl ?_
    refine gm_ald_29 F (by omega) dX6_lasts_35 ?_
    refine g_top (y := iI ((lasts (cl M)) c)) rfl ?_
    refine g_bipush F dX6_lasts_36 (by decide +kernel) ?_
    have h1 := lasts_bd (cl M) c
    refine g_icmp_ne F 46 (by omega) dX6_lasts_38 (by decide) (fun c38 => ?_) (fun c38 => ?_)
    · skip
      refine g_aload_n F 0 dX6_lasts_46 rfl ?_
      refine gm_get_29 F dX6_lasts_47 ?_
      refine g_iload_n F 1 dX6_lasts_50 rfl ?_
      refine gm_ald_29 F (by omega) dX6_lasts_51 ?_
      refine g_top (y := iI ((lasts (cl M)) c)) rfl ?_
      have h1 := lasts_bd (cl M) c
      have hq : (lasts (cl M)) c = qLasts (cl M) c := by unfold qLasts; (repeat' split) <;> omega
      exact K mw_same ⟨_, rfl, iIc hq, ⟨rfl, rfl, rfl, rfl, rfl, rfl, rfl, rfl, rfl, rfl, rfl, rfl, rfl, rfl, rfl, rfl, rfl, rfl⟩, (by rw [← hq]; exact (rfa_n (by omega)).symm)⟩ rfl dX6_lasts_52
    · skip
      refine g_bipush F dX6_lasts_41 (by decide +kernel) ?_
      refine g_goto F 52 dX6_lasts_43 (by decide) ?_
      have h1 := lasts_bd (cl M) c
      have hq : -9 = qLasts (cl M) c := by unfold qLasts; (repeat' split) <;> omega
      exact K mw_same ⟨_, rfl, iIc hq, ⟨rfl, rfl, rfl, rfl, rfl, rfl, rfl, rfl, rfl, rfl, rfl, rfl, rfl, rfl, rfl, rfl, rfl, rfl⟩, (by rw [← hq]; exact (rfa_n (by omega)).symm)⟩ rfl dX6_lasts_52
  · skip
    have c9 : ¬ (0 ≤ c ∧ c < 12) := b2i_f c9
    refine g_aload_n F 0 dX6_lasts_12 rfl ?_
    refine g_iconst F dX6_lasts_13 ?_
    refine g_callI F (stk := [.int (iI (-1)), .ref (ma 100)]) (st := []) (k_X6_refuse κ ma (mA M 10 (fun _ => 0)) (-1) (by omega)) cal_X6_refuse lm_X6_138 0 rfl rfl rfl rfl (by decide) rfl (Nat.le_of_ble_eq_true rfl) dX6_lasts_14 (fun r14 ws14 _ hr14 => ?_)
    obtain ⟨rfl, rfl⟩ := hr14
    refine g_top (y := iI (-1)) rfl ?_
    refine g_ws (ws' := mw κ ma (mA (mA M 10 (fun _ => 0)) 11 (uI (M 11) (-(-1)) (M 11 (-(-1)) + 1)))) rfl ?_
    have hq : (-1) = qLasts (cl M) c := by unfold qLasts; (repeat' split) <;> omega
    exact K mw_same ⟨_, rfl, iIc hq, ⟨rfl, rfl, rfl, rfl, rfl, rfl, rfl, rfl, rfl, rfl, rfl, rfl, rfl, rfl, rfl, rfl, rfl, rfl⟩, (by rw [← hq]; exact (rfa_r (by omega)).symm)⟩ rfl dX6_lasts_17
theorem dX6_holes_0 : decode cX6_holes 0 = .ok (.aload_n 0, 1) := by decide +kernel
theorem dX6_holes_1 : decode cX6_holes 1 = .ok (.iconst 0, 1) := by decide +kernel
theorem dX6_holes_2 : decode cX6_holes 2 = .ok (.putfield 91, 3) := by decide +kernel
theorem dX6_holes_5 : decode cX6_holes 5 = .ok (.iload_n 1, 1) := by decide +kernel
theorem dX6_holes_6 : decode cX6_holes 6 = .ok (.i2l, 1) := by decide +kernel
theorem dX6_holes_7 : decode cX6_holes 7 = .ok (.lconst 0, 1) := by decide +kernel
theorem dX6_holes_8 : decode cX6_holes 8 = .ok (.ldc2_w 253, 3) := by decide +kernel
theorem dX6_holes_11 : decode cX6_holes 11 = .ok (.invokestatic 97, 3) := by decide +kernel
theorem dX6_holes_14 : decode cX6_holes 14 = .ok (.ifCond .ne 10, 3) := by decide +kernel
theorem dX6_holes_17 : decode cX6_holes 17 = .ok (.aload_n 0, 1) := by decide +kernel
theorem dX6_holes_18 : decode cX6_holes 18 = .ok (.bipush (-2), 2) := by decide +kernel
theorem dX6_holes_20 : decode cX6_holes 20 = .ok (.invokevirtual 138, 3) := by decide +kernel
theorem dX6_holes_23 : decode cX6_holes 23 = .ok (.ireturn, 1) := by decide +kernel
theorem dX6_holes_24 : decode cX6_holes 24 = .ok (.aload_n 0, 1) := by decide +kernel
theorem dX6_holes_25 : decode cX6_holes 25 = .ok (.invokevirtual 191, 3) := by decide +kernel
theorem dX6_holes_28 : decode cX6_holes 28 = .ok (.aload_n 0, 1) := by decide +kernel
theorem dX6_holes_29 : decode cX6_holes 29 = .ok (.invokevirtual 255, 3) := by decide +kernel
theorem dX6_holes_32 : decode cX6_holes 32 = .ok (.aload_n 0, 1) := by decide +kernel
theorem dX6_holes_33 : decode cX6_holes 33 = .ok (.invokevirtual 197, 3) := by decide +kernel
theorem dX6_holes_36 : decode cX6_holes 36 = .ok (.aload_n 0, 1) := by decide +kernel
theorem dX6_holes_37 : decode cX6_holes 37 = .ok (.invokevirtual 258, 3) := by decide +kernel
theorem dX6_holes_40 : decode cX6_holes 40 = .ok (.istore_n 2, 1) := by decide +kernel
theorem dX6_holes_41 : decode cX6_holes 41 = .ok (.iconst 0, 1) := by decide +kernel
theorem dX6_holes_42 : decode cX6_holes 42 = .ok (.istore_n 3, 1) := by decide +kernel
theorem dX6_holes_43 : decode cX6_holes 43 = .ok (.iconst 1, 1) := by decide +kernel
theorem dX6_holes_44 : decode cX6_holes 44 = .ok (.istore 4, 2) := by decide +kernel
theorem dX6_holes_46 : decode cX6_holes 46 = .ok (.iload 4, 2) := by decide +kernel
theorem dX6_holes_48 : decode cX6_holes 48 = .ok (.bipush 12, 2) := by decide +kernel
theorem dX6_holes_50 : decode cX6_holes 50 = .ok (.if_icmp .ge 32, 3) := by decide +kernel
theorem dX6_holes_53 : decode cX6_holes 53 = .ok (.aload_n 0, 1) := by decide +kernel
theorem dX6_holes_54 : decode cX6_holes 54 = .ok (.getfield 61, 3) := by decide +kernel
theorem dX6_holes_57 : decode cX6_holes 57 = .ok (.iload 4, 2) := by decide +kernel
theorem dX6_holes_59 : decode cX6_holes 59 = .ok (.iaload, 1) := by decide +kernel
theorem dX6_holes_60 : decode cX6_holes 60 = .ok (.aload_n 0, 1) := by decide +kernel
theorem dX6_holes_61 : decode cX6_holes 61 = .ok (.getfield 61, 3) := by decide +kernel
theorem dX6_holes_64 : decode cX6_holes 64 = .ok (.iload_n 3, 1) := by decide +kernel
theorem dX6_holes_65 : decode cX6_holes 65 = .ok (.iaload, 1) := by decide +kernel
theorem dX6_holes_66 : decode cX6_holes 66 = .ok (.if_icmp .le 8, 3) := by decide +kernel
theorem dX6_holes_69 : decode cX6_holes 69 = .ok (.iload 4, 2) := by decide +kernel
theorem dX6_holes_71 : decode cX6_holes 71 = .ok (.goto 4, 3) := by decide +kernel
theorem dX6_holes_74 : decode cX6_holes 74 = .ok (.iload_n 3, 1) := by decide +kernel
theorem dX6_holes_75 : decode cX6_holes 75 = .ok (.istore_n 3, 1) := by decide +kernel
theorem dX6_holes_76 : decode cX6_holes 76 = .ok (.iinc 4 1, 3) := by decide +kernel
theorem dX6_holes_79 : decode cX6_holes 79 = .ok (.goto (-33), 3) := by decide +kernel
theorem dX6_holes_82 : decode cX6_holes 82 = .ok (.aload_n 0, 1) := by decide +kernel
theorem dX6_holes_83 : decode cX6_holes 83 = .ok (.getfield 61, 3) := by decide +kernel
theorem dX6_holes_86 : decode cX6_holes 86 = .ok (.iload_n 2, 1) := by decide +kernel
theorem dX6_holes_87 : decode cX6_holes 87 = .ok (.iaload, 1) := by decide +kernel
theorem dX6_holes_88 : decode cX6_holes 88 = .ok (.bipush 61, 2) := by decide +kernel
theorem dX6_holes_90 : decode cX6_holes 90 = .ok (.if_icmp .ne 7, 3) := by decide +kernel
theorem dX6_holes_93 : decode cX6_holes 93 = .ok (.iconst 1, 1) := by decide +kernel
theorem dX6_holes_94 : decode cX6_holes 94 = .ok (.goto 4, 3) := by decide +kernel
theorem dX6_holes_97 : decode cX6_holes 97 = .ok (.iconst 0, 1) := by decide +kernel
theorem dX6_holes_98 : decode cX6_holes 98 = .ok (.istore 4, 2) := by decide +kernel
theorem dX6_holes_100 : decode cX6_holes 100 = .ok (.iload_n 1, 1) := by decide +kernel
theorem dX6_holes_101 : decode cX6_holes 101 = .ok (.iconst 2, 1) := by decide +kernel
theorem dX6_holes_102 : decode cX6_holes 102 = .ok (.if_icmp .ne 7, 3) := by decide +kernel
theorem dX6_holes_105 : decode cX6_holes 105 = .ok (.iload_n 3, 1) := by decide +kernel
theorem dX6_holes_106 : decode cX6_holes 106 = .ok (.goto 27, 3) := by decide +kernel
theorem dX6_holes_109 : decode cX6_holes 109 = .ok (.iload 4, 2) := by decide +kernel
theorem dX6_holes_111 : decode cX6_holes 111 = .ok (.ifCond .eq 8, 3) := by decide +kernel
theorem dX6_holes_114 : decode cX6_holes 114 = .ok (.bipush (-9), 2) := by decide +kernel
theorem dX6_holes_116 : decode cX6_holes 116 = .ok (.goto 17, 3) := by decide +kernel
theorem dX6_holes_119 : decode cX6_holes 119 = .ok (.iload_n 1, 1) := by decide +kernel
theorem dX6_holes_120 : decode cX6_holes 120 = .ok (.ifCond .ne 12, 3) := by decide +kernel
theorem dX6_holes_123 : decode cX6_holes 123 = .ok (.aload_n 0, 1) := by decide +kernel
theorem dX6_holes_124 : decode cX6_holes 124 = .ok (.getfield 61, 3) := by decide +kernel
theorem dX6_holes_127 : decode cX6_holes 127 = .ok (.iload_n 2, 1) := by decide +kernel
theorem dX6_holes_128 : decode cX6_holes 128 = .ok (.iaload, 1) := by decide +kernel
theorem dX6_holes_129 : decode cX6_holes 129 = .ok (.goto 4, 3) := by decide +kernel
theorem dX6_holes_132 : decode cX6_holes 132 = .ok (.iload_n 2, 1) := by decide +kernel
theorem dX6_holes_133 : decode cX6_holes 133 = .ok (.ireturn, 1) := by decide +kernel
set_option maxRecDepth 100000 in
set_option maxHeartbeats 4000000 in
theorem k_X6_holes (κ : Kp) (ma : Nat → Nat) (M : MS) (w : Int)  (ha_w : In32 w) (ok : okC (cl M)) (hy : M 4 0 ≤ 999) : mI κ yX6_holes cX6_holes 5 .int 5 [.ref (ma 100), .int (iI w)] (mw κ ma M) (qM κ ma M (qHoles (cl M) w)) := by
  refine mI_of (by decide) (Nat.le_of_ble_eq_true rfl) (fun E F K => ?_)
  refine g_lv (lv' := [(0, .ref (ma 100)), (1, .int (iI w))]) rfl ?_
  refine g_aload_n F 0 dX6_holes_0 rfl ?_
  refine g_iconst F dX6_holes_1 ?_
  refine gm_put_10 F dX6_holes_2 ?_
  refine g_iload_n F 1 dX6_holes_5 rfl ?_
  refine g_i2l F (by omega) dX6_holes_6 ?_
  refine g_lconst F (z := 0) dX6_holes_7 rfl ?_
  refine g_ldc2 F (z := 2) ll_X6_253 (by decide +kernel) dX6_holes_8 ?_
  refine g_callSI F (stk := [.long (iL 2), .long (iL 0), .long (iL w)]) (st := []) (k_X6_in κ (mw κ ma (mA M 10 (fun _ => 0))) w 0 2 (by omega)) cal_X6_in lm_X6_97 rfl (by decide) rfl (Nat.le_of_ble_eq_true rfl) dX6_holes_11 (fun r11 ws11 _ hr11 => ?_)
  obtain ⟨rfl, rfl⟩ := hr11
  refine g_if_ne F 24 (b2i_in _) dX6_holes_14 (by decide) (fun c14 => ?_) (fun c14 => ?_)
  · skip
    have c14 : 0 ≤ w ∧ w ≤ 2 := b2i_t c14
    refine g_aload_n F 0 dX6_holes_24 rfl ?_
    refine g_callV F (stk := [.ref (ma 100)]) (st := []) (k_X6_think κ ma (mA M 10 (fun _ => 0))) cal_X6_think lm_X6_191 0 rfl rfl rfl rfl (by decide) rfl (Nat.le_of_ble_eq_true rfl) dX6_holes_25 (fun ws25 _ hr25 => ?_)
    obtain rfl := hr25
    refine g_ws (ws' := mw κ ma (thk (mA M 10 (fun _ => 0)))) rfl ?_
    refine g_aload_n F 0 dX6_holes_28 rfl ?_
    refine g_callV F (stk := [.ref (ma 100)]) (st := []) (k_X6_layLasts κ ma (thk (mA M 10 (fun _ => 0))) (show (M 4 0) ≤ 990000 from by omega) ok) cal_X6_layLasts lm_X6_255 0 rfl rfl rfl rfl (by decide) rfl (Nat.le_of_ble_eq_true rfl) dX6_holes_29 (fun ws29 _ hr29 => ?_)
    obtain rfl := hr29
    refine g_ws (ws' := mw κ ma (mA (stC (thk (mA M 10 (fun _ => 0))) (goI 61 (cl M))) 29 (lasts (cl M)))) rfl ?_
    refine g_aload_n F 0 dX6_holes_32 rfl ?_
    refine g_callV F (stk := [.ref (ma 100)]) (st := []) (k_X6_again κ ma (mA (stC (thk (mA M 10 (fun _ => 0))) (goI 61 (cl M))) 29 (lasts (cl M))) (mA M 10 (fun _ => 0)) (fun _ _ _ => rfl)) cal_X6_again lm_X6_197 0 rfl rfl rfl rfl (by decide) rfl (Nat.le_of_ble_eq_true rfl) dX6_holes_33 (fun ws33 _ hr33 => ?_)
    obtain rfl := hr33
    refine g_aload_n F 0 dX6_holes_36 rfl ?_
    refine g_callI F (stk := [.ref (ma 100)]) (st := []) (k_X6_firstOf κ ma (agn (mA (stC (thk (mA M 10 (fun _ => 0))) (goI 61 (cl M))) 29 (lasts (cl M))) (mA M 10 (fun _ => 0))) (fun j _ _ => lasts_bd _ j)) cal_X6_firstOf lm_X6_258 0 rfl rfl rfl rfl (by decide) rfl (Nat.le_of_ble_eq_true rfl) dX6_holes_37 (fun r37 ws37 _ hr37 => ?_)
    obtain ⟨rfl, rfl⟩ := hr37
    refine g_top (y := iI (amin (lasts (cl M)) 12)) rfl ?_
    have hf := amin_in (lasts (cl M)) (n := 12) (by decide)
    have hfl := lasts_bd (cl M) (amin (lasts (cl M)) 12)
    refine g_istore_n F (lv' := [(2, .int (iI (amin (lasts (cl M)) 12))), (0, .ref (ma 100)), (1, .int (iI w))]) 2 dX6_holes_40 rfl (by decide) rfl ?_
    refine g_iconst F dX6_holes_41 ?_
    refine g_istore_n F (lv' := [(3, .int (iI 0)), (2, .int (iI (amin (lasts (cl M)) 12))), (0, .ref (ma 100)), (1, .int (iI w))]) 3 dX6_holes_42 rfl (by decide) rfl ?_
    refine g_iconst F dX6_holes_43 ?_
    refine g_istore F (lv' := [(4, .int (iI 1)), (3, .int (iI 0)), (2, .int (iI (amin (lasts (cl M)) 12))), (0, .ref (ma 100)), (1, .int (iI w))]) dX6_holes_44 (by decide) rfl ?_
    have L46 : ∀ (mz46 : Nat) (c : Int) (b : Int), (12 - c).toNat = mz46 → (1 ≤ c ∧ c ≤ 12) → (b = amax (lasts (cl M)) c) → G E (mw κ ma (agn (mA (stC (thk (mA M 10 (fun _ => 0))) (goI 61 (cl M))) 29 (lasts (cl M))) (mA M 10 (fun _ => 0)))) [(4, .int (iI c)), (3, .int (iI b)), (2, .int (iI (amin (lasts (cl M)) 12))), (0, .ref (ma 100)), (1, .int (iI w))] 46 [] := by
      intro mz46
      induction mz46 using Nat.strongRecOn with
      | _ mz46 ih46 =>
      intro c b hmz46 hc hb
      refine g_iload F 0 dX6_holes_46 rfl ?_
      refine g_bipush F dX6_holes_48 (by decide +kernel) ?_
      refine g_icmp_ge F 82 (by omega) dX6_holes_50 (by decide) (fun c50 => ?_) (fun c50 => ?_)
      · skip
        have hbe : b = amax (lasts (cl M)) 12 := by rw [hb, show c = 12 by omega]
        have hbi := amax_in (lasts (cl M)) (n := 12) (by decide)
        refine g_aload_n F 3 dX6_holes_82 rfl ?_
        refine gm_get_29 F dX6_holes_83 ?_
        refine g_iload_n F 2 dX6_holes_86 rfl ?_
        refine gm_ald_29 F (by omega) dX6_holes_87 ?_
        refine g_top (y := iI ((lasts (cl M)) (amin (lasts (cl M)) 12))) rfl ?_
        refine g_bipush F dX6_holes_88 (by decide +kernel) ?_
        refine g_icmp_ne F 97 (by omega) dX6_holes_90 (by decide) (fun c90 => ?_) (fun c90 => ?_)
        · skip
          refine g_iconst F dX6_holes_97 ?_
          refine g_istore F (lv' := [(4, .int (iI 0)), (3, .int (iI b)), (2, .int (iI (amin (lasts (cl M)) 12))), (0, .ref (ma 100)), (1, .int (iI w))]) dX6_holes_98 (by decide) rfl ?_
          refine g_iload_n F 4 dX6_holes_100 rfl ?_
          refine g_iconst F dX6_holes_101 ?_
          refine g_icmp_ne F 109 (by omega) dX6_holes_102 (by decide) (fun c102 => ?_) (fun c102 => ?_)
          · skip
            refine g_iload F 0 dX6_holes_109 rfl ?_
            refine g_if_eq F 119 (by omega) dX6_holes_111 (by decide) (fun c111 => ?_) (fun c111 => ?_)
            · skip
              refine g_iload_n F 4 dX6_holes_119 rfl ?_
              refine g_if_ne F 132 (by omega) dX6_holes_120 (by decide) (fun c120 => ?_) (fun c120 => ?_)
              · skip
                refine g_iload_n F 2 dX6_holes_132 rfl ?_
                have hq : amin (lasts (cl M)) 12 = qHoles (cl M) w := by unfold qHoles mn; (repeat' split) <;> omega
                exact K mw_same ⟨_, rfl, iIc hq, ⟨rfl, rfl, rfl, rfl, rfl, rfl, rfl, rfl, rfl, rfl, rfl, rfl, rfl, rfl, rfl, rfl, rfl, rfl⟩, (by rw [← hq]; exact (rfa_n (by omega)).symm)⟩ rfl dX6_holes_133
              · skip
                refine g_aload_n F 3 dX6_holes_123 rfl ?_
                refine gm_get_29 F dX6_holes_124 ?_
                refine g_iload_n F 2 dX6_holes_127 rfl ?_
                refine gm_ald_29 F (by omega) dX6_holes_128 ?_
                refine g_top (y := iI ((lasts (cl M)) (amin (lasts (cl M)) 12))) rfl ?_
                refine g_goto F 133 dX6_holes_129 (by decide) ?_
                have hq : (lasts (cl M)) (amin (lasts (cl M)) 12) = qHoles (cl M) w := by unfold qHoles mn; (repeat' split) <;> omega
                exact K mw_same ⟨_, rfl, iIc hq, ⟨rfl, rfl, rfl, rfl, rfl, rfl, rfl, rfl, rfl, rfl, rfl, rfl, rfl, rfl, rfl, rfl, rfl, rfl⟩, (by rw [← hq]; exact (rfa_n (by omega)).symm)⟩ rfl dX6_holes_133
            · skip
              refine g_bipush F dX6_holes_114 (by decide +kernel) ?_
              refine g_goto F 133 dX6_holes_116 (by decide) ?_
              have hq : -9 = qHoles (cl M) w := by unfold qHoles mn; (repeat' split) <;> omega
              exact K mw_same ⟨_, rfl, iIc hq, ⟨rfl, rfl, rfl, rfl, rfl, rfl, rfl, rfl, rfl, rfl, rfl, rfl, rfl, rfl, rfl, rfl, rfl, rfl⟩, (by rw [← hq]; exact (rfa_n (by omega)).symm)⟩ rfl dX6_holes_133
          · skip
            refine g_iload_n F 1 dX6_holes_105 rfl ?_
            refine g_goto F 133 dX6_holes_106 (by decide) ?_
            have hq : b = qHoles (cl M) w := by unfold qHoles mn; (repeat' split) <;> omega
            exact K mw_same ⟨_, rfl, iIc hq, ⟨rfl, rfl, rfl, rfl, rfl, rfl, rfl, rfl, rfl, rfl, rfl, rfl, rfl, rfl, rfl, rfl, rfl, rfl⟩, (by rw [← hq]; exact (rfa_n (by omega)).symm)⟩ rfl dX6_holes_133
        · skip
          refine g_iconst F dX6_holes_93 ?_
          refine g_goto F 98 dX6_holes_94 (by decide) ?_
          refine g_istore F (lv' := [(4, .int (iI 1)), (3, .int (iI b)), (2, .int (iI (amin (lasts (cl M)) 12))), (0, .ref (ma 100)), (1, .int (iI w))]) dX6_holes_98 (by decide) rfl ?_
          refine g_iload_n F 4 dX6_holes_100 rfl ?_
          refine g_iconst F dX6_holes_101 ?_
          refine g_icmp_ne F 109 (by omega) dX6_holes_102 (by decide) (fun c102 => ?_) (fun c102 => ?_)
          · skip
            refine g_iload F 0 dX6_holes_109 rfl ?_
            refine g_if_eq F 119 (by omega) dX6_holes_111 (by decide) (fun c111 => ?_) (fun c111 => ?_)
            · skip
              refine g_iload_n F 4 dX6_holes_119 rfl ?_
              refine g_if_ne F 132 (by omega) dX6_holes_120 (by decide) (fun c120 => ?_) (fun c120 => ?_)
              · skip
                refine g_iload_n F 2 dX6_holes_132 rfl ?_
                have hq : amin (lasts (cl M)) 12 = qHoles (cl M) w := by unfold qHoles mn; (repeat' split) <;> omega
                exact K mw_same ⟨_, rfl, iIc hq, ⟨rfl, rfl, rfl, rfl, rfl, rfl, rfl, rfl, rfl, rfl, rfl, rfl, rfl, rfl, rfl, rfl, rfl, rfl⟩, (by rw [← hq]; exact (rfa_n (by omega)).symm)⟩ rfl dX6_holes_133
              · skip
                refine g_aload_n F 3 dX6_holes_123 rfl ?_
                refine gm_get_29 F dX6_holes_124 ?_
                refine g_iload_n F 2 dX6_holes_127 rfl ?_
                refine gm_ald_29 F (by omega) dX6_holes_128 ?_
                refine g_top (y := iI ((lasts (cl M)) (amin (lasts (cl M)) 12))) rfl ?_
                refine g_goto F 133 dX6_holes_129 (by decide) ?_
                have hq : (lasts (cl M)) (amin (lasts (cl M)) 12) = qHoles (cl M) w := by unfold qHoles mn; (repeat' split) <;> omega
                exact K mw_same ⟨_, rfl, iIc hq, ⟨rfl, rfl, rfl, rfl, rfl, rfl, rfl, rfl, rfl, rfl, rfl, rfl, rfl, rfl, rfl, rfl, rfl, rfl⟩, (by rw [← hq]; exact (rfa_n (by omega)).symm)⟩ rfl dX6_holes_133
            · skip
              refine g_bipush F dX6_holes_114 (by decide +kernel) ?_
              refine g_goto F 133 dX6_holes_116 (by decide) ?_
              have hq : -9 = qHoles (cl M) w := by unfold qHoles mn; (repeat' split) <;> omega
              exact K mw_same ⟨_, rfl, iIc hq, ⟨rfl, rfl, rfl, rfl, rfl, rfl, rfl, rfl, rfl, rfl, rfl, rfl, rfl, rfl, rfl, rfl, rfl, rfl⟩, (by rw [← hq]; exact (rfa_n (by omega)).symm)⟩ rfl dX6_holes_133
          · skip
            refine g_iload_n F 1 dX6_holes_105 rfl ?_
            refine g_goto F 133 dX6_holes_106 (by decide) ?_
            have hq : b = qHoles (cl M) w := by unfold qHoles mn; (repeat' split) <;> omega
            exact K mw_same ⟨_, rfl, iIc hq, ⟨rfl, rfl, rfl, rfl, rfl, rfl, rfl, rfl, rfl, rfl, rfl, rfl, rfl, rfl, rfl, rfl, rfl, rfl⟩, (by rw [← hq]; exact (rfa_n (by omega)).symm)⟩ rfl dX6_holes_133
      · skip
        have hbi : 0 ≤ b ∧ b < c := by rw [hb]; exact amax_in _ hc.1
        have h1 := lasts_bd (cl M) c
        have h2 := lasts_bd (cl M) b
        refine g_aload_n F 3 dX6_holes_53 rfl ?_
        refine gm_get_29 F dX6_holes_54 ?_
        refine g_iload F 0 dX6_holes_57 rfl ?_
        refine gm_ald_29 F (by omega) dX6_holes_59 ?_
        refine g_top (y := iI ((lasts (cl M)) c)) rfl ?_
        refine g_aload_n F 3 dX6_holes_60 rfl ?_
        refine gm_get_29 F dX6_holes_61 ?_
        refine g_iload_n F 1 dX6_holes_64 rfl ?_
        refine gm_ald_29 F (by omega) dX6_holes_65 ?_
        refine g_top (y := iI ((lasts (cl M)) b)) rfl ?_
        refine g_icmp_le F 74 (by omega) dX6_holes_66 (by decide) (fun c66 => ?_) (fun c66 => ?_)
        · skip
          refine g_iload_n F 1 dX6_holes_74 rfl ?_
          refine g_istore_n F (lv' := [(3, .int (iI b)), (4, .int (iI c)), (2, .int (iI (amin (lasts (cl M)) 12))), (0, .ref (ma 100)), (1, .int (iI w))]) 3 dX6_holes_75 rfl (by decide) rfl ?_
          refine g_iinc F (lv' := [(4, .int (iI (c + 1))), (3, .int (iI b)), (2, .int (iI (amin (lasts (cl M)) 12))), (0, .ref (ma 100)), (1, .int (iI w))]) 1 dX6_holes_76 rfl (by decide) rfl ?_
          refine g_goto F 46 dX6_holes_79 (by decide) ?_
          refine g_sub F (lv' := [(4, .int (iI (c + 1))), (3, .int (iI b)), (2, .int (iI (amin (lasts (cl M)) 12))), (0, .ref (ma 100)), (1, .int (iI w))]) [0, 1, 2, 3, 4] rfl ?_
          exact ih46 _ (by omega) (c + 1) b rfl (by omega) (by rw [amax_s _ (by omega), ← hb]; split <;> omega)
        · skip
          refine g_iload F 0 dX6_holes_69 rfl ?_
          refine g_goto F 75 dX6_holes_71 (by decide) ?_
          refine g_istore_n F (lv' := [(3, .int (iI c)), (4, .int (iI c)), (2, .int (iI (amin (lasts (cl M)) 12))), (0, .ref (ma 100)), (1, .int (iI w))]) 3 dX6_holes_75 rfl (by decide) rfl ?_
          refine g_iinc F (lv' := [(4, .int (iI (c + 1))), (3, .int (iI c)), (2, .int (iI (amin (lasts (cl M)) 12))), (0, .ref (ma 100)), (1, .int (iI w))]) 1 dX6_holes_76 rfl (by decide) rfl ?_
          refine g_goto F 46 dX6_holes_79 (by decide) ?_
          refine g_sub F (lv' := [(4, .int (iI (c + 1))), (3, .int (iI c)), (2, .int (iI (amin (lasts (cl M)) 12))), (0, .ref (ma 100)), (1, .int (iI w))]) [0, 1, 2, 3, 4] rfl ?_
          exact ih46 _ (by omega) (c + 1) c rfl (by omega) (by rw [amax_s _ (by omega), ← hb]; split <;> omega)
    refine g_sub F (lv' := [(4, .int (iI 1)), (3, .int (iI 0)), (2, .int (iI (amin (lasts (cl M)) 12))), (0, .ref (ma 100)), (1, .int (iI w))]) [0, 1, 2, 3, 4] rfl ?_
    exact L46 _ 1 0 rfl (by omega) (amax_1 _).symm
  · skip
    have c14 : ¬ (0 ≤ w ∧ w ≤ 2) := b2i_f c14
    refine g_aload_n F 0 dX6_holes_17 rfl ?_
    refine g_bipush F dX6_holes_18 (by decide +kernel) ?_
    refine g_callI F (stk := [.int (iI (-2)), .ref (ma 100)]) (st := []) (k_X6_refuse κ ma (mA M 10 (fun _ => 0)) (-2) (by omega)) cal_X6_refuse lm_X6_138 0 rfl rfl rfl rfl (by decide) rfl (Nat.le_of_ble_eq_true rfl) dX6_holes_20 (fun r20 ws20 _ hr20 => ?_)
    obtain ⟨rfl, rfl⟩ := hr20
    refine g_top (y := iI (-2)) rfl ?_
    refine g_ws (ws' := mw κ ma (mA (mA M 10 (fun _ => 0)) 11 (uI (M 11) (-(-2)) (M 11 (-(-2)) + 1)))) rfl ?_
    have hq : (-2) = qHoles (cl M) w := by unfold qHoles mn; (repeat' split) <;> omega
    exact K mw_same ⟨_, rfl, iIc hq, ⟨rfl, rfl, rfl, rfl, rfl, rfl, rfl, rfl, rfl, rfl, rfl, rfl, rfl, rfl, rfl, rfl, rfl, rfl⟩, (by rw [← hq]; exact (rfa_r (by omega)).symm)⟩ rfl dX6_holes_23
