theorem dX1_takeBack_0 : decode cX1_takeBack 0 = .ok (.aload_n 0, 1) := by decide +kernel
theorem dX1_takeBack_1 : decode cX1_takeBack 1 = .ok (.getfield 34, 3) := by decide +kernel
theorem dX1_takeBack_4 : decode cX1_takeBack 4 = .ok (.ifCond .ne 4, 3) := by decide +kernel
theorem dX1_takeBack_7 : decode cX1_takeBack 7 = .ok (.return_, 1) := by decide +kernel
theorem dX1_takeBack_8 : decode cX1_takeBack 8 = .ok (.aload_n 0, 1) := by decide +kernel
theorem dX1_takeBack_9 : decode cX1_takeBack 9 = .ok (.aload_n 0, 1) := by decide +kernel
theorem dX1_takeBack_10 : decode cX1_takeBack 10 = .ok (.getfield 22, 3) := by decide +kernel
theorem dX1_takeBack_13 : decode cX1_takeBack 13 = .ok (.bipush 8, 2) := by decide +kernel
theorem dX1_takeBack_15 : decode cX1_takeBack 15 = .ok (.iadd, 1) := by decide +kernel
theorem dX1_takeBack_16 : decode cX1_takeBack 16 = .ok (.iconst 1, 1) := by decide +kernel
theorem dX1_takeBack_17 : decode cX1_takeBack 17 = .ok (.isub, 1) := by decide +kernel
theorem dX1_takeBack_18 : decode cX1_takeBack 18 = .ok (.bipush 8, 2) := by decide +kernel
theorem dX1_takeBack_20 : decode cX1_takeBack 20 = .ok (.irem, 1) := by decide +kernel
theorem dX1_takeBack_21 : decode cX1_takeBack 21 = .ok (.putfield 22, 3) := by decide +kernel
theorem dX1_takeBack_24 : decode cX1_takeBack 24 = .ok (.aload_n 1, 1) := by decide +kernel
theorem dX1_takeBack_25 : decode cX1_takeBack 25 = .ok (.aload_n 0, 1) := by decide +kernel
theorem dX1_takeBack_26 : decode cX1_takeBack 26 = .ok (.getfield 11, 3) := by decide +kernel
theorem dX1_takeBack_29 : decode cX1_takeBack 29 = .ok (.aload_n 0, 1) := by decide +kernel
theorem dX1_takeBack_30 : decode cX1_takeBack 30 = .ok (.getfield 22, 3) := by decide +kernel
theorem dX1_takeBack_33 : decode cX1_takeBack 33 = .ok (.aaload, 1) := by decide +kernel
theorem dX1_takeBack_34 : decode cX1_takeBack 34 = .ok (.invokevirtual 26, 3) := by decide +kernel
theorem dX1_takeBack_37 : decode cX1_takeBack 37 = .ok (.aload_n 2, 1) := by decide +kernel
theorem dX1_takeBack_38 : decode cX1_takeBack 38 = .ok (.aload_n 0, 1) := by decide +kernel
theorem dX1_takeBack_39 : decode cX1_takeBack 39 = .ok (.getfield 17, 3) := by decide +kernel
theorem dX1_takeBack_42 : decode cX1_takeBack 42 = .ok (.aload_n 0, 1) := by decide +kernel
theorem dX1_takeBack_43 : decode cX1_takeBack 43 = .ok (.getfield 22, 3) := by decide +kernel
theorem dX1_takeBack_46 : decode cX1_takeBack 46 = .ok (.iaload, 1) := by decide +kernel
theorem dX1_takeBack_47 : decode cX1_takeBack 47 = .ok (.putfield 30, 3) := by decide +kernel
theorem dX1_takeBack_50 : decode cX1_takeBack 50 = .ok (.aload_n 0, 1) := by decide +kernel
theorem dX1_takeBack_51 : decode cX1_takeBack 51 = .ok (.dup, 1) := by decide +kernel
theorem dX1_takeBack_52 : decode cX1_takeBack 52 = .ok (.getfield 34, 3) := by decide +kernel
theorem dX1_takeBack_55 : decode cX1_takeBack 55 = .ok (.iconst 1, 1) := by decide +kernel
theorem dX1_takeBack_56 : decode cX1_takeBack 56 = .ok (.isub, 1) := by decide +kernel
theorem dX1_takeBack_57 : decode cX1_takeBack 57 = .ok (.putfield 34, 3) := by decide +kernel
theorem dX1_takeBack_60 : decode cX1_takeBack 60 = .ok (.return_, 1) := by decide +kernel
set_option maxRecDepth 100000 in
set_option maxHeartbeats 4000000 in
theorem k_X1_takeBack (κ : Kp) (xa : Nat → Nat → Nat) (X : XS) (z y : Int) (hz : 0 ≤ z ∧ z < 8) (hx : X 15 2 0 = z) (hy : y = (z + 8 - 1) % 8) (hs : 0 < X 15 3 0 ∧ X 15 3 0 ≤ 8) : mV κ yX1_takeBack cX1_takeBack 3 2 [.ref (xa 15 100), .ref (xa 0 100), .ref (xa 12 100)] (xw κ xa X) (is0 (xw κ xa (setO (setO (setO X 0 (stC (X 0) (cl (X (4 + y.toNat))))) 12 (mA (X 12) 4 (fun _ => X 15 1 y))) 15 (mA (mA (X 15) 2 (fun _ => y)) 3 (fun _ => X 15 3 0 - 1))))) := by
  refine mV_of (by decide) (Nat.le_of_ble_eq_true rfl) (fun E F K => ?_)
  refine g_lv (lv' := [(0, .ref (xa 15 100)), (1, .ref (xa 0 100)), (2, .ref (xa 12 100))]) rfl ?_
  refine g_aload_n F 0 dX1_takeBack_0 rfl ?_
  refine g15_get_3 F  lf_X1_34 dX1_takeBack_1 ?_
  refine g_if_ne F 8 (by omega) dX1_takeBack_4 (by decide) (fun c4 => ?_) (fun c4 => ?_)
  · skip
    refine g_aload_n F 0 dX1_takeBack_8 rfl ?_
    refine g_aload_n F 0 dX1_takeBack_9 rfl ?_
    refine g15_get_2 F  lf_X1_22 dX1_takeBack_10 ?_
    refine g_top (y := iI z) (iIc hx) ?_
    refine g_bipush F dX1_takeBack_13 (by decide +kernel) ?_
    refine g_iadd F dX1_takeBack_15 ?_
    refine g_iconst F dX1_takeBack_16 ?_
    refine g_isub F dX1_takeBack_17 ?_
    refine g_bipush F dX1_takeBack_18 (by decide +kernel) ?_
    refine g_irem F dX1_takeBack_20 (by omega) ?_
    refine g_top (y := iI y) (iIc hy.symm) ?_
    refine g15_put_2 F   lf_X1_22 dX1_takeBack_21 ?_
    refine g_aload_n F 1 dX1_takeBack_24 rfl ?_
    refine g_aload_n F 0 dX1_takeBack_25 rfl ?_
    refine g15_get_0 F  lf_X1_11 dX1_takeBack_26 ?_
    refine g_aload_n F 0 dX1_takeBack_29 rfl ?_
    refine g15_get_2 F  lf_X1_22 dX1_takeBack_30 ?_
    refine g_top (y := iI y) rfl ?_
    refine g_past F (by omega) dX1_takeBack_33 ?_
    refine g_callNV F (stk := [.ref (xa (4 + y.toNat) 100), .ref (xa 0 100)]) (st := []) (k_X0_become κ xa (setO X 15 (mA (X 15) 2 (fun _ => y))) 0 (by decide) (4 + y.toNat) (by omega) (by omega)) cal_X0_become nm_X1_26 0 rfl rfl rfl rfl (by decide) rfl (Nat.le_of_ble_eq_true rfl) dX1_takeBack_34 (fun ws34 _ hr34 => ?_)
    obtain rfl := hr34
    refine g_ws (ws' := xw κ xa (setO (setO X 15 (mA (X 15) 2 (fun _ => y))) 0 (stC (X 0) (cl (X (4 + y.toNat)))))) (by rw [setO_n (a := 4 + y.toNat) (by omega)]; rfl) ?_
    refine g_aload_n F 2 dX1_takeBack_37 rfl ?_
    refine g_aload_n F 0 dX1_takeBack_38 rfl ?_
    refine g15_get_1 F  lf_X1_17 dX1_takeBack_39 ?_
    refine g_aload_n F 0 dX1_takeBack_42 rfl ?_
    refine g15_get_2 F  lf_X1_22 dX1_takeBack_43 ?_
    refine g_top (y := iI y) rfl ?_
    refine g15_ald_1 F  (by omega) dX1_takeBack_46 ?_
    refine g_top (y := iI ((X 15) 1 y)) rfl ?_
    refine gr_putN_4 F  (o := 0) (by decide) nf_X1_30 dX1_takeBack_47 ?_
    refine g_ws (ws' := xw κ xa (setO (setO (setO X 15 (mA (X 15) 2 (fun _ => y))) 0 (stC (X 0) (cl (X (4 + y.toNat))))) 12 (mA (X 12) 4 (fun _ => (X 15) 1 y)))) rfl ?_
    refine g_aload_n F 0 dX1_takeBack_50 rfl ?_
    refine g_dup F dX1_takeBack_51 rfl ?_
    refine g15_get_3 F  lf_X1_34 dX1_takeBack_52 ?_
    refine g_top (y := iI ((X 15) 3 0)) rfl ?_
    refine g_iconst F dX1_takeBack_55 ?_
    refine g_isub F dX1_takeBack_56 ?_
    refine g15_put_3 F   lf_X1_34 dX1_takeBack_57 ?_
    refine g_ws (ws' := xw κ xa (setO (setO (setO (setO X 15 (mA (X 15) 2 (fun _ => y))) 0 (stC (X 0) (cl (X (4 + y.toNat))))) 12 (mA (X 12) 4 (fun _ => (X 15) 1 y))) 15 (mA (mA (X 15) 2 (fun _ => y)) 3 (fun _ => ((X 15) 3 0) - 1)))) rfl ?_
    exact K xw_same rfl dX1_takeBack_60
  · skip
    exact absurd trivial (by omega)
theorem dX5_refuse_0 : decode cX5_refuse 0 = .ok (.aload_n 0, 1) := by decide +kernel
theorem dX5_refuse_1 : decode cX5_refuse 1 = .ok (.getfield 41, 3) := by decide +kernel
theorem dX5_refuse_4 : decode cX5_refuse 4 = .ok (.iload_n 1, 1) := by decide +kernel
theorem dX5_refuse_5 : decode cX5_refuse 5 = .ok (.ineg, 1) := by decide +kernel
theorem dX5_refuse_6 : decode cX5_refuse 6 = .ok (.dup2, 1) := by decide +kernel
theorem dX5_refuse_7 : decode cX5_refuse 7 = .ok (.iaload, 1) := by decide +kernel
theorem dX5_refuse_8 : decode cX5_refuse 8 = .ok (.iconst 1, 1) := by decide +kernel
theorem dX5_refuse_9 : decode cX5_refuse 9 = .ok (.iadd, 1) := by decide +kernel
theorem dX5_refuse_10 : decode cX5_refuse 10 = .ok (.iastore, 1) := by decide +kernel
theorem dX5_refuse_11 : decode cX5_refuse 11 = .ok (.iload_n 1, 1) := by decide +kernel
theorem dX5_refuse_12 : decode cX5_refuse 12 = .ok (.ireturn, 1) := by decide +kernel
set_option maxRecDepth 100000 in
set_option maxHeartbeats 4000000 in
theorem k_X5_refuse (κ : Kp) (xa : Nat → Nat → Nat) (X : XS) (m : Int)  (hm : -6 ≤ m ∧ m ≤ 0) : mI κ yX5_refuse cX5_refuse 2 .int 0 [.ref (xa 18 100), .int (iI m)] (xw κ xa X) (is1 (iI (m)) (xw κ xa (setO X 18 (mA (X 18) 6 (uI ((X 18) 6) (-m) ((X 18) 6 (-m) + 1)))))) := by
  refine mI_of (by decide) (Nat.le_of_ble_eq_true rfl) (fun E F K => ?_)
  refine g_lv (lv' := [(0, .ref (xa 18 100)), (1, .int (iI m))]) rfl ?_
  refine g_aload_n F 0 dX5_refuse_0 rfl ?_
  refine g18_get_6 F  lf_X5_41 dX5_refuse_1 ?_
  refine g_iload_n F 1 dX5_refuse_4 rfl ?_
  refine g_ineg F dX5_refuse_5 ?_
  refine g_dup2 F dX5_refuse_6 rfl rfl ?_
  refine g18_ald_6 F  (by omega) dX5_refuse_7 ?_
  refine g_iconst F dX5_refuse_8 ?_
  refine g_iadd F dX5_refuse_9 ?_
  refine g18_ast_6 F  (by omega) dX5_refuse_10 ?_
  refine g_iload_n F 1 dX5_refuse_11 rfl ?_
  exact K xw_same ⟨rfl, rfl⟩ rfl dX5_refuse_12
theorem dX5_isCell_0 : decode cX5_isCell 0 = .ok (.iload_n 0, 1) := by decide +kernel
theorem dX5_isCell_1 : decode cX5_isCell 1 = .ok (.ifCond .lt 13, 3) := by decide +kernel
theorem dX5_isCell_4 : decode cX5_isCell 4 = .ok (.iload_n 0, 1) := by decide +kernel
theorem dX5_isCell_5 : decode cX5_isCell 5 = .ok (.bipush 12, 2) := by decide +kernel
theorem dX5_isCell_7 : decode cX5_isCell 7 = .ok (.if_icmp .ge 7, 3) := by decide +kernel
theorem dX5_isCell_10 : decode cX5_isCell 10 = .ok (.iconst 1, 1) := by decide +kernel
theorem dX5_isCell_11 : decode cX5_isCell 11 = .ok (.goto 4, 3) := by decide +kernel
theorem dX5_isCell_14 : decode cX5_isCell 14 = .ok (.iconst 0, 1) := by decide +kernel
theorem dX5_isCell_15 : decode cX5_isCell 15 = .ok (.ireturn, 1) := by decide +kernel
set_option maxRecDepth 100000 in
set_option maxHeartbeats 4000000 in
theorem k_X5_isCell (κ : Kp) (ws : va_W) (c : Int)  (hr : In32 c) : mI κ yX5_isCell cX5_isCell 1 .boolean 0 [.int (iI c)] ws (is1 (iI (b2i (0 ≤ c ∧ c < 12))) ws) := by
  refine mI_of (by decide) (Nat.le_of_ble_eq_true rfl) (fun E F K => ?_)
  refine g_lv (lv' := [(0, .int (iI c))]) rfl ?_
  refine g_iload_n F 0 dX5_isCell_0 rfl ?_
  refine g_if_lt F 14 (by omega) dX5_isCell_1 (by decide) (fun c1 => ?_) (fun c1 => ?_)
  · skip
    refine g_iconst F dX5_isCell_14 ?_
    exact K sameA.rf ⟨b2i_0 (by omega), rfl⟩ (by decide +kernel) dX5_isCell_15
  · skip
    refine g_iload_n F 0 dX5_isCell_4 rfl ?_
    refine g_bipush F dX5_isCell_5 (by decide +kernel) ?_
    refine g_icmp_ge F 14 (by omega) dX5_isCell_7 (by decide) (fun c7 => ?_) (fun c7 => ?_)
    · skip
      refine g_iconst F dX5_isCell_14 ?_
      exact K sameA.rf ⟨b2i_0 (by omega), rfl⟩ (by decide +kernel) dX5_isCell_15
    · skip
      refine g_iconst F dX5_isCell_10 ?_
      refine g_goto F 15 dX5_isCell_11 (by decide) ?_
      exact K sameA.rf ⟨b2i_1 (by omega), rfl⟩ (by decide +kernel) dX5_isCell_15
theorem dX5_isKind_0 : decode cX5_isKind 0 = .ok (.iload_n 0, 1) := by decide +kernel
theorem dX5_isKind_1 : decode cX5_isKind 1 = .ok (.ifCond .lt 13, 3) := by decide +kernel
theorem dX5_isKind_4 : decode cX5_isKind 4 = .ok (.iload_n 0, 1) := by decide +kernel
theorem dX5_isKind_5 : decode cX5_isKind 5 = .ok (.bipush 6, 2) := by decide +kernel
theorem dX5_isKind_7 : decode cX5_isKind 7 = .ok (.if_icmp .ge 7, 3) := by decide +kernel
theorem dX5_isKind_10 : decode cX5_isKind 10 = .ok (.iconst 1, 1) := by decide +kernel
theorem dX5_isKind_11 : decode cX5_isKind 11 = .ok (.goto 4, 3) := by decide +kernel
theorem dX5_isKind_14 : decode cX5_isKind 14 = .ok (.iconst 0, 1) := by decide +kernel
theorem dX5_isKind_15 : decode cX5_isKind 15 = .ok (.ireturn, 1) := by decide +kernel
set_option maxRecDepth 100000 in
set_option maxHeartbeats 4000000 in
theorem k_X5_isKind (κ : Kp) (ws : va_W) (c : Int)  (hr : In32 c) : mI κ yX5_isKind cX5_isKind 1 .boolean 0 [.int (iI c)] ws (is1 (iI (b2i (0 ≤ c ∧ c < 6))) ws) := by
  refine mI_of (by decide) (Nat.le_of_ble_eq_true rfl) (fun E F K => ?_)
  refine g_lv (lv' := [(0, .int (iI c))]) rfl ?_
  refine g_iload_n F 0 dX5_isKind_0 rfl ?_
  refine g_if_lt F 14 (by omega) dX5_isKind_1 (by decide) (fun c1 => ?_) (fun c1 => ?_)
  · skip
    refine g_iconst F dX5_isKind_14 ?_
    exact K sameA.rf ⟨b2i_0 (by omega), rfl⟩ (by decide +kernel) dX5_isKind_15
  · skip
    refine g_iload_n F 0 dX5_isKind_4 rfl ?_
    refine g_bipush F dX5_isKind_5 (by decide +kernel) ?_
    refine g_icmp_ge F 14 (by omega) dX5_isKind_7 (by decide) (fun c7 => ?_) (fun c7 => ?_)
    · skip
      refine g_iconst F dX5_isKind_14 ?_
      exact K sameA.rf ⟨b2i_0 (by omega), rfl⟩ (by decide +kernel) dX5_isKind_15
    · skip
      refine g_iconst F dX5_isKind_10 ?_
      refine g_goto F 15 dX5_isKind_11 (by decide) ?_
      exact K sameA.rf ⟨b2i_1 (by omega), rfl⟩ (by decide +kernel) dX5_isKind_15
theorem dX5_thinkYears_0 : decode cX5_thinkYears 0 = .ok (.aload_n 0, 1) := by decide +kernel
theorem dX5_thinkYears_1 : decode cX5_thinkYears 1 = .ok (.getfield 50, 3) := by decide +kernel
theorem dX5_thinkYears_4 : decode cX5_thinkYears 4 = .ok (.aload_n 0, 1) := by decide +kernel
theorem dX5_thinkYears_5 : decode cX5_thinkYears 5 = .ok (.getfield 10, 3) := by decide +kernel
theorem dX5_thinkYears_8 : decode cX5_thinkYears 8 = .ok (.invokevirtual 88, 3) := by decide +kernel
theorem dX5_thinkYears_11 : decode cX5_thinkYears 11 = .ok (.aload_n 0, 1) := by decide +kernel
theorem dX5_thinkYears_12 : decode cX5_thinkYears 12 = .ok (.getfield 50, 3) := by decide +kernel
theorem dX5_thinkYears_15 : decode cX5_thinkYears 15 = .ok (.iload_n 1, 1) := by decide +kernel
theorem dX5_thinkYears_16 : decode cX5_thinkYears 16 = .ok (.invokevirtual 166, 3) := by decide +kernel
theorem dX5_thinkYears_19 : decode cX5_thinkYears 19 = .ok (.return_, 1) := by decide +kernel
set_option maxRecDepth 100000 in
set_option maxHeartbeats 4000000 in
theorem k_X5_thinkYears (κ : Kp) (xa : Nat → Nat → Nat) (X : XS) (n : Int)  (hn : (0 ≤ n ∧ n ≤ 1000) ∧ X 0 4 0 + n ≤ 1000000) (ok : okC (cl (X 0))) : mV κ yX5_thinkYears cX5_thinkYears 2 4 [.ref (xa 18 100), .int (iI n)] (xw κ xa X) (is0 (xw κ xa (setO X 2 (stC (X 2) (goI n (cl (X 0))))))) := by
  refine mV_of (by decide) (Nat.le_of_ble_eq_true rfl) (fun E F K => ?_)
  refine g_lv (lv' := [(0, .ref (xa 18 100)), (1, .int (iI n))]) rfl ?_
  refine g_aload_n F 0 dX5_thinkYears_0 rfl ?_
  refine g18_get_10 F  lf_X5_50 dX5_thinkYears_1 ?_
  refine g_aload_n F 0 dX5_thinkYears_4 rfl ?_
  refine g18_get_0 F  lf_X5_10 dX5_thinkYears_5 ?_
  refine g_callNV F (stk := [.ref (xa 0 100), .ref (xa 2 100)]) (st := []) (k_X0_become κ xa X 2 (by decide) 0 (by decide) (by decide)) cal_X0_become nm_X5_88 10 rfl rfl rfl rfl (by decide) rfl (Nat.le_of_ble_eq_true rfl) dX5_thinkYears_8 (fun ws8 _ hr8 => ?_)
  obtain rfl := hr8
  refine g_aload_n F 0 dX5_thinkYears_11 rfl ?_
  refine g18_get_10 F  lf_X5_50 dX5_thinkYears_12 ?_
  refine g_iload_n F 1 dX5_thinkYears_15 rfl ?_
  refine g_callNV F (stk := [.int (iI n), .ref (xa 2 100)]) (st := []) (kS_X0_goOn κ xa X 2 (by decide) (stC (X 2) (cl (X 0))) n (show (0 ≤ n ∧ n ≤ 1000) ∧ (yr (cl (X 0))) + n ≤ 1000000 from by omega) ok) cal_X0_goOn nm_X5_166 10 rfl rfl rfl rfl (by decide) rfl (Nat.le_of_ble_eq_true rfl) dX5_thinkYears_16 (fun ws16 _ hr16 => ?_)
  obtain rfl := hr16
  refine g_ws (ws' := xw κ xa (setO X 2 (stC (X 2) (goI n (cl (X 0)))))) rfl ?_
  exact K xw_same rfl dX5_thinkYears_19
theorem dX5_thinkOther_0 : decode cX5_thinkOther 0 = .ok (.aload_n 0, 1) := by decide +kernel
theorem dX5_thinkOther_1 : decode cX5_thinkOther 1 = .ok (.getfield 50, 3) := by decide +kernel
theorem dX5_thinkOther_4 : decode cX5_thinkOther 4 = .ok (.aload_n 0, 1) := by decide +kernel
theorem dX5_thinkOther_5 : decode cX5_thinkOther 5 = .ok (.getfield 10, 3) := by decide +kernel
theorem dX5_thinkOther_8 : decode cX5_thinkOther 8 = .ok (.invokevirtual 88, 3) := by decide +kernel
theorem dX5_thinkOther_11 : decode cX5_thinkOther 11 = .ok (.iload_n 2, 1) := by decide +kernel
theorem dX5_thinkOther_12 : decode cX5_thinkOther 12 = .ok (.ifCond .ne 16, 3) := by decide +kernel
theorem dX5_thinkOther_15 : decode cX5_thinkOther 15 = .ok (.aload_n 0, 1) := by decide +kernel
theorem dX5_thinkOther_16 : decode cX5_thinkOther 16 = .ok (.getfield 50, 3) := by decide +kernel
theorem dX5_thinkOther_19 : decode cX5_thinkOther 19 = .ok (.getfield 169, 3) := by decide +kernel
theorem dX5_thinkOther_22 : decode cX5_thinkOther 22 = .ok (.iload_n 1, 1) := by decide +kernel
theorem dX5_thinkOther_23 : decode cX5_thinkOther 23 = .ok (.iload_n 3, 1) := by decide +kernel
theorem dX5_thinkOther_24 : decode cX5_thinkOther 24 = .ok (.iastore, 1) := by decide +kernel
theorem dX5_thinkOther_25 : decode cX5_thinkOther 25 = .ok (.goto 31, 3) := by decide +kernel
theorem dX5_thinkOther_28 : decode cX5_thinkOther 28 = .ok (.iload_n 2, 1) := by decide +kernel
theorem dX5_thinkOther_29 : decode cX5_thinkOther 29 = .ok (.iconst 1, 1) := by decide +kernel
theorem dX5_thinkOther_30 : decode cX5_thinkOther 30 = .ok (.if_icmp .ne 16, 3) := by decide +kernel
theorem dX5_thinkOther_33 : decode cX5_thinkOther 33 = .ok (.aload_n 0, 1) := by decide +kernel
theorem dX5_thinkOther_34 : decode cX5_thinkOther 34 = .ok (.getfield 50, 3) := by decide +kernel
theorem dX5_thinkOther_37 : decode cX5_thinkOther 37 = .ok (.getfield 172, 3) := by decide +kernel
theorem dX5_thinkOther_40 : decode cX5_thinkOther 40 = .ok (.iload_n 1, 1) := by decide +kernel
theorem dX5_thinkOther_41 : decode cX5_thinkOther 41 = .ok (.iload_n 3, 1) := by decide +kernel
theorem dX5_thinkOther_42 : decode cX5_thinkOther 42 = .ok (.iastore, 1) := by decide +kernel
theorem dX5_thinkOther_43 : decode cX5_thinkOther 43 = .ok (.goto 13, 3) := by decide +kernel
theorem dX5_thinkOther_46 : decode cX5_thinkOther 46 = .ok (.aload_n 0, 1) := by decide +kernel
theorem dX5_thinkOther_47 : decode cX5_thinkOther 47 = .ok (.getfield 50, 3) := by decide +kernel
theorem dX5_thinkOther_50 : decode cX5_thinkOther 50 = .ok (.getfield 175, 3) := by decide +kernel
theorem dX5_thinkOther_53 : decode cX5_thinkOther 53 = .ok (.iload_n 1, 1) := by decide +kernel
theorem dX5_thinkOther_54 : decode cX5_thinkOther 54 = .ok (.iload_n 3, 1) := by decide +kernel
theorem dX5_thinkOther_55 : decode cX5_thinkOther 55 = .ok (.iastore, 1) := by decide +kernel
theorem dX5_thinkOther_56 : decode cX5_thinkOther 56 = .ok (.return_, 1) := by decide +kernel
set_option maxRecDepth 100000 in
set_option maxHeartbeats 4000000 in
theorem k_X5_thinkOther (κ : Kp) (xa : Nat → Nat → Nat) (X : XS) (c : Int) (w : Int) (v : Int)  (h0 : (0 ≤ c ∧ c < 12) ∧ 0 ≤ w ∧ w ≤ 2) : mV κ yX5_thinkOther cX5_thinkOther 4 2 [.ref (xa 18 100), .int (iI c), .int (iI w), .int (iI v)] (xw κ xa X) (is0 (xw κ xa (setO X 2 (stC (X 2) (oth (cl (X 0)) w c v))))) := by
  refine mV_of (by decide) (Nat.le_of_ble_eq_true rfl) (fun E F K => ?_)
  refine g_lv (lv' := [(0, .ref (xa 18 100)), (1, .int (iI c)), (2, .int (iI w)), (3, .int (iI v))]) rfl ?_
  refine g_aload_n F 0 dX5_thinkOther_0 rfl ?_
  refine g18_get_10 F  lf_X5_50 dX5_thinkOther_1 ?_
  refine g_aload_n F 0 dX5_thinkOther_4 rfl ?_
  refine g18_get_0 F  lf_X5_10 dX5_thinkOther_5 ?_
  refine g_callNV F (stk := [.ref (xa 0 100), .ref (xa 2 100)]) (st := []) (k_X0_become κ xa X 2 (by decide) 0 (by decide) (by decide)) cal_X0_become nm_X5_88 10 rfl rfl rfl rfl (by decide) rfl (Nat.le_of_ble_eq_true rfl) dX5_thinkOther_8 (fun ws8 _ hr8 => ?_)
  obtain rfl := hr8
  refine g_iload_n F 2 dX5_thinkOther_11 rfl ?_
  refine g_if_ne F 28 (by omega) dX5_thinkOther_12 (by decide) (fun c12 => ?_) (fun c12 => ?_)
  · skip
    refine g_iload_n F 2 dX5_thinkOther_28 rfl ?_
    refine g_iconst F dX5_thinkOther_29 ?_
    refine g_icmp_ne F 46 (by omega) dX5_thinkOther_30 (by decide) (fun c30 => ?_) (fun c30 => ?_)
    · skip
      refine g_aload_n F 0 dX5_thinkOther_46 rfl ?_
      refine g18_get_10 F  lf_X5_50 dX5_thinkOther_47 ?_
      refine gcS_getN_2 F (o := 2) (by decide) nf_X5_175 dX5_thinkOther_50 ?_
      refine g_iload_n F 1 dX5_thinkOther_53 rfl ?_
      refine g_iload_n F 3 dX5_thinkOther_54 rfl ?_
      refine gcS_ast_2 F (o := 2) (by decide) (by omega) dX5_thinkOther_55 ?_
      refine g_ws (ws' := xw κ xa (setO X 2 (mA (stC (X 2) (cl (X 0))) 2 (uI (ag (cl (X 0))) c v)))) rfl ?_
      exact K xw_same (by first | (rw [oth_0 c12]; rfl) | (rw [oth_1 c30]; rfl) | (rw [oth_2 c12 c30]; rfl)) dX5_thinkOther_56
    · skip
      refine g_aload_n F 0 dX5_thinkOther_33 rfl ?_
      refine g18_get_10 F  lf_X5_50 dX5_thinkOther_34 ?_
      refine gcS_getN_1 F (o := 2) (by decide) nf_X5_172 dX5_thinkOther_37 ?_
      refine g_iload_n F 1 dX5_thinkOther_40 rfl ?_
      refine g_iload_n F 3 dX5_thinkOther_41 rfl ?_
      refine gcS_ast_1 F (o := 2) (by decide) (by omega) dX5_thinkOther_42 ?_
      refine g_ws (ws' := xw κ xa (setO X 2 (mA (stC (X 2) (cl (X 0))) 1 (uI (fi (cl (X 0))) c v)))) rfl ?_
      refine g_goto F 56 dX5_thinkOther_43 (by decide) ?_
      exact K xw_same (by first | (rw [oth_0 c12]; rfl) | (rw [oth_1 c30]; rfl) | (rw [oth_2 c12 c30]; rfl)) dX5_thinkOther_56
  · skip
    refine g_aload_n F 0 dX5_thinkOther_15 rfl ?_
    refine g18_get_10 F  lf_X5_50 dX5_thinkOther_16 ?_
    refine gcS_getN_0 F (o := 2) (by decide) nf_X5_169 dX5_thinkOther_19 ?_
    refine g_iload_n F 1 dX5_thinkOther_22 rfl ?_
    refine g_iload_n F 3 dX5_thinkOther_23 rfl ?_
    refine gcS_ast_0 F (o := 2) (by decide) (by omega) dX5_thinkOther_24 ?_
    refine g_ws (ws' := xw κ xa (setO X 2 (mA (stC (X 2) (cl (X 0))) 0 (uI (ki (cl (X 0))) c v)))) rfl ?_
    refine g_goto F 56 dX5_thinkOther_25 (by decide) ?_
    exact K xw_same (by first | (rw [oth_0 c12]; rfl) | (rw [oth_1 c30]; rfl) | (rw [oth_2 c12 c30]; rfl)) dX5_thinkOther_56
theorem dX5_mindWoreSo_0 : decode cX5_mindWoreSo 0 = .ok (.iconst 0, 1) := by decide +kernel
theorem dX5_mindWoreSo_1 : decode cX5_mindWoreSo 1 = .ok (.istore_n 2, 1) := by decide +kernel
theorem dX5_mindWoreSo_2 : decode cX5_mindWoreSo 2 = .ok (.iload_n 2, 1) := by decide +kernel
theorem dX5_mindWoreSo_3 : decode cX5_mindWoreSo 3 = .ok (.aload_n 0, 1) := by decide +kernel
theorem dX5_mindWoreSo_4 : decode cX5_mindWoreSo 4 = .ok (.getfield 281, 3) := by decide +kernel
theorem dX5_mindWoreSo_7 : decode cX5_mindWoreSo 7 = .ok (.if_icmp .ge 37, 3) := by decide +kernel
theorem dX5_mindWoreSo_10 : decode cX5_mindWoreSo 10 = .ok (.aload_n 0, 1) := by decide +kernel
theorem dX5_mindWoreSo_11 : decode cX5_mindWoreSo 11 = .ok (.getfield 50, 3) := by decide +kernel
theorem dX5_mindWoreSo_14 : decode cX5_mindWoreSo 14 = .ok (.getfield 160, 3) := by decide +kernel
theorem dX5_mindWoreSo_17 : decode cX5_mindWoreSo 17 = .ok (.iload_n 1, 1) := by decide +kernel
theorem dX5_mindWoreSo_18 : decode cX5_mindWoreSo 18 = .ok (.iaload, 1) := by decide +kernel
theorem dX5_mindWoreSo_19 : decode cX5_mindWoreSo 19 = .ok (.aload_n 0, 1) := by decide +kernel
theorem dX5_mindWoreSo_20 : decode cX5_mindWoreSo 20 = .ok (.getfield 37, 3) := by decide +kernel
theorem dX5_mindWoreSo_23 : decode cX5_mindWoreSo 23 = .ok (.iload_n 2, 1) := by decide +kernel
theorem dX5_mindWoreSo_24 : decode cX5_mindWoreSo 24 = .ok (.iaload, 1) := by decide +kernel
theorem dX5_mindWoreSo_25 : decode cX5_mindWoreSo 25 = .ok (.if_icmp .eq 5, 3) := by decide +kernel
theorem dX5_mindWoreSo_28 : decode cX5_mindWoreSo 28 = .ok (.iconst 0, 1) := by decide +kernel
theorem dX5_mindWoreSo_29 : decode cX5_mindWoreSo 29 = .ok (.ireturn, 1) := by decide +kernel
theorem dX5_mindWoreSo_30 : decode cX5_mindWoreSo 30 = .ok (.aload_n 0, 1) := by decide +kernel
theorem dX5_mindWoreSo_31 : decode cX5_mindWoreSo 31 = .ok (.getfield 50, 3) := by decide +kernel
theorem dX5_mindWoreSo_34 : decode cX5_mindWoreSo 34 = .ok (.iconst 1, 1) := by decide +kernel
theorem dX5_mindWoreSo_35 : decode cX5_mindWoreSo 35 = .ok (.invokevirtual 166, 3) := by decide +kernel
theorem dX5_mindWoreSo_38 : decode cX5_mindWoreSo 38 = .ok (.iinc 2 1, 3) := by decide +kernel
theorem dX5_mindWoreSo_41 : decode cX5_mindWoreSo 41 = .ok (.goto (-39), 3) := by decide +kernel
theorem dX5_mindWoreSo_44 : decode cX5_mindWoreSo 44 = .ok (.iconst 1, 1) := by decide +kernel
theorem dX5_mindWoreSo_45 : decode cX5_mindWoreSo 45 = .ok (.ireturn, 1) := by decide +kernel
set_option maxRecDepth 100000 in
set_option maxHeartbeats 4000000 in
theorem k_X5_mindWoreSo (κ : Kp) (xa : Nat → Nat → Nat) (X : XS) (c : Int)  (h0 : 0 ≤ c ∧ c < 12) (hr : (0 ≤ X 18 5 0 ∧ X 18 5 0 ≤ 12) ∧ ∀ j : Int, 0 ≤ j → j < X 18 5 0 → 0 ≤ X 18 4 j ∧ X 18 4 j ≤ 99) (hy : X 2 4 0 ≤ 990000) (ok : okC (cl (X 2))) : mI κ yX5_mindWoreSo cX5_mindWoreSo 3 .boolean 4 [.ref (xa 18 100), .int (iI c)] (xw κ xa X) (fun r w => r = iI (b2i (rowI (cl (X 2)) (X 18 4) c (X 18 5 0))) ∧ ∃ D, w = xw κ xa (setO X 2 D)) := by
  refine mI_of (by decide) (Nat.le_of_ble_eq_true rfl) (fun E F K => ?_)
  refine g_lv (lv' := [(0, .ref (xa 18 100)), (1, .int (iI c))]) rfl ?_
  refine g_iconst F dX5_mindWoreSo_0 ?_
  refine g_istore_n F (lv' := [(2, .int (iI 0)), (0, .ref (xa 18 100)), (1, .int (iI c))]) 2 dX5_mindWoreSo_1 rfl (by decide) rfl ?_
  have L2 : ∀ (mz2 : Nat) (n : Int), (X 18 5 0 - n).toNat = mz2 → (0 ≤ n ∧ n ≤ X 18 5 0) → (rowI (cl (X 2)) (X 18 4) c n) → G E (xw κ xa (setO X 2 (stC (X 2) (goI n (cl (X 2)))))) [(2, .int (iI n)), (0, .ref (xa 18 100)), (1, .int (iI c))] 2 [] := by
    intro mz2
    induction mz2 using Nat.strongRecOn with
    | _ mz2 ih2 =>
    intro n hmz2 hn hR
    refine g_iload_n F 0 dX5_mindWoreSo_2 rfl ?_
    refine g_aload_n F 1 dX5_mindWoreSo_3 rfl ?_
    refine g18_get_5 F  lf_X5_281 dX5_mindWoreSo_4 ?_
    refine g_top (y := iI ((X 18) 5 0)) rfl ?_
    refine g_icmp_ge F 44 (by omega) dX5_mindWoreSo_7 (by decide) (fun c7 => ?_) (fun c7 => ?_)
    · skip
      refine g_iconst F dX5_mindWoreSo_44 ?_
      exact K xw_same ⟨b2i_1 (by rw [← show n = X 18 5 0 by omega]; exact hR), _, rfl⟩ (by decide +kernel) dX5_mindWoreSo_45
    · skip
      refine g_aload_n F 1 dX5_mindWoreSo_10 rfl ?_
      refine g18_get_10 F  lf_X5_50 dX5_mindWoreSo_11 ?_
      refine gcS_getN_3 F (o := 2) (by decide) nf_X5_160 dX5_mindWoreSo_14 ?_
      refine g_iload_n F 2 dX5_mindWoreSo_17 rfl ?_
      have hwe := (goI_ok ok n).w c h0.1 h0.2
      have hro := hr.2 n hn.1 (by omega)
      refine gcS_ald_3 F (o := 2) (by decide) (by omega) dX5_mindWoreSo_18 ?_
      refine g_top (y := iI ((we (goI n (cl (X 2)))) c)) rfl ?_
      refine g_aload_n F 1 dX5_mindWoreSo_19 rfl ?_
      refine g18_get_4 F  lf_X5_37 dX5_mindWoreSo_20 ?_
      refine g_iload_n F 0 dX5_mindWoreSo_23 rfl ?_
      refine g18_ald_4 F  (by omega) dX5_mindWoreSo_24 ?_
      refine g_top (y := iI ((X 18) 4 n)) rfl ?_
      refine g_icmp_eq F 30 (by omega) dX5_mindWoreSo_25 (by decide) (fun c25 => ?_) (fun c25 => ?_)
      · skip
        refine g_aload_n F 1 dX5_mindWoreSo_30 rfl ?_
        refine g18_get_10 F  lf_X5_50 dX5_mindWoreSo_31 ?_
        refine g_iconst F dX5_mindWoreSo_34 ?_
        have hyn : yr (goI n (cl (X 2))) + 1 ≤ 1000000 := by have e := goI_yr (C := cl (X 2)) hn.1; have e2 : yr (cl (X 2)) = X 2 4 0 := rfl; omega
        refine g_callNV F (stk := [.int (iI 1), .ref (xa 2 100)]) (st := []) (kS_X0_goOn κ xa X 2 (by decide) (stC (X 2) (goI n (cl (X 2)))) 1 ⟨by omega, hyn⟩ (goI_ok ok n)) cal_X0_goOn nm_X5_166 10 rfl rfl rfl rfl (by decide) rfl (Nat.le_of_ble_eq_true rfl) dX5_mindWoreSo_35 (fun ws35 _ hr35 => ?_)
        obtain rfl := hr35
        refine g_ws (ws' := xw κ xa (setO X 2 (stC (X 2) (goI 1 (goI n (cl (X 2))))))) rfl ?_
        refine g_iinc F (lv' := [(2, .int (iI (n + 1))), (0, .ref (xa 18 100)), (1, .int (iI c))]) 0 dX5_mindWoreSo_38 rfl (by decide) rfl ?_
        refine g_goto F 2 dX5_mindWoreSo_41 (by decide) ?_
        refine g_sub F (lv' := [(2, .int (iI (n + 1))), (0, .ref (xa 18 100)), (1, .int (iI c))]) [0, 1, 2] rfl ?_
        refine g_ws (ws' := xw κ xa (setO X 2 (stC (X 2) (goI (n + 1) (cl (X 2)))))) (by rw [goI_s hn.1]; rfl) ?_
        exact ih2 _ (by omega) (n + 1) rfl (by omega) ((rowI_s _ _ _ hn.1).mpr ⟨hR, c25⟩)
      · skip
        refine g_iconst F dX5_mindWoreSo_28 ?_
        exact K xw_same ⟨b2i_0 (fun q => absurd q (rowI_out _ _ _ (k := n + 1) (by omega) (by omega) (fun q2 => c25 ((rowI_s _ _ _ hn.1).mp q2).2))), _, rfl⟩ (by decide +kernel) dX5_mindWoreSo_29
  refine g_sub F (lv' := [(2, .int (iI 0)), (0, .ref (xa 18 100)), (1, .int (iI c))]) [0, 1, 2] rfl ?_
  refine g_ws (ws' := xw κ xa (setO X 2 (stC (X 2) (goI 0 (cl (X 2)))))) rfl ?_
  exact L2 _ 0 rfl (by omega) (rowI_0 _ _ _)
