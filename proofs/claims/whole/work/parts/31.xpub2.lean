/-- which pieces are used, by the bits -/
abbrev uR (R : MS) : Int → Int := fun p => R 4 0 / p2 p % 2
theorem p2_cell {c : Int} (h : c < 12) : 0 < p2 c ∧ p2 c ≤ 2048 := ⟨p2_pos c, p2_le (n := 11) (by omega)⟩
theorem okRl.p {R : MS} (h : okRl R) {p : Int} (h0 : 0 ≤ p) (h1 : p < 6) : (0 ≤ R 0 p ∧ R 0 p ≤ 5) ∧ (0 ≤ R 1 p ∧ R 1 p ≤ 9) ∧ 0 ≤ R 2 p ∧ R 2 p ≤ 99 := h.2 p h0 h1
theorem dX5_least_0 : decode cX5_least 0 = .ok (.iconst 0, 1) := by decide +kernel
theorem dX5_least_1 : decode cX5_least 1 = .ok (.istore_n 1, 1) := by decide +kernel
theorem dX5_least_2 : decode cX5_least 2 = .ok (.iload_n 1, 1) := by decide +kernel
theorem dX5_least_3 : decode cX5_least 3 = .ok (.bipush 12, 2) := by decide +kernel
theorem dX5_least_5 : decode cX5_least 5 = .ok (.if_icmp .ge 20, 3) := by decide +kernel
theorem dX5_least_8 : decode cX5_least 8 = .ok (.iload_n 0, 1) := by decide +kernel
theorem dX5_least_9 : decode cX5_least 9 = .ok (.iload_n 1, 1) := by decide +kernel
theorem dX5_least_10 : decode cX5_least 10 = .ok (.ishr, 1) := by decide +kernel
theorem dX5_least_11 : decode cX5_least 11 = .ok (.iconst 1, 1) := by decide +kernel
theorem dX5_least_12 : decode cX5_least 12 = .ok (.iand, 1) := by decide +kernel
theorem dX5_least_13 : decode cX5_least 13 = .ok (.iconst 1, 1) := by decide +kernel
theorem dX5_least_14 : decode cX5_least 14 = .ok (.if_icmp .ne 5, 3) := by decide +kernel
theorem dX5_least_17 : decode cX5_least 17 = .ok (.iload_n 1, 1) := by decide +kernel
theorem dX5_least_18 : decode cX5_least 18 = .ok (.ireturn, 1) := by decide +kernel
theorem dX5_least_19 : decode cX5_least 19 = .ok (.iinc 1 1, 3) := by decide +kernel
theorem dX5_least_22 : decode cX5_least 22 = .ok (.goto (-20), 3) := by decide +kernel
theorem dX5_least_25 : decode cX5_least 25 = .ok (.bipush (-9), 2) := by decide +kernel
theorem dX5_least_27 : decode cX5_least 27 = .ok (.ireturn, 1) := by decide +kernel
set_option maxRecDepth 100000 in
set_option maxHeartbeats 4000000 in
theorem k_X5_least (κ : Kp) (ws : va_W) (z : Int)  (hz : 0 ≤ z ∧ z ≤ 65535) : mI κ yX5_least cX5_least 2 .int 0 [.int (iI z)] ws (is1 (iI (lstI z 0)) ws) := by
  refine mI_of (by decide) (Nat.le_of_ble_eq_true rfl) (fun E F K => ?_)
  refine g_lv (lv' := [(0, .int (iI z))]) rfl ?_
  refine g_iconst F dX5_least_0 ?_
  refine g_istore_n F (lv' := [(1, .int (iI 0)), (0, .int (iI z))]) 1 dX5_least_1 rfl (by decide) rfl ?_
  have L2 : ∀ (mz2 : Nat) (c : Int), (12 - c).toNat = mz2 → (0 ≤ c ∧ c ≤ 12) → (lstI z c = lstI z 0) → G E ws [(1, .int (iI c)), (0, .int (iI z))] 2 [] := by
    intro mz2
    induction mz2 using Nat.strongRecOn with
    | _ mz2 ih2 =>
    intro c hmz2 hc hl
    refine g_iload_n F 0 dX5_least_2 rfl ?_
    refine g_bipush F dX5_least_3 (by decide +kernel) ?_
    refine g_icmp_ge F 25 (by omega) dX5_least_5 (by decide) (fun c5 => ?_) (fun c5 => ?_)
    · skip
      refine g_bipush F dX5_least_25 (by decide +kernel) ?_
      exact K sameA.rf ⟨iIc (by rw [← hl, show c = 12 by omega]; rfl), rfl⟩ rfl dX5_least_27
    · skip
      refine g_iload_n F 1 dX5_least_8 rfl ?_
      refine g_iload_n F 0 dX5_least_9 rfl ?_
      refine g_ishr F dX5_least_10 ?_
      refine g_top (y := iI (z / p2 c)) (iI_shr (by omega) (by omega) (by omega) (by omega)) ?_
      refine g_iconst F dX5_least_11 ?_
      refine g_iand F dX5_least_12 ?_
      refine g_top (y := iI (z / p2 c % 2)) (iI_and1 (div_p2' (by omega))) ?_
      refine g_iconst F dX5_least_13 ?_
      refine g_icmp_ne F 19 (by omega) dX5_least_14 (by decide) (fun c14 => ?_) (fun c14 => ?_)
      · skip
        refine g_iinc F (lv' := [(1, .int (iI (c + 1))), (0, .int (iI z))]) 0 dX5_least_19 rfl (by decide) rfl ?_
        refine g_goto F 2 dX5_least_22 (by decide) ?_
        refine g_sub F (lv' := [(1, .int (iI (c + 1))), (0, .int (iI z))]) [0, 1] rfl ?_
        exact ih2 _ (by omega) (c + 1) rfl (by omega) (by rw [← hl, lst_s z (c := c) (by omega), if_neg c14])
      · skip
        refine g_iload_n F 0 dX5_least_17 rfl ?_
        exact K sameA.rf ⟨iIc (by rw [← hl, lst_s z (c := c) (by omega), if_pos c14]), rfl⟩ rfl dX5_least_18
  refine g_sub F (lv' := [(1, .int (iI 0)), (0, .int (iI z))]) [0, 1] rfl ?_
  exact L2 _ 0 rfl (by omega) rfl
theorem dX5_lastWhole_0 : decode cX5_lastWhole 0 = .ok (.iconst 0, 1) := by decide +kernel
theorem dX5_lastWhole_1 : decode cX5_lastWhole 1 = .ok (.istore_n 1, 1) := by decide +kernel
theorem dX5_lastWhole_2 : decode cX5_lastWhole 2 = .ok (.iconst (-1), 1) := by decide +kernel
theorem dX5_lastWhole_3 : decode cX5_lastWhole 3 = .ok (.istore_n 2, 1) := by decide +kernel
theorem dX5_lastWhole_4 : decode cX5_lastWhole 4 = .ok (.iconst 0, 1) := by decide +kernel
theorem dX5_lastWhole_5 : decode cX5_lastWhole 5 = .ok (.istore_n 3, 1) := by decide +kernel
theorem dX5_lastWhole_6 : decode cX5_lastWhole 6 = .ok (.iload_n 3, 1) := by decide +kernel
theorem dX5_lastWhole_7 : decode cX5_lastWhole 7 = .ok (.bipush 12, 2) := by decide +kernel
theorem dX5_lastWhole_9 : decode cX5_lastWhole 9 = .ok (.if_icmp .ge 44, 3) := by decide +kernel
theorem dX5_lastWhole_12 : decode cX5_lastWhole 12 = .ok (.aload_n 0, 1) := by decide +kernel
theorem dX5_lastWhole_13 : decode cX5_lastWhole 13 = .ok (.getfield 50, 3) := by decide +kernel
theorem dX5_lastWhole_16 : decode cX5_lastWhole 16 = .ok (.aload_n 0, 1) := by decide +kernel
theorem dX5_lastWhole_17 : decode cX5_lastWhole 17 = .ok (.getfield 10, 3) := by decide +kernel
theorem dX5_lastWhole_20 : decode cX5_lastWhole 20 = .ok (.invokevirtual 88, 3) := by decide +kernel
theorem dX5_lastWhole_23 : decode cX5_lastWhole 23 = .ok (.aload_n 0, 1) := by decide +kernel
theorem dX5_lastWhole_24 : decode cX5_lastWhole 24 = .ok (.getfield 50, 3) := by decide +kernel
theorem dX5_lastWhole_27 : decode cX5_lastWhole 27 = .ok (.iconst 1, 1) := by decide +kernel
theorem dX5_lastWhole_28 : decode cX5_lastWhole 28 = .ok (.iload_n 3, 1) := by decide +kernel
theorem dX5_lastWhole_29 : decode cX5_lastWhole 29 = .ok (.ishl, 1) := by decide +kernel
theorem dX5_lastWhole_30 : decode cX5_lastWhole 30 = .ok (.iconst 0, 1) := by decide +kernel
theorem dX5_lastWhole_31 : decode cX5_lastWhole 31 = .ok (.invokevirtual 224, 3) := by decide +kernel
theorem dX5_lastWhole_34 : decode cX5_lastWhole 34 = .ok (.istore 4, 2) := by decide +kernel
theorem dX5_lastWhole_36 : decode cX5_lastWhole 36 = .ok (.iload 4, 2) := by decide +kernel
theorem dX5_lastWhole_38 : decode cX5_lastWhole 38 = .ok (.iload_n 2, 1) := by decide +kernel
theorem dX5_lastWhole_39 : decode cX5_lastWhole 39 = .ok (.if_icmp .le 8, 3) := by decide +kernel
theorem dX5_lastWhole_42 : decode cX5_lastWhole 42 = .ok (.iload 4, 2) := by decide +kernel
theorem dX5_lastWhole_44 : decode cX5_lastWhole 44 = .ok (.istore_n 2, 1) := by decide +kernel
theorem dX5_lastWhole_45 : decode cX5_lastWhole 45 = .ok (.iload_n 3, 1) := by decide +kernel
theorem dX5_lastWhole_46 : decode cX5_lastWhole 46 = .ok (.istore_n 1, 1) := by decide +kernel
theorem dX5_lastWhole_47 : decode cX5_lastWhole 47 = .ok (.iinc 3 1, 3) := by decide +kernel
theorem dX5_lastWhole_50 : decode cX5_lastWhole 50 = .ok (.goto (-44), 3) := by decide +kernel
theorem dX5_lastWhole_53 : decode cX5_lastWhole 53 = .ok (.iload_n 1, 1) := by decide +kernel
theorem dX5_lastWhole_54 : decode cX5_lastWhole 54 = .ok (.ireturn, 1) := by decide +kernel
set_option maxRecDepth 100000 in
set_option maxHeartbeats 4000000 in
theorem k_X5_lastWhole (κ : Kp) (xa : Nat → Nat → Nat) (X : XS)  (hy : X 0 4 0 ≤ 990000) (ok : okC (cl (X 0))) : mI κ yX5_lastWhole cX5_lastWhole 5 .int 5 [.ref (xa 18 100)] (xw κ xa X) (fun r w => r = iI (amax (lasts (cl (X 0))) 12) ∧ ∃ D, w = xw κ xa (setO X 2 D)) := by
  refine mI_of (by decide) (Nat.le_of_ble_eq_true rfl) (fun E F K => ?_)
  refine g_lv (lv' := [(0, .ref (xa 18 100))]) rfl ?_
  refine g_iconst F dX5_lastWhole_0 ?_
  refine g_istore_n F (lv' := [(1, .int (iI 0)), (0, .ref (xa 18 100))]) 1 dX5_lastWhole_1 rfl (by decide) rfl ?_
  refine g_iconst F dX5_lastWhole_2 ?_
  refine g_istore_n F (lv' := [(2, .int (iI (-1))), (1, .int (iI 0)), (0, .ref (xa 18 100))]) 2 dX5_lastWhole_3 rfl (by decide) rfl ?_
  refine g_iconst F dX5_lastWhole_4 ?_
  refine g_istore_n F (lv' := [(3, .int (iI 0)), (2, .int (iI (-1))), (1, .int (iI 0)), (0, .ref (xa 18 100))]) 3 dX5_lastWhole_5 rfl (by decide) rfl ?_
  have L6 : ∀ (mz6 : Nat) (c : Int) (b : Int) (l : Int) (D : MS), (12 - c).toNat = mz6 → (0 ≤ c ∧ c ≤ 12) → (smx yes (lasts (cl (X 0))) (fun c => c) (0, -1) c = (b, l)) → (-1 ≤ l ∧ l ≤ 61) → G E (xw κ xa (setO X 2 D)) [(3, .int (iI c)), (2, .int (iI l)), (1, .int (iI b)), (0, .ref (xa 18 100))] 6 [] := by
    intro mz6
    induction mz6 using Nat.strongRecOn with
    | _ mz6 ih6 =>
    intro c b l D hmz6 hc hs hl
    refine g_iload_n F 0 dX5_lastWhole_6 rfl ?_
    refine g_bipush F dX5_lastWhole_7 (by decide +kernel) ?_
    refine g_icmp_ge F 53 (by omega) dX5_lastWhole_9 (by decide) (fun c9 => ?_) (fun c9 => ?_)
    · skip
      refine g_iload_n F 2 dX5_lastWhole_53 rfl ?_
      rw [show c = 12 by omega, smx_amax _ (by decide) (fun j _ _ => (lasts_bd _ j).1)] at hs
      have hb := congrArg Prod.fst hs
      exact K xw_same ⟨iIc hb.symm, _, rfl⟩ rfl dX5_lastWhole_54
    · skip
      refine g_aload_n F 3 dX5_lastWhole_12 rfl ?_
      refine g18_get_10 F  lf_X5_50 dX5_lastWhole_13 ?_
      refine g_aload_n F 3 dX5_lastWhole_16 rfl ?_
      refine g18_get_0 F  lf_X5_10 dX5_lastWhole_17 ?_
      refine g_callNV F (stk := [.ref (xa 0 100), .ref (xa 2 100)]) (st := []) (k_X0_become κ xa (setO X 2 D) 2 (by decide) 0 (by decide) (by decide)) cal_X0_become nm_X5_88 10 rfl rfl rfl rfl (by decide) rfl (Nat.le_of_ble_eq_true rfl) dX5_lastWhole_20 (fun ws20 _ hr20 => ?_)
      obtain rfl := hr20
      refine g_ws (ws' := xw κ xa (setO X 2 (stC D (cl (X 0))))) rfl ?_
      refine g_aload_n F 3 dX5_lastWhole_23 rfl ?_
      refine g18_get_10 F  lf_X5_50 dX5_lastWhole_24 ?_
      have hpc := p2_cell (c := c) (by omega)
      have hlb := lasts_bd (cl (X 0)) c
      refine g_iconst F dX5_lastWhole_27 ?_
      refine g_iload_n F 0 dX5_lastWhole_28 rfl ?_
      refine g_ishl F dX5_lastWhole_29 ?_
      refine g_top (y := iI (p2 c)) (iI_shl1 (by omega) (by omega)) ?_
      refine g_iconst F dX5_lastWhole_30 ?_
      refine g_callNI F (stk := [.int (iI 0), .int (iI (p2 c)), .ref (xa 2 100)]) (st := []) (kS_X0_yearsToHole κ xa X 2 (by decide) (stC D (cl (X 0))) (p2 c) 0 (by omega) (show (yr (cl (X 0))) ≤ 990000 from by omega) ok) cal_X0_yearsToHole nm_X5_224 10 rfl rfl rfl rfl (by decide) rfl (Nat.le_of_ble_eq_true rfl) dX5_lastWhole_31 (fun r31 ws31 _ hr31 => ?_)
      obtain ⟨rfl, rfl⟩ := hr31
      refine g_top (y := iI (ythI (cl (X 0)) (p2 c) 0)) rfl ?_
      refine g_ws (ws' := xw κ xa (setO X 2 (stC D (goI (ythI (cl (X 0)) (p2 c) 0 - 0) (cl (X 0)))))) rfl ?_
      refine g_top (y := iI (lasts (cl (X 0)) c)) (iIc (yth_cell _ (by omega) (by omega))) ?_
      refine g_istore F (lv' := [(4, .int (iI (lasts (cl (X 0)) c))), (3, .int (iI c)), (2, .int (iI l)), (1, .int (iI b)), (0, .ref (xa 18 100))]) dX5_lastWhole_34 (by decide) rfl ?_
      refine g_iload F 0 dX5_lastWhole_36 rfl ?_
      refine g_iload_n F 2 dX5_lastWhole_38 rfl ?_
      refine g_icmp_le F 47 (by omega) dX5_lastWhole_39 (by decide) (fun c39 => ?_) (fun c39 => ?_)
      · skip
        refine g_iinc F (lv' := [(3, .int (iI (c + 1))), (4, .int (iI (lasts (cl (X 0)) c))), (2, .int (iI l)), (1, .int (iI b)), (0, .ref (xa 18 100))]) 1 dX5_lastWhole_47 rfl (by decide) rfl ?_
        refine g_goto F 6 dX5_lastWhole_50 (by decide) ?_
        refine g_sub F (lv' := [(3, .int (iI (c + 1))), (2, .int (iI l)), (1, .int (iI b)), (0, .ref (xa 18 100))]) [0, 2, 3, 4] rfl ?_
        exact ih6 _ (by omega) (c + 1) b l (stC D (goI (ythI (cl (X 0)) (p2 c) 0 - 0) (cl (X 0)))) rfl (by omega) (by first | (exfalso; omega) | exact smx_tx hs rfl rfl (by omega) rfl (by omega) | exact smx_fx (x := lasts (cl (X 0)) c) hs rfl (by omega) (Or.inr (by omega))) (by omega)
      · skip
        refine g_iload F 0 dX5_lastWhole_42 rfl ?_
        refine g_istore_n F (lv' := [(2, .int (iI (lasts (cl (X 0)) c))), (4, .int (iI (lasts (cl (X 0)) c))), (3, .int (iI c)), (1, .int (iI b)), (0, .ref (xa 18 100))]) 2 dX5_lastWhole_44 rfl (by decide) rfl ?_
        refine g_iload_n F 2 dX5_lastWhole_45 rfl ?_
        refine g_istore_n F (lv' := [(1, .int (iI c)), (2, .int (iI (lasts (cl (X 0)) c))), (4, .int (iI (lasts (cl (X 0)) c))), (3, .int (iI c)), (0, .ref (xa 18 100))]) 1 dX5_lastWhole_46 rfl (by decide) rfl ?_
        refine g_iinc F (lv' := [(3, .int (iI (c + 1))), (1, .int (iI c)), (2, .int (iI (lasts (cl (X 0)) c))), (4, .int (iI (lasts (cl (X 0)) c))), (0, .ref (xa 18 100))]) 3 dX5_lastWhole_47 rfl (by decide) rfl ?_
        refine g_goto F 6 dX5_lastWhole_50 (by decide) ?_
        refine g_sub F (lv' := [(3, .int (iI (c + 1))), (2, .int (iI (lasts (cl (X 0)) c))), (1, .int (iI c)), (0, .ref (xa 18 100))]) [0, 2, 1, 4] rfl ?_
        exact ih6 _ (by omega) (c + 1) c (lasts (cl (X 0)) c) (stC D (goI (ythI (cl (X 0)) (p2 c) 0 - 0) (cl (X 0)))) rfl (by omega) (by first | (exfalso; omega) | exact smx_tx hs rfl rfl (by omega) rfl (by omega) | exact smx_fx (x := lasts (cl (X 0)) c) hs rfl (by omega) (Or.inr (by omega))) (by omega)
  refine g_sub F (lv' := [(3, .int (iI 0)), (2, .int (iI (-1))), (1, .int (iI 0)), (0, .ref (xa 18 100))]) [0, 1, 2, 3] rfl ?_
  refine g_ws (ws' := xw κ xa (setO X 2 (X 2))) rfl ?_
  exact L6 _ 0 0 (-1) (X 2) rfl (by omega) rfl (by omega)
theorem dX5_lasts_0 : decode cX5_lasts 0 = .ok (.iload_n 1, 1) := by decide +kernel
theorem dX5_lasts_1 : decode cX5_lasts 1 = .ok (.invokestatic 134, 3) := by decide +kernel
theorem dX5_lasts_4 : decode cX5_lasts 4 = .ok (.ifCond .ne 9, 3) := by decide +kernel
theorem dX5_lasts_7 : decode cX5_lasts 7 = .ok (.aload_n 0, 1) := by decide +kernel
theorem dX5_lasts_8 : decode cX5_lasts 8 = .ok (.iconst (-1), 1) := by decide +kernel
theorem dX5_lasts_9 : decode cX5_lasts 9 = .ok (.invokevirtual 69, 3) := by decide +kernel
theorem dX5_lasts_12 : decode cX5_lasts 12 = .ok (.ireturn, 1) := by decide +kernel
theorem dX5_lasts_13 : decode cX5_lasts 13 = .ok (.aload_n 0, 1) := by decide +kernel
theorem dX5_lasts_14 : decode cX5_lasts 14 = .ok (.getfield 50, 3) := by decide +kernel
theorem dX5_lasts_17 : decode cX5_lasts 17 = .ok (.aload_n 0, 1) := by decide +kernel
theorem dX5_lasts_18 : decode cX5_lasts 18 = .ok (.getfield 10, 3) := by decide +kernel
theorem dX5_lasts_21 : decode cX5_lasts 21 = .ok (.invokevirtual 88, 3) := by decide +kernel
theorem dX5_lasts_24 : decode cX5_lasts 24 = .ok (.aload_n 0, 1) := by decide +kernel
theorem dX5_lasts_25 : decode cX5_lasts 25 = .ok (.getfield 50, 3) := by decide +kernel
theorem dX5_lasts_28 : decode cX5_lasts 28 = .ok (.iconst 1, 1) := by decide +kernel
theorem dX5_lasts_29 : decode cX5_lasts 29 = .ok (.iload_n 1, 1) := by decide +kernel
theorem dX5_lasts_30 : decode cX5_lasts 30 = .ok (.ishl, 1) := by decide +kernel
theorem dX5_lasts_31 : decode cX5_lasts 31 = .ok (.iconst 0, 1) := by decide +kernel
theorem dX5_lasts_32 : decode cX5_lasts 32 = .ok (.invokevirtual 224, 3) := by decide +kernel
theorem dX5_lasts_35 : decode cX5_lasts 35 = .ok (.istore_n 2, 1) := by decide +kernel
theorem dX5_lasts_36 : decode cX5_lasts 36 = .ok (.iload_n 2, 1) := by decide +kernel
theorem dX5_lasts_37 : decode cX5_lasts 37 = .ok (.bipush 61, 2) := by decide +kernel
theorem dX5_lasts_39 : decode cX5_lasts 39 = .ok (.if_icmp .ne 8, 3) := by decide +kernel
theorem dX5_lasts_42 : decode cX5_lasts 42 = .ok (.bipush (-9), 2) := by decide +kernel
theorem dX5_lasts_44 : decode cX5_lasts 44 = .ok (.goto 4, 3) := by decide +kernel
theorem dX5_lasts_47 : decode cX5_lasts 47 = .ok (.iload_n 2, 1) := by decide +kernel
theorem dX5_lasts_48 : decode cX5_lasts 48 = .ok (.ireturn, 1) := by decide +kernel
set_option maxRecDepth 100000 in
set_option maxHeartbeats 4000000 in
theorem k_X5_lasts (κ : Kp) (xa : Nat → Nat → Nat) (X : XS) (c : Int)  (ha_c : In32 c) (ok : okC (cl (X 0))) (hy : X 0 4 0 ≤ 999) : mI κ yX5_lasts cX5_lasts 3 .int 5 [.ref (xa 18 100), .int (iI c)] (xw κ xa X) (qX κ xa X (qLasts (cl (X 0)) c)) := by
  refine mI_of (by decide) (Nat.le_of_ble_eq_true rfl) (fun E F K => ?_)
  refine g_lv (lv' := [(0, .ref (xa 18 100)), (1, .int (iI c))]) rfl ?_
  refine g_iload_n F 1 dX5_lasts_0 rfl ?_
  refine g_callSI F (stk := [.int (iI c)]) (st := []) (k_X5_isCell κ (xw κ xa X) c (by omega)) cal_X5_isCell lm_X5_134 rfl (by decide) rfl (Nat.le_of_ble_eq_true rfl) dX5_lasts_1 (fun r1 ws1 _ hr1 => ?_)
  obtain ⟨rfl, rfl⟩ := hr1
  refine g_if_ne F 13 (b2i_in _) dX5_lasts_4 (by decide) (fun c4 => ?_) (fun c4 => ?_)
  · skip
    have c4 : 0 ≤ c ∧ c < 12 := b2i_t c4
    have hpc := p2_cell (c := c) (by omega)
    have hlb := lasts_bd (cl (X 0)) c
    refine g_aload_n F 0 dX5_lasts_13 rfl ?_
    refine g18_get_10 F  lf_X5_50 dX5_lasts_14 ?_
    refine g_aload_n F 0 dX5_lasts_17 rfl ?_
    refine g18_get_0 F  lf_X5_10 dX5_lasts_18 ?_
    refine g_callNV F (stk := [.ref (xa 0 100), .ref (xa 2 100)]) (st := []) (k_X0_become κ xa X 2 (by decide) 0 (by decide) (by decide)) cal_X0_become nm_X5_88 10 rfl rfl rfl rfl (by decide) rfl (Nat.le_of_ble_eq_true rfl) dX5_lasts_21 (fun ws21 _ hr21 => ?_)
    obtain rfl := hr21
    refine g_aload_n F 0 dX5_lasts_24 rfl ?_
    refine g18_get_10 F  lf_X5_50 dX5_lasts_25 ?_
    refine g_iconst F dX5_lasts_28 ?_
    refine g_iload_n F 1 dX5_lasts_29 rfl ?_
    refine g_ishl F dX5_lasts_30 ?_
    refine g_top (y := iI (p2 c)) (iI_shl1 (by omega) (by omega)) ?_
    refine g_iconst F dX5_lasts_31 ?_
    refine g_callNI F (stk := [.int (iI 0), .int (iI (p2 c)), .ref (xa 2 100)]) (st := []) (kS_X0_yearsToHole κ xa X 2 (by decide) (stC (X 2) (cl (X 0))) (p2 c) 0 (by omega) (show X 0 4 0 ≤ 990000 by omega) ok) cal_X0_yearsToHole nm_X5_224 10 rfl rfl rfl rfl (by decide) rfl (Nat.le_of_ble_eq_true rfl) dX5_lasts_32 (fun r32 ws32 _ hr32 => ?_)
    obtain ⟨rfl, rfl⟩ := hr32
    refine g_top (y := iI (ythI (cl (X 0)) (p2 c) 0)) rfl ?_
    refine g_ws (ws' := xw κ xa (setO X 2 (stC (X 2) (goI (ythI (cl (X 0)) (p2 c) 0 - 0) (cl (X 0)))))) rfl ?_
    refine g_top (y := iI (lasts (cl (X 0)) c)) (iIc (yth_cell _ (by omega) (by omega))) ?_
    refine g_istore_n F (lv' := [(2, .int (iI (lasts (cl (X 0)) c))), (0, .ref (xa 18 100)), (1, .int (iI c))]) 2 dX5_lasts_35 rfl (by decide) rfl ?_
    refine g_iload_n F 0 dX5_lasts_36 rfl ?_
    refine g_bipush F dX5_lasts_37 (by decide +kernel) ?_
    refine g_icmp_ne F 47 (by omega) dX5_lasts_39 (by decide) (fun c39 => ?_) (fun c39 => ?_)
    · skip
      refine g_iload_n F 0 dX5_lasts_47 rfl ?_
      have hq : lasts (cl (X 0)) c = qLasts (cl (X 0)) c := by unfold qLasts; (repeat' split) <;> omega
      exact K xw_same ⟨_, rfl, iIc hq, (sX_o sX_0 (by decide)), (by rw [← hq]; exact (rfa_n (by omega)).symm)⟩ rfl dX5_lasts_48
    · skip
      refine g_bipush F dX5_lasts_42 (by decide +kernel) ?_
      refine g_goto F 48 dX5_lasts_44 (by decide) ?_
      have hq : -9 = qLasts (cl (X 0)) c := by unfold qLasts; (repeat' split) <;> omega
      exact K xw_same ⟨_, rfl, iIc hq, (sX_o sX_0 (by decide)), (by rw [← hq]; exact (rfa_n (by omega)).symm)⟩ rfl dX5_lasts_48
  · skip
    have c4 : ¬ (0 ≤ c ∧ c < 12) := b2i_f c4
    refine g_aload_n F 0 dX5_lasts_7 rfl ?_
    refine g_iconst F dX5_lasts_8 ?_
    refine g_callI F (stk := [.int (iI (-1)), .ref (xa 18 100)]) (st := []) (k_X5_refuse κ xa X (-1) (by omega)) cal_X5_refuse lm_X5_69 81 rfl rfl rfl rfl (by decide) rfl (Nat.le_of_ble_eq_true rfl) dX5_lasts_9 (fun r9 ws9 _ hr9 => ?_)
    obtain ⟨rfl, rfl⟩ := hr9
    have hq : (-1) = qLasts (cl (X 0)) c := by unfold qLasts; (repeat' split) <;> omega
    exact K xw_same ⟨_, rfl, iIc hq, (sX_18 sX_0 rfl rfl rfl), (by rw [← hq]; exact (rfa_r (by omega)).symm)⟩ rfl dX5_lasts_12
theorem dX5_holes_0 : decode cX5_holes 0 = .ok (.iload_n 1, 1) := by decide +kernel
theorem dX5_holes_1 : decode cX5_holes 1 = .ok (.ifCond .lt 8, 3) := by decide +kernel
theorem dX5_holes_4 : decode cX5_holes 4 = .ok (.iload_n 1, 1) := by decide +kernel
theorem dX5_holes_5 : decode cX5_holes 5 = .ok (.iconst 2, 1) := by decide +kernel
theorem dX5_holes_6 : decode cX5_holes 6 = .ok (.if_icmp .le 10, 3) := by decide +kernel
theorem dX5_holes_9 : decode cX5_holes 9 = .ok (.aload_n 0, 1) := by decide +kernel
theorem dX5_holes_10 : decode cX5_holes 10 = .ok (.bipush (-2), 2) := by decide +kernel
theorem dX5_holes_12 : decode cX5_holes 12 = .ok (.invokevirtual 69, 3) := by decide +kernel
theorem dX5_holes_15 : decode cX5_holes 15 = .ok (.ireturn, 1) := by decide +kernel
theorem dX5_holes_16 : decode cX5_holes 16 = .ok (.iload_n 1, 1) := by decide +kernel
theorem dX5_holes_17 : decode cX5_holes 17 = .ok (.iconst 2, 1) := by decide +kernel
theorem dX5_holes_18 : decode cX5_holes 18 = .ok (.if_icmp .ne 8, 3) := by decide +kernel
theorem dX5_holes_21 : decode cX5_holes 21 = .ok (.aload_n 0, 1) := by decide +kernel
theorem dX5_holes_22 : decode cX5_holes 22 = .ok (.invokevirtual 221, 3) := by decide +kernel
theorem dX5_holes_25 : decode cX5_holes 25 = .ok (.ireturn, 1) := by decide +kernel
theorem dX5_holes_26 : decode cX5_holes 26 = .ok (.aload_n 0, 1) := by decide +kernel
theorem dX5_holes_27 : decode cX5_holes 27 = .ok (.getfield 50, 3) := by decide +kernel
theorem dX5_holes_30 : decode cX5_holes 30 = .ok (.aload_n 0, 1) := by decide +kernel
theorem dX5_holes_31 : decode cX5_holes 31 = .ok (.getfield 10, 3) := by decide +kernel
theorem dX5_holes_34 : decode cX5_holes 34 = .ok (.invokevirtual 88, 3) := by decide +kernel
theorem dX5_holes_37 : decode cX5_holes 37 = .ok (.aload_n 0, 1) := by decide +kernel
theorem dX5_holes_38 : decode cX5_holes 38 = .ok (.getfield 50, 3) := by decide +kernel
theorem dX5_holes_41 : decode cX5_holes 41 = .ok (.sipush 4095, 3) := by decide +kernel
theorem dX5_holes_44 : decode cX5_holes 44 = .ok (.iconst 0, 1) := by decide +kernel
theorem dX5_holes_45 : decode cX5_holes 45 = .ok (.invokevirtual 224, 3) := by decide +kernel
theorem dX5_holes_48 : decode cX5_holes 48 = .ok (.istore_n 2, 1) := by decide +kernel
theorem dX5_holes_49 : decode cX5_holes 49 = .ok (.iload_n 2, 1) := by decide +kernel
theorem dX5_holes_50 : decode cX5_holes 50 = .ok (.bipush 61, 2) := by decide +kernel
theorem dX5_holes_52 : decode cX5_holes 52 = .ok (.if_icmp .ne 6, 3) := by decide +kernel
theorem dX5_holes_55 : decode cX5_holes 55 = .ok (.bipush (-9), 2) := by decide +kernel
theorem dX5_holes_57 : decode cX5_holes 57 = .ok (.ireturn, 1) := by decide +kernel
theorem dX5_holes_58 : decode cX5_holes 58 = .ok (.iload_n 1, 1) := by decide +kernel
theorem dX5_holes_59 : decode cX5_holes 59 = .ok (.ifCond .ne 7, 3) := by decide +kernel
theorem dX5_holes_62 : decode cX5_holes 62 = .ok (.iload_n 2, 1) := by decide +kernel
theorem dX5_holes_63 : decode cX5_holes 63 = .ok (.goto 13, 3) := by decide +kernel
theorem dX5_holes_66 : decode cX5_holes 66 = .ok (.aload_n 0, 1) := by decide +kernel
theorem dX5_holes_67 : decode cX5_holes 67 = .ok (.getfield 50, 3) := by decide +kernel
theorem dX5_holes_70 : decode cX5_holes 70 = .ok (.invokevirtual 203, 3) := by decide +kernel
theorem dX5_holes_73 : decode cX5_holes 73 = .ok (.invokestatic 227, 3) := by decide +kernel
theorem dX5_holes_76 : decode cX5_holes 76 = .ok (.ireturn, 1) := by decide +kernel
set_option maxRecDepth 100000 in
set_option maxHeartbeats 4000000 in
theorem k_X5_holes (κ : Kp) (xa : Nat → Nat → Nat) (X : XS) (w : Int)  (ha_w : In32 w) (ok : okC (cl (X 0))) (hy : X 0 4 0 ≤ 999) : mI κ yX5_holes cX5_holes 3 .int 6 [.ref (xa 18 100), .int (iI w)] (xw κ xa X) (qX κ xa X (qHoles (cl (X 0)) w)) := by
  refine mI_of (by decide) (Nat.le_of_ble_eq_true rfl) (fun E F K => ?_)
  refine g_lv (lv' := [(0, .ref (xa 18 100)), (1, .int (iI w))]) rfl ?_
  refine g_iload_n F 1 dX5_holes_0 rfl ?_
  refine g_if_lt F 9 (by omega) dX5_holes_1 (by decide) (fun c1 => ?_) (fun c1 => ?_)
  · skip
    refine g_aload_n F 0 dX5_holes_9 rfl ?_
    refine g_bipush F dX5_holes_10 (by decide +kernel) ?_
    refine g_callI F (stk := [.int (iI (-2)), .ref (xa 18 100)]) (st := []) (k_X5_refuse κ xa X (-2) (by omega)) cal_X5_refuse lm_X5_69 81 rfl rfl rfl rfl (by decide) rfl (Nat.le_of_ble_eq_true rfl) dX5_holes_12 (fun r12 ws12 _ hr12 => ?_)
    obtain ⟨rfl, rfl⟩ := hr12
    have hq : (-2) = qHoles (cl (X 0)) w := by unfold qHoles; (repeat' split) <;> omega
    exact K xw_same ⟨_, rfl, iIc hq, (sX_18 sX_0 rfl rfl rfl), (by rw [← hq]; exact (rfa_r (by omega)).symm)⟩ rfl dX5_holes_15
  · skip
    refine g_iload_n F 1 dX5_holes_4 rfl ?_
    refine g_iconst F dX5_holes_5 ?_
    refine g_icmp_le F 16 (by omega) dX5_holes_6 (by decide) (fun c6 => ?_) (fun c6 => ?_)
    · skip
      refine g_iload_n F 1 dX5_holes_16 rfl ?_
      refine g_iconst F dX5_holes_17 ?_
      refine g_icmp_ne F 26 (by omega) dX5_holes_18 (by decide) (fun c18 => ?_) (fun c18 => ?_)
      · skip
        refine g_aload_n F 0 dX5_holes_26 rfl ?_
        refine g18_get_10 F  lf_X5_50 dX5_holes_27 ?_
        refine g_aload_n F 0 dX5_holes_30 rfl ?_
        refine g18_get_0 F  lf_X5_10 dX5_holes_31 ?_
        refine g_callNV F (stk := [.ref (xa 0 100), .ref (xa 2 100)]) (st := []) (k_X0_become κ xa X 2 (by decide) 0 (by decide) (by decide)) cal_X0_become nm_X5_88 10 rfl rfl rfl rfl (by decide) rfl (Nat.le_of_ble_eq_true rfl) dX5_holes_34 (fun ws34 _ hr34 => ?_)
        obtain rfl := hr34
        refine g_aload_n F 0 dX5_holes_37 rfl ?_
        refine g18_get_10 F  lf_X5_50 dX5_holes_38 ?_
        have hmb : 0 ≤ mn (cl (X 0)) ∧ mn (cl (X 0)) ≤ 61 := lasts_bd _ _
        refine g_sipush F dX5_holes_41 (by decide +kernel) ?_
        refine g_iconst F dX5_holes_44 ?_
        refine g_callNI F (stk := [.int (iI 0), .int (iI 4095), .ref (xa 2 100)]) (st := []) (kS_X0_yearsToHole κ xa X 2 (by decide) (stC (X 2) (cl (X 0))) 4095 0 (by omega) (show X 0 4 0 ≤ 990000 by omega) ok) cal_X0_yearsToHole nm_X5_224 10 rfl rfl rfl rfl (by decide) rfl (Nat.le_of_ble_eq_true rfl) dX5_holes_45 (fun r45 ws45 _ hr45 => ?_)
        obtain ⟨rfl, rfl⟩ := hr45
        refine g_top (y := iI (ythI (cl (X 0)) 4095 0)) rfl ?_
        refine g_ws (ws' := xw κ xa (setO X 2 (stC (X 2) (goI (ythI (cl (X 0)) 4095 0 - 0) (cl (X 0)))))) rfl ?_
        refine g_top (y := iI (mn (cl (X 0)))) (iIc (yth_all _)) ?_
        have hif := amin_in (lasts (cl (X 0))) (n := 12) (by decide)
        refine g_istore_n F (lv' := [(2, .int (iI (mn (cl (X 0))))), (0, .ref (xa 18 100)), (1, .int (iI w))]) 2 dX5_holes_48 rfl (by decide) rfl ?_
        refine g_iload_n F 0 dX5_holes_49 rfl ?_
        refine g_bipush F dX5_holes_50 (by decide +kernel) ?_
        refine g_icmp_ne F 58 (by omega) dX5_holes_52 (by decide) (fun c52 => ?_) (fun c52 => ?_)
        · skip
          refine g_iload_n F 2 dX5_holes_58 rfl ?_
          refine g_if_ne F 66 (by omega) dX5_holes_59 (by decide) (fun c59 => ?_) (fun c59 => ?_)
          · skip
            refine g_aload_n F 1 dX5_holes_66 rfl ?_
            refine g18_get_10 F  lf_X5_50 dX5_holes_67 ?_
            refine g_callNI F (stk := [.ref (xa 2 100)]) (st := []) (kS_X0_holeBits κ xa X 2 (by decide) (stC (X 2) (goI (ythI (cl (X 0)) 4095 0 - 0) (cl (X 0)))) (goI_ok ok _)) cal_X0_holeBits nm_X5_203 10 rfl rfl rfl rfl (by decide) rfl (Nat.le_of_ble_eq_true rfl) dX5_holes_70 (fun r70 ws70 _ hr70 => ?_)
            obtain ⟨rfl, rfl⟩ := hr70
            refine g_top (y := iI (hbits (goI (ythI (cl (X 0)) 4095 0 - 0) (cl (X 0))))) rfl ?_
            refine g_top (y := iI (hbits (goI (mn (cl (X 0))) (cl (X 0))))) (iIc (by rw [yth_all, show mn (cl (X 0)) - 0 = mn (cl (X 0)) by omega])) ?_
            refine g_callSI F (stk := [.int (iI (hbits (goI (mn (cl (X 0))) (cl (X 0)))))]) (st := []) (k_X5_least κ (xw κ xa (setO X 2 (stC (X 2) (goI (ythI (cl (X 0)) 4095 0 - 0) (cl (X 0)))))) (hbits (goI (mn (cl (X 0))) (cl (X 0)))) (by have := hbits_in (goI (mn (cl (X 0))) (cl (X 0))); omega)) cal_X5_least lm_X5_227 rfl (by decide) rfl (Nat.le_of_ble_eq_true rfl) dX5_holes_73 (fun r73 ws73 _ hr73 => ?_)
            obtain ⟨rfl, rfl⟩ := hr73
            refine g_top (y := iI (amin (lasts (cl (X 0))) 12)) (iIc (lst_first _ c52)) ?_
            have hq : amin (lasts (cl (X 0))) 12 = qHoles (cl (X 0)) w := by unfold qHoles; (repeat' split) <;> omega
            exact K xw_same ⟨_, rfl, iIc hq, (sX_o sX_0 (by decide)), (by rw [← hq]; exact (rfa_n (by omega)).symm)⟩ rfl dX5_holes_76
          · skip
            refine g_iload_n F 0 dX5_holes_62 rfl ?_
            refine g_goto F 76 dX5_holes_63 (by decide) ?_
            have hq : mn (cl (X 0)) = qHoles (cl (X 0)) w := by unfold qHoles; (repeat' split) <;> omega
            exact K xw_same ⟨_, rfl, iIc hq, (sX_o sX_0 (by decide)), (by rw [← hq]; exact (rfa_n (by omega)).symm)⟩ rfl dX5_holes_76
        · skip
          refine g_bipush F dX5_holes_55 (by decide +kernel) ?_
          have hq : -9 = qHoles (cl (X 0)) w := by unfold qHoles; (repeat' split) <;> omega
          exact K xw_same ⟨_, rfl, iIc hq, (sX_o sX_0 (by decide)), (by rw [← hq]; exact (rfa_n (by omega)).symm)⟩ rfl dX5_holes_57
      · skip
        have hia := amax_in (lasts (cl (X 0))) (n := 12) (by decide)
        refine g_aload_n F 0 dX5_holes_21 rfl ?_
        refine g_callI F (stk := [.ref (xa 18 100)]) (st := []) (k_X5_lastWhole κ xa X (show ((X 0) 4 0) ≤ 990000 from by omega) ok) cal_X5_lastWhole lm_X5_221 81 rfl rfl rfl rfl (by decide) rfl (Nat.le_of_ble_eq_true rfl) dX5_holes_22 (fun r22 ws22 _ hr22 => ?_)
        obtain ⟨rfl, D22, rfl⟩ := hr22
        have hq : amax (lasts (cl (X 0))) 12 = qHoles (cl (X 0)) w := by unfold qHoles; (repeat' split) <;> omega
        exact K xw_same ⟨_, rfl, iIc hq, (sX_o sX_0 (by decide)), (by rw [← hq]; exact (rfa_n (by omega)).symm)⟩ rfl dX5_holes_25
    · skip
      refine g_aload_n F 0 dX5_holes_9 rfl ?_
      refine g_bipush F dX5_holes_10 (by decide +kernel) ?_
      refine g_callI F (stk := [.int (iI (-2)), .ref (xa 18 100)]) (st := []) (k_X5_refuse κ xa X (-2) (by omega)) cal_X5_refuse lm_X5_69 81 rfl rfl rfl rfl (by decide) rfl (Nat.le_of_ble_eq_true rfl) dX5_holes_12 (fun r12 ws12 _ hr12 => ?_)
      obtain ⟨rfl, rfl⟩ := hr12
      have hq : (-2) = qHoles (cl (X 0)) w := by unfold qHoles; (repeat' split) <;> omega
      exact K xw_same ⟨_, rfl, iIc hq, (sX_18 sX_0 rfl rfl rfl), (by rw [← hq]; exact (rfa_r (by omega)).symm)⟩ rfl dX5_holes_15
theorem dX5_fits_0 : decode cX5_fits 0 = .ok (.aload_n 0, 1) := by decide +kernel
theorem dX5_fits_1 : decode cX5_fits 1 = .ok (.getfield 19, 3) := by decide +kernel
theorem dX5_fits_4 : decode cX5_fits 4 = .ok (.iload_n 1, 1) := by decide +kernel
theorem dX5_fits_5 : decode cX5_fits 5 = .ok (.invokevirtual 190, 3) := by decide +kernel
theorem dX5_fits_8 : decode cX5_fits 8 = .ok (.ifCond .ne 9, 3) := by decide +kernel
theorem dX5_fits_11 : decode cX5_fits 11 = .ok (.aload_n 0, 1) := by decide +kernel
theorem dX5_fits_12 : decode cX5_fits 12 = .ok (.iconst (-1), 1) := by decide +kernel
theorem dX5_fits_13 : decode cX5_fits 13 = .ok (.invokevirtual 69, 3) := by decide +kernel
theorem dX5_fits_16 : decode cX5_fits 16 = .ok (.ireturn, 1) := by decide +kernel
theorem dX5_fits_17 : decode cX5_fits 17 = .ok (.iload_n 2, 1) := by decide +kernel
theorem dX5_fits_18 : decode cX5_fits 18 = .ok (.ifCond .lt 8, 3) := by decide +kernel
theorem dX5_fits_21 : decode cX5_fits 21 = .ok (.iload_n 2, 1) := by decide +kernel
theorem dX5_fits_22 : decode cX5_fits 22 = .ok (.iconst 1, 1) := by decide +kernel
theorem dX5_fits_23 : decode cX5_fits 23 = .ok (.if_icmp .le 10, 3) := by decide +kernel
theorem dX5_fits_26 : decode cX5_fits 26 = .ok (.aload_n 0, 1) := by decide +kernel
theorem dX5_fits_27 : decode cX5_fits 27 = .ok (.bipush (-2), 2) := by decide +kernel
theorem dX5_fits_29 : decode cX5_fits 29 = .ok (.invokevirtual 69, 3) := by decide +kernel
theorem dX5_fits_32 : decode cX5_fits 32 = .ok (.ireturn, 1) := by decide +kernel
theorem dX5_fits_33 : decode cX5_fits 33 = .ok (.aload_n 0, 1) := by decide +kernel
theorem dX5_fits_34 : decode cX5_fits 34 = .ok (.getfield 19, 3) := by decide +kernel
theorem dX5_fits_37 : decode cX5_fits 37 = .ok (.iload_n 1, 1) := by decide +kernel
theorem dX5_fits_38 : decode cX5_fits 38 = .ok (.invokevirtual 150, 3) := by decide +kernel
theorem dX5_fits_41 : decode cX5_fits 41 = .ok (.ifCond .ne 10, 3) := by decide +kernel
theorem dX5_fits_44 : decode cX5_fits 44 = .ok (.aload_n 0, 1) := by decide +kernel
theorem dX5_fits_45 : decode cX5_fits 45 = .ok (.bipush (-3), 2) := by decide +kernel
theorem dX5_fits_47 : decode cX5_fits 47 = .ok (.invokevirtual 69, 3) := by decide +kernel
theorem dX5_fits_50 : decode cX5_fits 50 = .ok (.ireturn, 1) := by decide +kernel
theorem dX5_fits_51 : decode cX5_fits 51 = .ok (.iconst 0, 1) := by decide +kernel
theorem dX5_fits_52 : decode cX5_fits 52 = .ok (.istore_n 3, 1) := by decide +kernel
theorem dX5_fits_53 : decode cX5_fits 53 = .ok (.ldc 234, 2) := by decide +kernel
theorem dX5_fits_55 : decode cX5_fits 55 = .ok (.istore 4, 2) := by decide +kernel
theorem dX5_fits_57 : decode cX5_fits 57 = .ok (.iconst 0, 1) := by decide +kernel
theorem dX5_fits_58 : decode cX5_fits 58 = .ok (.istore 5, 2) := by decide +kernel
theorem dX5_fits_60 : decode cX5_fits 60 = .ok (.iload 5, 2) := by decide +kernel
theorem dX5_fits_62 : decode cX5_fits 62 = .ok (.bipush 12, 2) := by decide +kernel
theorem dX5_fits_64 : decode cX5_fits 64 = .ok (.if_icmp .ge 57, 3) := by decide +kernel
theorem dX5_fits_67 : decode cX5_fits 67 = .ok (.aload_n 0, 1) := by decide +kernel
theorem dX5_fits_68 : decode cX5_fits 68 = .ok (.getfield 50, 3) := by decide +kernel
theorem dX5_fits_71 : decode cX5_fits 71 = .ok (.aload_n 0, 1) := by decide +kernel
theorem dX5_fits_72 : decode cX5_fits 72 = .ok (.getfield 10, 3) := by decide +kernel
theorem dX5_fits_75 : decode cX5_fits 75 = .ok (.invokevirtual 88, 3) := by decide +kernel
theorem dX5_fits_78 : decode cX5_fits 78 = .ok (.aload_n 0, 1) := by decide +kernel
theorem dX5_fits_79 : decode cX5_fits 79 = .ok (.getfield 50, 3) := by decide +kernel
theorem dX5_fits_82 : decode cX5_fits 82 = .ok (.aload_n 0, 1) := by decide +kernel
theorem dX5_fits_83 : decode cX5_fits 83 = .ok (.getfield 19, 3) := by decide +kernel
theorem dX5_fits_86 : decode cX5_fits 86 = .ok (.iload_n 1, 1) := by decide +kernel
theorem dX5_fits_87 : decode cX5_fits 87 = .ok (.iload 5, 2) := by decide +kernel
theorem dX5_fits_89 : decode cX5_fits 89 = .ok (.invokevirtual 153, 3) := by decide +kernel
theorem dX5_fits_92 : decode cX5_fits 92 = .ok (.aload_n 0, 1) := by decide +kernel
theorem dX5_fits_93 : decode cX5_fits 93 = .ok (.getfield 50, 3) := by decide +kernel
theorem dX5_fits_96 : decode cX5_fits 96 = .ok (.invokevirtual 200, 3) := by decide +kernel
theorem dX5_fits_99 : decode cX5_fits 99 = .ok (.istore 6, 2) := by decide +kernel
theorem dX5_fits_101 : decode cX5_fits 101 = .ok (.iload 6, 2) := by decide +kernel
theorem dX5_fits_103 : decode cX5_fits 103 = .ok (.iload 4, 2) := by decide +kernel
theorem dX5_fits_105 : decode cX5_fits 105 = .ok (.if_icmp .ge 10, 3) := by decide +kernel
theorem dX5_fits_108 : decode cX5_fits 108 = .ok (.iload 6, 2) := by decide +kernel
theorem dX5_fits_110 : decode cX5_fits 110 = .ok (.istore 4, 2) := by decide +kernel
theorem dX5_fits_112 : decode cX5_fits 112 = .ok (.iload 5, 2) := by decide +kernel
theorem dX5_fits_114 : decode cX5_fits 114 = .ok (.istore_n 3, 1) := by decide +kernel
theorem dX5_fits_115 : decode cX5_fits 115 = .ok (.iinc 5 1, 3) := by decide +kernel
theorem dX5_fits_118 : decode cX5_fits 118 = .ok (.goto (-58), 3) := by decide +kernel
theorem dX5_fits_121 : decode cX5_fits 121 = .ok (.iload_n 2, 1) := by decide +kernel
theorem dX5_fits_122 : decode cX5_fits 122 = .ok (.ifCond .ne 7, 3) := by decide +kernel
theorem dX5_fits_125 : decode cX5_fits 125 = .ok (.iload_n 3, 1) := by decide +kernel
theorem dX5_fits_126 : decode cX5_fits 126 = .ok (.goto 5, 3) := by decide +kernel
theorem dX5_fits_129 : decode cX5_fits 129 = .ok (.iload 4, 2) := by decide +kernel
theorem dX5_fits_131 : decode cX5_fits 131 = .ok (.ireturn, 1) := by decide +kernel
set_option maxRecDepth 100000 in
set_option maxHeartbeats 4000000 in
theorem k_X5_fits (κ : Kp) (xa : Nat → Nat → Nat) (X : XS) (p : Int) (w : Int)  (ha_p : In32 p) (ha_w : In32 w) (ok : okC (cl (X 0))) (hy : X 0 4 0 ≤ 999) (okr : okRl (X 12)) : mI κ yX5_fits cX5_fits 7 .int 4 [.ref (xa 18 100), .int (iI p), .int (iI w)] (xw κ xa X) (qX κ xa X (qFits (cl (X 0)) (X 12 0) (X 12 1) (X 12 2) (uR (X 12)) (X 12 3 0) p w)) := by
  refine mI_of (by decide) (Nat.le_of_ble_eq_true rfl) (fun E F K => ?_)
  refine g_lv (lv' := [(0, .ref (xa 18 100)), (1, .int (iI p)), (2, .int (iI w))]) rfl ?_
  have hn := okr.1
  have hu : uR (X 12) p = X 12 4 0 / p2 p % 2 := rfl
  refine g_aload_n F 0 dX5_fits_0 rfl ?_
  refine g18_get_1 F  lf_X5_19 dX5_fits_1 ?_
  refine g_iload_n F 1 dX5_fits_4 rfl ?_
  refine g_callNI F (stk := [.int (iI p), .ref (xa 12 100)]) (st := []) (k_X2_has κ xa X 0 (by decide) p (show In32 p ∧ 0 ≤ ((X 12) 3 0) ∧ ((X 12) 3 0) ≤ 6 from by omega)) cal_X2_has nm_X5_190 60 rfl rfl rfl rfl (by decide) rfl (Nat.le_of_ble_eq_true rfl) dX5_fits_5 (fun r5 ws5 _ hr5 => ?_)
  obtain ⟨rfl, rfl⟩ := hr5
  refine g_if_ne F 17 (b2i_in _) dX5_fits_8 (by decide) (fun c8 => ?_) (fun c8 => ?_)
  · skip
    have c8 : 0 ≤ p ∧ p < (X 12) 3 0 := b2i_t c8
    refine g_iload_n F 2 dX5_fits_17 rfl ?_
    refine g_if_lt F 26 (by omega) dX5_fits_18 (by decide) (fun c18 => ?_) (fun c18 => ?_)
    · skip
      refine g_aload_n F 0 dX5_fits_26 rfl ?_
      refine g_bipush F dX5_fits_27 (by decide +kernel) ?_
      refine g_callI F (stk := [.int (iI (-2)), .ref (xa 18 100)]) (st := []) (k_X5_refuse κ xa X (-2) (by omega)) cal_X5_refuse lm_X5_69 81 rfl rfl rfl rfl (by decide) rfl (Nat.le_of_ble_eq_true rfl) dX5_fits_29 (fun r29 ws29 _ hr29 => ?_)
      obtain ⟨rfl, rfl⟩ := hr29
      have hq : (-2) = qFits (cl (X 0)) (X 12 0) (X 12 1) (X 12 2) (uR (X 12)) (X 12 3 0) p w := by unfold qFits; (repeat' split) <;> omega
      exact K xw_same ⟨_, rfl, iIc hq, (sX_18 sX_0 rfl rfl rfl), (by rw [← hq]; exact (rfa_r (by omega)).symm)⟩ rfl dX5_fits_32
    · skip
      refine g_iload_n F 2 dX5_fits_21 rfl ?_
      refine g_iconst F dX5_fits_22 ?_
      refine g_icmp_le F 33 (by omega) dX5_fits_23 (by decide) (fun c23 => ?_) (fun c23 => ?_)
      · skip
        refine g_aload_n F 0 dX5_fits_33 rfl ?_
        refine g18_get_1 F  lf_X5_19 dX5_fits_34 ?_
        refine g_iload_n F 1 dX5_fits_37 rfl ?_
        refine g_callNI F (stk := [.int (iI p), .ref (xa 12 100)]) (st := []) (k_X2_isFree κ xa X 0 (by decide) p (show In32 p ∧ (0 ≤ ((X 12) 3 0) ∧ ((X 12) 3 0) ≤ 6) ∧ 0 ≤ ((X 12) 4 0) ∧ ((X 12) 4 0) < 64 from by omega)) cal_X2_isFree nm_X5_150 60 rfl rfl rfl rfl (by decide) rfl (Nat.le_of_ble_eq_true rfl) dX5_fits_38 (fun r38 ws38 _ hr38 => ?_)
        obtain ⟨rfl, rfl⟩ := hr38
        refine g_if_ne F 51 (b2i_in _) dX5_fits_41 (by decide) (fun c41 => ?_) (fun c41 => ?_)
        · skip
          have c41 : (0 ≤ p ∧ p < (X 12) 3 0) ∧ (X 12) 4 0 / p2 p % 2 = 0 := b2i_t c41
          refine g_iconst F dX5_fits_51 ?_
          refine g_istore_n F (lv' := [(3, .int (iI 0)), (0, .ref (xa 18 100)), (1, .int (iI p)), (2, .int (iI w))]) 3 dX5_fits_52 rfl (by decide) rfl ?_
          refine g_ldc F (z := 2147483647) lc_X5_234 (by decide +kernel) dX5_fits_53 ?_
          refine g_istore F (lv' := [(4, .int (iI 2147483647)), (3, .int (iI 0)), (0, .ref (xa 18 100)), (1, .int (iI p)), (2, .int (iI w))]) dX5_fits_55 (by decide) rfl ?_
          refine g_iconst F dX5_fits_57 ?_
          refine g_istore F (lv' := [(5, .int (iI 0)), (4, .int (iI 2147483647)), (3, .int (iI 0)), (0, .ref (xa 18 100)), (1, .int (iI p)), (2, .int (iI w))]) dX5_fits_58 (by decide) rfl ?_
          have L60 : ∀ (mz60 : Nat) (c : Int) (b : Int) (l : Int) (D : MS), (12 - c).toNat = mz60 → (0 ≤ c ∧ c ≤ 12) → (smn yes (fun c => allPull (mkp (cl (X 0)) (X 12 0) (X 12 1) (X 12 2) p c)) (fun c => c) (0, MAXI) c = (b, l)) → (0 ≤ l ∧ l ≤ 2147483647 ∧ 0 ≤ b ∧ b ≤ c) → G E (xw κ xa (setO X 2 D)) [(5, .int (iI c)), (4, .int (iI l)), (3, .int (iI b)), (0, .ref (xa 18 100)), (1, .int (iI p)), (2, .int (iI w))] 60 [] := by
            intro mz60
            induction mz60 using Nat.strongRecOn with
            | _ mz60 ih60 =>
            intro c b l D hmz60 hc hs hl
            refine g_iload F 0 dX5_fits_60 rfl ?_
            refine g_bipush F dX5_fits_62 (by decide +kernel) ?_
            refine g_icmp_ge F 121 (by omega) dX5_fits_64 (by decide) (fun c64 => ?_) (fun c64 => ?_)
            · skip
              refine g_iload_n F 5 dX5_fits_121 rfl ?_
              refine g_if_ne F 129 (by omega) dX5_fits_122 (by decide) (fun c122 => ?_) (fun c122 => ?_)
              · skip
                refine g_iload F 1 dX5_fits_129 rfl ?_
                have e : sFits (cl (X 0)) (X 12 0) (X 12 1) (X 12 2) p = (b, l) := by rw [show c = 12 by omega] at hs; exact hs
                have e1 : (sFits (cl (X 0)) (X 12 0) (X 12 1) (X 12 2) p).1 = b := by rw [e]
                have e2 : (sFits (cl (X 0)) (X 12 0) (X 12 1) (X 12 2) p).2 = l := by rw [e]
                have hq : l = qFits (cl (X 0)) (X 12 0) (X 12 1) (X 12 2) (uR (X 12)) (X 12 3 0) p w := by unfold qFits; (repeat' split) <;> omega
                exact K xw_same ⟨_, rfl, iIc hq, (sX_o sX_0 (by decide)), (by rw [← hq]; exact (rfa_n (by omega)).symm)⟩ rfl dX5_fits_131
              · skip
                refine g_iload_n F 2 dX5_fits_125 rfl ?_
                refine g_goto F 131 dX5_fits_126 (by decide) ?_
                have e : sFits (cl (X 0)) (X 12 0) (X 12 1) (X 12 2) p = (b, l) := by rw [show c = 12 by omega] at hs; exact hs
                have e1 : (sFits (cl (X 0)) (X 12 0) (X 12 1) (X 12 2) p).1 = b := by rw [e]
                have e2 : (sFits (cl (X 0)) (X 12 0) (X 12 1) (X 12 2) p).2 = l := by rw [e]
                have hq : b = qFits (cl (X 0)) (X 12 0) (X 12 1) (X 12 2) (uR (X 12)) (X 12 3 0) p w := by unfold qFits; (repeat' split) <;> omega
                exact K xw_same ⟨_, rfl, iIc hq, (sX_o sX_0 (by decide)), (by rw [← hq]; exact (rfa_n (by omega)).symm)⟩ rfl dX5_fits_131
            · skip
              have hrp := okr.p (p := p) (by omega) (by omega)
              have hpb := allPull_bd (make_ok (c := c) ok hrp.1 hrp.2.1 hrp.2.2).A
              refine g_aload_n F 3 dX5_fits_67 rfl ?_
              refine g18_get_10 F  lf_X5_50 dX5_fits_68 ?_
              refine g_aload_n F 3 dX5_fits_71 rfl ?_
              refine g18_get_0 F  lf_X5_10 dX5_fits_72 ?_
              refine g_callNV F (stk := [.ref (xa 0 100), .ref (xa 2 100)]) (st := []) (k_X0_become κ xa (setO X 2 D) 2 (by decide) 0 (by decide) (by decide)) cal_X0_become nm_X5_88 10 rfl rfl rfl rfl (by decide) rfl (Nat.le_of_ble_eq_true rfl) dX5_fits_75 (fun ws75 _ hr75 => ?_)
              obtain rfl := hr75
              refine g_ws (ws' := xw κ xa (setO X 2 (stC D (cl (X 0))))) rfl ?_
              refine g_aload_n F 3 dX5_fits_78 rfl ?_
              refine g18_get_10 F  lf_X5_50 dX5_fits_79 ?_
              refine g_aload_n F 3 dX5_fits_82 rfl ?_
              refine g18_get_1 F  lf_X5_19 dX5_fits_83 ?_
              refine g_iload_n F 4 dX5_fits_86 rfl ?_
              refine g_iload F 0 dX5_fits_87 rfl ?_
              refine g_callNV F (stk := [.int (iI c), .int (iI p), .ref (xa 12 100), .ref (xa 2 100)]) (st := []) (k_X0_put κ xa (setO X 2 (stC D (cl (X 0)))) 2 (by decide) 0 p c (by decide) (by omega) (by omega)) cal_X0_put nm_X5_153 10 rfl rfl rfl rfl (by decide) rfl (Nat.le_of_ble_eq_true rfl) dX5_fits_89 (fun ws89 _ hr89 => ?_)
              obtain rfl := hr89
              refine g_ws (ws' := xw κ xa (setO X 2 (stC D (make (cl (X 0)) c ((X 12) 0 p) ((X 12) 1 p) ((X 12) 2 p))))) rfl ?_
              refine g_aload_n F 3 dX5_fits_92 rfl ?_
              refine g18_get_10 F  lf_X5_50 dX5_fits_93 ?_
              refine g_callNI F (stk := [.ref (xa 2 100)]) (st := []) (kS_X0_pullTogether κ xa X 2 (by decide) (stC D (make (cl (X 0)) c ((X 12) 0 p) ((X 12) 1 p) ((X 12) 2 p))) (make_ok ok hrp.1 hrp.2.1 hrp.2.2).A) cal_X0_pullTogether nm_X5_200 10 rfl rfl rfl rfl (by decide) rfl (Nat.le_of_ble_eq_true rfl) dX5_fits_96 (fun r96 ws96 _ hr96 => ?_)
              obtain ⟨rfl, rfl⟩ := hr96
              refine g_top (y := iI (allPull (make (cl (X 0)) c ((X 12) 0 p) ((X 12) 1 p) ((X 12) 2 p)))) rfl ?_
              refine g_istore F (lv' := [(6, .int (iI (allPull (make (cl (X 0)) c ((X 12) 0 p) ((X 12) 1 p) ((X 12) 2 p))))), (5, .int (iI c)), (4, .int (iI l)), (3, .int (iI b)), (0, .ref (xa 18 100)), (1, .int (iI p)), (2, .int (iI w))]) dX5_fits_99 (by decide) rfl ?_
              refine g_iload F 0 dX5_fits_101 rfl ?_
              refine g_iload F 2 dX5_fits_103 rfl ?_
              refine g_icmp_ge F 115 (by omega) dX5_fits_105 (by decide) (fun c105 => ?_) (fun c105 => ?_)
              · skip
                refine g_iinc F (lv' := [(5, .int (iI (c + 1))), (6, .int (iI (allPull (make (cl (X 0)) c ((X 12) 0 p) ((X 12) 1 p) ((X 12) 2 p))))), (4, .int (iI l)), (3, .int (iI b)), (0, .ref (xa 18 100)), (1, .int (iI p)), (2, .int (iI w))]) 1 dX5_fits_115 rfl (by decide) rfl ?_
                refine g_goto F 60 dX5_fits_118 (by decide) ?_
                refine g_sub F (lv' := [(5, .int (iI (c + 1))), (4, .int (iI l)), (3, .int (iI b)), (0, .ref (xa 18 100)), (1, .int (iI p)), (2, .int (iI w))]) [0, 2, 3, 4, 5, 6] rfl ?_
                exact ih60 _ (by omega) (c + 1) b l (stC D (make (cl (X 0)) c ((X 12) 0 p) ((X 12) 1 p) ((X 12) 2 p))) rfl (by omega) (by first | (exfalso; omega) | exact smn_tx hs rfl rfl hc.1 rfl (by omega) | exact smn_fx (x := allPull (make (cl (X 0)) c (X 12 0 p) (X 12 1 p) (X 12 2 p))) hs rfl hc.1 (Or.inr (by omega))) (by omega)
              · skip
                refine g_iload F 0 dX5_fits_108 rfl ?_
                refine g_istore F (lv' := [(4, .int (iI (allPull (make (cl (X 0)) c ((X 12) 0 p) ((X 12) 1 p) ((X 12) 2 p))))), (6, .int (iI (allPull (make (cl (X 0)) c ((X 12) 0 p) ((X 12) 1 p) ((X 12) 2 p))))), (5, .int (iI c)), (3, .int (iI b)), (0, .ref (xa 18 100)), (1, .int (iI p)), (2, .int (iI w))]) dX5_fits_110 (by decide) rfl ?_
                refine g_iload F 2 dX5_fits_112 rfl ?_
                refine g_istore_n F (lv' := [(3, .int (iI c)), (4, .int (iI (allPull (make (cl (X 0)) c ((X 12) 0 p) ((X 12) 1 p) ((X 12) 2 p))))), (6, .int (iI (allPull (make (cl (X 0)) c ((X 12) 0 p) ((X 12) 1 p) ((X 12) 2 p))))), (5, .int (iI c)), (0, .ref (xa 18 100)), (1, .int (iI p)), (2, .int (iI w))]) 3 dX5_fits_114 rfl (by decide) rfl ?_
                refine g_iinc F (lv' := [(5, .int (iI (c + 1))), (3, .int (iI c)), (4, .int (iI (allPull (make (cl (X 0)) c ((X 12) 0 p) ((X 12) 1 p) ((X 12) 2 p))))), (6, .int (iI (allPull (make (cl (X 0)) c ((X 12) 0 p) ((X 12) 1 p) ((X 12) 2 p))))), (0, .ref (xa 18 100)), (1, .int (iI p)), (2, .int (iI w))]) 3 dX5_fits_115 rfl (by decide) rfl ?_
                refine g_goto F 60 dX5_fits_118 (by decide) ?_
                refine g_sub F (lv' := [(5, .int (iI (c + 1))), (4, .int (iI (allPull (make (cl (X 0)) c ((X 12) 0 p) ((X 12) 1 p) ((X 12) 2 p))))), (3, .int (iI c)), (0, .ref (xa 18 100)), (1, .int (iI p)), (2, .int (iI w))]) [0, 2, 1, 4, 5, 6] rfl ?_
                exact ih60 _ (by omega) (c + 1) c (allPull (make (cl (X 0)) c ((X 12) 0 p) ((X 12) 1 p) ((X 12) 2 p))) (stC D (make (cl (X 0)) c ((X 12) 0 p) ((X 12) 1 p) ((X 12) 2 p))) rfl (by omega) (by first | (exfalso; omega) | exact smn_tx hs rfl rfl hc.1 rfl (by omega) | exact smn_fx (x := allPull (make (cl (X 0)) c (X 12 0 p) (X 12 1 p) (X 12 2 p))) hs rfl hc.1 (Or.inr (by omega))) (by omega)
          refine g_sub F (lv' := [(5, .int (iI 0)), (4, .int (iI 2147483647)), (3, .int (iI 0)), (0, .ref (xa 18 100)), (1, .int (iI p)), (2, .int (iI w))]) [0, 1, 2, 3, 4, 5] rfl ?_
          refine g_ws (ws' := xw κ xa (setO X 2 (X 2))) rfl ?_
          exact L60 _ 0 0 2147483647 (X 2) rfl (by omega) rfl (by omega)
        · skip
          have c41 : ¬ ((0 ≤ p ∧ p < (X 12) 3 0) ∧ (X 12) 4 0 / p2 p % 2 = 0) := b2i_f c41
          refine g_aload_n F 0 dX5_fits_44 rfl ?_
          refine g_bipush F dX5_fits_45 (by decide +kernel) ?_
          refine g_callI F (stk := [.int (iI (-3)), .ref (xa 18 100)]) (st := []) (k_X5_refuse κ xa X (-3) (by omega)) cal_X5_refuse lm_X5_69 81 rfl rfl rfl rfl (by decide) rfl (Nat.le_of_ble_eq_true rfl) dX5_fits_47 (fun r47 ws47 _ hr47 => ?_)
          obtain ⟨rfl, rfl⟩ := hr47
          have hq : (-3) = qFits (cl (X 0)) (X 12 0) (X 12 1) (X 12 2) (uR (X 12)) (X 12 3 0) p w := by unfold qFits; (repeat' split) <;> omega
          exact K xw_same ⟨_, rfl, iIc hq, (sX_18 sX_0 rfl rfl rfl), (by rw [← hq]; exact (rfa_r (by omega)).symm)⟩ rfl dX5_fits_50
      · skip
        refine g_aload_n F 0 dX5_fits_26 rfl ?_
        refine g_bipush F dX5_fits_27 (by decide +kernel) ?_
        refine g_callI F (stk := [.int (iI (-2)), .ref (xa 18 100)]) (st := []) (k_X5_refuse κ xa X (-2) (by omega)) cal_X5_refuse lm_X5_69 81 rfl rfl rfl rfl (by decide) rfl (Nat.le_of_ble_eq_true rfl) dX5_fits_29 (fun r29 ws29 _ hr29 => ?_)
        obtain ⟨rfl, rfl⟩ := hr29
        have hq : (-2) = qFits (cl (X 0)) (X 12 0) (X 12 1) (X 12 2) (uR (X 12)) (X 12 3 0) p w := by unfold qFits; (repeat' split) <;> omega
        exact K xw_same ⟨_, rfl, iIc hq, (sX_18 sX_0 rfl rfl rfl), (by rw [← hq]; exact (rfa_r (by omega)).symm)⟩ rfl dX5_fits_32
  · skip
    have c8 : ¬ (0 ≤ p ∧ p < (X 12) 3 0) := b2i_f c8
    refine g_aload_n F 0 dX5_fits_11 rfl ?_
    refine g_iconst F dX5_fits_12 ?_
    refine g_callI F (stk := [.int (iI (-1)), .ref (xa 18 100)]) (st := []) (k_X5_refuse κ xa X (-1) (by omega)) cal_X5_refuse lm_X5_69 81 rfl rfl rfl rfl (by decide) rfl (Nat.le_of_ble_eq_true rfl) dX5_fits_13 (fun r13 ws13 _ hr13 => ?_)
    obtain ⟨rfl, rfl⟩ := hr13
    have hq : (-1) = qFits (cl (X 0)) (X 12 0) (X 12 1) (X 12 2) (uR (X 12)) (X 12 3 0) p w := by unfold qFits; (repeat' split) <;> omega
    exact K xw_same ⟨_, rfl, iIc hq, (sX_18 sX_0 rfl rfl rfl), (by rw [← hq]; exact (rfa_r (by omega)).symm)⟩ rfl dX5_fits_16
theorem dX5_bestPiece_0 : decode cX5_bestPiece 0 = .ok (.iload_n 1, 1) := by decide +kernel
theorem dX5_bestPiece_1 : decode cX5_bestPiece 1 = .ok (.invokestatic 134, 3) := by decide +kernel
theorem dX5_bestPiece_4 : decode cX5_bestPiece 4 = .ok (.ifCond .ne 9, 3) := by decide +kernel
theorem dX5_bestPiece_7 : decode cX5_bestPiece 7 = .ok (.aload_n 0, 1) := by decide +kernel
theorem dX5_bestPiece_8 : decode cX5_bestPiece 8 = .ok (.iconst (-1), 1) := by decide +kernel
theorem dX5_bestPiece_9 : decode cX5_bestPiece 9 = .ok (.invokevirtual 69, 3) := by decide +kernel
theorem dX5_bestPiece_12 : decode cX5_bestPiece 12 = .ok (.ireturn, 1) := by decide +kernel
theorem dX5_bestPiece_13 : decode cX5_bestPiece 13 = .ok (.bipush (-9), 2) := by decide +kernel
theorem dX5_bestPiece_15 : decode cX5_bestPiece 15 = .ok (.istore_n 2, 1) := by decide +kernel
theorem dX5_bestPiece_16 : decode cX5_bestPiece 16 = .ok (.iconst (-1), 1) := by decide +kernel
theorem dX5_bestPiece_17 : decode cX5_bestPiece 17 = .ok (.istore_n 3, 1) := by decide +kernel
theorem dX5_bestPiece_18 : decode cX5_bestPiece 18 = .ok (.iconst 0, 1) := by decide +kernel
theorem dX5_bestPiece_19 : decode cX5_bestPiece 19 = .ok (.istore 4, 2) := by decide +kernel
theorem dX5_bestPiece_21 : decode cX5_bestPiece 21 = .ok (.iload 4, 2) := by decide +kernel
theorem dX5_bestPiece_23 : decode cX5_bestPiece 23 = .ok (.aload_n 0, 1) := by decide +kernel
theorem dX5_bestPiece_24 : decode cX5_bestPiece 24 = .ok (.getfield 19, 3) := by decide +kernel
theorem dX5_bestPiece_27 : decode cX5_bestPiece 27 = .ok (.getfield 144, 3) := by decide +kernel
theorem dX5_bestPiece_30 : decode cX5_bestPiece 30 = .ok (.if_icmp .ge 74, 3) := by decide +kernel
theorem dX5_bestPiece_33 : decode cX5_bestPiece 33 = .ok (.aload_n 0, 1) := by decide +kernel
theorem dX5_bestPiece_34 : decode cX5_bestPiece 34 = .ok (.getfield 19, 3) := by decide +kernel
theorem dX5_bestPiece_37 : decode cX5_bestPiece 37 = .ok (.iload 4, 2) := by decide +kernel
theorem dX5_bestPiece_39 : decode cX5_bestPiece 39 = .ok (.invokevirtual 150, 3) := by decide +kernel
theorem dX5_bestPiece_42 : decode cX5_bestPiece 42 = .ok (.ifCond .ne 6, 3) := by decide +kernel
theorem dX5_bestPiece_45 : decode cX5_bestPiece 45 = .ok (.goto 53, 3) := by decide +kernel
theorem dX5_bestPiece_48 : decode cX5_bestPiece 48 = .ok (.aload_n 0, 1) := by decide +kernel
theorem dX5_bestPiece_49 : decode cX5_bestPiece 49 = .ok (.getfield 50, 3) := by decide +kernel
theorem dX5_bestPiece_52 : decode cX5_bestPiece 52 = .ok (.aload_n 0, 1) := by decide +kernel
theorem dX5_bestPiece_53 : decode cX5_bestPiece 53 = .ok (.getfield 10, 3) := by decide +kernel
theorem dX5_bestPiece_56 : decode cX5_bestPiece 56 = .ok (.invokevirtual 88, 3) := by decide +kernel
theorem dX5_bestPiece_59 : decode cX5_bestPiece 59 = .ok (.aload_n 0, 1) := by decide +kernel
theorem dX5_bestPiece_60 : decode cX5_bestPiece 60 = .ok (.getfield 50, 3) := by decide +kernel
theorem dX5_bestPiece_63 : decode cX5_bestPiece 63 = .ok (.aload_n 0, 1) := by decide +kernel
theorem dX5_bestPiece_64 : decode cX5_bestPiece 64 = .ok (.getfield 19, 3) := by decide +kernel
theorem dX5_bestPiece_67 : decode cX5_bestPiece 67 = .ok (.iload 4, 2) := by decide +kernel
theorem dX5_bestPiece_69 : decode cX5_bestPiece 69 = .ok (.iload_n 1, 1) := by decide +kernel
theorem dX5_bestPiece_70 : decode cX5_bestPiece 70 = .ok (.invokevirtual 153, 3) := by decide +kernel
theorem dX5_bestPiece_73 : decode cX5_bestPiece 73 = .ok (.aload_n 0, 1) := by decide +kernel
theorem dX5_bestPiece_74 : decode cX5_bestPiece 74 = .ok (.getfield 50, 3) := by decide +kernel
theorem dX5_bestPiece_77 : decode cX5_bestPiece 77 = .ok (.iconst 1, 1) := by decide +kernel
theorem dX5_bestPiece_78 : decode cX5_bestPiece 78 = .ok (.iload_n 1, 1) := by decide +kernel
theorem dX5_bestPiece_79 : decode cX5_bestPiece 79 = .ok (.ishl, 1) := by decide +kernel
theorem dX5_bestPiece_80 : decode cX5_bestPiece 80 = .ok (.iconst 0, 1) := by decide +kernel
theorem dX5_bestPiece_81 : decode cX5_bestPiece 81 = .ok (.invokevirtual 224, 3) := by decide +kernel
theorem dX5_bestPiece_84 : decode cX5_bestPiece 84 = .ok (.istore 5, 2) := by decide +kernel
theorem dX5_bestPiece_86 : decode cX5_bestPiece 86 = .ok (.iload 5, 2) := by decide +kernel
theorem dX5_bestPiece_88 : decode cX5_bestPiece 88 = .ok (.iload_n 3, 1) := by decide +kernel
theorem dX5_bestPiece_89 : decode cX5_bestPiece 89 = .ok (.if_icmp .le 9, 3) := by decide +kernel
theorem dX5_bestPiece_92 : decode cX5_bestPiece 92 = .ok (.iload 5, 2) := by decide +kernel
theorem dX5_bestPiece_94 : decode cX5_bestPiece 94 = .ok (.istore_n 3, 1) := by decide +kernel
theorem dX5_bestPiece_95 : decode cX5_bestPiece 95 = .ok (.iload 4, 2) := by decide +kernel
theorem dX5_bestPiece_97 : decode cX5_bestPiece 97 = .ok (.istore_n 2, 1) := by decide +kernel
theorem dX5_bestPiece_98 : decode cX5_bestPiece 98 = .ok (.iinc 4 1, 3) := by decide +kernel
theorem dX5_bestPiece_101 : decode cX5_bestPiece 101 = .ok (.goto (-80), 3) := by decide +kernel
theorem dX5_bestPiece_104 : decode cX5_bestPiece 104 = .ok (.iload_n 2, 1) := by decide +kernel
theorem dX5_bestPiece_105 : decode cX5_bestPiece 105 = .ok (.ireturn, 1) := by decide +kernel
set_option maxRecDepth 100000 in
set_option maxHeartbeats 4000000 in
theorem k_X5_bestPiece (κ : Kp) (xa : Nat → Nat → Nat) (X : XS) (c : Int)  (ha_c : In32 c) (ok : okC (cl (X 0))) (hy : X 0 4 0 ≤ 999) (okr : okRl (X 12)) : mI κ yX5_bestPiece cX5_bestPiece 6 .int 5 [.ref (xa 18 100), .int (iI c)] (xw κ xa X) (qX κ xa X (qBestPiece (cl (X 0)) (X 12 0) (X 12 1) (X 12 2) (uR (X 12)) (X 12 3 0) c)) := by
  refine mI_of (by decide) (Nat.le_of_ble_eq_true rfl) (fun E F K => ?_)
  refine g_lv (lv' := [(0, .ref (xa 18 100)), (1, .int (iI c))]) rfl ?_
  have hn := okr.1
  refine g_iload_n F 1 dX5_bestPiece_0 rfl ?_
  refine g_callSI F (stk := [.int (iI c)]) (st := []) (k_X5_isCell κ (xw κ xa X) c (by omega)) cal_X5_isCell lm_X5_134 rfl (by decide) rfl (Nat.le_of_ble_eq_true rfl) dX5_bestPiece_1 (fun r1 ws1 _ hr1 => ?_)
  obtain ⟨rfl, rfl⟩ := hr1
  refine g_if_ne F 13 (b2i_in _) dX5_bestPiece_4 (by decide) (fun c4 => ?_) (fun c4 => ?_)
  · skip
    have c4 : 0 ≤ c ∧ c < 12 := b2i_t c4
    refine g_bipush F dX5_bestPiece_13 (by decide +kernel) ?_
    refine g_istore_n F (lv' := [(2, .int (iI (-9))), (0, .ref (xa 18 100)), (1, .int (iI c))]) 2 dX5_bestPiece_15 rfl (by decide) rfl ?_
    refine g_iconst F dX5_bestPiece_16 ?_
    refine g_istore_n F (lv' := [(3, .int (iI (-1))), (2, .int (iI (-9))), (0, .ref (xa 18 100)), (1, .int (iI c))]) 3 dX5_bestPiece_17 rfl (by decide) rfl ?_
    refine g_iconst F dX5_bestPiece_18 ?_
    refine g_istore F (lv' := [(4, .int (iI 0)), (3, .int (iI (-1))), (2, .int (iI (-9))), (0, .ref (xa 18 100)), (1, .int (iI c))]) dX5_bestPiece_19 (by decide) rfl ?_
    have L21 : ∀ (mz21 : Nat) (p : Int) (b : Int) (l : Int) (D : MS), (X 12 3 0 - p).toNat = mz21 → (0 ≤ p ∧ p ≤ X 12 3 0) → (smx (frB (uR (X 12))) (fun p => lasts (mkp (cl (X 0)) (X 12 0) (X 12 1) (X 12 2) p c) c) (fun p => p) (-9, -1) p = (b, l)) → ((-1 ≤ l ∧ l ≤ 61) ∧ (b = -9 ∨ 0 ≤ b ∧ b < 6)) → G E (xw κ xa (setO X 2 D)) [(4, .int (iI p)), (3, .int (iI l)), (2, .int (iI b)), (0, .ref (xa 18 100)), (1, .int (iI c))] 21 [] := by
      intro mz21
      induction mz21 using Nat.strongRecOn with
      | _ mz21 ih21 =>
      intro p b l D hmz21 hp hs hl
      refine g_iload F 0 dX5_bestPiece_21 rfl ?_
      refine g_aload_n F 3 dX5_bestPiece_23 rfl ?_
      refine g18_get_1 F  lf_X5_19 dX5_bestPiece_24 ?_
      refine gr_getN_3 F (o := 0) (by decide) nf_X5_144 dX5_bestPiece_27 ?_
      refine g_top (y := iI ((X 12) 3 0)) rfl ?_
      refine g_icmp_ge F 104 (by omega) dX5_bestPiece_30 (by decide) (fun c30 => ?_) (fun c30 => ?_)
      · skip
        refine g_iload_n F 2 dX5_bestPiece_104 rfl ?_
        have e : sBest (cl (X 0)) (X 12 0) (X 12 1) (X 12 2) (uR (X 12)) (X 12 3 0) c = (b, l) := by rw [show p = X 12 3 0 by omega] at hs; exact hs
        have e1 : (sBest (cl (X 0)) (X 12 0) (X 12 1) (X 12 2) (uR (X 12)) (X 12 3 0) c).1 = b := by rw [e]
        have hq : b = qBestPiece (cl (X 0)) (X 12 0) (X 12 1) (X 12 2) (uR (X 12)) (X 12 3 0) c := by unfold qBestPiece; (repeat' split) <;> omega
        exact K xw_same ⟨_, rfl, iIc hq, (sX_o sX_0 (by decide)), (by rw [← hq]; exact (rfa_n (by omega)).symm)⟩ rfl dX5_bestPiece_105
      · skip
        refine g_aload_n F 3 dX5_bestPiece_33 rfl ?_
        refine g18_get_1 F  lf_X5_19 dX5_bestPiece_34 ?_
        refine g_iload F 0 dX5_bestPiece_37 rfl ?_
        refine g_callNI F (stk := [.int (iI p), .ref (xa 12 100)]) (st := []) (k_X2_isFree κ xa (setO X 2 D) 0 (by decide) p (show In32 p ∧ (0 ≤ ((X 12) 3 0) ∧ ((X 12) 3 0) ≤ 6) ∧ 0 ≤ ((X 12) 4 0) ∧ ((X 12) 4 0) < 64 from by omega)) cal_X2_isFree nm_X5_150 60 rfl rfl rfl rfl (by decide) rfl (Nat.le_of_ble_eq_true rfl) dX5_bestPiece_39 (fun r39 ws39 _ hr39 => ?_)
        obtain ⟨rfl, rfl⟩ := hr39
        refine g_top (y := iI (b2i ((0 ≤ p ∧ p < (X 12) 3 0) ∧ (X 12) 4 0 / p2 p % 2 = 0))) rfl ?_
        refine g_if_ne F 48 (b2i_in _) dX5_bestPiece_42 (by decide) (fun c42 => ?_) (fun c42 => ?_)
        · skip
          have c42 : (0 ≤ p ∧ p < (X 12) 3 0) ∧ (X 12) 4 0 / p2 p % 2 = 0 := b2i_t c42
          have hrp := okr.p (p := p) (by omega) (by omega)
          have hpc := p2_cell (c := c) (by omega)
          have hlb := lasts_bd (make (cl (X 0)) c (X 12 0 p) (X 12 1 p) (X 12 2 p)) c
          refine g_aload_n F 3 dX5_bestPiece_48 rfl ?_
          refine g18_get_10 F  lf_X5_50 dX5_bestPiece_49 ?_
          refine g_aload_n F 3 dX5_bestPiece_52 rfl ?_
          refine g18_get_0 F  lf_X5_10 dX5_bestPiece_53 ?_
          refine g_callNV F (stk := [.ref (xa 0 100), .ref (xa 2 100)]) (st := []) (k_X0_become κ xa (setO X 2 D) 2 (by decide) 0 (by decide) (by decide)) cal_X0_become nm_X5_88 10 rfl rfl rfl rfl (by decide) rfl (Nat.le_of_ble_eq_true rfl) dX5_bestPiece_56 (fun ws56 _ hr56 => ?_)
          obtain rfl := hr56
          refine g_ws (ws' := xw κ xa (setO X 2 (stC D (cl (X 0))))) rfl ?_
          refine g_aload_n F 3 dX5_bestPiece_59 rfl ?_
          refine g18_get_10 F  lf_X5_50 dX5_bestPiece_60 ?_
          refine g_aload_n F 3 dX5_bestPiece_63 rfl ?_
          refine g18_get_1 F  lf_X5_19 dX5_bestPiece_64 ?_
          refine g_iload F 0 dX5_bestPiece_67 rfl ?_
          refine g_iload_n F 4 dX5_bestPiece_69 rfl ?_
          refine g_callNV F (stk := [.int (iI c), .int (iI p), .ref (xa 12 100), .ref (xa 2 100)]) (st := []) (k_X0_put κ xa (setO X 2 (stC D (cl (X 0)))) 2 (by decide) 0 p c (by decide) (by omega) (by omega)) cal_X0_put nm_X5_153 10 rfl rfl rfl rfl (by decide) rfl (Nat.le_of_ble_eq_true rfl) dX5_bestPiece_70 (fun ws70 _ hr70 => ?_)
          obtain rfl := hr70
          refine g_ws (ws' := xw κ xa (setO X 2 (stC D (make (cl (X 0)) c ((X 12) 0 p) ((X 12) 1 p) ((X 12) 2 p))))) rfl ?_
          refine g_aload_n F 3 dX5_bestPiece_73 rfl ?_
          refine g18_get_10 F  lf_X5_50 dX5_bestPiece_74 ?_
          refine g_iconst F dX5_bestPiece_77 ?_
          refine g_iload_n F 4 dX5_bestPiece_78 rfl ?_
          refine g_ishl F dX5_bestPiece_79 ?_
          refine g_top (y := iI (p2 c)) (iI_shl1 (by omega) (by omega)) ?_
          refine g_iconst F dX5_bestPiece_80 ?_
          refine g_callNI F (stk := [.int (iI 0), .int (iI (p2 c)), .ref (xa 2 100)]) (st := []) (kS_X0_yearsToHole κ xa X 2 (by decide) (stC D (make (cl (X 0)) c ((X 12) 0 p) ((X 12) 1 p) ((X 12) 2 p))) (p2 c) 0 (by omega) (show X 0 4 0 ≤ 990000 by omega) (make_ok ok hrp.1 hrp.2.1 hrp.2.2)) cal_X0_yearsToHole nm_X5_224 10 rfl rfl rfl rfl (by decide) rfl (Nat.le_of_ble_eq_true rfl) dX5_bestPiece_81 (fun r81 ws81 _ hr81 => ?_)
          obtain ⟨rfl, rfl⟩ := hr81
          refine g_top (y := iI (ythI (make (cl (X 0)) c ((X 12) 0 p) ((X 12) 1 p) ((X 12) 2 p)) (p2 c) 0)) rfl ?_
          refine g_ws (ws' := xw κ xa (setO X 2 (stC D (goI (ythI (make (cl (X 0)) c ((X 12) 0 p) ((X 12) 1 p) ((X 12) 2 p)) (p2 c) 0 - 0) (make (cl (X 0)) c ((X 12) 0 p) ((X 12) 1 p) ((X 12) 2 p)))))) rfl ?_
          refine g_top (y := iI (lasts (make (cl (X 0)) c (X 12 0 p) (X 12 1 p) (X 12 2 p)) c)) (iIc (yth_cell _ (by omega) (by omega))) ?_
          refine g_istore F (lv' := [(5, .int (iI (lasts (make (cl (X 0)) c (X 12 0 p) (X 12 1 p) (X 12 2 p)) c))), (4, .int (iI p)), (3, .int (iI l)), (2, .int (iI b)), (0, .ref (xa 18 100)), (1, .int (iI c))]) dX5_bestPiece_84 (by decide) rfl ?_
          refine g_iload F 0 dX5_bestPiece_86 rfl ?_
          refine g_iload_n F 2 dX5_bestPiece_88 rfl ?_
          refine g_icmp_le F 98 (by omega) dX5_bestPiece_89 (by decide) (fun c89 => ?_) (fun c89 => ?_)
          · skip
            refine g_iinc F (lv' := [(4, .int (iI (p + 1))), (5, .int (iI (lasts (make (cl (X 0)) c (X 12 0 p) (X 12 1 p) (X 12 2 p)) c))), (3, .int (iI l)), (2, .int (iI b)), (0, .ref (xa 18 100)), (1, .int (iI c))]) 1 dX5_bestPiece_98 rfl (by decide) rfl ?_
            refine g_goto F 21 dX5_bestPiece_101 (by decide) ?_
            refine g_sub F (lv' := [(4, .int (iI (p + 1))), (3, .int (iI l)), (2, .int (iI b)), (0, .ref (xa 18 100)), (1, .int (iI c))]) [0, 2, 3, 4, 5] rfl ?_
            exact ih21 _ (by omega) (p + 1) b l (stC D (goI (ythI (make (cl (X 0)) c ((X 12) 0 p) ((X 12) 1 p) ((X 12) 2 p)) (p2 c) 0 - 0) (make (cl (X 0)) c ((X 12) 0 p) ((X 12) 1 p) ((X 12) 2 p)))) rfl (by omega) (by first | (exfalso; omega) | exact smx_tx hs rfl rfl hp.1 (decide_eq_true c42.2) (by omega) | exact smx_fx (x := lasts (make (cl (X 0)) c (X 12 0 p) (X 12 1 p) (X 12 2 p)) c) hs rfl hp.1 (Or.inr (by omega)) | exact smx_fk hs hp.1 (decide_eq_false (fun q => c42 ⟨by omega, q⟩))) (by omega)
          · skip
            refine g_iload F 0 dX5_bestPiece_92 rfl ?_
            refine g_istore_n F (lv' := [(3, .int (iI (lasts (make (cl (X 0)) c (X 12 0 p) (X 12 1 p) (X 12 2 p)) c))), (5, .int (iI (lasts (make (cl (X 0)) c (X 12 0 p) (X 12 1 p) (X 12 2 p)) c))), (4, .int (iI p)), (2, .int (iI b)), (0, .ref (xa 18 100)), (1, .int (iI c))]) 3 dX5_bestPiece_94 rfl (by decide) rfl ?_
            refine g_iload F 2 dX5_bestPiece_95 rfl ?_
            refine g_istore_n F (lv' := [(2, .int (iI p)), (3, .int (iI (lasts (make (cl (X 0)) c (X 12 0 p) (X 12 1 p) (X 12 2 p)) c))), (5, .int (iI (lasts (make (cl (X 0)) c (X 12 0 p) (X 12 1 p) (X 12 2 p)) c))), (4, .int (iI p)), (0, .ref (xa 18 100)), (1, .int (iI c))]) 2 dX5_bestPiece_97 rfl (by decide) rfl ?_
            refine g_iinc F (lv' := [(4, .int (iI (p + 1))), (2, .int (iI p)), (3, .int (iI (lasts (make (cl (X 0)) c (X 12 0 p) (X 12 1 p) (X 12 2 p)) c))), (5, .int (iI (lasts (make (cl (X 0)) c (X 12 0 p) (X 12 1 p) (X 12 2 p)) c))), (0, .ref (xa 18 100)), (1, .int (iI c))]) 3 dX5_bestPiece_98 rfl (by decide) rfl ?_
            refine g_goto F 21 dX5_bestPiece_101 (by decide) ?_
            refine g_sub F (lv' := [(4, .int (iI (p + 1))), (3, .int (iI (lasts (make (cl (X 0)) c (X 12 0 p) (X 12 1 p) (X 12 2 p)) c))), (2, .int (iI p)), (0, .ref (xa 18 100)), (1, .int (iI c))]) [0, 2, 1, 4, 5] rfl ?_
            exact ih21 _ (by omega) (p + 1) p (lasts (make (cl (X 0)) c (X 12 0 p) (X 12 1 p) (X 12 2 p)) c) (stC D (goI (ythI (make (cl (X 0)) c ((X 12) 0 p) ((X 12) 1 p) ((X 12) 2 p)) (p2 c) 0 - 0) (make (cl (X 0)) c ((X 12) 0 p) ((X 12) 1 p) ((X 12) 2 p)))) rfl (by omega) (by first | (exfalso; omega) | exact smx_tx hs rfl rfl hp.1 (decide_eq_true c42.2) (by omega) | exact smx_fx (x := lasts (make (cl (X 0)) c (X 12 0 p) (X 12 1 p) (X 12 2 p)) c) hs rfl hp.1 (Or.inr (by omega)) | exact smx_fk hs hp.1 (decide_eq_false (fun q => c42 ⟨by omega, q⟩))) (by omega)
        · skip
          have c42 : ¬ ((0 ≤ p ∧ p < (X 12) 3 0) ∧ (X 12) 4 0 / p2 p % 2 = 0) := b2i_f c42
          refine g_goto F 98 dX5_bestPiece_45 (by decide) ?_
          refine g_iinc F (lv' := [(4, .int (iI (p + 1))), (3, .int (iI l)), (2, .int (iI b)), (0, .ref (xa 18 100)), (1, .int (iI c))]) 0 dX5_bestPiece_98 rfl (by decide) rfl ?_
          refine g_goto F 21 dX5_bestPiece_101 (by decide) ?_
          refine g_sub F (lv' := [(4, .int (iI (p + 1))), (3, .int (iI l)), (2, .int (iI b)), (0, .ref (xa 18 100)), (1, .int (iI c))]) [0, 1, 2, 3, 4] rfl ?_
          exact ih21 _ (by omega) (p + 1) b l D rfl (by omega) (by first | (exfalso; omega) | exact smx_tx hs rfl rfl hp.1 (decide_eq_true c42.2) (by omega) | exact smx_fx (x := lasts (make (cl (X 0)) c (X 12 0 p) (X 12 1 p) (X 12 2 p)) c) hs rfl hp.1 (Or.inr (by omega)) | exact smx_fk hs hp.1 (decide_eq_false (fun q => c42 ⟨by omega, q⟩))) (by omega)
    refine g_sub F (lv' := [(4, .int (iI 0)), (3, .int (iI (-1))), (2, .int (iI (-9))), (0, .ref (xa 18 100)), (1, .int (iI c))]) [0, 1, 2, 3, 4] rfl ?_
    refine g_ws (ws' := xw κ xa (setO X 2 (X 2))) rfl ?_
    exact L21 _ 0 (-9) (-1) (X 2) rfl (by omega) rfl (by omega)
  · skip
    have c4 : ¬ (0 ≤ c ∧ c < 12) := b2i_f c4
    refine g_aload_n F 0 dX5_bestPiece_7 rfl ?_
    refine g_iconst F dX5_bestPiece_8 ?_
    refine g_callI F (stk := [.int (iI (-1)), .ref (xa 18 100)]) (st := []) (k_X5_refuse κ xa X (-1) (by omega)) cal_X5_refuse lm_X5_69 81 rfl rfl rfl rfl (by decide) rfl (Nat.le_of_ble_eq_true rfl) dX5_bestPiece_9 (fun r9 ws9 _ hr9 => ?_)
    obtain ⟨rfl, rfl⟩ := hr9
    have hq : (-1) = qBestPiece (cl (X 0)) (X 12 0) (X 12 1) (X 12 2) (uR (X 12)) (X 12 3 0) c := by unfold qBestPiece; (repeat' split) <;> omega
    exact K xw_same ⟨_, rfl, iIc hq, (sX_18 sX_0 rfl rfl rfl), (by rw [← hq]; exact (rfa_r (by omega)).symm)⟩ rfl dX5_bestPiece_12
theorem dX5_keep_0 : decode cX5_keep 0 = .ok (.aload_n 0, 1) := by decide +kernel
theorem dX5_keep_1 : decode cX5_keep 1 = .ok (.getfield 50, 3) := by decide +kernel
theorem dX5_keep_4 : decode cX5_keep 4 = .ok (.aload_n 0, 1) := by decide +kernel
theorem dX5_keep_5 : decode cX5_keep 5 = .ok (.getfield 10, 3) := by decide +kernel
theorem dX5_keep_8 : decode cX5_keep 8 = .ok (.invokevirtual 88, 3) := by decide +kernel
theorem dX5_keep_11 : decode cX5_keep 11 = .ok (.aload_n 0, 1) := by decide +kernel
theorem dX5_keep_12 : decode cX5_keep 12 = .ok (.getfield 50, 3) := by decide +kernel
theorem dX5_keep_15 : decode cX5_keep 15 = .ok (.sipush 4095, 3) := by decide +kernel
theorem dX5_keep_18 : decode cX5_keep 18 = .ok (.iconst 0, 1) := by decide +kernel
theorem dX5_keep_19 : decode cX5_keep 19 = .ok (.invokevirtual 224, 3) := by decide +kernel
theorem dX5_keep_22 : decode cX5_keep 22 = .ok (.istore_n 1, 1) := by decide +kernel
theorem dX5_keep_23 : decode cX5_keep 23 = .ok (.bipush (-9), 2) := by decide +kernel
theorem dX5_keep_25 : decode cX5_keep 25 = .ok (.istore_n 2, 1) := by decide +kernel
theorem dX5_keep_26 : decode cX5_keep 26 = .ok (.iconst 0, 1) := by decide +kernel
theorem dX5_keep_27 : decode cX5_keep 27 = .ok (.istore_n 3, 1) := by decide +kernel
theorem dX5_keep_28 : decode cX5_keep 28 = .ok (.iload_n 3, 1) := by decide +kernel
theorem dX5_keep_29 : decode cX5_keep 29 = .ok (.aload_n 0, 1) := by decide +kernel
theorem dX5_keep_30 : decode cX5_keep 30 = .ok (.getfield 19, 3) := by decide +kernel
theorem dX5_keep_33 : decode cX5_keep 33 = .ok (.getfield 144, 3) := by decide +kernel
theorem dX5_keep_36 : decode cX5_keep 36 = .ok (.if_icmp .ge 94, 3) := by decide +kernel
theorem dX5_keep_39 : decode cX5_keep 39 = .ok (.aload_n 0, 1) := by decide +kernel
theorem dX5_keep_40 : decode cX5_keep 40 = .ok (.getfield 19, 3) := by decide +kernel
theorem dX5_keep_43 : decode cX5_keep 43 = .ok (.iload_n 3, 1) := by decide +kernel
theorem dX5_keep_44 : decode cX5_keep 44 = .ok (.invokevirtual 150, 3) := by decide +kernel
theorem dX5_keep_47 : decode cX5_keep 47 = .ok (.ifCond .ne 6, 3) := by decide +kernel
theorem dX5_keep_50 : decode cX5_keep 50 = .ok (.goto 74, 3) := by decide +kernel
theorem dX5_keep_53 : decode cX5_keep 53 = .ok (.iconst 0, 1) := by decide +kernel
theorem dX5_keep_54 : decode cX5_keep 54 = .ok (.istore 4, 2) := by decide +kernel
theorem dX5_keep_56 : decode cX5_keep 56 = .ok (.iload 4, 2) := by decide +kernel
theorem dX5_keep_58 : decode cX5_keep 58 = .ok (.bipush 12, 2) := by decide +kernel
theorem dX5_keep_60 : decode cX5_keep 60 = .ok (.if_icmp .ge 64, 3) := by decide +kernel
theorem dX5_keep_63 : decode cX5_keep 63 = .ok (.aload_n 0, 1) := by decide +kernel
theorem dX5_keep_64 : decode cX5_keep 64 = .ok (.getfield 50, 3) := by decide +kernel
theorem dX5_keep_67 : decode cX5_keep 67 = .ok (.aload_n 0, 1) := by decide +kernel
theorem dX5_keep_68 : decode cX5_keep 68 = .ok (.getfield 10, 3) := by decide +kernel
theorem dX5_keep_71 : decode cX5_keep 71 = .ok (.invokevirtual 88, 3) := by decide +kernel
theorem dX5_keep_74 : decode cX5_keep 74 = .ok (.aload_n 0, 1) := by decide +kernel
theorem dX5_keep_75 : decode cX5_keep 75 = .ok (.getfield 50, 3) := by decide +kernel
theorem dX5_keep_78 : decode cX5_keep 78 = .ok (.aload_n 0, 1) := by decide +kernel
theorem dX5_keep_79 : decode cX5_keep 79 = .ok (.getfield 19, 3) := by decide +kernel
theorem dX5_keep_82 : decode cX5_keep 82 = .ok (.iload_n 3, 1) := by decide +kernel
theorem dX5_keep_83 : decode cX5_keep 83 = .ok (.iload 4, 2) := by decide +kernel
theorem dX5_keep_85 : decode cX5_keep 85 = .ok (.invokevirtual 153, 3) := by decide +kernel
theorem dX5_keep_88 : decode cX5_keep 88 = .ok (.aload_n 0, 1) := by decide +kernel
theorem dX5_keep_89 : decode cX5_keep 89 = .ok (.getfield 50, 3) := by decide +kernel
theorem dX5_keep_92 : decode cX5_keep 92 = .ok (.sipush 4095, 3) := by decide +kernel
theorem dX5_keep_95 : decode cX5_keep 95 = .ok (.iconst 0, 1) := by decide +kernel
theorem dX5_keep_96 : decode cX5_keep 96 = .ok (.invokevirtual 224, 3) := by decide +kernel
theorem dX5_keep_99 : decode cX5_keep 99 = .ok (.istore 5, 2) := by decide +kernel
theorem dX5_keep_101 : decode cX5_keep 101 = .ok (.iload 5, 2) := by decide +kernel
theorem dX5_keep_103 : decode cX5_keep 103 = .ok (.iload_n 1, 1) := by decide +kernel
theorem dX5_keep_104 : decode cX5_keep 104 = .ok (.if_icmp .le 14, 3) := by decide +kernel
theorem dX5_keep_107 : decode cX5_keep 107 = .ok (.iload 5, 2) := by decide +kernel
theorem dX5_keep_109 : decode cX5_keep 109 = .ok (.istore_n 1, 1) := by decide +kernel
theorem dX5_keep_110 : decode cX5_keep 110 = .ok (.bipush 100, 2) := by decide +kernel
theorem dX5_keep_112 : decode cX5_keep 112 = .ok (.iload_n 3, 1) := by decide +kernel
theorem dX5_keep_113 : decode cX5_keep 113 = .ok (.imul, 1) := by decide +kernel
theorem dX5_keep_114 : decode cX5_keep 114 = .ok (.iload 4, 2) := by decide +kernel
theorem dX5_keep_116 : decode cX5_keep 116 = .ok (.iadd, 1) := by decide +kernel
theorem dX5_keep_117 : decode cX5_keep 117 = .ok (.istore_n 2, 1) := by decide +kernel
theorem dX5_keep_118 : decode cX5_keep 118 = .ok (.iinc 4 1, 3) := by decide +kernel
theorem dX5_keep_121 : decode cX5_keep 121 = .ok (.goto (-65), 3) := by decide +kernel
theorem dX5_keep_124 : decode cX5_keep 124 = .ok (.iinc 3 1, 3) := by decide +kernel
theorem dX5_keep_127 : decode cX5_keep 127 = .ok (.goto (-99), 3) := by decide +kernel
theorem dX5_keep_130 : decode cX5_keep 130 = .ok (.iload_n 2, 1) := by decide +kernel
theorem dX5_keep_131 : decode cX5_keep 131 = .ok (.ireturn, 1) := by decide +kernel
set_option maxRecDepth 100000 in
set_option maxHeartbeats 4000000 in
theorem k_X5_keep (κ : Kp) (xa : Nat → Nat → Nat) (X : XS)  (ok : okC (cl (X 0))) (hy : X 0 4 0 ≤ 999) (okr : okRl (X 12)) : mI κ yX5_keep cX5_keep 6 .int 5 [.ref (xa 18 100)] (xw κ xa X) (qX κ xa X (qKeep (cl (X 0)) (X 12 0) (X 12 1) (X 12 2) (uR (X 12)) (X 12 3 0))) := by
  refine mI_of (by decide) (Nat.le_of_ble_eq_true rfl) (fun E F K => ?_)
  refine g_lv (lv' := [(0, .ref (xa 18 100))]) rfl ?_
  have hn := okr.1
  have hmb : 0 ≤ mn (cl (X 0)) ∧ mn (cl (X 0)) ≤ 61 := lasts_bd _ _
  refine g_aload_n F 0 dX5_keep_0 rfl ?_
  refine g18_get_10 F  lf_X5_50 dX5_keep_1 ?_
  refine g_aload_n F 0 dX5_keep_4 rfl ?_
  refine g18_get_0 F  lf_X5_10 dX5_keep_5 ?_
  refine g_callNV F (stk := [.ref (xa 0 100), .ref (xa 2 100)]) (st := []) (k_X0_become κ xa X 2 (by decide) 0 (by decide) (by decide)) cal_X0_become nm_X5_88 10 rfl rfl rfl rfl (by decide) rfl (Nat.le_of_ble_eq_true rfl) dX5_keep_8 (fun ws8 _ hr8 => ?_)
  obtain rfl := hr8
  refine g_aload_n F 0 dX5_keep_11 rfl ?_
  refine g18_get_10 F  lf_X5_50 dX5_keep_12 ?_
  refine g_sipush F dX5_keep_15 (by decide +kernel) ?_
  refine g_iconst F dX5_keep_18 ?_
  refine g_callNI F (stk := [.int (iI 0), .int (iI 4095), .ref (xa 2 100)]) (st := []) (kS_X0_yearsToHole κ xa X 2 (by decide) (stC (X 2) (cl (X 0))) 4095 0 (by omega) (show X 0 4 0 ≤ 990000 by omega) ok) cal_X0_yearsToHole nm_X5_224 10 rfl rfl rfl rfl (by decide) rfl (Nat.le_of_ble_eq_true rfl) dX5_keep_19 (fun r19 ws19 _ hr19 => ?_)
  obtain ⟨rfl, rfl⟩ := hr19
  refine g_top (y := iI (ythI (cl (X 0)) 4095 0)) rfl ?_
  refine g_ws (ws' := xw κ xa (setO X 2 (stC (X 2) (goI (ythI (cl (X 0)) 4095 0 - 0) (cl (X 0)))))) rfl ?_
  refine g_top (y := iI (mn (cl (X 0)))) (iIc (yth_all _)) ?_
  refine g_istore_n F (lv' := [(1, .int (iI (mn (cl (X 0))))), (0, .ref (xa 18 100))]) 1 dX5_keep_22 rfl (by decide) rfl ?_
  refine g_bipush F dX5_keep_23 (by decide +kernel) ?_
  refine g_istore_n F (lv' := [(2, .int (iI (-9))), (1, .int (iI (mn (cl (X 0))))), (0, .ref (xa 18 100))]) 2 dX5_keep_25 rfl (by decide) rfl ?_
  refine g_iconst F dX5_keep_26 ?_
  refine g_istore_n F (lv' := [(3, .int (iI 0)), (2, .int (iI (-9))), (1, .int (iI (mn (cl (X 0))))), (0, .ref (xa 18 100))]) 3 dX5_keep_27 rfl (by decide) rfl ?_
  have L28 : ∀ (mz28 : Nat) (p : Int) (b : Int) (l : Int) (D : MS), (X 12 3 0 - p).toNat = mz28 → (0 ≤ p ∧ p ≤ X 12 3 0) → (smx (fun k => frB (uR (X 12)) (k / 12)) (fun k => mn (mkp (cl (X 0)) (X 12 0) (X 12 1) (X 12 2) (k / 12) (k % 12))) (fun k => 100 * (k / 12) + k % 12) (-9, mn (cl (X 0))) (12 * p) = (b, l)) → ((0 ≤ l ∧ l ≤ 61) ∧ (b = -9 ∨ 0 ≤ b ∧ b < 1000)) → G E (xw κ xa (setO X 2 D)) [(3, .int (iI p)), (2, .int (iI b)), (1, .int (iI l)), (0, .ref (xa 18 100))] 28 [] := by
    intro mz28
    induction mz28 using Nat.strongRecOn with
    | _ mz28 ih28 =>
    intro p b l D hmz28 hp hs hl
    refine g_iload_n F 0 dX5_keep_28 rfl ?_
    refine g_aload_n F 3 dX5_keep_29 rfl ?_
    refine g18_get_1 F  lf_X5_19 dX5_keep_30 ?_
    refine gr_getN_3 F (o := 0) (by decide) nf_X5_144 dX5_keep_33 ?_
    refine g_top (y := iI ((X 12) 3 0)) rfl ?_
    refine g_icmp_ge F 130 (by omega) dX5_keep_36 (by decide) (fun c36 => ?_) (fun c36 => ?_)
    · skip
      refine g_iload_n F 1 dX5_keep_130 rfl ?_
      have e : sKeep (cl (X 0)) (X 12 0) (X 12 1) (X 12 2) (uR (X 12)) (X 12 3 0) = (b, l) := by rw [show p = X 12 3 0 by omega] at hs; exact hs
      have hq : b = qKeep (cl (X 0)) (X 12 0) (X 12 1) (X 12 2) (uR (X 12)) (X 12 3 0) := by unfold qKeep; rw [e]
      exact K xw_same ⟨_, rfl, iIc hq, (sX_o sX_0 (by decide)), (by rw [← hq]; exact (rfa_n (by omega)).symm)⟩ rfl dX5_keep_131
    · skip
      refine g_aload_n F 3 dX5_keep_39 rfl ?_
      refine g18_get_1 F  lf_X5_19 dX5_keep_40 ?_
      refine g_iload_n F 0 dX5_keep_43 rfl ?_
      refine g_callNI F (stk := [.int (iI p), .ref (xa 12 100)]) (st := []) (k_X2_isFree κ xa (setO X 2 D) 0 (by decide) p (show In32 p ∧ (0 ≤ ((X 12) 3 0) ∧ ((X 12) 3 0) ≤ 6) ∧ 0 ≤ ((X 12) 4 0) ∧ ((X 12) 4 0) < 64 from by omega)) cal_X2_isFree nm_X5_150 60 rfl rfl rfl rfl (by decide) rfl (Nat.le_of_ble_eq_true rfl) dX5_keep_44 (fun r44 ws44 _ hr44 => ?_)
      obtain ⟨rfl, rfl⟩ := hr44
      refine g_top (y := iI (b2i ((0 ≤ p ∧ p < (X 12) 3 0) ∧ (X 12) 4 0 / p2 p % 2 = 0))) rfl ?_
      refine g_if_ne F 53 (b2i_in _) dX5_keep_47 (by decide) (fun c47 => ?_) (fun c47 => ?_)
      · skip
        have c47 : (0 ≤ p ∧ p < (X 12) 3 0) ∧ (X 12) 4 0 / p2 p % 2 = 0 := b2i_t c47
        refine g_iconst F dX5_keep_53 ?_
        refine g_istore F (lv' := [(4, .int (iI 0)), (3, .int (iI p)), (2, .int (iI b)), (1, .int (iI l)), (0, .ref (xa 18 100))]) dX5_keep_54 (by decide) rfl ?_
        have L56 : ∀ (mz56 : Nat) (c : Int) (b2 : Int) (l2 : Int) (D2 : MS), (12 - c).toNat = mz56 → (0 ≤ c ∧ c ≤ 12) → (smx (fun k => frB (uR (X 12)) (k / 12)) (fun k => mn (mkp (cl (X 0)) (X 12 0) (X 12 1) (X 12 2) (k / 12) (k % 12))) (fun k => 100 * (k / 12) + k % 12) (-9, mn (cl (X 0))) (12 * p + c) = (b2, l2)) → ((0 ≤ l2 ∧ l2 ≤ 61) ∧ (b2 = -9 ∨ 0 ≤ b2 ∧ b2 < 1000)) → G E (xw κ xa (setO X 2 D2)) [(4, .int (iI c)), (3, .int (iI p)), (2, .int (iI b2)), (1, .int (iI l2)), (0, .ref (xa 18 100))] 56 [] := by
          intro mz56
          induction mz56 using Nat.strongRecOn with
          | _ mz56 ih56 =>
          intro c b2 l2 D2 hmz56 hc hs2 hl2
          refine g_iload F 0 dX5_keep_56 rfl ?_
          refine g_bipush F dX5_keep_58 (by decide +kernel) ?_
          refine g_icmp_ge F 124 (by omega) dX5_keep_60 (by decide) (fun c60 => ?_) (fun c60 => ?_)
          · skip
            refine g_iinc F (lv' := [(3, .int (iI (p + 1))), (4, .int (iI c)), (2, .int (iI b2)), (1, .int (iI l2)), (0, .ref (xa 18 100))]) 1 dX5_keep_124 rfl (by decide) rfl ?_
            refine g_goto F 28 dX5_keep_127 (by decide) ?_
            refine g_sub F (lv' := [(3, .int (iI (p + 1))), (2, .int (iI b2)), (1, .int (iI l2)), (0, .ref (xa 18 100))]) [0, 2, 3, 4] rfl ?_
            exact ih28 _ (by omega) (p + 1) b2 l2 D2 rfl (by omega) (by first | (rw [show 12 * (p + 1) = 12 * p + c by omega]; exact hs2) | exact smx_to (by omega) hs (by omega) (fun k a b => decide_eq_false (fun q => c47 ⟨by omega, by rw [show p = k / 12 by omega]; exact q⟩))) (by omega)
          · skip
            have hrp := okr.p (p := p) (by omega) (by omega)
            have hlb : 0 ≤ mn (make (cl (X 0)) c (X 12 0 p) (X 12 1 p) (X 12 2 p)) ∧ mn (make (cl (X 0)) c (X 12 0 p) (X 12 1 p) (X 12 2 p)) ≤ 61 := lasts_bd _ _
            refine g_aload_n F 4 dX5_keep_63 rfl ?_
            refine g18_get_10 F  lf_X5_50 dX5_keep_64 ?_
            refine g_aload_n F 4 dX5_keep_67 rfl ?_
            refine g18_get_0 F  lf_X5_10 dX5_keep_68 ?_
            refine g_callNV F (stk := [.ref (xa 0 100), .ref (xa 2 100)]) (st := []) (k_X0_become κ xa (setO X 2 D2) 2 (by decide) 0 (by decide) (by decide)) cal_X0_become nm_X5_88 10 rfl rfl rfl rfl (by decide) rfl (Nat.le_of_ble_eq_true rfl) dX5_keep_71 (fun ws71 _ hr71 => ?_)
            obtain rfl := hr71
            refine g_ws (ws' := xw κ xa (setO X 2 (stC D2 (cl (X 0))))) rfl ?_
            refine g_aload_n F 4 dX5_keep_74 rfl ?_
            refine g18_get_10 F  lf_X5_50 dX5_keep_75 ?_
            refine g_aload_n F 4 dX5_keep_78 rfl ?_
            refine g18_get_1 F  lf_X5_19 dX5_keep_79 ?_
            refine g_iload_n F 1 dX5_keep_82 rfl ?_
            refine g_iload F 0 dX5_keep_83 rfl ?_
            refine g_callNV F (stk := [.int (iI c), .int (iI p), .ref (xa 12 100), .ref (xa 2 100)]) (st := []) (k_X0_put κ xa (setO X 2 (stC D2 (cl (X 0)))) 2 (by decide) 0 p c (by decide) (by omega) (by omega)) cal_X0_put nm_X5_153 10 rfl rfl rfl rfl (by decide) rfl (Nat.le_of_ble_eq_true rfl) dX5_keep_85 (fun ws85 _ hr85 => ?_)
            obtain rfl := hr85
            refine g_ws (ws' := xw κ xa (setO X 2 (stC D2 (make (cl (X 0)) c ((X 12) 0 p) ((X 12) 1 p) ((X 12) 2 p))))) rfl ?_
            refine g_aload_n F 4 dX5_keep_88 rfl ?_
            refine g18_get_10 F  lf_X5_50 dX5_keep_89 ?_
            refine g_sipush F dX5_keep_92 (by decide +kernel) ?_
            refine g_iconst F dX5_keep_95 ?_
            refine g_callNI F (stk := [.int (iI 0), .int (iI 4095), .ref (xa 2 100)]) (st := []) (kS_X0_yearsToHole κ xa X 2 (by decide) (stC D2 (make (cl (X 0)) c ((X 12) 0 p) ((X 12) 1 p) ((X 12) 2 p))) 4095 0 (by omega) (show X 0 4 0 ≤ 990000 by omega) (make_ok ok hrp.1 hrp.2.1 hrp.2.2)) cal_X0_yearsToHole nm_X5_224 10 rfl rfl rfl rfl (by decide) rfl (Nat.le_of_ble_eq_true rfl) dX5_keep_96 (fun r96 ws96 _ hr96 => ?_)
            obtain ⟨rfl, rfl⟩ := hr96
            refine g_top (y := iI (ythI (make (cl (X 0)) c ((X 12) 0 p) ((X 12) 1 p) ((X 12) 2 p)) 4095 0)) rfl ?_
            refine g_ws (ws' := xw κ xa (setO X 2 (stC D2 (goI (ythI (make (cl (X 0)) c ((X 12) 0 p) ((X 12) 1 p) ((X 12) 2 p)) 4095 0 - 0) (make (cl (X 0)) c ((X 12) 0 p) ((X 12) 1 p) ((X 12) 2 p)))))) rfl ?_
            refine g_top (y := iI (mn (make (cl (X 0)) c (X 12 0 p) (X 12 1 p) (X 12 2 p)))) (iIc (yth_all _)) ?_
            refine g_istore F (lv' := [(5, .int (iI (mn (make (cl (X 0)) c (X 12 0 p) (X 12 1 p) (X 12 2 p))))), (4, .int (iI c)), (3, .int (iI p)), (2, .int (iI b2)), (1, .int (iI l2)), (0, .ref (xa 18 100))]) dX5_keep_99 (by decide) rfl ?_
            refine g_iload F 0 dX5_keep_101 rfl ?_
            refine g_iload_n F 4 dX5_keep_103 rfl ?_
            refine g_icmp_le F 118 (by omega) dX5_keep_104 (by decide) (fun c104 => ?_) (fun c104 => ?_)
            · skip
              refine g_iinc F (lv' := [(4, .int (iI (c + 1))), (5, .int (iI (mn (make (cl (X 0)) c (X 12 0 p) (X 12 1 p) (X 12 2 p))))), (3, .int (iI p)), (2, .int (iI b2)), (1, .int (iI l2)), (0, .ref (xa 18 100))]) 1 dX5_keep_118 rfl (by decide) rfl ?_
              refine g_goto F 56 dX5_keep_121 (by decide) ?_
              refine g_sub F (lv' := [(4, .int (iI (c + 1))), (3, .int (iI p)), (2, .int (iI b2)), (1, .int (iI l2)), (0, .ref (xa 18 100))]) [0, 2, 3, 4, 5] rfl ?_
              exact ih56 _ (by omega) (c + 1) b2 l2 (stC D2 (goI (ythI (make (cl (X 0)) c ((X 12) 0 p) ((X 12) 1 p) ((X 12) 2 p)) 4095 0 - 0) (make (cl (X 0)) c ((X 12) 0 p) ((X 12) 1 p) ((X 12) 2 p)))) rfl (by omega) (by rw [show 12 * p + (c + 1) = (12 * p + c) + 1 by omega]; first | (exfalso; omega) | exact smx_tx hs2 (by show 100 * ((12 * p + c) / 12) + (12 * p + c) % 12 = 100 * p + c; rw [show (12 * p + c) / 12 = p by omega, show (12 * p + c) % 12 = c by omega]) (by show mn (mkp (cl (X 0)) (X 12 0) (X 12 1) (X 12 2) ((12 * p + c) / 12) ((12 * p + c) % 12)) = mn (make (cl (X 0)) c (X 12 0 p) (X 12 1 p) (X 12 2 p)); rw [show (12 * p + c) / 12 = p by omega, show (12 * p + c) % 12 = c by omega]; rfl) (by omega) (by show decide (uR (X 12) ((12 * p + c) / 12) = 0) = true; rw [show (12 * p + c) / 12 = p by omega]; exact decide_eq_true c47.2) (by omega) | exact smx_fx hs2 (by show mn (mkp (cl (X 0)) (X 12 0) (X 12 1) (X 12 2) ((12 * p + c) / 12) ((12 * p + c) % 12)) = mn (make (cl (X 0)) c (X 12 0 p) (X 12 1 p) (X 12 2 p)); rw [show (12 * p + c) / 12 = p by omega, show (12 * p + c) % 12 = c by omega]; rfl) (by omega) (Or.inr (by omega))) (by omega)
            · skip
              refine g_iload F 0 dX5_keep_107 rfl ?_
              refine g_istore_n F (lv' := [(1, .int (iI (mn (make (cl (X 0)) c (X 12 0 p) (X 12 1 p) (X 12 2 p))))), (5, .int (iI (mn (make (cl (X 0)) c (X 12 0 p) (X 12 1 p) (X 12 2 p))))), (4, .int (iI c)), (3, .int (iI p)), (2, .int (iI b2)), (0, .ref (xa 18 100))]) 1 dX5_keep_109 rfl (by decide) rfl ?_
              refine g_bipush F dX5_keep_110 (by decide +kernel) ?_
              refine g_iload_n F 3 dX5_keep_112 rfl ?_
              refine g_imul F dX5_keep_113 ?_
              refine g_iload F 2 dX5_keep_114 rfl ?_
              refine g_iadd F dX5_keep_116 ?_
              refine g_istore_n F (lv' := [(2, .int (iI ((100 * p) + c))), (1, .int (iI (mn (make (cl (X 0)) c (X 12 0 p) (X 12 1 p) (X 12 2 p))))), (5, .int (iI (mn (make (cl (X 0)) c (X 12 0 p) (X 12 1 p) (X 12 2 p))))), (4, .int (iI c)), (3, .int (iI p)), (0, .ref (xa 18 100))]) 2 dX5_keep_117 rfl (by decide) rfl ?_
              refine g_iinc F (lv' := [(4, .int (iI (c + 1))), (2, .int (iI ((100 * p) + c))), (1, .int (iI (mn (make (cl (X 0)) c (X 12 0 p) (X 12 1 p) (X 12 2 p))))), (5, .int (iI (mn (make (cl (X 0)) c (X 12 0 p) (X 12 1 p) (X 12 2 p))))), (3, .int (iI p)), (0, .ref (xa 18 100))]) 3 dX5_keep_118 rfl (by decide) rfl ?_
              refine g_goto F 56 dX5_keep_121 (by decide) ?_
              refine g_sub F (lv' := [(4, .int (iI (c + 1))), (3, .int (iI p)), (2, .int (iI ((100 * p) + c))), (1, .int (iI (mn (make (cl (X 0)) c (X 12 0 p) (X 12 1 p) (X 12 2 p))))), (0, .ref (xa 18 100))]) [0, 4, 1, 2, 5] rfl ?_
              exact ih56 _ (by omega) (c + 1) ((100 * p) + c) (mn (make (cl (X 0)) c (X 12 0 p) (X 12 1 p) (X 12 2 p))) (stC D2 (goI (ythI (make (cl (X 0)) c ((X 12) 0 p) ((X 12) 1 p) ((X 12) 2 p)) 4095 0 - 0) (make (cl (X 0)) c ((X 12) 0 p) ((X 12) 1 p) ((X 12) 2 p)))) rfl (by omega) (by rw [show 12 * p + (c + 1) = (12 * p + c) + 1 by omega]; first | (exfalso; omega) | exact smx_tx hs2 (by show 100 * ((12 * p + c) / 12) + (12 * p + c) % 12 = 100 * p + c; rw [show (12 * p + c) / 12 = p by omega, show (12 * p + c) % 12 = c by omega]) (by show mn (mkp (cl (X 0)) (X 12 0) (X 12 1) (X 12 2) ((12 * p + c) / 12) ((12 * p + c) % 12)) = mn (make (cl (X 0)) c (X 12 0 p) (X 12 1 p) (X 12 2 p)); rw [show (12 * p + c) / 12 = p by omega, show (12 * p + c) % 12 = c by omega]; rfl) (by omega) (by show decide (uR (X 12) ((12 * p + c) / 12) = 0) = true; rw [show (12 * p + c) / 12 = p by omega]; exact decide_eq_true c47.2) (by omega) | exact smx_fx hs2 (by show mn (mkp (cl (X 0)) (X 12 0) (X 12 1) (X 12 2) ((12 * p + c) / 12) ((12 * p + c) % 12)) = mn (make (cl (X 0)) c (X 12 0 p) (X 12 1 p) (X 12 2 p)); rw [show (12 * p + c) / 12 = p by omega, show (12 * p + c) % 12 = c by omega]; rfl) (by omega) (Or.inr (by omega))) (by omega)
        refine g_sub F (lv' := [(4, .int (iI 0)), (3, .int (iI p)), (2, .int (iI b)), (1, .int (iI l)), (0, .ref (xa 18 100))]) [0, 1, 2, 3, 4] rfl ?_
        exact L56 _ 0 b l D rfl (by omega) (by rw [Int.add_zero]; exact hs) (by omega)
      · skip
        have c47 : ¬ ((0 ≤ p ∧ p < (X 12) 3 0) ∧ (X 12) 4 0 / p2 p % 2 = 0) := b2i_f c47
        refine g_goto F 124 dX5_keep_50 (by decide) ?_
        refine g_iinc F (lv' := [(3, .int (iI (p + 1))), (2, .int (iI b)), (1, .int (iI l)), (0, .ref (xa 18 100))]) 0 dX5_keep_124 rfl (by decide) rfl ?_
        refine g_goto F 28 dX5_keep_127 (by decide) ?_
        refine g_sub F (lv' := [(3, .int (iI (p + 1))), (2, .int (iI b)), (1, .int (iI l)), (0, .ref (xa 18 100))]) [0, 1, 2, 3] rfl ?_
        exact ih28 _ (by omega) (p + 1) b l D rfl (by omega) (by first | (rw [show 12 * (p + 1) = 12 * p + c by omega]; exact hs2) | exact smx_to (by omega) hs (by omega) (fun k a b => decide_eq_false (fun q => c47 ⟨by omega, by rw [show p = k / 12 by omega]; exact q⟩))) (by omega)
  refine g_sub F (lv' := [(3, .int (iI 0)), (2, .int (iI (-9))), (1, .int (iI (mn (cl (X 0))))), (0, .ref (xa 18 100))]) [0, 1, 2, 3] rfl ?_
  exact L28 _ 0 (-9) (mn (cl (X 0))) (stC (X 2) (goI (ythI (cl (X 0)) 4095 0 - 0) (cl (X 0)))) rfl (by omega) rfl (by omega)
theorem dX5_swap_0 : decode cX5_swap 0 = .ok (.aload_n 0, 1) := by decide +kernel
theorem dX5_swap_1 : decode cX5_swap 1 = .ok (.getfield 10, 3) := by decide +kernel
theorem dX5_swap_4 : decode cX5_swap 4 = .ok (.invokevirtual 200, 3) := by decide +kernel
theorem dX5_swap_7 : decode cX5_swap 7 = .ok (.istore_n 1, 1) := by decide +kernel
theorem dX5_swap_8 : decode cX5_swap 8 = .ok (.bipush (-9), 2) := by decide +kernel
theorem dX5_swap_10 : decode cX5_swap 10 = .ok (.istore_n 2, 1) := by decide +kernel
theorem dX5_swap_11 : decode cX5_swap 11 = .ok (.iconst 0, 1) := by decide +kernel
theorem dX5_swap_12 : decode cX5_swap 12 = .ok (.istore_n 3, 1) := by decide +kernel
theorem dX5_swap_13 : decode cX5_swap 13 = .ok (.iload_n 3, 1) := by decide +kernel
theorem dX5_swap_14 : decode cX5_swap 14 = .ok (.bipush 12, 2) := by decide +kernel
theorem dX5_swap_16 : decode cX5_swap 16 = .ok (.if_icmp .ge 74, 3) := by decide +kernel
theorem dX5_swap_19 : decode cX5_swap 19 = .ok (.iload_n 3, 1) := by decide +kernel
theorem dX5_swap_20 : decode cX5_swap 20 = .ok (.iconst 1, 1) := by decide +kernel
theorem dX5_swap_21 : decode cX5_swap 21 = .ok (.iadd, 1) := by decide +kernel
theorem dX5_swap_22 : decode cX5_swap 22 = .ok (.istore 4, 2) := by decide +kernel
theorem dX5_swap_24 : decode cX5_swap 24 = .ok (.iload 4, 2) := by decide +kernel
theorem dX5_swap_26 : decode cX5_swap 26 = .ok (.bipush 12, 2) := by decide +kernel
theorem dX5_swap_28 : decode cX5_swap 28 = .ok (.if_icmp .ge 56, 3) := by decide +kernel
theorem dX5_swap_31 : decode cX5_swap 31 = .ok (.aload_n 0, 1) := by decide +kernel
theorem dX5_swap_32 : decode cX5_swap 32 = .ok (.getfield 50, 3) := by decide +kernel
theorem dX5_swap_35 : decode cX5_swap 35 = .ok (.aload_n 0, 1) := by decide +kernel
theorem dX5_swap_36 : decode cX5_swap 36 = .ok (.getfield 10, 3) := by decide +kernel
theorem dX5_swap_39 : decode cX5_swap 39 = .ok (.invokevirtual 88, 3) := by decide +kernel
theorem dX5_swap_42 : decode cX5_swap 42 = .ok (.aload_n 0, 1) := by decide +kernel
theorem dX5_swap_43 : decode cX5_swap 43 = .ok (.getfield 50, 3) := by decide +kernel
theorem dX5_swap_46 : decode cX5_swap 46 = .ok (.iload_n 3, 1) := by decide +kernel
theorem dX5_swap_47 : decode cX5_swap 47 = .ok (.iload 4, 2) := by decide +kernel
theorem dX5_swap_49 : decode cX5_swap 49 = .ok (.invokevirtual 300, 3) := by decide +kernel
theorem dX5_swap_52 : decode cX5_swap 52 = .ok (.aload_n 0, 1) := by decide +kernel
theorem dX5_swap_53 : decode cX5_swap 53 = .ok (.getfield 50, 3) := by decide +kernel
theorem dX5_swap_56 : decode cX5_swap 56 = .ok (.invokevirtual 200, 3) := by decide +kernel
theorem dX5_swap_59 : decode cX5_swap 59 = .ok (.istore 5, 2) := by decide +kernel
theorem dX5_swap_61 : decode cX5_swap 61 = .ok (.iload 5, 2) := by decide +kernel
theorem dX5_swap_63 : decode cX5_swap 63 = .ok (.iload_n 1, 1) := by decide +kernel
theorem dX5_swap_64 : decode cX5_swap 64 = .ok (.if_icmp .ge 14, 3) := by decide +kernel
theorem dX5_swap_67 : decode cX5_swap 67 = .ok (.iload 5, 2) := by decide +kernel
theorem dX5_swap_69 : decode cX5_swap 69 = .ok (.istore_n 1, 1) := by decide +kernel
theorem dX5_swap_70 : decode cX5_swap 70 = .ok (.bipush 100, 2) := by decide +kernel
theorem dX5_swap_72 : decode cX5_swap 72 = .ok (.iload_n 3, 1) := by decide +kernel
theorem dX5_swap_73 : decode cX5_swap 73 = .ok (.imul, 1) := by decide +kernel
theorem dX5_swap_74 : decode cX5_swap 74 = .ok (.iload 4, 2) := by decide +kernel
theorem dX5_swap_76 : decode cX5_swap 76 = .ok (.iadd, 1) := by decide +kernel
theorem dX5_swap_77 : decode cX5_swap 77 = .ok (.istore_n 2, 1) := by decide +kernel
theorem dX5_swap_78 : decode cX5_swap 78 = .ok (.iinc 4 1, 3) := by decide +kernel
theorem dX5_swap_81 : decode cX5_swap 81 = .ok (.goto (-57), 3) := by decide +kernel
theorem dX5_swap_84 : decode cX5_swap 84 = .ok (.iinc 3 1, 3) := by decide +kernel
theorem dX5_swap_87 : decode cX5_swap 87 = .ok (.goto (-74), 3) := by decide +kernel
theorem dX5_swap_90 : decode cX5_swap 90 = .ok (.iload_n 2, 1) := by decide +kernel
theorem dX5_swap_91 : decode cX5_swap 91 = .ok (.ireturn, 1) := by decide +kernel
set_option maxRecDepth 100000 in
set_option maxHeartbeats 4000000 in
theorem k_X5_swap (κ : Kp) (xa : Nat → Nat → Nat) (X : XS)  (ok : okC (cl (X 0))) (hy : X 0 4 0 ≤ 999) : mI κ yX5_swap cX5_swap 6 .int 3 [.ref (xa 18 100)] (xw κ xa X) (qX κ xa X (qSwap (cl (X 0)))) := by
  refine mI_of (by decide) (Nat.le_of_ble_eq_true rfl) (fun E F K => ?_)
  refine g_lv (lv' := [(0, .ref (xa 18 100))]) rfl ?_
  have hp0 := allPull_bd ok.A
  refine g_aload_n F 0 dX5_swap_0 rfl ?_
  refine g18_get_0 F  lf_X5_10 dX5_swap_1 ?_
  refine g_callNI F (stk := [.ref (xa 0 100)]) (st := []) (k_X0_pullTogether κ xa X 0 (by decide) ok.A) cal_X0_pullTogether nm_X5_200 0 rfl rfl rfl rfl (by decide) rfl (Nat.le_of_ble_eq_true rfl) dX5_swap_4 (fun r4 ws4 _ hr4 => ?_)
  obtain ⟨rfl, rfl⟩ := hr4
  refine g_istore_n F (lv' := [(1, .int (iI (allPull (cl (X 0))))), (0, .ref (xa 18 100))]) 1 dX5_swap_7 rfl (by decide) rfl ?_
  refine g_bipush F dX5_swap_8 (by decide +kernel) ?_
  refine g_istore_n F (lv' := [(2, .int (iI (-9))), (1, .int (iI (allPull (cl (X 0))))), (0, .ref (xa 18 100))]) 2 dX5_swap_10 rfl (by decide) rfl ?_
  refine g_iconst F dX5_swap_11 ?_
  refine g_istore_n F (lv' := [(3, .int (iI 0)), (2, .int (iI (-9))), (1, .int (iI (allPull (cl (X 0))))), (0, .ref (xa 18 100))]) 3 dX5_swap_12 rfl (by decide) rfl ?_
  have L13 : ∀ (mz13 : Nat) (i : Int) (b : Int) (l : Int) (D : MS), (12 - i).toNat = mz13 → (0 ≤ i ∧ i ≤ 12) → (smn (fun k => decide (k / 12 < k % 12)) (fun k => allPull (swC (cl (X 0)) (k / 12) (k % 12))) (fun k => 100 * (k / 12) + k % 12) (-9, allPull (cl (X 0))) (12 * i) = (b, l)) → ((0 ≤ l ∧ l ≤ 3000) ∧ (b = -9 ∨ 0 ≤ b ∧ b < 1200)) → G E (xw κ xa (setO X 2 D)) [(3, .int (iI i)), (2, .int (iI b)), (1, .int (iI l)), (0, .ref (xa 18 100))] 13 [] := by
    intro mz13
    induction mz13 using Nat.strongRecOn with
    | _ mz13 ih13 =>
    intro i b l D hmz13 hi hs hl
    refine g_iload_n F 0 dX5_swap_13 rfl ?_
    refine g_bipush F dX5_swap_14 (by decide +kernel) ?_
    refine g_icmp_ge F 90 (by omega) dX5_swap_16 (by decide) (fun c16 => ?_) (fun c16 => ?_)
    · skip
      refine g_iload_n F 1 dX5_swap_90 rfl ?_
      have e : sSwap (cl (X 0)) 144 = (b, l) := by rw [show i = 12 by omega] at hs; exact hs
      have hq : b = qSwap (cl (X 0)) := by unfold qSwap; rw [e]
      exact K xw_same ⟨_, rfl, iIc hq, (sX_o sX_0 (by decide)), (by rw [← hq]; exact (rfa_n (by omega)).symm)⟩ rfl dX5_swap_91
    · skip
      refine g_iload_n F 0 dX5_swap_19 rfl ?_
      refine g_iconst F dX5_swap_20 ?_
      refine g_iadd F dX5_swap_21 ?_
      refine g_istore F (lv' := [(4, .int (iI (i + 1))), (3, .int (iI i)), (2, .int (iI b)), (1, .int (iI l)), (0, .ref (xa 18 100))]) dX5_swap_22 (by decide) rfl ?_
      have L24 : ∀ (mz24 : Nat) (j : Int) (b2 : Int) (l2 : Int) (D2 : MS), (12 - j).toNat = mz24 → (i < j ∧ j ≤ 12) → (smn (fun k => decide (k / 12 < k % 12)) (fun k => allPull (swC (cl (X 0)) (k / 12) (k % 12))) (fun k => 100 * (k / 12) + k % 12) (-9, allPull (cl (X 0))) (12 * i + j) = (b2, l2)) → ((0 ≤ l2 ∧ l2 ≤ 3000) ∧ (b2 = -9 ∨ 0 ≤ b2 ∧ b2 < 1200)) → G E (xw κ xa (setO X 2 D2)) [(4, .int (iI j)), (3, .int (iI i)), (2, .int (iI b2)), (1, .int (iI l2)), (0, .ref (xa 18 100))] 24 [] := by
        intro mz24
        induction mz24 using Nat.strongRecOn with
        | _ mz24 ih24 =>
        intro j b2 l2 D2 hmz24 hj hs2 hl2
        refine g_iload F 0 dX5_swap_24 rfl ?_
        refine g_bipush F dX5_swap_26 (by decide +kernel) ?_
        refine g_icmp_ge F 84 (by omega) dX5_swap_28 (by decide) (fun c28 => ?_) (fun c28 => ?_)
        · skip
          refine g_iinc F (lv' := [(3, .int (iI (i + 1))), (4, .int (iI j)), (2, .int (iI b2)), (1, .int (iI l2)), (0, .ref (xa 18 100))]) 1 dX5_swap_84 rfl (by decide) rfl ?_
          refine g_goto F 13 dX5_swap_87 (by decide) ?_
          refine g_sub F (lv' := [(3, .int (iI (i + 1))), (2, .int (iI b2)), (1, .int (iI l2)), (0, .ref (xa 18 100))]) [0, 2, 3, 4] rfl ?_
          exact ih13 _ (by omega) (i + 1) b2 l2 D2 rfl (by omega) (by rw [show 12 * (i + 1) = 12 * i + j by omega]; exact hs2) (by omega)
        · skip
          have hpb := allPull_bd (swC_ok ok (a := i) (b := j) (by omega) (by omega)).A
          refine g_aload_n F 4 dX5_swap_31 rfl ?_
          refine g18_get_10 F  lf_X5_50 dX5_swap_32 ?_
          refine g_aload_n F 4 dX5_swap_35 rfl ?_
          refine g18_get_0 F  lf_X5_10 dX5_swap_36 ?_
          refine g_callNV F (stk := [.ref (xa 0 100), .ref (xa 2 100)]) (st := []) (k_X0_become κ xa (setO X 2 D2) 2 (by decide) 0 (by decide) (by decide)) cal_X0_become nm_X5_88 10 rfl rfl rfl rfl (by decide) rfl (Nat.le_of_ble_eq_true rfl) dX5_swap_39 (fun ws39 _ hr39 => ?_)
          obtain rfl := hr39
          refine g_ws (ws' := xw κ xa (setO X 2 (stC D2 (cl (X 0))))) rfl ?_
          refine g_aload_n F 4 dX5_swap_42 rfl ?_
          refine g18_get_10 F  lf_X5_50 dX5_swap_43 ?_
          refine g_iload_n F 1 dX5_swap_46 rfl ?_
          refine g_iload F 0 dX5_swap_47 rfl ?_
          refine g_callNV F (stk := [.int (iI j), .int (iI i), .ref (xa 2 100)]) (st := []) (kS_X0_change κ xa X 2 (by decide) (stC D2 (cl (X 0))) i j (by omega)) cal_X0_change nm_X5_300 10 rfl rfl rfl rfl (by decide) rfl (Nat.le_of_ble_eq_true rfl) dX5_swap_49 (fun ws49 _ hr49 => ?_)
          obtain rfl := hr49
          refine g_ws (ws' := xw κ xa (setO X 2 (stC D2 (swC (cl (X 0)) i j)))) rfl ?_
          refine g_aload_n F 4 dX5_swap_52 rfl ?_
          refine g18_get_10 F  lf_X5_50 dX5_swap_53 ?_
          refine g_callNI F (stk := [.ref (xa 2 100)]) (st := []) (kS_X0_pullTogether κ xa X 2 (by decide) (stC D2 (swC (cl (X 0)) i j)) (swC_ok ok (by omega) (by omega)).A) cal_X0_pullTogether nm_X5_200 10 rfl rfl rfl rfl (by decide) rfl (Nat.le_of_ble_eq_true rfl) dX5_swap_56 (fun r56 ws56 _ hr56 => ?_)
          obtain ⟨rfl, rfl⟩ := hr56
          refine g_top (y := iI (allPull (swC (cl (X 0)) i j))) rfl ?_
          refine g_istore F (lv' := [(5, .int (iI (allPull (swC (cl (X 0)) i j)))), (4, .int (iI j)), (3, .int (iI i)), (2, .int (iI b2)), (1, .int (iI l2)), (0, .ref (xa 18 100))]) dX5_swap_59 (by decide) rfl ?_
          refine g_iload F 0 dX5_swap_61 rfl ?_
          refine g_iload_n F 4 dX5_swap_63 rfl ?_
          refine g_icmp_ge F 78 (by omega) dX5_swap_64 (by decide) (fun c64 => ?_) (fun c64 => ?_)
          · skip
            refine g_iinc F (lv' := [(4, .int (iI (j + 1))), (5, .int (iI (allPull (swC (cl (X 0)) i j)))), (3, .int (iI i)), (2, .int (iI b2)), (1, .int (iI l2)), (0, .ref (xa 18 100))]) 1 dX5_swap_78 rfl (by decide) rfl ?_
            refine g_goto F 24 dX5_swap_81 (by decide) ?_
            refine g_sub F (lv' := [(4, .int (iI (j + 1))), (3, .int (iI i)), (2, .int (iI b2)), (1, .int (iI l2)), (0, .ref (xa 18 100))]) [0, 2, 3, 4, 5] rfl ?_
            exact ih24 _ (by omega) (j + 1) b2 l2 (stC D2 (swC (cl (X 0)) i j)) rfl (by omega) (by rw [show 12 * i + (j + 1) = (12 * i + j) + 1 by omega]; first | (exfalso; omega) | exact smn_tx hs2 (by show 100 * ((12 * i + j) / 12) + (12 * i + j) % 12 = 100 * i + j; rw [show (12 * i + j) / 12 = i by omega, show (12 * i + j) % 12 = j by omega]) (by show allPull (swC (cl (X 0)) ((12 * i + j) / 12) ((12 * i + j) % 12)) = allPull (swC (cl (X 0)) i j); rw [show (12 * i + j) / 12 = i by omega, show (12 * i + j) % 12 = j by omega]) (by omega) (decide_eq_true (by omega)) (by omega) | exact smn_fx hs2 (by show allPull (swC (cl (X 0)) ((12 * i + j) / 12) ((12 * i + j) % 12)) = allPull (swC (cl (X 0)) i j); rw [show (12 * i + j) / 12 = i by omega, show (12 * i + j) % 12 = j by omega]) (by omega) (Or.inr (by omega))) (by omega)
          · skip
            refine g_iload F 0 dX5_swap_67 rfl ?_
            refine g_istore_n F (lv' := [(1, .int (iI (allPull (swC (cl (X 0)) i j)))), (5, .int (iI (allPull (swC (cl (X 0)) i j)))), (4, .int (iI j)), (3, .int (iI i)), (2, .int (iI b2)), (0, .ref (xa 18 100))]) 1 dX5_swap_69 rfl (by decide) rfl ?_
            refine g_bipush F dX5_swap_70 (by decide +kernel) ?_
            refine g_iload_n F 3 dX5_swap_72 rfl ?_
            refine g_imul F dX5_swap_73 ?_
            refine g_iload F 2 dX5_swap_74 rfl ?_
            refine g_iadd F dX5_swap_76 ?_
            refine g_istore_n F (lv' := [(2, .int (iI ((100 * i) + j))), (1, .int (iI (allPull (swC (cl (X 0)) i j)))), (5, .int (iI (allPull (swC (cl (X 0)) i j)))), (4, .int (iI j)), (3, .int (iI i)), (0, .ref (xa 18 100))]) 2 dX5_swap_77 rfl (by decide) rfl ?_
            refine g_iinc F (lv' := [(4, .int (iI (j + 1))), (2, .int (iI ((100 * i) + j))), (1, .int (iI (allPull (swC (cl (X 0)) i j)))), (5, .int (iI (allPull (swC (cl (X 0)) i j)))), (3, .int (iI i)), (0, .ref (xa 18 100))]) 3 dX5_swap_78 rfl (by decide) rfl ?_
            refine g_goto F 24 dX5_swap_81 (by decide) ?_
            refine g_sub F (lv' := [(4, .int (iI (j + 1))), (3, .int (iI i)), (2, .int (iI ((100 * i) + j))), (1, .int (iI (allPull (swC (cl (X 0)) i j)))), (0, .ref (xa 18 100))]) [0, 4, 1, 2, 5] rfl ?_
            exact ih24 _ (by omega) (j + 1) ((100 * i) + j) (allPull (swC (cl (X 0)) i j)) (stC D2 (swC (cl (X 0)) i j)) rfl (by omega) (by rw [show 12 * i + (j + 1) = (12 * i + j) + 1 by omega]; first | (exfalso; omega) | exact smn_tx hs2 (by show 100 * ((12 * i + j) / 12) + (12 * i + j) % 12 = 100 * i + j; rw [show (12 * i + j) / 12 = i by omega, show (12 * i + j) % 12 = j by omega]) (by show allPull (swC (cl (X 0)) ((12 * i + j) / 12) ((12 * i + j) % 12)) = allPull (swC (cl (X 0)) i j); rw [show (12 * i + j) / 12 = i by omega, show (12 * i + j) % 12 = j by omega]) (by omega) (decide_eq_true (by omega)) (by omega) | exact smn_fx hs2 (by show allPull (swC (cl (X 0)) ((12 * i + j) / 12) ((12 * i + j) % 12)) = allPull (swC (cl (X 0)) i j); rw [show (12 * i + j) / 12 = i by omega, show (12 * i + j) % 12 = j by omega]) (by omega) (Or.inr (by omega))) (by omega)
      refine g_sub F (lv' := [(4, .int (iI (i + 1))), (3, .int (iI i)), (2, .int (iI b)), (1, .int (iI l)), (0, .ref (xa 18 100))]) [0, 1, 2, 3, 4] rfl ?_
      exact L24 _ (i + 1) b l D rfl (by omega) (smn_to (by omega) hs (by omega) (fun k _ _ => decide_eq_false (by omega))) (by omega)
  refine g_sub F (lv' := [(3, .int (iI 0)), (2, .int (iI (-9))), (1, .int (iI (allPull (cl (X 0))))), (0, .ref (xa 18 100))]) [0, 1, 2, 3] rfl ?_
  refine g_ws (ws' := xw κ xa (setO X 2 (X 2))) rfl ?_
  exact L13 _ 0 (-9) (allPull (cl (X 0))) (X 2) rfl (by omega) rfl (by omega)
theorem dX5_ageFor_0 : decode cX5_ageFor 0 = .ok (.iload_n 1, 1) := by decide +kernel
theorem dX5_ageFor_1 : decode cX5_ageFor 1 = .ok (.invokestatic 134, 3) := by decide +kernel
theorem dX5_ageFor_4 : decode cX5_ageFor 4 = .ok (.ifCond .ne 9, 3) := by decide +kernel
theorem dX5_ageFor_7 : decode cX5_ageFor 7 = .ok (.aload_n 0, 1) := by decide +kernel
theorem dX5_ageFor_8 : decode cX5_ageFor 8 = .ok (.iconst (-1), 1) := by decide +kernel
theorem dX5_ageFor_9 : decode cX5_ageFor 9 = .ok (.invokevirtual 69, 3) := by decide +kernel
theorem dX5_ageFor_12 : decode cX5_ageFor 12 = .ok (.ireturn, 1) := by decide +kernel
theorem dX5_ageFor_13 : decode cX5_ageFor 13 = .ok (.iconst 0, 1) := by decide +kernel
theorem dX5_ageFor_14 : decode cX5_ageFor 14 = .ok (.istore_n 2, 1) := by decide +kernel
theorem dX5_ageFor_15 : decode cX5_ageFor 15 = .ok (.ldc 234, 2) := by decide +kernel
theorem dX5_ageFor_17 : decode cX5_ageFor 17 = .ok (.istore_n 3, 1) := by decide +kernel
theorem dX5_ageFor_18 : decode cX5_ageFor 18 = .ok (.iconst 0, 1) := by decide +kernel
theorem dX5_ageFor_19 : decode cX5_ageFor 19 = .ok (.istore 4, 2) := by decide +kernel
theorem dX5_ageFor_21 : decode cX5_ageFor 21 = .ok (.iload 4, 2) := by decide +kernel
theorem dX5_ageFor_23 : decode cX5_ageFor 23 = .ok (.bipush 100, 2) := by decide +kernel
theorem dX5_ageFor_25 : decode cX5_ageFor 25 = .ok (.if_icmp .ge 38, 3) := by decide +kernel
theorem dX5_ageFor_28 : decode cX5_ageFor 28 = .ok (.aload_n 0, 1) := by decide +kernel
theorem dX5_ageFor_29 : decode cX5_ageFor 29 = .ok (.iload_n 1, 1) := by decide +kernel
theorem dX5_ageFor_30 : decode cX5_ageFor 30 = .ok (.iconst 2, 1) := by decide +kernel
theorem dX5_ageFor_31 : decode cX5_ageFor 31 = .ok (.iload 4, 2) := by decide +kernel
theorem dX5_ageFor_33 : decode cX5_ageFor 33 = .ok (.invokevirtual 278, 3) := by decide +kernel
theorem dX5_ageFor_36 : decode cX5_ageFor 36 = .ok (.aload_n 0, 1) := by decide +kernel
theorem dX5_ageFor_37 : decode cX5_ageFor 37 = .ok (.getfield 50, 3) := by decide +kernel
theorem dX5_ageFor_40 : decode cX5_ageFor 40 = .ok (.invokevirtual 200, 3) := by decide +kernel
theorem dX5_ageFor_43 : decode cX5_ageFor 43 = .ok (.istore 5, 2) := by decide +kernel
theorem dX5_ageFor_45 : decode cX5_ageFor 45 = .ok (.iload 5, 2) := by decide +kernel
theorem dX5_ageFor_47 : decode cX5_ageFor 47 = .ok (.iload_n 3, 1) := by decide +kernel
theorem dX5_ageFor_48 : decode cX5_ageFor 48 = .ok (.if_icmp .ge 9, 3) := by decide +kernel
theorem dX5_ageFor_51 : decode cX5_ageFor 51 = .ok (.iload 5, 2) := by decide +kernel
theorem dX5_ageFor_53 : decode cX5_ageFor 53 = .ok (.istore_n 3, 1) := by decide +kernel
theorem dX5_ageFor_54 : decode cX5_ageFor 54 = .ok (.iload 4, 2) := by decide +kernel
theorem dX5_ageFor_56 : decode cX5_ageFor 56 = .ok (.istore_n 2, 1) := by decide +kernel
theorem dX5_ageFor_57 : decode cX5_ageFor 57 = .ok (.iinc 4 1, 3) := by decide +kernel
theorem dX5_ageFor_60 : decode cX5_ageFor 60 = .ok (.goto (-39), 3) := by decide +kernel
theorem dX5_ageFor_63 : decode cX5_ageFor 63 = .ok (.iload_n 2, 1) := by decide +kernel
theorem dX5_ageFor_64 : decode cX5_ageFor 64 = .ok (.ireturn, 1) := by decide +kernel
set_option maxRecDepth 100000 in
set_option maxHeartbeats 4000000 in
theorem k_X5_ageFor (κ : Kp) (xa : Nat → Nat → Nat) (X : XS) (c : Int)  (ha_c : In32 c) (ok : okC (cl (X 0))) (hy : X 0 4 0 ≤ 999) : mI κ yX5_ageFor cX5_ageFor 6 .int 3 [.ref (xa 18 100), .int (iI c)] (xw κ xa X) (qX κ xa X (qAgeFor (cl (X 0)) c)) := by
  refine mI_of (by decide) (Nat.le_of_ble_eq_true rfl) (fun E F K => ?_)
  refine g_lv (lv' := [(0, .ref (xa 18 100)), (1, .int (iI c))]) rfl ?_
  refine g_iload_n F 1 dX5_ageFor_0 rfl ?_
  refine g_callSI F (stk := [.int (iI c)]) (st := []) (k_X5_isCell κ (xw κ xa X) c (by omega)) cal_X5_isCell lm_X5_134 rfl (by decide) rfl (Nat.le_of_ble_eq_true rfl) dX5_ageFor_1 (fun r1 ws1 _ hr1 => ?_)
  obtain ⟨rfl, rfl⟩ := hr1
  refine g_if_ne F 13 (b2i_in _) dX5_ageFor_4 (by decide) (fun c4 => ?_) (fun c4 => ?_)
  · skip
    have c4 : 0 ≤ c ∧ c < 12 := b2i_t c4
    refine g_iconst F dX5_ageFor_13 ?_
    refine g_istore_n F (lv' := [(2, .int (iI 0)), (0, .ref (xa 18 100)), (1, .int (iI c))]) 2 dX5_ageFor_14 rfl (by decide) rfl ?_
    refine g_ldc F (z := 2147483647) lc_X5_234 (by decide +kernel) dX5_ageFor_15 ?_
    refine g_istore_n F (lv' := [(3, .int (iI 2147483647)), (2, .int (iI 0)), (0, .ref (xa 18 100)), (1, .int (iI c))]) 3 dX5_ageFor_17 rfl (by decide) rfl ?_
    refine g_iconst F dX5_ageFor_18 ?_
    refine g_istore F (lv' := [(4, .int (iI 0)), (3, .int (iI 2147483647)), (2, .int (iI 0)), (0, .ref (xa 18 100)), (1, .int (iI c))]) dX5_ageFor_19 (by decide) rfl ?_
    have L21 : ∀ (mz21 : Nat) (v : Int) (b : Int) (l : Int) (D : MS), (100 - v).toNat = mz21 → (0 ≤ v ∧ v ≤ 100) → (smn yes (fun v => allPull (oth (cl (X 0)) 2 c v)) (fun v => v) (0, MAXI) v = (b, l)) → (0 ≤ l ∧ l ≤ 2147483647 ∧ 0 ≤ b ∧ b ≤ v) → G E (xw κ xa (setO X 2 D)) [(4, .int (iI v)), (3, .int (iI l)), (2, .int (iI b)), (0, .ref (xa 18 100)), (1, .int (iI c))] 21 [] := by
      intro mz21
      induction mz21 using Nat.strongRecOn with
      | _ mz21 ih21 =>
      intro v b l D hmz21 hv hs hl
      refine g_iload F 0 dX5_ageFor_21 rfl ?_
      refine g_bipush F dX5_ageFor_23 (by decide +kernel) ?_
      refine g_icmp_ge F 63 (by omega) dX5_ageFor_25 (by decide) (fun c25 => ?_) (fun c25 => ?_)
      · skip
        refine g_iload_n F 2 dX5_ageFor_63 rfl ?_
        have e : sAge (cl (X 0)) c 100 = (b, l) := by rw [show v = 100 by omega] at hs; exact hs
        have e1 : (sAge (cl (X 0)) c 100).1 = b := by rw [e]
        have hq : b = qAgeFor (cl (X 0)) c := by unfold qAgeFor; (repeat' split) <;> omega
        exact K xw_same ⟨_, rfl, iIc hq, (sX_o sX_0 (by decide)), (by rw [← hq]; exact (rfa_n (by omega)).symm)⟩ rfl dX5_ageFor_64
      · skip
        have okv := oth_ok (w := 2) (c := c) (v := v) ok (by omega)
        have hpb := allPull_bd okv.A
        refine g_aload_n F 3 dX5_ageFor_28 rfl ?_
        refine g_iload_n F 4 dX5_ageFor_29 rfl ?_
        refine g_iconst F dX5_ageFor_30 ?_
        refine g_iload F 0 dX5_ageFor_31 rfl ?_
        refine g_callV F (stk := [.int (iI v), .int (iI 2), .int (iI c), .ref (xa 18 100)]) (st := []) (k_X5_thinkOther κ xa (setO X 2 D) c 2 v (by omega)) cal_X5_thinkOther lm_X5_278 81 rfl rfl rfl rfl (by decide) rfl (Nat.le_of_ble_eq_true rfl) dX5_ageFor_33 (fun ws33 _ hr33 => ?_)
        obtain rfl := hr33
        refine g_ws (ws' := xw κ xa (setO X 2 (stC D (oth (cl (X 0)) 2 c v)))) rfl ?_
        refine g_aload_n F 3 dX5_ageFor_36 rfl ?_
        refine g18_get_10 F  lf_X5_50 dX5_ageFor_37 ?_
        refine g_callNI F (stk := [.ref (xa 2 100)]) (st := []) (kS_X0_pullTogether κ xa X 2 (by decide) (stC D (oth (cl (X 0)) 2 c v)) okv.A) cal_X0_pullTogether nm_X5_200 10 rfl rfl rfl rfl (by decide) rfl (Nat.le_of_ble_eq_true rfl) dX5_ageFor_40 (fun r40 ws40 _ hr40 => ?_)
        obtain ⟨rfl, rfl⟩ := hr40
        refine g_top (y := iI (allPull (oth (cl (X 0)) 2 c v))) rfl ?_
        refine g_istore F (lv' := [(5, .int (iI (allPull (oth (cl (X 0)) 2 c v)))), (4, .int (iI v)), (3, .int (iI l)), (2, .int (iI b)), (0, .ref (xa 18 100)), (1, .int (iI c))]) dX5_ageFor_43 (by decide) rfl ?_
        refine g_iload F 0 dX5_ageFor_45 rfl ?_
        refine g_iload_n F 2 dX5_ageFor_47 rfl ?_
        refine g_icmp_ge F 57 (by omega) dX5_ageFor_48 (by decide) (fun c48 => ?_) (fun c48 => ?_)
        · skip
          refine g_iinc F (lv' := [(4, .int (iI (v + 1))), (5, .int (iI (allPull (oth (cl (X 0)) 2 c v)))), (3, .int (iI l)), (2, .int (iI b)), (0, .ref (xa 18 100)), (1, .int (iI c))]) 1 dX5_ageFor_57 rfl (by decide) rfl ?_
          refine g_goto F 21 dX5_ageFor_60 (by decide) ?_
          refine g_sub F (lv' := [(4, .int (iI (v + 1))), (3, .int (iI l)), (2, .int (iI b)), (0, .ref (xa 18 100)), (1, .int (iI c))]) [0, 2, 3, 4, 5] rfl ?_
          exact ih21 _ (by omega) (v + 1) b l (stC D (oth (cl (X 0)) 2 c v)) rfl (by omega) (by first | (exfalso; omega) | exact smn_tx hs rfl rfl hv.1 rfl (by omega) | exact smn_fx (x := allPull (oth (cl (X 0)) 2 c v)) hs rfl hv.1 (Or.inr (by omega))) (by omega)
        · skip
          refine g_iload F 0 dX5_ageFor_51 rfl ?_
          refine g_istore_n F (lv' := [(3, .int (iI (allPull (oth (cl (X 0)) 2 c v)))), (5, .int (iI (allPull (oth (cl (X 0)) 2 c v)))), (4, .int (iI v)), (2, .int (iI b)), (0, .ref (xa 18 100)), (1, .int (iI c))]) 3 dX5_ageFor_53 rfl (by decide) rfl ?_
          refine g_iload F 2 dX5_ageFor_54 rfl ?_
          refine g_istore_n F (lv' := [(2, .int (iI v)), (3, .int (iI (allPull (oth (cl (X 0)) 2 c v)))), (5, .int (iI (allPull (oth (cl (X 0)) 2 c v)))), (4, .int (iI v)), (0, .ref (xa 18 100)), (1, .int (iI c))]) 2 dX5_ageFor_56 rfl (by decide) rfl ?_
          refine g_iinc F (lv' := [(4, .int (iI (v + 1))), (2, .int (iI v)), (3, .int (iI (allPull (oth (cl (X 0)) 2 c v)))), (5, .int (iI (allPull (oth (cl (X 0)) 2 c v)))), (0, .ref (xa 18 100)), (1, .int (iI c))]) 3 dX5_ageFor_57 rfl (by decide) rfl ?_
          refine g_goto F 21 dX5_ageFor_60 (by decide) ?_
          refine g_sub F (lv' := [(4, .int (iI (v + 1))), (3, .int (iI (allPull (oth (cl (X 0)) 2 c v)))), (2, .int (iI v)), (0, .ref (xa 18 100)), (1, .int (iI c))]) [0, 2, 1, 4, 5] rfl ?_
          exact ih21 _ (by omega) (v + 1) v (allPull (oth (cl (X 0)) 2 c v)) (stC D (oth (cl (X 0)) 2 c v)) rfl (by omega) (by first | (exfalso; omega) | exact smn_tx hs rfl rfl hv.1 rfl (by omega) | exact smn_fx (x := allPull (oth (cl (X 0)) 2 c v)) hs rfl hv.1 (Or.inr (by omega))) (by omega)
    refine g_sub F (lv' := [(4, .int (iI 0)), (3, .int (iI 2147483647)), (2, .int (iI 0)), (0, .ref (xa 18 100)), (1, .int (iI c))]) [0, 1, 2, 3, 4] rfl ?_
    refine g_ws (ws' := xw κ xa (setO X 2 (X 2))) rfl ?_
    exact L21 _ 0 0 2147483647 (X 2) rfl (by omega) rfl (by omega)
  · skip
    have c4 : ¬ (0 ≤ c ∧ c < 12) := b2i_f c4
    refine g_aload_n F 0 dX5_ageFor_7 rfl ?_
    refine g_iconst F dX5_ageFor_8 ?_
    refine g_callI F (stk := [.int (iI (-1)), .ref (xa 18 100)]) (st := []) (k_X5_refuse κ xa X (-1) (by omega)) cal_X5_refuse lm_X5_69 81 rfl rfl rfl rfl (by decide) rfl (Nat.le_of_ble_eq_true rfl) dX5_ageFor_9 (fun r9 ws9 _ hr9 => ?_)
    obtain ⟨rfl, rfl⟩ := hr9
    have hq : (-1) = qAgeFor (cl (X 0)) c := by unfold qAgeFor; (repeat' split) <;> omega
    exact K xw_same ⟨_, rfl, iIc hq, (sX_18 sX_0 rfl rfl rfl), (by rw [← hq]; exact (rfa_r (by omega)).symm)⟩ rfl dX5_ageFor_12
theorem dX5_bestOf_0 : decode cX5_bestOf 0 = .ok (.iload_n 1, 1) := by decide +kernel
theorem dX5_bestOf_1 : decode cX5_bestOf 1 = .ok (.invokestatic 134, 3) := by decide +kernel
theorem dX5_bestOf_4 : decode cX5_bestOf 4 = .ok (.ifCond .ne 9, 3) := by decide +kernel
theorem dX5_bestOf_7 : decode cX5_bestOf 7 = .ok (.aload_n 0, 1) := by decide +kernel
theorem dX5_bestOf_8 : decode cX5_bestOf 8 = .ok (.iconst (-1), 1) := by decide +kernel
theorem dX5_bestOf_9 : decode cX5_bestOf 9 = .ok (.invokevirtual 69, 3) := by decide +kernel
theorem dX5_bestOf_12 : decode cX5_bestOf 12 = .ok (.ireturn, 1) := by decide +kernel
theorem dX5_bestOf_13 : decode cX5_bestOf 13 = .ok (.iload_n 2, 1) := by decide +kernel
theorem dX5_bestOf_14 : decode cX5_bestOf 14 = .ok (.ifCond .lt 8, 3) := by decide +kernel
theorem dX5_bestOf_17 : decode cX5_bestOf 17 = .ok (.iload_n 2, 1) := by decide +kernel
theorem dX5_bestOf_18 : decode cX5_bestOf 18 = .ok (.iconst 1, 1) := by decide +kernel
theorem dX5_bestOf_19 : decode cX5_bestOf 19 = .ok (.if_icmp .le 10, 3) := by decide +kernel
theorem dX5_bestOf_22 : decode cX5_bestOf 22 = .ok (.aload_n 0, 1) := by decide +kernel
theorem dX5_bestOf_23 : decode cX5_bestOf 23 = .ok (.bipush (-2), 2) := by decide +kernel
theorem dX5_bestOf_25 : decode cX5_bestOf 25 = .ok (.invokevirtual 69, 3) := by decide +kernel
theorem dX5_bestOf_28 : decode cX5_bestOf 28 = .ok (.ireturn, 1) := by decide +kernel
theorem dX5_bestOf_29 : decode cX5_bestOf 29 = .ok (.iconst 0, 1) := by decide +kernel
theorem dX5_bestOf_30 : decode cX5_bestOf 30 = .ok (.istore_n 3, 1) := by decide +kernel
theorem dX5_bestOf_31 : decode cX5_bestOf 31 = .ok (.iconst (-1), 1) := by decide +kernel
theorem dX5_bestOf_32 : decode cX5_bestOf 32 = .ok (.istore 4, 2) := by decide +kernel
theorem dX5_bestOf_34 : decode cX5_bestOf 34 = .ok (.iconst 0, 1) := by decide +kernel
theorem dX5_bestOf_35 : decode cX5_bestOf 35 = .ok (.istore 5, 2) := by decide +kernel
theorem dX5_bestOf_37 : decode cX5_bestOf 37 = .ok (.iload 5, 2) := by decide +kernel
theorem dX5_bestOf_39 : decode cX5_bestOf 39 = .ok (.iload_n 2, 1) := by decide +kernel
theorem dX5_bestOf_40 : decode cX5_bestOf 40 = .ok (.ifCond .ne 8, 3) := by decide +kernel
theorem dX5_bestOf_43 : decode cX5_bestOf 43 = .ok (.bipush 6, 2) := by decide +kernel
theorem dX5_bestOf_45 : decode cX5_bestOf 45 = .ok (.goto 5, 3) := by decide +kernel
theorem dX5_bestOf_48 : decode cX5_bestOf 48 = .ok (.bipush 10, 2) := by decide +kernel
theorem dX5_bestOf_50 : decode cX5_bestOf 50 = .ok (.if_icmp .ge 44, 3) := by decide +kernel
theorem dX5_bestOf_53 : decode cX5_bestOf 53 = .ok (.aload_n 0, 1) := by decide +kernel
theorem dX5_bestOf_54 : decode cX5_bestOf 54 = .ok (.iload_n 1, 1) := by decide +kernel
theorem dX5_bestOf_55 : decode cX5_bestOf 55 = .ok (.iload_n 2, 1) := by decide +kernel
theorem dX5_bestOf_56 : decode cX5_bestOf 56 = .ok (.iload 5, 2) := by decide +kernel
theorem dX5_bestOf_58 : decode cX5_bestOf 58 = .ok (.invokevirtual 278, 3) := by decide +kernel
theorem dX5_bestOf_61 : decode cX5_bestOf 61 = .ok (.aload_n 0, 1) := by decide +kernel
theorem dX5_bestOf_62 : decode cX5_bestOf 62 = .ok (.getfield 50, 3) := by decide +kernel
theorem dX5_bestOf_65 : decode cX5_bestOf 65 = .ok (.iconst 1, 1) := by decide +kernel
theorem dX5_bestOf_66 : decode cX5_bestOf 66 = .ok (.iload_n 1, 1) := by decide +kernel
theorem dX5_bestOf_67 : decode cX5_bestOf 67 = .ok (.ishl, 1) := by decide +kernel
theorem dX5_bestOf_68 : decode cX5_bestOf 68 = .ok (.iconst 0, 1) := by decide +kernel
theorem dX5_bestOf_69 : decode cX5_bestOf 69 = .ok (.invokevirtual 224, 3) := by decide +kernel
theorem dX5_bestOf_72 : decode cX5_bestOf 72 = .ok (.istore 6, 2) := by decide +kernel
theorem dX5_bestOf_74 : decode cX5_bestOf 74 = .ok (.iload 6, 2) := by decide +kernel
theorem dX5_bestOf_76 : decode cX5_bestOf 76 = .ok (.iload 4, 2) := by decide +kernel
theorem dX5_bestOf_78 : decode cX5_bestOf 78 = .ok (.if_icmp .le 10, 3) := by decide +kernel
theorem dX5_bestOf_81 : decode cX5_bestOf 81 = .ok (.iload 6, 2) := by decide +kernel
theorem dX5_bestOf_83 : decode cX5_bestOf 83 = .ok (.istore 4, 2) := by decide +kernel
theorem dX5_bestOf_85 : decode cX5_bestOf 85 = .ok (.iload 5, 2) := by decide +kernel
theorem dX5_bestOf_87 : decode cX5_bestOf 87 = .ok (.istore_n 3, 1) := by decide +kernel
theorem dX5_bestOf_88 : decode cX5_bestOf 88 = .ok (.iinc 5 1, 3) := by decide +kernel
theorem dX5_bestOf_91 : decode cX5_bestOf 91 = .ok (.goto (-54), 3) := by decide +kernel
theorem dX5_bestOf_94 : decode cX5_bestOf 94 = .ok (.iload_n 3, 1) := by decide +kernel
theorem dX5_bestOf_95 : decode cX5_bestOf 95 = .ok (.ireturn, 1) := by decide +kernel
set_option maxRecDepth 100000 in
set_option maxHeartbeats 4000000 in
theorem k_X5_bestOf (κ : Kp) (xa : Nat → Nat → Nat) (X : XS) (c : Int) (w : Int)  (ha_c : In32 c) (ha_w : In32 w) (ok : okC (cl (X 0))) (hy : X 0 4 0 ≤ 999) : mI κ yX5_bestOf cX5_bestOf 7 .int 5 [.ref (xa 18 100), .int (iI c), .int (iI w)] (xw κ xa X) (qX κ xa X (qBestOf (cl (X 0)) c w)) := by
  refine mI_of (by decide) (Nat.le_of_ble_eq_true rfl) (fun E F K => ?_)
  refine g_lv (lv' := [(0, .ref (xa 18 100)), (1, .int (iI c)), (2, .int (iI w))]) rfl ?_
  refine g_iload_n F 1 dX5_bestOf_0 rfl ?_
  refine g_callSI F (stk := [.int (iI c)]) (st := []) (k_X5_isCell κ (xw κ xa X) c (by omega)) cal_X5_isCell lm_X5_134 rfl (by decide) rfl (Nat.le_of_ble_eq_true rfl) dX5_bestOf_1 (fun r1 ws1 _ hr1 => ?_)
  obtain ⟨rfl, rfl⟩ := hr1
  refine g_if_ne F 13 (b2i_in _) dX5_bestOf_4 (by decide) (fun c4 => ?_) (fun c4 => ?_)
  · skip
    have c4 : 0 ≤ c ∧ c < 12 := b2i_t c4
    refine g_iload_n F 2 dX5_bestOf_13 rfl ?_
    refine g_if_lt F 22 (by omega) dX5_bestOf_14 (by decide) (fun c14 => ?_) (fun c14 => ?_)
    · skip
      refine g_aload_n F 0 dX5_bestOf_22 rfl ?_
      refine g_bipush F dX5_bestOf_23 (by decide +kernel) ?_
      refine g_callI F (stk := [.int (iI (-2)), .ref (xa 18 100)]) (st := []) (k_X5_refuse κ xa X (-2) (by omega)) cal_X5_refuse lm_X5_69 81 rfl rfl rfl rfl (by decide) rfl (Nat.le_of_ble_eq_true rfl) dX5_bestOf_25 (fun r25 ws25 _ hr25 => ?_)
      obtain ⟨rfl, rfl⟩ := hr25
      have hq : (-2) = qBestOf (cl (X 0)) c w := by unfold qBestOf; (repeat' split) <;> omega
      exact K xw_same ⟨_, rfl, iIc hq, (sX_18 sX_0 rfl rfl rfl), (by rw [← hq]; exact (rfa_r (by omega)).symm)⟩ rfl dX5_bestOf_28
    · skip
      refine g_iload_n F 2 dX5_bestOf_17 rfl ?_
      refine g_iconst F dX5_bestOf_18 ?_
      refine g_icmp_le F 29 (by omega) dX5_bestOf_19 (by decide) (fun c19 => ?_) (fun c19 => ?_)
      · skip
        refine g_iconst F dX5_bestOf_29 ?_
        refine g_istore_n F (lv' := [(3, .int (iI 0)), (0, .ref (xa 18 100)), (1, .int (iI c)), (2, .int (iI w))]) 3 dX5_bestOf_30 rfl (by decide) rfl ?_
        refine g_iconst F dX5_bestOf_31 ?_
        refine g_istore F (lv' := [(4, .int (iI (-1))), (3, .int (iI 0)), (0, .ref (xa 18 100)), (1, .int (iI c)), (2, .int (iI w))]) dX5_bestOf_32 (by decide) rfl ?_
        refine g_iconst F dX5_bestOf_34 ?_
        refine g_istore F (lv' := [(5, .int (iI 0)), (4, .int (iI (-1))), (3, .int (iI 0)), (0, .ref (xa 18 100)), (1, .int (iI c)), (2, .int (iI w))]) dX5_bestOf_35 (by decide) rfl ?_
        have L37 : ∀ (mz37 : Nat) (v : Int) (b : Int) (l : Int) (D : MS), (10 - v).toNat = mz37 → (0 ≤ v ∧ v ≤ 10 ∧ (w = 0 → v ≤ 6)) → (smx yes (fun v => lasts (oth (cl (X 0)) w c v) c) (fun v => v) (0, -1) v = (b, l)) → ((-1 ≤ l ∧ l ≤ 61) ∧ 0 ≤ b ∧ b ≤ v) → G E (xw κ xa (setO X 2 D)) [(5, .int (iI v)), (4, .int (iI l)), (3, .int (iI b)), (0, .ref (xa 18 100)), (1, .int (iI c)), (2, .int (iI w))] 37 [] := by
          intro mz37
          induction mz37 using Nat.strongRecOn with
          | _ mz37 ih37 =>
          intro v b l D hmz37 hv hs hl
          refine g_iload F 0 dX5_bestOf_37 rfl ?_
          refine g_iload_n F 5 dX5_bestOf_39 rfl ?_
          refine g_if_ne F 48 (by omega) dX5_bestOf_40 (by decide) (fun c40 => ?_) (fun c40 => ?_)
          · skip
            refine g_bipush F dX5_bestOf_48 (by decide +kernel) ?_
            refine g_icmp_ge F 94 (by omega) dX5_bestOf_50 (by decide) (fun c50 => ?_) (fun c50 => ?_)
            · skip
              refine g_iload_n F 2 dX5_bestOf_94 rfl ?_
              have e : sBestOf (cl (X 0)) c w (if w = 0 then 6 else 10) = (b, l) := by rw [show (if w = 0 then (6 : Int) else 10) = v by split <;> omega]; exact hs
              have e1 : (sBestOf (cl (X 0)) c w (if w = 0 then 6 else 10)).1 = b := by rw [e]
              have hq : b = qBestOf (cl (X 0)) c w := by unfold qBestOf; rw [e1]; (repeat' split) <;> omega
              exact K xw_same ⟨_, rfl, iIc hq, (sX_o sX_0 (by decide)), (by rw [← hq]; exact (rfa_n (by omega)).symm)⟩ rfl dX5_bestOf_95
            · skip
              have okv := oth_ok (w := w) (c := c) (v := v) ok (by omega)
              have hpc := p2_cell (c := c) (by omega)
              have hlb := lasts_bd (oth (cl (X 0)) w c v) c
              refine g_aload_n F 3 dX5_bestOf_53 rfl ?_
              refine g_iload_n F 4 dX5_bestOf_54 rfl ?_
              refine g_iload_n F 5 dX5_bestOf_55 rfl ?_
              refine g_iload F 0 dX5_bestOf_56 rfl ?_
              refine g_callV F (stk := [.int (iI v), .int (iI w), .int (iI c), .ref (xa 18 100)]) (st := []) (k_X5_thinkOther κ xa (setO X 2 D) c w v (by omega)) cal_X5_thinkOther lm_X5_278 81 rfl rfl rfl rfl (by decide) rfl (Nat.le_of_ble_eq_true rfl) dX5_bestOf_58 (fun ws58 _ hr58 => ?_)
              obtain rfl := hr58
              refine g_ws (ws' := xw κ xa (setO X 2 (stC D (oth (cl (X 0)) w c v)))) rfl ?_
              refine g_aload_n F 3 dX5_bestOf_61 rfl ?_
              refine g18_get_10 F  lf_X5_50 dX5_bestOf_62 ?_
              refine g_iconst F dX5_bestOf_65 ?_
              refine g_iload_n F 4 dX5_bestOf_66 rfl ?_
              refine g_ishl F dX5_bestOf_67 ?_
              refine g_top (y := iI (p2 c)) (iI_shl1 (by omega) (by omega)) ?_
              refine g_iconst F dX5_bestOf_68 ?_
              refine g_callNI F (stk := [.int (iI 0), .int (iI (p2 c)), .ref (xa 2 100)]) (st := []) (kS_X0_yearsToHole κ xa X 2 (by decide) (stC D (oth (cl (X 0)) w c v)) (p2 c) 0 (by omega) (show yr (oth (cl (X 0)) w c v) ≤ 990000 by rw [oth_yr]; show X 0 4 0 ≤ 990000; omega) okv) cal_X0_yearsToHole nm_X5_224 10 rfl rfl rfl rfl (by decide) rfl (Nat.le_of_ble_eq_true rfl) dX5_bestOf_69 (fun r69 ws69 _ hr69 => ?_)
              obtain ⟨rfl, rfl⟩ := hr69
              refine g_top (y := iI (ythI (oth (cl (X 0)) w c v) (p2 c) 0)) rfl ?_
              refine g_ws (ws' := xw κ xa (setO X 2 (stC D (goI (ythI (oth (cl (X 0)) w c v) (p2 c) 0 - 0) (oth (cl (X 0)) w c v))))) rfl ?_
              refine g_top (y := iI (lasts (oth (cl (X 0)) w c v) c)) (iIc (yth_cell _ (by omega) (by omega))) ?_
              refine g_istore F (lv' := [(6, .int (iI (lasts (oth (cl (X 0)) w c v) c))), (5, .int (iI v)), (4, .int (iI l)), (3, .int (iI b)), (0, .ref (xa 18 100)), (1, .int (iI c)), (2, .int (iI w))]) dX5_bestOf_72 (by decide) rfl ?_
              refine g_iload F 0 dX5_bestOf_74 rfl ?_
              refine g_iload F 2 dX5_bestOf_76 rfl ?_
              refine g_icmp_le F 88 (by omega) dX5_bestOf_78 (by decide) (fun c78 => ?_) (fun c78 => ?_)
              · skip
                refine g_iinc F (lv' := [(5, .int (iI (v + 1))), (6, .int (iI (lasts (oth (cl (X 0)) w c v) c))), (4, .int (iI l)), (3, .int (iI b)), (0, .ref (xa 18 100)), (1, .int (iI c)), (2, .int (iI w))]) 1 dX5_bestOf_88 rfl (by decide) rfl ?_
                refine g_goto F 37 dX5_bestOf_91 (by decide) ?_
                refine g_sub F (lv' := [(5, .int (iI (v + 1))), (4, .int (iI l)), (3, .int (iI b)), (0, .ref (xa 18 100)), (1, .int (iI c)), (2, .int (iI w))]) [0, 2, 3, 4, 5, 6] rfl ?_
                exact ih37 _ (by omega) (v + 1) b l (stC D (goI (ythI (oth (cl (X 0)) w c v) (p2 c) 0 - 0) (oth (cl (X 0)) w c v))) rfl (by omega) (by first | (exfalso; omega) | exact smx_tx hs rfl rfl hv.1 rfl (by omega) | exact smx_fx (x := lasts (oth (cl (X 0)) w c v) c) hs rfl hv.1 (Or.inr (by omega))) (by omega)
              · skip
                refine g_iload F 0 dX5_bestOf_81 rfl ?_
                refine g_istore F (lv' := [(4, .int (iI (lasts (oth (cl (X 0)) w c v) c))), (6, .int (iI (lasts (oth (cl (X 0)) w c v) c))), (5, .int (iI v)), (3, .int (iI b)), (0, .ref (xa 18 100)), (1, .int (iI c)), (2, .int (iI w))]) dX5_bestOf_83 (by decide) rfl ?_
                refine g_iload F 2 dX5_bestOf_85 rfl ?_
                refine g_istore_n F (lv' := [(3, .int (iI v)), (4, .int (iI (lasts (oth (cl (X 0)) w c v) c))), (6, .int (iI (lasts (oth (cl (X 0)) w c v) c))), (5, .int (iI v)), (0, .ref (xa 18 100)), (1, .int (iI c)), (2, .int (iI w))]) 3 dX5_bestOf_87 rfl (by decide) rfl ?_
                refine g_iinc F (lv' := [(5, .int (iI (v + 1))), (3, .int (iI v)), (4, .int (iI (lasts (oth (cl (X 0)) w c v) c))), (6, .int (iI (lasts (oth (cl (X 0)) w c v) c))), (0, .ref (xa 18 100)), (1, .int (iI c)), (2, .int (iI w))]) 3 dX5_bestOf_88 rfl (by decide) rfl ?_
                refine g_goto F 37 dX5_bestOf_91 (by decide) ?_
                refine g_sub F (lv' := [(5, .int (iI (v + 1))), (4, .int (iI (lasts (oth (cl (X 0)) w c v) c))), (3, .int (iI v)), (0, .ref (xa 18 100)), (1, .int (iI c)), (2, .int (iI w))]) [0, 2, 1, 4, 5, 6] rfl ?_
                exact ih37 _ (by omega) (v + 1) v (lasts (oth (cl (X 0)) w c v) c) (stC D (goI (ythI (oth (cl (X 0)) w c v) (p2 c) 0 - 0) (oth (cl (X 0)) w c v))) rfl (by omega) (by first | (exfalso; omega) | exact smx_tx hs rfl rfl hv.1 rfl (by omega) | exact smx_fx (x := lasts (oth (cl (X 0)) w c v) c) hs rfl hv.1 (Or.inr (by omega))) (by omega)
          · skip
            refine g_bipush F dX5_bestOf_43 (by decide +kernel) ?_
            refine g_goto F 50 dX5_bestOf_45 (by decide) ?_
            refine g_icmp_ge F 94 (by omega) dX5_bestOf_50 (by decide) (fun c50 => ?_) (fun c50 => ?_)
            · skip
              refine g_iload_n F 2 dX5_bestOf_94 rfl ?_
              have e : sBestOf (cl (X 0)) c w (if w = 0 then 6 else 10) = (b, l) := by rw [show (if w = 0 then (6 : Int) else 10) = v by split <;> omega]; exact hs
              have e1 : (sBestOf (cl (X 0)) c w (if w = 0 then 6 else 10)).1 = b := by rw [e]
              have hq : b = qBestOf (cl (X 0)) c w := by unfold qBestOf; rw [e1]; (repeat' split) <;> omega
              exact K xw_same ⟨_, rfl, iIc hq, (sX_o sX_0 (by decide)), (by rw [← hq]; exact (rfa_n (by omega)).symm)⟩ rfl dX5_bestOf_95
            · skip
              have okv := oth_ok (w := w) (c := c) (v := v) ok (by omega)
              have hpc := p2_cell (c := c) (by omega)
              have hlb := lasts_bd (oth (cl (X 0)) w c v) c
              refine g_aload_n F 3 dX5_bestOf_53 rfl ?_
              refine g_iload_n F 4 dX5_bestOf_54 rfl ?_
              refine g_iload_n F 5 dX5_bestOf_55 rfl ?_
              refine g_iload F 0 dX5_bestOf_56 rfl ?_
              refine g_callV F (stk := [.int (iI v), .int (iI w), .int (iI c), .ref (xa 18 100)]) (st := []) (k_X5_thinkOther κ xa (setO X 2 D) c w v (by omega)) cal_X5_thinkOther lm_X5_278 81 rfl rfl rfl rfl (by decide) rfl (Nat.le_of_ble_eq_true rfl) dX5_bestOf_58 (fun ws58 _ hr58 => ?_)
              obtain rfl := hr58
              refine g_ws (ws' := xw κ xa (setO X 2 (stC D (oth (cl (X 0)) w c v)))) rfl ?_
              refine g_aload_n F 3 dX5_bestOf_61 rfl ?_
              refine g18_get_10 F  lf_X5_50 dX5_bestOf_62 ?_
              refine g_iconst F dX5_bestOf_65 ?_
              refine g_iload_n F 4 dX5_bestOf_66 rfl ?_
              refine g_ishl F dX5_bestOf_67 ?_
              refine g_top (y := iI (p2 c)) (iI_shl1 (by omega) (by omega)) ?_
              refine g_iconst F dX5_bestOf_68 ?_
              refine g_callNI F (stk := [.int (iI 0), .int (iI (p2 c)), .ref (xa 2 100)]) (st := []) (kS_X0_yearsToHole κ xa X 2 (by decide) (stC D (oth (cl (X 0)) w c v)) (p2 c) 0 (by omega) (show yr (oth (cl (X 0)) w c v) ≤ 990000 by rw [oth_yr]; show X 0 4 0 ≤ 990000; omega) okv) cal_X0_yearsToHole nm_X5_224 10 rfl rfl rfl rfl (by decide) rfl (Nat.le_of_ble_eq_true rfl) dX5_bestOf_69 (fun r69 ws69 _ hr69 => ?_)
              obtain ⟨rfl, rfl⟩ := hr69
              refine g_top (y := iI (ythI (oth (cl (X 0)) w c v) (p2 c) 0)) rfl ?_
              refine g_ws (ws' := xw κ xa (setO X 2 (stC D (goI (ythI (oth (cl (X 0)) w c v) (p2 c) 0 - 0) (oth (cl (X 0)) w c v))))) rfl ?_
              refine g_top (y := iI (lasts (oth (cl (X 0)) w c v) c)) (iIc (yth_cell _ (by omega) (by omega))) ?_
              refine g_istore F (lv' := [(6, .int (iI (lasts (oth (cl (X 0)) w c v) c))), (5, .int (iI v)), (4, .int (iI l)), (3, .int (iI b)), (0, .ref (xa 18 100)), (1, .int (iI c)), (2, .int (iI w))]) dX5_bestOf_72 (by decide) rfl ?_
              refine g_iload F 0 dX5_bestOf_74 rfl ?_
              refine g_iload F 2 dX5_bestOf_76 rfl ?_
              refine g_icmp_le F 88 (by omega) dX5_bestOf_78 (by decide) (fun c78 => ?_) (fun c78 => ?_)
              · skip
                refine g_iinc F (lv' := [(5, .int (iI (v + 1))), (6, .int (iI (lasts (oth (cl (X 0)) w c v) c))), (4, .int (iI l)), (3, .int (iI b)), (0, .ref (xa 18 100)), (1, .int (iI c)), (2, .int (iI w))]) 1 dX5_bestOf_88 rfl (by decide) rfl ?_
                refine g_goto F 37 dX5_bestOf_91 (by decide) ?_
                refine g_sub F (lv' := [(5, .int (iI (v + 1))), (4, .int (iI l)), (3, .int (iI b)), (0, .ref (xa 18 100)), (1, .int (iI c)), (2, .int (iI w))]) [0, 2, 3, 4, 5, 6] rfl ?_
                exact ih37 _ (by omega) (v + 1) b l (stC D (goI (ythI (oth (cl (X 0)) w c v) (p2 c) 0 - 0) (oth (cl (X 0)) w c v))) rfl (by omega) (by first | (exfalso; omega) | exact smx_tx hs rfl rfl hv.1 rfl (by omega) | exact smx_fx (x := lasts (oth (cl (X 0)) w c v) c) hs rfl hv.1 (Or.inr (by omega))) (by omega)
              · skip
                refine g_iload F 0 dX5_bestOf_81 rfl ?_
                refine g_istore F (lv' := [(4, .int (iI (lasts (oth (cl (X 0)) w c v) c))), (6, .int (iI (lasts (oth (cl (X 0)) w c v) c))), (5, .int (iI v)), (3, .int (iI b)), (0, .ref (xa 18 100)), (1, .int (iI c)), (2, .int (iI w))]) dX5_bestOf_83 (by decide) rfl ?_
                refine g_iload F 2 dX5_bestOf_85 rfl ?_
                refine g_istore_n F (lv' := [(3, .int (iI v)), (4, .int (iI (lasts (oth (cl (X 0)) w c v) c))), (6, .int (iI (lasts (oth (cl (X 0)) w c v) c))), (5, .int (iI v)), (0, .ref (xa 18 100)), (1, .int (iI c)), (2, .int (iI w))]) 3 dX5_bestOf_87 rfl (by decide) rfl ?_
                refine g_iinc F (lv' := [(5, .int (iI (v + 1))), (3, .int (iI v)), (4, .int (iI (lasts (oth (cl (X 0)) w c v) c))), (6, .int (iI (lasts (oth (cl (X 0)) w c v) c))), (0, .ref (xa 18 100)), (1, .int (iI c)), (2, .int (iI w))]) 3 dX5_bestOf_88 rfl (by decide) rfl ?_
                refine g_goto F 37 dX5_bestOf_91 (by decide) ?_
                refine g_sub F (lv' := [(5, .int (iI (v + 1))), (4, .int (iI (lasts (oth (cl (X 0)) w c v) c))), (3, .int (iI v)), (0, .ref (xa 18 100)), (1, .int (iI c)), (2, .int (iI w))]) [0, 2, 1, 4, 5, 6] rfl ?_
                exact ih37 _ (by omega) (v + 1) v (lasts (oth (cl (X 0)) w c v) c) (stC D (goI (ythI (oth (cl (X 0)) w c v) (p2 c) 0 - 0) (oth (cl (X 0)) w c v))) rfl (by omega) (by first | (exfalso; omega) | exact smx_tx hs rfl rfl hv.1 rfl (by omega) | exact smx_fx (x := lasts (oth (cl (X 0)) w c v) c) hs rfl hv.1 (Or.inr (by omega))) (by omega)
        refine g_sub F (lv' := [(5, .int (iI 0)), (4, .int (iI (-1))), (3, .int (iI 0)), (0, .ref (xa 18 100)), (1, .int (iI c)), (2, .int (iI w))]) [0, 1, 2, 3, 4, 5] rfl ?_
        refine g_ws (ws' := xw κ xa (setO X 2 (X 2))) rfl ?_
        exact L37 _ 0 0 (-1) (X 2) rfl (by omega) rfl (by omega)
      · skip
        refine g_aload_n F 0 dX5_bestOf_22 rfl ?_
        refine g_bipush F dX5_bestOf_23 (by decide +kernel) ?_
        refine g_callI F (stk := [.int (iI (-2)), .ref (xa 18 100)]) (st := []) (k_X5_refuse κ xa X (-2) (by omega)) cal_X5_refuse lm_X5_69 81 rfl rfl rfl rfl (by decide) rfl (Nat.le_of_ble_eq_true rfl) dX5_bestOf_25 (fun r25 ws25 _ hr25 => ?_)
        obtain ⟨rfl, rfl⟩ := hr25
        have hq : (-2) = qBestOf (cl (X 0)) c w := by unfold qBestOf; (repeat' split) <;> omega
        exact K xw_same ⟨_, rfl, iIc hq, (sX_18 sX_0 rfl rfl rfl), (by rw [← hq]; exact (rfa_r (by omega)).symm)⟩ rfl dX5_bestOf_28
  · skip
    have c4 : ¬ (0 ≤ c ∧ c < 12) := b2i_f c4
    refine g_aload_n F 0 dX5_bestOf_7 rfl ?_
    refine g_iconst F dX5_bestOf_8 ?_
    refine g_callI F (stk := [.int (iI (-1)), .ref (xa 18 100)]) (st := []) (k_X5_refuse κ xa X (-1) (by omega)) cal_X5_refuse lm_X5_69 81 rfl rfl rfl rfl (by decide) rfl (Nat.le_of_ble_eq_true rfl) dX5_bestOf_9 (fun r9 ws9 _ hr9 => ?_)
    obtain ⟨rfl, rfl⟩ := hr9
    have hq : (-1) = qBestOf (cl (X 0)) c w := by unfold qBestOf; (repeat' split) <;> omega
    exact K xw_same ⟨_, rfl, iIc hq, (sX_18 sX_0 rfl rfl rfl), (by rw [← hq]; exact (rfa_r (by omega)).symm)⟩ rfl dX5_bestOf_12
