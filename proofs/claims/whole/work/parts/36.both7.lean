def qPieceOf (pk pf pa u : Int → Int) (n p w : Int) : Int := if ¬ (0 ≤ p ∧ p < n) then -1 else if w = 0 then pk p else if w = 1 then pf p else if w = 2 then pa p else if w = 3 then u p else -2
theorem dX6_pieceOf_0 : decode cX6_pieceOf 0 = .ok (.aload_n 0, 1) := by decide +kernel
theorem dX6_pieceOf_1 : decode cX6_pieceOf 1 = .ok (.iconst 0, 1) := by decide +kernel
theorem dX6_pieceOf_2 : decode cX6_pieceOf 2 = .ok (.putfield 91, 3) := by decide +kernel
theorem dX6_pieceOf_5 : decode cX6_pieceOf 5 = .ok (.aload_n 0, 1) := by decide +kernel
theorem dX6_pieceOf_6 : decode cX6_pieceOf 6 = .ok (.iload_n 1, 1) := by decide +kernel
theorem dX6_pieceOf_7 : decode cX6_pieceOf 7 = .ok (.invokevirtual 176, 3) := by decide +kernel
theorem dX6_pieceOf_10 : decode cX6_pieceOf 10 = .ok (.ifCond .eq 15, 3) := by decide +kernel
theorem dX6_pieceOf_13 : decode cX6_pieceOf 13 = .ok (.iload_n 2, 1) := by decide +kernel
theorem dX6_pieceOf_14 : decode cX6_pieceOf 14 = .ok (.i2l, 1) := by decide +kernel
theorem dX6_pieceOf_15 : decode cX6_pieceOf 15 = .ok (.lconst 0, 1) := by decide +kernel
theorem dX6_pieceOf_16 : decode cX6_pieceOf 16 = .ok (.ldc2_w 227, 3) := by decide +kernel
theorem dX6_pieceOf_19 : decode cX6_pieceOf 19 = .ok (.invokestatic 97, 3) := by decide +kernel
theorem dX6_pieceOf_22 : decode cX6_pieceOf 22 = .ok (.ifCond .ne 22, 3) := by decide +kernel
theorem dX6_pieceOf_25 : decode cX6_pieceOf 25 = .ok (.aload_n 0, 1) := by decide +kernel
theorem dX6_pieceOf_26 : decode cX6_pieceOf 26 = .ok (.aload_n 0, 1) := by decide +kernel
theorem dX6_pieceOf_27 : decode cX6_pieceOf 27 = .ok (.iload_n 1, 1) := by decide +kernel
theorem dX6_pieceOf_28 : decode cX6_pieceOf 28 = .ok (.invokevirtual 176, 3) := by decide +kernel
theorem dX6_pieceOf_31 : decode cX6_pieceOf 31 = .ok (.ifCond .eq 8, 3) := by decide +kernel
theorem dX6_pieceOf_34 : decode cX6_pieceOf 34 = .ok (.bipush (-2), 2) := by decide +kernel
theorem dX6_pieceOf_36 : decode cX6_pieceOf 36 = .ok (.goto 4, 3) := by decide +kernel
theorem dX6_pieceOf_39 : decode cX6_pieceOf 39 = .ok (.iconst (-1), 1) := by decide +kernel
theorem dX6_pieceOf_40 : decode cX6_pieceOf 40 = .ok (.invokevirtual 138, 3) := by decide +kernel
theorem dX6_pieceOf_43 : decode cX6_pieceOf 43 = .ok (.ireturn, 1) := by decide +kernel
theorem dX6_pieceOf_44 : decode cX6_pieceOf 44 = .ok (.iload_n 2, 1) := by decide +kernel
theorem dX6_pieceOf_45 : decode cX6_pieceOf 45 = .ok (.ifCond .ne 12, 3) := by decide +kernel
theorem dX6_pieceOf_48 : decode cX6_pieceOf 48 = .ok (.aload_n 0, 1) := by decide +kernel
theorem dX6_pieceOf_49 : decode cX6_pieceOf 49 = .ok (.getfield 22, 3) := by decide +kernel
theorem dX6_pieceOf_52 : decode cX6_pieceOf 52 = .ok (.iload_n 1, 1) := by decide +kernel
theorem dX6_pieceOf_53 : decode cX6_pieceOf 53 = .ok (.iaload, 1) := by decide +kernel
theorem dX6_pieceOf_54 : decode cX6_pieceOf 54 = .ok (.goto 37, 3) := by decide +kernel
theorem dX6_pieceOf_57 : decode cX6_pieceOf 57 = .ok (.iload_n 2, 1) := by decide +kernel
theorem dX6_pieceOf_58 : decode cX6_pieceOf 58 = .ok (.iconst 1, 1) := by decide +kernel
theorem dX6_pieceOf_59 : decode cX6_pieceOf 59 = .ok (.if_icmp .ne 12, 3) := by decide +kernel
theorem dX6_pieceOf_62 : decode cX6_pieceOf 62 = .ok (.aload_n 0, 1) := by decide +kernel
theorem dX6_pieceOf_63 : decode cX6_pieceOf 63 = .ok (.getfield 25, 3) := by decide +kernel
theorem dX6_pieceOf_66 : decode cX6_pieceOf 66 = .ok (.iload_n 1, 1) := by decide +kernel
theorem dX6_pieceOf_67 : decode cX6_pieceOf 67 = .ok (.iaload, 1) := by decide +kernel
theorem dX6_pieceOf_68 : decode cX6_pieceOf 68 = .ok (.goto 23, 3) := by decide +kernel
theorem dX6_pieceOf_71 : decode cX6_pieceOf 71 = .ok (.iload_n 2, 1) := by decide +kernel
theorem dX6_pieceOf_72 : decode cX6_pieceOf 72 = .ok (.iconst 2, 1) := by decide +kernel
theorem dX6_pieceOf_73 : decode cX6_pieceOf 73 = .ok (.if_icmp .ne 12, 3) := by decide +kernel
theorem dX6_pieceOf_76 : decode cX6_pieceOf 76 = .ok (.aload_n 0, 1) := by decide +kernel
theorem dX6_pieceOf_77 : decode cX6_pieceOf 77 = .ok (.getfield 28, 3) := by decide +kernel
theorem dX6_pieceOf_80 : decode cX6_pieceOf 80 = .ok (.iload_n 1, 1) := by decide +kernel
theorem dX6_pieceOf_81 : decode cX6_pieceOf 81 = .ok (.iaload, 1) := by decide +kernel
theorem dX6_pieceOf_82 : decode cX6_pieceOf 82 = .ok (.goto 9, 3) := by decide +kernel
theorem dX6_pieceOf_85 : decode cX6_pieceOf 85 = .ok (.aload_n 0, 1) := by decide +kernel
theorem dX6_pieceOf_86 : decode cX6_pieceOf 86 = .ok (.getfield 31, 3) := by decide +kernel
theorem dX6_pieceOf_89 : decode cX6_pieceOf 89 = .ok (.iload_n 1, 1) := by decide +kernel
theorem dX6_pieceOf_90 : decode cX6_pieceOf 90 = .ok (.iaload, 1) := by decide +kernel
theorem dX6_pieceOf_91 : decode cX6_pieceOf 91 = .ok (.ireturn, 1) := by decide +kernel
set_option maxRecDepth 100000 in
set_option maxHeartbeats 4000000 in
theorem k_X6_pieceOf (κ : Kp) (ma : Nat → Nat) (M : MS) (p : Int) (w : Int)  (ha_p : In32 p) (ha_w : In32 w) (okr : okR M) : mI κ yX6_pieceOf cX6_pieceOf 3 .int 2 [.ref (ma 100), .int (iI p), .int (iI w)] (mw κ ma M) (qM κ ma M (qPieceOf (M 6) (M 7) (M 8) (M 9) (M 5 0) p w)) := by
  refine mI_of (by decide) (Nat.le_of_ble_eq_true rfl) (fun E F K => ?_)
  refine g_lv (lv' := [(0, .ref (ma 100)), (1, .int (iI p)), (2, .int (iI w))]) rfl ?_
  refine g_aload_n F 0 dX6_pieceOf_0 rfl ?_
  refine g_iconst F dX6_pieceOf_1 ?_
  refine gm_put_10 F dX6_pieceOf_2 ?_
  have hn := okr.1
  refine g_aload_n F 0 dX6_pieceOf_5 rfl ?_
  refine g_iload_n F 1 dX6_pieceOf_6 rfl ?_
  refine g_callI F (stk := [.int (iI p), .ref (ma 100)]) (st := []) (k_X6_isPiece κ ma (mA M 10 (fun _ => 0)) p (show In32 p ∧ 0 ≤ (M 5 0) ∧ (M 5 0) ≤ 6 from by omega)) cal_X6_isPiece lm_X6_176 0 rfl rfl rfl rfl (by decide) rfl (Nat.le_of_ble_eq_true rfl) dX6_pieceOf_7 (fun r7 ws7 _ hr7 => ?_)
  obtain ⟨rfl, rfl⟩ := hr7
  refine g_top (y := iI (b2i (0 ≤ p ∧ p < (M 5 0)))) rfl ?_
  refine g_if_eq F 25 (b2i_in _) dX6_pieceOf_10 (by decide) (fun c10 => ?_) (fun c10 => ?_)
  · skip
    have c10 : ¬ (0 ≤ p ∧ p < (M 5 0)) := b2i_f c10
    refine g_aload_n F 0 dX6_pieceOf_25 rfl ?_
    refine g_aload_n F 0 dX6_pieceOf_26 rfl ?_
    refine g_iload_n F 1 dX6_pieceOf_27 rfl ?_
    refine g_callI F (stk := [.int (iI p), .ref (ma 100), .ref (ma 100)]) (st := [.ref (ma 100)]) (k_X6_isPiece κ ma (mA M 10 (fun _ => 0)) p (show In32 p ∧ 0 ≤ (M 5 0) ∧ (M 5 0) ≤ 6 from by omega)) cal_X6_isPiece lm_X6_176 0 rfl rfl rfl rfl (by decide) rfl (Nat.le_of_ble_eq_true rfl) dX6_pieceOf_28 (fun r28 ws28 _ hr28 => ?_)
    obtain ⟨rfl, rfl⟩ := hr28
    refine g_top (y := iI (b2i (0 ≤ p ∧ p < (M 5 0)))) rfl ?_
    refine g_if_eq F 39 (b2i_in _) dX6_pieceOf_31 (by decide) (fun c31 => ?_) (fun c31 => ?_)
    · skip
      have c31 : ¬ (0 ≤ p ∧ p < (M 5 0)) := b2i_f c31
      refine g_iconst F dX6_pieceOf_39 ?_
      refine g_callI F (stk := [.int (iI (-1)), .ref (ma 100)]) (st := []) (k_X6_refuse κ ma (mA M 10 (fun _ => 0)) (-1) (by omega)) cal_X6_refuse lm_X6_138 0 rfl rfl rfl rfl (by decide) rfl (Nat.le_of_ble_eq_true rfl) dX6_pieceOf_40 (fun r40 ws40 _ hr40 => ?_)
      obtain ⟨rfl, rfl⟩ := hr40
      refine g_top (y := iI (-1)) rfl ?_
      refine g_ws (ws' := mw κ ma (mA (mA M 10 (fun _ => 0)) 11 (uI (M 11) (-(-1)) (M 11 (-(-1)) + 1)))) rfl ?_
      have hq : (-1) = qPieceOf (M 6) (M 7) (M 8) (M 9) (M 5 0) p w := by unfold qPieceOf; (repeat' split) <;> omega
      exact K mw_same ⟨_, rfl, iIc hq, ⟨rfl, rfl, rfl, rfl, rfl, rfl, rfl, rfl, rfl, rfl, rfl, rfl, rfl, rfl, rfl, rfl, rfl, rfl⟩, (by rw [← hq]; exact (rfa_r (by omega)).symm)⟩ rfl dX6_pieceOf_43
    · skip
      have c31 : 0 ≤ p ∧ p < (M 5 0) := b2i_t c31
      refine g_bipush F dX6_pieceOf_34 (by decide +kernel) ?_
      refine g_goto F 40 dX6_pieceOf_36 (by decide) ?_
      refine g_callI F (stk := [.int (iI (-2)), .ref (ma 100)]) (st := []) (k_X6_refuse κ ma (mA M 10 (fun _ => 0)) (-2) (by omega)) cal_X6_refuse lm_X6_138 0 rfl rfl rfl rfl (by decide) rfl (Nat.le_of_ble_eq_true rfl) dX6_pieceOf_40 (fun r40 ws40 _ hr40 => ?_)
      obtain ⟨rfl, rfl⟩ := hr40
      refine g_top (y := iI (-2)) rfl ?_
      refine g_ws (ws' := mw κ ma (mA (mA M 10 (fun _ => 0)) 11 (uI (M 11) (-(-2)) (M 11 (-(-2)) + 1)))) rfl ?_
      have hq : (-2) = qPieceOf (M 6) (M 7) (M 8) (M 9) (M 5 0) p w := by unfold qPieceOf; (repeat' split) <;> omega
      exact K mw_same ⟨_, rfl, iIc hq, ⟨rfl, rfl, rfl, rfl, rfl, rfl, rfl, rfl, rfl, rfl, rfl, rfl, rfl, rfl, rfl, rfl, rfl, rfl⟩, (by rw [← hq]; exact (rfa_r (by omega)).symm)⟩ rfl dX6_pieceOf_43
  · skip
    have c10 : 0 ≤ p ∧ p < (M 5 0) := b2i_t c10
    refine g_iload_n F 2 dX6_pieceOf_13 rfl ?_
    refine g_i2l F (by omega) dX6_pieceOf_14 ?_
    refine g_lconst F (z := 0) dX6_pieceOf_15 rfl ?_
    refine g_ldc2 F (z := 3) ll_X6_227 (by decide +kernel) dX6_pieceOf_16 ?_
    refine g_callSI F (stk := [.long (iL 3), .long (iL 0), .long (iL w)]) (st := []) (k_X6_in κ (mw κ ma (mA M 10 (fun _ => 0))) w 0 3 (by omega)) cal_X6_in lm_X6_97 rfl (by decide) rfl (Nat.le_of_ble_eq_true rfl) dX6_pieceOf_19 (fun r19 ws19 _ hr19 => ?_)
    obtain ⟨rfl, rfl⟩ := hr19
    refine g_if_ne F 44 (b2i_in _) dX6_pieceOf_22 (by decide) (fun c22 => ?_) (fun c22 => ?_)
    · skip
      have c22 : 0 ≤ w ∧ w ≤ 3 := b2i_t c22
      have hrp : (0 ≤ M 6 p ∧ M 6 p ≤ 5) ∧ (0 ≤ M 7 p ∧ M 7 p ≤ 9) ∧ (0 ≤ M 8 p ∧ M 8 p ≤ 99) ∧ 0 ≤ M 9 p ∧ M 9 p ≤ 1 := okr.2 p (by omega) (by omega)
      refine g_iload_n F 2 dX6_pieceOf_44 rfl ?_
      refine g_if_ne F 57 (by omega) dX6_pieceOf_45 (by decide) (fun c45 => ?_) (fun c45 => ?_)
      · skip
        refine g_iload_n F 2 dX6_pieceOf_57 rfl ?_
        refine g_iconst F dX6_pieceOf_58 ?_
        refine g_icmp_ne F 71 (by omega) dX6_pieceOf_59 (by decide) (fun c59 => ?_) (fun c59 => ?_)
        · skip
          refine g_iload_n F 2 dX6_pieceOf_71 rfl ?_
          refine g_iconst F dX6_pieceOf_72 ?_
          refine g_icmp_ne F 85 (by omega) dX6_pieceOf_73 (by decide) (fun c73 => ?_) (fun c73 => ?_)
          · skip
            refine g_aload_n F 0 dX6_pieceOf_85 rfl ?_
            refine gm_get_9 F dX6_pieceOf_86 ?_
            refine g_iload_n F 1 dX6_pieceOf_89 rfl ?_
            refine gm_ald_9 F (by omega) dX6_pieceOf_90 ?_
            refine g_top (y := iI (M 9 p)) rfl ?_
            have hq : M 9 p = qPieceOf (M 6) (M 7) (M 8) (M 9) (M 5 0) p w := by unfold qPieceOf; (repeat' split) <;> omega
            exact K mw_same ⟨_, rfl, iIc hq, ⟨rfl, rfl, rfl, rfl, rfl, rfl, rfl, rfl, rfl, rfl, rfl, rfl, rfl, rfl, rfl, rfl, rfl, rfl⟩, (by rw [← hq]; show M 11 = _; exact (rfa_n (by omega)).symm)⟩ rfl dX6_pieceOf_91
          · skip
            refine g_aload_n F 0 dX6_pieceOf_76 rfl ?_
            refine gm_get_8 F dX6_pieceOf_77 ?_
            refine g_iload_n F 1 dX6_pieceOf_80 rfl ?_
            refine gm_ald_8 F (by omega) dX6_pieceOf_81 ?_
            refine g_top (y := iI (M 8 p)) rfl ?_
            refine g_goto F 91 dX6_pieceOf_82 (by decide) ?_
            have hq : M 8 p = qPieceOf (M 6) (M 7) (M 8) (M 9) (M 5 0) p w := by unfold qPieceOf; (repeat' split) <;> omega
            exact K mw_same ⟨_, rfl, iIc hq, ⟨rfl, rfl, rfl, rfl, rfl, rfl, rfl, rfl, rfl, rfl, rfl, rfl, rfl, rfl, rfl, rfl, rfl, rfl⟩, (by rw [← hq]; show M 11 = _; exact (rfa_n (by omega)).symm)⟩ rfl dX6_pieceOf_91
        · skip
          refine g_aload_n F 0 dX6_pieceOf_62 rfl ?_
          refine gm_get_7 F dX6_pieceOf_63 ?_
          refine g_iload_n F 1 dX6_pieceOf_66 rfl ?_
          refine gm_ald_7 F (by omega) dX6_pieceOf_67 ?_
          refine g_top (y := iI (M 7 p)) rfl ?_
          refine g_goto F 91 dX6_pieceOf_68 (by decide) ?_
          have hq : M 7 p = qPieceOf (M 6) (M 7) (M 8) (M 9) (M 5 0) p w := by unfold qPieceOf; (repeat' split) <;> omega
          exact K mw_same ⟨_, rfl, iIc hq, ⟨rfl, rfl, rfl, rfl, rfl, rfl, rfl, rfl, rfl, rfl, rfl, rfl, rfl, rfl, rfl, rfl, rfl, rfl⟩, (by rw [← hq]; show M 11 = _; exact (rfa_n (by omega)).symm)⟩ rfl dX6_pieceOf_91
      · skip
        refine g_aload_n F 0 dX6_pieceOf_48 rfl ?_
        refine gm_get_6 F dX6_pieceOf_49 ?_
        refine g_iload_n F 1 dX6_pieceOf_52 rfl ?_
        refine gm_ald_6 F (by omega) dX6_pieceOf_53 ?_
        refine g_top (y := iI (M 6 p)) rfl ?_
        refine g_goto F 91 dX6_pieceOf_54 (by decide) ?_
        have hq : M 6 p = qPieceOf (M 6) (M 7) (M 8) (M 9) (M 5 0) p w := by unfold qPieceOf; (repeat' split) <;> omega
        exact K mw_same ⟨_, rfl, iIc hq, ⟨rfl, rfl, rfl, rfl, rfl, rfl, rfl, rfl, rfl, rfl, rfl, rfl, rfl, rfl, rfl, rfl, rfl, rfl⟩, (by rw [← hq]; show M 11 = _; exact (rfa_n (by omega)).symm)⟩ rfl dX6_pieceOf_91
    · skip
      have c22 : ¬ (0 ≤ w ∧ w ≤ 3) := b2i_f c22
      refine g_aload_n F 0 dX6_pieceOf_25 rfl ?_
      refine g_aload_n F 0 dX6_pieceOf_26 rfl ?_
      refine g_iload_n F 1 dX6_pieceOf_27 rfl ?_
      refine g_callI F (stk := [.int (iI p), .ref (ma 100), .ref (ma 100)]) (st := [.ref (ma 100)]) (k_X6_isPiece κ ma (mA M 10 (fun _ => 0)) p (show In32 p ∧ 0 ≤ (M 5 0) ∧ (M 5 0) ≤ 6 from by omega)) cal_X6_isPiece lm_X6_176 0 rfl rfl rfl rfl (by decide) rfl (Nat.le_of_ble_eq_true rfl) dX6_pieceOf_28 (fun r28 ws28 _ hr28 => ?_)
      obtain ⟨rfl, rfl⟩ := hr28
      refine g_top (y := iI (b2i (0 ≤ p ∧ p < (M 5 0)))) rfl ?_
      refine g_if_eq F 39 (b2i_in _) dX6_pieceOf_31 (by decide) (fun c31 => ?_) (fun c31 => ?_)
      · skip
        have c31 : ¬ (0 ≤ p ∧ p < (M 5 0)) := b2i_f c31
        refine g_iconst F dX6_pieceOf_39 ?_
        refine g_callI F (stk := [.int (iI (-1)), .ref (ma 100)]) (st := []) (k_X6_refuse κ ma (mA M 10 (fun _ => 0)) (-1) (by omega)) cal_X6_refuse lm_X6_138 0 rfl rfl rfl rfl (by decide) rfl (Nat.le_of_ble_eq_true rfl) dX6_pieceOf_40 (fun r40 ws40 _ hr40 => ?_)
        obtain ⟨rfl, rfl⟩ := hr40
        refine g_top (y := iI (-1)) rfl ?_
        refine g_ws (ws' := mw κ ma (mA (mA M 10 (fun _ => 0)) 11 (uI (M 11) (-(-1)) (M 11 (-(-1)) + 1)))) rfl ?_
        have hq : (-1) = qPieceOf (M 6) (M 7) (M 8) (M 9) (M 5 0) p w := by unfold qPieceOf; (repeat' split) <;> omega
        exact K mw_same ⟨_, rfl, iIc hq, ⟨rfl, rfl, rfl, rfl, rfl, rfl, rfl, rfl, rfl, rfl, rfl, rfl, rfl, rfl, rfl, rfl, rfl, rfl⟩, (by rw [← hq]; exact (rfa_r (by omega)).symm)⟩ rfl dX6_pieceOf_43
      · skip
        have c31 : 0 ≤ p ∧ p < (M 5 0) := b2i_t c31
        refine g_bipush F dX6_pieceOf_34 (by decide +kernel) ?_
        refine g_goto F 40 dX6_pieceOf_36 (by decide) ?_
        refine g_callI F (stk := [.int (iI (-2)), .ref (ma 100)]) (st := []) (k_X6_refuse κ ma (mA M 10 (fun _ => 0)) (-2) (by omega)) cal_X6_refuse lm_X6_138 0 rfl rfl rfl rfl (by decide) rfl (Nat.le_of_ble_eq_true rfl) dX6_pieceOf_40 (fun r40 ws40 _ hr40 => ?_)
        obtain ⟨rfl, rfl⟩ := hr40
        refine g_top (y := iI (-2)) rfl ?_
        refine g_ws (ws' := mw κ ma (mA (mA M 10 (fun _ => 0)) 11 (uI (M 11) (-(-2)) (M 11 (-(-2)) + 1)))) rfl ?_
        have hq : (-2) = qPieceOf (M 6) (M 7) (M 8) (M 9) (M 5 0) p w := by unfold qPieceOf; (repeat' split) <;> omega
        exact K mw_same ⟨_, rfl, iIc hq, ⟨rfl, rfl, rfl, rfl, rfl, rfl, rfl, rfl, rfl, rfl, rfl, rfl, rfl, rfl, rfl, rfl, rfl, rfl⟩, (by rw [← hq]; exact (rfa_r (by omega)).symm)⟩ rfl dX6_pieceOf_43
theorem dX5_pieceOf_0 : decode cX5_pieceOf 0 = .ok (.aload_n 0, 1) := by decide +kernel
theorem dX5_pieceOf_1 : decode cX5_pieceOf 1 = .ok (.getfield 19, 3) := by decide +kernel
theorem dX5_pieceOf_4 : decode cX5_pieceOf 4 = .ok (.iload_n 1, 1) := by decide +kernel
theorem dX5_pieceOf_5 : decode cX5_pieceOf 5 = .ok (.invokevirtual 190, 3) := by decide +kernel
theorem dX5_pieceOf_8 : decode cX5_pieceOf 8 = .ok (.ifCond .ne 9, 3) := by decide +kernel
theorem dX5_pieceOf_11 : decode cX5_pieceOf 11 = .ok (.aload_n 0, 1) := by decide +kernel
theorem dX5_pieceOf_12 : decode cX5_pieceOf 12 = .ok (.iconst (-1), 1) := by decide +kernel
theorem dX5_pieceOf_13 : decode cX5_pieceOf 13 = .ok (.invokevirtual 69, 3) := by decide +kernel
theorem dX5_pieceOf_16 : decode cX5_pieceOf 16 = .ok (.ireturn, 1) := by decide +kernel
theorem dX5_pieceOf_17 : decode cX5_pieceOf 17 = .ok (.iload_n 2, 1) := by decide +kernel
theorem dX5_pieceOf_18 : decode cX5_pieceOf 18 = .ok (.tableswitch 77 0 3 #[30, 40, 50, 60], 30) := by decide +kernel
theorem dX5_pieceOf_48 : decode cX5_pieceOf 48 = .ok (.aload_n 0, 1) := by decide +kernel
theorem dX5_pieceOf_49 : decode cX5_pieceOf 49 = .ok (.getfield 19, 3) := by decide +kernel
theorem dX5_pieceOf_52 : decode cX5_pieceOf 52 = .ok (.getfield 193, 3) := by decide +kernel
theorem dX5_pieceOf_55 : decode cX5_pieceOf 55 = .ok (.iload_n 1, 1) := by decide +kernel
theorem dX5_pieceOf_56 : decode cX5_pieceOf 56 = .ok (.iaload, 1) := by decide +kernel
theorem dX5_pieceOf_57 : decode cX5_pieceOf 57 = .ok (.ireturn, 1) := by decide +kernel
theorem dX5_pieceOf_58 : decode cX5_pieceOf 58 = .ok (.aload_n 0, 1) := by decide +kernel
theorem dX5_pieceOf_59 : decode cX5_pieceOf 59 = .ok (.getfield 19, 3) := by decide +kernel
theorem dX5_pieceOf_62 : decode cX5_pieceOf 62 = .ok (.getfield 194, 3) := by decide +kernel
theorem dX5_pieceOf_65 : decode cX5_pieceOf 65 = .ok (.iload_n 1, 1) := by decide +kernel
theorem dX5_pieceOf_66 : decode cX5_pieceOf 66 = .ok (.iaload, 1) := by decide +kernel
theorem dX5_pieceOf_67 : decode cX5_pieceOf 67 = .ok (.ireturn, 1) := by decide +kernel
theorem dX5_pieceOf_68 : decode cX5_pieceOf 68 = .ok (.aload_n 0, 1) := by decide +kernel
theorem dX5_pieceOf_69 : decode cX5_pieceOf 69 = .ok (.getfield 19, 3) := by decide +kernel
theorem dX5_pieceOf_72 : decode cX5_pieceOf 72 = .ok (.getfield 195, 3) := by decide +kernel
theorem dX5_pieceOf_75 : decode cX5_pieceOf 75 = .ok (.iload_n 1, 1) := by decide +kernel
theorem dX5_pieceOf_76 : decode cX5_pieceOf 76 = .ok (.iaload, 1) := by decide +kernel
theorem dX5_pieceOf_77 : decode cX5_pieceOf 77 = .ok (.ireturn, 1) := by decide +kernel
theorem dX5_pieceOf_78 : decode cX5_pieceOf 78 = .ok (.aload_n 0, 1) := by decide +kernel
theorem dX5_pieceOf_79 : decode cX5_pieceOf 79 = .ok (.getfield 19, 3) := by decide +kernel
theorem dX5_pieceOf_82 : decode cX5_pieceOf 82 = .ok (.iload_n 1, 1) := by decide +kernel
theorem dX5_pieceOf_83 : decode cX5_pieceOf 83 = .ok (.invokevirtual 150, 3) := by decide +kernel
theorem dX5_pieceOf_86 : decode cX5_pieceOf 86 = .ok (.ifCond .eq 7, 3) := by decide +kernel
theorem dX5_pieceOf_89 : decode cX5_pieceOf 89 = .ok (.iconst 0, 1) := by decide +kernel
theorem dX5_pieceOf_90 : decode cX5_pieceOf 90 = .ok (.goto 4, 3) := by decide +kernel
theorem dX5_pieceOf_93 : decode cX5_pieceOf 93 = .ok (.iconst 1, 1) := by decide +kernel
theorem dX5_pieceOf_94 : decode cX5_pieceOf 94 = .ok (.ireturn, 1) := by decide +kernel
theorem dX5_pieceOf_95 : decode cX5_pieceOf 95 = .ok (.aload_n 0, 1) := by decide +kernel
theorem dX5_pieceOf_96 : decode cX5_pieceOf 96 = .ok (.bipush (-2), 2) := by decide +kernel
theorem dX5_pieceOf_98 : decode cX5_pieceOf 98 = .ok (.invokevirtual 69, 3) := by decide +kernel
theorem dX5_pieceOf_101 : decode cX5_pieceOf 101 = .ok (.ireturn, 1) := by decide +kernel
set_option maxRecDepth 100000 in
set_option maxHeartbeats 4000000 in
theorem k_X5_pieceOf (κ : Kp) (xa : Nat → Nat → Nat) (X : XS) (p : Int) (w : Int)  (ha_p : In32 p) (ha_w : In32 w) (okr : okRl (X 12)) : mI κ yX5_pieceOf cX5_pieceOf 3 .int 2 [.ref (xa 18 100), .int (iI p), .int (iI w)] (xw κ xa X) (qX κ xa X (qPieceOf (X 12 0) (X 12 1) (X 12 2) (uR (X 12)) (X 12 3 0) p w)) := by
  refine mI_of (by decide) (Nat.le_of_ble_eq_true rfl) (fun E F K => ?_)
  refine g_lv (lv' := [(0, .ref (xa 18 100)), (1, .int (iI p)), (2, .int (iI w))]) rfl ?_
  have hn := okr.1
  have hu : uR (X 12) p = X 12 4 0 / p2 p % 2 := rfl
  refine g_aload_n F 0 dX5_pieceOf_0 rfl ?_
  refine g18_get_1 F  lf_X5_19 dX5_pieceOf_1 ?_
  refine g_iload_n F 1 dX5_pieceOf_4 rfl ?_
  refine g_callNI F (stk := [.int (iI p), .ref (xa 12 100)]) (st := []) (k_X2_has κ xa X 0 (by decide) p (show In32 p ∧ 0 ≤ ((X 12) 3 0) ∧ ((X 12) 3 0) ≤ 6 from by omega)) cal_X2_has nm_X5_190 60 rfl rfl rfl rfl (by decide) rfl (Nat.le_of_ble_eq_true rfl) dX5_pieceOf_5 (fun r5 ws5 _ hr5 => ?_)
  obtain ⟨rfl, rfl⟩ := hr5
  refine g_if_ne F 17 (b2i_in _) dX5_pieceOf_8 (by decide) (fun c8 => ?_) (fun c8 => ?_)
  · skip
    have c8 : 0 ≤ p ∧ p < (X 12) 3 0 := b2i_t c8
    have hrp := okr.p (p := p) (by omega) (by omega)
    refine g_iload_n F 2 dX5_pieceOf_17 rfl ?_
    by_cases c18_0 : w = 0
    · skip
      refine g_tsw_in F 48 (by omega) dX5_pieceOf_18 (by omega) (by omega) (by rw [c18_0]; rfl) (by decide) ?_
      refine g_aload_n F 0 dX5_pieceOf_48 rfl ?_
      refine g18_get_1 F  lf_X5_19 dX5_pieceOf_49 ?_
      refine gr_getN_0 F (o := 0) (by decide) nf_X5_193 dX5_pieceOf_52 ?_
      refine g_iload_n F 1 dX5_pieceOf_55 rfl ?_
      refine gr_ald_0 F (o := 0) (by decide) (by omega) dX5_pieceOf_56 ?_
      have hq : (X 12) 0 p = qPieceOf (X 12 0) (X 12 1) (X 12 2) (uR (X 12)) (X 12 3 0) p w := by unfold qPieceOf; (repeat' split) <;> omega
      exact K xw_same ⟨_, rfl, iIc hq, sX_0, (by rw [← hq]; exact (rfa_n (by omega)).symm)⟩ rfl dX5_pieceOf_57
    by_cases c18_1 : w = 1
    · skip
      refine g_tsw_in F 58 (by omega) dX5_pieceOf_18 (by omega) (by omega) (by rw [c18_1]; rfl) (by decide) ?_
      refine g_aload_n F 0 dX5_pieceOf_58 rfl ?_
      refine g18_get_1 F  lf_X5_19 dX5_pieceOf_59 ?_
      refine gr_getN_1 F (o := 0) (by decide) nf_X5_194 dX5_pieceOf_62 ?_
      refine g_iload_n F 1 dX5_pieceOf_65 rfl ?_
      refine gr_ald_1 F (o := 0) (by decide) (by omega) dX5_pieceOf_66 ?_
      have hq : (X 12) 1 p = qPieceOf (X 12 0) (X 12 1) (X 12 2) (uR (X 12)) (X 12 3 0) p w := by unfold qPieceOf; (repeat' split) <;> omega
      exact K xw_same ⟨_, rfl, iIc hq, sX_0, (by rw [← hq]; exact (rfa_n (by omega)).symm)⟩ rfl dX5_pieceOf_67
    by_cases c18_2 : w = 2
    · skip
      refine g_tsw_in F 68 (by omega) dX5_pieceOf_18 (by omega) (by omega) (by rw [c18_2]; rfl) (by decide) ?_
      refine g_aload_n F 0 dX5_pieceOf_68 rfl ?_
      refine g18_get_1 F  lf_X5_19 dX5_pieceOf_69 ?_
      refine gr_getN_2 F (o := 0) (by decide) nf_X5_195 dX5_pieceOf_72 ?_
      refine g_iload_n F 1 dX5_pieceOf_75 rfl ?_
      refine gr_ald_2 F (o := 0) (by decide) (by omega) dX5_pieceOf_76 ?_
      have hq : (X 12) 2 p = qPieceOf (X 12 0) (X 12 1) (X 12 2) (uR (X 12)) (X 12 3 0) p w := by unfold qPieceOf; (repeat' split) <;> omega
      exact K xw_same ⟨_, rfl, iIc hq, sX_0, (by rw [← hq]; exact (rfa_n (by omega)).symm)⟩ rfl dX5_pieceOf_77
    by_cases c18_3 : w = 3
    · skip
      refine g_tsw_in F 78 (by omega) dX5_pieceOf_18 (by omega) (by omega) (by rw [c18_3]; rfl) (by decide) ?_
      refine g_aload_n F 0 dX5_pieceOf_78 rfl ?_
      refine g18_get_1 F  lf_X5_19 dX5_pieceOf_79 ?_
      refine g_iload_n F 1 dX5_pieceOf_82 rfl ?_
      refine g_callNI F (stk := [.int (iI p), .ref (xa 12 100)]) (st := []) (k_X2_isFree κ xa X 0 (by decide) p (show In32 p ∧ (0 ≤ ((X 12) 3 0) ∧ ((X 12) 3 0) ≤ 6) ∧ 0 ≤ ((X 12) 4 0) ∧ ((X 12) 4 0) < 64 from by omega)) cal_X2_isFree nm_X5_150 60 rfl rfl rfl rfl (by decide) rfl (Nat.le_of_ble_eq_true rfl) dX5_pieceOf_83 (fun r83 ws83 _ hr83 => ?_)
      obtain ⟨rfl, rfl⟩ := hr83
      refine g_if_eq F 93 (b2i_in _) dX5_pieceOf_86 (by decide) (fun c86 => ?_) (fun c86 => ?_)
      · skip
        have c86 : ¬ ((0 ≤ p ∧ p < (X 12) 3 0) ∧ (X 12) 4 0 / p2 p % 2 = 0) := b2i_f c86
        refine g_iconst F dX5_pieceOf_93 ?_
        have hq : 1 = qPieceOf (X 12 0) (X 12 1) (X 12 2) (uR (X 12)) (X 12 3 0) p w := by unfold qPieceOf; (repeat' split) <;> omega
        exact K xw_same ⟨_, rfl, iIc hq, sX_0, (by rw [← hq]; exact (rfa_n (by omega)).symm)⟩ rfl dX5_pieceOf_94
      · skip
        have c86 : (0 ≤ p ∧ p < (X 12) 3 0) ∧ (X 12) 4 0 / p2 p % 2 = 0 := b2i_t c86
        refine g_iconst F dX5_pieceOf_89 ?_
        refine g_goto F 94 dX5_pieceOf_90 (by decide) ?_
        have hq : 0 = qPieceOf (X 12 0) (X 12 1) (X 12 2) (uR (X 12)) (X 12 3 0) p w := by unfold qPieceOf; (repeat' split) <;> omega
        exact K xw_same ⟨_, rfl, iIc hq, sX_0, (by rw [← hq]; exact (rfa_n (by omega)).symm)⟩ rfl dX5_pieceOf_94
    refine g_tsw_out F 95 (by omega) dX5_pieceOf_18 (by omega) (by decide) ?_
    refine g_aload_n F 0 dX5_pieceOf_95 rfl ?_
    refine g_bipush F dX5_pieceOf_96 (by decide +kernel) ?_
    refine g_callI F (stk := [.int (iI (-2)), .ref (xa 18 100)]) (st := []) (k_X5_refuse κ xa X (-2) (by omega)) cal_X5_refuse lm_X5_69 81 rfl rfl rfl rfl (by decide) rfl (Nat.le_of_ble_eq_true rfl) dX5_pieceOf_98 (fun r98 ws98 _ hr98 => ?_)
    obtain ⟨rfl, rfl⟩ := hr98
    have hq : (-2) = qPieceOf (X 12 0) (X 12 1) (X 12 2) (uR (X 12)) (X 12 3 0) p w := by unfold qPieceOf; (repeat' split) <;> omega
    exact K xw_same ⟨_, rfl, iIc hq, (sX_18 sX_0 rfl rfl rfl), (by rw [← hq]; exact (rfa_r (by omega)).symm)⟩ rfl dX5_pieceOf_101
  · skip
    have c8 : ¬ (0 ≤ p ∧ p < (X 12) 3 0) := b2i_f c8
    refine g_aload_n F 0 dX5_pieceOf_11 rfl ?_
    refine g_iconst F dX5_pieceOf_12 ?_
    refine g_callI F (stk := [.int (iI (-1)), .ref (xa 18 100)]) (st := []) (k_X5_refuse κ xa X (-1) (by omega)) cal_X5_refuse lm_X5_69 81 rfl rfl rfl rfl (by decide) rfl (Nat.le_of_ble_eq_true rfl) dX5_pieceOf_13 (fun r13 ws13 _ hr13 => ?_)
    obtain ⟨rfl, rfl⟩ := hr13
    have hq : (-1) = qPieceOf (X 12 0) (X 12 1) (X 12 2) (uR (X 12)) (X 12 3 0) p w := by unfold qPieceOf; (repeat' split) <;> omega
    exact K xw_same ⟨_, rfl, iIc hq, (sX_18 sX_0 rfl rfl rfl), (by rw [← hq]; exact (rfa_r (by omega)).symm)⟩ rfl dX5_pieceOf_16
