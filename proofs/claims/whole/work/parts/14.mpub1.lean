/-! PUBLIC METHODS of the reference: what stays -/
def sameM (M M2 : MS) : Prop := M2 0 = M 0 ∧ M2 1 = M 1 ∧ M2 2 = M 2 ∧ M2 3 = M 3 ∧ M2 4 = M 4 ∧ M2 5 = M 5 ∧ M2 6 = M 6 ∧ M2 7 = M 7 ∧ M2 8 = M 8 ∧ M2 9 = M 9 ∧ M2 12 = M 12 ∧ M2 13 = M 13 ∧ M2 21 = M 21 ∧ M2 22 = M 22 ∧ M2 26 = M 26 ∧ M2 28 = M 28 ∧ M2 37 = M 37 ∧ M2 38 = M 38
/-- a question: the answer q, refusals counted, nothing else of it changed -/
def qM (κ : Kp) (ma : Nat → Nat) (M : MS) (q : Int) : Int32 → va_W → Prop := fun r w => ∃ M2, w = mw κ ma M2 ∧ r = iI q ∧ sameM M M2 ∧ M2 11 = rfa (M 11) q
def qML (κ : Kp) (ma : Nat → Nat) (M : MS) (q s : Int) : Int64 → va_W → Prop := fun r w => ∃ M2, w = mw κ ma M2 ∧ r = iL q ∧ sameM M M2 ∧ M2 11 = rfa (M 11) s
theorem dX6_cellOf_0 : decode cX6_cellOf 0 = .ok (.aload_n 0, 1) := by decide +kernel
theorem dX6_cellOf_1 : decode cX6_cellOf 1 = .ok (.iconst 0, 1) := by decide +kernel
theorem dX6_cellOf_2 : decode cX6_cellOf 2 = .ok (.putfield 91, 3) := by decide +kernel
theorem dX6_cellOf_5 : decode cX6_cellOf 5 = .ok (.iload_n 1, 1) := by decide +kernel
theorem dX6_cellOf_6 : decode cX6_cellOf 6 = .ok (.invokestatic 222, 3) := by decide +kernel
theorem dX6_cellOf_9 : decode cX6_cellOf 9 = .ok (.ifCond .eq 15, 3) := by decide +kernel
theorem dX6_cellOf_12 : decode cX6_cellOf 12 = .ok (.iload_n 2, 1) := by decide +kernel
theorem dX6_cellOf_13 : decode cX6_cellOf 13 = .ok (.i2l, 1) := by decide +kernel
theorem dX6_cellOf_14 : decode cX6_cellOf 14 = .ok (.lconst 0, 1) := by decide +kernel
theorem dX6_cellOf_15 : decode cX6_cellOf 15 = .ok (.ldc2_w 225, 3) := by decide +kernel
theorem dX6_cellOf_18 : decode cX6_cellOf 18 = .ok (.invokestatic 97, 3) := by decide +kernel
theorem dX6_cellOf_21 : decode cX6_cellOf 21 = .ok (.ifCond .ne 21, 3) := by decide +kernel
theorem dX6_cellOf_24 : decode cX6_cellOf 24 = .ok (.aload_n 0, 1) := by decide +kernel
theorem dX6_cellOf_25 : decode cX6_cellOf 25 = .ok (.iload_n 1, 1) := by decide +kernel
theorem dX6_cellOf_26 : decode cX6_cellOf 26 = .ok (.invokestatic 222, 3) := by decide +kernel
theorem dX6_cellOf_29 : decode cX6_cellOf 29 = .ok (.ifCond .eq 8, 3) := by decide +kernel
theorem dX6_cellOf_32 : decode cX6_cellOf 32 = .ok (.bipush (-2), 2) := by decide +kernel
theorem dX6_cellOf_34 : decode cX6_cellOf 34 = .ok (.goto 4, 3) := by decide +kernel
theorem dX6_cellOf_37 : decode cX6_cellOf 37 = .ok (.iconst (-1), 1) := by decide +kernel
theorem dX6_cellOf_38 : decode cX6_cellOf 38 = .ok (.invokevirtual 138, 3) := by decide +kernel
theorem dX6_cellOf_41 : decode cX6_cellOf 41 = .ok (.ireturn, 1) := by decide +kernel
theorem dX6_cellOf_42 : decode cX6_cellOf 42 = .ok (.iload_n 2, 1) := by decide +kernel
theorem dX6_cellOf_43 : decode cX6_cellOf 43 = .ok (.tableswitch 93 0 6 #[41, 48, 55, 62, 69, 75, 87], 41) := by decide +kernel
theorem dX6_cellOf_84 : decode cX6_cellOf 84 = .ok (.aload_n 0, 1) := by decide +kernel
theorem dX6_cellOf_85 : decode cX6_cellOf 85 = .ok (.getfield 7, 3) := by decide +kernel
theorem dX6_cellOf_88 : decode cX6_cellOf 88 = .ok (.iload_n 1, 1) := by decide +kernel
theorem dX6_cellOf_89 : decode cX6_cellOf 89 = .ok (.iaload, 1) := by decide +kernel
theorem dX6_cellOf_90 : decode cX6_cellOf 90 = .ok (.ireturn, 1) := by decide +kernel
theorem dX6_cellOf_91 : decode cX6_cellOf 91 = .ok (.aload_n 0, 1) := by decide +kernel
theorem dX6_cellOf_92 : decode cX6_cellOf 92 = .ok (.getfield 13, 3) := by decide +kernel
theorem dX6_cellOf_95 : decode cX6_cellOf 95 = .ok (.iload_n 1, 1) := by decide +kernel
theorem dX6_cellOf_96 : decode cX6_cellOf 96 = .ok (.iaload, 1) := by decide +kernel
theorem dX6_cellOf_97 : decode cX6_cellOf 97 = .ok (.ireturn, 1) := by decide +kernel
theorem dX6_cellOf_98 : decode cX6_cellOf 98 = .ok (.aload_n 0, 1) := by decide +kernel
theorem dX6_cellOf_99 : decode cX6_cellOf 99 = .ok (.getfield 16, 3) := by decide +kernel
theorem dX6_cellOf_102 : decode cX6_cellOf 102 = .ok (.iload_n 1, 1) := by decide +kernel
theorem dX6_cellOf_103 : decode cX6_cellOf 103 = .ok (.iaload, 1) := by decide +kernel
theorem dX6_cellOf_104 : decode cX6_cellOf 104 = .ok (.ireturn, 1) := by decide +kernel
theorem dX6_cellOf_105 : decode cX6_cellOf 105 = .ok (.aload_n 0, 1) := by decide +kernel
theorem dX6_cellOf_106 : decode cX6_cellOf 106 = .ok (.getfield 19, 3) := by decide +kernel
theorem dX6_cellOf_109 : decode cX6_cellOf 109 = .ok (.iload_n 1, 1) := by decide +kernel
theorem dX6_cellOf_110 : decode cX6_cellOf 110 = .ok (.iaload, 1) := by decide +kernel
theorem dX6_cellOf_111 : decode cX6_cellOf 111 = .ok (.ireturn, 1) := by decide +kernel
theorem dX6_cellOf_112 : decode cX6_cellOf 112 = .ok (.aload_n 0, 1) := by decide +kernel
theorem dX6_cellOf_113 : decode cX6_cellOf 113 = .ok (.iload_n 1, 1) := by decide +kernel
theorem dX6_cellOf_114 : decode cX6_cellOf 114 = .ok (.invokevirtual 114, 3) := by decide +kernel
theorem dX6_cellOf_117 : decode cX6_cellOf 117 = .ok (.ireturn, 1) := by decide +kernel
theorem dX6_cellOf_118 : decode cX6_cellOf 118 = .ok (.aload_n 0, 1) := by decide +kernel
theorem dX6_cellOf_119 : decode cX6_cellOf 119 = .ok (.iload_n 1, 1) := by decide +kernel
theorem dX6_cellOf_120 : decode cX6_cellOf 120 = .ok (.aload_n 0, 1) := by decide +kernel
theorem dX6_cellOf_121 : decode cX6_cellOf 121 = .ok (.getfield 125, 3) := by decide +kernel
theorem dX6_cellOf_124 : decode cX6_cellOf 124 = .ok (.iconst 1, 1) := by decide +kernel
theorem dX6_cellOf_125 : decode cX6_cellOf 125 = .ok (.iadd, 1) := by decide +kernel
theorem dX6_cellOf_126 : decode cX6_cellOf 126 = .ok (.invokevirtual 128, 3) := by decide +kernel
theorem dX6_cellOf_129 : decode cX6_cellOf 129 = .ok (.ireturn, 1) := by decide +kernel
theorem dX6_cellOf_130 : decode cX6_cellOf 130 = .ok (.aload_n 0, 1) := by decide +kernel
theorem dX6_cellOf_131 : decode cX6_cellOf 131 = .ok (.iload_n 1, 1) := by decide +kernel
theorem dX6_cellOf_132 : decode cX6_cellOf 132 = .ok (.invokevirtual 118, 3) := by decide +kernel
theorem dX6_cellOf_135 : decode cX6_cellOf 135 = .ok (.ireturn, 1) := by decide +kernel
theorem dX6_cellOf_136 : decode cX6_cellOf 136 = .ok (.aload_n 0, 1) := by decide +kernel
theorem dX6_cellOf_137 : decode cX6_cellOf 137 = .ok (.iload_n 1, 1) := by decide +kernel
theorem dX6_cellOf_138 : decode cX6_cellOf 138 = .ok (.invokevirtual 121, 3) := by decide +kernel
theorem dX6_cellOf_141 : decode cX6_cellOf 141 = .ok (.ifCond .eq 7, 3) := by decide +kernel
theorem dX6_cellOf_144 : decode cX6_cellOf 144 = .ok (.iconst 1, 1) := by decide +kernel
theorem dX6_cellOf_145 : decode cX6_cellOf 145 = .ok (.goto 4, 3) := by decide +kernel
theorem dX6_cellOf_148 : decode cX6_cellOf 148 = .ok (.iconst 0, 1) := by decide +kernel
theorem dX6_cellOf_149 : decode cX6_cellOf 149 = .ok (.ireturn, 1) := by decide +kernel
set_option maxRecDepth 100000 in
set_option maxHeartbeats 4000000 in
theorem k_X6_cellOf (κ : Kp) (ma : Nat → Nat) (M : MS) (c : Int) (w : Int)  (ha_c : In32 c) (ha_w : In32 w) (ok : okC (cl M)) (hy : M 4 0 ≤ 999) : mI κ yX6_cellOf cX6_cellOf 3 .int 3 [.ref (ma 100), .int (iI c), .int (iI w)] (mw κ ma M) (qM κ ma M (qCellOf (cl M) c w)) := by
  refine mI_of (by decide) (Nat.le_of_ble_eq_true rfl) (fun E F K => ?_)
  refine g_lv (lv' := [(0, .ref (ma 100)), (1, .int (iI c)), (2, .int (iI w))]) rfl ?_
  refine g_aload_n F 0 dX6_cellOf_0 rfl ?_
  refine g_iconst F dX6_cellOf_1 ?_
  refine gm_put_10 F dX6_cellOf_2 ?_
  refine g_iload_n F 1 dX6_cellOf_5 rfl ?_
  refine g_callSI F (stk := [.int (iI c)]) (st := []) (k_X6_isCell κ (mw κ ma (mA M 10 (fun _ => 0))) c (by omega)) cal_X6_isCell lm_X6_222 rfl (by decide) rfl (Nat.le_of_ble_eq_true rfl) dX6_cellOf_6 (fun r6 ws6 _ hr6 => ?_)
  obtain ⟨rfl, rfl⟩ := hr6
  refine g_if_eq F 24 (b2i_in _) dX6_cellOf_9 (by decide) (fun c9 => ?_) (fun c9 => ?_)
  · skip
    have c9 : ¬ (0 ≤ c ∧ c < 12) := b2i_f c9
    refine g_aload_n F 0 dX6_cellOf_24 rfl ?_
    refine g_iload_n F 1 dX6_cellOf_25 rfl ?_
    refine g_callSI F (stk := [.int (iI c), .ref (ma 100)]) (st := [.ref (ma 100)]) (k_X6_isCell κ (mw κ ma (mA M 10 (fun _ => 0))) c (by omega)) cal_X6_isCell lm_X6_222 rfl (by decide) rfl (Nat.le_of_ble_eq_true rfl) dX6_cellOf_26 (fun r26 ws26 _ hr26 => ?_)
    obtain ⟨rfl, rfl⟩ := hr26
    refine g_if_eq F 37 (b2i_in _) dX6_cellOf_29 (by decide) (fun c29 => ?_) (fun c29 => ?_)
    · skip
      have c29 : ¬ (0 ≤ c ∧ c < 12) := b2i_f c29
      refine g_iconst F dX6_cellOf_37 ?_
      refine g_callI F (stk := [.int (iI (-1)), .ref (ma 100)]) (st := []) (k_X6_refuse κ ma (mA M 10 (fun _ => 0)) (-1) (by omega)) cal_X6_refuse lm_X6_138 0 rfl rfl rfl rfl (by decide) rfl (Nat.le_of_ble_eq_true rfl) dX6_cellOf_38 (fun r38 ws38 _ hr38 => ?_)
      obtain ⟨rfl, rfl⟩ := hr38
      refine g_top (y := iI (-1)) rfl ?_
      refine g_ws (ws' := mw κ ma (mA (mA M 10 (fun _ => 0)) 11 (uI (M 11) (-(-1)) (M 11 (-(-1)) + 1)))) rfl ?_
      have hq : (-1) = qCellOf (cl M) c w := by unfold qCellOf; show _ = if ¬ (0 ≤ c ∧ c < 12) then -1 else if w = 0 then M 0 c else if w = 1 then M 1 c else if w = 2 then M 2 c else if w = 3 then M 3 c else if w = 4 then pull (cl M) c else if w = 5 then wearing (cl M) (M 4 0 + 1) c else if w = 6 then hold (cl M) c else if w = 7 then (if hole (cl M) c then 1 else 0) else -2; (repeat' split) <;> omega
      exact K mw_same ⟨_, rfl, iIc hq, ⟨rfl, rfl, rfl, rfl, rfl, rfl, rfl, rfl, rfl, rfl, rfl, rfl, rfl, rfl, rfl, rfl, rfl, rfl⟩, (by rw [← hq]; exact (rfa_r (by omega)).symm)⟩ rfl dX6_cellOf_41
    · skip
      have c29 : 0 ≤ c ∧ c < 12 := b2i_t c29
      refine g_bipush F dX6_cellOf_32 (by decide +kernel) ?_
      refine g_goto F 38 dX6_cellOf_34 (by decide) ?_
      refine g_callI F (stk := [.int (iI (-2)), .ref (ma 100)]) (st := []) (k_X6_refuse κ ma (mA M 10 (fun _ => 0)) (-2) (by omega)) cal_X6_refuse lm_X6_138 0 rfl rfl rfl rfl (by decide) rfl (Nat.le_of_ble_eq_true rfl) dX6_cellOf_38 (fun r38 ws38 _ hr38 => ?_)
      obtain ⟨rfl, rfl⟩ := hr38
      refine g_top (y := iI (-2)) rfl ?_
      refine g_ws (ws' := mw κ ma (mA (mA M 10 (fun _ => 0)) 11 (uI (M 11) (-(-2)) (M 11 (-(-2)) + 1)))) rfl ?_
      have hq : (-2) = qCellOf (cl M) c w := by unfold qCellOf; show _ = if ¬ (0 ≤ c ∧ c < 12) then -1 else if w = 0 then M 0 c else if w = 1 then M 1 c else if w = 2 then M 2 c else if w = 3 then M 3 c else if w = 4 then pull (cl M) c else if w = 5 then wearing (cl M) (M 4 0 + 1) c else if w = 6 then hold (cl M) c else if w = 7 then (if hole (cl M) c then 1 else 0) else -2; (repeat' split) <;> omega
      exact K mw_same ⟨_, rfl, iIc hq, ⟨rfl, rfl, rfl, rfl, rfl, rfl, rfl, rfl, rfl, rfl, rfl, rfl, rfl, rfl, rfl, rfl, rfl, rfl⟩, (by rw [← hq]; exact (rfa_r (by omega)).symm)⟩ rfl dX6_cellOf_41
  · skip
    have c9 : 0 ≤ c ∧ c < 12 := b2i_t c9
    refine g_iload_n F 2 dX6_cellOf_12 rfl ?_
    refine g_i2l F (by omega) dX6_cellOf_13 ?_
    refine g_lconst F (z := 0) dX6_cellOf_14 rfl ?_
    refine g_ldc2 F (z := 7) ll_X6_225 (by decide +kernel) dX6_cellOf_15 ?_
    refine g_callSI F (stk := [.long (iL 7), .long (iL 0), .long (iL w)]) (st := []) (k_X6_in κ (mw κ ma (mA M 10 (fun _ => 0))) w 0 7 (by omega)) cal_X6_in lm_X6_97 rfl (by decide) rfl (Nat.le_of_ble_eq_true rfl) dX6_cellOf_18 (fun r18 ws18 _ hr18 => ?_)
    obtain ⟨rfl, rfl⟩ := hr18
    refine g_if_ne F 42 (b2i_in _) dX6_cellOf_21 (by decide) (fun c21 => ?_) (fun c21 => ?_)
    · skip
      have c21 : 0 ≤ w ∧ w ≤ 7 := b2i_t c21
      refine g_iload_n F 2 dX6_cellOf_42 rfl ?_
      have hk : (0 ≤ M 0 c ∧ M 0 c ≤ 5) ∧ (0 ≤ M 1 c ∧ M 1 c ≤ 9) ∧ (0 ≤ M 2 c ∧ M 2 c ≤ 99) ∧ 0 ≤ M 3 c ∧ M 3 c ≤ 99 := ok.r (by omega) (by omega)
      have hy0 : 0 ≤ M 4 0 := ok.2
      have hp := pull_bd ok.A (c := c) (by omega) (by omega)
      have hw := wearing_bd ok.A (y := M 4 0 + 1) (c := c) (by omega) (by omega)
      have hh := hold_bd ok.A (c := c) (by omega) (by omega)
      by_cases c43_0 : w = 0
      · skip
        refine g_tsw_in F 84 (by omega) dX6_cellOf_43 (by omega) (by omega) (by rw [c43_0]; rfl) (by decide) ?_
        refine g_aload_n F 0 dX6_cellOf_84 rfl ?_
        refine gm_get_0 F dX6_cellOf_85 ?_
        refine g_iload_n F 1 dX6_cellOf_88 rfl ?_
        refine gm_ald_0 F (by omega) dX6_cellOf_89 ?_
        refine g_top (y := iI (M 0 c)) rfl ?_
        have hq : M 0 c = qCellOf (cl M) c w := by unfold qCellOf; show _ = if ¬ (0 ≤ c ∧ c < 12) then -1 else if w = 0 then M 0 c else if w = 1 then M 1 c else if w = 2 then M 2 c else if w = 3 then M 3 c else if w = 4 then pull (cl M) c else if w = 5 then wearing (cl M) (M 4 0 + 1) c else if w = 6 then hold (cl M) c else if w = 7 then (if hole (cl M) c then 1 else 0) else -2; (repeat' split) <;> omega
        exact K mw_same ⟨_, rfl, iIc hq, ⟨rfl, rfl, rfl, rfl, rfl, rfl, rfl, rfl, rfl, rfl, rfl, rfl, rfl, rfl, rfl, rfl, rfl, rfl⟩, (by rw [← hq]; exact (rfa_n (by omega)).symm)⟩ rfl dX6_cellOf_90
      by_cases c43_1 : w = 1
      · skip
        refine g_tsw_in F 91 (by omega) dX6_cellOf_43 (by omega) (by omega) (by rw [c43_1]; rfl) (by decide) ?_
        refine g_aload_n F 0 dX6_cellOf_91 rfl ?_
        refine gm_get_1 F dX6_cellOf_92 ?_
        refine g_iload_n F 1 dX6_cellOf_95 rfl ?_
        refine gm_ald_1 F (by omega) dX6_cellOf_96 ?_
        refine g_top (y := iI (M 1 c)) rfl ?_
        have hq : M 1 c = qCellOf (cl M) c w := by unfold qCellOf; show _ = if ¬ (0 ≤ c ∧ c < 12) then -1 else if w = 0 then M 0 c else if w = 1 then M 1 c else if w = 2 then M 2 c else if w = 3 then M 3 c else if w = 4 then pull (cl M) c else if w = 5 then wearing (cl M) (M 4 0 + 1) c else if w = 6 then hold (cl M) c else if w = 7 then (if hole (cl M) c then 1 else 0) else -2; (repeat' split) <;> omega
        exact K mw_same ⟨_, rfl, iIc hq, ⟨rfl, rfl, rfl, rfl, rfl, rfl, rfl, rfl, rfl, rfl, rfl, rfl, rfl, rfl, rfl, rfl, rfl, rfl⟩, (by rw [← hq]; exact (rfa_n (by omega)).symm)⟩ rfl dX6_cellOf_97
      by_cases c43_2 : w = 2
      · skip
        refine g_tsw_in F 98 (by omega) dX6_cellOf_43 (by omega) (by omega) (by rw [c43_2]; rfl) (by decide) ?_
        refine g_aload_n F 0 dX6_cellOf_98 rfl ?_
        refine gm_get_2 F dX6_cellOf_99 ?_
        refine g_iload_n F 1 dX6_cellOf_102 rfl ?_
        refine gm_ald_2 F (by omega) dX6_cellOf_103 ?_
        refine g_top (y := iI (M 2 c)) rfl ?_
        have hq : M 2 c = qCellOf (cl M) c w := by unfold qCellOf; show _ = if ¬ (0 ≤ c ∧ c < 12) then -1 else if w = 0 then M 0 c else if w = 1 then M 1 c else if w = 2 then M 2 c else if w = 3 then M 3 c else if w = 4 then pull (cl M) c else if w = 5 then wearing (cl M) (M 4 0 + 1) c else if w = 6 then hold (cl M) c else if w = 7 then (if hole (cl M) c then 1 else 0) else -2; (repeat' split) <;> omega
        exact K mw_same ⟨_, rfl, iIc hq, ⟨rfl, rfl, rfl, rfl, rfl, rfl, rfl, rfl, rfl, rfl, rfl, rfl, rfl, rfl, rfl, rfl, rfl, rfl⟩, (by rw [← hq]; exact (rfa_n (by omega)).symm)⟩ rfl dX6_cellOf_104
      by_cases c43_3 : w = 3
      · skip
        refine g_tsw_in F 105 (by omega) dX6_cellOf_43 (by omega) (by omega) (by rw [c43_3]; rfl) (by decide) ?_
        refine g_aload_n F 0 dX6_cellOf_105 rfl ?_
        refine gm_get_3 F dX6_cellOf_106 ?_
        refine g_iload_n F 1 dX6_cellOf_109 rfl ?_
        refine gm_ald_3 F (by omega) dX6_cellOf_110 ?_
        refine g_top (y := iI (M 3 c)) rfl ?_
        have hq : M 3 c = qCellOf (cl M) c w := by unfold qCellOf; show _ = if ¬ (0 ≤ c ∧ c < 12) then -1 else if w = 0 then M 0 c else if w = 1 then M 1 c else if w = 2 then M 2 c else if w = 3 then M 3 c else if w = 4 then pull (cl M) c else if w = 5 then wearing (cl M) (M 4 0 + 1) c else if w = 6 then hold (cl M) c else if w = 7 then (if hole (cl M) c then 1 else 0) else -2; (repeat' split) <;> omega
        exact K mw_same ⟨_, rfl, iIc hq, ⟨rfl, rfl, rfl, rfl, rfl, rfl, rfl, rfl, rfl, rfl, rfl, rfl, rfl, rfl, rfl, rfl, rfl, rfl⟩, (by rw [← hq]; exact (rfa_n (by omega)).symm)⟩ rfl dX6_cellOf_111
      by_cases c43_4 : w = 4
      · skip
        refine g_tsw_in F 112 (by omega) dX6_cellOf_43 (by omega) (by omega) (by rw [c43_4]; rfl) (by decide) ?_
        refine g_aload_n F 0 dX6_cellOf_112 rfl ?_
        refine g_iload_n F 1 dX6_cellOf_113 rfl ?_
        refine g_callI F (stk := [.int (iI c), .ref (ma 100)]) (st := []) (k_X6_pullOf κ ma (mA M 10 (fun _ => 0)) c (by omega) ok.A) cal_X6_pullOf lm_X6_114 0 rfl rfl rfl rfl (by decide) rfl (Nat.le_of_ble_eq_true rfl) dX6_cellOf_114 (fun r114 ws114 _ hr114 => ?_)
        obtain ⟨rfl, rfl⟩ := hr114
        refine g_top (y := iI (pull (cl M) c)) rfl ?_
        have hq : pull (cl M) c = qCellOf (cl M) c w := by unfold qCellOf; show _ = if ¬ (0 ≤ c ∧ c < 12) then -1 else if w = 0 then M 0 c else if w = 1 then M 1 c else if w = 2 then M 2 c else if w = 3 then M 3 c else if w = 4 then pull (cl M) c else if w = 5 then wearing (cl M) (M 4 0 + 1) c else if w = 6 then hold (cl M) c else if w = 7 then (if hole (cl M) c then 1 else 0) else -2; (repeat' split) <;> omega
        exact K mw_same ⟨_, rfl, iIc hq, ⟨rfl, rfl, rfl, rfl, rfl, rfl, rfl, rfl, rfl, rfl, rfl, rfl, rfl, rfl, rfl, rfl, rfl, rfl⟩, (by rw [← hq]; exact (rfa_n (by omega)).symm)⟩ rfl dX6_cellOf_117
      by_cases c43_5 : w = 5
      · skip
        refine g_tsw_in F 118 (by omega) dX6_cellOf_43 (by omega) (by omega) (by rw [c43_5]; rfl) (by decide) ?_
        refine g_aload_n F 0 dX6_cellOf_118 rfl ?_
        refine g_iload_n F 1 dX6_cellOf_119 rfl ?_
        refine g_aload_n F 0 dX6_cellOf_120 rfl ?_
        refine gm_get_4 F dX6_cellOf_121 ?_
        refine g_top (y := iI (M 4 0)) rfl ?_
        refine g_iconst F dX6_cellOf_124 ?_
        refine g_iadd F dX6_cellOf_125 ?_
        refine g_callI F (stk := [.int (iI ((M 4 0) + 1)), .int (iI c), .ref (ma 100)]) (st := []) (k_X6_wearsIn κ ma (mA M 10 (fun _ => 0)) c ((M 4 0) + 1) (by omega) (by omega) ok.A) cal_X6_wearsIn lm_X6_128 0 rfl rfl rfl rfl (by decide) rfl (Nat.le_of_ble_eq_true rfl) dX6_cellOf_126 (fun r126 ws126 _ hr126 => ?_)
        obtain ⟨rfl, rfl⟩ := hr126
        refine g_top (y := iI (wearing (cl M) ((M 4 0) + 1) c)) rfl ?_
        have hq : wearing (cl M) ((M 4 0) + 1) c = qCellOf (cl M) c w := by unfold qCellOf; show _ = if ¬ (0 ≤ c ∧ c < 12) then -1 else if w = 0 then M 0 c else if w = 1 then M 1 c else if w = 2 then M 2 c else if w = 3 then M 3 c else if w = 4 then pull (cl M) c else if w = 5 then wearing (cl M) (M 4 0 + 1) c else if w = 6 then hold (cl M) c else if w = 7 then (if hole (cl M) c then 1 else 0) else -2; (repeat' split) <;> omega
        exact K mw_same ⟨_, rfl, iIc hq, ⟨rfl, rfl, rfl, rfl, rfl, rfl, rfl, rfl, rfl, rfl, rfl, rfl, rfl, rfl, rfl, rfl, rfl, rfl⟩, (by rw [← hq]; exact (rfa_n (by omega)).symm)⟩ rfl dX6_cellOf_129
      by_cases c43_6 : w = 6
      · skip
        refine g_tsw_in F 130 (by omega) dX6_cellOf_43 (by omega) (by omega) (by rw [c43_6]; rfl) (by decide) ?_
        refine g_aload_n F 0 dX6_cellOf_130 rfl ?_
        refine g_iload_n F 1 dX6_cellOf_131 rfl ?_
        refine g_callI F (stk := [.int (iI c), .ref (ma 100)]) (st := []) (k_X6_holdsOf κ ma (mA M 10 (fun _ => 0)) c (by omega) ok.A) cal_X6_holdsOf lm_X6_118 0 rfl rfl rfl rfl (by decide) rfl (Nat.le_of_ble_eq_true rfl) dX6_cellOf_132 (fun r132 ws132 _ hr132 => ?_)
        obtain ⟨rfl, rfl⟩ := hr132
        refine g_top (y := iI (hold (cl M) c)) rfl ?_
        have hq : hold (cl M) c = qCellOf (cl M) c w := by unfold qCellOf; show _ = if ¬ (0 ≤ c ∧ c < 12) then -1 else if w = 0 then M 0 c else if w = 1 then M 1 c else if w = 2 then M 2 c else if w = 3 then M 3 c else if w = 4 then pull (cl M) c else if w = 5 then wearing (cl M) (M 4 0 + 1) c else if w = 6 then hold (cl M) c else if w = 7 then (if hole (cl M) c then 1 else 0) else -2; (repeat' split) <;> omega
        exact K mw_same ⟨_, rfl, iIc hq, ⟨rfl, rfl, rfl, rfl, rfl, rfl, rfl, rfl, rfl, rfl, rfl, rfl, rfl, rfl, rfl, rfl, rfl, rfl⟩, (by rw [← hq]; exact (rfa_n (by omega)).symm)⟩ rfl dX6_cellOf_135
      refine g_tsw_out F 136 (by omega) dX6_cellOf_43 (by omega) (by decide) ?_
      refine g_aload_n F 0 dX6_cellOf_136 rfl ?_
      refine g_iload_n F 1 dX6_cellOf_137 rfl ?_
      refine g_callI F (stk := [.int (iI c), .ref (ma 100)]) (st := []) (k_X6_isHole κ ma (mA M 10 (fun _ => 0)) c (by omega) ok) cal_X6_isHole lm_X6_121 0 rfl rfl rfl rfl (by decide) rfl (Nat.le_of_ble_eq_true rfl) dX6_cellOf_138 (fun r138 ws138 _ hr138 => ?_)
      obtain ⟨rfl, rfl⟩ := hr138
      refine g_top (y := iI (b2i (hole (cl M) c))) rfl ?_
      refine g_if_eq F 148 (b2i_in _) dX6_cellOf_141 (by decide) (fun c141 => ?_) (fun c141 => ?_)
      · skip
        have c141 : ¬ (hole (cl M) c) := b2i_f c141
        refine g_iconst F dX6_cellOf_148 ?_
        have hq : 0 = qCellOf (cl M) c w := by unfold qCellOf; show _ = if ¬ (0 ≤ c ∧ c < 12) then -1 else if w = 0 then M 0 c else if w = 1 then M 1 c else if w = 2 then M 2 c else if w = 3 then M 3 c else if w = 4 then pull (cl M) c else if w = 5 then wearing (cl M) (M 4 0 + 1) c else if w = 6 then hold (cl M) c else if w = 7 then (if hole (cl M) c then 1 else 0) else -2; (repeat' split) <;> omega
        exact K mw_same ⟨_, rfl, iIc hq, ⟨rfl, rfl, rfl, rfl, rfl, rfl, rfl, rfl, rfl, rfl, rfl, rfl, rfl, rfl, rfl, rfl, rfl, rfl⟩, (by rw [← hq]; exact (rfa_n (by omega)).symm)⟩ rfl dX6_cellOf_149
      · skip
        have c141 : hole (cl M) c := b2i_t c141
        refine g_iconst F dX6_cellOf_144 ?_
        refine g_goto F 149 dX6_cellOf_145 (by decide) ?_
        have hq : 1 = qCellOf (cl M) c w := by unfold qCellOf; show _ = if ¬ (0 ≤ c ∧ c < 12) then -1 else if w = 0 then M 0 c else if w = 1 then M 1 c else if w = 2 then M 2 c else if w = 3 then M 3 c else if w = 4 then pull (cl M) c else if w = 5 then wearing (cl M) (M 4 0 + 1) c else if w = 6 then hold (cl M) c else if w = 7 then (if hole (cl M) c then 1 else 0) else -2; (repeat' split) <;> omega
        exact K mw_same ⟨_, rfl, iIc hq, ⟨rfl, rfl, rfl, rfl, rfl, rfl, rfl, rfl, rfl, rfl, rfl, rfl, rfl, rfl, rfl, rfl, rfl, rfl⟩, (by rw [← hq]; exact (rfa_n (by omega)).symm)⟩ rfl dX6_cellOf_149
    · skip
      have c21 : ¬ (0 ≤ w ∧ w ≤ 7) := b2i_f c21
      refine g_aload_n F 0 dX6_cellOf_24 rfl ?_
      refine g_iload_n F 1 dX6_cellOf_25 rfl ?_
      refine g_callSI F (stk := [.int (iI c), .ref (ma 100)]) (st := [.ref (ma 100)]) (k_X6_isCell κ (mw κ ma (mA M 10 (fun _ => 0))) c (by omega)) cal_X6_isCell lm_X6_222 rfl (by decide) rfl (Nat.le_of_ble_eq_true rfl) dX6_cellOf_26 (fun r26 ws26 _ hr26 => ?_)
      obtain ⟨rfl, rfl⟩ := hr26
      refine g_if_eq F 37 (b2i_in _) dX6_cellOf_29 (by decide) (fun c29 => ?_) (fun c29 => ?_)
      · skip
        have c29 : ¬ (0 ≤ c ∧ c < 12) := b2i_f c29
        refine g_iconst F dX6_cellOf_37 ?_
        refine g_callI F (stk := [.int (iI (-1)), .ref (ma 100)]) (st := []) (k_X6_refuse κ ma (mA M 10 (fun _ => 0)) (-1) (by omega)) cal_X6_refuse lm_X6_138 0 rfl rfl rfl rfl (by decide) rfl (Nat.le_of_ble_eq_true rfl) dX6_cellOf_38 (fun r38 ws38 _ hr38 => ?_)
        obtain ⟨rfl, rfl⟩ := hr38
        refine g_top (y := iI (-1)) rfl ?_
        refine g_ws (ws' := mw κ ma (mA (mA M 10 (fun _ => 0)) 11 (uI (M 11) (-(-1)) (M 11 (-(-1)) + 1)))) rfl ?_
        have hq : (-1) = qCellOf (cl M) c w := by unfold qCellOf; show _ = if ¬ (0 ≤ c ∧ c < 12) then -1 else if w = 0 then M 0 c else if w = 1 then M 1 c else if w = 2 then M 2 c else if w = 3 then M 3 c else if w = 4 then pull (cl M) c else if w = 5 then wearing (cl M) (M 4 0 + 1) c else if w = 6 then hold (cl M) c else if w = 7 then (if hole (cl M) c then 1 else 0) else -2; (repeat' split) <;> omega
        exact K mw_same ⟨_, rfl, iIc hq, ⟨rfl, rfl, rfl, rfl, rfl, rfl, rfl, rfl, rfl, rfl, rfl, rfl, rfl, rfl, rfl, rfl, rfl, rfl⟩, (by rw [← hq]; exact (rfa_r (by omega)).symm)⟩ rfl dX6_cellOf_41
      · skip
        have c29 : 0 ≤ c ∧ c < 12 := b2i_t c29
        refine g_bipush F dX6_cellOf_32 (by decide +kernel) ?_
        refine g_goto F 38 dX6_cellOf_34 (by decide) ?_
        refine g_callI F (stk := [.int (iI (-2)), .ref (ma 100)]) (st := []) (k_X6_refuse κ ma (mA M 10 (fun _ => 0)) (-2) (by omega)) cal_X6_refuse lm_X6_138 0 rfl rfl rfl rfl (by decide) rfl (Nat.le_of_ble_eq_true rfl) dX6_cellOf_38 (fun r38 ws38 _ hr38 => ?_)
        obtain ⟨rfl, rfl⟩ := hr38
        refine g_top (y := iI (-2)) rfl ?_
        refine g_ws (ws' := mw κ ma (mA (mA M 10 (fun _ => 0)) 11 (uI (M 11) (-(-2)) (M 11 (-(-2)) + 1)))) rfl ?_
        have hq : (-2) = qCellOf (cl M) c w := by unfold qCellOf; show _ = if ¬ (0 ≤ c ∧ c < 12) then -1 else if w = 0 then M 0 c else if w = 1 then M 1 c else if w = 2 then M 2 c else if w = 3 then M 3 c else if w = 4 then pull (cl M) c else if w = 5 then wearing (cl M) (M 4 0 + 1) c else if w = 6 then hold (cl M) c else if w = 7 then (if hole (cl M) c then 1 else 0) else -2; (repeat' split) <;> omega
        exact K mw_same ⟨_, rfl, iIc hq, ⟨rfl, rfl, rfl, rfl, rfl, rfl, rfl, rfl, rfl, rfl, rfl, rfl, rfl, rfl, rfl, rfl, rfl, rfl⟩, (by rw [← hq]; exact (rfa_r (by omega)).symm)⟩ rfl dX6_cellOf_41
theorem dX6_behind_0 : decode cX6_behind 0 = .ok (.aload_n 0, 1) := by decide +kernel
theorem dX6_behind_1 : decode cX6_behind 1 = .ok (.iconst 0, 1) := by decide +kernel
theorem dX6_behind_2 : decode cX6_behind 2 = .ok (.putfield 91, 3) := by decide +kernel
theorem dX6_behind_5 : decode cX6_behind 5 = .ok (.iload_n 1, 1) := by decide +kernel
theorem dX6_behind_6 : decode cX6_behind 6 = .ok (.invokestatic 222, 3) := by decide +kernel
theorem dX6_behind_9 : decode cX6_behind 9 = .ok (.ifCond .eq 13, 3) := by decide +kernel
theorem dX6_behind_12 : decode cX6_behind 12 = .ok (.iload_n 2, 1) := by decide +kernel
theorem dX6_behind_13 : decode cX6_behind 13 = .ok (.iconst 0, 1) := by decide +kernel
theorem dX6_behind_14 : decode cX6_behind 14 = .ok (.bipush 60, 2) := by decide +kernel
theorem dX6_behind_16 : decode cX6_behind 16 = .ok (.invokestatic 237, 3) := by decide +kernel
theorem dX6_behind_19 : decode cX6_behind 19 = .ok (.goto 4, 3) := by decide +kernel
theorem dX6_behind_22 : decode cX6_behind 22 = .ok (.iconst (-1), 1) := by decide +kernel
theorem dX6_behind_23 : decode cX6_behind 23 = .ok (.iload_n 3, 1) := by decide +kernel
theorem dX6_behind_24 : decode cX6_behind 24 = .ok (.iconst 2, 1) := by decide +kernel
theorem dX6_behind_25 : decode cX6_behind 25 = .ok (.invokestatic 247, 3) := by decide +kernel
theorem dX6_behind_28 : decode cX6_behind 28 = .ok (.istore 4, 2) := by decide +kernel
theorem dX6_behind_30 : decode cX6_behind 30 = .ok (.iload 4, 2) := by decide +kernel
theorem dX6_behind_32 : decode cX6_behind 32 = .ok (.ifCond .ge 10, 3) := by decide +kernel
theorem dX6_behind_35 : decode cX6_behind 35 = .ok (.aload_n 0, 1) := by decide +kernel
theorem dX6_behind_36 : decode cX6_behind 36 = .ok (.iload 4, 2) := by decide +kernel
theorem dX6_behind_38 : decode cX6_behind 38 = .ok (.invokevirtual 138, 3) := by decide +kernel
theorem dX6_behind_41 : decode cX6_behind 41 = .ok (.ireturn, 1) := by decide +kernel
theorem dX6_behind_42 : decode cX6_behind 42 = .ok (.aload_n 0, 1) := by decide +kernel
theorem dX6_behind_43 : decode cX6_behind 43 = .ok (.invokevirtual 191, 3) := by decide +kernel
theorem dX6_behind_46 : decode cX6_behind 46 = .ok (.aload_n 0, 1) := by decide +kernel
theorem dX6_behind_47 : decode cX6_behind 47 = .ok (.iload_n 2, 1) := by decide +kernel
theorem dX6_behind_48 : decode cX6_behind 48 = .ok (.invokevirtual 184, 3) := by decide +kernel
theorem dX6_behind_51 : decode cX6_behind 51 = .ok (.iload_n 3, 1) := by decide +kernel
theorem dX6_behind_52 : decode cX6_behind 52 = .ok (.ifCond .ne 12, 3) := by decide +kernel
theorem dX6_behind_55 : decode cX6_behind 55 = .ok (.aload_n 0, 1) := by decide +kernel
theorem dX6_behind_56 : decode cX6_behind 56 = .ok (.getfield 19, 3) := by decide +kernel
theorem dX6_behind_59 : decode cX6_behind 59 = .ok (.iload_n 1, 1) := by decide +kernel
theorem dX6_behind_60 : decode cX6_behind 60 = .ok (.iaload, 1) := by decide +kernel
theorem dX6_behind_61 : decode cX6_behind 61 = .ok (.goto 29, 3) := by decide +kernel
theorem dX6_behind_64 : decode cX6_behind 64 = .ok (.iload_n 3, 1) := by decide +kernel
theorem dX6_behind_65 : decode cX6_behind 65 = .ok (.iconst 1, 1) := by decide +kernel
theorem dX6_behind_66 : decode cX6_behind 66 = .ok (.if_icmp .ne 11, 3) := by decide +kernel
theorem dX6_behind_69 : decode cX6_behind 69 = .ok (.aload_n 0, 1) := by decide +kernel
theorem dX6_behind_70 : decode cX6_behind 70 = .ok (.iload_n 1, 1) := by decide +kernel
theorem dX6_behind_71 : decode cX6_behind 71 = .ok (.invokevirtual 114, 3) := by decide +kernel
theorem dX6_behind_74 : decode cX6_behind 74 = .ok (.goto 16, 3) := by decide +kernel
theorem dX6_behind_77 : decode cX6_behind 77 = .ok (.aload_n 0, 1) := by decide +kernel
theorem dX6_behind_78 : decode cX6_behind 78 = .ok (.iload_n 1, 1) := by decide +kernel
theorem dX6_behind_79 : decode cX6_behind 79 = .ok (.invokevirtual 121, 3) := by decide +kernel
theorem dX6_behind_82 : decode cX6_behind 82 = .ok (.ifCond .eq 7, 3) := by decide +kernel
theorem dX6_behind_85 : decode cX6_behind 85 = .ok (.iconst 1, 1) := by decide +kernel
theorem dX6_behind_86 : decode cX6_behind 86 = .ok (.goto 4, 3) := by decide +kernel
theorem dX6_behind_89 : decode cX6_behind 89 = .ok (.iconst 0, 1) := by decide +kernel
theorem dX6_behind_90 : decode cX6_behind 90 = .ok (.istore 5, 2) := by decide +kernel
theorem dX6_behind_92 : decode cX6_behind 92 = .ok (.aload_n 0, 1) := by decide +kernel
theorem dX6_behind_93 : decode cX6_behind 93 = .ok (.invokevirtual 197, 3) := by decide +kernel
theorem dX6_behind_96 : decode cX6_behind 96 = .ok (.iload 5, 2) := by decide +kernel
theorem dX6_behind_98 : decode cX6_behind 98 = .ok (.ireturn, 1) := by decide +kernel
set_option maxRecDepth 100000 in
set_option maxHeartbeats 4000000 in
theorem k_X6_behind (κ : Kp) (ma : Nat → Nat) (M : MS) (c : Int) (n : Int) (w : Int)  (ha_c : In32 c) (ha_n : In32 n) (ha_w : In32 w) (ok : okC (cl M)) (hy : M 4 0 ≤ 999) : mI κ yX6_behind cX6_behind 6 .int 5 [.ref (ma 100), .int (iI c), .int (iI n), .int (iI w)] (mw κ ma M) (qM κ ma M (qBehind (cl M) c n w)) := by
  refine mI_of (by decide) (Nat.le_of_ble_eq_true rfl) (fun E F K => ?_)
  refine g_lv (lv' := [(0, .ref (ma 100)), (1, .int (iI c)), (2, .int (iI n)), (3, .int (iI w))]) rfl ?_
  refine g_aload_n F 0 dX6_behind_0 rfl ?_
  refine g_iconst F dX6_behind_1 ?_
  refine gm_put_10 F dX6_behind_2 ?_
  refine g_iload_n F 1 dX6_behind_5 rfl ?_
  refine g_callSI F (stk := [.int (iI c)]) (st := []) (k_X6_isCell κ (mw κ ma (mA M 10 (fun _ => 0))) c (by omega)) cal_X6_isCell lm_X6_222 rfl (by decide) rfl (Nat.le_of_ble_eq_true rfl) dX6_behind_6 (fun r6 ws6 _ hr6 => ?_)
  obtain ⟨rfl, rfl⟩ := hr6
  refine g_if_eq F 22 (b2i_in _) dX6_behind_9 (by decide) (fun c9 => ?_) (fun c9 => ?_)
  · skip
    have c9 : ¬ (0 ≤ c ∧ c < 12) := b2i_f c9
    refine g_iconst F dX6_behind_22 ?_
    refine g_iload_n F 3 dX6_behind_23 rfl ?_
    refine g_iconst F dX6_behind_24 ?_
    refine g_callSI F (stk := [.int (iI 2), .int (iI w), .int (iI (-1))]) (st := []) (k_X6_wrongBit κ (mw κ ma (mA M 10 (fun _ => 0))) (-1) w 2 (by omega)) cal_X6_wrongBit lm_X6_247 rfl (by decide) rfl (Nat.le_of_ble_eq_true rfl) dX6_behind_25 (fun r25 ws25 _ hr25 => ?_)
    obtain ⟨rfl, rfl⟩ := hr25
    have hwb25 := wb_spec (-1) w 2
    refine g_istore F (lv' := [(4, .int (iI (wbit (-1) w 2))), (0, .ref (ma 100)), (1, .int (iI c)), (2, .int (iI n)), (3, .int (iI w))]) dX6_behind_28 (by decide) rfl ?_
    refine g_iload F 0 dX6_behind_30 rfl ?_
    refine g_if_ge F 42 (by omega) dX6_behind_32 (by decide) (fun c32 => ?_) (fun c32 => ?_)
    · skip
      refine g_aload_n F 1 dX6_behind_42 rfl ?_
      refine g_callV F (stk := [.ref (ma 100)]) (st := []) (k_X6_think κ ma (mA M 10 (fun _ => 0))) cal_X6_think lm_X6_191 0 rfl rfl rfl rfl (by decide) rfl (Nat.le_of_ble_eq_true rfl) dX6_behind_43 (fun ws43 _ hr43 => ?_)
      obtain rfl := hr43
      refine g_ws (ws' := mw κ ma (thk (mA M 10 (fun _ => 0)))) rfl ?_
      refine g_aload_n F 1 dX6_behind_46 rfl ?_
      refine g_iload_n F 3 dX6_behind_47 rfl ?_
      refine g_callV F (stk := [.int (iI n), .ref (ma 100)]) (st := []) (k_X6_goYears κ ma (thk (mA M 10 (fun _ => 0))) n (show (0 ≤ n ∧ n ≤ 1000) ∧ (M 4 0) + n ≤ 1000000 from by omega) ok) cal_X6_goYears lm_X6_184 0 rfl rfl rfl rfl (by decide) rfl (Nat.le_of_ble_eq_true rfl) dX6_behind_48 (fun ws48 _ hr48 => ?_)
      obtain rfl := hr48
      refine g_ws (ws' := mw κ ma (stC (thk (mA M 10 (fun _ => 0))) (goI n (cl M)))) rfl ?_
      refine g_iload_n F 4 dX6_behind_51 rfl ?_
      refine g_if_ne F 64 (by omega) dX6_behind_52 (by decide) (fun c52 => ?_) (fun c52 => ?_)
      · skip
        refine g_iload_n F 4 dX6_behind_64 rfl ?_
        refine g_iconst F dX6_behind_65 ?_
        refine g_icmp_ne F 77 (by omega) dX6_behind_66 (by decide) (fun c66 => ?_) (fun c66 => ?_)
        · skip
          refine g_aload_n F 1 dX6_behind_77 rfl ?_
          refine g_iload_n F 2 dX6_behind_78 rfl ?_
          refine g_callI F (stk := [.int (iI c), .ref (ma 100)]) (st := []) (k_X6_isHole κ ma (stC (thk (mA M 10 (fun _ => 0))) (goI n (cl M))) c (by omega) (goI_ok ok n)) cal_X6_isHole lm_X6_121 0 rfl rfl rfl rfl (by decide) rfl (Nat.le_of_ble_eq_true rfl) dX6_behind_79 (fun r79 ws79 _ hr79 => ?_)
          obtain ⟨rfl, rfl⟩ := hr79
          refine g_top (y := iI (b2i (hole (goI n (cl M)) c))) rfl ?_
          refine g_if_eq F 89 (b2i_in _) dX6_behind_82 (by decide) (fun c82 => ?_) (fun c82 => ?_)
          · skip
            have c82 : ¬ (hole (goI n (cl M)) c) := b2i_f c82
            refine g_iconst F dX6_behind_89 ?_
            refine g_istore F (lv' := [(5, .int (iI 0)), (4, .int (iI (wbit (-1) w 2))), (0, .ref (ma 100)), (1, .int (iI c)), (2, .int (iI n)), (3, .int (iI w))]) dX6_behind_90 (by decide) rfl ?_
            refine g_aload_n F 2 dX6_behind_92 rfl ?_
            refine g_callV F (stk := [.ref (ma 100)]) (st := []) (k_X6_again κ ma (stC (thk (mA M 10 (fun _ => 0))) (goI n (cl M))) (mA M 10 (fun _ => 0)) (fun _ _ _ => rfl)) cal_X6_again lm_X6_197 0 rfl rfl rfl rfl (by decide) rfl (Nat.le_of_ble_eq_true rfl) dX6_behind_93 (fun ws93 _ hr93 => ?_)
            obtain rfl := hr93
            refine g_iload F 0 dX6_behind_96 rfl ?_
            have hp := pull_bd (goI_ok ok n).A (c := c) (by omega) (by omega)
            have hww := (goI_ok ok n).w c (by omega) (by omega)
            have hq : 0 = qBehind (cl M) c n w := by unfold qBehind; (repeat' split) <;> omega
            exact K mw_same ⟨_, rfl, iIc hq, ⟨rfl, rfl, rfl, rfl, rfl, rfl, rfl, rfl, rfl, rfl, rfl, rfl, rfl, rfl, rfl, rfl, rfl, rfl⟩, (by rw [← hq]; exact (rfa_n (by omega)).symm)⟩ rfl dX6_behind_98
          · skip
            have c82 : hole (goI n (cl M)) c := b2i_t c82
            refine g_iconst F dX6_behind_85 ?_
            refine g_goto F 90 dX6_behind_86 (by decide) ?_
            refine g_istore F (lv' := [(5, .int (iI 1)), (4, .int (iI (wbit (-1) w 2))), (0, .ref (ma 100)), (1, .int (iI c)), (2, .int (iI n)), (3, .int (iI w))]) dX6_behind_90 (by decide) rfl ?_
            refine g_aload_n F 2 dX6_behind_92 rfl ?_
            refine g_callV F (stk := [.ref (ma 100)]) (st := []) (k_X6_again κ ma (stC (thk (mA M 10 (fun _ => 0))) (goI n (cl M))) (mA M 10 (fun _ => 0)) (fun _ _ _ => rfl)) cal_X6_again lm_X6_197 0 rfl rfl rfl rfl (by decide) rfl (Nat.le_of_ble_eq_true rfl) dX6_behind_93 (fun ws93 _ hr93 => ?_)
            obtain rfl := hr93
            refine g_iload F 0 dX6_behind_96 rfl ?_
            have hp := pull_bd (goI_ok ok n).A (c := c) (by omega) (by omega)
            have hww := (goI_ok ok n).w c (by omega) (by omega)
            have hq : 1 = qBehind (cl M) c n w := by unfold qBehind; (repeat' split) <;> omega
            exact K mw_same ⟨_, rfl, iIc hq, ⟨rfl, rfl, rfl, rfl, rfl, rfl, rfl, rfl, rfl, rfl, rfl, rfl, rfl, rfl, rfl, rfl, rfl, rfl⟩, (by rw [← hq]; exact (rfa_n (by omega)).symm)⟩ rfl dX6_behind_98
        · skip
          refine g_aload_n F 1 dX6_behind_69 rfl ?_
          refine g_iload_n F 2 dX6_behind_70 rfl ?_
          refine g_callI F (stk := [.int (iI c), .ref (ma 100)]) (st := []) (k_X6_pullOf κ ma (stC (thk (mA M 10 (fun _ => 0))) (goI n (cl M))) c (by omega) (goI_ok ok n).A) cal_X6_pullOf lm_X6_114 0 rfl rfl rfl rfl (by decide) rfl (Nat.le_of_ble_eq_true rfl) dX6_behind_71 (fun r71 ws71 _ hr71 => ?_)
          obtain ⟨rfl, rfl⟩ := hr71
          refine g_top (y := iI (pull (goI n (cl M)) c)) rfl ?_
          refine g_goto F 90 dX6_behind_74 (by decide) ?_
          refine g_istore F (lv' := [(5, .int (iI (pull (goI n (cl M)) c))), (4, .int (iI (wbit (-1) w 2))), (0, .ref (ma 100)), (1, .int (iI c)), (2, .int (iI n)), (3, .int (iI w))]) dX6_behind_90 (by decide) rfl ?_
          refine g_aload_n F 2 dX6_behind_92 rfl ?_
          refine g_callV F (stk := [.ref (ma 100)]) (st := []) (k_X6_again κ ma (stC (thk (mA M 10 (fun _ => 0))) (goI n (cl M))) (mA M 10 (fun _ => 0)) (fun _ _ _ => rfl)) cal_X6_again lm_X6_197 0 rfl rfl rfl rfl (by decide) rfl (Nat.le_of_ble_eq_true rfl) dX6_behind_93 (fun ws93 _ hr93 => ?_)
          obtain rfl := hr93
          refine g_iload F 0 dX6_behind_96 rfl ?_
          have hp := pull_bd (goI_ok ok n).A (c := c) (by omega) (by omega)
          have hww := (goI_ok ok n).w c (by omega) (by omega)
          have hq : pull (goI n (cl M)) c = qBehind (cl M) c n w := by unfold qBehind; (repeat' split) <;> omega
          exact K mw_same ⟨_, rfl, iIc hq, ⟨rfl, rfl, rfl, rfl, rfl, rfl, rfl, rfl, rfl, rfl, rfl, rfl, rfl, rfl, rfl, rfl, rfl, rfl⟩, (by rw [← hq]; exact (rfa_n (by omega)).symm)⟩ rfl dX6_behind_98
      · skip
        refine g_aload_n F 1 dX6_behind_55 rfl ?_
        refine gm_get_3 F dX6_behind_56 ?_
        refine g_iload_n F 2 dX6_behind_59 rfl ?_
        refine gm_ald_3 F (by omega) dX6_behind_60 ?_
        refine g_top (y := iI ((we (goI n (cl M))) c)) rfl ?_
        refine g_goto F 90 dX6_behind_61 (by decide) ?_
        refine g_istore F (lv' := [(5, .int (iI ((we (goI n (cl M))) c))), (4, .int (iI (wbit (-1) w 2))), (0, .ref (ma 100)), (1, .int (iI c)), (2, .int (iI n)), (3, .int (iI w))]) dX6_behind_90 (by decide) rfl ?_
        refine g_aload_n F 2 dX6_behind_92 rfl ?_
        refine g_callV F (stk := [.ref (ma 100)]) (st := []) (k_X6_again κ ma (stC (thk (mA M 10 (fun _ => 0))) (goI n (cl M))) (mA M 10 (fun _ => 0)) (fun _ _ _ => rfl)) cal_X6_again lm_X6_197 0 rfl rfl rfl rfl (by decide) rfl (Nat.le_of_ble_eq_true rfl) dX6_behind_93 (fun ws93 _ hr93 => ?_)
        obtain rfl := hr93
        refine g_iload F 0 dX6_behind_96 rfl ?_
        have hp := pull_bd (goI_ok ok n).A (c := c) (by omega) (by omega)
        have hww := (goI_ok ok n).w c (by omega) (by omega)
        have hq : (we (goI n (cl M))) c = qBehind (cl M) c n w := by unfold qBehind; (repeat' split) <;> omega
        exact K mw_same ⟨_, rfl, iIc hq, ⟨rfl, rfl, rfl, rfl, rfl, rfl, rfl, rfl, rfl, rfl, rfl, rfl, rfl, rfl, rfl, rfl, rfl, rfl⟩, (by rw [← hq]; exact (rfa_n (by omega)).symm)⟩ rfl dX6_behind_98
    · skip
      refine g_aload_n F 1 dX6_behind_35 rfl ?_
      refine g_iload F 0 dX6_behind_36 rfl ?_
      refine g_callI F (stk := [.int (iI (wbit (-1) w 2)), .ref (ma 100)]) (st := []) (k_X6_refuse κ ma (mA M 10 (fun _ => 0)) (wbit (-1) w 2) (by omega)) cal_X6_refuse lm_X6_138 0 rfl rfl rfl rfl (by decide) rfl (Nat.le_of_ble_eq_true rfl) dX6_behind_38 (fun r38 ws38 _ hr38 => ?_)
      obtain ⟨rfl, rfl⟩ := hr38
      refine g_top (y := iI (wbit (-1) w 2)) rfl ?_
      refine g_ws (ws' := mw κ ma (mA (mA M 10 (fun _ => 0)) 11 (uI (M 11) (-(wbit (-1) w 2)) (M 11 (-(wbit (-1) w 2)) + 1)))) rfl ?_
      have hq : (wbit (-1) w 2) = qBehind (cl M) c n w := by unfold qBehind; (repeat' split) <;> omega
      exact K mw_same ⟨_, rfl, iIc hq, ⟨rfl, rfl, rfl, rfl, rfl, rfl, rfl, rfl, rfl, rfl, rfl, rfl, rfl, rfl, rfl, rfl, rfl, rfl⟩, (by rw [← hq]; exact (rfa_r (by omega)).symm)⟩ rfl dX6_behind_41
  · skip
    have c9 : 0 ≤ c ∧ c < 12 := b2i_t c9
    refine g_iload_n F 2 dX6_behind_12 rfl ?_
    refine g_iconst F dX6_behind_13 ?_
    refine g_bipush F dX6_behind_14 (by decide +kernel) ?_
    refine g_callSI F (stk := [.int (iI 60), .int (iI 0), .int (iI n)]) (st := []) (k_X6_wrongNumber κ (mw κ ma (mA M 10 (fun _ => 0))) n 0 60 (by omega)) cal_X6_wrongNumber lm_X6_237 rfl (by decide) rfl (Nat.le_of_ble_eq_true rfl) dX6_behind_16 (fun r16 ws16 _ hr16 => ?_)
    obtain ⟨rfl, rfl⟩ := hr16
    have hwn16 := wn_spec n 0 60
    refine g_goto F 23 dX6_behind_19 (by decide) ?_
    refine g_iload_n F 3 dX6_behind_23 rfl ?_
    refine g_iconst F dX6_behind_24 ?_
    refine g_callSI F (stk := [.int (iI 2), .int (iI w), .int (iI (wnum n 0 60))]) (st := []) (k_X6_wrongBit κ (mw κ ma (mA M 10 (fun _ => 0))) (wnum n 0 60) w 2 (by omega)) cal_X6_wrongBit lm_X6_247 rfl (by decide) rfl (Nat.le_of_ble_eq_true rfl) dX6_behind_25 (fun r25 ws25 _ hr25 => ?_)
    obtain ⟨rfl, rfl⟩ := hr25
    have hwb25 := wb_spec (wnum n 0 60) w 2
    refine g_istore F (lv' := [(4, .int (iI (wbit (wnum n 0 60) w 2))), (0, .ref (ma 100)), (1, .int (iI c)), (2, .int (iI n)), (3, .int (iI w))]) dX6_behind_28 (by decide) rfl ?_
    refine g_iload F 0 dX6_behind_30 rfl ?_
    refine g_if_ge F 42 (by omega) dX6_behind_32 (by decide) (fun c32 => ?_) (fun c32 => ?_)
    · skip
      refine g_aload_n F 1 dX6_behind_42 rfl ?_
      refine g_callV F (stk := [.ref (ma 100)]) (st := []) (k_X6_think κ ma (mA M 10 (fun _ => 0))) cal_X6_think lm_X6_191 0 rfl rfl rfl rfl (by decide) rfl (Nat.le_of_ble_eq_true rfl) dX6_behind_43 (fun ws43 _ hr43 => ?_)
      obtain rfl := hr43
      refine g_ws (ws' := mw κ ma (thk (mA M 10 (fun _ => 0)))) rfl ?_
      refine g_aload_n F 1 dX6_behind_46 rfl ?_
      refine g_iload_n F 3 dX6_behind_47 rfl ?_
      refine g_callV F (stk := [.int (iI n), .ref (ma 100)]) (st := []) (k_X6_goYears κ ma (thk (mA M 10 (fun _ => 0))) n (show (0 ≤ n ∧ n ≤ 1000) ∧ (M 4 0) + n ≤ 1000000 from by omega) ok) cal_X6_goYears lm_X6_184 0 rfl rfl rfl rfl (by decide) rfl (Nat.le_of_ble_eq_true rfl) dX6_behind_48 (fun ws48 _ hr48 => ?_)
      obtain rfl := hr48
      refine g_ws (ws' := mw κ ma (stC (thk (mA M 10 (fun _ => 0))) (goI n (cl M)))) rfl ?_
      refine g_iload_n F 4 dX6_behind_51 rfl ?_
      refine g_if_ne F 64 (by omega) dX6_behind_52 (by decide) (fun c52 => ?_) (fun c52 => ?_)
      · skip
        refine g_iload_n F 4 dX6_behind_64 rfl ?_
        refine g_iconst F dX6_behind_65 ?_
        refine g_icmp_ne F 77 (by omega) dX6_behind_66 (by decide) (fun c66 => ?_) (fun c66 => ?_)
        · skip
          refine g_aload_n F 1 dX6_behind_77 rfl ?_
          refine g_iload_n F 2 dX6_behind_78 rfl ?_
          refine g_callI F (stk := [.int (iI c), .ref (ma 100)]) (st := []) (k_X6_isHole κ ma (stC (thk (mA M 10 (fun _ => 0))) (goI n (cl M))) c (by omega) (goI_ok ok n)) cal_X6_isHole lm_X6_121 0 rfl rfl rfl rfl (by decide) rfl (Nat.le_of_ble_eq_true rfl) dX6_behind_79 (fun r79 ws79 _ hr79 => ?_)
          obtain ⟨rfl, rfl⟩ := hr79
          refine g_top (y := iI (b2i (hole (goI n (cl M)) c))) rfl ?_
          refine g_if_eq F 89 (b2i_in _) dX6_behind_82 (by decide) (fun c82 => ?_) (fun c82 => ?_)
          · skip
            have c82 : ¬ (hole (goI n (cl M)) c) := b2i_f c82
            refine g_iconst F dX6_behind_89 ?_
            refine g_istore F (lv' := [(5, .int (iI 0)), (4, .int (iI (wbit (wnum n 0 60) w 2))), (0, .ref (ma 100)), (1, .int (iI c)), (2, .int (iI n)), (3, .int (iI w))]) dX6_behind_90 (by decide) rfl ?_
            refine g_aload_n F 2 dX6_behind_92 rfl ?_
            refine g_callV F (stk := [.ref (ma 100)]) (st := []) (k_X6_again κ ma (stC (thk (mA M 10 (fun _ => 0))) (goI n (cl M))) (mA M 10 (fun _ => 0)) (fun _ _ _ => rfl)) cal_X6_again lm_X6_197 0 rfl rfl rfl rfl (by decide) rfl (Nat.le_of_ble_eq_true rfl) dX6_behind_93 (fun ws93 _ hr93 => ?_)
            obtain rfl := hr93
            refine g_iload F 0 dX6_behind_96 rfl ?_
            have hp := pull_bd (goI_ok ok n).A (c := c) (by omega) (by omega)
            have hww := (goI_ok ok n).w c (by omega) (by omega)
            have hq : 0 = qBehind (cl M) c n w := by unfold qBehind; (repeat' split) <;> omega
            exact K mw_same ⟨_, rfl, iIc hq, ⟨rfl, rfl, rfl, rfl, rfl, rfl, rfl, rfl, rfl, rfl, rfl, rfl, rfl, rfl, rfl, rfl, rfl, rfl⟩, (by rw [← hq]; exact (rfa_n (by omega)).symm)⟩ rfl dX6_behind_98
          · skip
            have c82 : hole (goI n (cl M)) c := b2i_t c82
            refine g_iconst F dX6_behind_85 ?_
            refine g_goto F 90 dX6_behind_86 (by decide) ?_
            refine g_istore F (lv' := [(5, .int (iI 1)), (4, .int (iI (wbit (wnum n 0 60) w 2))), (0, .ref (ma 100)), (1, .int (iI c)), (2, .int (iI n)), (3, .int (iI w))]) dX6_behind_90 (by decide) rfl ?_
            refine g_aload_n F 2 dX6_behind_92 rfl ?_
            refine g_callV F (stk := [.ref (ma 100)]) (st := []) (k_X6_again κ ma (stC (thk (mA M 10 (fun _ => 0))) (goI n (cl M))) (mA M 10 (fun _ => 0)) (fun _ _ _ => rfl)) cal_X6_again lm_X6_197 0 rfl rfl rfl rfl (by decide) rfl (Nat.le_of_ble_eq_true rfl) dX6_behind_93 (fun ws93 _ hr93 => ?_)
            obtain rfl := hr93
            refine g_iload F 0 dX6_behind_96 rfl ?_
            have hp := pull_bd (goI_ok ok n).A (c := c) (by omega) (by omega)
            have hww := (goI_ok ok n).w c (by omega) (by omega)
            have hq : 1 = qBehind (cl M) c n w := by unfold qBehind; (repeat' split) <;> omega
            exact K mw_same ⟨_, rfl, iIc hq, ⟨rfl, rfl, rfl, rfl, rfl, rfl, rfl, rfl, rfl, rfl, rfl, rfl, rfl, rfl, rfl, rfl, rfl, rfl⟩, (by rw [← hq]; exact (rfa_n (by omega)).symm)⟩ rfl dX6_behind_98
        · skip
          refine g_aload_n F 1 dX6_behind_69 rfl ?_
          refine g_iload_n F 2 dX6_behind_70 rfl ?_
          refine g_callI F (stk := [.int (iI c), .ref (ma 100)]) (st := []) (k_X6_pullOf κ ma (stC (thk (mA M 10 (fun _ => 0))) (goI n (cl M))) c (by omega) (goI_ok ok n).A) cal_X6_pullOf lm_X6_114 0 rfl rfl rfl rfl (by decide) rfl (Nat.le_of_ble_eq_true rfl) dX6_behind_71 (fun r71 ws71 _ hr71 => ?_)
          obtain ⟨rfl, rfl⟩ := hr71
          refine g_top (y := iI (pull (goI n (cl M)) c)) rfl ?_
          refine g_goto F 90 dX6_behind_74 (by decide) ?_
          refine g_istore F (lv' := [(5, .int (iI (pull (goI n (cl M)) c))), (4, .int (iI (wbit (wnum n 0 60) w 2))), (0, .ref (ma 100)), (1, .int (iI c)), (2, .int (iI n)), (3, .int (iI w))]) dX6_behind_90 (by decide) rfl ?_
          refine g_aload_n F 2 dX6_behind_92 rfl ?_
          refine g_callV F (stk := [.ref (ma 100)]) (st := []) (k_X6_again κ ma (stC (thk (mA M 10 (fun _ => 0))) (goI n (cl M))) (mA M 10 (fun _ => 0)) (fun _ _ _ => rfl)) cal_X6_again lm_X6_197 0 rfl rfl rfl rfl (by decide) rfl (Nat.le_of_ble_eq_true rfl) dX6_behind_93 (fun ws93 _ hr93 => ?_)
          obtain rfl := hr93
          refine g_iload F 0 dX6_behind_96 rfl ?_
          have hp := pull_bd (goI_ok ok n).A (c := c) (by omega) (by omega)
          have hww := (goI_ok ok n).w c (by omega) (by omega)
          have hq : pull (goI n (cl M)) c = qBehind (cl M) c n w := by unfold qBehind; (repeat' split) <;> omega
          exact K mw_same ⟨_, rfl, iIc hq, ⟨rfl, rfl, rfl, rfl, rfl, rfl, rfl, rfl, rfl, rfl, rfl, rfl, rfl, rfl, rfl, rfl, rfl, rfl⟩, (by rw [← hq]; exact (rfa_n (by omega)).symm)⟩ rfl dX6_behind_98
      · skip
        refine g_aload_n F 1 dX6_behind_55 rfl ?_
        refine gm_get_3 F dX6_behind_56 ?_
        refine g_iload_n F 2 dX6_behind_59 rfl ?_
        refine gm_ald_3 F (by omega) dX6_behind_60 ?_
        refine g_top (y := iI ((we (goI n (cl M))) c)) rfl ?_
        refine g_goto F 90 dX6_behind_61 (by decide) ?_
        refine g_istore F (lv' := [(5, .int (iI ((we (goI n (cl M))) c))), (4, .int (iI (wbit (wnum n 0 60) w 2))), (0, .ref (ma 100)), (1, .int (iI c)), (2, .int (iI n)), (3, .int (iI w))]) dX6_behind_90 (by decide) rfl ?_
        refine g_aload_n F 2 dX6_behind_92 rfl ?_
        refine g_callV F (stk := [.ref (ma 100)]) (st := []) (k_X6_again κ ma (stC (thk (mA M 10 (fun _ => 0))) (goI n (cl M))) (mA M 10 (fun _ => 0)) (fun _ _ _ => rfl)) cal_X6_again lm_X6_197 0 rfl rfl rfl rfl (by decide) rfl (Nat.le_of_ble_eq_true rfl) dX6_behind_93 (fun ws93 _ hr93 => ?_)
        obtain rfl := hr93
        refine g_iload F 0 dX6_behind_96 rfl ?_
        have hp := pull_bd (goI_ok ok n).A (c := c) (by omega) (by omega)
        have hww := (goI_ok ok n).w c (by omega) (by omega)
        have hq : (we (goI n (cl M))) c = qBehind (cl M) c n w := by unfold qBehind; (repeat' split) <;> omega
        exact K mw_same ⟨_, rfl, iIc hq, ⟨rfl, rfl, rfl, rfl, rfl, rfl, rfl, rfl, rfl, rfl, rfl, rfl, rfl, rfl, rfl, rfl, rfl, rfl⟩, (by rw [← hq]; exact (rfa_n (by omega)).symm)⟩ rfl dX6_behind_98
    · skip
      refine g_aload_n F 1 dX6_behind_35 rfl ?_
      refine g_iload F 0 dX6_behind_36 rfl ?_
      refine g_callI F (stk := [.int (iI (wbit (wnum n 0 60) w 2)), .ref (ma 100)]) (st := []) (k_X6_refuse κ ma (mA M 10 (fun _ => 0)) (wbit (wnum n 0 60) w 2) (by omega)) cal_X6_refuse lm_X6_138 0 rfl rfl rfl rfl (by decide) rfl (Nat.le_of_ble_eq_true rfl) dX6_behind_38 (fun r38 ws38 _ hr38 => ?_)
      obtain ⟨rfl, rfl⟩ := hr38
      refine g_top (y := iI (wbit (wnum n 0 60) w 2)) rfl ?_
      refine g_ws (ws' := mw κ ma (mA (mA M 10 (fun _ => 0)) 11 (uI (M 11) (-(wbit (wnum n 0 60) w 2)) (M 11 (-(wbit (wnum n 0 60) w 2)) + 1)))) rfl ?_
      have hq : (wbit (wnum n 0 60) w 2) = qBehind (cl M) c n w := by unfold qBehind; (repeat' split) <;> omega
      exact K mw_same ⟨_, rfl, iIc hq, ⟨rfl, rfl, rfl, rfl, rfl, rfl, rfl, rfl, rfl, rfl, rfl, rfl, rfl, rfl, rfl, rfl, rfl, rfl⟩, (by rw [← hq]; exact (rfa_r (by omega)).symm)⟩ rfl dX6_behind_41
theorem dX6_all_0 : decode cX6_all 0 = .ok (.aload_n 0, 1) := by decide +kernel
theorem dX6_all_1 : decode cX6_all 1 = .ok (.iconst 0, 1) := by decide +kernel
theorem dX6_all_2 : decode cX6_all 2 = .ok (.putfield 91, 3) := by decide +kernel
theorem dX6_all_5 : decode cX6_all 5 = .ok (.iload_n 1, 1) := by decide +kernel
theorem dX6_all_6 : decode cX6_all 6 = .ok (.iconst 0, 1) := by decide +kernel
theorem dX6_all_7 : decode cX6_all 7 = .ok (.bipush 60, 2) := by decide +kernel
theorem dX6_all_9 : decode cX6_all 9 = .ok (.invokestatic 237, 3) := by decide +kernel
theorem dX6_all_12 : decode cX6_all 12 = .ok (.iload_n 2, 1) := by decide +kernel
theorem dX6_all_13 : decode cX6_all 13 = .ok (.iconst 2, 1) := by decide +kernel
theorem dX6_all_14 : decode cX6_all 14 = .ok (.invokestatic 247, 3) := by decide +kernel
theorem dX6_all_17 : decode cX6_all 17 = .ok (.istore_n 3, 1) := by decide +kernel
theorem dX6_all_18 : decode cX6_all 18 = .ok (.iload_n 3, 1) := by decide +kernel
theorem dX6_all_19 : decode cX6_all 19 = .ok (.ifCond .ge 9, 3) := by decide +kernel
theorem dX6_all_22 : decode cX6_all 22 = .ok (.aload_n 0, 1) := by decide +kernel
theorem dX6_all_23 : decode cX6_all 23 = .ok (.iload_n 3, 1) := by decide +kernel
theorem dX6_all_24 : decode cX6_all 24 = .ok (.invokevirtual 138, 3) := by decide +kernel
theorem dX6_all_27 : decode cX6_all 27 = .ok (.ireturn, 1) := by decide +kernel
theorem dX6_all_28 : decode cX6_all 28 = .ok (.aload_n 0, 1) := by decide +kernel
theorem dX6_all_29 : decode cX6_all 29 = .ok (.invokevirtual 191, 3) := by decide +kernel
theorem dX6_all_32 : decode cX6_all 32 = .ok (.aload_n 0, 1) := by decide +kernel
theorem dX6_all_33 : decode cX6_all 33 = .ok (.iload_n 1, 1) := by decide +kernel
theorem dX6_all_34 : decode cX6_all 34 = .ok (.invokevirtual 184, 3) := by decide +kernel
theorem dX6_all_37 : decode cX6_all 37 = .ok (.iload_n 2, 1) := by decide +kernel
theorem dX6_all_38 : decode cX6_all 38 = .ok (.ifCond .ne 13, 3) := by decide +kernel
theorem dX6_all_41 : decode cX6_all 41 = .ok (.aload_n 0, 1) := by decide +kernel
theorem dX6_all_42 : decode cX6_all 42 = .ok (.invokevirtual 241, 3) := by decide +kernel
theorem dX6_all_45 : decode cX6_all 45 = .ok (.invokestatic 244, 3) := by decide +kernel
theorem dX6_all_48 : decode cX6_all 48 = .ok (.goto 19, 3) := by decide +kernel
theorem dX6_all_51 : decode cX6_all 51 = .ok (.iload_n 2, 1) := by decide +kernel
theorem dX6_all_52 : decode cX6_all 52 = .ok (.iconst 1, 1) := by decide +kernel
theorem dX6_all_53 : decode cX6_all 53 = .ok (.if_icmp .ne 10, 3) := by decide +kernel
theorem dX6_all_56 : decode cX6_all 56 = .ok (.aload_n 0, 1) := by decide +kernel
theorem dX6_all_57 : decode cX6_all 57 = .ok (.invokevirtual 250, 3) := by decide +kernel
theorem dX6_all_60 : decode cX6_all 60 = .ok (.goto 7, 3) := by decide +kernel
theorem dX6_all_63 : decode cX6_all 63 = .ok (.aload_n 0, 1) := by decide +kernel
theorem dX6_all_64 : decode cX6_all 64 = .ok (.invokevirtual 234, 3) := by decide +kernel
theorem dX6_all_67 : decode cX6_all 67 = .ok (.istore 4, 2) := by decide +kernel
theorem dX6_all_69 : decode cX6_all 69 = .ok (.aload_n 0, 1) := by decide +kernel
theorem dX6_all_70 : decode cX6_all 70 = .ok (.invokevirtual 197, 3) := by decide +kernel
theorem dX6_all_73 : decode cX6_all 73 = .ok (.iload 4, 2) := by decide +kernel
theorem dX6_all_75 : decode cX6_all 75 = .ok (.ireturn, 1) := by decide +kernel
set_option maxRecDepth 100000 in
set_option maxHeartbeats 4000000 in
theorem k_X6_all (κ : Kp) (ma : Nat → Nat) (M : MS) (n : Int) (w : Int)  (ha_n : In32 n) (ha_w : In32 w) (ok : okC (cl M)) (hy : M 4 0 ≤ 999) : mI κ yX6_all cX6_all 5 .int 5 [.ref (ma 100), .int (iI n), .int (iI w)] (mw κ ma M) (qM κ ma M (qAll (cl M) n w)) := by
  refine mI_of (by decide) (Nat.le_of_ble_eq_true rfl) (fun E F K => ?_)
  refine g_lv (lv' := [(0, .ref (ma 100)), (1, .int (iI n)), (2, .int (iI w))]) rfl ?_
  refine g_aload_n F 0 dX6_all_0 rfl ?_
  refine g_iconst F dX6_all_1 ?_
  refine gm_put_10 F dX6_all_2 ?_
  refine g_iload_n F 1 dX6_all_5 rfl ?_
  refine g_iconst F dX6_all_6 ?_
  refine g_bipush F dX6_all_7 (by decide +kernel) ?_
  refine g_callSI F (stk := [.int (iI 60), .int (iI 0), .int (iI n)]) (st := []) (k_X6_wrongNumber κ (mw κ ma (mA M 10 (fun _ => 0))) n 0 60 (by omega)) cal_X6_wrongNumber lm_X6_237 rfl (by decide) rfl (Nat.le_of_ble_eq_true rfl) dX6_all_9 (fun r9 ws9 _ hr9 => ?_)
  obtain ⟨rfl, rfl⟩ := hr9
  have hwn9 := wn_spec n 0 60
  refine g_iload_n F 2 dX6_all_12 rfl ?_
  refine g_iconst F dX6_all_13 ?_
  refine g_callSI F (stk := [.int (iI 2), .int (iI w), .int (iI (wnum n 0 60))]) (st := []) (k_X6_wrongBit κ (mw κ ma (mA M 10 (fun _ => 0))) (wnum n 0 60) w 2 (by omega)) cal_X6_wrongBit lm_X6_247 rfl (by decide) rfl (Nat.le_of_ble_eq_true rfl) dX6_all_14 (fun r14 ws14 _ hr14 => ?_)
  obtain ⟨rfl, rfl⟩ := hr14
  have hwb14 := wb_spec (wnum n 0 60) w 2
  refine g_istore_n F (lv' := [(3, .int (iI (wbit (wnum n 0 60) w 2))), (0, .ref (ma 100)), (1, .int (iI n)), (2, .int (iI w))]) 3 dX6_all_17 rfl (by decide) rfl ?_
  refine g_iload_n F 0 dX6_all_18 rfl ?_
  refine g_if_ge F 28 (by omega) dX6_all_19 (by decide) (fun c19 => ?_) (fun c19 => ?_)
  · skip
    refine g_aload_n F 1 dX6_all_28 rfl ?_
    refine g_callV F (stk := [.ref (ma 100)]) (st := []) (k_X6_think κ ma (mA M 10 (fun _ => 0))) cal_X6_think lm_X6_191 0 rfl rfl rfl rfl (by decide) rfl (Nat.le_of_ble_eq_true rfl) dX6_all_29 (fun ws29 _ hr29 => ?_)
    obtain rfl := hr29
    refine g_ws (ws' := mw κ ma (thk (mA M 10 (fun _ => 0)))) rfl ?_
    refine g_aload_n F 1 dX6_all_32 rfl ?_
    refine g_iload_n F 2 dX6_all_33 rfl ?_
    refine g_callV F (stk := [.int (iI n), .ref (ma 100)]) (st := []) (k_X6_goYears κ ma (thk (mA M 10 (fun _ => 0))) n (show (0 ≤ n ∧ n ≤ 1000) ∧ (M 4 0) + n ≤ 1000000 from by omega) ok) cal_X6_goYears lm_X6_184 0 rfl rfl rfl rfl (by decide) rfl (Nat.le_of_ble_eq_true rfl) dX6_all_34 (fun ws34 _ hr34 => ?_)
    obtain rfl := hr34
    refine g_ws (ws' := mw κ ma (stC (thk (mA M 10 (fun _ => 0))) (goI n (cl M)))) rfl ?_
    refine g_iload_n F 3 dX6_all_37 rfl ?_
    refine g_if_ne F 51 (by omega) dX6_all_38 (by decide) (fun c38 => ?_) (fun c38 => ?_)
    · skip
      refine g_iload_n F 3 dX6_all_51 rfl ?_
      refine g_iconst F dX6_all_52 ?_
      refine g_icmp_ne F 63 (by omega) dX6_all_53 (by decide) (fun c53 => ?_) (fun c53 => ?_)
      · skip
        refine g_aload_n F 1 dX6_all_63 rfl ?_
        refine g_callI F (stk := [.ref (ma 100)]) (st := []) (k_X6_allPull κ ma (stC (thk (mA M 10 (fun _ => 0))) (goI n (cl M))) (goI_ok ok n).A) cal_X6_allPull lm_X6_234 0 rfl rfl rfl rfl (by decide) rfl (Nat.le_of_ble_eq_true rfl) dX6_all_64 (fun r64 ws64 _ hr64 => ?_)
        obtain ⟨rfl, rfl⟩ := hr64
        refine g_top (y := iI (allPull (goI n (cl M)))) rfl ?_
        refine g_istore F (lv' := [(4, .int (iI (allPull (goI n (cl M))))), (3, .int (iI (wbit (wnum n 0 60) w 2))), (0, .ref (ma 100)), (1, .int (iI n)), (2, .int (iI w))]) dX6_all_67 (by decide) rfl ?_
        refine g_aload_n F 2 dX6_all_69 rfl ?_
        refine g_callV F (stk := [.ref (ma 100)]) (st := []) (k_X6_again κ ma (stC (thk (mA M 10 (fun _ => 0))) (goI n (cl M))) (mA M 10 (fun _ => 0)) (fun _ _ _ => rfl)) cal_X6_again lm_X6_197 0 rfl rfl rfl rfl (by decide) rfl (Nat.le_of_ble_eq_true rfl) dX6_all_70 (fun ws70 _ hr70 => ?_)
        obtain rfl := hr70
        refine g_iload F 0 dX6_all_73 rfl ?_
        have hp := pcnt_bd (hbits (goI n (cl M)))
        have h1 := allWear_bd (goI_ok ok n)
        have h2 := allPull_bd (goI_ok ok n).A
        have hq : allPull (goI n (cl M)) = qAll (cl M) n w := by unfold qAll; (repeat' split) <;> omega
        exact K mw_same ⟨_, rfl, iIc hq, ⟨rfl, rfl, rfl, rfl, rfl, rfl, rfl, rfl, rfl, rfl, rfl, rfl, rfl, rfl, rfl, rfl, rfl, rfl⟩, (by rw [← hq]; exact (rfa_n (by omega)).symm)⟩ rfl dX6_all_75
      · skip
        refine g_aload_n F 1 dX6_all_56 rfl ?_
        refine g_callI F (stk := [.ref (ma 100)]) (st := []) (k_X6_allWear κ ma (stC (thk (mA M 10 (fun _ => 0))) (goI n (cl M)))) cal_X6_allWear lm_X6_250 0 rfl rfl rfl rfl (by decide) rfl (Nat.le_of_ble_eq_true rfl) dX6_all_57 (fun r57 ws57 _ hr57 => ?_)
        obtain ⟨rfl, rfl⟩ := hr57
        refine g_top (y := iI (allWear (goI n (cl M)))) rfl ?_
        refine g_goto F 67 dX6_all_60 (by decide) ?_
        refine g_istore F (lv' := [(4, .int (iI (allWear (goI n (cl M))))), (3, .int (iI (wbit (wnum n 0 60) w 2))), (0, .ref (ma 100)), (1, .int (iI n)), (2, .int (iI w))]) dX6_all_67 (by decide) rfl ?_
        refine g_aload_n F 2 dX6_all_69 rfl ?_
        refine g_callV F (stk := [.ref (ma 100)]) (st := []) (k_X6_again κ ma (stC (thk (mA M 10 (fun _ => 0))) (goI n (cl M))) (mA M 10 (fun _ => 0)) (fun _ _ _ => rfl)) cal_X6_again lm_X6_197 0 rfl rfl rfl rfl (by decide) rfl (Nat.le_of_ble_eq_true rfl) dX6_all_70 (fun ws70 _ hr70 => ?_)
        obtain rfl := hr70
        refine g_iload F 0 dX6_all_73 rfl ?_
        have hp := pcnt_bd (hbits (goI n (cl M)))
        have h1 := allWear_bd (goI_ok ok n)
        have h2 := allPull_bd (goI_ok ok n).A
        have hq : allWear (goI n (cl M)) = qAll (cl M) n w := by unfold qAll; (repeat' split) <;> omega
        exact K mw_same ⟨_, rfl, iIc hq, ⟨rfl, rfl, rfl, rfl, rfl, rfl, rfl, rfl, rfl, rfl, rfl, rfl, rfl, rfl, rfl, rfl, rfl, rfl⟩, (by rw [← hq]; exact (rfa_n (by omega)).symm)⟩ rfl dX6_all_75
    · skip
      refine g_aload_n F 1 dX6_all_41 rfl ?_
      refine g_callI F (stk := [.ref (ma 100)]) (st := []) (k_X6_holeBits κ ma (stC (thk (mA M 10 (fun _ => 0))) (goI n (cl M))) (goI_ok ok n)) cal_X6_holeBits lm_X6_241 0 rfl rfl rfl rfl (by decide) rfl (Nat.le_of_ble_eq_true rfl) dX6_all_42 (fun r42 ws42 _ hr42 => ?_)
      obtain ⟨rfl, rfl⟩ := hr42
      refine g_top (y := iI (hbits (goI n (cl M)))) rfl ?_
      refine g_callSI F (stk := [.int (iI (hbits (goI n (cl M))))]) (st := []) (k_X6_onesOf κ (mw κ ma (stC (thk (mA M 10 (fun _ => 0))) (goI n (cl M)))) (hbits (goI n (cl M))) (hbits_in _)) cal_X6_onesOf lm_X6_244 rfl (by decide) rfl (Nat.le_of_ble_eq_true rfl) dX6_all_45 (fun r45 ws45 _ hr45 => ?_)
      obtain ⟨rfl, rfl⟩ := hr45
      refine g_goto F 67 dX6_all_48 (by decide) ?_
      refine g_istore F (lv' := [(4, .int (iI (pcnt (hbits (goI n (cl M)))))), (3, .int (iI (wbit (wnum n 0 60) w 2))), (0, .ref (ma 100)), (1, .int (iI n)), (2, .int (iI w))]) dX6_all_67 (by decide) rfl ?_
      refine g_aload_n F 2 dX6_all_69 rfl ?_
      refine g_callV F (stk := [.ref (ma 100)]) (st := []) (k_X6_again κ ma (stC (thk (mA M 10 (fun _ => 0))) (goI n (cl M))) (mA M 10 (fun _ => 0)) (fun _ _ _ => rfl)) cal_X6_again lm_X6_197 0 rfl rfl rfl rfl (by decide) rfl (Nat.le_of_ble_eq_true rfl) dX6_all_70 (fun ws70 _ hr70 => ?_)
      obtain rfl := hr70
      refine g_iload F 0 dX6_all_73 rfl ?_
      have hp := pcnt_bd (hbits (goI n (cl M)))
      have h1 := allWear_bd (goI_ok ok n)
      have h2 := allPull_bd (goI_ok ok n).A
      have hq : pcnt (hbits (goI n (cl M))) = qAll (cl M) n w := by unfold qAll; (repeat' split) <;> omega
      exact K mw_same ⟨_, rfl, iIc hq, ⟨rfl, rfl, rfl, rfl, rfl, rfl, rfl, rfl, rfl, rfl, rfl, rfl, rfl, rfl, rfl, rfl, rfl, rfl⟩, (by rw [← hq]; exact (rfa_n (by omega)).symm)⟩ rfl dX6_all_75
  · skip
    refine g_aload_n F 1 dX6_all_22 rfl ?_
    refine g_iload_n F 0 dX6_all_23 rfl ?_
    refine g_callI F (stk := [.int (iI (wbit (wnum n 0 60) w 2)), .ref (ma 100)]) (st := []) (k_X6_refuse κ ma (mA M 10 (fun _ => 0)) (wbit (wnum n 0 60) w 2) (by omega)) cal_X6_refuse lm_X6_138 0 rfl rfl rfl rfl (by decide) rfl (Nat.le_of_ble_eq_true rfl) dX6_all_24 (fun r24 ws24 _ hr24 => ?_)
    obtain ⟨rfl, rfl⟩ := hr24
    refine g_top (y := iI (wbit (wnum n 0 60) w 2)) rfl ?_
    refine g_ws (ws' := mw κ ma (mA (mA M 10 (fun _ => 0)) 11 (uI (M 11) (-(wbit (wnum n 0 60) w 2)) (M 11 (-(wbit (wnum n 0 60) w 2)) + 1)))) rfl ?_
    have hq : (wbit (wnum n 0 60) w 2) = qAll (cl M) n w := by unfold qAll; (repeat' split) <;> omega
    exact K mw_same ⟨_, rfl, iIc hq, ⟨rfl, rfl, rfl, rfl, rfl, rfl, rfl, rfl, rfl, rfl, rfl, rfl, rfl, rfl, rfl, rfl, rfl, rfl⟩, (by rw [← hq]; exact (rfa_r (by omega)).symm)⟩ rfl dX6_all_27
theorem dX6_entire_0 : decode cX6_entire 0 = .ok (.aload_n 0, 1) := by decide +kernel
theorem dX6_entire_1 : decode cX6_entire 1 = .ok (.iconst 0, 1) := by decide +kernel
theorem dX6_entire_2 : decode cX6_entire 2 = .ok (.putfield 91, 3) := by decide +kernel
theorem dX6_entire_5 : decode cX6_entire 5 = .ok (.iconst 0, 1) := by decide +kernel
theorem dX6_entire_6 : decode cX6_entire 6 = .ok (.istore_n 1, 1) := by decide +kernel
theorem dX6_entire_7 : decode cX6_entire 7 = .ok (.iconst 0, 1) := by decide +kernel
theorem dX6_entire_8 : decode cX6_entire 8 = .ok (.istore_n 2, 1) := by decide +kernel
theorem dX6_entire_9 : decode cX6_entire 9 = .ok (.iload_n 2, 1) := by decide +kernel
theorem dX6_entire_10 : decode cX6_entire 10 = .ok (.bipush 12, 2) := by decide +kernel
theorem dX6_entire_12 : decode cX6_entire 12 = .ok (.if_icmp .ge 25, 3) := by decide +kernel
theorem dX6_entire_15 : decode cX6_entire 15 = .ok (.iload_n 1, 1) := by decide +kernel
theorem dX6_entire_16 : decode cX6_entire 16 = .ok (.aload_n 0, 1) := by decide +kernel
theorem dX6_entire_17 : decode cX6_entire 17 = .ok (.iload_n 2, 1) := by decide +kernel
theorem dX6_entire_18 : decode cX6_entire 18 = .ok (.invokevirtual 114, 3) := by decide +kernel
theorem dX6_entire_21 : decode cX6_entire 21 = .ok (.ifCond .ne 7, 3) := by decide +kernel
theorem dX6_entire_24 : decode cX6_entire 24 = .ok (.iconst 1, 1) := by decide +kernel
theorem dX6_entire_25 : decode cX6_entire 25 = .ok (.goto 4, 3) := by decide +kernel
theorem dX6_entire_28 : decode cX6_entire 28 = .ok (.iconst 0, 1) := by decide +kernel
theorem dX6_entire_29 : decode cX6_entire 29 = .ok (.iadd, 1) := by decide +kernel
theorem dX6_entire_30 : decode cX6_entire 30 = .ok (.istore_n 1, 1) := by decide +kernel
theorem dX6_entire_31 : decode cX6_entire 31 = .ok (.iinc 2 1, 3) := by decide +kernel
theorem dX6_entire_34 : decode cX6_entire 34 = .ok (.goto (-25), 3) := by decide +kernel
theorem dX6_entire_37 : decode cX6_entire 37 = .ok (.iload_n 1, 1) := by decide +kernel
theorem dX6_entire_38 : decode cX6_entire 38 = .ok (.ireturn, 1) := by decide +kernel
set_option maxRecDepth 100000 in
set_option maxHeartbeats 4000000 in
theorem k_X6_entire (κ : Kp) (ma : Nat → Nat) (M : MS)  (ok : okC (cl M)) : mI κ yX6_entire cX6_entire 3 .int 2 [.ref (ma 100)] (mw κ ma M) (qM κ ma M (qEntire (cl M))) := by
  refine mI_of (by decide) (Nat.le_of_ble_eq_true rfl) (fun E F K => ?_)
  refine g_lv (lv' := [(0, .ref (ma 100))]) rfl ?_
  refine g_aload_n F 0 dX6_entire_0 rfl ?_
  refine g_iconst F dX6_entire_1 ?_
  refine gm_put_10 F dX6_entire_2 ?_
  refine g_iconst F dX6_entire_5 ?_
  refine g_istore_n F (lv' := [(1, .int (iI 0)), (0, .ref (ma 100))]) 1 dX6_entire_6 rfl (by decide) rfl ?_
  refine g_iconst F dX6_entire_7 ?_
  refine g_istore_n F (lv' := [(2, .int (iI 0)), (1, .int (iI 0)), (0, .ref (ma 100))]) 2 dX6_entire_8 rfl (by decide) rfl ?_
  have L9 : ∀ (mz9 : Nat) (i : Int) (s : Int), (12 - i).toNat = mz9 → (0 ≤ i ∧ i ≤ 12) → (s = sumI (fun c => if pull (cl M) c = 0 then 1 else 0) i) → (0 ≤ s) → G E (mw κ ma (mA M 10 (fun _ => 0))) [(2, .int (iI i)), (1, .int (iI s)), (0, .ref (ma 100))] 9 [] := by
    intro mz9
    induction mz9 using Nat.strongRecOn with
    | _ mz9 ih9 =>
    intro i s hmz9 hi hs hsb
    refine g_iload_n F 0 dX6_entire_9 rfl ?_
    refine g_bipush F dX6_entire_10 (by decide +kernel) ?_
    refine g_icmp_ge F 37 (by omega) dX6_entire_12 (by decide) (fun c12 => ?_) (fun c12 => ?_)
    · skip
      refine g_iload_n F 1 dX6_entire_37 rfl ?_
      have hq : s = qEntire (cl M) := by rw [hs, show i = 12 by omega]; rfl
      exact K mw_same ⟨_, rfl, iIc hq, ⟨rfl, rfl, rfl, rfl, rfl, rfl, rfl, rfl, rfl, rfl, rfl, rfl, rfl, rfl, rfl, rfl, rfl, rfl⟩, (by rw [← hq]; exact (rfa_n (by omega)).symm)⟩ rfl dX6_entire_38
    · skip
      have hp := pull_bd ok.A hi.1 c12
      refine g_iload_n F 1 dX6_entire_15 rfl ?_
      refine g_aload_n F 2 dX6_entire_16 rfl ?_
      refine g_iload_n F 0 dX6_entire_17 rfl ?_
      refine g_callI F (stk := [.int (iI i), .ref (ma 100), .int (iI s)]) (st := [.int (iI s)]) (k_X6_pullOf κ ma (mA M 10 (fun _ => 0)) i (by omega) ok.A) cal_X6_pullOf lm_X6_114 0 rfl rfl rfl rfl (by decide) rfl (Nat.le_of_ble_eq_true rfl) dX6_entire_18 (fun r18 ws18 _ hr18 => ?_)
      obtain ⟨rfl, rfl⟩ := hr18
      refine g_top (y := iI (pull (cl M) i)) rfl ?_
      refine g_if_ne F 28 (by omega) dX6_entire_21 (by decide) (fun c21 => ?_) (fun c21 => ?_)
      · skip
        refine g_iconst F dX6_entire_28 ?_
        refine g_iadd F dX6_entire_29 ?_
        refine g_istore_n F (lv' := [(1, .int (iI (s + 0))), (2, .int (iI i)), (0, .ref (ma 100))]) 1 dX6_entire_30 rfl (by decide) rfl ?_
        refine g_iinc F (lv' := [(2, .int (iI (i + 1))), (1, .int (iI (s + 0))), (0, .ref (ma 100))]) 1 dX6_entire_31 rfl (by decide) rfl ?_
        refine g_goto F 9 dX6_entire_34 (by decide) ?_
        refine g_sub F (lv' := [(2, .int (iI (i + 1))), (1, .int (iI (s + 0))), (0, .ref (ma 100))]) [0, 1, 2] rfl ?_
        exact ih9 _ (by omega) (i + 1) (s + 0) rfl (by omega) (by rw [sumI_s _ hi.1, ← hs]; split <;> omega) (by omega)
      · skip
        refine g_iconst F dX6_entire_24 ?_
        refine g_goto F 29 dX6_entire_25 (by decide) ?_
        refine g_iadd F dX6_entire_29 ?_
        refine g_istore_n F (lv' := [(1, .int (iI (s + 1))), (2, .int (iI i)), (0, .ref (ma 100))]) 1 dX6_entire_30 rfl (by decide) rfl ?_
        refine g_iinc F (lv' := [(2, .int (iI (i + 1))), (1, .int (iI (s + 1))), (0, .ref (ma 100))]) 1 dX6_entire_31 rfl (by decide) rfl ?_
        refine g_goto F 9 dX6_entire_34 (by decide) ?_
        refine g_sub F (lv' := [(2, .int (iI (i + 1))), (1, .int (iI (s + 1))), (0, .ref (ma 100))]) [0, 1, 2] rfl ?_
        exact ih9 _ (by omega) (i + 1) (s + 1) rfl (by omega) (by rw [sumI_s _ hi.1, ← hs]; split <;> omega) (by omega)
  refine g_sub F (lv' := [(2, .int (iI 0)), (1, .int (iI 0)), (0, .ref (ma 100))]) [0, 1, 2] rfl ?_
  exact L9 _ 0 0 rfl (by omega) (sumI_0 _).symm (by omega)
