/-! PUBLIC METHODS of the class: what stays -/
def sameX (X X2 : XS) : Prop := (X2 0 = X 0 ∧ X2 1 = X 1 ∧ (∀ o, 4 ≤ o → o < 12 → X2 o = X o) ∧ X2 12 = X 12 ∧ X2 13 = X 13 ∧ X2 15 = X 15 ∧ X2 16 = X 16) ∧ X2 18 4 = X 18 4 ∧ X2 18 5 = X 18 5 ∧ X2 18 9 = X 18 9
theorem sX_0 {X : XS} : sameX X X := ⟨⟨rfl, rfl, fun _ _ _ => rfl, rfl, rfl, rfl, rfl⟩, rfl, rfl, rfl⟩
theorem sX_o {X X2 : XS} {o : Nat} {D : MS} (h : sameX X X2) (ho : o = 2 ∨ o = 3 ∨ o = 14 ∨ o = 17) : sameX X (setO X2 o D) := by
  obtain ⟨⟨h1, h2, h3, h4, h5, h6, h7⟩, h8, h9, h10⟩ := h
  refine ⟨⟨?_, ?_, fun a b c => ?_, ?_, ?_, ?_, ?_⟩, ?_, ?_, ?_⟩
  · rw [setO_n (by omega)]; exact h1
  · rw [setO_n (by omega)]; exact h2
  · rw [setO_n (by omega)]; exact h3 a b c
  · rw [setO_n (by omega)]; exact h4
  · rw [setO_n (by omega)]; exact h5
  · rw [setO_n (by omega)]; exact h6
  · rw [setO_n (by omega)]; exact h7
  · rw [setO_n (by omega)]; exact h8
  · rw [setO_n (by omega)]; exact h9
  · rw [setO_n (by omega)]; exact h10
theorem sX_18 {X X2 : XS} {D : MS} (h : sameX X X2) (e1 : D 4 = X2 18 4) (e2 : D 5 = X2 18 5) (e3 : D 9 = X2 18 9) : sameX X (setO X2 18 D) := by
  obtain ⟨⟨h1, h2, h3, h4, h5, h6, h7⟩, h8, h9, h10⟩ := h
  refine ⟨⟨?_, ?_, fun a b c => ?_, ?_, ?_, ?_, ?_⟩, ?_, ?_, ?_⟩
  · rw [setO_n (by omega)]; exact h1
  · rw [setO_n (by omega)]; exact h2
  · rw [setO_n (by omega)]; exact h3 a b c
  · rw [setO_n (by omega)]; exact h4
  · rw [setO_n (by omega)]; exact h5
  · rw [setO_n (by omega)]; exact h6
  · rw [setO_n (by omega)]; exact h7
  · rw [setO_s, e1]; exact h8
  · rw [setO_s, e2]; exact h9
  · rw [setO_s, e3]; exact h10
def qX (κ : Kp) (xa : Nat → Nat → Nat) (X : XS) (q : Int) : Int32 → va_W → Prop := fun r w => ∃ X2, w = xw κ xa X2 ∧ r = iI q ∧ sameX X X2 ∧ X2 18 6 = rfa (X 18 6) q
def qXL (κ : Kp) (xa : Nat → Nat → Nat) (X : XS) (q s : Int) : Int64 → va_W → Prop := fun r w => ∃ X2, w = xw κ xa X2 ∧ r = iL q ∧ sameX X X2 ∧ X2 18 6 = rfa (X 18 6) s
theorem dX5_cellOf_0 : decode cX5_cellOf 0 = .ok (.iload_n 1, 1) := by decide +kernel
theorem dX5_cellOf_1 : decode cX5_cellOf 1 = .ok (.invokestatic 134, 3) := by decide +kernel
theorem dX5_cellOf_4 : decode cX5_cellOf 4 = .ok (.ifCond .ne 9, 3) := by decide +kernel
theorem dX5_cellOf_7 : decode cX5_cellOf 7 = .ok (.aload_n 0, 1) := by decide +kernel
theorem dX5_cellOf_8 : decode cX5_cellOf 8 = .ok (.iconst (-1), 1) := by decide +kernel
theorem dX5_cellOf_9 : decode cX5_cellOf 9 = .ok (.invokevirtual 69, 3) := by decide +kernel
theorem dX5_cellOf_12 : decode cX5_cellOf 12 = .ok (.ireturn, 1) := by decide +kernel
theorem dX5_cellOf_13 : decode cX5_cellOf 13 = .ok (.iload_n 2, 1) := by decide +kernel
theorem dX5_cellOf_14 : decode cX5_cellOf 14 = .ok (.tableswitch 130 0 7 #[46, 56, 66, 76, 86, 95, 104, 113], 46) := by decide +kernel
theorem dX5_cellOf_60 : decode cX5_cellOf 60 = .ok (.aload_n 0, 1) := by decide +kernel
theorem dX5_cellOf_61 : decode cX5_cellOf 61 = .ok (.getfield 10, 3) := by decide +kernel
theorem dX5_cellOf_64 : decode cX5_cellOf 64 = .ok (.getfield 169, 3) := by decide +kernel
theorem dX5_cellOf_67 : decode cX5_cellOf 67 = .ok (.iload_n 1, 1) := by decide +kernel
theorem dX5_cellOf_68 : decode cX5_cellOf 68 = .ok (.iaload, 1) := by decide +kernel
theorem dX5_cellOf_69 : decode cX5_cellOf 69 = .ok (.ireturn, 1) := by decide +kernel
theorem dX5_cellOf_70 : decode cX5_cellOf 70 = .ok (.aload_n 0, 1) := by decide +kernel
theorem dX5_cellOf_71 : decode cX5_cellOf 71 = .ok (.getfield 10, 3) := by decide +kernel
theorem dX5_cellOf_74 : decode cX5_cellOf 74 = .ok (.getfield 172, 3) := by decide +kernel
theorem dX5_cellOf_77 : decode cX5_cellOf 77 = .ok (.iload_n 1, 1) := by decide +kernel
theorem dX5_cellOf_78 : decode cX5_cellOf 78 = .ok (.iaload, 1) := by decide +kernel
theorem dX5_cellOf_79 : decode cX5_cellOf 79 = .ok (.ireturn, 1) := by decide +kernel
theorem dX5_cellOf_80 : decode cX5_cellOf 80 = .ok (.aload_n 0, 1) := by decide +kernel
theorem dX5_cellOf_81 : decode cX5_cellOf 81 = .ok (.getfield 10, 3) := by decide +kernel
theorem dX5_cellOf_84 : decode cX5_cellOf 84 = .ok (.getfield 175, 3) := by decide +kernel
theorem dX5_cellOf_87 : decode cX5_cellOf 87 = .ok (.iload_n 1, 1) := by decide +kernel
theorem dX5_cellOf_88 : decode cX5_cellOf 88 = .ok (.iaload, 1) := by decide +kernel
theorem dX5_cellOf_89 : decode cX5_cellOf 89 = .ok (.ireturn, 1) := by decide +kernel
theorem dX5_cellOf_90 : decode cX5_cellOf 90 = .ok (.aload_n 0, 1) := by decide +kernel
theorem dX5_cellOf_91 : decode cX5_cellOf 91 = .ok (.getfield 10, 3) := by decide +kernel
theorem dX5_cellOf_94 : decode cX5_cellOf 94 = .ok (.getfield 160, 3) := by decide +kernel
theorem dX5_cellOf_97 : decode cX5_cellOf 97 = .ok (.iload_n 1, 1) := by decide +kernel
theorem dX5_cellOf_98 : decode cX5_cellOf 98 = .ok (.iaload, 1) := by decide +kernel
theorem dX5_cellOf_99 : decode cX5_cellOf 99 = .ok (.ireturn, 1) := by decide +kernel
theorem dX5_cellOf_100 : decode cX5_cellOf 100 = .ok (.aload_n 0, 1) := by decide +kernel
theorem dX5_cellOf_101 : decode cX5_cellOf 101 = .ok (.getfield 10, 3) := by decide +kernel
theorem dX5_cellOf_104 : decode cX5_cellOf 104 = .ok (.iload_n 1, 1) := by decide +kernel
theorem dX5_cellOf_105 : decode cX5_cellOf 105 = .ok (.invokevirtual 178, 3) := by decide +kernel
theorem dX5_cellOf_108 : decode cX5_cellOf 108 = .ok (.ireturn, 1) := by decide +kernel
theorem dX5_cellOf_109 : decode cX5_cellOf 109 = .ok (.aload_n 0, 1) := by decide +kernel
theorem dX5_cellOf_110 : decode cX5_cellOf 110 = .ok (.getfield 10, 3) := by decide +kernel
theorem dX5_cellOf_113 : decode cX5_cellOf 113 = .ok (.iload_n 1, 1) := by decide +kernel
theorem dX5_cellOf_114 : decode cX5_cellOf 114 = .ok (.invokevirtual 181, 3) := by decide +kernel
theorem dX5_cellOf_117 : decode cX5_cellOf 117 = .ok (.ireturn, 1) := by decide +kernel
theorem dX5_cellOf_118 : decode cX5_cellOf 118 = .ok (.aload_n 0, 1) := by decide +kernel
theorem dX5_cellOf_119 : decode cX5_cellOf 119 = .ok (.getfield 10, 3) := by decide +kernel
theorem dX5_cellOf_122 : decode cX5_cellOf 122 = .ok (.iload_n 1, 1) := by decide +kernel
theorem dX5_cellOf_123 : decode cX5_cellOf 123 = .ok (.invokevirtual 184, 3) := by decide +kernel
theorem dX5_cellOf_126 : decode cX5_cellOf 126 = .ok (.ireturn, 1) := by decide +kernel
theorem dX5_cellOf_127 : decode cX5_cellOf 127 = .ok (.aload_n 0, 1) := by decide +kernel
theorem dX5_cellOf_128 : decode cX5_cellOf 128 = .ok (.getfield 10, 3) := by decide +kernel
theorem dX5_cellOf_131 : decode cX5_cellOf 131 = .ok (.iload_n 1, 1) := by decide +kernel
theorem dX5_cellOf_132 : decode cX5_cellOf 132 = .ok (.invokevirtual 187, 3) := by decide +kernel
theorem dX5_cellOf_135 : decode cX5_cellOf 135 = .ok (.ifCond .eq 7, 3) := by decide +kernel
theorem dX5_cellOf_138 : decode cX5_cellOf 138 = .ok (.iconst 1, 1) := by decide +kernel
theorem dX5_cellOf_139 : decode cX5_cellOf 139 = .ok (.goto 4, 3) := by decide +kernel
theorem dX5_cellOf_142 : decode cX5_cellOf 142 = .ok (.iconst 0, 1) := by decide +kernel
theorem dX5_cellOf_143 : decode cX5_cellOf 143 = .ok (.ireturn, 1) := by decide +kernel
theorem dX5_cellOf_144 : decode cX5_cellOf 144 = .ok (.aload_n 0, 1) := by decide +kernel
theorem dX5_cellOf_145 : decode cX5_cellOf 145 = .ok (.bipush (-2), 2) := by decide +kernel
theorem dX5_cellOf_147 : decode cX5_cellOf 147 = .ok (.invokevirtual 69, 3) := by decide +kernel
theorem dX5_cellOf_150 : decode cX5_cellOf 150 = .ok (.ireturn, 1) := by decide +kernel
set_option maxRecDepth 100000 in
set_option maxHeartbeats 4000000 in
theorem k_X5_cellOf (κ : Kp) (xa : Nat → Nat → Nat) (X : XS) (c : Int) (w : Int)  (ha_c : In32 c) (ha_w : In32 w) (ok : okC (cl (X 0))) (hy : X 0 4 0 ≤ 999) : mI κ yX5_cellOf cX5_cellOf 3 .int 3 [.ref (xa 18 100), .int (iI c), .int (iI w)] (xw κ xa X) (qX κ xa X (qCellOf (cl (X 0)) c w)) := by
  refine mI_of (by decide) (Nat.le_of_ble_eq_true rfl) (fun E F K => ?_)
  refine g_lv (lv' := [(0, .ref (xa 18 100)), (1, .int (iI c)), (2, .int (iI w))]) rfl ?_
  refine g_iload_n F 1 dX5_cellOf_0 rfl ?_
  refine g_callSI F (stk := [.int (iI c)]) (st := []) (k_X5_isCell κ (xw κ xa X) c (by omega)) cal_X5_isCell lm_X5_134 rfl (by decide) rfl (Nat.le_of_ble_eq_true rfl) dX5_cellOf_1 (fun r1 ws1 _ hr1 => ?_)
  obtain ⟨rfl, rfl⟩ := hr1
  refine g_if_ne F 13 (b2i_in _) dX5_cellOf_4 (by decide) (fun c4 => ?_) (fun c4 => ?_)
  · skip
    have c4 : 0 ≤ c ∧ c < 12 := b2i_t c4
    refine g_iload_n F 2 dX5_cellOf_13 rfl ?_
    have hk : (0 ≤ X 0 0 c ∧ X 0 0 c ≤ 5) ∧ (0 ≤ X 0 1 c ∧ X 0 1 c ≤ 9) ∧ (0 ≤ X 0 2 c ∧ X 0 2 c ≤ 99) ∧ 0 ≤ X 0 3 c ∧ X 0 3 c ≤ 99 := ok.r (by omega) (by omega)
    have hy0 : 0 ≤ X 0 4 0 := ok.2
    have hp := pull_bd ok.A (c := c) (by omega) (by omega)
    have hw := wearing_bd ok.A (y := X 0 4 0 + 1) (c := c) (by omega) (by omega)
    have hh := hold_bd ok.A (c := c) (by omega) (by omega)
    by_cases c14_0 : w = 0
    · skip
      refine g_tsw_in F 60 (by omega) dX5_cellOf_14 (by omega) (by omega) (by rw [c14_0]; rfl) (by decide) ?_
      refine g_aload_n F 0 dX5_cellOf_60 rfl ?_
      refine g18_get_0 F  lf_X5_10 dX5_cellOf_61 ?_
      refine gc_getN_0 F (o := 0) (by decide) nf_X5_169 dX5_cellOf_64 ?_
      refine g_iload_n F 1 dX5_cellOf_67 rfl ?_
      refine gc_ald_0 F (o := 0) (by decide) (by omega) dX5_cellOf_68 ?_
      have hq : (X 0) 0 c = qCellOf (cl (X 0)) c w := by unfold qCellOf; show _ = if ¬ (0 ≤ c ∧ c < 12) then -1 else if w = 0 then X 0 0 c else if w = 1 then X 0 1 c else if w = 2 then X 0 2 c else if w = 3 then X 0 3 c else if w = 4 then pull (cl (X 0)) c else if w = 5 then wearing (cl (X 0)) (X 0 4 0 + 1) c else if w = 6 then hold (cl (X 0)) c else if w = 7 then (if hole (cl (X 0)) c then 1 else 0) else -2; (repeat' split) <;> omega
      exact K xw_same ⟨_, rfl, iIc hq, sX_0, (by rw [← hq]; exact (rfa_n (by omega)).symm)⟩ rfl dX5_cellOf_69
    by_cases c14_1 : w = 1
    · skip
      refine g_tsw_in F 70 (by omega) dX5_cellOf_14 (by omega) (by omega) (by rw [c14_1]; rfl) (by decide) ?_
      refine g_aload_n F 0 dX5_cellOf_70 rfl ?_
      refine g18_get_0 F  lf_X5_10 dX5_cellOf_71 ?_
      refine gc_getN_1 F (o := 0) (by decide) nf_X5_172 dX5_cellOf_74 ?_
      refine g_iload_n F 1 dX5_cellOf_77 rfl ?_
      refine gc_ald_1 F (o := 0) (by decide) (by omega) dX5_cellOf_78 ?_
      have hq : (X 0) 1 c = qCellOf (cl (X 0)) c w := by unfold qCellOf; show _ = if ¬ (0 ≤ c ∧ c < 12) then -1 else if w = 0 then X 0 0 c else if w = 1 then X 0 1 c else if w = 2 then X 0 2 c else if w = 3 then X 0 3 c else if w = 4 then pull (cl (X 0)) c else if w = 5 then wearing (cl (X 0)) (X 0 4 0 + 1) c else if w = 6 then hold (cl (X 0)) c else if w = 7 then (if hole (cl (X 0)) c then 1 else 0) else -2; (repeat' split) <;> omega
      exact K xw_same ⟨_, rfl, iIc hq, sX_0, (by rw [← hq]; exact (rfa_n (by omega)).symm)⟩ rfl dX5_cellOf_79
    by_cases c14_2 : w = 2
    · skip
      refine g_tsw_in F 80 (by omega) dX5_cellOf_14 (by omega) (by omega) (by rw [c14_2]; rfl) (by decide) ?_
      refine g_aload_n F 0 dX5_cellOf_80 rfl ?_
      refine g18_get_0 F  lf_X5_10 dX5_cellOf_81 ?_
      refine gc_getN_2 F (o := 0) (by decide) nf_X5_175 dX5_cellOf_84 ?_
      refine g_iload_n F 1 dX5_cellOf_87 rfl ?_
      refine gc_ald_2 F (o := 0) (by decide) (by omega) dX5_cellOf_88 ?_
      have hq : (X 0) 2 c = qCellOf (cl (X 0)) c w := by unfold qCellOf; show _ = if ¬ (0 ≤ c ∧ c < 12) then -1 else if w = 0 then X 0 0 c else if w = 1 then X 0 1 c else if w = 2 then X 0 2 c else if w = 3 then X 0 3 c else if w = 4 then pull (cl (X 0)) c else if w = 5 then wearing (cl (X 0)) (X 0 4 0 + 1) c else if w = 6 then hold (cl (X 0)) c else if w = 7 then (if hole (cl (X 0)) c then 1 else 0) else -2; (repeat' split) <;> omega
      exact K xw_same ⟨_, rfl, iIc hq, sX_0, (by rw [← hq]; exact (rfa_n (by omega)).symm)⟩ rfl dX5_cellOf_89
    by_cases c14_3 : w = 3
    · skip
      refine g_tsw_in F 90 (by omega) dX5_cellOf_14 (by omega) (by omega) (by rw [c14_3]; rfl) (by decide) ?_
      refine g_aload_n F 0 dX5_cellOf_90 rfl ?_
      refine g18_get_0 F  lf_X5_10 dX5_cellOf_91 ?_
      refine gc_getN_3 F (o := 0) (by decide) nf_X5_160 dX5_cellOf_94 ?_
      refine g_iload_n F 1 dX5_cellOf_97 rfl ?_
      refine gc_ald_3 F (o := 0) (by decide) (by omega) dX5_cellOf_98 ?_
      have hq : (X 0) 3 c = qCellOf (cl (X 0)) c w := by unfold qCellOf; show _ = if ¬ (0 ≤ c ∧ c < 12) then -1 else if w = 0 then X 0 0 c else if w = 1 then X 0 1 c else if w = 2 then X 0 2 c else if w = 3 then X 0 3 c else if w = 4 then pull (cl (X 0)) c else if w = 5 then wearing (cl (X 0)) (X 0 4 0 + 1) c else if w = 6 then hold (cl (X 0)) c else if w = 7 then (if hole (cl (X 0)) c then 1 else 0) else -2; (repeat' split) <;> omega
      exact K xw_same ⟨_, rfl, iIc hq, sX_0, (by rw [← hq]; exact (rfa_n (by omega)).symm)⟩ rfl dX5_cellOf_99
    by_cases c14_4 : w = 4
    · skip
      refine g_tsw_in F 100 (by omega) dX5_cellOf_14 (by omega) (by omega) (by rw [c14_4]; rfl) (by decide) ?_
      refine g_aload_n F 0 dX5_cellOf_100 rfl ?_
      refine g18_get_0 F  lf_X5_10 dX5_cellOf_101 ?_
      refine g_iload_n F 1 dX5_cellOf_104 rfl ?_
      refine g_callNI F (stk := [.int (iI c), .ref (xa 0 100)]) (st := []) (k_X0_pull κ xa X 0 (by decide) c (by omega) ok.A) cal_X0_pull nm_X5_178 0 rfl rfl rfl rfl (by decide) rfl (Nat.le_of_ble_eq_true rfl) dX5_cellOf_105 (fun r105 ws105 _ hr105 => ?_)
      obtain ⟨rfl, rfl⟩ := hr105
      have hq : pull (cl (X 0)) c = qCellOf (cl (X 0)) c w := by unfold qCellOf; show _ = if ¬ (0 ≤ c ∧ c < 12) then -1 else if w = 0 then X 0 0 c else if w = 1 then X 0 1 c else if w = 2 then X 0 2 c else if w = 3 then X 0 3 c else if w = 4 then pull (cl (X 0)) c else if w = 5 then wearing (cl (X 0)) (X 0 4 0 + 1) c else if w = 6 then hold (cl (X 0)) c else if w = 7 then (if hole (cl (X 0)) c then 1 else 0) else -2; (repeat' split) <;> omega
      exact K xw_same ⟨_, rfl, iIc hq, sX_0, (by rw [← hq]; exact (rfa_n (by omega)).symm)⟩ rfl dX5_cellOf_108
    by_cases c14_5 : w = 5
    · skip
      refine g_tsw_in F 109 (by omega) dX5_cellOf_14 (by omega) (by omega) (by rw [c14_5]; rfl) (by decide) ?_
      refine g_aload_n F 0 dX5_cellOf_109 rfl ?_
      refine g18_get_0 F  lf_X5_10 dX5_cellOf_110 ?_
      refine g_iload_n F 1 dX5_cellOf_113 rfl ?_
      refine g_callNI F (stk := [.int (iI c), .ref (xa 0 100)]) (st := []) (k_X0_wearing κ xa X 0 (by decide) c (by omega) (show 0 ≤ ((X 0) 4 0) ∧ ((X 0) 4 0) < 1000000 from by omega) ok.A) cal_X0_wearing nm_X5_181 0 rfl rfl rfl rfl (by decide) rfl (Nat.le_of_ble_eq_true rfl) dX5_cellOf_114 (fun r114 ws114 _ hr114 => ?_)
      obtain ⟨rfl, rfl⟩ := hr114
      have hq : wearing (cl (X 0)) ((X 0) 4 0 + 1) c = qCellOf (cl (X 0)) c w := by unfold qCellOf; show _ = if ¬ (0 ≤ c ∧ c < 12) then -1 else if w = 0 then X 0 0 c else if w = 1 then X 0 1 c else if w = 2 then X 0 2 c else if w = 3 then X 0 3 c else if w = 4 then pull (cl (X 0)) c else if w = 5 then wearing (cl (X 0)) (X 0 4 0 + 1) c else if w = 6 then hold (cl (X 0)) c else if w = 7 then (if hole (cl (X 0)) c then 1 else 0) else -2; (repeat' split) <;> omega
      exact K xw_same ⟨_, rfl, iIc hq, sX_0, (by rw [← hq]; exact (rfa_n (by omega)).symm)⟩ rfl dX5_cellOf_117
    by_cases c14_6 : w = 6
    · skip
      refine g_tsw_in F 118 (by omega) dX5_cellOf_14 (by omega) (by omega) (by rw [c14_6]; rfl) (by decide) ?_
      refine g_aload_n F 0 dX5_cellOf_118 rfl ?_
      refine g18_get_0 F  lf_X5_10 dX5_cellOf_119 ?_
      refine g_iload_n F 1 dX5_cellOf_122 rfl ?_
      refine g_callNI F (stk := [.int (iI c), .ref (xa 0 100)]) (st := []) (k_X0_hold κ xa X 0 (by decide) c (by omega) ok.A) cal_X0_hold nm_X5_184 0 rfl rfl rfl rfl (by decide) rfl (Nat.le_of_ble_eq_true rfl) dX5_cellOf_123 (fun r123 ws123 _ hr123 => ?_)
      obtain ⟨rfl, rfl⟩ := hr123
      have hq : hold (cl (X 0)) c = qCellOf (cl (X 0)) c w := by unfold qCellOf; show _ = if ¬ (0 ≤ c ∧ c < 12) then -1 else if w = 0 then X 0 0 c else if w = 1 then X 0 1 c else if w = 2 then X 0 2 c else if w = 3 then X 0 3 c else if w = 4 then pull (cl (X 0)) c else if w = 5 then wearing (cl (X 0)) (X 0 4 0 + 1) c else if w = 6 then hold (cl (X 0)) c else if w = 7 then (if hole (cl (X 0)) c then 1 else 0) else -2; (repeat' split) <;> omega
      exact K xw_same ⟨_, rfl, iIc hq, sX_0, (by rw [← hq]; exact (rfa_n (by omega)).symm)⟩ rfl dX5_cellOf_126
    by_cases c14_7 : w = 7
    · skip
      refine g_tsw_in F 127 (by omega) dX5_cellOf_14 (by omega) (by omega) (by rw [c14_7]; rfl) (by decide) ?_
      refine g_aload_n F 0 dX5_cellOf_127 rfl ?_
      refine g18_get_0 F  lf_X5_10 dX5_cellOf_128 ?_
      refine g_iload_n F 1 dX5_cellOf_131 rfl ?_
      refine g_callNI F (stk := [.int (iI c), .ref (xa 0 100)]) (st := []) (k_X0_isHole κ xa X 0 (by decide) c (by omega) ok) cal_X0_isHole nm_X5_187 0 rfl rfl rfl rfl (by decide) rfl (Nat.le_of_ble_eq_true rfl) dX5_cellOf_132 (fun r132 ws132 _ hr132 => ?_)
      obtain ⟨rfl, rfl⟩ := hr132
      refine g_if_eq F 142 (b2i_in _) dX5_cellOf_135 (by decide) (fun c135 => ?_) (fun c135 => ?_)
      · skip
        have c135 : ¬ (hole (cl (X 0)) c) := b2i_f c135
        refine g_iconst F dX5_cellOf_142 ?_
        have hq : 0 = qCellOf (cl (X 0)) c w := by unfold qCellOf; show _ = if ¬ (0 ≤ c ∧ c < 12) then -1 else if w = 0 then X 0 0 c else if w = 1 then X 0 1 c else if w = 2 then X 0 2 c else if w = 3 then X 0 3 c else if w = 4 then pull (cl (X 0)) c else if w = 5 then wearing (cl (X 0)) (X 0 4 0 + 1) c else if w = 6 then hold (cl (X 0)) c else if w = 7 then (if hole (cl (X 0)) c then 1 else 0) else -2; (repeat' split) <;> omega
        exact K xw_same ⟨_, rfl, iIc hq, sX_0, (by rw [← hq]; exact (rfa_n (by omega)).symm)⟩ rfl dX5_cellOf_143
      · skip
        have c135 : hole (cl (X 0)) c := b2i_t c135
        refine g_iconst F dX5_cellOf_138 ?_
        refine g_goto F 143 dX5_cellOf_139 (by decide) ?_
        have hq : 1 = qCellOf (cl (X 0)) c w := by unfold qCellOf; show _ = if ¬ (0 ≤ c ∧ c < 12) then -1 else if w = 0 then X 0 0 c else if w = 1 then X 0 1 c else if w = 2 then X 0 2 c else if w = 3 then X 0 3 c else if w = 4 then pull (cl (X 0)) c else if w = 5 then wearing (cl (X 0)) (X 0 4 0 + 1) c else if w = 6 then hold (cl (X 0)) c else if w = 7 then (if hole (cl (X 0)) c then 1 else 0) else -2; (repeat' split) <;> omega
        exact K xw_same ⟨_, rfl, iIc hq, sX_0, (by rw [← hq]; exact (rfa_n (by omega)).symm)⟩ rfl dX5_cellOf_143
    refine g_tsw_out F 144 (by omega) dX5_cellOf_14 (by omega) (by decide) ?_
    refine g_aload_n F 0 dX5_cellOf_144 rfl ?_
    refine g_bipush F dX5_cellOf_145 (by decide +kernel) ?_
    refine g_callI F (stk := [.int (iI (-2)), .ref (xa 18 100)]) (st := []) (k_X5_refuse κ xa X (-2) (by omega)) cal_X5_refuse lm_X5_69 81 rfl rfl rfl rfl (by decide) rfl (Nat.le_of_ble_eq_true rfl) dX5_cellOf_147 (fun r147 ws147 _ hr147 => ?_)
    obtain ⟨rfl, rfl⟩ := hr147
    have hq : (-2) = qCellOf (cl (X 0)) c w := by unfold qCellOf; show _ = if ¬ (0 ≤ c ∧ c < 12) then -1 else if w = 0 then X 0 0 c else if w = 1 then X 0 1 c else if w = 2 then X 0 2 c else if w = 3 then X 0 3 c else if w = 4 then pull (cl (X 0)) c else if w = 5 then wearing (cl (X 0)) (X 0 4 0 + 1) c else if w = 6 then hold (cl (X 0)) c else if w = 7 then (if hole (cl (X 0)) c then 1 else 0) else -2; (repeat' split) <;> omega
    exact K xw_same ⟨_, rfl, iIc hq, (sX_18 sX_0 rfl rfl rfl), (by rw [← hq]; exact (rfa_r (by omega)).symm)⟩ rfl dX5_cellOf_150
  · skip
    have c4 : ¬ (0 ≤ c ∧ c < 12) := b2i_f c4
    refine g_aload_n F 0 dX5_cellOf_7 rfl ?_
    refine g_iconst F dX5_cellOf_8 ?_
    refine g_callI F (stk := [.int (iI (-1)), .ref (xa 18 100)]) (st := []) (k_X5_refuse κ xa X (-1) (by omega)) cal_X5_refuse lm_X5_69 81 rfl rfl rfl rfl (by decide) rfl (Nat.le_of_ble_eq_true rfl) dX5_cellOf_9 (fun r9 ws9 _ hr9 => ?_)
    obtain ⟨rfl, rfl⟩ := hr9
    have hq : (-1) = qCellOf (cl (X 0)) c w := by unfold qCellOf; show _ = if ¬ (0 ≤ c ∧ c < 12) then -1 else if w = 0 then X 0 0 c else if w = 1 then X 0 1 c else if w = 2 then X 0 2 c else if w = 3 then X 0 3 c else if w = 4 then pull (cl (X 0)) c else if w = 5 then wearing (cl (X 0)) (X 0 4 0 + 1) c else if w = 6 then hold (cl (X 0)) c else if w = 7 then (if hole (cl (X 0)) c then 1 else 0) else -2; (repeat' split) <;> omega
    exact K xw_same ⟨_, rfl, iIc hq, (sX_18 sX_0 rfl rfl rfl), (by rw [← hq]; exact (rfa_r (by omega)).symm)⟩ rfl dX5_cellOf_12
theorem dX5_behind_0 : decode cX5_behind 0 = .ok (.iload_n 1, 1) := by decide +kernel
theorem dX5_behind_1 : decode cX5_behind 1 = .ok (.invokestatic 134, 3) := by decide +kernel
theorem dX5_behind_4 : decode cX5_behind 4 = .ok (.ifCond .ne 9, 3) := by decide +kernel
theorem dX5_behind_7 : decode cX5_behind 7 = .ok (.aload_n 0, 1) := by decide +kernel
theorem dX5_behind_8 : decode cX5_behind 8 = .ok (.iconst (-1), 1) := by decide +kernel
theorem dX5_behind_9 : decode cX5_behind 9 = .ok (.invokevirtual 69, 3) := by decide +kernel
theorem dX5_behind_12 : decode cX5_behind 12 = .ok (.ireturn, 1) := by decide +kernel
theorem dX5_behind_13 : decode cX5_behind 13 = .ok (.iload_n 2, 1) := by decide +kernel
theorem dX5_behind_14 : decode cX5_behind 14 = .ok (.ifCond .ge 10, 3) := by decide +kernel
theorem dX5_behind_17 : decode cX5_behind 17 = .ok (.aload_n 0, 1) := by decide +kernel
theorem dX5_behind_18 : decode cX5_behind 18 = .ok (.bipush (-4), 2) := by decide +kernel
theorem dX5_behind_20 : decode cX5_behind 20 = .ok (.invokevirtual 69, 3) := by decide +kernel
theorem dX5_behind_23 : decode cX5_behind 23 = .ok (.ireturn, 1) := by decide +kernel
theorem dX5_behind_24 : decode cX5_behind 24 = .ok (.iload_n 2, 1) := by decide +kernel
theorem dX5_behind_25 : decode cX5_behind 25 = .ok (.bipush 60, 2) := by decide +kernel
theorem dX5_behind_27 : decode cX5_behind 27 = .ok (.if_icmp .le 10, 3) := by decide +kernel
theorem dX5_behind_30 : decode cX5_behind 30 = .ok (.aload_n 0, 1) := by decide +kernel
theorem dX5_behind_31 : decode cX5_behind 31 = .ok (.bipush (-6), 2) := by decide +kernel
theorem dX5_behind_33 : decode cX5_behind 33 = .ok (.invokevirtual 69, 3) := by decide +kernel
theorem dX5_behind_36 : decode cX5_behind 36 = .ok (.ireturn, 1) := by decide +kernel
theorem dX5_behind_37 : decode cX5_behind 37 = .ok (.iload_n 3, 1) := by decide +kernel
theorem dX5_behind_38 : decode cX5_behind 38 = .ok (.ifCond .lt 8, 3) := by decide +kernel
theorem dX5_behind_41 : decode cX5_behind 41 = .ok (.iload_n 3, 1) := by decide +kernel
theorem dX5_behind_42 : decode cX5_behind 42 = .ok (.iconst 2, 1) := by decide +kernel
theorem dX5_behind_43 : decode cX5_behind 43 = .ok (.if_icmp .le 10, 3) := by decide +kernel
theorem dX5_behind_46 : decode cX5_behind 46 = .ok (.aload_n 0, 1) := by decide +kernel
theorem dX5_behind_47 : decode cX5_behind 47 = .ok (.bipush (-2), 2) := by decide +kernel
theorem dX5_behind_49 : decode cX5_behind 49 = .ok (.invokevirtual 69, 3) := by decide +kernel
theorem dX5_behind_52 : decode cX5_behind 52 = .ok (.ireturn, 1) := by decide +kernel
theorem dX5_behind_53 : decode cX5_behind 53 = .ok (.aload_n 0, 1) := by decide +kernel
theorem dX5_behind_54 : decode cX5_behind 54 = .ok (.iload_n 2, 1) := by decide +kernel
theorem dX5_behind_55 : decode cX5_behind 55 = .ok (.invokevirtual 215, 3) := by decide +kernel
theorem dX5_behind_58 : decode cX5_behind 58 = .ok (.iload_n 3, 1) := by decide +kernel
theorem dX5_behind_59 : decode cX5_behind 59 = .ok (.ifCond .ne 13, 3) := by decide +kernel
theorem dX5_behind_62 : decode cX5_behind 62 = .ok (.aload_n 0, 1) := by decide +kernel
theorem dX5_behind_63 : decode cX5_behind 63 = .ok (.getfield 50, 3) := by decide +kernel
theorem dX5_behind_66 : decode cX5_behind 66 = .ok (.getfield 160, 3) := by decide +kernel
theorem dX5_behind_69 : decode cX5_behind 69 = .ok (.iload_n 1, 1) := by decide +kernel
theorem dX5_behind_70 : decode cX5_behind 70 = .ok (.iaload, 1) := by decide +kernel
theorem dX5_behind_71 : decode cX5_behind 71 = .ok (.ireturn, 1) := by decide +kernel
theorem dX5_behind_72 : decode cX5_behind 72 = .ok (.iload_n 3, 1) := by decide +kernel
theorem dX5_behind_73 : decode cX5_behind 73 = .ok (.iconst 1, 1) := by decide +kernel
theorem dX5_behind_74 : decode cX5_behind 74 = .ok (.if_icmp .ne 12, 3) := by decide +kernel
theorem dX5_behind_77 : decode cX5_behind 77 = .ok (.aload_n 0, 1) := by decide +kernel
theorem dX5_behind_78 : decode cX5_behind 78 = .ok (.getfield 50, 3) := by decide +kernel
theorem dX5_behind_81 : decode cX5_behind 81 = .ok (.iload_n 1, 1) := by decide +kernel
theorem dX5_behind_82 : decode cX5_behind 82 = .ok (.invokevirtual 178, 3) := by decide +kernel
theorem dX5_behind_85 : decode cX5_behind 85 = .ok (.ireturn, 1) := by decide +kernel
theorem dX5_behind_86 : decode cX5_behind 86 = .ok (.aload_n 0, 1) := by decide +kernel
theorem dX5_behind_87 : decode cX5_behind 87 = .ok (.getfield 50, 3) := by decide +kernel
theorem dX5_behind_90 : decode cX5_behind 90 = .ok (.iload_n 1, 1) := by decide +kernel
theorem dX5_behind_91 : decode cX5_behind 91 = .ok (.invokevirtual 187, 3) := by decide +kernel
theorem dX5_behind_94 : decode cX5_behind 94 = .ok (.ifCond .eq 7, 3) := by decide +kernel
theorem dX5_behind_97 : decode cX5_behind 97 = .ok (.iconst 1, 1) := by decide +kernel
theorem dX5_behind_98 : decode cX5_behind 98 = .ok (.goto 4, 3) := by decide +kernel
theorem dX5_behind_101 : decode cX5_behind 101 = .ok (.iconst 0, 1) := by decide +kernel
theorem dX5_behind_102 : decode cX5_behind 102 = .ok (.ireturn, 1) := by decide +kernel
set_option maxRecDepth 100000 in
set_option maxHeartbeats 4000000 in
theorem k_X5_behind (κ : Kp) (xa : Nat → Nat → Nat) (X : XS) (c : Int) (n : Int) (w : Int)  (ha_c : In32 c) (ha_n : In32 n) (ha_w : In32 w) (ok : okC (cl (X 0))) (hy : X 0 4 0 ≤ 999) : mI κ yX5_behind cX5_behind 4 .int 5 [.ref (xa 18 100), .int (iI c), .int (iI n), .int (iI w)] (xw κ xa X) (qX κ xa X (qBehind (cl (X 0)) c n w)) := by
  refine mI_of (by decide) (Nat.le_of_ble_eq_true rfl) (fun E F K => ?_)
  refine g_lv (lv' := [(0, .ref (xa 18 100)), (1, .int (iI c)), (2, .int (iI n)), (3, .int (iI w))]) rfl ?_
  refine g_iload_n F 1 dX5_behind_0 rfl ?_
  refine g_callSI F (stk := [.int (iI c)]) (st := []) (k_X5_isCell κ (xw κ xa X) c (by omega)) cal_X5_isCell lm_X5_134 rfl (by decide) rfl (Nat.le_of_ble_eq_true rfl) dX5_behind_1 (fun r1 ws1 _ hr1 => ?_)
  obtain ⟨rfl, rfl⟩ := hr1
  refine g_if_ne F 13 (b2i_in _) dX5_behind_4 (by decide) (fun c4 => ?_) (fun c4 => ?_)
  · skip
    have c4 : 0 ≤ c ∧ c < 12 := b2i_t c4
    refine g_iload_n F 2 dX5_behind_13 rfl ?_
    refine g_if_ge F 24 (by omega) dX5_behind_14 (by decide) (fun c14 => ?_) (fun c14 => ?_)
    · skip
      refine g_iload_n F 2 dX5_behind_24 rfl ?_
      refine g_bipush F dX5_behind_25 (by decide +kernel) ?_
      refine g_icmp_le F 37 (by omega) dX5_behind_27 (by decide) (fun c27 => ?_) (fun c27 => ?_)
      · skip
        refine g_iload_n F 3 dX5_behind_37 rfl ?_
        refine g_if_lt F 46 (by omega) dX5_behind_38 (by decide) (fun c38 => ?_) (fun c38 => ?_)
        · skip
          refine g_aload_n F 0 dX5_behind_46 rfl ?_
          refine g_bipush F dX5_behind_47 (by decide +kernel) ?_
          refine g_callI F (stk := [.int (iI (-2)), .ref (xa 18 100)]) (st := []) (k_X5_refuse κ xa X (-2) (by omega)) cal_X5_refuse lm_X5_69 81 rfl rfl rfl rfl (by decide) rfl (Nat.le_of_ble_eq_true rfl) dX5_behind_49 (fun r49 ws49 _ hr49 => ?_)
          obtain ⟨rfl, rfl⟩ := hr49
          have hq : (-2) = qBehind (cl (X 0)) c n w := by unfold qBehind; (repeat' split) <;> omega
          exact K xw_same ⟨_, rfl, iIc hq, (sX_18 sX_0 rfl rfl rfl), (by rw [← hq]; exact (rfa_r (by omega)).symm)⟩ rfl dX5_behind_52
        · skip
          refine g_iload_n F 3 dX5_behind_41 rfl ?_
          refine g_iconst F dX5_behind_42 ?_
          refine g_icmp_le F 53 (by omega) dX5_behind_43 (by decide) (fun c43 => ?_) (fun c43 => ?_)
          · skip
            refine g_aload_n F 0 dX5_behind_53 rfl ?_
            refine g_iload_n F 2 dX5_behind_54 rfl ?_
            refine g_callV F (stk := [.int (iI n), .ref (xa 18 100)]) (st := []) (k_X5_thinkYears κ xa X n (show (0 ≤ n ∧ n ≤ 1000) ∧ ((X 0) 4 0) + n ≤ 1000000 from by omega) ok) cal_X5_thinkYears lm_X5_215 81 rfl rfl rfl rfl (by decide) rfl (Nat.le_of_ble_eq_true rfl) dX5_behind_55 (fun ws55 _ hr55 => ?_)
            obtain rfl := hr55
            refine g_iload_n F 3 dX5_behind_58 rfl ?_
            refine g_if_ne F 72 (by omega) dX5_behind_59 (by decide) (fun c59 => ?_) (fun c59 => ?_)
            · skip
              refine g_iload_n F 3 dX5_behind_72 rfl ?_
              refine g_iconst F dX5_behind_73 ?_
              refine g_icmp_ne F 86 (by omega) dX5_behind_74 (by decide) (fun c74 => ?_) (fun c74 => ?_)
              · skip
                refine g_aload_n F 0 dX5_behind_86 rfl ?_
                refine g18_get_10 F  lf_X5_50 dX5_behind_87 ?_
                refine g_iload_n F 1 dX5_behind_90 rfl ?_
                refine g_callNI F (stk := [.int (iI c), .ref (xa 2 100)]) (st := []) (kS_X0_isHole κ xa X 2 (by decide) (stC (X 2) (goI n (cl (X 0)))) c (by omega) (goI_ok ok n)) cal_X0_isHole nm_X5_187 10 rfl rfl rfl rfl (by decide) rfl (Nat.le_of_ble_eq_true rfl) dX5_behind_91 (fun r91 ws91 _ hr91 => ?_)
                obtain ⟨rfl, rfl⟩ := hr91
                refine g_top (y := iI (b2i (hole (goI n (cl (X 0))) c))) rfl ?_
                refine g_if_eq F 101 (b2i_in _) dX5_behind_94 (by decide) (fun c94 => ?_) (fun c94 => ?_)
                · skip
                  have c94 : ¬ (hole (goI n (cl (X 0))) c) := b2i_f c94
                  refine g_iconst F dX5_behind_101 ?_
                  have hq : 0 = qBehind (cl (X 0)) c n w := by unfold qBehind; (repeat' split) <;> omega
                  exact K xw_same ⟨_, rfl, iIc hq, (sX_o sX_0 (by decide)), (by rw [← hq]; exact (rfa_n (by omega)).symm)⟩ rfl dX5_behind_102
                · skip
                  have c94 : hole (goI n (cl (X 0))) c := b2i_t c94
                  refine g_iconst F dX5_behind_97 ?_
                  refine g_goto F 102 dX5_behind_98 (by decide) ?_
                  have hq : 1 = qBehind (cl (X 0)) c n w := by unfold qBehind; (repeat' split) <;> omega
                  exact K xw_same ⟨_, rfl, iIc hq, (sX_o sX_0 (by decide)), (by rw [← hq]; exact (rfa_n (by omega)).symm)⟩ rfl dX5_behind_102
              · skip
                refine g_aload_n F 0 dX5_behind_77 rfl ?_
                refine g18_get_10 F  lf_X5_50 dX5_behind_78 ?_
                refine g_iload_n F 1 dX5_behind_81 rfl ?_
                refine g_callNI F (stk := [.int (iI c), .ref (xa 2 100)]) (st := []) (kS_X0_pull κ xa X 2 (by decide) (stC (X 2) (goI n (cl (X 0)))) c (by omega) (goI_ok ok n).A) cal_X0_pull nm_X5_178 10 rfl rfl rfl rfl (by decide) rfl (Nat.le_of_ble_eq_true rfl) dX5_behind_82 (fun r82 ws82 _ hr82 => ?_)
                obtain ⟨rfl, rfl⟩ := hr82
                refine g_top (y := iI (pull (goI n (cl (X 0))) c)) rfl ?_
                have hp := pull_bd (goI_ok ok n).A (c := c) (by omega) (by omega)
                have hq : pull (goI n (cl (X 0))) c = qBehind (cl (X 0)) c n w := by unfold qBehind; (repeat' split) <;> omega
                exact K xw_same ⟨_, rfl, iIc hq, (sX_o sX_0 (by decide)), (by rw [← hq]; exact (rfa_n (by omega)).symm)⟩ rfl dX5_behind_85
            · skip
              refine g_aload_n F 0 dX5_behind_62 rfl ?_
              refine g18_get_10 F  lf_X5_50 dX5_behind_63 ?_
              refine gcS_getN_3 F (o := 2) (by decide) nf_X5_160 dX5_behind_66 ?_
              refine g_iload_n F 1 dX5_behind_69 rfl ?_
              refine gcS_ald_3 F (o := 2) (by decide) (by omega) dX5_behind_70 ?_
              refine g_top (y := iI ((we (goI n (cl (X 0)))) c)) rfl ?_
              have hww := (goI_ok ok n).w c (by omega) (by omega)
              have hq : (we (goI n (cl (X 0)))) c = qBehind (cl (X 0)) c n w := by unfold qBehind; (repeat' split) <;> omega
              exact K xw_same ⟨_, rfl, iIc hq, (sX_o sX_0 (by decide)), (by rw [← hq]; exact (rfa_n (by omega)).symm)⟩ rfl dX5_behind_71
          · skip
            refine g_aload_n F 0 dX5_behind_46 rfl ?_
            refine g_bipush F dX5_behind_47 (by decide +kernel) ?_
            refine g_callI F (stk := [.int (iI (-2)), .ref (xa 18 100)]) (st := []) (k_X5_refuse κ xa X (-2) (by omega)) cal_X5_refuse lm_X5_69 81 rfl rfl rfl rfl (by decide) rfl (Nat.le_of_ble_eq_true rfl) dX5_behind_49 (fun r49 ws49 _ hr49 => ?_)
            obtain ⟨rfl, rfl⟩ := hr49
            have hq : (-2) = qBehind (cl (X 0)) c n w := by unfold qBehind; (repeat' split) <;> omega
            exact K xw_same ⟨_, rfl, iIc hq, (sX_18 sX_0 rfl rfl rfl), (by rw [← hq]; exact (rfa_r (by omega)).symm)⟩ rfl dX5_behind_52
      · skip
        refine g_aload_n F 0 dX5_behind_30 rfl ?_
        refine g_bipush F dX5_behind_31 (by decide +kernel) ?_
        refine g_callI F (stk := [.int (iI (-6)), .ref (xa 18 100)]) (st := []) (k_X5_refuse κ xa X (-6) (by omega)) cal_X5_refuse lm_X5_69 81 rfl rfl rfl rfl (by decide) rfl (Nat.le_of_ble_eq_true rfl) dX5_behind_33 (fun r33 ws33 _ hr33 => ?_)
        obtain ⟨rfl, rfl⟩ := hr33
        have hq : (-6) = qBehind (cl (X 0)) c n w := by unfold qBehind; (repeat' split) <;> omega
        exact K xw_same ⟨_, rfl, iIc hq, (sX_18 sX_0 rfl rfl rfl), (by rw [← hq]; exact (rfa_r (by omega)).symm)⟩ rfl dX5_behind_36
    · skip
      refine g_aload_n F 0 dX5_behind_17 rfl ?_
      refine g_bipush F dX5_behind_18 (by decide +kernel) ?_
      refine g_callI F (stk := [.int (iI (-4)), .ref (xa 18 100)]) (st := []) (k_X5_refuse κ xa X (-4) (by omega)) cal_X5_refuse lm_X5_69 81 rfl rfl rfl rfl (by decide) rfl (Nat.le_of_ble_eq_true rfl) dX5_behind_20 (fun r20 ws20 _ hr20 => ?_)
      obtain ⟨rfl, rfl⟩ := hr20
      have hq : (-4) = qBehind (cl (X 0)) c n w := by unfold qBehind; (repeat' split) <;> omega
      exact K xw_same ⟨_, rfl, iIc hq, (sX_18 sX_0 rfl rfl rfl), (by rw [← hq]; exact (rfa_r (by omega)).symm)⟩ rfl dX5_behind_23
  · skip
    have c4 : ¬ (0 ≤ c ∧ c < 12) := b2i_f c4
    refine g_aload_n F 0 dX5_behind_7 rfl ?_
    refine g_iconst F dX5_behind_8 ?_
    refine g_callI F (stk := [.int (iI (-1)), .ref (xa 18 100)]) (st := []) (k_X5_refuse κ xa X (-1) (by omega)) cal_X5_refuse lm_X5_69 81 rfl rfl rfl rfl (by decide) rfl (Nat.le_of_ble_eq_true rfl) dX5_behind_9 (fun r9 ws9 _ hr9 => ?_)
    obtain ⟨rfl, rfl⟩ := hr9
    have hq : (-1) = qBehind (cl (X 0)) c n w := by unfold qBehind; (repeat' split) <;> omega
    exact K xw_same ⟨_, rfl, iIc hq, (sX_18 sX_0 rfl rfl rfl), (by rw [← hq]; exact (rfa_r (by omega)).symm)⟩ rfl dX5_behind_12
theorem dX5_all_0 : decode cX5_all 0 = .ok (.iload_n 1, 1) := by decide +kernel
theorem dX5_all_1 : decode cX5_all 1 = .ok (.ifCond .ge 10, 3) := by decide +kernel
theorem dX5_all_4 : decode cX5_all 4 = .ok (.aload_n 0, 1) := by decide +kernel
theorem dX5_all_5 : decode cX5_all 5 = .ok (.bipush (-4), 2) := by decide +kernel
theorem dX5_all_7 : decode cX5_all 7 = .ok (.invokevirtual 69, 3) := by decide +kernel
theorem dX5_all_10 : decode cX5_all 10 = .ok (.ireturn, 1) := by decide +kernel
theorem dX5_all_11 : decode cX5_all 11 = .ok (.iload_n 1, 1) := by decide +kernel
theorem dX5_all_12 : decode cX5_all 12 = .ok (.bipush 60, 2) := by decide +kernel
theorem dX5_all_14 : decode cX5_all 14 = .ok (.if_icmp .le 10, 3) := by decide +kernel
theorem dX5_all_17 : decode cX5_all 17 = .ok (.aload_n 0, 1) := by decide +kernel
theorem dX5_all_18 : decode cX5_all 18 = .ok (.bipush (-6), 2) := by decide +kernel
theorem dX5_all_20 : decode cX5_all 20 = .ok (.invokevirtual 69, 3) := by decide +kernel
theorem dX5_all_23 : decode cX5_all 23 = .ok (.ireturn, 1) := by decide +kernel
theorem dX5_all_24 : decode cX5_all 24 = .ok (.iload_n 2, 1) := by decide +kernel
theorem dX5_all_25 : decode cX5_all 25 = .ok (.ifCond .lt 8, 3) := by decide +kernel
theorem dX5_all_28 : decode cX5_all 28 = .ok (.iload_n 2, 1) := by decide +kernel
theorem dX5_all_29 : decode cX5_all 29 = .ok (.iconst 2, 1) := by decide +kernel
theorem dX5_all_30 : decode cX5_all 30 = .ok (.if_icmp .le 10, 3) := by decide +kernel
theorem dX5_all_33 : decode cX5_all 33 = .ok (.aload_n 0, 1) := by decide +kernel
theorem dX5_all_34 : decode cX5_all 34 = .ok (.bipush (-2), 2) := by decide +kernel
theorem dX5_all_36 : decode cX5_all 36 = .ok (.invokevirtual 69, 3) := by decide +kernel
theorem dX5_all_39 : decode cX5_all 39 = .ok (.ireturn, 1) := by decide +kernel
theorem dX5_all_40 : decode cX5_all 40 = .ok (.aload_n 0, 1) := by decide +kernel
theorem dX5_all_41 : decode cX5_all 41 = .ok (.iload_n 1, 1) := by decide +kernel
theorem dX5_all_42 : decode cX5_all 42 = .ok (.invokevirtual 215, 3) := by decide +kernel
theorem dX5_all_45 : decode cX5_all 45 = .ok (.iload_n 2, 1) := by decide +kernel
theorem dX5_all_46 : decode cX5_all 46 = .ok (.ifCond .ne 14, 3) := by decide +kernel
theorem dX5_all_49 : decode cX5_all 49 = .ok (.aload_n 0, 1) := by decide +kernel
theorem dX5_all_50 : decode cX5_all 50 = .ok (.getfield 50, 3) := by decide +kernel
theorem dX5_all_53 : decode cX5_all 53 = .ok (.invokevirtual 203, 3) := by decide +kernel
theorem dX5_all_56 : decode cX5_all 56 = .ok (.invokestatic 206, 3) := by decide +kernel
theorem dX5_all_59 : decode cX5_all 59 = .ok (.ireturn, 1) := by decide +kernel
theorem dX5_all_60 : decode cX5_all 60 = .ok (.iload_n 2, 1) := by decide +kernel
theorem dX5_all_61 : decode cX5_all 61 = .ok (.iconst 1, 1) := by decide +kernel
theorem dX5_all_62 : decode cX5_all 62 = .ok (.if_icmp .ne 11, 3) := by decide +kernel
theorem dX5_all_65 : decode cX5_all 65 = .ok (.aload_n 0, 1) := by decide +kernel
theorem dX5_all_66 : decode cX5_all 66 = .ok (.getfield 50, 3) := by decide +kernel
theorem dX5_all_69 : decode cX5_all 69 = .ok (.invokevirtual 218, 3) := by decide +kernel
theorem dX5_all_72 : decode cX5_all 72 = .ok (.ireturn, 1) := by decide +kernel
theorem dX5_all_73 : decode cX5_all 73 = .ok (.aload_n 0, 1) := by decide +kernel
theorem dX5_all_74 : decode cX5_all 74 = .ok (.getfield 50, 3) := by decide +kernel
theorem dX5_all_77 : decode cX5_all 77 = .ok (.invokevirtual 200, 3) := by decide +kernel
theorem dX5_all_80 : decode cX5_all 80 = .ok (.ireturn, 1) := by decide +kernel
set_option maxRecDepth 100000 in
set_option maxHeartbeats 4000000 in
theorem k_X5_all (κ : Kp) (xa : Nat → Nat → Nat) (X : XS) (n : Int) (w : Int)  (ha_n : In32 n) (ha_w : In32 w) (ok : okC (cl (X 0))) (hy : X 0 4 0 ≤ 999) : mI κ yX5_all cX5_all 3 .int 5 [.ref (xa 18 100), .int (iI n), .int (iI w)] (xw κ xa X) (qX κ xa X (qAll (cl (X 0)) n w)) := by
  refine mI_of (by decide) (Nat.le_of_ble_eq_true rfl) (fun E F K => ?_)
  refine g_lv (lv' := [(0, .ref (xa 18 100)), (1, .int (iI n)), (2, .int (iI w))]) rfl ?_
  refine g_iload_n F 1 dX5_all_0 rfl ?_
  refine g_if_ge F 11 (by omega) dX5_all_1 (by decide) (fun c1 => ?_) (fun c1 => ?_)
  · skip
    refine g_iload_n F 1 dX5_all_11 rfl ?_
    refine g_bipush F dX5_all_12 (by decide +kernel) ?_
    refine g_icmp_le F 24 (by omega) dX5_all_14 (by decide) (fun c14 => ?_) (fun c14 => ?_)
    · skip
      refine g_iload_n F 2 dX5_all_24 rfl ?_
      refine g_if_lt F 33 (by omega) dX5_all_25 (by decide) (fun c25 => ?_) (fun c25 => ?_)
      · skip
        refine g_aload_n F 0 dX5_all_33 rfl ?_
        refine g_bipush F dX5_all_34 (by decide +kernel) ?_
        refine g_callI F (stk := [.int (iI (-2)), .ref (xa 18 100)]) (st := []) (k_X5_refuse κ xa X (-2) (by omega)) cal_X5_refuse lm_X5_69 81 rfl rfl rfl rfl (by decide) rfl (Nat.le_of_ble_eq_true rfl) dX5_all_36 (fun r36 ws36 _ hr36 => ?_)
        obtain ⟨rfl, rfl⟩ := hr36
        have hq : (-2) = qAll (cl (X 0)) n w := by unfold qAll; (repeat' split) <;> omega
        exact K xw_same ⟨_, rfl, iIc hq, (sX_18 sX_0 rfl rfl rfl), (by rw [← hq]; exact (rfa_r (by omega)).symm)⟩ rfl dX5_all_39
      · skip
        refine g_iload_n F 2 dX5_all_28 rfl ?_
        refine g_iconst F dX5_all_29 ?_
        refine g_icmp_le F 40 (by omega) dX5_all_30 (by decide) (fun c30 => ?_) (fun c30 => ?_)
        · skip
          refine g_aload_n F 0 dX5_all_40 rfl ?_
          refine g_iload_n F 1 dX5_all_41 rfl ?_
          refine g_callV F (stk := [.int (iI n), .ref (xa 18 100)]) (st := []) (k_X5_thinkYears κ xa X n (show (0 ≤ n ∧ n ≤ 1000) ∧ ((X 0) 4 0) + n ≤ 1000000 from by omega) ok) cal_X5_thinkYears lm_X5_215 81 rfl rfl rfl rfl (by decide) rfl (Nat.le_of_ble_eq_true rfl) dX5_all_42 (fun ws42 _ hr42 => ?_)
          obtain rfl := hr42
          refine g_iload_n F 2 dX5_all_45 rfl ?_
          refine g_if_ne F 60 (by omega) dX5_all_46 (by decide) (fun c46 => ?_) (fun c46 => ?_)
          · skip
            refine g_iload_n F 2 dX5_all_60 rfl ?_
            refine g_iconst F dX5_all_61 ?_
            refine g_icmp_ne F 73 (by omega) dX5_all_62 (by decide) (fun c62 => ?_) (fun c62 => ?_)
            · skip
              refine g_aload_n F 0 dX5_all_73 rfl ?_
              refine g18_get_10 F  lf_X5_50 dX5_all_74 ?_
              refine g_callNI F (stk := [.ref (xa 2 100)]) (st := []) (kS_X0_pullTogether κ xa X 2 (by decide) (stC (X 2) (goI n (cl (X 0)))) (goI_ok ok n).A) cal_X0_pullTogether nm_X5_200 10 rfl rfl rfl rfl (by decide) rfl (Nat.le_of_ble_eq_true rfl) dX5_all_77 (fun r77 ws77 _ hr77 => ?_)
              obtain ⟨rfl, rfl⟩ := hr77
              refine g_top (y := iI (allPull (goI n (cl (X 0))))) rfl ?_
              have h2 := allPull_bd (goI_ok ok n).A
              have hq : allPull (goI n (cl (X 0))) = qAll (cl (X 0)) n w := by unfold qAll; (repeat' split) <;> omega
              exact K xw_same ⟨_, rfl, iIc hq, (sX_o sX_0 (by decide)), (by rw [← hq]; exact (rfa_n (by omega)).symm)⟩ rfl dX5_all_80
            · skip
              refine g_aload_n F 0 dX5_all_65 rfl ?_
              refine g18_get_10 F  lf_X5_50 dX5_all_66 ?_
              refine g_callNI F (stk := [.ref (xa 2 100)]) (st := []) (kS_X0_wearTogether κ xa X 2 (by decide) (stC (X 2) (goI n (cl (X 0))))) cal_X0_wearTogether nm_X5_218 10 rfl rfl rfl rfl (by decide) rfl (Nat.le_of_ble_eq_true rfl) dX5_all_69 (fun r69 ws69 _ hr69 => ?_)
              obtain ⟨rfl, rfl⟩ := hr69
              refine g_top (y := iI (allWear (goI n (cl (X 0))))) rfl ?_
              have h1 := allWear_bd (goI_ok ok n)
              have hq : allWear (goI n (cl (X 0))) = qAll (cl (X 0)) n w := by unfold qAll; (repeat' split) <;> omega
              exact K xw_same ⟨_, rfl, iIc hq, (sX_o sX_0 (by decide)), (by rw [← hq]; exact (rfa_n (by omega)).symm)⟩ rfl dX5_all_72
          · skip
            refine g_aload_n F 0 dX5_all_49 rfl ?_
            refine g18_get_10 F  lf_X5_50 dX5_all_50 ?_
            refine g_callNI F (stk := [.ref (xa 2 100)]) (st := []) (kS_X0_holeBits κ xa X 2 (by decide) (stC (X 2) (goI n (cl (X 0)))) (goI_ok ok n)) cal_X0_holeBits nm_X5_203 10 rfl rfl rfl rfl (by decide) rfl (Nat.le_of_ble_eq_true rfl) dX5_all_53 (fun r53 ws53 _ hr53 => ?_)
            obtain ⟨rfl, rfl⟩ := hr53
            refine g_top (y := iI (hbits (goI n (cl (X 0))))) rfl ?_
            refine g_callSI F (stk := [.int (iI (hbits (goI n (cl (X 0)))))]) (st := []) (k_J6_bitCount_0f7a4 κ (xw κ xa (setO X 2 (stC (X 2) (goI n (cl (X 0)))))) (hbits (goI n (cl (X 0)))) (hbits_in _)) cal_J6_bitCount_0f7a4 lm_X5_206 rfl (by decide) rfl (Nat.le_of_ble_eq_true rfl) dX5_all_56 (fun r56 ws56 _ hr56 => ?_)
            obtain ⟨rfl, rfl⟩ := hr56
            have hp := pcnt_bd (hbits (goI n (cl (X 0))))
            have hq : pcnt (hbits (goI n (cl (X 0)))) = qAll (cl (X 0)) n w := by unfold qAll; (repeat' split) <;> omega
            exact K xw_same ⟨_, rfl, iIc hq, (sX_o sX_0 (by decide)), (by rw [← hq]; exact (rfa_n (by omega)).symm)⟩ rfl dX5_all_59
        · skip
          refine g_aload_n F 0 dX5_all_33 rfl ?_
          refine g_bipush F dX5_all_34 (by decide +kernel) ?_
          refine g_callI F (stk := [.int (iI (-2)), .ref (xa 18 100)]) (st := []) (k_X5_refuse κ xa X (-2) (by omega)) cal_X5_refuse lm_X5_69 81 rfl rfl rfl rfl (by decide) rfl (Nat.le_of_ble_eq_true rfl) dX5_all_36 (fun r36 ws36 _ hr36 => ?_)
          obtain ⟨rfl, rfl⟩ := hr36
          have hq : (-2) = qAll (cl (X 0)) n w := by unfold qAll; (repeat' split) <;> omega
          exact K xw_same ⟨_, rfl, iIc hq, (sX_18 sX_0 rfl rfl rfl), (by rw [← hq]; exact (rfa_r (by omega)).symm)⟩ rfl dX5_all_39
    · skip
      refine g_aload_n F 0 dX5_all_17 rfl ?_
      refine g_bipush F dX5_all_18 (by decide +kernel) ?_
      refine g_callI F (stk := [.int (iI (-6)), .ref (xa 18 100)]) (st := []) (k_X5_refuse κ xa X (-6) (by omega)) cal_X5_refuse lm_X5_69 81 rfl rfl rfl rfl (by decide) rfl (Nat.le_of_ble_eq_true rfl) dX5_all_20 (fun r20 ws20 _ hr20 => ?_)
      obtain ⟨rfl, rfl⟩ := hr20
      have hq : (-6) = qAll (cl (X 0)) n w := by unfold qAll; (repeat' split) <;> omega
      exact K xw_same ⟨_, rfl, iIc hq, (sX_18 sX_0 rfl rfl rfl), (by rw [← hq]; exact (rfa_r (by omega)).symm)⟩ rfl dX5_all_23
  · skip
    refine g_aload_n F 0 dX5_all_4 rfl ?_
    refine g_bipush F dX5_all_5 (by decide +kernel) ?_
    refine g_callI F (stk := [.int (iI (-4)), .ref (xa 18 100)]) (st := []) (k_X5_refuse κ xa X (-4) (by omega)) cal_X5_refuse lm_X5_69 81 rfl rfl rfl rfl (by decide) rfl (Nat.le_of_ble_eq_true rfl) dX5_all_7 (fun r7 ws7 _ hr7 => ?_)
    obtain ⟨rfl, rfl⟩ := hr7
    have hq : (-4) = qAll (cl (X 0)) n w := by unfold qAll; (repeat' split) <;> omega
    exact K xw_same ⟨_, rfl, iIc hq, (sX_18 sX_0 rfl rfl rfl), (by rw [← hq]; exact (rfa_r (by omega)).symm)⟩ rfl dX5_all_10
theorem dX5_entire_0 : decode cX5_entire 0 = .ok (.iconst 0, 1) := by decide +kernel
theorem dX5_entire_1 : decode cX5_entire 1 = .ok (.istore_n 1, 1) := by decide +kernel
theorem dX5_entire_2 : decode cX5_entire 2 = .ok (.iconst 0, 1) := by decide +kernel
theorem dX5_entire_3 : decode cX5_entire 3 = .ok (.istore_n 2, 1) := by decide +kernel
theorem dX5_entire_4 : decode cX5_entire 4 = .ok (.iload_n 2, 1) := by decide +kernel
theorem dX5_entire_5 : decode cX5_entire 5 = .ok (.bipush 12, 2) := by decide +kernel
theorem dX5_entire_7 : decode cX5_entire 7 = .ok (.if_icmp .ge 23, 3) := by decide +kernel
theorem dX5_entire_10 : decode cX5_entire 10 = .ok (.aload_n 0, 1) := by decide +kernel
theorem dX5_entire_11 : decode cX5_entire 11 = .ok (.getfield 10, 3) := by decide +kernel
theorem dX5_entire_14 : decode cX5_entire 14 = .ok (.iload_n 2, 1) := by decide +kernel
theorem dX5_entire_15 : decode cX5_entire 15 = .ok (.invokevirtual 178, 3) := by decide +kernel
theorem dX5_entire_18 : decode cX5_entire 18 = .ok (.ifCond .ne 6, 3) := by decide +kernel
theorem dX5_entire_21 : decode cX5_entire 21 = .ok (.iinc 1 1, 3) := by decide +kernel
theorem dX5_entire_24 : decode cX5_entire 24 = .ok (.iinc 2 1, 3) := by decide +kernel
theorem dX5_entire_27 : decode cX5_entire 27 = .ok (.goto (-23), 3) := by decide +kernel
theorem dX5_entire_30 : decode cX5_entire 30 = .ok (.iload_n 1, 1) := by decide +kernel
theorem dX5_entire_31 : decode cX5_entire 31 = .ok (.ireturn, 1) := by decide +kernel
set_option maxRecDepth 100000 in
set_option maxHeartbeats 4000000 in
theorem k_X5_entire (κ : Kp) (xa : Nat → Nat → Nat) (X : XS)  (ok : okC (cl (X 0))) : mI κ yX5_entire cX5_entire 3 .int 2 [.ref (xa 18 100)] (xw κ xa X) (qX κ xa X (qEntire (cl (X 0)))) := by
  refine mI_of (by decide) (Nat.le_of_ble_eq_true rfl) (fun E F K => ?_)
  refine g_lv (lv' := [(0, .ref (xa 18 100))]) rfl ?_
  refine g_iconst F dX5_entire_0 ?_
  refine g_istore_n F (lv' := [(1, .int (iI 0)), (0, .ref (xa 18 100))]) 1 dX5_entire_1 rfl (by decide) rfl ?_
  refine g_iconst F dX5_entire_2 ?_
  refine g_istore_n F (lv' := [(2, .int (iI 0)), (1, .int (iI 0)), (0, .ref (xa 18 100))]) 2 dX5_entire_3 rfl (by decide) rfl ?_
  have L4 : ∀ (mz4 : Nat) (i : Int) (s : Int), (12 - i).toNat = mz4 → (0 ≤ i ∧ i ≤ 12) → (s = sumI (fun c => if pull (cl (X 0)) c = 0 then 1 else 0) i) → (0 ≤ s) → G E (xw κ xa X) [(2, .int (iI i)), (1, .int (iI s)), (0, .ref (xa 18 100))] 4 [] := by
    intro mz4
    induction mz4 using Nat.strongRecOn with
    | _ mz4 ih4 =>
    intro i s hmz4 hi hs hsb
    refine g_iload_n F 0 dX5_entire_4 rfl ?_
    refine g_bipush F dX5_entire_5 (by decide +kernel) ?_
    refine g_icmp_ge F 30 (by omega) dX5_entire_7 (by decide) (fun c7 => ?_) (fun c7 => ?_)
    · skip
      refine g_iload_n F 1 dX5_entire_30 rfl ?_
      have hq : s = qEntire (cl (X 0)) := by rw [hs, show i = 12 by omega]; rfl
      exact K xw_same ⟨_, rfl, iIc hq, sX_0, (by rw [← hq]; exact (rfa_n (by omega)).symm)⟩ rfl dX5_entire_31
    · skip
      have hp := pull_bd ok.A hi.1 c7
      refine g_aload_n F 2 dX5_entire_10 rfl ?_
      refine g18_get_0 F  lf_X5_10 dX5_entire_11 ?_
      refine g_iload_n F 0 dX5_entire_14 rfl ?_
      refine g_callNI F (stk := [.int (iI i), .ref (xa 0 100)]) (st := []) (k_X0_pull κ xa X 0 (by decide) i (by omega) ok.A) cal_X0_pull nm_X5_178 0 rfl rfl rfl rfl (by decide) rfl (Nat.le_of_ble_eq_true rfl) dX5_entire_15 (fun r15 ws15 _ hr15 => ?_)
      obtain ⟨rfl, rfl⟩ := hr15
      refine g_if_ne F 24 (by omega) dX5_entire_18 (by decide) (fun c18 => ?_) (fun c18 => ?_)
      · skip
        refine g_iinc F (lv' := [(2, .int (iI (i + 1))), (1, .int (iI s)), (0, .ref (xa 18 100))]) 0 dX5_entire_24 rfl (by decide) rfl ?_
        refine g_goto F 4 dX5_entire_27 (by decide) ?_
        refine g_sub F (lv' := [(2, .int (iI (i + 1))), (1, .int (iI s)), (0, .ref (xa 18 100))]) [0, 1, 2] rfl ?_
        exact ih4 _ (by omega) (i + 1) s rfl (by omega) (by rw [sumI_s _ hi.1, ← hs]; split <;> omega) (by omega)
      · skip
        refine g_iinc F (lv' := [(1, .int (iI (s + 1))), (2, .int (iI i)), (0, .ref (xa 18 100))]) 1 dX5_entire_21 rfl (by decide) rfl ?_
        refine g_iinc F (lv' := [(2, .int (iI (i + 1))), (1, .int (iI (s + 1))), (0, .ref (xa 18 100))]) 1 dX5_entire_24 rfl (by decide) rfl ?_
        refine g_goto F 4 dX5_entire_27 (by decide) ?_
        refine g_sub F (lv' := [(2, .int (iI (i + 1))), (1, .int (iI (s + 1))), (0, .ref (xa 18 100))]) [0, 1, 2] rfl ?_
        exact ih4 _ (by omega) (i + 1) (s + 1) rfl (by omega) (by rw [sumI_s _ hi.1, ← hs]; split <;> omega) (by omega)
  refine g_sub F (lv' := [(2, .int (iI 0)), (1, .int (iI 0)), (0, .ref (xa 18 100))]) [0, 1, 2] rfl ?_
  exact L4 _ 0 0 rfl (by omega) (sumI_0 _).symm (by omega)
