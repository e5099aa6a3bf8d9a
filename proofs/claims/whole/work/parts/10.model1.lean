def held (v h : Int) : Int := if v < 0 then 0 else if h < v then h else v
def aprt (a b : Int) : Int := if b < a then a - b else b - a
theorem aprt_abs (a b : Int) : aprt a b = ((a - b).natAbs : Int) := by unfold aprt; split <;> omega
def nbM (c w : Int) : Int := if nb c w < 0 then -9 else nb c w
theorem nbM_in {c w : Int} (h0 : 0 ≤ c) (h1 : c < 12) (w0 : 0 ≤ w) (w1 : w < 4) : -9 ≤ nbM c w ∧ nbM c w < 12 ∧ (0 ≤ nbM c w → nb c w = nbM c w) ∧ (nbM c w < 0 → nb c w < 0) := by
  have := nb_in h0 h1 w0 w1
  unfold nbM
  split <;> omega
theorem held_max {x : Int} (h : x ≤ 9999) : held x 9999 = max 0 x := by
  unfold held
  by_cases h1 : x < 0
  · rw [if_pos h1]; omega
  · rw [if_neg h1, if_neg (by omega)]; omega
theorem held_wear {C : Cl} (ok : okC C) {c : Int} (h0 : 0 ≤ c) (h1 : c < 12) : held (we C c + wearing C (yr C + 1) c) 99 = wearOn C c := by
  have h := wearing_bd ok.A (y := yr C + 1) h0 h1
  have h2 := ok.r h0 h1
  unfold held wearOn
  repeat' split
  all_goals omega
theorem held_age {C : Cl} (ok : okC C) {c : Int} (h0 : 0 ≤ c) (h1 : c < 12) : held (ag C c + 1) 99 = ageOn C 1 c := by
  have h2 := ok.r h0 h1
  unfold held ageOn
  repeat' split
  all_goals omega

theorem dX6_in_0 : decode cX6_in 0 = .ok (.lload_n 0, 1) := by decide +kernel
theorem dX6_in_1 : decode cX6_in 1 = .ok (.lload_n 2, 1) := by decide +kernel
theorem dX6_in_2 : decode cX6_in 2 = .ok (.lcmp, 1) := by decide +kernel
theorem dX6_in_3 : decode cX6_in 3 = .ok (.ifCond .lt 14, 3) := by decide +kernel
theorem dX6_in_6 : decode cX6_in 6 = .ok (.lload_n 0, 1) := by decide +kernel
theorem dX6_in_7 : decode cX6_in 7 = .ok (.lload 4, 2) := by decide +kernel
theorem dX6_in_9 : decode cX6_in 9 = .ok (.lcmp, 1) := by decide +kernel
theorem dX6_in_10 : decode cX6_in 10 = .ok (.ifCond .gt 7, 3) := by decide +kernel
theorem dX6_in_13 : decode cX6_in 13 = .ok (.iconst 1, 1) := by decide +kernel
theorem dX6_in_14 : decode cX6_in 14 = .ok (.goto 4, 3) := by decide +kernel
theorem dX6_in_17 : decode cX6_in 17 = .ok (.iconst 0, 1) := by decide +kernel
theorem dX6_in_18 : decode cX6_in 18 = .ok (.ireturn, 1) := by decide +kernel
set_option maxRecDepth 100000 in
set_option maxHeartbeats 4000000 in
theorem k_X6_in (κ : Kp) (ws : va_W) (v : Int) (lo : Int) (hi : Int)  (hr : In64 v ∧ In64 lo ∧ In64 hi) : mI κ yX6_in cX6_in 6 .boolean 0 [.long (iL v), .long (iL lo), .long (iL hi)] ws (is1 (iI (b2i (lo ≤ v ∧ v ≤ hi))) ws) := by
  refine mI_of (by decide) (Nat.le_of_ble_eq_true rfl) (fun E F K => ?_)
  refine g_lv (lv' := [(0, .long (iL v)), (2, .long (iL lo)), (4, .long (iL hi))]) rfl ?_
  refine g_lload_n F 0 dX6_in_0 rfl ?_
  refine g_lload_n F 1 dX6_in_1 rfl ?_
  refine g_lcmp F (by omega) dX6_in_2 ?_
  refine g_if_lt F 17 (icmp_in _ _) dX6_in_3 (by decide) (fun c3 => ?_) (fun c3 => ?_)
  · skip
    have c3 := icmp_ltt c3
    refine g_iconst F dX6_in_17 ?_
    exact K sameA.rf ⟨b2i_0 (by omega), rfl⟩ (by decide +kernel) dX6_in_18
  · skip
    have c3 := icmp_ltf c3
    refine g_lload_n F 0 dX6_in_6 rfl ?_
    refine g_lload F 2 dX6_in_7 rfl ?_
    refine g_lcmp F (by omega) dX6_in_9 ?_
    refine g_if_gt F 17 (icmp_in _ _) dX6_in_10 (by decide) (fun c10 => ?_) (fun c10 => ?_)
    · skip
      have c10 := icmp_gtt c10
      refine g_iconst F dX6_in_17 ?_
      exact K sameA.rf ⟨b2i_0 (by omega), rfl⟩ (by decide +kernel) dX6_in_18
    · skip
      have c10 := icmp_gtf c10
      refine g_iconst F dX6_in_13 ?_
      refine g_goto F 18 dX6_in_14 (by decide) ?_
      exact K sameA.rf ⟨b2i_1 (by omega), rfl⟩ (by decide +kernel) dX6_in_18
theorem dX6_isCell_0 : decode cX6_isCell 0 = .ok (.iload_n 0, 1) := by decide +kernel
theorem dX6_isCell_1 : decode cX6_isCell 1 = .ok (.i2l, 1) := by decide +kernel
theorem dX6_isCell_2 : decode cX6_isCell 2 = .ok (.lconst 0, 1) := by decide +kernel
theorem dX6_isCell_3 : decode cX6_isCell 3 = .ok (.ldc2_w 95, 3) := by decide +kernel
theorem dX6_isCell_6 : decode cX6_isCell 6 = .ok (.invokestatic 97, 3) := by decide +kernel
theorem dX6_isCell_9 : decode cX6_isCell 9 = .ok (.ireturn, 1) := by decide +kernel
set_option maxRecDepth 100000 in
set_option maxHeartbeats 4000000 in
theorem k_X6_isCell (κ : Kp) (ws : va_W) (c : Int)  (hr : In32 c) : mI κ yX6_isCell cX6_isCell 1 .boolean 1 [.int (iI c)] ws (is1 (iI (b2i (0 ≤ c ∧ c < 12))) ws) := by
  refine mI_of (by decide) (Nat.le_of_ble_eq_true rfl) (fun E F K => ?_)
  refine g_lv (lv' := [(0, .int (iI c))]) rfl ?_
  refine g_iload_n F 0 dX6_isCell_0 rfl ?_
  refine g_i2l F (by omega) dX6_isCell_1 ?_
  refine g_lconst F (z := 0) dX6_isCell_2 rfl ?_
  refine g_ldc2 F (z := 11) ll_X6_95 (by decide +kernel) dX6_isCell_3 ?_
  refine g_callSI F (stk := [.long (iL 11), .long (iL 0), .long (iL c)]) (st := []) (k_X6_in κ ws c 0 11 (by omega)) cal_X6_in lm_X6_97 rfl (by decide) rfl (Nat.le_of_ble_eq_true rfl) dX6_isCell_6 (fun r6 ws6 _ hr6 => ?_)
  obtain ⟨rfl, rfl⟩ := hr6
  exact K sameA.rf ⟨b2i_c (by omega), rfl⟩ (b2i_nar _) dX6_isCell_9
theorem dX6_wrongNumber_0 : decode cX6_wrongNumber 0 = .ok (.iload_n 0, 1) := by decide +kernel
theorem dX6_wrongNumber_1 : decode cX6_wrongNumber 1 = .ok (.iload_n 1, 1) := by decide +kernel
theorem dX6_wrongNumber_2 : decode cX6_wrongNumber 2 = .ok (.if_icmp .ge 8, 3) := by decide +kernel
theorem dX6_wrongNumber_5 : decode cX6_wrongNumber 5 = .ok (.bipush (-4), 2) := by decide +kernel
theorem dX6_wrongNumber_7 : decode cX6_wrongNumber 7 = .ok (.goto 14, 3) := by decide +kernel
theorem dX6_wrongNumber_10 : decode cX6_wrongNumber 10 = .ok (.iload_n 0, 1) := by decide +kernel
theorem dX6_wrongNumber_11 : decode cX6_wrongNumber 11 = .ok (.iload_n 2, 1) := by decide +kernel
theorem dX6_wrongNumber_12 : decode cX6_wrongNumber 12 = .ok (.if_icmp .le 8, 3) := by decide +kernel
theorem dX6_wrongNumber_15 : decode cX6_wrongNumber 15 = .ok (.bipush (-6), 2) := by decide +kernel
theorem dX6_wrongNumber_17 : decode cX6_wrongNumber 17 = .ok (.goto 4, 3) := by decide +kernel
theorem dX6_wrongNumber_20 : decode cX6_wrongNumber 20 = .ok (.iconst 0, 1) := by decide +kernel
theorem dX6_wrongNumber_21 : decode cX6_wrongNumber 21 = .ok (.ireturn, 1) := by decide +kernel
set_option maxRecDepth 100000 in
set_option maxHeartbeats 4000000 in
theorem k_X6_wrongNumber (κ : Kp) (ws : va_W) (v : Int) (lo : Int) (hi : Int)  (hr : In32 v ∧ In32 lo ∧ In32 hi) : mI κ yX6_wrongNumber cX6_wrongNumber 3 .int 0 [.int (iI v), .int (iI lo), .int (iI hi)] ws (is1 (iI (wnum v lo hi)) ws) := by
  refine mI_of (by decide) (Nat.le_of_ble_eq_true rfl) (fun E F K => ?_)
  refine g_lv (lv' := [(0, .int (iI v)), (1, .int (iI lo)), (2, .int (iI hi))]) rfl ?_
  refine g_iload_n F 0 dX6_wrongNumber_0 rfl ?_
  refine g_iload_n F 1 dX6_wrongNumber_1 rfl ?_
  refine g_icmp_ge F 10 (by omega) dX6_wrongNumber_2 (by decide) (fun c2 => ?_) (fun c2 => ?_)
  · skip
    refine g_iload_n F 0 dX6_wrongNumber_10 rfl ?_
    refine g_iload_n F 2 dX6_wrongNumber_11 rfl ?_
    refine g_icmp_le F 20 (by omega) dX6_wrongNumber_12 (by decide) (fun c12 => ?_) (fun c12 => ?_)
    · skip
      refine g_iconst F dX6_wrongNumber_20 ?_
      exact K sameA.rf ⟨congrArg iI (by unfold wnum; first | rw [if_pos (by omega)] | rw [if_neg (by omega), if_pos (by omega)] | rw [if_neg (by omega), if_neg (by omega)]), rfl⟩ rfl dX6_wrongNumber_21
    · skip
      refine g_bipush F dX6_wrongNumber_15 (by decide +kernel) ?_
      refine g_goto F 21 dX6_wrongNumber_17 (by decide) ?_
      exact K sameA.rf ⟨congrArg iI (by unfold wnum; first | rw [if_pos (by omega)] | rw [if_neg (by omega), if_pos (by omega)] | rw [if_neg (by omega), if_neg (by omega)]), rfl⟩ rfl dX6_wrongNumber_21
  · skip
    refine g_bipush F dX6_wrongNumber_5 (by decide +kernel) ?_
    refine g_goto F 21 dX6_wrongNumber_7 (by decide) ?_
    exact K sameA.rf ⟨congrArg iI (by unfold wnum; first | rw [if_pos (by omega)] | rw [if_neg (by omega), if_pos (by omega)] | rw [if_neg (by omega), if_neg (by omega)]), rfl⟩ rfl dX6_wrongNumber_21
theorem dX6_wrongBit_0 : decode cX6_wrongBit 0 = .ok (.iload_n 0, 1) := by decide +kernel
theorem dX6_wrongBit_1 : decode cX6_wrongBit 1 = .ok (.ifCond .ne 19, 3) := by decide +kernel
theorem dX6_wrongBit_4 : decode cX6_wrongBit 4 = .ok (.iload_n 1, 1) := by decide +kernel
theorem dX6_wrongBit_5 : decode cX6_wrongBit 5 = .ok (.i2l, 1) := by decide +kernel
theorem dX6_wrongBit_6 : decode cX6_wrongBit 6 = .ok (.lconst 0, 1) := by decide +kernel
theorem dX6_wrongBit_7 : decode cX6_wrongBit 7 = .ok (.iload_n 2, 1) := by decide +kernel
theorem dX6_wrongBit_8 : decode cX6_wrongBit 8 = .ok (.i2l, 1) := by decide +kernel
theorem dX6_wrongBit_9 : decode cX6_wrongBit 9 = .ok (.invokestatic 97, 3) := by decide +kernel
theorem dX6_wrongBit_12 : decode cX6_wrongBit 12 = .ok (.ifCond .ne 8, 3) := by decide +kernel
theorem dX6_wrongBit_15 : decode cX6_wrongBit 15 = .ok (.bipush (-2), 2) := by decide +kernel
theorem dX6_wrongBit_17 : decode cX6_wrongBit 17 = .ok (.goto 4, 3) := by decide +kernel
theorem dX6_wrongBit_20 : decode cX6_wrongBit 20 = .ok (.iload_n 0, 1) := by decide +kernel
theorem dX6_wrongBit_21 : decode cX6_wrongBit 21 = .ok (.ireturn, 1) := by decide +kernel
set_option maxRecDepth 100000 in
set_option maxHeartbeats 4000000 in
theorem k_X6_wrongBit (κ : Kp) (ws : va_W) (w : Int) (v : Int) (m : Int)  (hr : (In32 w ∧ In32 v) ∧ In32 m ∧ 0 ≤ m) : mI κ yX6_wrongBit cX6_wrongBit 3 .int 1 [.int (iI w), .int (iI v), .int (iI m)] ws (is1 (iI (wbit w v m)) ws) := by
  refine mI_of (by decide) (Nat.le_of_ble_eq_true rfl) (fun E F K => ?_)
  refine g_lv (lv' := [(0, .int (iI w)), (1, .int (iI v)), (2, .int (iI m))]) rfl ?_
  refine g_iload_n F 0 dX6_wrongBit_0 rfl ?_
  refine g_if_ne F 20 (by omega) dX6_wrongBit_1 (by decide) (fun c1 => ?_) (fun c1 => ?_)
  · skip
    refine g_iload_n F 0 dX6_wrongBit_20 rfl ?_
    exact K sameA.rf ⟨congrArg iI (by unfold wbit; first | rw [if_pos (by omega)] | rw [if_neg (by omega)]), rfl⟩ rfl dX6_wrongBit_21
  · skip
    refine g_iload_n F 1 dX6_wrongBit_4 rfl ?_
    refine g_i2l F (by omega) dX6_wrongBit_5 ?_
    refine g_lconst F (z := 0) dX6_wrongBit_6 rfl ?_
    refine g_iload_n F 2 dX6_wrongBit_7 rfl ?_
    refine g_i2l F (by omega) dX6_wrongBit_8 ?_
    refine g_callSI F (stk := [.long (iL m), .long (iL 0), .long (iL v)]) (st := []) (k_X6_in κ ws v 0 m (by omega)) cal_X6_in lm_X6_97 rfl (by decide) rfl (Nat.le_of_ble_eq_true rfl) dX6_wrongBit_9 (fun r9 ws9 _ hr9 => ?_)
    obtain ⟨rfl, rfl⟩ := hr9
    refine g_if_ne F 20 (b2i_in _) dX6_wrongBit_12 (by decide) (fun c12 => ?_) (fun c12 => ?_)
    · skip
      have c12 : 0 ≤ v ∧ v ≤ m := b2i_t c12
      refine g_iload_n F 0 dX6_wrongBit_20 rfl ?_
      exact K sameA.rf ⟨congrArg iI (by unfold wbit; first | rw [if_pos (by omega)] | rw [if_neg (by omega)]), rfl⟩ rfl dX6_wrongBit_21
    · skip
      have c12 : ¬ (0 ≤ v ∧ v ≤ m) := b2i_f c12
      refine g_bipush F dX6_wrongBit_15 (by decide +kernel) ?_
      refine g_goto F 21 dX6_wrongBit_17 (by decide) ?_
      exact K sameA.rf ⟨congrArg iI (by unfold wbit; first | rw [if_pos (by omega)] | rw [if_neg (by omega)]), rfl⟩ rfl dX6_wrongBit_21
theorem dX6_held_0 : decode cX6_held 0 = .ok (.iload_n 0, 1) := by decide +kernel
theorem dX6_held_1 : decode cX6_held 1 = .ok (.ifCond .ge 7, 3) := by decide +kernel
theorem dX6_held_4 : decode cX6_held 4 = .ok (.iconst 0, 1) := by decide +kernel
theorem dX6_held_5 : decode cX6_held 5 = .ok (.goto 13, 3) := by decide +kernel
theorem dX6_held_8 : decode cX6_held 8 = .ok (.iload_n 0, 1) := by decide +kernel
theorem dX6_held_9 : decode cX6_held 9 = .ok (.iload_n 1, 1) := by decide +kernel
theorem dX6_held_10 : decode cX6_held 10 = .ok (.if_icmp .le 7, 3) := by decide +kernel
theorem dX6_held_13 : decode cX6_held 13 = .ok (.iload_n 1, 1) := by decide +kernel
theorem dX6_held_14 : decode cX6_held 14 = .ok (.goto 4, 3) := by decide +kernel
theorem dX6_held_17 : decode cX6_held 17 = .ok (.iload_n 0, 1) := by decide +kernel
theorem dX6_held_18 : decode cX6_held 18 = .ok (.ireturn, 1) := by decide +kernel
set_option maxRecDepth 100000 in
set_option maxHeartbeats 4000000 in
theorem k_X6_held (κ : Kp) (ws : va_W) (v : Int) (h : Int)  (hr : In32 v ∧ In32 h) : mI κ yX6_held cX6_held 2 .int 0 [.int (iI v), .int (iI h)] ws (is1 (iI (held v h)) ws) := by
  refine mI_of (by decide) (Nat.le_of_ble_eq_true rfl) (fun E F K => ?_)
  refine g_lv (lv' := [(0, .int (iI v)), (1, .int (iI h))]) rfl ?_
  refine g_iload_n F 0 dX6_held_0 rfl ?_
  refine g_if_ge F 8 (by omega) dX6_held_1 (by decide) (fun c1 => ?_) (fun c1 => ?_)
  · skip
    refine g_iload_n F 0 dX6_held_8 rfl ?_
    refine g_iload_n F 1 dX6_held_9 rfl ?_
    refine g_icmp_le F 17 (by omega) dX6_held_10 (by decide) (fun c10 => ?_) (fun c10 => ?_)
    · skip
      refine g_iload_n F 0 dX6_held_17 rfl ?_
      exact K sameA.rf ⟨congrArg iI (by unfold held; first | rw [if_pos (by omega)] | rw [if_neg (by omega), if_pos (by omega)] | rw [if_neg (by omega), if_neg (by omega)]), rfl⟩ rfl dX6_held_18
    · skip
      refine g_iload_n F 1 dX6_held_13 rfl ?_
      refine g_goto F 18 dX6_held_14 (by decide) ?_
      exact K sameA.rf ⟨congrArg iI (by unfold held; first | rw [if_pos (by omega)] | rw [if_neg (by omega), if_pos (by omega)] | rw [if_neg (by omega), if_neg (by omega)]), rfl⟩ rfl dX6_held_18
  · skip
    refine g_iconst F dX6_held_4 ?_
    refine g_goto F 18 dX6_held_5 (by decide) ?_
    exact K sameA.rf ⟨congrArg iI (by unfold held; first | rw [if_pos (by omega)] | rw [if_neg (by omega), if_pos (by omega)] | rw [if_neg (by omega), if_neg (by omega)]), rfl⟩ rfl dX6_held_18
theorem dX6_apart_0 : decode cX6_apart 0 = .ok (.iload_n 0, 1) := by decide +kernel
theorem dX6_apart_1 : decode cX6_apart 1 = .ok (.iload_n 1, 1) := by decide +kernel
theorem dX6_apart_2 : decode cX6_apart 2 = .ok (.if_icmp .le 9, 3) := by decide +kernel
theorem dX6_apart_5 : decode cX6_apart 5 = .ok (.iload_n 0, 1) := by decide +kernel
theorem dX6_apart_6 : decode cX6_apart 6 = .ok (.iload_n 1, 1) := by decide +kernel
theorem dX6_apart_7 : decode cX6_apart 7 = .ok (.isub, 1) := by decide +kernel
theorem dX6_apart_8 : decode cX6_apart 8 = .ok (.goto 6, 3) := by decide +kernel
theorem dX6_apart_11 : decode cX6_apart 11 = .ok (.iload_n 1, 1) := by decide +kernel
theorem dX6_apart_12 : decode cX6_apart 12 = .ok (.iload_n 0, 1) := by decide +kernel
theorem dX6_apart_13 : decode cX6_apart 13 = .ok (.isub, 1) := by decide +kernel
theorem dX6_apart_14 : decode cX6_apart 14 = .ok (.ireturn, 1) := by decide +kernel
set_option maxRecDepth 100000 in
set_option maxHeartbeats 4000000 in
theorem k_X6_apart (κ : Kp) (ws : va_W) (a : Int) (b : Int)  (hr : In32 a ∧ In32 b) : mI κ yX6_apart cX6_apart 2 .int 0 [.int (iI a), .int (iI b)] ws (is1 (iI (aprt a b)) ws) := by
  refine mI_of (by decide) (Nat.le_of_ble_eq_true rfl) (fun E F K => ?_)
  refine g_lv (lv' := [(0, .int (iI a)), (1, .int (iI b))]) rfl ?_
  refine g_iload_n F 0 dX6_apart_0 rfl ?_
  refine g_iload_n F 1 dX6_apart_1 rfl ?_
  refine g_icmp_le F 11 (by omega) dX6_apart_2 (by decide) (fun c2 => ?_) (fun c2 => ?_)
  · skip
    refine g_iload_n F 1 dX6_apart_11 rfl ?_
    refine g_iload_n F 0 dX6_apart_12 rfl ?_
    refine g_isub F dX6_apart_13 ?_
    exact K sameA.rf ⟨congrArg iI (by unfold aprt; first | rw [if_pos (by omega)] | rw [if_neg (by omega)]), rfl⟩ rfl dX6_apart_14
  · skip
    refine g_iload_n F 0 dX6_apart_5 rfl ?_
    refine g_iload_n F 1 dX6_apart_6 rfl ?_
    refine g_isub F dX6_apart_7 ?_
    refine g_goto F 14 dX6_apart_8 (by decide) ?_
    exact K sameA.rf ⟨congrArg iI (by unfold aprt; first | rw [if_pos (by omega)] | rw [if_neg (by omega)]), rfl⟩ rfl dX6_apart_14
theorem dX6_besideOf_0 : decode cX6_besideOf 0 = .ok (.iload_n 1, 1) := by decide +kernel
theorem dX6_besideOf_1 : decode cX6_besideOf 1 = .ok (.tableswitch 72 0 2 #[27, 41, 56], 27) := by decide +kernel
theorem dX6_besideOf_28 : decode cX6_besideOf 28 = .ok (.iload_n 0, 1) := by decide +kernel
theorem dX6_besideOf_29 : decode cX6_besideOf 29 = .ok (.iconst 4, 1) := by decide +kernel
theorem dX6_besideOf_30 : decode cX6_besideOf 30 = .ok (.if_icmp .ge 8, 3) := by decide +kernel
theorem dX6_besideOf_33 : decode cX6_besideOf 33 = .ok (.bipush (-9), 2) := by decide +kernel
theorem dX6_besideOf_35 : decode cX6_besideOf 35 = .ok (.goto 6, 3) := by decide +kernel
theorem dX6_besideOf_38 : decode cX6_besideOf 38 = .ok (.iload_n 0, 1) := by decide +kernel
theorem dX6_besideOf_39 : decode cX6_besideOf 39 = .ok (.iconst 4, 1) := by decide +kernel
theorem dX6_besideOf_40 : decode cX6_besideOf 40 = .ok (.isub, 1) := by decide +kernel
theorem dX6_besideOf_41 : decode cX6_besideOf 41 = .ok (.ireturn, 1) := by decide +kernel
theorem dX6_besideOf_42 : decode cX6_besideOf 42 = .ok (.iload_n 0, 1) := by decide +kernel
theorem dX6_besideOf_43 : decode cX6_besideOf 43 = .ok (.iconst 4, 1) := by decide +kernel
theorem dX6_besideOf_44 : decode cX6_besideOf 44 = .ok (.irem, 1) := by decide +kernel
theorem dX6_besideOf_45 : decode cX6_besideOf 45 = .ok (.ifCond .ne 8, 3) := by decide +kernel
theorem dX6_besideOf_48 : decode cX6_besideOf 48 = .ok (.bipush (-9), 2) := by decide +kernel
theorem dX6_besideOf_50 : decode cX6_besideOf 50 = .ok (.goto 6, 3) := by decide +kernel
theorem dX6_besideOf_53 : decode cX6_besideOf 53 = .ok (.iload_n 0, 1) := by decide +kernel
theorem dX6_besideOf_54 : decode cX6_besideOf 54 = .ok (.iconst 1, 1) := by decide +kernel
theorem dX6_besideOf_55 : decode cX6_besideOf 55 = .ok (.isub, 1) := by decide +kernel
theorem dX6_besideOf_56 : decode cX6_besideOf 56 = .ok (.ireturn, 1) := by decide +kernel
theorem dX6_besideOf_57 : decode cX6_besideOf 57 = .ok (.iload_n 0, 1) := by decide +kernel
theorem dX6_besideOf_58 : decode cX6_besideOf 58 = .ok (.iconst 4, 1) := by decide +kernel
theorem dX6_besideOf_59 : decode cX6_besideOf 59 = .ok (.irem, 1) := by decide +kernel
theorem dX6_besideOf_60 : decode cX6_besideOf 60 = .ok (.iconst 3, 1) := by decide +kernel
theorem dX6_besideOf_61 : decode cX6_besideOf 61 = .ok (.if_icmp .ne 8, 3) := by decide +kernel
theorem dX6_besideOf_64 : decode cX6_besideOf 64 = .ok (.bipush (-9), 2) := by decide +kernel
theorem dX6_besideOf_66 : decode cX6_besideOf 66 = .ok (.goto 6, 3) := by decide +kernel
theorem dX6_besideOf_69 : decode cX6_besideOf 69 = .ok (.iload_n 0, 1) := by decide +kernel
theorem dX6_besideOf_70 : decode cX6_besideOf 70 = .ok (.iconst 1, 1) := by decide +kernel
theorem dX6_besideOf_71 : decode cX6_besideOf 71 = .ok (.iadd, 1) := by decide +kernel
theorem dX6_besideOf_72 : decode cX6_besideOf 72 = .ok (.ireturn, 1) := by decide +kernel
theorem dX6_besideOf_73 : decode cX6_besideOf 73 = .ok (.iload_n 0, 1) := by decide +kernel
theorem dX6_besideOf_74 : decode cX6_besideOf 74 = .ok (.bipush 7, 2) := by decide +kernel
theorem dX6_besideOf_76 : decode cX6_besideOf 76 = .ok (.if_icmp .le 8, 3) := by decide +kernel
theorem dX6_besideOf_79 : decode cX6_besideOf 79 = .ok (.bipush (-9), 2) := by decide +kernel
theorem dX6_besideOf_81 : decode cX6_besideOf 81 = .ok (.goto 6, 3) := by decide +kernel
theorem dX6_besideOf_84 : decode cX6_besideOf 84 = .ok (.iload_n 0, 1) := by decide +kernel
theorem dX6_besideOf_85 : decode cX6_besideOf 85 = .ok (.iconst 4, 1) := by decide +kernel
theorem dX6_besideOf_86 : decode cX6_besideOf 86 = .ok (.iadd, 1) := by decide +kernel
theorem dX6_besideOf_87 : decode cX6_besideOf 87 = .ok (.ireturn, 1) := by decide +kernel
set_option maxRecDepth 100000 in
set_option maxHeartbeats 4000000 in
theorem k_X6_besideOf (κ : Kp) (ws : va_W) (c : Int) (w : Int)  (hr : (0 ≤ c ∧ c < 12) ∧ 0 ≤ w ∧ w < 4) : mI κ yX6_besideOf cX6_besideOf 2 .int 0 [.int (iI c), .int (iI w)] ws (is1 (iI (nbM c w)) ws) := by
  refine mI_of (by decide) (Nat.le_of_ble_eq_true rfl) (fun E F K => ?_)
  refine g_lv (lv' := [(0, .int (iI c)), (1, .int (iI w))]) rfl ?_
  refine g_iload_n F 1 dX6_besideOf_0 rfl ?_
  by_cases c1_0 : w = 0
  · skip
    refine g_tsw_in F 28 (by omega) dX6_besideOf_1 (by omega) (by omega) (by rw [c1_0]; rfl) (by decide) ?_
    refine g_iload_n F 0 dX6_besideOf_28 rfl ?_
    refine g_iconst F dX6_besideOf_29 ?_
    refine g_icmp_ge F 38 (by omega) dX6_besideOf_30 (by decide) (fun c30 => ?_) (fun c30 => ?_)
    · skip
      refine g_iload_n F 0 dX6_besideOf_38 rfl ?_
      refine g_iconst F dX6_besideOf_39 ?_
      refine g_isub F dX6_besideOf_40 ?_
      exact K sameA.rf ⟨congrArg iI (show c - 4 = nbM c w from by unfold nbM nb; (repeat' split) <;> omega), rfl⟩ rfl dX6_besideOf_41
    · skip
      refine g_bipush F dX6_besideOf_33 (by decide +kernel) ?_
      refine g_goto F 41 dX6_besideOf_35 (by decide) ?_
      exact K sameA.rf ⟨congrArg iI (show -9 = nbM c w from by unfold nbM nb; (repeat' split) <;> omega), rfl⟩ rfl dX6_besideOf_41
  by_cases c1_1 : w = 1
  · skip
    refine g_tsw_in F 42 (by omega) dX6_besideOf_1 (by omega) (by omega) (by rw [c1_1]; rfl) (by decide) ?_
    refine g_iload_n F 0 dX6_besideOf_42 rfl ?_
    refine g_iconst F dX6_besideOf_43 ?_
    refine g_irem F dX6_besideOf_44 (by omega) ?_
    refine g_if_ne F 53 (by omega) dX6_besideOf_45 (by decide) (fun c45 => ?_) (fun c45 => ?_)
    · skip
      refine g_iload_n F 0 dX6_besideOf_53 rfl ?_
      refine g_iconst F dX6_besideOf_54 ?_
      refine g_isub F dX6_besideOf_55 ?_
      exact K sameA.rf ⟨congrArg iI (show c - 1 = nbM c w from by unfold nbM nb; (repeat' split) <;> omega), rfl⟩ rfl dX6_besideOf_56
    · skip
      refine g_bipush F dX6_besideOf_48 (by decide +kernel) ?_
      refine g_goto F 56 dX6_besideOf_50 (by decide) ?_
      exact K sameA.rf ⟨congrArg iI (show -9 = nbM c w from by unfold nbM nb; (repeat' split) <;> omega), rfl⟩ rfl dX6_besideOf_56
  by_cases c1_2 : w = 2
  · skip
    refine g_tsw_in F 57 (by omega) dX6_besideOf_1 (by omega) (by omega) (by rw [c1_2]; rfl) (by decide) ?_
    refine g_iload_n F 0 dX6_besideOf_57 rfl ?_
    refine g_iconst F dX6_besideOf_58 ?_
    refine g_irem F dX6_besideOf_59 (by omega) ?_
    refine g_iconst F dX6_besideOf_60 ?_
    refine g_icmp_ne F 69 (by omega) dX6_besideOf_61 (by decide) (fun c61 => ?_) (fun c61 => ?_)
    · skip
      refine g_iload_n F 0 dX6_besideOf_69 rfl ?_
      refine g_iconst F dX6_besideOf_70 ?_
      refine g_iadd F dX6_besideOf_71 ?_
      exact K sameA.rf ⟨congrArg iI (show c + 1 = nbM c w from by unfold nbM nb; (repeat' split) <;> omega), rfl⟩ rfl dX6_besideOf_72
    · skip
      refine g_bipush F dX6_besideOf_64 (by decide +kernel) ?_
      refine g_goto F 72 dX6_besideOf_66 (by decide) ?_
      exact K sameA.rf ⟨congrArg iI (show -9 = nbM c w from by unfold nbM nb; (repeat' split) <;> omega), rfl⟩ rfl dX6_besideOf_72
  refine g_tsw_out F 73 (by omega) dX6_besideOf_1 (by omega) (by decide) ?_
  refine g_iload_n F 0 dX6_besideOf_73 rfl ?_
  refine g_bipush F dX6_besideOf_74 (by decide +kernel) ?_
  refine g_icmp_le F 84 (by omega) dX6_besideOf_76 (by decide) (fun c76 => ?_) (fun c76 => ?_)
  · skip
    refine g_iload_n F 0 dX6_besideOf_84 rfl ?_
    refine g_iconst F dX6_besideOf_85 ?_
    refine g_iadd F dX6_besideOf_86 ?_
    exact K sameA.rf ⟨congrArg iI (show c + 4 = nbM c w from by unfold nbM nb; (repeat' split) <;> omega), rfl⟩ rfl dX6_besideOf_87
  · skip
    refine g_bipush F dX6_besideOf_79 (by decide +kernel) ?_
    refine g_goto F 87 dX6_besideOf_81 (by decide) ?_
    exact K sameA.rf ⟨congrArg iI (show -9 = nbM c w from by unfold nbM nb; (repeat' split) <;> omega), rfl⟩ rfl dX6_besideOf_87
theorem dX6_onesOf_0 : decode cX6_onesOf 0 = .ok (.iconst 0, 1) := by decide +kernel
theorem dX6_onesOf_1 : decode cX6_onesOf 1 = .ok (.istore_n 1, 1) := by decide +kernel
theorem dX6_onesOf_2 : decode cX6_onesOf 2 = .ok (.iload_n 0, 1) := by decide +kernel
theorem dX6_onesOf_3 : decode cX6_onesOf 3 = .ok (.istore_n 2, 1) := by decide +kernel
theorem dX6_onesOf_4 : decode cX6_onesOf 4 = .ok (.iload_n 2, 1) := by decide +kernel
theorem dX6_onesOf_5 : decode cX6_onesOf 5 = .ok (.ifCond .eq 15, 3) := by decide +kernel
theorem dX6_onesOf_8 : decode cX6_onesOf 8 = .ok (.iinc 1 1, 3) := by decide +kernel
theorem dX6_onesOf_11 : decode cX6_onesOf 11 = .ok (.iload_n 2, 1) := by decide +kernel
theorem dX6_onesOf_12 : decode cX6_onesOf 12 = .ok (.iload_n 2, 1) := by decide +kernel
theorem dX6_onesOf_13 : decode cX6_onesOf 13 = .ok (.iconst 1, 1) := by decide +kernel
theorem dX6_onesOf_14 : decode cX6_onesOf 14 = .ok (.isub, 1) := by decide +kernel
theorem dX6_onesOf_15 : decode cX6_onesOf 15 = .ok (.iand, 1) := by decide +kernel
theorem dX6_onesOf_16 : decode cX6_onesOf 16 = .ok (.istore_n 2, 1) := by decide +kernel
theorem dX6_onesOf_17 : decode cX6_onesOf 17 = .ok (.goto (-13), 3) := by decide +kernel
theorem dX6_onesOf_20 : decode cX6_onesOf 20 = .ok (.iload_n 1, 1) := by decide +kernel
theorem dX6_onesOf_21 : decode cX6_onesOf 21 = .ok (.ireturn, 1) := by decide +kernel
set_option maxRecDepth 100000 in
set_option maxHeartbeats 4000000 in
theorem k_X6_onesOf (κ : Kp) (ws : va_W) (b : Int)  (hr : 0 ≤ b ∧ b < 4096) : mI κ yX6_onesOf cX6_onesOf 3 .int 0 [.int (iI b)] ws (is1 (iI (pcnt b)) ws) := by
  refine mI_of (by decide) (Nat.le_of_ble_eq_true rfl) (fun E F K => ?_)
  refine g_lv (lv' := [(0, .int (iI b))]) rfl ?_
  refine g_iconst F dX6_onesOf_0 ?_
  refine g_istore_n F (lv' := [(1, .int (iI 0)), (0, .int (iI b))]) 1 dX6_onesOf_1 rfl (by decide) rfl ?_
  refine g_iload_n F 1 dX6_onesOf_2 rfl ?_
  refine g_istore_n F (lv' := [(2, .int (iI b)), (1, .int (iI 0)), (0, .int (iI b))]) 2 dX6_onesOf_3 rfl (by decide) rfl ?_
  have L4 : ∀ (mz4 : Nat) (y : Int) (l : Int), l.toNat = mz4 → (0 ≤ l ∧ l < 4096) → (y + pcnt l = pcnt b) → G E ws [(2, .int (iI l)), (1, .int (iI y)), (0, .int (iI b))] 4 [] := by
    intro mz4
    induction mz4 using Nat.strongRecOn with
    | _ mz4 ih4 =>
    intro y l hmz4 hl hn2
    refine g_iload_n F 0 dX6_onesOf_4 rfl ?_
    refine g_if_eq F 20 (by omega) dX6_onesOf_5 (by decide) (fun c5 => ?_) (fun c5 => ?_)
    · skip
      refine g_iload_n F 1 dX6_onesOf_20 rfl ?_
      exact K sameA.rf ⟨congrArg iI (show y = pcnt b from by have := pcnt_0; rw [c5] at hn2; omega), rfl⟩ rfl dX6_onesOf_21
    · skip
      refine g_iinc F (lv' := [(1, .int (iI (y + 1))), (2, .int (iI l)), (0, .int (iI b))]) 1 dX6_onesOf_8 rfl (by decide) rfl ?_
      refine g_iload_n F 1 dX6_onesOf_11 rfl ?_
      refine g_iload_n F 1 dX6_onesOf_12 rfl ?_
      refine g_iconst F dX6_onesOf_13 ?_
      refine g_isub F dX6_onesOf_14 ?_
      refine g_iand F dX6_onesOf_15 ?_
      refine g_top (y := iI (band l (l - 1))) (iI_band (by omega) (by omega)) ?_
      refine g_istore_n F (lv' := [(2, .int (iI (band l (l - 1)))), (1, .int (iI (y + 1))), (0, .int (iI b))]) 2 dX6_onesOf_16 rfl (by decide) rfl ?_
      refine g_goto F 4 dX6_onesOf_17 (by decide) ?_
      refine g_sub F (lv' := [(2, .int (iI (band l (l - 1)))), (1, .int (iI (y + 1))), (0, .int (iI b))]) [0, 1, 2] rfl ?_
      have hp := pcnt_step (z := l) (by omega) (by omega)
      exact ih4 _ (by have hp := pcnt_step (z := l) (by omega) (by omega); omega) (y + 1) (band l (l - 1)) rfl (by have hp := pcnt_step (z := l) (by omega) (by omega); omega) (by have hp := pcnt_step (z := l) (by omega) (by omega); omega)
  refine g_sub F (lv' := [(2, .int (iI b)), (1, .int (iI 0)), (0, .int (iI b))]) [0, 1, 2] rfl ?_
  exact L4 _ 0 b rfl (by omega) (by omega)
theorem dX6_pullOf_0 : decode cX6_pullOf 0 = .ok (.iconst 0, 1) := by decide +kernel
theorem dX6_pullOf_1 : decode cX6_pullOf 1 = .ok (.istore_n 2, 1) := by decide +kernel
theorem dX6_pullOf_2 : decode cX6_pullOf 2 = .ok (.iconst 0, 1) := by decide +kernel
theorem dX6_pullOf_3 : decode cX6_pullOf 3 = .ok (.istore_n 3, 1) := by decide +kernel
theorem dX6_pullOf_4 : decode cX6_pullOf 4 = .ok (.iconst 0, 1) := by decide +kernel
theorem dX6_pullOf_5 : decode cX6_pullOf 5 = .ok (.istore 4, 2) := by decide +kernel
theorem dX6_pullOf_7 : decode cX6_pullOf 7 = .ok (.iload 4, 2) := by decide +kernel
theorem dX6_pullOf_9 : decode cX6_pullOf 9 = .ok (.iconst 4, 1) := by decide +kernel
theorem dX6_pullOf_10 : decode cX6_pullOf 10 = .ok (.if_icmp .ge 58, 3) := by decide +kernel
theorem dX6_pullOf_13 : decode cX6_pullOf 13 = .ok (.iload_n 1, 1) := by decide +kernel
theorem dX6_pullOf_14 : decode cX6_pullOf 14 = .ok (.iload 4, 2) := by decide +kernel
theorem dX6_pullOf_16 : decode cX6_pullOf 16 = .ok (.invokestatic 104, 3) := by decide +kernel
theorem dX6_pullOf_19 : decode cX6_pullOf 19 = .ok (.istore 5, 2) := by decide +kernel
theorem dX6_pullOf_21 : decode cX6_pullOf 21 = .ok (.iload_n 2, 1) := by decide +kernel
theorem dX6_pullOf_22 : decode cX6_pullOf 22 = .ok (.iload 5, 2) := by decide +kernel
theorem dX6_pullOf_24 : decode cX6_pullOf 24 = .ok (.ifCond .ge 7, 3) := by decide +kernel
theorem dX6_pullOf_27 : decode cX6_pullOf 27 = .ok (.iconst 0, 1) := by decide +kernel
theorem dX6_pullOf_28 : decode cX6_pullOf 28 = .ok (.goto 19, 3) := by decide +kernel
theorem dX6_pullOf_31 : decode cX6_pullOf 31 = .ok (.aload_n 0, 1) := by decide +kernel
theorem dX6_pullOf_32 : decode cX6_pullOf 32 = .ok (.getfield 16, 3) := by decide +kernel
theorem dX6_pullOf_35 : decode cX6_pullOf 35 = .ok (.iload_n 1, 1) := by decide +kernel
theorem dX6_pullOf_36 : decode cX6_pullOf 36 = .ok (.iaload, 1) := by decide +kernel
theorem dX6_pullOf_37 : decode cX6_pullOf 37 = .ok (.aload_n 0, 1) := by decide +kernel
theorem dX6_pullOf_38 : decode cX6_pullOf 38 = .ok (.getfield 16, 3) := by decide +kernel
theorem dX6_pullOf_41 : decode cX6_pullOf 41 = .ok (.iload 5, 2) := by decide +kernel
theorem dX6_pullOf_43 : decode cX6_pullOf 43 = .ok (.iaload, 1) := by decide +kernel
theorem dX6_pullOf_44 : decode cX6_pullOf 44 = .ok (.invokestatic 108, 3) := by decide +kernel
theorem dX6_pullOf_47 : decode cX6_pullOf 47 = .ok (.iadd, 1) := by decide +kernel
theorem dX6_pullOf_48 : decode cX6_pullOf 48 = .ok (.istore_n 2, 1) := by decide +kernel
theorem dX6_pullOf_49 : decode cX6_pullOf 49 = .ok (.iload_n 3, 1) := by decide +kernel
theorem dX6_pullOf_50 : decode cX6_pullOf 50 = .ok (.iload 5, 2) := by decide +kernel
theorem dX6_pullOf_52 : decode cX6_pullOf 52 = .ok (.ifCond .ge 7, 3) := by decide +kernel
theorem dX6_pullOf_55 : decode cX6_pullOf 55 = .ok (.iconst 0, 1) := by decide +kernel
theorem dX6_pullOf_56 : decode cX6_pullOf 56 = .ok (.goto 4, 3) := by decide +kernel
theorem dX6_pullOf_59 : decode cX6_pullOf 59 = .ok (.iconst 1, 1) := by decide +kernel
theorem dX6_pullOf_60 : decode cX6_pullOf 60 = .ok (.iadd, 1) := by decide +kernel
theorem dX6_pullOf_61 : decode cX6_pullOf 61 = .ok (.istore_n 3, 1) := by decide +kernel
theorem dX6_pullOf_62 : decode cX6_pullOf 62 = .ok (.iinc 4 1, 3) := by decide +kernel
theorem dX6_pullOf_65 : decode cX6_pullOf 65 = .ok (.goto (-58), 3) := by decide +kernel
theorem dX6_pullOf_68 : decode cX6_pullOf 68 = .ok (.iload_n 2, 1) := by decide +kernel
theorem dX6_pullOf_69 : decode cX6_pullOf 69 = .ok (.iconst 4, 1) := by decide +kernel
theorem dX6_pullOf_70 : decode cX6_pullOf 70 = .ok (.idiv, 1) := by decide +kernel
theorem dX6_pullOf_71 : decode cX6_pullOf 71 = .ok (.istore 4, 2) := by decide +kernel
theorem dX6_pullOf_73 : decode cX6_pullOf 73 = .ok (.aload_n 0, 1) := by decide +kernel
theorem dX6_pullOf_74 : decode cX6_pullOf 74 = .ok (.getfield 7, 3) := by decide +kernel
theorem dX6_pullOf_77 : decode cX6_pullOf 77 = .ok (.iload_n 1, 1) := by decide +kernel
theorem dX6_pullOf_78 : decode cX6_pullOf 78 = .ok (.iaload, 1) := by decide +kernel
theorem dX6_pullOf_79 : decode cX6_pullOf 79 = .ok (.tableswitch 80 1 5 #[33, 38, 43, 57, 62], 33) := by decide +kernel
theorem dX6_pullOf_112 : decode cX6_pullOf 112 = .ok (.iload 4, 2) := by decide +kernel
theorem dX6_pullOf_114 : decode cX6_pullOf 114 = .ok (.iconst 2, 1) := by decide +kernel
theorem dX6_pullOf_115 : decode cX6_pullOf 115 = .ok (.idiv, 1) := by decide +kernel
theorem dX6_pullOf_116 : decode cX6_pullOf 116 = .ok (.ireturn, 1) := by decide +kernel
theorem dX6_pullOf_117 : decode cX6_pullOf 117 = .ok (.iload 4, 2) := by decide +kernel
theorem dX6_pullOf_119 : decode cX6_pullOf 119 = .ok (.iload_n 3, 1) := by decide +kernel
theorem dX6_pullOf_120 : decode cX6_pullOf 120 = .ok (.iadd, 1) := by decide +kernel
theorem dX6_pullOf_121 : decode cX6_pullOf 121 = .ok (.ireturn, 1) := by decide +kernel
theorem dX6_pullOf_122 : decode cX6_pullOf 122 = .ok (.iload 4, 2) := by decide +kernel
theorem dX6_pullOf_124 : decode cX6_pullOf 124 = .ok (.iconst 2, 1) := by decide +kernel
theorem dX6_pullOf_125 : decode cX6_pullOf 125 = .ok (.idiv, 1) := by decide +kernel
theorem dX6_pullOf_126 : decode cX6_pullOf 126 = .ok (.aload_n 0, 1) := by decide +kernel
theorem dX6_pullOf_127 : decode cX6_pullOf 127 = .ok (.getfield 13, 3) := by decide +kernel
theorem dX6_pullOf_130 : decode cX6_pullOf 130 = .ok (.iload_n 1, 1) := by decide +kernel
theorem dX6_pullOf_131 : decode cX6_pullOf 131 = .ok (.iaload, 1) := by decide +kernel
theorem dX6_pullOf_132 : decode cX6_pullOf 132 = .ok (.iconst 3, 1) := by decide +kernel
theorem dX6_pullOf_133 : decode cX6_pullOf 133 = .ok (.idiv, 1) := by decide +kernel
theorem dX6_pullOf_134 : decode cX6_pullOf 134 = .ok (.iadd, 1) := by decide +kernel
theorem dX6_pullOf_135 : decode cX6_pullOf 135 = .ok (.ireturn, 1) := by decide +kernel
theorem dX6_pullOf_136 : decode cX6_pullOf 136 = .ok (.iconst 2, 1) := by decide +kernel
theorem dX6_pullOf_137 : decode cX6_pullOf 137 = .ok (.iload 4, 2) := by decide +kernel
theorem dX6_pullOf_139 : decode cX6_pullOf 139 = .ok (.imul, 1) := by decide +kernel
theorem dX6_pullOf_140 : decode cX6_pullOf 140 = .ok (.ireturn, 1) := by decide +kernel
theorem dX6_pullOf_141 : decode cX6_pullOf 141 = .ok (.iconst 2, 1) := by decide +kernel
theorem dX6_pullOf_142 : decode cX6_pullOf 142 = .ok (.iload 4, 2) := by decide +kernel
theorem dX6_pullOf_144 : decode cX6_pullOf 144 = .ok (.imul, 1) := by decide +kernel
theorem dX6_pullOf_145 : decode cX6_pullOf 145 = .ok (.aload_n 0, 1) := by decide +kernel
theorem dX6_pullOf_146 : decode cX6_pullOf 146 = .ok (.getfield 13, 3) := by decide +kernel
theorem dX6_pullOf_149 : decode cX6_pullOf 149 = .ok (.iload_n 1, 1) := by decide +kernel
theorem dX6_pullOf_150 : decode cX6_pullOf 150 = .ok (.iaload, 1) := by decide +kernel
theorem dX6_pullOf_151 : decode cX6_pullOf 151 = .ok (.isub, 1) := by decide +kernel
theorem dX6_pullOf_152 : decode cX6_pullOf 152 = .ok (.sipush 9999, 3) := by decide +kernel
theorem dX6_pullOf_155 : decode cX6_pullOf 155 = .ok (.invokestatic 111, 3) := by decide +kernel
theorem dX6_pullOf_158 : decode cX6_pullOf 158 = .ok (.ireturn, 1) := by decide +kernel
theorem dX6_pullOf_159 : decode cX6_pullOf 159 = .ok (.iload 4, 2) := by decide +kernel
theorem dX6_pullOf_161 : decode cX6_pullOf 161 = .ok (.ireturn, 1) := by decide +kernel
set_option maxRecDepth 100000 in
set_option maxHeartbeats 4000000 in
theorem k_X6_pullOf (κ : Kp) (ma : Nat → Nat) (M : MS) (c : Int)  (h0 : 0 ≤ c ∧ c < 12) (ok : okA (cl M)) : mI κ yX6_pullOf cX6_pullOf 6 .int 1 [.ref (ma 100), .int (iI c)] (mw κ ma M) (is1 (iI (pull (cl M) c)) (mw κ ma M)) := by
  refine mI_of (by decide) (Nat.le_of_ble_eq_true rfl) (fun E F K => ?_)
  refine g_lv (lv' := [(0, .ref (ma 100)), (1, .int (iI c))]) rfl ?_
  refine g_iconst F dX6_pullOf_0 ?_
  refine g_istore_n F (lv' := [(2, .int (iI 0)), (0, .ref (ma 100)), (1, .int (iI c))]) 2 dX6_pullOf_1 rfl (by decide) rfl ?_
  refine g_iconst F dX6_pullOf_2 ?_
  refine g_istore_n F (lv' := [(3, .int (iI 0)), (2, .int (iI 0)), (0, .ref (ma 100)), (1, .int (iI c))]) 3 dX6_pullOf_3 rfl (by decide) rfl ?_
  refine g_iconst F dX6_pullOf_4 ?_
  refine g_istore F (lv' := [(4, .int (iI 0)), (3, .int (iI 0)), (2, .int (iI 0)), (0, .ref (ma 100)), (1, .int (iI c))]) dX6_pullOf_5 (by decide) rfl ?_
  have L7 : ∀ (mz7 : Nat) (i : Int) (sm : Int) (mn : Int), (4 - i).toNat = mz7 → (0 ≤ i ∧ i ≤ 4) → (sm = sumI (apt (M 2) c) i) → (mn = sumI (cnt1 c) i) → G E (mw κ ma M) [(4, .int (iI i)), (3, .int (iI mn)), (2, .int (iI sm)), (0, .ref (ma 100)), (1, .int (iI c))] 7 [] := by
    intro mz7
    induction mz7 using Nat.strongRecOn with
    | _ mz7 ih7 =>
    intro i sm mn hmz7 hi hs hm
    refine g_iload F 0 dX6_pullOf_7 rfl ?_
    refine g_iconst F dX6_pullOf_9 ?_
    refine g_icmp_ge F 68 (by omega) dX6_pullOf_10 (by decide) (fun c10 => ?_) (fun c10 => ?_)
    · skip
      have hi4 : i = 4 := by omega
      have hsb := aptSum_bd ok h0.1 h0.2 hi.1 hi.2
      have hsm : 0 ≤ sm ∧ sm ≤ 396 := by rw [hs]; exact hsb
      have hc := clo_bd ok h0.1 h0.2
      refine g_iload_n F 2 dX6_pullOf_68 rfl ?_
      refine g_iconst F dX6_pullOf_69 ?_
      refine g_idiv F dX6_pullOf_70 (by omega) ?_
      refine g_top (y := iI (clo (cl M) c)) (congrArg iI (clo_sum (C := cl M) hs hi4)) ?_
      refine g_istore F (lv' := [(4, .int (iI (clo (cl M) c))), (3, .int (iI mn)), (2, .int (iI sm)), (0, .ref (ma 100)), (1, .int (iI c))]) dX6_pullOf_71 (by decide) rfl ?_
      refine g_aload_n F 3 dX6_pullOf_73 rfl ?_
      refine gm_get_0 F dX6_pullOf_74 ?_
      refine g_iload_n F 4 dX6_pullOf_77 rfl ?_
      refine gm_ald_0 F (by omega) dX6_pullOf_78 ?_
      have hk : (0 ≤ M 0 c ∧ M 0 c ≤ 5) ∧ (0 ≤ M 1 c ∧ M 1 c ≤ 9) ∧ 0 ≤ M 2 c ∧ M 2 c ≤ 99 := ok c (by omega) (by omega)
      by_cases c79_1 : (M 0 c) = 1
      · skip
        refine g_tsw_in F 112 (by omega) dX6_pullOf_79 (by omega) (by omega) (by rw [c79_1]; rfl) (by decide) ?_
        refine g_iload F 0 dX6_pullOf_112 rfl ?_
        refine g_iconst F dX6_pullOf_114 ?_
        refine g_idiv F dX6_pullOf_115 (by omega) ?_
        exact K mw_same ⟨congrArg iI (show (clo (cl M) c) / 2 = pull (cl M) c from by unfold pull; rw [if_pos c79_1]), rfl⟩ rfl dX6_pullOf_116
      by_cases c79_2 : (M 0 c) = 2
      · skip
        refine g_tsw_in F 117 (by omega) dX6_pullOf_79 (by omega) (by omega) (by rw [c79_2]; rfl) (by decide) ?_
        refine g_iload F 0 dX6_pullOf_117 rfl ?_
        refine g_iload_n F 1 dX6_pullOf_119 rfl ?_
        refine g_iadd F dX6_pullOf_120 ?_
        exact K mw_same ⟨congrArg iI (show (clo (cl M) c) + mn = pull (cl M) c from by unfold pull; rw [if_neg c79_1, if_pos c79_2, hm, hi4]), rfl⟩ rfl dX6_pullOf_121
      by_cases c79_3 : (M 0 c) = 3
      · skip
        refine g_tsw_in F 122 (by omega) dX6_pullOf_79 (by omega) (by omega) (by rw [c79_3]; rfl) (by decide) ?_
        refine g_iload F 0 dX6_pullOf_122 rfl ?_
        refine g_iconst F dX6_pullOf_124 ?_
        refine g_idiv F dX6_pullOf_125 (by omega) ?_
        refine g_aload_n F 3 dX6_pullOf_126 rfl ?_
        refine gm_get_1 F dX6_pullOf_127 ?_
        refine g_iload_n F 4 dX6_pullOf_130 rfl ?_
        refine gm_ald_1 F (by omega) dX6_pullOf_131 ?_
        refine g_iconst F dX6_pullOf_132 ?_
        refine g_idiv F dX6_pullOf_133 (by omega) ?_
        refine g_iadd F dX6_pullOf_134 ?_
        exact K mw_same ⟨congrArg iI (show ((clo (cl M) c) / 2) + ((M 1 c) / 3) = pull (cl M) c from by unfold pull; rw [if_neg c79_1, if_neg c79_2, if_pos c79_3]), rfl⟩ rfl dX6_pullOf_135
      by_cases c79_4 : (M 0 c) = 4
      · skip
        refine g_tsw_in F 136 (by omega) dX6_pullOf_79 (by omega) (by omega) (by rw [c79_4]; rfl) (by decide) ?_
        refine g_iconst F dX6_pullOf_136 ?_
        refine g_iload F 0 dX6_pullOf_137 rfl ?_
        refine g_imul F dX6_pullOf_139 ?_
        exact K mw_same ⟨congrArg iI (show 2 * (clo (cl M) c) = pull (cl M) c from by unfold pull; rw [if_neg c79_1, if_neg c79_2, if_neg c79_3, if_pos c79_4]), rfl⟩ rfl dX6_pullOf_140
      by_cases c79_5 : (M 0 c) = 5
      · skip
        refine g_tsw_in F 141 (by omega) dX6_pullOf_79 (by omega) (by omega) (by rw [c79_5]; rfl) (by decide) ?_
        refine g_iconst F dX6_pullOf_141 ?_
        refine g_iload F 0 dX6_pullOf_142 rfl ?_
        refine g_imul F dX6_pullOf_144 ?_
        refine g_aload_n F 3 dX6_pullOf_145 rfl ?_
        refine gm_get_1 F dX6_pullOf_146 ?_
        refine g_iload_n F 4 dX6_pullOf_149 rfl ?_
        refine gm_ald_1 F (by omega) dX6_pullOf_150 ?_
        refine g_isub F dX6_pullOf_151 ?_
        refine g_sipush F dX6_pullOf_152 (by decide +kernel) ?_
        refine g_callSI F (stk := [.int (iI 9999), .int (iI ((2 * (clo (cl M) c)) - (M 1 c)))]) (st := []) (k_X6_held κ (mw κ ma M) ((2 * (clo (cl M) c)) - (M 1 c)) 9999 (by omega)) cal_X6_held lm_X6_111 rfl (by decide) rfl (Nat.le_of_ble_eq_true rfl) dX6_pullOf_155 (fun r155 ws155 _ hr155 => ?_)
        obtain ⟨rfl, rfl⟩ := hr155
        exact K mw_same ⟨congrArg iI (show held ((2 * (clo (cl M) c)) - (M 1 c)) 9999 = pull (cl M) c from by unfold pull; rw [if_neg c79_1, if_neg c79_2, if_neg c79_3, if_neg c79_4, if_pos c79_5]; exact held_max (by omega)), rfl⟩ rfl dX6_pullOf_158
      refine g_tsw_out F 159 (by omega) dX6_pullOf_79 (by omega) (by decide) ?_
      refine g_iload F 0 dX6_pullOf_159 rfl ?_
      exact K mw_same ⟨congrArg iI (show clo (cl M) c = pull (cl M) c from by unfold pull; rw [if_neg c79_1, if_neg c79_2, if_neg c79_3, if_neg c79_4, if_neg c79_5]), rfl⟩ rfl dX6_pullOf_161
    · skip
      have hn := nbM_in h0.1 h0.2 (w := i) (by omega) (by omega)
      have hk : (0 ≤ M 0 c ∧ M 0 c ≤ 5) ∧ (0 ≤ M 1 c ∧ M 1 c ≤ 9) ∧ 0 ≤ M 2 c ∧ M 2 c ≤ 99 := ok c (by omega) (by omega)
      refine g_iload_n F 4 dX6_pullOf_13 rfl ?_
      refine g_iload F 0 dX6_pullOf_14 rfl ?_
      refine g_callSI F (stk := [.int (iI i), .int (iI c)]) (st := []) (k_X6_besideOf κ (mw κ ma M) c i (by omega)) cal_X6_besideOf lm_X6_104 rfl (by decide) rfl (Nat.le_of_ble_eq_true rfl) dX6_pullOf_16 (fun r16 ws16 _ hr16 => ?_)
      obtain ⟨rfl, rfl⟩ := hr16
      refine g_istore F (lv' := [(5, .int (iI (nbM c i))), (4, .int (iI i)), (3, .int (iI mn)), (2, .int (iI sm)), (0, .ref (ma 100)), (1, .int (iI c))]) dX6_pullOf_19 (by decide) rfl ?_
      refine g_iload_n F 3 dX6_pullOf_21 rfl ?_
      refine g_iload F 0 dX6_pullOf_22 rfl ?_
      refine g_if_ge F 31 (by omega) dX6_pullOf_24 (by decide) (fun c24 => ?_) (fun c24 => ?_)
      · skip
        refine g_aload_n F 4 dX6_pullOf_31 rfl ?_
        refine gm_get_2 F dX6_pullOf_32 ?_
        refine g_iload_n F 5 dX6_pullOf_35 rfl ?_
        refine gm_ald_2 F (by omega) dX6_pullOf_36 ?_
        refine g_aload_n F 4 dX6_pullOf_37 rfl ?_
        refine gm_get_2 F dX6_pullOf_38 ?_
        refine g_iload F 0 dX6_pullOf_41 rfl ?_
        refine gm_ald_2 F (by omega) dX6_pullOf_43 ?_
        have hk2 : (0 ≤ M 0 (nbM c i) ∧ M 0 (nbM c i) ≤ 5) ∧ (0 ≤ M 1 (nbM c i) ∧ M 1 (nbM c i) ≤ 9) ∧ 0 ≤ M 2 (nbM c i) ∧ M 2 (nbM c i) ≤ 99 := ok (nbM c i) (by omega) (by omega)
        refine g_callSI F (stk := [.int (iI (M 2 (nbM c i))), .int (iI (M 2 c)), .int (iI sm)]) (st := [.int (iI sm)]) (k_X6_apart κ (mw κ ma M) (M 2 c) (M 2 (nbM c i)) (by omega)) cal_X6_apart lm_X6_108 rfl (by decide) rfl (Nat.le_of_ble_eq_true rfl) dX6_pullOf_44 (fun r44 ws44 _ hr44 => ?_)
        obtain ⟨rfl, rfl⟩ := hr44
        refine g_iadd F dX6_pullOf_47 ?_
        refine g_istore_n F (lv' := [(2, .int (iI (sm + (aprt (M 2 c) (M 2 (nbM c i)))))), (5, .int (iI (nbM c i))), (4, .int (iI i)), (3, .int (iI mn)), (0, .ref (ma 100)), (1, .int (iI c))]) 2 dX6_pullOf_48 rfl (by decide) rfl ?_
        refine g_iload_n F 3 dX6_pullOf_49 rfl ?_
        refine g_iload F 1 dX6_pullOf_50 rfl ?_
        refine g_if_ge F 59 (by omega) dX6_pullOf_52 (by decide) (fun c52 => ?_) (fun c52 => ?_)
        · skip
          refine g_iconst F dX6_pullOf_59 ?_
          refine g_iadd F dX6_pullOf_60 ?_
          refine g_istore_n F (lv' := [(3, .int (iI (mn + 1))), (2, .int (iI (sm + (aprt (M 2 c) (M 2 (nbM c i)))))), (5, .int (iI (nbM c i))), (4, .int (iI i)), (0, .ref (ma 100)), (1, .int (iI c))]) 3 dX6_pullOf_61 rfl (by decide) rfl ?_
          refine g_iinc F (lv' := [(4, .int (iI (i + 1))), (3, .int (iI (mn + 1))), (2, .int (iI (sm + (aprt (M 2 c) (M 2 (nbM c i)))))), (5, .int (iI (nbM c i))), (0, .ref (ma 100)), (1, .int (iI c))]) 3 dX6_pullOf_62 rfl (by decide) rfl ?_
          refine g_goto F 7 dX6_pullOf_65 (by decide) ?_
          refine g_sub F (lv' := [(4, .int (iI (i + 1))), (3, .int (iI (mn + 1))), (2, .int (iI (sm + (aprt (M 2 c) (M 2 (nbM c i)))))), (0, .ref (ma 100)), (1, .int (iI c))]) [0, 1, 2, 4, 5] rfl ?_
          exact ih7 _ (by omega) (i + 1) (sm + (aprt (M 2 c) (M 2 (nbM c i)))) (mn + 1) rfl (by omega) (by rw [sumI_s _ hi.1]; first | (rw [apt_pos (by omega)]; have e := aprt_abs (M 2 c) (M 2 (nb c i)); rw [hn.2.2.1 c24] at e ⊢; omega) | (rw [apt_neg (hn.2.2.2 c24)]; omega)) (by rw [sumI_s _ hi.1]; first | (rw [cnt1_pos (by omega)]; omega) | (rw [cnt1_neg (by omega)]; omega))
        · skip
          refine g_iconst F dX6_pullOf_55 ?_
          refine g_goto F 60 dX6_pullOf_56 (by decide) ?_
          refine g_iadd F dX6_pullOf_60 ?_
          refine g_istore_n F (lv' := [(3, .int (iI (mn + 0))), (2, .int (iI (sm + (aprt (M 2 c) (M 2 (nbM c i)))))), (5, .int (iI (nbM c i))), (4, .int (iI i)), (0, .ref (ma 100)), (1, .int (iI c))]) 3 dX6_pullOf_61 rfl (by decide) rfl ?_
          refine g_iinc F (lv' := [(4, .int (iI (i + 1))), (3, .int (iI (mn + 0))), (2, .int (iI (sm + (aprt (M 2 c) (M 2 (nbM c i)))))), (5, .int (iI (nbM c i))), (0, .ref (ma 100)), (1, .int (iI c))]) 3 dX6_pullOf_62 rfl (by decide) rfl ?_
          refine g_goto F 7 dX6_pullOf_65 (by decide) ?_
          refine g_sub F (lv' := [(4, .int (iI (i + 1))), (3, .int (iI (mn + 0))), (2, .int (iI (sm + (aprt (M 2 c) (M 2 (nbM c i)))))), (0, .ref (ma 100)), (1, .int (iI c))]) [0, 1, 2, 4, 5] rfl ?_
          exact ih7 _ (by omega) (i + 1) (sm + (aprt (M 2 c) (M 2 (nbM c i)))) (mn + 0) rfl (by omega) (by rw [sumI_s _ hi.1]; first | (rw [apt_pos (by omega)]; have e := aprt_abs (M 2 c) (M 2 (nb c i)); rw [hn.2.2.1 c24] at e ⊢; omega) | (rw [apt_neg (hn.2.2.2 c24)]; omega)) (by rw [sumI_s _ hi.1]; first | (rw [cnt1_pos (by omega)]; omega) | (rw [cnt1_neg (by omega)]; omega))
      · skip
        refine g_iconst F dX6_pullOf_27 ?_
        refine g_goto F 47 dX6_pullOf_28 (by decide) ?_
        refine g_iadd F dX6_pullOf_47 ?_
        refine g_istore_n F (lv' := [(2, .int (iI (sm + 0))), (5, .int (iI (nbM c i))), (4, .int (iI i)), (3, .int (iI mn)), (0, .ref (ma 100)), (1, .int (iI c))]) 2 dX6_pullOf_48 rfl (by decide) rfl ?_
        refine g_iload_n F 3 dX6_pullOf_49 rfl ?_
        refine g_iload F 1 dX6_pullOf_50 rfl ?_
        refine g_if_ge F 59 (by omega) dX6_pullOf_52 (by decide) (fun c52 => ?_) (fun c52 => ?_)
        · skip
          refine g_iconst F dX6_pullOf_59 ?_
          refine g_iadd F dX6_pullOf_60 ?_
          refine g_istore_n F (lv' := [(3, .int (iI (mn + 1))), (2, .int (iI (sm + 0))), (5, .int (iI (nbM c i))), (4, .int (iI i)), (0, .ref (ma 100)), (1, .int (iI c))]) 3 dX6_pullOf_61 rfl (by decide) rfl ?_
          refine g_iinc F (lv' := [(4, .int (iI (i + 1))), (3, .int (iI (mn + 1))), (2, .int (iI (sm + 0))), (5, .int (iI (nbM c i))), (0, .ref (ma 100)), (1, .int (iI c))]) 3 dX6_pullOf_62 rfl (by decide) rfl ?_
          refine g_goto F 7 dX6_pullOf_65 (by decide) ?_
          refine g_sub F (lv' := [(4, .int (iI (i + 1))), (3, .int (iI (mn + 1))), (2, .int (iI (sm + 0))), (0, .ref (ma 100)), (1, .int (iI c))]) [0, 1, 2, 4, 5] rfl ?_
          exact ih7 _ (by omega) (i + 1) (sm + 0) (mn + 1) rfl (by omega) (by rw [sumI_s _ hi.1]; first | (rw [apt_pos (by omega)]; have e := aprt_abs (M 2 c) (M 2 (nb c i)); rw [hn.2.2.1 c24] at e ⊢; omega) | (rw [apt_neg (hn.2.2.2 c24)]; omega)) (by rw [sumI_s _ hi.1]; first | (rw [cnt1_pos (by omega)]; omega) | (rw [cnt1_neg (by omega)]; omega))
        · skip
          refine g_iconst F dX6_pullOf_55 ?_
          refine g_goto F 60 dX6_pullOf_56 (by decide) ?_
          refine g_iadd F dX6_pullOf_60 ?_
          refine g_istore_n F (lv' := [(3, .int (iI (mn + 0))), (2, .int (iI (sm + 0))), (5, .int (iI (nbM c i))), (4, .int (iI i)), (0, .ref (ma 100)), (1, .int (iI c))]) 3 dX6_pullOf_61 rfl (by decide) rfl ?_
          refine g_iinc F (lv' := [(4, .int (iI (i + 1))), (3, .int (iI (mn + 0))), (2, .int (iI (sm + 0))), (5, .int (iI (nbM c i))), (0, .ref (ma 100)), (1, .int (iI c))]) 3 dX6_pullOf_62 rfl (by decide) rfl ?_
          refine g_goto F 7 dX6_pullOf_65 (by decide) ?_
          refine g_sub F (lv' := [(4, .int (iI (i + 1))), (3, .int (iI (mn + 0))), (2, .int (iI (sm + 0))), (0, .ref (ma 100)), (1, .int (iI c))]) [0, 1, 2, 4, 5] rfl ?_
          exact ih7 _ (by omega) (i + 1) (sm + 0) (mn + 0) rfl (by omega) (by rw [sumI_s _ hi.1]; first | (rw [apt_pos (by omega)]; have e := aprt_abs (M 2 c) (M 2 (nb c i)); rw [hn.2.2.1 c24] at e ⊢; omega) | (rw [apt_neg (hn.2.2.2 c24)]; omega)) (by rw [sumI_s _ hi.1]; first | (rw [cnt1_pos (by omega)]; omega) | (rw [cnt1_neg (by omega)]; omega))
  refine g_sub F (lv' := [(4, .int (iI 0)), (3, .int (iI 0)), (2, .int (iI 0)), (0, .ref (ma 100)), (1, .int (iI c))]) [0, 1, 2, 3, 4] rfl ?_
  exact L7 _ 0 0 0 rfl (by omega) (sumI_0 _).symm (sumI_0 _).symm
