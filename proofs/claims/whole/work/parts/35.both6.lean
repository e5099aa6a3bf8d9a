/-- Euclid, so many steps -/
def gN : Nat → Int → Int → Int
  | 0, d, _ => d
  | k + 1, d, r => if r = 0 then d else gN k r (d % r)
theorem gN_0 (k : Nat) (d : Int) : gN k d 0 = d := by cases k <;> rfl
theorem emod_half {d r : Int} (h0 : 0 ≤ d) (h : d < r) (hd : 0 < d) : 2 * (r % d) < r := by
  have e := Int.sub_emod_right r d
  have a0 := Int.emod_nonneg r (show d ≠ 0 by omega)
  have a1 := Int.emod_lt_of_pos r hd
  have b : (r - d) % d ≤ r - d := by
    have k := Nat.mod_le (r - d).toNat d.toNat
    have q := Int.natCast_emod (r - d).toNat d.toNat
    rw [Int.toNat_of_nonneg (show 0 ≤ r - d by omega), Int.toNat_of_nonneg h0] at q
    omega
  omega
theorem gN_gcd : ∀ (k : Nat) (d r : Int), 0 ≤ d → 0 ≤ r → r < ((2 ^ k : Nat) : Int) → gN (2 * k + 1) d r = gcdI d r
  | 0, d, r, h0, h1, h2 => by
    have e : r = 0 := by have : ((2 ^ 0 : Nat) : Int) = 1 := by decide
                         omega
    rw [e, gN_0, gcdI_0 h0]
  | k + 1, d, r, h0, h1, h2 => by
    show (if r = 0 then d else gN (2 * k + 2) r (d % r)) = gcdI d r
    by_cases z : r = 0
    · rw [if_pos z, z, gcdI_0 h0]
    · rw [if_neg z, ← gcdI_step h0 (show 0 < r by omega)]
      have a0 := Int.emod_nonneg d z
      have a1 := Int.emod_lt_of_pos d (show 0 < r by omega)
      show (if d % r = 0 then r else gN (2 * k + 1) (d % r) (r % (d % r))) = gcdI r (d % r)
      by_cases y : d % r = 0
      · rw [if_pos y, y, gcdI_0 h1]
      · have hh := emod_half a0 a1 (show 0 < d % r by omega)
        rw [if_neg y, ← gcdI_step h1 (show 0 < d % r by omega)]
        refine gN_gcd k (d % r) (r % (d % r)) a0 (Int.emod_nonneg r y) ?_
        have e : ((2 ^ (k + 1) : Nat) : Int) = 2 * ((2 ^ k : Nat) : Int) := by rw [Nat.pow_succ, Int.natCast_mul]; exact Int.mul_comm _ _
        omega
theorem gN_100 {d r : Int} (h0 : 0 ≤ d) (h1 : 0 ≤ r) (h2 : r < 562949953421312) : gN 100 d r = gcdI d r := by
  by_cases z : r = 0
  · rw [z, gN_0, gcdI_0 h0]
  · show gN (99 + 1) d r = _
    show (if r = 0 then d else gN 99 r (d % r)) = gcdI d r
    rw [if_neg z, ← gcdI_step h0 (show 0 < r by omega)]
    have a1 := Int.emod_lt_of_pos d (show 0 < r by omega)
    refine gN_gcd 49 r (d % r) h1 (Int.emod_nonneg d z) ?_
    have e : ((2 ^ 49 : Nat) : Int) = 562949953421312 := by decide
    omega
def sMean (part : Int) : Int := if ¬ (0 ≤ part ∧ part ≤ 1) then -2 else 0
def qMean (C : Cl) (part : Int) : Int := if ¬ (0 ≤ part ∧ part ≤ 1) then 4000000000000000002 else prt (allAge C) 12 part
theorem dX6_mean_0 : decode cX6_mean 0 = .ok (.aload_n 0, 1) := by decide +kernel
theorem dX6_mean_1 : decode cX6_mean 1 = .ok (.iconst 0, 1) := by decide +kernel
theorem dX6_mean_2 : decode cX6_mean 2 = .ok (.putfield 91, 3) := by decide +kernel
theorem dX6_mean_5 : decode cX6_mean 5 = .ok (.iload_n 1, 1) := by decide +kernel
theorem dX6_mean_6 : decode cX6_mean 6 = .ok (.i2l, 1) := by decide +kernel
theorem dX6_mean_7 : decode cX6_mean 7 = .ok (.lconst 0, 1) := by decide +kernel
theorem dX6_mean_8 : decode cX6_mean 8 = .ok (.lconst 1, 1) := by decide +kernel
theorem dX6_mean_9 : decode cX6_mean 9 = .ok (.invokestatic 97, 3) := by decide +kernel
theorem dX6_mean_12 : decode cX6_mean 12 = .ok (.ifCond .eq 18, 3) := by decide +kernel
theorem dX6_mean_15 : decode cX6_mean 15 = .ok (.aload_n 0, 1) := by decide +kernel
theorem dX6_mean_16 : decode cX6_mean 16 = .ok (.invokevirtual 329, 3) := by decide +kernel
theorem dX6_mean_19 : decode cX6_mean 19 = .ok (.i2l, 1) := by decide +kernel
theorem dX6_mean_20 : decode cX6_mean 20 = .ok (.ldc2_w 332, 3) := by decide +kernel
theorem dX6_mean_23 : decode cX6_mean 23 = .ok (.iload_n 1, 1) := by decide +kernel
theorem dX6_mean_24 : decode cX6_mean 24 = .ok (.invokestatic 321, 3) := by decide +kernel
theorem dX6_mean_27 : decode cX6_mean 27 = .ok (.goto 14, 3) := by decide +kernel
theorem dX6_mean_30 : decode cX6_mean 30 = .ok (.ldc2_w 315, 3) := by decide +kernel
theorem dX6_mean_33 : decode cX6_mean 33 = .ok (.aload_n 0, 1) := by decide +kernel
theorem dX6_mean_34 : decode cX6_mean 34 = .ok (.bipush (-2), 2) := by decide +kernel
theorem dX6_mean_36 : decode cX6_mean 36 = .ok (.invokevirtual 138, 3) := by decide +kernel
theorem dX6_mean_39 : decode cX6_mean 39 = .ok (.i2l, 1) := by decide +kernel
theorem dX6_mean_40 : decode cX6_mean 40 = .ok (.lsub, 1) := by decide +kernel
theorem dX6_mean_41 : decode cX6_mean 41 = .ok (.lreturn, 1) := by decide +kernel
set_option maxRecDepth 100000 in
set_option maxHeartbeats 4000000 in
theorem k_X6_mean (κ : Kp) (ma : Nat → Nat) (M : MS) (part : Int)  (ha_part : In32 part) (ok : okC (cl M)) : mL κ yX6_mean cX6_mean 2 3 [.ref (ma 100), .int (iI part)] (mw κ ma M) (qML κ ma M (qMean (cl M) part) (sMean part)) := by
  refine mL_of (by decide) (Nat.le_of_ble_eq_true rfl) (fun E F K => ?_)
  refine g_lv (lv' := [(0, .ref (ma 100)), (1, .int (iI part))]) rfl ?_
  refine g_aload_n F 0 dX6_mean_0 rfl ?_
  refine g_iconst F dX6_mean_1 ?_
  refine gm_put_10 F dX6_mean_2 ?_
  refine g_iload_n F 1 dX6_mean_5 rfl ?_
  refine g_i2l F (by omega) dX6_mean_6 ?_
  refine g_lconst F (z := 0) dX6_mean_7 rfl ?_
  refine g_lconst F (z := 1) dX6_mean_8 rfl ?_
  refine g_callSI F (stk := [.long (iL 1), .long (iL 0), .long (iL part)]) (st := []) (k_X6_in κ (mw κ ma (mA M 10 (fun _ => 0))) part 0 1 (by omega)) cal_X6_in lm_X6_97 rfl (by decide) rfl (Nat.le_of_ble_eq_true rfl) dX6_mean_9 (fun r9 ws9 _ hr9 => ?_)
  obtain ⟨rfl, rfl⟩ := hr9
  refine g_if_eq F 30 (b2i_in _) dX6_mean_12 (by decide) (fun c12 => ?_) (fun c12 => ?_)
  · skip
    have c12 : ¬ (0 ≤ part ∧ part ≤ 1) := b2i_f c12
    refine g_ldc2 F (z := 4000000000000000000) ll_X6_315 (by decide +kernel) dX6_mean_30 ?_
    refine g_aload_n F 0 dX6_mean_33 rfl ?_
    refine g_bipush F dX6_mean_34 (by decide +kernel) ?_
    refine g_callI F (stk := [.int (iI (-2)), .ref (ma 100), .long (iL 4000000000000000000)]) (st := [.long (iL 4000000000000000000)]) (k_X6_refuse κ ma (mA M 10 (fun _ => 0)) (-2) (by omega)) cal_X6_refuse lm_X6_138 0 rfl rfl rfl rfl (by decide) rfl (Nat.le_of_ble_eq_true rfl) dX6_mean_36 (fun r36 ws36 _ hr36 => ?_)
    obtain ⟨rfl, rfl⟩ := hr36
    refine g_top (y := iI (-2)) rfl ?_
    refine g_ws (ws' := mw κ ma (mA (mA M 10 (fun _ => 0)) 11 (uI (M 11) (-(-2)) (M 11 (-(-2)) + 1)))) rfl ?_
    refine g_i2l F (by omega) dX6_mean_39 ?_
    refine g_lsub F dX6_mean_40 ?_
    have hq : 4000000000000000000 - (-2) = qMean (cl M) part := by unfold qMean; (repeat' split) <;> omega
    have hsr : sMean part = (-2) := by unfold sMean; (repeat' split) <;> omega
    exact K mw_same ⟨_, rfl, congrArg iL hq, ⟨rfl, rfl, rfl, rfl, rfl, rfl, rfl, rfl, rfl, rfl, rfl, rfl, rfl, rfl, rfl, rfl, rfl, rfl⟩, (by rw [hsr]; exact (rfa_r (by omega)).symm)⟩ dX6_mean_41
  · skip
    have c12 : 0 ≤ part ∧ part ≤ 1 := b2i_t c12
    refine g_aload_n F 0 dX6_mean_15 rfl ?_
    have hab := allAge_bd ok
    refine g_callI F (stk := [.ref (ma 100)]) (st := []) (k_X6_allAges κ ma (mA M 10 (fun _ => 0))) cal_X6_allAges lm_X6_329 0 rfl rfl rfl rfl (by decide) rfl (Nat.le_of_ble_eq_true rfl) dX6_mean_16 (fun r16 ws16 _ hr16 => ?_)
    obtain ⟨rfl, rfl⟩ := hr16
    refine g_top (y := iI (allAge (cl M))) rfl ?_
    refine g_i2l F (by omega) dX6_mean_19 ?_
    refine g_ldc2 F (z := 12) ll_X6_332 (by decide +kernel) dX6_mean_20 ?_
    refine g_iload_n F 1 dX6_mean_23 rfl ?_
    refine g_callSL F (stk := [.int (iI part), .long (iL 12), .long (iL (allAge (cl M)))]) (st := []) (k_X6_partOf κ (mw κ ma (mA M 10 (fun _ => 0))) (allAge (cl M)) 12 part (by omega)) cal_X6_partOf lm_X6_321 rfl (by decide) rfl (Nat.le_of_ble_eq_true rfl) dX6_mean_24 (fun r24 ws24 _ hr24 => ?_)
    obtain ⟨rfl, rfl⟩ := hr24
    refine g_goto F 41 dX6_mean_27 (by decide) ?_
    have hq : prt (allAge (cl M)) 12 part = qMean (cl M) part := by unfold qMean; (repeat' split) <;> omega
    have hsr : ¬ (-6 ≤ sMean part ∧ sMean part ≤ -1) := by unfold sMean; (repeat' split) <;> omega
    exact K mw_same ⟨_, rfl, congrArg iL hq, ⟨rfl, rfl, rfl, rfl, rfl, rfl, rfl, rfl, rfl, rfl, rfl, rfl, rfl, rfl, rfl, rfl, rfl, rfl⟩, (by show M 11 = _; exact (rfa_n hsr).symm)⟩ dX6_mean_41
theorem dX5_partOf_0 : decode cX5_partOf 0 = .ok (.lload_n 2, 1) := by decide +kernel
theorem dX5_partOf_1 : decode cX5_partOf 1 = .ok (.lstore 5, 2) := by decide +kernel
theorem dX5_partOf_3 : decode cX5_partOf 3 = .ok (.lload_n 0, 1) := by decide +kernel
theorem dX5_partOf_4 : decode cX5_partOf 4 = .ok (.lstore 7, 2) := by decide +kernel
theorem dX5_partOf_6 : decode cX5_partOf 6 = .ok (.iconst 0, 1) := by decide +kernel
theorem dX5_partOf_7 : decode cX5_partOf 7 = .ok (.istore 9, 2) := by decide +kernel
theorem dX5_partOf_9 : decode cX5_partOf 9 = .ok (.iload 9, 2) := by decide +kernel
theorem dX5_partOf_11 : decode cX5_partOf 11 = .ok (.bipush 100, 2) := by decide +kernel
theorem dX5_partOf_13 : decode cX5_partOf 13 = .ok (.if_icmp .ge 31, 3) := by decide +kernel
theorem dX5_partOf_16 : decode cX5_partOf 16 = .ok (.lload 7, 2) := by decide +kernel
theorem dX5_partOf_18 : decode cX5_partOf 18 = .ok (.lconst 0, 1) := by decide +kernel
theorem dX5_partOf_19 : decode cX5_partOf 19 = .ok (.lcmp, 1) := by decide +kernel
theorem dX5_partOf_20 : decode cX5_partOf 20 = .ok (.ifCond .eq 24, 3) := by decide +kernel
theorem dX5_partOf_23 : decode cX5_partOf 23 = .ok (.lload 5, 2) := by decide +kernel
theorem dX5_partOf_25 : decode cX5_partOf 25 = .ok (.lload 7, 2) := by decide +kernel
theorem dX5_partOf_27 : decode cX5_partOf 27 = .ok (.lrem, 1) := by decide +kernel
theorem dX5_partOf_28 : decode cX5_partOf 28 = .ok (.lstore 10, 2) := by decide +kernel
theorem dX5_partOf_30 : decode cX5_partOf 30 = .ok (.lload 7, 2) := by decide +kernel
theorem dX5_partOf_32 : decode cX5_partOf 32 = .ok (.lstore 5, 2) := by decide +kernel
theorem dX5_partOf_34 : decode cX5_partOf 34 = .ok (.lload 10, 2) := by decide +kernel
theorem dX5_partOf_36 : decode cX5_partOf 36 = .ok (.lstore 7, 2) := by decide +kernel
theorem dX5_partOf_38 : decode cX5_partOf 38 = .ok (.iinc 9 1, 3) := by decide +kernel
theorem dX5_partOf_41 : decode cX5_partOf 41 = .ok (.goto (-32), 3) := by decide +kernel
theorem dX5_partOf_44 : decode cX5_partOf 44 = .ok (.lload 5, 2) := by decide +kernel
theorem dX5_partOf_46 : decode cX5_partOf 46 = .ok (.lconst 0, 1) := by decide +kernel
theorem dX5_partOf_47 : decode cX5_partOf 47 = .ok (.lcmp, 1) := by decide +kernel
theorem dX5_partOf_48 : decode cX5_partOf 48 = .ok (.ifCond .ne 5, 3) := by decide +kernel
theorem dX5_partOf_51 : decode cX5_partOf 51 = .ok (.lconst 0, 1) := by decide +kernel
theorem dX5_partOf_52 : decode cX5_partOf 52 = .ok (.lreturn, 1) := by decide +kernel
theorem dX5_partOf_53 : decode cX5_partOf 53 = .ok (.iload 4, 2) := by decide +kernel
theorem dX5_partOf_55 : decode cX5_partOf 55 = .ok (.ifCond .ne 7, 3) := by decide +kernel
theorem dX5_partOf_58 : decode cX5_partOf 58 = .ok (.lload_n 0, 1) := by decide +kernel
theorem dX5_partOf_59 : decode cX5_partOf 59 = .ok (.goto 4, 3) := by decide +kernel
theorem dX5_partOf_62 : decode cX5_partOf 62 = .ok (.lload_n 2, 1) := by decide +kernel
theorem dX5_partOf_63 : decode cX5_partOf 63 = .ok (.lload 5, 2) := by decide +kernel
theorem dX5_partOf_65 : decode cX5_partOf 65 = .ok (.ldiv, 1) := by decide +kernel
theorem dX5_partOf_66 : decode cX5_partOf 66 = .ok (.lreturn, 1) := by decide +kernel
set_option maxRecDepth 100000 in
set_option maxHeartbeats 4000000 in
theorem k_X5_partOf (κ : Kp) (ws : va_W) (a : Int) (b : Int) (part : Int)  (ha : ((0 ≤ a ∧ a < 562949953421312) ∧ 0 < b ∧ b ≤ 4000000000000000000) ∧ 0 ≤ part ∧ part ≤ 1) : mL κ yX5_partOf cX5_partOf 12 0 [.long (iL a), .long (iL b), .int (iI part)] ws (is1L (iL (prt a b part)) ws) := by
  refine mL_of (by decide) (Nat.le_of_ble_eq_true rfl) (fun E F K => ?_)
  refine g_lv (lv' := [(0, .long (iL a)), (2, .long (iL b)), (4, .int (iI part))]) rfl ?_
  refine g_lload_n F 1 dX5_partOf_0 rfl ?_
  refine g_lstore F (lv' := [(5, .long (iL b)), (0, .long (iL a)), (2, .long (iL b)), (4, .int (iI part))]) dX5_partOf_1 (by decide) rfl ?_
  refine g_lload_n F 1 dX5_partOf_3 rfl ?_
  refine g_lstore F (lv' := [(7, .long (iL a)), (5, .long (iL b)), (0, .long (iL a)), (2, .long (iL b)), (4, .int (iI part))]) dX5_partOf_4 (by decide) rfl ?_
  refine g_iconst F dX5_partOf_6 ?_
  refine g_istore F (lv' := [(9, .int (iI 0)), (7, .long (iL a)), (5, .long (iL b)), (0, .long (iL a)), (2, .long (iL b)), (4, .int (iI part))]) dX5_partOf_7 (by decide) rfl ?_
  have L9 : ∀ (mz9 : Nat) (x : Int) (y : Int) (i : Int), (100 - i).toNat = mz9 → (0 ≤ i ∧ i ≤ 100) → ((0 ≤ x ∧ x ≤ 4000000000000000000) ∧ 0 ≤ y ∧ y ≤ 4000000000000000000) → (gN (100 - i).toNat x y = gcdI b a) → G E ws [(9, .int (iI i)), (7, .long (iL y)), (5, .long (iL x)), (0, .long (iL a)), (2, .long (iL b)), (4, .int (iI part))] 9 [] := by
    intro mz9
    induction mz9 using Nat.strongRecOn with
    | _ mz9 ih9 =>
    intro x y i hmz9 hi hx hg
    refine g_iload F 0 dX5_partOf_9 rfl ?_
    refine g_bipush F dX5_partOf_11 (by decide +kernel) ?_
    refine g_icmp_ge F 44 (by omega) dX5_partOf_13 (by decide) (fun c13 => ?_) (fun c13 => ?_)
    · skip
      have hd : x = gcdI b a := by first | (rw [← hg, show y = 0 by omega, gN_0]) | (rw [← hg, show i = 100 by omega]; rfl)
      have hgp : 0 < gcdI b a := by have := Nat.gcd_pos_of_pos_left a.toNat (show 0 < b.toNat by omega); unfold gcdI; omega
      have hgc : gcdI b a = gcdI a b := by unfold gcdI; rw [Nat.gcd_comm]
      have hga : a = 0 → gcdI a b = b := fun q => by rw [← hgc, q]; exact gcdI_0 (by omega)
      refine g_lload F 2 dX5_partOf_44 rfl ?_
      refine g_lconst F (z := 0) dX5_partOf_46 rfl ?_
      refine g_lcmp F (by omega) dX5_partOf_47 ?_
      refine g_if_ne F 53 (icmp_in _ _) dX5_partOf_48 (by decide) (fun c48 => ?_) (fun c48 => ?_)
      · skip
        have c48 := icmp_net c48
        refine g_iload F 5 dX5_partOf_53 rfl ?_
        refine g_if_ne F 62 (by omega) dX5_partOf_55 (by decide) (fun c55 => ?_) (fun c55 => ?_)
        · skip
          refine g_lload_n F 4 dX5_partOf_62 rfl ?_
          refine g_lload F 2 dX5_partOf_63 rfl ?_
          refine g_ldiv F dX5_partOf_65 (by omega) ?_
          exact K sameA.rf ⟨congrArg iL (by rw [hd, hgc]; unfold prt; by_cases q : a = 0; (first | (rw [if_pos q, hga q, q, show part = 0 by omega, Int.zero_ediv]) | (rw [if_pos q, hga q, Int.ediv_self (by omega)]; omega)); (first | rw [if_neg q, if_pos c55] | rw [if_neg q, if_neg c55])), rfl⟩ dX5_partOf_66
        · skip
          refine g_lload_n F 3 dX5_partOf_58 rfl ?_
          refine g_goto F 63 dX5_partOf_59 (by decide) ?_
          refine g_lload F 2 dX5_partOf_63 rfl ?_
          refine g_ldiv F dX5_partOf_65 (by omega) ?_
          exact K sameA.rf ⟨congrArg iL (by rw [hd, hgc]; unfold prt; by_cases q : a = 0; (first | (rw [if_pos q, hga q, q, show part = 0 by omega, Int.zero_ediv]) | (rw [if_pos q, hga q, Int.ediv_self (by omega)]; omega)); (first | rw [if_neg q, if_pos c55] | rw [if_neg q, if_neg c55])), rfl⟩ dX5_partOf_66
      · skip
        have c48 := icmp_nef c48
        refine g_lconst F (z := 0) dX5_partOf_51 rfl ?_
        exact K sameA.rf ⟨congrArg iL (by exfalso; omega), rfl⟩ dX5_partOf_52
    · skip
      refine g_lload F 1 dX5_partOf_16 rfl ?_
      refine g_lconst F (z := 0) dX5_partOf_18 rfl ?_
      refine g_lcmp F (by omega) dX5_partOf_19 ?_
      refine g_if_eq F 44 (icmp_in _ _) dX5_partOf_20 (by decide) (fun c20 => ?_) (fun c20 => ?_)
      · skip
        have c20 := icmp_eqt c20
        have hd : x = gcdI b a := by first | (rw [← hg, show y = 0 by omega, gN_0]) | (rw [← hg, show i = 100 by omega]; rfl)
        have hgp : 0 < gcdI b a := by have := Nat.gcd_pos_of_pos_left a.toNat (show 0 < b.toNat by omega); unfold gcdI; omega
        have hgc : gcdI b a = gcdI a b := by unfold gcdI; rw [Nat.gcd_comm]
        have hga : a = 0 → gcdI a b = b := fun q => by rw [← hgc, q]; exact gcdI_0 (by omega)
        refine g_lload F 2 dX5_partOf_44 rfl ?_
        refine g_lconst F (z := 0) dX5_partOf_46 rfl ?_
        refine g_lcmp F (by omega) dX5_partOf_47 ?_
        refine g_if_ne F 53 (icmp_in _ _) dX5_partOf_48 (by decide) (fun c48 => ?_) (fun c48 => ?_)
        · skip
          have c48 := icmp_net c48
          refine g_iload F 5 dX5_partOf_53 rfl ?_
          refine g_if_ne F 62 (by omega) dX5_partOf_55 (by decide) (fun c55 => ?_) (fun c55 => ?_)
          · skip
            refine g_lload_n F 4 dX5_partOf_62 rfl ?_
            refine g_lload F 2 dX5_partOf_63 rfl ?_
            refine g_ldiv F dX5_partOf_65 (by omega) ?_
            exact K sameA.rf ⟨congrArg iL (by rw [hd, hgc]; unfold prt; by_cases q : a = 0; (first | (rw [if_pos q, hga q, q, show part = 0 by omega, Int.zero_ediv]) | (rw [if_pos q, hga q, Int.ediv_self (by omega)]; omega)); (first | rw [if_neg q, if_pos c55] | rw [if_neg q, if_neg c55])), rfl⟩ dX5_partOf_66
          · skip
            refine g_lload_n F 3 dX5_partOf_58 rfl ?_
            refine g_goto F 63 dX5_partOf_59 (by decide) ?_
            refine g_lload F 2 dX5_partOf_63 rfl ?_
            refine g_ldiv F dX5_partOf_65 (by omega) ?_
            exact K sameA.rf ⟨congrArg iL (by rw [hd, hgc]; unfold prt; by_cases q : a = 0; (first | (rw [if_pos q, hga q, q, show part = 0 by omega, Int.zero_ediv]) | (rw [if_pos q, hga q, Int.ediv_self (by omega)]; omega)); (first | rw [if_neg q, if_pos c55] | rw [if_neg q, if_neg c55])), rfl⟩ dX5_partOf_66
        · skip
          have c48 := icmp_nef c48
          refine g_lconst F (z := 0) dX5_partOf_51 rfl ?_
          exact K sameA.rf ⟨congrArg iL (by exfalso; omega), rfl⟩ dX5_partOf_52
      · skip
        have c20 := icmp_eqf c20
        refine g_lload F 2 dX5_partOf_23 rfl ?_
        refine g_lload F 1 dX5_partOf_25 rfl ?_
        refine g_lrem F dX5_partOf_27 (by omega) ?_
        refine g_lstore F (lv' := [(10, .long (iL (x % y))), (9, .int (iI i)), (7, .long (iL y)), (5, .long (iL x)), (0, .long (iL a)), (2, .long (iL b)), (4, .int (iI part))]) dX5_partOf_28 (by decide) rfl ?_
        refine g_lload F 2 dX5_partOf_30 rfl ?_
        refine g_lstore F (lv' := [(5, .long (iL y)), (10, .long (iL (x % y))), (9, .int (iI i)), (7, .long (iL y)), (0, .long (iL a)), (2, .long (iL b)), (4, .int (iI part))]) dX5_partOf_32 (by decide) rfl ?_
        refine g_lload F 1 dX5_partOf_34 rfl ?_
        refine g_lstore F (lv' := [(7, .long (iL (x % y))), (5, .long (iL y)), (10, .long (iL (x % y))), (9, .int (iI i)), (0, .long (iL a)), (2, .long (iL b)), (4, .int (iI part))]) dX5_partOf_36 (by decide) rfl ?_
        refine g_iinc F (lv' := [(9, .int (iI (i + 1))), (7, .long (iL (x % y))), (5, .long (iL y)), (10, .long (iL (x % y))), (0, .long (iL a)), (2, .long (iL b)), (4, .int (iI part))]) 3 dX5_partOf_38 rfl (by decide) rfl ?_
        refine g_goto F 9 dX5_partOf_41 (by decide) ?_
        refine g_sub F (lv' := [(9, .int (iI (i + 1))), (7, .long (iL (x % y))), (5, .long (iL y)), (0, .long (iL a)), (2, .long (iL b)), (4, .int (iI part))]) [0, 1, 2, 4, 5, 6] rfl ?_
        have hm0 := Int.emod_nonneg x (show y ≠ 0 by omega)
        have hm1 := Int.emod_lt_of_pos x (show 0 < y by omega)
        exact ih9 _ (by omega) y (x % y) (i + 1) rfl (by omega) (by omega) (by rw [← hg, show (100 - i).toNat = (100 - (i + 1)).toNat + 1 by omega]; exact (if_neg (show ¬ y = 0 by omega)).symm)
  refine g_sub F (lv' := [(9, .int (iI 0)), (7, .long (iL a)), (5, .long (iL b)), (0, .long (iL a)), (2, .long (iL b)), (4, .int (iI part))]) [0, 1, 2, 3, 4, 5] rfl ?_
  exact L9 _ b a 0 rfl (by omega) (by omega) (gN_100 (by omega) (by omega) (by omega))
theorem dX5_refuseLong_0 : decode cX5_refuseLong 0 = .ok (.ldc2_w 340, 3) := by decide +kernel
theorem dX5_refuseLong_3 : decode cX5_refuseLong 3 = .ok (.aload_n 0, 1) := by decide +kernel
theorem dX5_refuseLong_4 : decode cX5_refuseLong 4 = .ok (.iload_n 1, 1) := by decide +kernel
theorem dX5_refuseLong_5 : decode cX5_refuseLong 5 = .ok (.invokevirtual 69, 3) := by decide +kernel
theorem dX5_refuseLong_8 : decode cX5_refuseLong 8 = .ok (.i2l, 1) := by decide +kernel
theorem dX5_refuseLong_9 : decode cX5_refuseLong 9 = .ok (.lsub, 1) := by decide +kernel
theorem dX5_refuseLong_10 : decode cX5_refuseLong 10 = .ok (.lreturn, 1) := by decide +kernel
set_option maxRecDepth 100000 in
set_option maxHeartbeats 4000000 in
theorem k_X5_refuseLong (κ : Kp) (xa : Nat → Nat → Nat) (X : XS) (m : Int)  (hm : -6 ≤ m ∧ m ≤ 0) : mL κ yX5_refuseLong cX5_refuseLong 2 1 [.ref (xa 18 100), .int (iI m)] (xw κ xa X) (is1L (iL (4000000000000000000 - m)) (xw κ xa (setO X 18 (mA (X 18) 6 (uI ((X 18) 6) (-m) ((X 18) 6 (-m) + 1)))))) := by
  refine mL_of (by decide) (Nat.le_of_ble_eq_true rfl) (fun E F K => ?_)
  refine g_lv (lv' := [(0, .ref (xa 18 100)), (1, .int (iI m))]) rfl ?_
  refine g_ldc2 F (z := 4000000000000000000) ll_X5_340 (by decide +kernel) dX5_refuseLong_0 ?_
  refine g_aload_n F 0 dX5_refuseLong_3 rfl ?_
  refine g_iload_n F 1 dX5_refuseLong_4 rfl ?_
  refine g_callI F (stk := [.int (iI m), .ref (xa 18 100), .long (iL 4000000000000000000)]) (st := [.long (iL 4000000000000000000)]) (k_X5_refuse κ xa X m (by omega)) cal_X5_refuse lm_X5_69 81 rfl rfl rfl rfl (by decide) rfl (Nat.le_of_ble_eq_true rfl) dX5_refuseLong_5 (fun r5 ws5 _ hr5 => ?_)
  obtain ⟨rfl, rfl⟩ := hr5
  refine g_i2l F (by omega) dX5_refuseLong_8 ?_
  refine g_lsub F dX5_refuseLong_9 ?_
  exact K xw_same ⟨rfl, rfl⟩ dX5_refuseLong_10
theorem dX5_mean_0 : decode cX5_mean 0 = .ok (.iload_n 1, 1) := by decide +kernel
theorem dX5_mean_1 : decode cX5_mean 1 = .ok (.ifCond .lt 8, 3) := by decide +kernel
theorem dX5_mean_4 : decode cX5_mean 4 = .ok (.iload_n 1, 1) := by decide +kernel
theorem dX5_mean_5 : decode cX5_mean 5 = .ok (.iconst 1, 1) := by decide +kernel
theorem dX5_mean_6 : decode cX5_mean 6 = .ok (.if_icmp .le 10, 3) := by decide +kernel
theorem dX5_mean_9 : decode cX5_mean 9 = .ok (.aload_n 0, 1) := by decide +kernel
theorem dX5_mean_10 : decode cX5_mean 10 = .ok (.bipush (-2), 2) := by decide +kernel
theorem dX5_mean_12 : decode cX5_mean 12 = .ok (.invokevirtual 317, 3) := by decide +kernel
theorem dX5_mean_15 : decode cX5_mean 15 = .ok (.lreturn, 1) := by decide +kernel
theorem dX5_mean_16 : decode cX5_mean 16 = .ok (.aload_n 0, 1) := by decide +kernel
theorem dX5_mean_17 : decode cX5_mean 17 = .ok (.getfield 10, 3) := by decide +kernel
theorem dX5_mean_20 : decode cX5_mean 20 = .ok (.invokevirtual 329, 3) := by decide +kernel
theorem dX5_mean_23 : decode cX5_mean 23 = .ok (.i2l, 1) := by decide +kernel
theorem dX5_mean_24 : decode cX5_mean 24 = .ok (.ldc2_w 332, 3) := by decide +kernel
theorem dX5_mean_27 : decode cX5_mean 27 = .ok (.iload_n 1, 1) := by decide +kernel
theorem dX5_mean_28 : decode cX5_mean 28 = .ok (.invokestatic 325, 3) := by decide +kernel
theorem dX5_mean_31 : decode cX5_mean 31 = .ok (.lreturn, 1) := by decide +kernel
set_option maxRecDepth 100000 in
set_option maxHeartbeats 4000000 in
theorem k_X5_mean (κ : Kp) (xa : Nat → Nat → Nat) (X : XS) (part : Int)  (ha_part : In32 part) (ok : okC (cl (X 0))) : mL κ yX5_mean cX5_mean 2 3 [.ref (xa 18 100), .int (iI part)] (xw κ xa X) (qXL κ xa X (qMean (cl (X 0)) part) (sMean part)) := by
  refine mL_of (by decide) (Nat.le_of_ble_eq_true rfl) (fun E F K => ?_)
  refine g_lv (lv' := [(0, .ref (xa 18 100)), (1, .int (iI part))]) rfl ?_
  refine g_iload_n F 1 dX5_mean_0 rfl ?_
  refine g_if_lt F 9 (by omega) dX5_mean_1 (by decide) (fun c1 => ?_) (fun c1 => ?_)
  · skip
    refine g_aload_n F 0 dX5_mean_9 rfl ?_
    refine g_bipush F dX5_mean_10 (by decide +kernel) ?_
    refine g_callL F (stk := [.int (iI (-2)), .ref (xa 18 100)]) (st := []) (k_X5_refuseLong κ xa X (-2) (by omega)) cal_X5_refuseLong lm_X5_317 81 rfl rfl rfl rfl (by decide) rfl (Nat.le_of_ble_eq_true rfl) dX5_mean_12 (fun r12 ws12 _ hr12 => ?_)
    obtain ⟨rfl, rfl⟩ := hr12
    have hq : 4000000000000000000 - (-2) = qMean (cl (X 0)) part := by unfold qMean; (repeat' split) <;> omega
    have hsr : sMean part = (-2) := by unfold sMean; (repeat' split) <;> omega
    exact K xw_same ⟨_, rfl, congrArg iL hq, (sX_18 sX_0 rfl rfl rfl), (by rw [hsr]; exact (rfa_r (by omega)).symm)⟩ dX5_mean_15
  · skip
    refine g_iload_n F 1 dX5_mean_4 rfl ?_
    refine g_iconst F dX5_mean_5 ?_
    refine g_icmp_le F 16 (by omega) dX5_mean_6 (by decide) (fun c6 => ?_) (fun c6 => ?_)
    · skip
      have hab := allAge_bd ok
      refine g_aload_n F 0 dX5_mean_16 rfl ?_
      refine g18_get_0 F  lf_X5_10 dX5_mean_17 ?_
      refine g_callNI F (stk := [.ref (xa 0 100)]) (st := []) (k_X0_ageTogether κ xa X 0 (by decide)) cal_X0_ageTogether nm_X5_329 0 rfl rfl rfl rfl (by decide) rfl (Nat.le_of_ble_eq_true rfl) dX5_mean_20 (fun r20 ws20 _ hr20 => ?_)
      obtain ⟨rfl, rfl⟩ := hr20
      refine g_i2l F (by omega) dX5_mean_23 ?_
      refine g_ldc2 F (z := 12) ll_X5_332 (by decide +kernel) dX5_mean_24 ?_
      refine g_iload_n F 1 dX5_mean_27 rfl ?_
      refine g_callSL F (stk := [.int (iI part), .long (iL 12), .long (iL (allAge (cl (X 0))))]) (st := []) (k_X5_partOf κ (xw κ xa X) (allAge (cl (X 0))) 12 part (by omega)) cal_X5_partOf lm_X5_325 rfl (by decide) rfl (Nat.le_of_ble_eq_true rfl) dX5_mean_28 (fun r28 ws28 _ hr28 => ?_)
      obtain ⟨rfl, rfl⟩ := hr28
      have hq : prt (allAge (cl (X 0))) 12 part = qMean (cl (X 0)) part := by unfold qMean; (repeat' split) <;> omega
      have hsr : ¬ (-6 ≤ sMean part ∧ sMean part ≤ -1) := by unfold sMean; (repeat' split) <;> omega
      exact K xw_same ⟨_, rfl, congrArg iL hq, sX_0, (by exact (rfa_n hsr).symm)⟩ dX5_mean_31
    · skip
      refine g_aload_n F 0 dX5_mean_9 rfl ?_
      refine g_bipush F dX5_mean_10 (by decide +kernel) ?_
      refine g_callL F (stk := [.int (iI (-2)), .ref (xa 18 100)]) (st := []) (k_X5_refuseLong κ xa X (-2) (by omega)) cal_X5_refuseLong lm_X5_317 81 rfl rfl rfl rfl (by decide) rfl (Nat.le_of_ble_eq_true rfl) dX5_mean_12 (fun r12 ws12 _ hr12 => ?_)
      obtain ⟨rfl, rfl⟩ := hr12
      have hq : 4000000000000000000 - (-2) = qMean (cl (X 0)) part := by unfold qMean; (repeat' split) <;> omega
      have hsr : sMean part = (-2) := by unfold sMean; (repeat' split) <;> omega
      exact K xw_same ⟨_, rfl, congrArg iL hq, (sX_18 sX_0 rfl rfl rfl), (by rw [hsr]; exact (rfa_r (by omega)).symm)⟩ dX5_mean_15
