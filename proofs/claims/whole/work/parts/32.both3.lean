theorem sum4 (f : Int → Int) : sumI f 4 = f 0 + f 1 + f 2 + f 3 := by
  show 0 + f 0 + f 1 + f 2 + f 3 = _
  omega
theorem rise_bd (a : Int → Int) : ∀ (k : Nat) (p l : Int), l ≤ rise a k p l ∧ rise a k p l ≤ l + k
  | 0, p, l => ⟨Int.le_refl _, by show l ≤ l + ((0 : Nat) : Int); omega⟩
  | k + 1, p, l => by
    unfold rise
    have h := rise_bd a k (p + 1) (l + 1)
    split <;> omega
theorem rising_bd (a : Int → Int) {c : Int} (h0 : 0 ≤ c) (h : c < 12) : 1 ≤ rising a c ∧ rising a c ≤ 13 := by
  have h1 := rise_bd a (13 - (c + 1)).toNat (c + 1) 1
  unfold rising riseI
  omega
/-- pairs: to the right and below -/
def pw (k : Int → Int) (c w : Int) : Int := if 2 ≤ w ∧ 0 ≤ nb c w ∧ k c = k (nb c w) then 1 else 0
theorem pw_2 (k : Int → Int) (c : Int) : sumI (pw k c) 2 = 0 := by
  have e0 : pw k c 0 = 0 := if_neg (by omega)
  have e1 : pw k c 1 = 0 := if_neg (by omega)
  show 0 + pw k c 0 + pw k c 1 = 0
  omega
def qPairs (k : Int → Int) : Int := sumI (fun c => sumI (pw k c) 4) 12
theorem nb_gtN : ∀ c : Nat, c < 12 → ∀ w : Nat, w < 4 → ((c : Int) < nb (c : Int) (w : Int) ↔ 2 ≤ w ∧ 0 ≤ nb (c : Int) (w : Int)) := by decide +kernel
theorem nb_gt {c w : Int} (h0 : 0 ≤ c) (h1 : c < 12) (w0 : 0 ≤ w) (w1 : w < 4) : c < nb c w ↔ 2 ≤ w ∧ 0 ≤ nb c w := by
  have h := nb_gtN c.toNat (by omega) w.toNat (by omega)
  rw [Int.toNat_of_nonneg h0, Int.toNat_of_nonneg w0] at h
  omega
/-- none before is like it -/
def unN (a : Int → Int) (c : Int) : Nat → Int
  | 0 => 1
  | n + 1 => if a (n : Int) = a c then 0 else unN a c n
def unI (a : Int → Int) (c n : Int) : Int := unN a c n.toNat
theorem unI_s (a : Int → Int) (c : Int) {n : Int} (h : 0 ≤ n) : unI a c (n + 1) = if a n = a c then 0 else unI a c n := by
  unfold unI
  rw [show (n + 1).toNat = n.toNat + 1 by omega]
  show (if a ((n.toNat : Nat) : Int) = a c then 0 else unN a c n.toNat) = _
  rw [Int.toNat_of_nonneg h]
theorem unN_bd (a : Int → Int) (c : Int) : ∀ n : Nat, 0 ≤ unN a c n ∧ unN a c n ≤ 1
  | 0 => ⟨by show (0 : Int) ≤ 1; decide, by show (1 : Int) ≤ 1; decide⟩
  | n + 1 => by have h := unN_bd a c n; unfold unN; split <;> omega
theorem unI_bd (a : Int → Int) (c n : Int) : 0 ≤ unI a c n ∧ unI a c n ≤ 1 := unN_bd a c n.toNat
def qUnlike (a : Int → Int) : Int := sumI (fun c => unI a c c) 12
theorem dX6_sumOf_0 : decode cX6_sumOf 0 = .ok (.aload_n 0, 1) := by decide +kernel
theorem dX6_sumOf_1 : decode cX6_sumOf 1 = .ok (.iconst 0, 1) := by decide +kernel
theorem dX6_sumOf_2 : decode cX6_sumOf 2 = .ok (.putfield 91, 3) := by decide +kernel
theorem dX6_sumOf_5 : decode cX6_sumOf 5 = .ok (.iload_n 1, 1) := by decide +kernel
theorem dX6_sumOf_6 : decode cX6_sumOf 6 = .ok (.i2l, 1) := by decide +kernel
theorem dX6_sumOf_7 : decode cX6_sumOf 7 = .ok (.lconst 0, 1) := by decide +kernel
theorem dX6_sumOf_8 : decode cX6_sumOf 8 = .ok (.ldc2_w 253, 3) := by decide +kernel
theorem dX6_sumOf_11 : decode cX6_sumOf 11 = .ok (.invokestatic 97, 3) := by decide +kernel
theorem dX6_sumOf_14 : decode cX6_sumOf 14 = .ok (.ifCond .ne 9, 3) := by decide +kernel
theorem dX6_sumOf_17 : decode cX6_sumOf 17 = .ok (.aload_n 0, 1) := by decide +kernel
theorem dX6_sumOf_18 : decode cX6_sumOf 18 = .ok (.iconst (-1), 1) := by decide +kernel
theorem dX6_sumOf_19 : decode cX6_sumOf 19 = .ok (.invokevirtual 138, 3) := by decide +kernel
theorem dX6_sumOf_22 : decode cX6_sumOf 22 = .ok (.ireturn, 1) := by decide +kernel
theorem dX6_sumOf_23 : decode cX6_sumOf 23 = .ok (.iconst 0, 1) := by decide +kernel
theorem dX6_sumOf_24 : decode cX6_sumOf 24 = .ok (.istore_n 2, 1) := by decide +kernel
theorem dX6_sumOf_25 : decode cX6_sumOf 25 = .ok (.iconst 4, 1) := by decide +kernel
theorem dX6_sumOf_26 : decode cX6_sumOf 26 = .ok (.iload_n 1, 1) := by decide +kernel
theorem dX6_sumOf_27 : decode cX6_sumOf 27 = .ok (.imul, 1) := by decide +kernel
theorem dX6_sumOf_28 : decode cX6_sumOf 28 = .ok (.istore_n 3, 1) := by decide +kernel
theorem dX6_sumOf_29 : decode cX6_sumOf 29 = .ok (.iload_n 3, 1) := by decide +kernel
theorem dX6_sumOf_30 : decode cX6_sumOf 30 = .ok (.iconst 4, 1) := by decide +kernel
theorem dX6_sumOf_31 : decode cX6_sumOf 31 = .ok (.iload_n 1, 1) := by decide +kernel
theorem dX6_sumOf_32 : decode cX6_sumOf 32 = .ok (.imul, 1) := by decide +kernel
theorem dX6_sumOf_33 : decode cX6_sumOf 33 = .ok (.iconst 4, 1) := by decide +kernel
theorem dX6_sumOf_34 : decode cX6_sumOf 34 = .ok (.iadd, 1) := by decide +kernel
theorem dX6_sumOf_35 : decode cX6_sumOf 35 = .ok (.if_icmp .ge 18, 3) := by decide +kernel
theorem dX6_sumOf_38 : decode cX6_sumOf 38 = .ok (.iload_n 2, 1) := by decide +kernel
theorem dX6_sumOf_39 : decode cX6_sumOf 39 = .ok (.aload_n 0, 1) := by decide +kernel
theorem dX6_sumOf_40 : decode cX6_sumOf 40 = .ok (.getfield 16, 3) := by decide +kernel
theorem dX6_sumOf_43 : decode cX6_sumOf 43 = .ok (.iload_n 3, 1) := by decide +kernel
theorem dX6_sumOf_44 : decode cX6_sumOf 44 = .ok (.iaload, 1) := by decide +kernel
theorem dX6_sumOf_45 : decode cX6_sumOf 45 = .ok (.iadd, 1) := by decide +kernel
theorem dX6_sumOf_46 : decode cX6_sumOf 46 = .ok (.istore_n 2, 1) := by decide +kernel
theorem dX6_sumOf_47 : decode cX6_sumOf 47 = .ok (.iinc 3 1, 3) := by decide +kernel
theorem dX6_sumOf_50 : decode cX6_sumOf 50 = .ok (.goto (-21), 3) := by decide +kernel
theorem dX6_sumOf_53 : decode cX6_sumOf 53 = .ok (.iload_n 2, 1) := by decide +kernel
theorem dX6_sumOf_54 : decode cX6_sumOf 54 = .ok (.ireturn, 1) := by decide +kernel
set_option maxRecDepth 100000 in
set_option maxHeartbeats 4000000 in
theorem k_X6_sumOf (κ : Kp) (ma : Nat → Nat) (M : MS) (r : Int)  (ha_r : In32 r) (ok : okC (cl M)) : mI κ yX6_sumOf cX6_sumOf 4 .int 2 [.ref (ma 100), .int (iI r)] (mw κ ma M) (qM κ ma M (qSumOf (M 2) r)) := by
  refine mI_of (by decide) (Nat.le_of_ble_eq_true rfl) (fun E F K => ?_)
  refine g_lv (lv' := [(0, .ref (ma 100)), (1, .int (iI r))]) rfl ?_
  refine g_aload_n F 0 dX6_sumOf_0 rfl ?_
  refine g_iconst F dX6_sumOf_1 ?_
  refine gm_put_10 F dX6_sumOf_2 ?_
  refine g_iload_n F 1 dX6_sumOf_5 rfl ?_
  refine g_i2l F (by omega) dX6_sumOf_6 ?_
  refine g_lconst F (z := 0) dX6_sumOf_7 rfl ?_
  refine g_ldc2 F (z := 2) ll_X6_253 (by decide +kernel) dX6_sumOf_8 ?_
  refine g_callSI F (stk := [.long (iL 2), .long (iL 0), .long (iL r)]) (st := []) (k_X6_in κ (mw κ ma (mA M 10 (fun _ => 0))) r 0 2 (by omega)) cal_X6_in lm_X6_97 rfl (by decide) rfl (Nat.le_of_ble_eq_true rfl) dX6_sumOf_11 (fun r11 ws11 _ hr11 => ?_)
  obtain ⟨rfl, rfl⟩ := hr11
  refine g_if_ne F 23 (b2i_in _) dX6_sumOf_14 (by decide) (fun c14 => ?_) (fun c14 => ?_)
  · skip
    have c14 : 0 ≤ r ∧ r ≤ 2 := b2i_t c14
    refine g_iconst F dX6_sumOf_23 ?_
    refine g_istore_n F (lv' := [(2, .int (iI 0)), (0, .ref (ma 100)), (1, .int (iI r))]) 2 dX6_sumOf_24 rfl (by decide) rfl ?_
    refine g_iconst F dX6_sumOf_25 ?_
    refine g_iload_n F 2 dX6_sumOf_26 rfl ?_
    refine g_imul F dX6_sumOf_27 ?_
    refine g_istore_n F (lv' := [(3, .int (iI (4 * r))), (2, .int (iI 0)), (0, .ref (ma 100)), (1, .int (iI r))]) 3 dX6_sumOf_28 rfl (by decide) rfl ?_
    have L29 : ∀ (mz29 : Nat) (z : Int) (s : Int), (4 * r + 4 - z).toNat = mz29 → (4 * r ≤ z ∧ z ≤ 4 * r + 4) → (s = sumI (fun j => M 2 (4 * r + j)) (z - 4 * r)) → (0 ≤ s ∧ s ≤ 99 * (z - 4 * r)) → G E (mw κ ma (mA M 10 (fun _ => 0))) [(3, .int (iI z)), (2, .int (iI s)), (0, .ref (ma 100)), (1, .int (iI r))] 29 [] := by
      intro mz29
      induction mz29 using Nat.strongRecOn with
      | _ mz29 ih29 =>
      intro z s hmz29 hz hs hsb
      refine g_iload_n F 0 dX6_sumOf_29 rfl ?_
      refine g_iconst F dX6_sumOf_30 ?_
      refine g_iload_n F 3 dX6_sumOf_31 rfl ?_
      refine g_imul F dX6_sumOf_32 ?_
      refine g_iconst F dX6_sumOf_33 ?_
      refine g_iadd F dX6_sumOf_34 ?_
      refine g_icmp_ge F 53 (by omega) dX6_sumOf_35 (by decide) (fun c35 => ?_) (fun c35 => ?_)
      · skip
        refine g_iload_n F 1 dX6_sumOf_53 rfl ?_
        have hq : s = qSumOf (M 2) r := by unfold qSumOf; rw [if_neg (by omega), hs, show z - 4 * r = 4 by omega, sum4]; show M 2 (4 * r + 0) + M 2 (4 * r + 1) + M 2 (4 * r + 2) + M 2 (4 * r + 3) = _; rw [Int.add_zero]
        exact K mw_same ⟨_, rfl, iIc hq, ⟨rfl, rfl, rfl, rfl, rfl, rfl, rfl, rfl, rfl, rfl, rfl, rfl, rfl, rfl, rfl, rfl, rfl, rfl⟩, (by rw [← hq]; show M 11 = _; exact (rfa_n (by omega)).symm)⟩ rfl dX6_sumOf_54
      · skip
        have hk := ok.a z (by omega) (by omega)
        have hk2 : 0 ≤ M 2 z ∧ M 2 z ≤ 99 := hk
        refine g_iload_n F 1 dX6_sumOf_38 rfl ?_
        refine g_aload_n F 2 dX6_sumOf_39 rfl ?_
        refine gm_get_2 F dX6_sumOf_40 ?_
        refine g_iload_n F 0 dX6_sumOf_43 rfl ?_
        refine gm_ald_2 F (by omega) dX6_sumOf_44 ?_
        refine g_top (y := iI (M 2 z)) rfl ?_
        refine g_iadd F dX6_sumOf_45 ?_
        refine g_istore_n F (lv' := [(2, .int (iI (s + (M 2 z)))), (3, .int (iI z)), (0, .ref (ma 100)), (1, .int (iI r))]) 2 dX6_sumOf_46 rfl (by decide) rfl ?_
        refine g_iinc F (lv' := [(3, .int (iI (z + 1))), (2, .int (iI (s + (M 2 z)))), (0, .ref (ma 100)), (1, .int (iI r))]) 1 dX6_sumOf_47 rfl (by decide) rfl ?_
        refine g_goto F 29 dX6_sumOf_50 (by decide) ?_
        refine g_sub F (lv' := [(3, .int (iI (z + 1))), (2, .int (iI (s + (M 2 z)))), (0, .ref (ma 100)), (1, .int (iI r))]) [0, 1, 2, 3] rfl ?_
        exact ih29 _ (by omega) (z + 1) (s + (M 2 z)) rfl (by omega) (by rw [show z + 1 - 4 * r = (z - 4 * r) + 1 by omega, sumI_s _ (by omega), ← hs, show 4 * r + (z - 4 * r) = z by omega]) (by omega)
    refine g_sub F (lv' := [(3, .int (iI (4 * r))), (2, .int (iI 0)), (0, .ref (ma 100)), (1, .int (iI r))]) [0, 1, 2, 3] rfl ?_
    exact L29 _ (4 * r) 0 rfl (by omega) (by rw [show 4 * r - 4 * r = 0 by omega]; rfl) (by omega)
  · skip
    have c14 : ¬ (0 ≤ r ∧ r ≤ 2) := b2i_f c14
    refine g_aload_n F 0 dX6_sumOf_17 rfl ?_
    refine g_iconst F dX6_sumOf_18 ?_
    refine g_callI F (stk := [.int (iI (-1)), .ref (ma 100)]) (st := []) (k_X6_refuse κ ma (mA M 10 (fun _ => 0)) (-1) (by omega)) cal_X6_refuse lm_X6_138 0 rfl rfl rfl rfl (by decide) rfl (Nat.le_of_ble_eq_true rfl) dX6_sumOf_19 (fun r19 ws19 _ hr19 => ?_)
    obtain ⟨rfl, rfl⟩ := hr19
    refine g_top (y := iI (-1)) rfl ?_
    refine g_ws (ws' := mw κ ma (mA (mA M 10 (fun _ => 0)) 11 (uI (M 11) (-(-1)) (M 11 (-(-1)) + 1)))) rfl ?_
    have hq : (-1) = qSumOf (M 2) r := by unfold qSumOf; (repeat' split) <;> omega
    exact K mw_same ⟨_, rfl, iIc hq, ⟨rfl, rfl, rfl, rfl, rfl, rfl, rfl, rfl, rfl, rfl, rfl, rfl, rfl, rfl, rfl, rfl, rfl, rfl⟩, (by rw [← hq]; exact (rfa_r (by omega)).symm)⟩ rfl dX6_sumOf_22
theorem dX5_sumOf_0 : decode cX5_sumOf 0 = .ok (.iload_n 1, 1) := by decide +kernel
theorem dX5_sumOf_1 : decode cX5_sumOf 1 = .ok (.ifCond .lt 8, 3) := by decide +kernel
theorem dX5_sumOf_4 : decode cX5_sumOf 4 = .ok (.iload_n 1, 1) := by decide +kernel
theorem dX5_sumOf_5 : decode cX5_sumOf 5 = .ok (.iconst 3, 1) := by decide +kernel
theorem dX5_sumOf_6 : decode cX5_sumOf 6 = .ok (.if_icmp .lt 9, 3) := by decide +kernel
theorem dX5_sumOf_9 : decode cX5_sumOf 9 = .ok (.aload_n 0, 1) := by decide +kernel
theorem dX5_sumOf_10 : decode cX5_sumOf 10 = .ok (.iconst (-1), 1) := by decide +kernel
theorem dX5_sumOf_11 : decode cX5_sumOf 11 = .ok (.invokevirtual 69, 3) := by decide +kernel
theorem dX5_sumOf_14 : decode cX5_sumOf 14 = .ok (.ireturn, 1) := by decide +kernel
theorem dX5_sumOf_15 : decode cX5_sumOf 15 = .ok (.iconst 0, 1) := by decide +kernel
theorem dX5_sumOf_16 : decode cX5_sumOf 16 = .ok (.istore_n 2, 1) := by decide +kernel
theorem dX5_sumOf_17 : decode cX5_sumOf 17 = .ok (.iconst 0, 1) := by decide +kernel
theorem dX5_sumOf_18 : decode cX5_sumOf 18 = .ok (.istore_n 3, 1) := by decide +kernel
theorem dX5_sumOf_19 : decode cX5_sumOf 19 = .ok (.iload_n 3, 1) := by decide +kernel
theorem dX5_sumOf_20 : decode cX5_sumOf 20 = .ok (.iconst 4, 1) := by decide +kernel
theorem dX5_sumOf_21 : decode cX5_sumOf 21 = .ok (.if_icmp .ge 25, 3) := by decide +kernel
theorem dX5_sumOf_24 : decode cX5_sumOf 24 = .ok (.iload_n 2, 1) := by decide +kernel
theorem dX5_sumOf_25 : decode cX5_sumOf 25 = .ok (.aload_n 0, 1) := by decide +kernel
theorem dX5_sumOf_26 : decode cX5_sumOf 26 = .ok (.getfield 10, 3) := by decide +kernel
theorem dX5_sumOf_29 : decode cX5_sumOf 29 = .ok (.getfield 175, 3) := by decide +kernel
theorem dX5_sumOf_32 : decode cX5_sumOf 32 = .ok (.iload_n 1, 1) := by decide +kernel
theorem dX5_sumOf_33 : decode cX5_sumOf 33 = .ok (.iconst 4, 1) := by decide +kernel
theorem dX5_sumOf_34 : decode cX5_sumOf 34 = .ok (.imul, 1) := by decide +kernel
theorem dX5_sumOf_35 : decode cX5_sumOf 35 = .ok (.iload_n 3, 1) := by decide +kernel
theorem dX5_sumOf_36 : decode cX5_sumOf 36 = .ok (.iadd, 1) := by decide +kernel
theorem dX5_sumOf_37 : decode cX5_sumOf 37 = .ok (.iaload, 1) := by decide +kernel
theorem dX5_sumOf_38 : decode cX5_sumOf 38 = .ok (.iadd, 1) := by decide +kernel
theorem dX5_sumOf_39 : decode cX5_sumOf 39 = .ok (.istore_n 2, 1) := by decide +kernel
theorem dX5_sumOf_40 : decode cX5_sumOf 40 = .ok (.iinc 3 1, 3) := by decide +kernel
theorem dX5_sumOf_43 : decode cX5_sumOf 43 = .ok (.goto (-24), 3) := by decide +kernel
theorem dX5_sumOf_46 : decode cX5_sumOf 46 = .ok (.iload_n 2, 1) := by decide +kernel
theorem dX5_sumOf_47 : decode cX5_sumOf 47 = .ok (.ireturn, 1) := by decide +kernel
set_option maxRecDepth 100000 in
set_option maxHeartbeats 4000000 in
theorem k_X5_sumOf (κ : Kp) (xa : Nat → Nat → Nat) (X : XS) (r : Int)  (ha_r : In32 r) (ok : okC (cl (X 0))) : mI κ yX5_sumOf cX5_sumOf 4 .int 2 [.ref (xa 18 100), .int (iI r)] (xw κ xa X) (qX κ xa X (qSumOf (X 0 2) r)) := by
  refine mI_of (by decide) (Nat.le_of_ble_eq_true rfl) (fun E F K => ?_)
  refine g_lv (lv' := [(0, .ref (xa 18 100)), (1, .int (iI r))]) rfl ?_
  refine g_iload_n F 1 dX5_sumOf_0 rfl ?_
  refine g_if_lt F 9 (by omega) dX5_sumOf_1 (by decide) (fun c1 => ?_) (fun c1 => ?_)
  · skip
    refine g_aload_n F 0 dX5_sumOf_9 rfl ?_
    refine g_iconst F dX5_sumOf_10 ?_
    refine g_callI F (stk := [.int (iI (-1)), .ref (xa 18 100)]) (st := []) (k_X5_refuse κ xa X (-1) (by omega)) cal_X5_refuse lm_X5_69 81 rfl rfl rfl rfl (by decide) rfl (Nat.le_of_ble_eq_true rfl) dX5_sumOf_11 (fun r11 ws11 _ hr11 => ?_)
    obtain ⟨rfl, rfl⟩ := hr11
    have hq : (-1) = qSumOf (X 0 2) r := by unfold qSumOf; (repeat' split) <;> omega
    exact K xw_same ⟨_, rfl, iIc hq, (sX_18 sX_0 rfl rfl rfl), (by rw [← hq]; exact (rfa_r (by omega)).symm)⟩ rfl dX5_sumOf_14
  · skip
    refine g_iload_n F 1 dX5_sumOf_4 rfl ?_
    refine g_iconst F dX5_sumOf_5 ?_
    refine g_icmp_lt F 15 (by omega) dX5_sumOf_6 (by decide) (fun c6 => ?_) (fun c6 => ?_)
    · skip
      refine g_iconst F dX5_sumOf_15 ?_
      refine g_istore_n F (lv' := [(2, .int (iI 0)), (0, .ref (xa 18 100)), (1, .int (iI r))]) 2 dX5_sumOf_16 rfl (by decide) rfl ?_
      refine g_iconst F dX5_sumOf_17 ?_
      refine g_istore_n F (lv' := [(3, .int (iI 0)), (2, .int (iI 0)), (0, .ref (xa 18 100)), (1, .int (iI r))]) 3 dX5_sumOf_18 rfl (by decide) rfl ?_
      have L19 : ∀ (mz19 : Nat) (j : Int) (s : Int), (4 - j).toNat = mz19 → (0 ≤ j ∧ j ≤ 4) → (s = sumI (fun j => X 0 2 (4 * r + j)) j) → (0 ≤ s ∧ s ≤ 99 * j) → G E (xw κ xa X) [(3, .int (iI j)), (2, .int (iI s)), (0, .ref (xa 18 100)), (1, .int (iI r))] 19 [] := by
        intro mz19
        induction mz19 using Nat.strongRecOn with
        | _ mz19 ih19 =>
        intro j s hmz19 hj hs hsb
        refine g_iload_n F 0 dX5_sumOf_19 rfl ?_
        refine g_iconst F dX5_sumOf_20 ?_
        refine g_icmp_ge F 46 (by omega) dX5_sumOf_21 (by decide) (fun c21 => ?_) (fun c21 => ?_)
        · skip
          refine g_iload_n F 1 dX5_sumOf_46 rfl ?_
          have hq : s = qSumOf (X 0 2) r := by unfold qSumOf; rw [if_neg (by omega), hs, show j = 4 by omega, sum4]; show X 0 2 (4 * r + 0) + X 0 2 (4 * r + 1) + X 0 2 (4 * r + 2) + X 0 2 (4 * r + 3) = _; rw [Int.add_zero]
          exact K xw_same ⟨_, rfl, iIc hq, sX_0, (by rw [← hq]; exact (rfa_n (by omega)).symm)⟩ rfl dX5_sumOf_47
        · skip
          have hk : 0 ≤ X 0 2 (r * 4 + j) ∧ X 0 2 (r * 4 + j) ≤ 99 := ok.a (r * 4 + j) (by omega) (by omega)
          refine g_iload_n F 1 dX5_sumOf_24 rfl ?_
          refine g_aload_n F 2 dX5_sumOf_25 rfl ?_
          refine g18_get_0 F  lf_X5_10 dX5_sumOf_26 ?_
          refine gc_getN_2 F (o := 0) (by decide) nf_X5_175 dX5_sumOf_29 ?_
          refine g_iload_n F 3 dX5_sumOf_32 rfl ?_
          refine g_iconst F dX5_sumOf_33 ?_
          refine g_imul F dX5_sumOf_34 ?_
          refine g_iload_n F 0 dX5_sumOf_35 rfl ?_
          refine g_iadd F dX5_sumOf_36 ?_
          refine gc_ald_2 F (o := 0) (by decide) (by omega) dX5_sumOf_37 ?_
          refine g_iadd F dX5_sumOf_38 ?_
          refine g_istore_n F (lv' := [(2, .int (iI (s + ((X 0) 2 ((r * 4) + j))))), (3, .int (iI j)), (0, .ref (xa 18 100)), (1, .int (iI r))]) 2 dX5_sumOf_39 rfl (by decide) rfl ?_
          refine g_iinc F (lv' := [(3, .int (iI (j + 1))), (2, .int (iI (s + ((X 0) 2 ((r * 4) + j))))), (0, .ref (xa 18 100)), (1, .int (iI r))]) 1 dX5_sumOf_40 rfl (by decide) rfl ?_
          refine g_goto F 19 dX5_sumOf_43 (by decide) ?_
          refine g_sub F (lv' := [(3, .int (iI (j + 1))), (2, .int (iI (s + ((X 0) 2 ((r * 4) + j))))), (0, .ref (xa 18 100)), (1, .int (iI r))]) [0, 1, 2, 3] rfl ?_
          exact ih19 _ (by omega) (j + 1) (s + ((X 0) 2 ((r * 4) + j))) rfl (by omega) (by rw [sumI_s _ (by omega), ← hs]; show s + X 0 2 (r * 4 + j) = s + X 0 2 (4 * r + j); rw [show r * 4 + j = 4 * r + j by omega]) (by omega)
      refine g_sub F (lv' := [(3, .int (iI 0)), (2, .int (iI 0)), (0, .ref (xa 18 100)), (1, .int (iI r))]) [0, 1, 2, 3] rfl ?_
      exact L19 _ 0 0 rfl (by omega) rfl (by omega)
    · skip
      refine g_aload_n F 0 dX5_sumOf_9 rfl ?_
      refine g_iconst F dX5_sumOf_10 ?_
      refine g_callI F (stk := [.int (iI (-1)), .ref (xa 18 100)]) (st := []) (k_X5_refuse κ xa X (-1) (by omega)) cal_X5_refuse lm_X5_69 81 rfl rfl rfl rfl (by decide) rfl (Nat.le_of_ble_eq_true rfl) dX5_sumOf_11 (fun r11 ws11 _ hr11 => ?_)
      obtain ⟨rfl, rfl⟩ := hr11
      have hq : (-1) = qSumOf (X 0 2) r := by unfold qSumOf; (repeat' split) <;> omega
      exact K xw_same ⟨_, rfl, iIc hq, (sX_18 sX_0 rfl rfl rfl), (by rw [← hq]; exact (rfa_r (by omega)).symm)⟩ rfl dX5_sumOf_14
theorem dX6_rank_0 : decode cX6_rank 0 = .ok (.aload_n 0, 1) := by decide +kernel
theorem dX6_rank_1 : decode cX6_rank 1 = .ok (.iconst 0, 1) := by decide +kernel
theorem dX6_rank_2 : decode cX6_rank 2 = .ok (.putfield 91, 3) := by decide +kernel
theorem dX6_rank_5 : decode cX6_rank 5 = .ok (.iload_n 1, 1) := by decide +kernel
theorem dX6_rank_6 : decode cX6_rank 6 = .ok (.ifCond .ge 10, 3) := by decide +kernel
theorem dX6_rank_9 : decode cX6_rank 9 = .ok (.aload_n 0, 1) := by decide +kernel
theorem dX6_rank_10 : decode cX6_rank 10 = .ok (.bipush (-4), 2) := by decide +kernel
theorem dX6_rank_12 : decode cX6_rank 12 = .ok (.invokevirtual 138, 3) := by decide +kernel
theorem dX6_rank_15 : decode cX6_rank 15 = .ok (.ireturn, 1) := by decide +kernel
theorem dX6_rank_16 : decode cX6_rank 16 = .ok (.iconst 0, 1) := by decide +kernel
theorem dX6_rank_17 : decode cX6_rank 17 = .ok (.istore_n 2, 1) := by decide +kernel
theorem dX6_rank_18 : decode cX6_rank 18 = .ok (.iload_n 2, 1) := by decide +kernel
theorem dX6_rank_19 : decode cX6_rank 19 = .ok (.bipush 12, 2) := by decide +kernel
theorem dX6_rank_21 : decode cX6_rank 21 = .ok (.if_icmp .ge 80, 3) := by decide +kernel
theorem dX6_rank_24 : decode cX6_rank 24 = .ok (.iconst 0, 1) := by decide +kernel
theorem dX6_rank_25 : decode cX6_rank 25 = .ok (.istore_n 3, 1) := by decide +kernel
theorem dX6_rank_26 : decode cX6_rank 26 = .ok (.iconst 0, 1) := by decide +kernel
theorem dX6_rank_27 : decode cX6_rank 27 = .ok (.istore 4, 2) := by decide +kernel
theorem dX6_rank_29 : decode cX6_rank 29 = .ok (.iload 4, 2) := by decide +kernel
theorem dX6_rank_31 : decode cX6_rank 31 = .ok (.bipush 12, 2) := by decide +kernel
theorem dX6_rank_33 : decode cX6_rank 33 = .ok (.if_icmp .ge 55, 3) := by decide +kernel
theorem dX6_rank_36 : decode cX6_rank 36 = .ok (.iload_n 3, 1) := by decide +kernel
theorem dX6_rank_37 : decode cX6_rank 37 = .ok (.aload_n 0, 1) := by decide +kernel
theorem dX6_rank_38 : decode cX6_rank 38 = .ok (.getfield 19, 3) := by decide +kernel
theorem dX6_rank_41 : decode cX6_rank 41 = .ok (.iload 4, 2) := by decide +kernel
theorem dX6_rank_43 : decode cX6_rank 43 = .ok (.iaload, 1) := by decide +kernel
theorem dX6_rank_44 : decode cX6_rank 44 = .ok (.aload_n 0, 1) := by decide +kernel
theorem dX6_rank_45 : decode cX6_rank 45 = .ok (.getfield 19, 3) := by decide +kernel
theorem dX6_rank_48 : decode cX6_rank 48 = .ok (.iload_n 2, 1) := by decide +kernel
theorem dX6_rank_49 : decode cX6_rank 49 = .ok (.iaload, 1) := by decide +kernel
theorem dX6_rank_50 : decode cX6_rank 50 = .ok (.if_icmp .gt 25, 3) := by decide +kernel
theorem dX6_rank_53 : decode cX6_rank 53 = .ok (.aload_n 0, 1) := by decide +kernel
theorem dX6_rank_54 : decode cX6_rank 54 = .ok (.getfield 19, 3) := by decide +kernel
theorem dX6_rank_57 : decode cX6_rank 57 = .ok (.iload 4, 2) := by decide +kernel
theorem dX6_rank_59 : decode cX6_rank 59 = .ok (.iaload, 1) := by decide +kernel
theorem dX6_rank_60 : decode cX6_rank 60 = .ok (.aload_n 0, 1) := by decide +kernel
theorem dX6_rank_61 : decode cX6_rank 61 = .ok (.getfield 19, 3) := by decide +kernel
theorem dX6_rank_64 : decode cX6_rank 64 = .ok (.iload_n 2, 1) := by decide +kernel
theorem dX6_rank_65 : decode cX6_rank 65 = .ok (.iaload, 1) := by decide +kernel
theorem dX6_rank_66 : decode cX6_rank 66 = .ok (.if_icmp .ne 13, 3) := by decide +kernel
theorem dX6_rank_69 : decode cX6_rank 69 = .ok (.iload 4, 2) := by decide +kernel
theorem dX6_rank_71 : decode cX6_rank 71 = .ok (.iload_n 2, 1) := by decide +kernel
theorem dX6_rank_72 : decode cX6_rank 72 = .ok (.if_icmp .ge 7, 3) := by decide +kernel
theorem dX6_rank_75 : decode cX6_rank 75 = .ok (.iconst 1, 1) := by decide +kernel
theorem dX6_rank_76 : decode cX6_rank 76 = .ok (.goto 4, 3) := by decide +kernel
theorem dX6_rank_79 : decode cX6_rank 79 = .ok (.iconst 0, 1) := by decide +kernel
theorem dX6_rank_80 : decode cX6_rank 80 = .ok (.iadd, 1) := by decide +kernel
theorem dX6_rank_81 : decode cX6_rank 81 = .ok (.istore_n 3, 1) := by decide +kernel
theorem dX6_rank_82 : decode cX6_rank 82 = .ok (.iinc 4 1, 3) := by decide +kernel
theorem dX6_rank_85 : decode cX6_rank 85 = .ok (.goto (-56), 3) := by decide +kernel
theorem dX6_rank_88 : decode cX6_rank 88 = .ok (.iload_n 3, 1) := by decide +kernel
theorem dX6_rank_89 : decode cX6_rank 89 = .ok (.iload_n 1, 1) := by decide +kernel
theorem dX6_rank_90 : decode cX6_rank 90 = .ok (.if_icmp .ne 5, 3) := by decide +kernel
theorem dX6_rank_93 : decode cX6_rank 93 = .ok (.iload_n 2, 1) := by decide +kernel
theorem dX6_rank_94 : decode cX6_rank 94 = .ok (.ireturn, 1) := by decide +kernel
theorem dX6_rank_95 : decode cX6_rank 95 = .ok (.iinc 2 1, 3) := by decide +kernel
theorem dX6_rank_98 : decode cX6_rank 98 = .ok (.goto (-80), 3) := by decide +kernel
theorem dX6_rank_101 : decode cX6_rank 101 = .ok (.bipush (-9), 2) := by decide +kernel
theorem dX6_rank_103 : decode cX6_rank 103 = .ok (.ireturn, 1) := by decide +kernel
set_option maxRecDepth 100000 in
set_option maxHeartbeats 4000000 in
theorem k_X6_rank (κ : Kp) (ma : Nat → Nat) (M : MS) (i : Int)  (ha_i : In32 i) (ok : okC (cl M)) : mI κ yX6_rank cX6_rank 5 .int 2 [.ref (ma 100), .int (iI i)] (mw κ ma M) (qM κ ma M (qRank (M 3) i)) := by
  refine mI_of (by decide) (Nat.le_of_ble_eq_true rfl) (fun E F K => ?_)
  refine g_lv (lv' := [(0, .ref (ma 100)), (1, .int (iI i))]) rfl ?_
  refine g_aload_n F 0 dX6_rank_0 rfl ?_
  refine g_iconst F dX6_rank_1 ?_
  refine gm_put_10 F dX6_rank_2 ?_
  refine g_iload_n F 1 dX6_rank_5 rfl ?_
  refine g_if_ge F 16 (by omega) dX6_rank_6 (by decide) (fun c6 => ?_) (fun c6 => ?_)
  · skip
    refine g_iconst F dX6_rank_16 ?_
    refine g_istore_n F (lv' := [(2, .int (iI 0)), (0, .ref (ma 100)), (1, .int (iI i))]) 2 dX6_rank_17 rfl (by decide) rfl ?_
    have L18 : ∀ (mz18 : Nat) (c : Int), (12 - c).toNat = mz18 → (0 ≤ c ∧ c ≤ 12) → (rkN (M 3) i (12 - c).toNat c = rkN (M 3) i 12 0) → G E (mw κ ma (mA M 10 (fun _ => 0))) [(2, .int (iI c)), (0, .ref (ma 100)), (1, .int (iI i))] 18 [] := by
      intro mz18
      induction mz18 using Nat.strongRecOn with
      | _ mz18 ih18 =>
      intro c hmz18 hc hR
      refine g_iload_n F 0 dX6_rank_18 rfl ?_
      refine g_bipush F dX6_rank_19 (by decide +kernel) ?_
      refine g_icmp_ge F 101 (by omega) dX6_rank_21 (by decide) (fun c21 => ?_) (fun c21 => ?_)
      · skip
        refine g_bipush F dX6_rank_101 (by decide +kernel) ?_
        have hq : -9 = qRank (M 3) i := by unfold qRank; rw [if_neg (by omega), ← hR, show c = 12 by omega]; rfl
        exact K mw_same ⟨_, rfl, iIc hq, ⟨rfl, rfl, rfl, rfl, rfl, rfl, rfl, rfl, rfl, rfl, rfl, rfl, rfl, rfl, rfl, rfl, rfl, rfl⟩, (by rw [← hq]; show M 11 = _; exact (rfa_n (by omega)).symm)⟩ rfl dX6_rank_103
      · skip
        refine g_iconst F dX6_rank_24 ?_
        refine g_istore_n F (lv' := [(3, .int (iI 0)), (2, .int (iI c)), (0, .ref (ma 100)), (1, .int (iI i))]) 3 dX6_rank_25 rfl (by decide) rfl ?_
        refine g_iconst F dX6_rank_26 ?_
        refine g_istore F (lv' := [(4, .int (iI 0)), (3, .int (iI 0)), (2, .int (iI c)), (0, .ref (ma 100)), (1, .int (iI i))]) dX6_rank_27 (by decide) rfl ?_
        have L29 : ∀ (mz29 : Nat) (o : Int) (k : Int), (12 - o).toNat = mz29 → (0 ≤ o ∧ o ≤ 12) → (k = sumI (rk1 (M 3) c) o) → (0 ≤ k ∧ k ≤ o) → G E (mw κ ma (mA M 10 (fun _ => 0))) [(4, .int (iI o)), (3, .int (iI k)), (2, .int (iI c)), (0, .ref (ma 100)), (1, .int (iI i))] 29 [] := by
          intro mz29
          induction mz29 using Nat.strongRecOn with
          | _ mz29 ih29 =>
          intro o k hmz29 ho hk hkb
          refine g_iload F 0 dX6_rank_29 rfl ?_
          refine g_bipush F dX6_rank_31 (by decide +kernel) ?_
          refine g_icmp_ge F 88 (by omega) dX6_rank_33 (by decide) (fun c33 => ?_) (fun c33 => ?_)
          · skip
            have hkr : k = rnk (M 3) c := by rw [hk, show o = 12 by omega]; rfl
            refine g_iload_n F 1 dX6_rank_88 rfl ?_
            refine g_iload_n F 4 dX6_rank_89 rfl ?_
            refine g_icmp_ne F 95 (by omega) dX6_rank_90 (by decide) (fun c90 => ?_) (fun c90 => ?_)
            · skip
              refine g_iinc F (lv' := [(2, .int (iI (c + 1))), (4, .int (iI o)), (3, .int (iI k)), (0, .ref (ma 100)), (1, .int (iI i))]) 2 dX6_rank_95 rfl (by decide) rfl ?_
              refine g_goto F 18 dX6_rank_98 (by decide) ?_
              refine g_sub F (lv' := [(2, .int (iI (c + 1))), (0, .ref (ma 100)), (1, .int (iI i))]) [0, 3, 4] rfl ?_
              exact ih18 _ (by omega) (c + 1) rfl (by omega) (by rw [← hR, rk_s (M 3) i (c := c) (by omega), if_neg (by rw [← hkr]; exact c90)])
            · skip
              refine g_iload_n F 2 dX6_rank_93 rfl ?_
              have hq : c = qRank (M 3) i := by unfold qRank; rw [if_neg (by omega), ← hR, rk_s (M 3) i (c := c) (by omega), if_pos (by rw [← hkr]; exact c90)]
              exact K mw_same ⟨_, rfl, iIc hq, ⟨rfl, rfl, rfl, rfl, rfl, rfl, rfl, rfl, rfl, rfl, rfl, rfl, rfl, rfl, rfl, rfl, rfl, rfl⟩, (by rw [← hq]; show M 11 = _; exact (rfa_n (by omega)).symm)⟩ rfl dX6_rank_94
          · skip
            have h1 : 0 ≤ M 3 o ∧ M 3 o ≤ 99 := ok.w o (by omega) (by omega)
            have h2 : 0 ≤ M 3 c ∧ M 3 c ≤ 99 := ok.w c (by omega) (by omega)
            refine g_iload_n F 1 dX6_rank_36 rfl ?_
            refine g_aload_n F 3 dX6_rank_37 rfl ?_
            refine gm_get_3 F dX6_rank_38 ?_
            refine g_iload F 0 dX6_rank_41 rfl ?_
            refine gm_ald_3 F (by omega) dX6_rank_43 ?_
            refine g_top (y := iI (M 3 o)) rfl ?_
            refine g_aload_n F 3 dX6_rank_44 rfl ?_
            refine gm_get_3 F dX6_rank_45 ?_
            refine g_iload_n F 2 dX6_rank_48 rfl ?_
            refine gm_ald_3 F (by omega) dX6_rank_49 ?_
            refine g_top (y := iI (M 3 c)) rfl ?_
            refine g_icmp_gt F 75 (by omega) dX6_rank_50 (by decide) (fun c50 => ?_) (fun c50 => ?_)
            · skip
              refine g_iconst F dX6_rank_75 ?_
              refine g_goto F 80 dX6_rank_76 (by decide) ?_
              refine g_iadd F dX6_rank_80 ?_
              refine g_istore_n F (lv' := [(3, .int (iI (k + 1))), (4, .int (iI o)), (2, .int (iI c)), (0, .ref (ma 100)), (1, .int (iI i))]) 3 dX6_rank_81 rfl (by decide) rfl ?_
              refine g_iinc F (lv' := [(4, .int (iI (o + 1))), (3, .int (iI (k + 1))), (2, .int (iI c)), (0, .ref (ma 100)), (1, .int (iI i))]) 1 dX6_rank_82 rfl (by decide) rfl ?_
              refine g_goto F 29 dX6_rank_85 (by decide) ?_
              refine g_sub F (lv' := [(4, .int (iI (o + 1))), (3, .int (iI (k + 1))), (2, .int (iI c)), (0, .ref (ma 100)), (1, .int (iI i))]) [0, 1, 2, 3, 4] rfl ?_
              exact ih29 _ (by omega) (o + 1) (k + 1) rfl (by omega) (by rw [sumI_s _ ho.1, ← hk]; unfold rk1; split <;> omega) (by omega)
            · skip
              refine g_aload_n F 3 dX6_rank_53 rfl ?_
              refine gm_get_3 F dX6_rank_54 ?_
              refine g_iload F 0 dX6_rank_57 rfl ?_
              refine gm_ald_3 F (by omega) dX6_rank_59 ?_
              refine g_top (y := iI (M 3 o)) rfl ?_
              refine g_aload_n F 3 dX6_rank_60 rfl ?_
              refine gm_get_3 F dX6_rank_61 ?_
              refine g_iload_n F 2 dX6_rank_64 rfl ?_
              refine gm_ald_3 F (by omega) dX6_rank_65 ?_
              refine g_top (y := iI (M 3 c)) rfl ?_
              refine g_icmp_ne F 79 (by omega) dX6_rank_66 (by decide) (fun c66 => ?_) (fun c66 => ?_)
              · skip
                refine g_iconst F dX6_rank_79 ?_
                refine g_iadd F dX6_rank_80 ?_
                refine g_istore_n F (lv' := [(3, .int (iI (k + 0))), (4, .int (iI o)), (2, .int (iI c)), (0, .ref (ma 100)), (1, .int (iI i))]) 3 dX6_rank_81 rfl (by decide) rfl ?_
                refine g_iinc F (lv' := [(4, .int (iI (o + 1))), (3, .int (iI (k + 0))), (2, .int (iI c)), (0, .ref (ma 100)), (1, .int (iI i))]) 1 dX6_rank_82 rfl (by decide) rfl ?_
                refine g_goto F 29 dX6_rank_85 (by decide) ?_
                refine g_sub F (lv' := [(4, .int (iI (o + 1))), (3, .int (iI (k + 0))), (2, .int (iI c)), (0, .ref (ma 100)), (1, .int (iI i))]) [0, 1, 2, 3, 4] rfl ?_
                exact ih29 _ (by omega) (o + 1) (k + 0) rfl (by omega) (by rw [sumI_s _ ho.1, ← hk]; unfold rk1; split <;> omega) (by omega)
              · skip
                refine g_iload F 0 dX6_rank_69 rfl ?_
                refine g_iload_n F 2 dX6_rank_71 rfl ?_
                refine g_icmp_ge F 79 (by omega) dX6_rank_72 (by decide) (fun c72 => ?_) (fun c72 => ?_)
                · skip
                  refine g_iconst F dX6_rank_79 ?_
                  refine g_iadd F dX6_rank_80 ?_
                  refine g_istore_n F (lv' := [(3, .int (iI (k + 0))), (4, .int (iI o)), (2, .int (iI c)), (0, .ref (ma 100)), (1, .int (iI i))]) 3 dX6_rank_81 rfl (by decide) rfl ?_
                  refine g_iinc F (lv' := [(4, .int (iI (o + 1))), (3, .int (iI (k + 0))), (2, .int (iI c)), (0, .ref (ma 100)), (1, .int (iI i))]) 1 dX6_rank_82 rfl (by decide) rfl ?_
                  refine g_goto F 29 dX6_rank_85 (by decide) ?_
                  refine g_sub F (lv' := [(4, .int (iI (o + 1))), (3, .int (iI (k + 0))), (2, .int (iI c)), (0, .ref (ma 100)), (1, .int (iI i))]) [0, 1, 2, 3, 4] rfl ?_
                  exact ih29 _ (by omega) (o + 1) (k + 0) rfl (by omega) (by rw [sumI_s _ ho.1, ← hk]; unfold rk1; split <;> omega) (by omega)
                · skip
                  refine g_iconst F dX6_rank_75 ?_
                  refine g_goto F 80 dX6_rank_76 (by decide) ?_
                  refine g_iadd F dX6_rank_80 ?_
                  refine g_istore_n F (lv' := [(3, .int (iI (k + 1))), (4, .int (iI o)), (2, .int (iI c)), (0, .ref (ma 100)), (1, .int (iI i))]) 3 dX6_rank_81 rfl (by decide) rfl ?_
                  refine g_iinc F (lv' := [(4, .int (iI (o + 1))), (3, .int (iI (k + 1))), (2, .int (iI c)), (0, .ref (ma 100)), (1, .int (iI i))]) 1 dX6_rank_82 rfl (by decide) rfl ?_
                  refine g_goto F 29 dX6_rank_85 (by decide) ?_
                  refine g_sub F (lv' := [(4, .int (iI (o + 1))), (3, .int (iI (k + 1))), (2, .int (iI c)), (0, .ref (ma 100)), (1, .int (iI i))]) [0, 1, 2, 3, 4] rfl ?_
                  exact ih29 _ (by omega) (o + 1) (k + 1) rfl (by omega) (by rw [sumI_s _ ho.1, ← hk]; unfold rk1; split <;> omega) (by omega)
        refine g_sub F (lv' := [(4, .int (iI 0)), (3, .int (iI 0)), (2, .int (iI c)), (0, .ref (ma 100)), (1, .int (iI i))]) [0, 1, 2, 3, 4] rfl ?_
        exact L29 _ 0 0 rfl (by omega) rfl (by omega)
    refine g_sub F (lv' := [(2, .int (iI 0)), (0, .ref (ma 100)), (1, .int (iI i))]) [0, 1, 2] rfl ?_
    exact L18 _ 0 rfl (by omega) rfl
  · skip
    refine g_aload_n F 0 dX6_rank_9 rfl ?_
    refine g_bipush F dX6_rank_10 (by decide +kernel) ?_
    refine g_callI F (stk := [.int (iI (-4)), .ref (ma 100)]) (st := []) (k_X6_refuse κ ma (mA M 10 (fun _ => 0)) (-4) (by omega)) cal_X6_refuse lm_X6_138 0 rfl rfl rfl rfl (by decide) rfl (Nat.le_of_ble_eq_true rfl) dX6_rank_12 (fun r12 ws12 _ hr12 => ?_)
    obtain ⟨rfl, rfl⟩ := hr12
    refine g_top (y := iI (-4)) rfl ?_
    refine g_ws (ws' := mw κ ma (mA (mA M 10 (fun _ => 0)) 11 (uI (M 11) (-(-4)) (M 11 (-(-4)) + 1)))) rfl ?_
    have hq : (-4) = qRank (M 3) i := by unfold qRank; (repeat' split) <;> omega
    exact K mw_same ⟨_, rfl, iIc hq, ⟨rfl, rfl, rfl, rfl, rfl, rfl, rfl, rfl, rfl, rfl, rfl, rfl, rfl, rfl, rfl, rfl, rfl, rfl⟩, (by rw [← hq]; exact (rfa_r (by omega)).symm)⟩ rfl dX6_rank_15
theorem rnk_bd (w : Int → Int) (c : Int) : 0 ≤ rnk w c ∧ rnk w c ≤ 12 := by
  have h := sumI_bd (f := rk1 w c) (lo := 0) (hi := 1) (n := 12) (by decide) (fun j _ _ => by unfold rk1; split <;> omega)
  unfold rnk
  omega
theorem dX5_rank_0 : decode cX5_rank 0 = .ok (.iload_n 1, 1) := by decide +kernel
theorem dX5_rank_1 : decode cX5_rank 1 = .ok (.ifCond .ge 10, 3) := by decide +kernel
theorem dX5_rank_4 : decode cX5_rank 4 = .ok (.aload_n 0, 1) := by decide +kernel
theorem dX5_rank_5 : decode cX5_rank 5 = .ok (.bipush (-4), 2) := by decide +kernel
theorem dX5_rank_7 : decode cX5_rank 7 = .ok (.invokevirtual 69, 3) := by decide +kernel
theorem dX5_rank_10 : decode cX5_rank 10 = .ok (.ireturn, 1) := by decide +kernel
theorem dX5_rank_11 : decode cX5_rank 11 = .ok (.iconst 0, 1) := by decide +kernel
theorem dX5_rank_12 : decode cX5_rank 12 = .ok (.istore_n 2, 1) := by decide +kernel
theorem dX5_rank_13 : decode cX5_rank 13 = .ok (.iload_n 2, 1) := by decide +kernel
theorem dX5_rank_14 : decode cX5_rank 14 = .ok (.bipush 12, 2) := by decide +kernel
theorem dX5_rank_16 : decode cX5_rank 16 = .ok (.if_icmp .ge 23, 3) := by decide +kernel
theorem dX5_rank_19 : decode cX5_rank 19 = .ok (.aload_n 0, 1) := by decide +kernel
theorem dX5_rank_20 : decode cX5_rank 20 = .ok (.getfield 10, 3) := by decide +kernel
theorem dX5_rank_23 : decode cX5_rank 23 = .ok (.iload_n 2, 1) := by decide +kernel
theorem dX5_rank_24 : decode cX5_rank 24 = .ok (.invokevirtual 314, 3) := by decide +kernel
theorem dX5_rank_27 : decode cX5_rank 27 = .ok (.iload_n 1, 1) := by decide +kernel
theorem dX5_rank_28 : decode cX5_rank 28 = .ok (.if_icmp .ne 5, 3) := by decide +kernel
theorem dX5_rank_31 : decode cX5_rank 31 = .ok (.iload_n 2, 1) := by decide +kernel
theorem dX5_rank_32 : decode cX5_rank 32 = .ok (.ireturn, 1) := by decide +kernel
theorem dX5_rank_33 : decode cX5_rank 33 = .ok (.iinc 2 1, 3) := by decide +kernel
theorem dX5_rank_36 : decode cX5_rank 36 = .ok (.goto (-23), 3) := by decide +kernel
theorem dX5_rank_39 : decode cX5_rank 39 = .ok (.bipush (-9), 2) := by decide +kernel
theorem dX5_rank_41 : decode cX5_rank 41 = .ok (.ireturn, 1) := by decide +kernel
set_option maxRecDepth 100000 in
set_option maxHeartbeats 4000000 in
theorem k_X5_rank (κ : Kp) (xa : Nat → Nat → Nat) (X : XS) (i : Int)  (ha_i : In32 i) (ok : okC (cl (X 0))) : mI κ yX5_rank cX5_rank 3 .int 2 [.ref (xa 18 100), .int (iI i)] (xw κ xa X) (qX κ xa X (qRank (X 0 3) i)) := by
  refine mI_of (by decide) (Nat.le_of_ble_eq_true rfl) (fun E F K => ?_)
  refine g_lv (lv' := [(0, .ref (xa 18 100)), (1, .int (iI i))]) rfl ?_
  refine g_iload_n F 1 dX5_rank_0 rfl ?_
  refine g_if_ge F 11 (by omega) dX5_rank_1 (by decide) (fun c1 => ?_) (fun c1 => ?_)
  · skip
    refine g_iconst F dX5_rank_11 ?_
    refine g_istore_n F (lv' := [(2, .int (iI 0)), (0, .ref (xa 18 100)), (1, .int (iI i))]) 2 dX5_rank_12 rfl (by decide) rfl ?_
    have L13 : ∀ (mz13 : Nat) (c : Int), (12 - c).toNat = mz13 → (0 ≤ c ∧ c ≤ 12) → (rkN (X 0 3) i (12 - c).toNat c = rkN (X 0 3) i 12 0) → G E (xw κ xa X) [(2, .int (iI c)), (0, .ref (xa 18 100)), (1, .int (iI i))] 13 [] := by
      intro mz13
      induction mz13 using Nat.strongRecOn with
      | _ mz13 ih13 =>
      intro c hmz13 hc hR
      refine g_iload_n F 0 dX5_rank_13 rfl ?_
      refine g_bipush F dX5_rank_14 (by decide +kernel) ?_
      refine g_icmp_ge F 39 (by omega) dX5_rank_16 (by decide) (fun c16 => ?_) (fun c16 => ?_)
      · skip
        refine g_bipush F dX5_rank_39 (by decide +kernel) ?_
        have hq : -9 = qRank (X 0 3) i := by unfold qRank; rw [if_neg (by omega), ← hR, show c = 12 by omega]; rfl
        exact K xw_same ⟨_, rfl, iIc hq, sX_0, (by rw [← hq]; exact (rfa_n (by omega)).symm)⟩ rfl dX5_rank_41
      · skip
        have hrb := rnk_bd (X 0 3) c
        refine g_aload_n F 1 dX5_rank_19 rfl ?_
        refine g18_get_0 F  lf_X5_10 dX5_rank_20 ?_
        refine g_iload_n F 0 dX5_rank_23 rfl ?_
        refine g_callNI F (stk := [.int (iI c), .ref (xa 0 100)]) (st := []) (k_X0_moreWorn κ xa X 0 (by decide) c (by omega) (fun j a b => (ok.r a b).2.2.2)) cal_X0_moreWorn nm_X5_314 0 rfl rfl rfl rfl (by decide) rfl (Nat.le_of_ble_eq_true rfl) dX5_rank_24 (fun r24 ws24 _ hr24 => ?_)
        obtain ⟨rfl, rfl⟩ := hr24
        refine g_iload_n F 2 dX5_rank_27 rfl ?_
        refine g_icmp_ne F 33 (by omega) dX5_rank_28 (by decide) (fun c28 => ?_) (fun c28 => ?_)
        · skip
          refine g_iinc F (lv' := [(2, .int (iI (c + 1))), (0, .ref (xa 18 100)), (1, .int (iI i))]) 0 dX5_rank_33 rfl (by decide) rfl ?_
          refine g_goto F 13 dX5_rank_36 (by decide) ?_
          refine g_sub F (lv' := [(2, .int (iI (c + 1))), (0, .ref (xa 18 100)), (1, .int (iI i))]) [0, 1, 2] rfl ?_
          exact ih13 _ (by omega) (c + 1) rfl (by omega) (by rw [← hR, rk_s (X 0 3) i (c := c) (by omega), if_neg c28])
        · skip
          refine g_iload_n F 0 dX5_rank_31 rfl ?_
          have hq : c = qRank (X 0 3) i := by unfold qRank; rw [if_neg (by omega), ← hR, rk_s (X 0 3) i (c := c) (by omega), if_pos c28]
          exact K xw_same ⟨_, rfl, iIc hq, sX_0, (by rw [← hq]; exact (rfa_n (by omega)).symm)⟩ rfl dX5_rank_32
    refine g_sub F (lv' := [(2, .int (iI 0)), (0, .ref (xa 18 100)), (1, .int (iI i))]) [0, 1, 2] rfl ?_
    exact L13 _ 0 rfl (by omega) rfl
  · skip
    refine g_aload_n F 0 dX5_rank_4 rfl ?_
    refine g_bipush F dX5_rank_5 (by decide +kernel) ?_
    refine g_callI F (stk := [.int (iI (-4)), .ref (xa 18 100)]) (st := []) (k_X5_refuse κ xa X (-4) (by omega)) cal_X5_refuse lm_X5_69 81 rfl rfl rfl rfl (by decide) rfl (Nat.le_of_ble_eq_true rfl) dX5_rank_7 (fun r7 ws7 _ hr7 => ?_)
    obtain ⟨rfl, rfl⟩ := hr7
    have hq : (-4) = qRank (X 0 3) i := by unfold qRank; (repeat' split) <;> omega
    exact K xw_same ⟨_, rfl, iIc hq, (sX_18 sX_0 rfl rfl rfl), (by rw [← hq]; exact (rfa_r (by omega)).symm)⟩ rfl dX5_rank_10
theorem dX6_strip_0 : decode cX6_strip 0 = .ok (.aload_n 0, 1) := by decide +kernel
theorem dX6_strip_1 : decode cX6_strip 1 = .ok (.iconst 0, 1) := by decide +kernel
theorem dX6_strip_2 : decode cX6_strip 2 = .ok (.putfield 91, 3) := by decide +kernel
theorem dX6_strip_5 : decode cX6_strip 5 = .ok (.iload_n 1, 1) := by decide +kernel
theorem dX6_strip_6 : decode cX6_strip 6 = .ok (.i2l, 1) := by decide +kernel
theorem dX6_strip_7 : decode cX6_strip 7 = .ok (.lconst 0, 1) := by decide +kernel
theorem dX6_strip_8 : decode cX6_strip 8 = .ok (.lconst 1, 1) := by decide +kernel
theorem dX6_strip_9 : decode cX6_strip 9 = .ok (.invokestatic 97, 3) := by decide +kernel
theorem dX6_strip_12 : decode cX6_strip 12 = .ok (.ifCond .ne 10, 3) := by decide +kernel
theorem dX6_strip_15 : decode cX6_strip 15 = .ok (.aload_n 0, 1) := by decide +kernel
theorem dX6_strip_16 : decode cX6_strip 16 = .ok (.bipush (-2), 2) := by decide +kernel
theorem dX6_strip_18 : decode cX6_strip 18 = .ok (.invokevirtual 138, 3) := by decide +kernel
theorem dX6_strip_21 : decode cX6_strip 21 = .ok (.ireturn, 1) := by decide +kernel
theorem dX6_strip_22 : decode cX6_strip 22 = .ok (.iconst 0, 1) := by decide +kernel
theorem dX6_strip_23 : decode cX6_strip 23 = .ok (.istore_n 2, 1) := by decide +kernel
theorem dX6_strip_24 : decode cX6_strip 24 = .ok (.iconst 0, 1) := by decide +kernel
theorem dX6_strip_25 : decode cX6_strip 25 = .ok (.istore_n 3, 1) := by decide +kernel
theorem dX6_strip_26 : decode cX6_strip 26 = .ok (.iconst 0, 1) := by decide +kernel
theorem dX6_strip_27 : decode cX6_strip 27 = .ok (.istore 4, 2) := by decide +kernel
theorem dX6_strip_29 : decode cX6_strip 29 = .ok (.iload 4, 2) := by decide +kernel
theorem dX6_strip_31 : decode cX6_strip 31 = .ok (.bipush 12, 2) := by decide +kernel
theorem dX6_strip_33 : decode cX6_strip 33 = .ok (.if_icmp .ge 79, 3) := by decide +kernel
theorem dX6_strip_36 : decode cX6_strip 36 = .ok (.iconst 1, 1) := by decide +kernel
theorem dX6_strip_37 : decode cX6_strip 37 = .ok (.istore 5, 2) := by decide +kernel
theorem dX6_strip_39 : decode cX6_strip 39 = .ok (.iload 4, 2) := by decide +kernel
theorem dX6_strip_41 : decode cX6_strip 41 = .ok (.iload 5, 2) := by decide +kernel
theorem dX6_strip_43 : decode cX6_strip 43 = .ok (.iadd, 1) := by decide +kernel
theorem dX6_strip_44 : decode cX6_strip 44 = .ok (.iconst 4, 1) := by decide +kernel
theorem dX6_strip_45 : decode cX6_strip 45 = .ok (.irem, 1) := by decide +kernel
theorem dX6_strip_46 : decode cX6_strip 46 = .ok (.ifCond .eq 34, 3) := by decide +kernel
theorem dX6_strip_49 : decode cX6_strip 49 = .ok (.aload_n 0, 1) := by decide +kernel
theorem dX6_strip_50 : decode cX6_strip 50 = .ok (.getfield 16, 3) := by decide +kernel
theorem dX6_strip_53 : decode cX6_strip 53 = .ok (.iload 4, 2) := by decide +kernel
theorem dX6_strip_55 : decode cX6_strip 55 = .ok (.iload 5, 2) := by decide +kernel
theorem dX6_strip_57 : decode cX6_strip 57 = .ok (.iadd, 1) := by decide +kernel
theorem dX6_strip_58 : decode cX6_strip 58 = .ok (.iaload, 1) := by decide +kernel
theorem dX6_strip_59 : decode cX6_strip 59 = .ok (.aload_n 0, 1) := by decide +kernel
theorem dX6_strip_60 : decode cX6_strip 60 = .ok (.getfield 16, 3) := by decide +kernel
theorem dX6_strip_63 : decode cX6_strip 63 = .ok (.iload 4, 2) := by decide +kernel
theorem dX6_strip_65 : decode cX6_strip 65 = .ok (.iload 5, 2) := by decide +kernel
theorem dX6_strip_67 : decode cX6_strip 67 = .ok (.iadd, 1) := by decide +kernel
theorem dX6_strip_68 : decode cX6_strip 68 = .ok (.iconst 1, 1) := by decide +kernel
theorem dX6_strip_69 : decode cX6_strip 69 = .ok (.isub, 1) := by decide +kernel
theorem dX6_strip_70 : decode cX6_strip 70 = .ok (.iaload, 1) := by decide +kernel
theorem dX6_strip_71 : decode cX6_strip 71 = .ok (.if_icmp .lt 9, 3) := by decide +kernel
theorem dX6_strip_74 : decode cX6_strip 74 = .ok (.iinc 5 1, 3) := by decide +kernel
theorem dX6_strip_77 : decode cX6_strip 77 = .ok (.goto (-38), 3) := by decide +kernel
theorem dX6_strip_80 : decode cX6_strip 80 = .ok (.iload 5, 2) := by decide +kernel
theorem dX6_strip_82 : decode cX6_strip 82 = .ok (.iload_n 3, 1) := by decide +kernel
theorem dX6_strip_83 : decode cX6_strip 83 = .ok (.if_icmp .le 8, 3) := by decide +kernel
theorem dX6_strip_86 : decode cX6_strip 86 = .ok (.iload 4, 2) := by decide +kernel
theorem dX6_strip_88 : decode cX6_strip 88 = .ok (.goto 4, 3) := by decide +kernel
theorem dX6_strip_91 : decode cX6_strip 91 = .ok (.iload_n 2, 1) := by decide +kernel
theorem dX6_strip_92 : decode cX6_strip 92 = .ok (.istore_n 2, 1) := by decide +kernel
theorem dX6_strip_93 : decode cX6_strip 93 = .ok (.iload 5, 2) := by decide +kernel
theorem dX6_strip_95 : decode cX6_strip 95 = .ok (.iload_n 3, 1) := by decide +kernel
theorem dX6_strip_96 : decode cX6_strip 96 = .ok (.if_icmp .le 8, 3) := by decide +kernel
theorem dX6_strip_99 : decode cX6_strip 99 = .ok (.iload 5, 2) := by decide +kernel
theorem dX6_strip_101 : decode cX6_strip 101 = .ok (.goto 4, 3) := by decide +kernel
theorem dX6_strip_104 : decode cX6_strip 104 = .ok (.iload_n 3, 1) := by decide +kernel
theorem dX6_strip_105 : decode cX6_strip 105 = .ok (.istore_n 3, 1) := by decide +kernel
theorem dX6_strip_106 : decode cX6_strip 106 = .ok (.iinc 4 1, 3) := by decide +kernel
theorem dX6_strip_109 : decode cX6_strip 109 = .ok (.goto (-80), 3) := by decide +kernel
theorem dX6_strip_112 : decode cX6_strip 112 = .ok (.iload_n 1, 1) := by decide +kernel
theorem dX6_strip_113 : decode cX6_strip 113 = .ok (.ifCond .ne 7, 3) := by decide +kernel
theorem dX6_strip_116 : decode cX6_strip 116 = .ok (.iload_n 3, 1) := by decide +kernel
theorem dX6_strip_117 : decode cX6_strip 117 = .ok (.goto 4, 3) := by decide +kernel
theorem dX6_strip_120 : decode cX6_strip 120 = .ok (.iload_n 2, 1) := by decide +kernel
theorem dX6_strip_121 : decode cX6_strip 121 = .ok (.ireturn, 1) := by decide +kernel
set_option maxRecDepth 100000 in
set_option maxHeartbeats 4000000 in
theorem k_X6_strip (κ : Kp) (ma : Nat → Nat) (M : MS) (w : Int)  (ha_w : In32 w) (ok : okC (cl M)) : mI κ yX6_strip cX6_strip 6 .int 2 [.ref (ma 100), .int (iI w)] (mw κ ma M) (qM κ ma M (qStrip (M 2) w)) := by
  refine mI_of (by decide) (Nat.le_of_ble_eq_true rfl) (fun E F K => ?_)
  refine g_lv (lv' := [(0, .ref (ma 100)), (1, .int (iI w))]) rfl ?_
  refine g_aload_n F 0 dX6_strip_0 rfl ?_
  refine g_iconst F dX6_strip_1 ?_
  refine gm_put_10 F dX6_strip_2 ?_
  refine g_iload_n F 1 dX6_strip_5 rfl ?_
  refine g_i2l F (by omega) dX6_strip_6 ?_
  refine g_lconst F (z := 0) dX6_strip_7 rfl ?_
  refine g_lconst F (z := 1) dX6_strip_8 rfl ?_
  refine g_callSI F (stk := [.long (iL 1), .long (iL 0), .long (iL w)]) (st := []) (k_X6_in κ (mw κ ma (mA M 10 (fun _ => 0))) w 0 1 (by omega)) cal_X6_in lm_X6_97 rfl (by decide) rfl (Nat.le_of_ble_eq_true rfl) dX6_strip_9 (fun r9 ws9 _ hr9 => ?_)
  obtain ⟨rfl, rfl⟩ := hr9
  refine g_if_ne F 22 (b2i_in _) dX6_strip_12 (by decide) (fun c12 => ?_) (fun c12 => ?_)
  · skip
    have c12 : 0 ≤ w ∧ w ≤ 1 := b2i_t c12
    refine g_iconst F dX6_strip_22 ?_
    refine g_istore_n F (lv' := [(2, .int (iI 0)), (0, .ref (ma 100)), (1, .int (iI w))]) 2 dX6_strip_23 rfl (by decide) rfl ?_
    refine g_iconst F dX6_strip_24 ?_
    refine g_istore_n F (lv' := [(3, .int (iI 0)), (2, .int (iI 0)), (0, .ref (ma 100)), (1, .int (iI w))]) 3 dX6_strip_25 rfl (by decide) rfl ?_
    refine g_iconst F dX6_strip_26 ?_
    refine g_istore F (lv' := [(4, .int (iI 0)), (3, .int (iI 0)), (2, .int (iI 0)), (0, .ref (ma 100)), (1, .int (iI w))]) dX6_strip_27 (by decide) rfl ?_
    have L29 : ∀ (mz29 : Nat) (c : Int) (b : Int) (l : Int), (12 - c).toNat = mz29 → (0 ≤ c ∧ c ≤ 12) → (smx yes (rising (M 2)) (fun c => c) (0, 0) c = (b, l)) → ((0 ≤ l ∧ l ≤ 13) ∧ 0 ≤ b ∧ b ≤ c) → G E (mw κ ma (mA M 10 (fun _ => 0))) [(4, .int (iI c)), (3, .int (iI l)), (2, .int (iI b)), (0, .ref (ma 100)), (1, .int (iI w))] 29 [] := by
      intro mz29
      induction mz29 using Nat.strongRecOn with
      | _ mz29 ih29 =>
      intro c b l hmz29 hc hs hl
      refine g_iload F 0 dX6_strip_29 rfl ?_
      refine g_bipush F dX6_strip_31 (by decide +kernel) ?_
      refine g_icmp_ge F 112 (by omega) dX6_strip_33 (by decide) (fun c33 => ?_) (fun c33 => ?_)
      · skip
        refine g_iload_n F 4 dX6_strip_112 rfl ?_
        refine g_if_ne F 120 (by omega) dX6_strip_113 (by decide) (fun c113 => ?_) (fun c113 => ?_)
        · skip
          refine g_iload_n F 2 dX6_strip_120 rfl ?_
          have hq : b = qStrip (M 2) w := by unfold qStrip; rw [if_neg (by omega), show smx yes (rising (M 2)) (fun c => c) (0, 0) 12 = (b, l) from by rw [← hs, show c = 12 by omega]]; show _ = if w = 0 then l else b; split <;> omega
          exact K mw_same ⟨_, rfl, iIc hq, ⟨rfl, rfl, rfl, rfl, rfl, rfl, rfl, rfl, rfl, rfl, rfl, rfl, rfl, rfl, rfl, rfl, rfl, rfl⟩, (by rw [← hq]; show M 11 = _; exact (rfa_n (by omega)).symm)⟩ rfl dX6_strip_121
        · skip
          refine g_iload_n F 1 dX6_strip_116 rfl ?_
          refine g_goto F 121 dX6_strip_117 (by decide) ?_
          have hq : l = qStrip (M 2) w := by unfold qStrip; rw [if_neg (by omega), show smx yes (rising (M 2)) (fun c => c) (0, 0) 12 = (b, l) from by rw [← hs, show c = 12 by omega]]; show _ = if w = 0 then l else b; split <;> omega
          exact K mw_same ⟨_, rfl, iIc hq, ⟨rfl, rfl, rfl, rfl, rfl, rfl, rfl, rfl, rfl, rfl, rfl, rfl, rfl, rfl, rfl, rfl, rfl, rfl⟩, (by rw [← hq]; show M 11 = _; exact (rfa_n (by omega)).symm)⟩ rfl dX6_strip_121
      · skip
        refine g_iconst F dX6_strip_36 ?_
        refine g_istore F (lv' := [(5, .int (iI 1)), (4, .int (iI c)), (3, .int (iI l)), (2, .int (iI b)), (0, .ref (ma 100)), (1, .int (iI w))]) dX6_strip_37 (by decide) rfl ?_
        have L39 : ∀ (mz39 : Nat) (n : Int), (12 - n).toNat = mz39 → (1 ≤ n ∧ c + n ≤ 12) → (riseI (M 2) (c + n) n = rising (M 2) c) → G E (mw κ ma (mA M 10 (fun _ => 0))) [(5, .int (iI n)), (4, .int (iI c)), (3, .int (iI l)), (2, .int (iI b)), (0, .ref (ma 100)), (1, .int (iI w))] 39 [] := by
          intro mz39
          induction mz39 using Nat.strongRecOn with
          | _ mz39 ih39 =>
          intro n hmz39 hnb hnR
          refine g_iload F 1 dX6_strip_39 rfl ?_
          refine g_iload F 0 dX6_strip_41 rfl ?_
          refine g_iadd F dX6_strip_43 ?_
          refine g_iconst F dX6_strip_44 ?_
          refine g_irem F dX6_strip_45 (by omega) ?_
          refine g_if_eq F 80 (by omega) dX6_strip_46 (by decide) (fun c46 => ?_) (fun c46 => ?_)
          · skip
            have hn : n = rising (M 2) c := by rw [← hnR, riseI_s (M 2) (p := c + n) (l := n) (by omega), if_neg (by omega)]
            refine g_iload F 0 dX6_strip_80 rfl ?_
            refine g_iload_n F 2 dX6_strip_82 rfl ?_
            refine g_icmp_le F 91 (by omega) dX6_strip_83 (by decide) (fun c83 => ?_) (fun c83 => ?_)
            · skip
              refine g_iload_n F 3 dX6_strip_91 rfl ?_
              refine g_istore_n F (lv' := [(2, .int (iI b)), (5, .int (iI n)), (4, .int (iI c)), (3, .int (iI l)), (0, .ref (ma 100)), (1, .int (iI w))]) 2 dX6_strip_92 rfl (by decide) rfl ?_
              refine g_iload F 1 dX6_strip_93 rfl ?_
              refine g_iload_n F 3 dX6_strip_95 rfl ?_
              refine g_icmp_le F 104 (by omega) dX6_strip_96 (by decide) (fun c96 => ?_) (fun c96 => ?_)
              · skip
                refine g_iload_n F 3 dX6_strip_104 rfl ?_
                refine g_istore_n F (lv' := [(3, .int (iI l)), (2, .int (iI b)), (5, .int (iI n)), (4, .int (iI c)), (0, .ref (ma 100)), (1, .int (iI w))]) 3 dX6_strip_105 rfl (by decide) rfl ?_
                refine g_iinc F (lv' := [(4, .int (iI (c + 1))), (3, .int (iI l)), (2, .int (iI b)), (5, .int (iI n)), (0, .ref (ma 100)), (1, .int (iI w))]) 3 dX6_strip_106 rfl (by decide) rfl ?_
                refine g_goto F 29 dX6_strip_109 (by decide) ?_
                refine g_sub F (lv' := [(4, .int (iI (c + 1))), (3, .int (iI l)), (2, .int (iI b)), (0, .ref (ma 100)), (1, .int (iI w))]) [0, 1, 2, 4, 5] rfl ?_
                exact ih29 _ (by omega) (c + 1) b l rfl (by omega) (by first | (exfalso; omega) | exact smx_tx hs rfl hn.symm hc.1 rfl (by omega) | exact smx_fx (x := n) hs hn.symm hc.1 (Or.inr (by omega))) (by omega)
              · skip
                refine g_iload F 1 dX6_strip_99 rfl ?_
                refine g_goto F 105 dX6_strip_101 (by decide) ?_
                refine g_istore_n F (lv' := [(3, .int (iI n)), (2, .int (iI b)), (5, .int (iI n)), (4, .int (iI c)), (0, .ref (ma 100)), (1, .int (iI w))]) 3 dX6_strip_105 rfl (by decide) rfl ?_
                refine g_iinc F (lv' := [(4, .int (iI (c + 1))), (3, .int (iI n)), (2, .int (iI b)), (5, .int (iI n)), (0, .ref (ma 100)), (1, .int (iI w))]) 3 dX6_strip_106 rfl (by decide) rfl ?_
                refine g_goto F 29 dX6_strip_109 (by decide) ?_
                refine g_sub F (lv' := [(4, .int (iI (c + 1))), (3, .int (iI n)), (2, .int (iI b)), (0, .ref (ma 100)), (1, .int (iI w))]) [0, 1, 2, 4, 5] rfl ?_
                exact ih29 _ (by omega) (c + 1) b n rfl (by omega) (by first | (exfalso; omega) | exact smx_tx hs rfl hn.symm hc.1 rfl (by omega) | exact smx_fx (x := n) hs hn.symm hc.1 (Or.inr (by omega))) (by omega)
            · skip
              refine g_iload F 1 dX6_strip_86 rfl ?_
              refine g_goto F 92 dX6_strip_88 (by decide) ?_
              refine g_istore_n F (lv' := [(2, .int (iI c)), (5, .int (iI n)), (4, .int (iI c)), (3, .int (iI l)), (0, .ref (ma 100)), (1, .int (iI w))]) 2 dX6_strip_92 rfl (by decide) rfl ?_
              refine g_iload F 1 dX6_strip_93 rfl ?_
              refine g_iload_n F 3 dX6_strip_95 rfl ?_
              refine g_icmp_le F 104 (by omega) dX6_strip_96 (by decide) (fun c96 => ?_) (fun c96 => ?_)
              · skip
                refine g_iload_n F 3 dX6_strip_104 rfl ?_
                refine g_istore_n F (lv' := [(3, .int (iI l)), (2, .int (iI c)), (5, .int (iI n)), (4, .int (iI c)), (0, .ref (ma 100)), (1, .int (iI w))]) 3 dX6_strip_105 rfl (by decide) rfl ?_
                refine g_iinc F (lv' := [(4, .int (iI (c + 1))), (3, .int (iI l)), (2, .int (iI c)), (5, .int (iI n)), (0, .ref (ma 100)), (1, .int (iI w))]) 3 dX6_strip_106 rfl (by decide) rfl ?_
                refine g_goto F 29 dX6_strip_109 (by decide) ?_
                refine g_sub F (lv' := [(4, .int (iI (c + 1))), (3, .int (iI l)), (2, .int (iI c)), (0, .ref (ma 100)), (1, .int (iI w))]) [0, 1, 2, 4, 5] rfl ?_
                exact ih29 _ (by omega) (c + 1) c l rfl (by omega) (by first | (exfalso; omega) | exact smx_tx hs rfl hn.symm hc.1 rfl (by omega) | exact smx_fx (x := n) hs hn.symm hc.1 (Or.inr (by omega))) (by omega)
              · skip
                refine g_iload F 1 dX6_strip_99 rfl ?_
                refine g_goto F 105 dX6_strip_101 (by decide) ?_
                refine g_istore_n F (lv' := [(3, .int (iI n)), (2, .int (iI c)), (5, .int (iI n)), (4, .int (iI c)), (0, .ref (ma 100)), (1, .int (iI w))]) 3 dX6_strip_105 rfl (by decide) rfl ?_
                refine g_iinc F (lv' := [(4, .int (iI (c + 1))), (3, .int (iI n)), (2, .int (iI c)), (5, .int (iI n)), (0, .ref (ma 100)), (1, .int (iI w))]) 3 dX6_strip_106 rfl (by decide) rfl ?_
                refine g_goto F 29 dX6_strip_109 (by decide) ?_
                refine g_sub F (lv' := [(4, .int (iI (c + 1))), (3, .int (iI n)), (2, .int (iI c)), (0, .ref (ma 100)), (1, .int (iI w))]) [0, 1, 2, 4, 5] rfl ?_
                exact ih29 _ (by omega) (c + 1) c n rfl (by omega) (by first | (exfalso; omega) | exact smx_tx hs rfl hn.symm hc.1 rfl (by omega) | exact smx_fx (x := n) hs hn.symm hc.1 (Or.inr (by omega))) (by omega)
          · skip
            have h1 : 0 ≤ M 2 (c + n) ∧ M 2 (c + n) ≤ 99 := ok.a (c + n) (by omega) (by omega)
            have h2 : 0 ≤ M 2 (c + n - 1) ∧ M 2 (c + n - 1) ≤ 99 := ok.a (c + n - 1) (by omega) (by omega)
            refine g_aload_n F 4 dX6_strip_49 rfl ?_
            refine gm_get_2 F dX6_strip_50 ?_
            refine g_iload F 1 dX6_strip_53 rfl ?_
            refine g_iload F 0 dX6_strip_55 rfl ?_
            refine g_iadd F dX6_strip_57 ?_
            refine gm_ald_2 F (by omega) dX6_strip_58 ?_
            refine g_top (y := iI (M 2 (c + n))) rfl ?_
            refine g_aload_n F 4 dX6_strip_59 rfl ?_
            refine gm_get_2 F dX6_strip_60 ?_
            refine g_iload F 1 dX6_strip_63 rfl ?_
            refine g_iload F 0 dX6_strip_65 rfl ?_
            refine g_iadd F dX6_strip_67 ?_
            refine g_iconst F dX6_strip_68 ?_
            refine g_isub F dX6_strip_69 ?_
            refine gm_ald_2 F (by omega) dX6_strip_70 ?_
            refine g_top (y := iI (M 2 ((c + n) - 1))) rfl ?_
            refine g_icmp_lt F 80 (by omega) dX6_strip_71 (by decide) (fun c71 => ?_) (fun c71 => ?_)
            · skip
              have hn : n = rising (M 2) c := by rw [← hnR, riseI_s (M 2) (p := c + n) (l := n) (by omega), if_neg (by omega)]
              refine g_iload F 0 dX6_strip_80 rfl ?_
              refine g_iload_n F 2 dX6_strip_82 rfl ?_
              refine g_icmp_le F 91 (by omega) dX6_strip_83 (by decide) (fun c83 => ?_) (fun c83 => ?_)
              · skip
                refine g_iload_n F 3 dX6_strip_91 rfl ?_
                refine g_istore_n F (lv' := [(2, .int (iI b)), (5, .int (iI n)), (4, .int (iI c)), (3, .int (iI l)), (0, .ref (ma 100)), (1, .int (iI w))]) 2 dX6_strip_92 rfl (by decide) rfl ?_
                refine g_iload F 1 dX6_strip_93 rfl ?_
                refine g_iload_n F 3 dX6_strip_95 rfl ?_
                refine g_icmp_le F 104 (by omega) dX6_strip_96 (by decide) (fun c96 => ?_) (fun c96 => ?_)
                · skip
                  refine g_iload_n F 3 dX6_strip_104 rfl ?_
                  refine g_istore_n F (lv' := [(3, .int (iI l)), (2, .int (iI b)), (5, .int (iI n)), (4, .int (iI c)), (0, .ref (ma 100)), (1, .int (iI w))]) 3 dX6_strip_105 rfl (by decide) rfl ?_
                  refine g_iinc F (lv' := [(4, .int (iI (c + 1))), (3, .int (iI l)), (2, .int (iI b)), (5, .int (iI n)), (0, .ref (ma 100)), (1, .int (iI w))]) 3 dX6_strip_106 rfl (by decide) rfl ?_
                  refine g_goto F 29 dX6_strip_109 (by decide) ?_
                  refine g_sub F (lv' := [(4, .int (iI (c + 1))), (3, .int (iI l)), (2, .int (iI b)), (0, .ref (ma 100)), (1, .int (iI w))]) [0, 1, 2, 4, 5] rfl ?_
                  exact ih29 _ (by omega) (c + 1) b l rfl (by omega) (by first | (exfalso; omega) | exact smx_tx hs rfl hn.symm hc.1 rfl (by omega) | exact smx_fx (x := n) hs hn.symm hc.1 (Or.inr (by omega))) (by omega)
                · skip
                  refine g_iload F 1 dX6_strip_99 rfl ?_
                  refine g_goto F 105 dX6_strip_101 (by decide) ?_
                  refine g_istore_n F (lv' := [(3, .int (iI n)), (2, .int (iI b)), (5, .int (iI n)), (4, .int (iI c)), (0, .ref (ma 100)), (1, .int (iI w))]) 3 dX6_strip_105 rfl (by decide) rfl ?_
                  refine g_iinc F (lv' := [(4, .int (iI (c + 1))), (3, .int (iI n)), (2, .int (iI b)), (5, .int (iI n)), (0, .ref (ma 100)), (1, .int (iI w))]) 3 dX6_strip_106 rfl (by decide) rfl ?_
                  refine g_goto F 29 dX6_strip_109 (by decide) ?_
                  refine g_sub F (lv' := [(4, .int (iI (c + 1))), (3, .int (iI n)), (2, .int (iI b)), (0, .ref (ma 100)), (1, .int (iI w))]) [0, 1, 2, 4, 5] rfl ?_
                  exact ih29 _ (by omega) (c + 1) b n rfl (by omega) (by first | (exfalso; omega) | exact smx_tx hs rfl hn.symm hc.1 rfl (by omega) | exact smx_fx (x := n) hs hn.symm hc.1 (Or.inr (by omega))) (by omega)
              · skip
                refine g_iload F 1 dX6_strip_86 rfl ?_
                refine g_goto F 92 dX6_strip_88 (by decide) ?_
                refine g_istore_n F (lv' := [(2, .int (iI c)), (5, .int (iI n)), (4, .int (iI c)), (3, .int (iI l)), (0, .ref (ma 100)), (1, .int (iI w))]) 2 dX6_strip_92 rfl (by decide) rfl ?_
                refine g_iload F 1 dX6_strip_93 rfl ?_
                refine g_iload_n F 3 dX6_strip_95 rfl ?_
                refine g_icmp_le F 104 (by omega) dX6_strip_96 (by decide) (fun c96 => ?_) (fun c96 => ?_)
                · skip
                  refine g_iload_n F 3 dX6_strip_104 rfl ?_
                  refine g_istore_n F (lv' := [(3, .int (iI l)), (2, .int (iI c)), (5, .int (iI n)), (4, .int (iI c)), (0, .ref (ma 100)), (1, .int (iI w))]) 3 dX6_strip_105 rfl (by decide) rfl ?_
                  refine g_iinc F (lv' := [(4, .int (iI (c + 1))), (3, .int (iI l)), (2, .int (iI c)), (5, .int (iI n)), (0, .ref (ma 100)), (1, .int (iI w))]) 3 dX6_strip_106 rfl (by decide) rfl ?_
                  refine g_goto F 29 dX6_strip_109 (by decide) ?_
                  refine g_sub F (lv' := [(4, .int (iI (c + 1))), (3, .int (iI l)), (2, .int (iI c)), (0, .ref (ma 100)), (1, .int (iI w))]) [0, 1, 2, 4, 5] rfl ?_
                  exact ih29 _ (by omega) (c + 1) c l rfl (by omega) (by first | (exfalso; omega) | exact smx_tx hs rfl hn.symm hc.1 rfl (by omega) | exact smx_fx (x := n) hs hn.symm hc.1 (Or.inr (by omega))) (by omega)
                · skip
                  refine g_iload F 1 dX6_strip_99 rfl ?_
                  refine g_goto F 105 dX6_strip_101 (by decide) ?_
                  refine g_istore_n F (lv' := [(3, .int (iI n)), (2, .int (iI c)), (5, .int (iI n)), (4, .int (iI c)), (0, .ref (ma 100)), (1, .int (iI w))]) 3 dX6_strip_105 rfl (by decide) rfl ?_
                  refine g_iinc F (lv' := [(4, .int (iI (c + 1))), (3, .int (iI n)), (2, .int (iI c)), (5, .int (iI n)), (0, .ref (ma 100)), (1, .int (iI w))]) 3 dX6_strip_106 rfl (by decide) rfl ?_
                  refine g_goto F 29 dX6_strip_109 (by decide) ?_
                  refine g_sub F (lv' := [(4, .int (iI (c + 1))), (3, .int (iI n)), (2, .int (iI c)), (0, .ref (ma 100)), (1, .int (iI w))]) [0, 1, 2, 4, 5] rfl ?_
                  exact ih29 _ (by omega) (c + 1) c n rfl (by omega) (by first | (exfalso; omega) | exact smx_tx hs rfl hn.symm hc.1 rfl (by omega) | exact smx_fx (x := n) hs hn.symm hc.1 (Or.inr (by omega))) (by omega)
            · skip
              refine g_iinc F (lv' := [(5, .int (iI (n + 1))), (4, .int (iI c)), (3, .int (iI l)), (2, .int (iI b)), (0, .ref (ma 100)), (1, .int (iI w))]) 0 dX6_strip_74 rfl (by decide) rfl ?_
              refine g_goto F 39 dX6_strip_77 (by decide) ?_
              refine g_sub F (lv' := [(5, .int (iI (n + 1))), (4, .int (iI c)), (3, .int (iI l)), (2, .int (iI b)), (0, .ref (ma 100)), (1, .int (iI w))]) [0, 1, 2, 3, 4, 5] rfl ?_
              exact ih39 _ (by omega) (n + 1) rfl (by omega) (by rw [← hnR, riseI_s (M 2) (p := c + n) (l := n) (by omega), if_pos ⟨by omega, by omega, by omega⟩, show c + n + 1 = c + (n + 1) by omega])
        refine g_sub F (lv' := [(5, .int (iI 1)), (4, .int (iI c)), (3, .int (iI l)), (2, .int (iI b)), (0, .ref (ma 100)), (1, .int (iI w))]) [0, 1, 2, 3, 4, 5] rfl ?_
        exact L39 _ 1 rfl (by omega) rfl
    refine g_sub F (lv' := [(4, .int (iI 0)), (3, .int (iI 0)), (2, .int (iI 0)), (0, .ref (ma 100)), (1, .int (iI w))]) [0, 1, 2, 3, 4] rfl ?_
    exact L29 _ 0 0 0 rfl (by omega) rfl (by omega)
  · skip
    have c12 : ¬ (0 ≤ w ∧ w ≤ 1) := b2i_f c12
    refine g_aload_n F 0 dX6_strip_15 rfl ?_
    refine g_bipush F dX6_strip_16 (by decide +kernel) ?_
    refine g_callI F (stk := [.int (iI (-2)), .ref (ma 100)]) (st := []) (k_X6_refuse κ ma (mA M 10 (fun _ => 0)) (-2) (by omega)) cal_X6_refuse lm_X6_138 0 rfl rfl rfl rfl (by decide) rfl (Nat.le_of_ble_eq_true rfl) dX6_strip_18 (fun r18 ws18 _ hr18 => ?_)
    obtain ⟨rfl, rfl⟩ := hr18
    refine g_top (y := iI (-2)) rfl ?_
    refine g_ws (ws' := mw κ ma (mA (mA M 10 (fun _ => 0)) 11 (uI (M 11) (-(-2)) (M 11 (-(-2)) + 1)))) rfl ?_
    have hq : (-2) = qStrip (M 2) w := by unfold qStrip; (repeat' split) <;> omega
    exact K mw_same ⟨_, rfl, iIc hq, ⟨rfl, rfl, rfl, rfl, rfl, rfl, rfl, rfl, rfl, rfl, rfl, rfl, rfl, rfl, rfl, rfl, rfl, rfl⟩, (by rw [← hq]; exact (rfa_r (by omega)).symm)⟩ rfl dX6_strip_21
theorem dX5_strip_0 : decode cX5_strip 0 = .ok (.iload_n 1, 1) := by decide +kernel
theorem dX5_strip_1 : decode cX5_strip 1 = .ok (.ifCond .lt 8, 3) := by decide +kernel
theorem dX5_strip_4 : decode cX5_strip 4 = .ok (.iload_n 1, 1) := by decide +kernel
theorem dX5_strip_5 : decode cX5_strip 5 = .ok (.iconst 1, 1) := by decide +kernel
theorem dX5_strip_6 : decode cX5_strip 6 = .ok (.if_icmp .le 10, 3) := by decide +kernel
theorem dX5_strip_9 : decode cX5_strip 9 = .ok (.aload_n 0, 1) := by decide +kernel
theorem dX5_strip_10 : decode cX5_strip 10 = .ok (.bipush (-2), 2) := by decide +kernel
theorem dX5_strip_12 : decode cX5_strip 12 = .ok (.invokevirtual 69, 3) := by decide +kernel
theorem dX5_strip_15 : decode cX5_strip 15 = .ok (.ireturn, 1) := by decide +kernel
theorem dX5_strip_16 : decode cX5_strip 16 = .ok (.iconst 0, 1) := by decide +kernel
theorem dX5_strip_17 : decode cX5_strip 17 = .ok (.istore_n 2, 1) := by decide +kernel
theorem dX5_strip_18 : decode cX5_strip 18 = .ok (.iconst 0, 1) := by decide +kernel
theorem dX5_strip_19 : decode cX5_strip 19 = .ok (.istore_n 3, 1) := by decide +kernel
theorem dX5_strip_20 : decode cX5_strip 20 = .ok (.iconst 0, 1) := by decide +kernel
theorem dX5_strip_21 : decode cX5_strip 21 = .ok (.istore 4, 2) := by decide +kernel
theorem dX5_strip_23 : decode cX5_strip 23 = .ok (.iload 4, 2) := by decide +kernel
theorem dX5_strip_25 : decode cX5_strip 25 = .ok (.bipush 12, 2) := by decide +kernel
theorem dX5_strip_27 : decode cX5_strip 27 = .ok (.if_icmp .ge 32, 3) := by decide +kernel
theorem dX5_strip_30 : decode cX5_strip 30 = .ok (.aload_n 0, 1) := by decide +kernel
theorem dX5_strip_31 : decode cX5_strip 31 = .ok (.getfield 10, 3) := by decide +kernel
theorem dX5_strip_34 : decode cX5_strip 34 = .ok (.iload 4, 2) := by decide +kernel
theorem dX5_strip_36 : decode cX5_strip 36 = .ok (.invokevirtual 297, 3) := by decide +kernel
theorem dX5_strip_39 : decode cX5_strip 39 = .ok (.istore 5, 2) := by decide +kernel
theorem dX5_strip_41 : decode cX5_strip 41 = .ok (.iload 5, 2) := by decide +kernel
theorem dX5_strip_43 : decode cX5_strip 43 = .ok (.iload_n 2, 1) := by decide +kernel
theorem dX5_strip_44 : decode cX5_strip 44 = .ok (.if_icmp .le 9, 3) := by decide +kernel
theorem dX5_strip_47 : decode cX5_strip 47 = .ok (.iload 5, 2) := by decide +kernel
theorem dX5_strip_49 : decode cX5_strip 49 = .ok (.istore_n 2, 1) := by decide +kernel
theorem dX5_strip_50 : decode cX5_strip 50 = .ok (.iload 4, 2) := by decide +kernel
theorem dX5_strip_52 : decode cX5_strip 52 = .ok (.istore_n 3, 1) := by decide +kernel
theorem dX5_strip_53 : decode cX5_strip 53 = .ok (.iinc 4 1, 3) := by decide +kernel
theorem dX5_strip_56 : decode cX5_strip 56 = .ok (.goto (-33), 3) := by decide +kernel
theorem dX5_strip_59 : decode cX5_strip 59 = .ok (.iload_n 1, 1) := by decide +kernel
theorem dX5_strip_60 : decode cX5_strip 60 = .ok (.ifCond .ne 7, 3) := by decide +kernel
theorem dX5_strip_63 : decode cX5_strip 63 = .ok (.iload_n 2, 1) := by decide +kernel
theorem dX5_strip_64 : decode cX5_strip 64 = .ok (.goto 4, 3) := by decide +kernel
theorem dX5_strip_67 : decode cX5_strip 67 = .ok (.iload_n 3, 1) := by decide +kernel
theorem dX5_strip_68 : decode cX5_strip 68 = .ok (.ireturn, 1) := by decide +kernel
set_option maxRecDepth 100000 in
set_option maxHeartbeats 4000000 in
theorem k_X5_strip (κ : Kp) (xa : Nat → Nat → Nat) (X : XS) (w : Int)  (ha_w : In32 w) (ok : okC (cl (X 0))) : mI κ yX5_strip cX5_strip 6 .int 2 [.ref (xa 18 100), .int (iI w)] (xw κ xa X) (qX κ xa X (qStrip (X 0 2) w)) := by
  refine mI_of (by decide) (Nat.le_of_ble_eq_true rfl) (fun E F K => ?_)
  refine g_lv (lv' := [(0, .ref (xa 18 100)), (1, .int (iI w))]) rfl ?_
  refine g_iload_n F 1 dX5_strip_0 rfl ?_
  refine g_if_lt F 9 (by omega) dX5_strip_1 (by decide) (fun c1 => ?_) (fun c1 => ?_)
  · skip
    refine g_aload_n F 0 dX5_strip_9 rfl ?_
    refine g_bipush F dX5_strip_10 (by decide +kernel) ?_
    refine g_callI F (stk := [.int (iI (-2)), .ref (xa 18 100)]) (st := []) (k_X5_refuse κ xa X (-2) (by omega)) cal_X5_refuse lm_X5_69 81 rfl rfl rfl rfl (by decide) rfl (Nat.le_of_ble_eq_true rfl) dX5_strip_12 (fun r12 ws12 _ hr12 => ?_)
    obtain ⟨rfl, rfl⟩ := hr12
    have hq : (-2) = qStrip (X 0 2) w := by unfold qStrip; (repeat' split) <;> omega
    exact K xw_same ⟨_, rfl, iIc hq, (sX_18 sX_0 rfl rfl rfl), (by rw [← hq]; exact (rfa_r (by omega)).symm)⟩ rfl dX5_strip_15
  · skip
    refine g_iload_n F 1 dX5_strip_4 rfl ?_
    refine g_iconst F dX5_strip_5 ?_
    refine g_icmp_le F 16 (by omega) dX5_strip_6 (by decide) (fun c6 => ?_) (fun c6 => ?_)
    · skip
      refine g_iconst F dX5_strip_16 ?_
      refine g_istore_n F (lv' := [(2, .int (iI 0)), (0, .ref (xa 18 100)), (1, .int (iI w))]) 2 dX5_strip_17 rfl (by decide) rfl ?_
      refine g_iconst F dX5_strip_18 ?_
      refine g_istore_n F (lv' := [(3, .int (iI 0)), (2, .int (iI 0)), (0, .ref (xa 18 100)), (1, .int (iI w))]) 3 dX5_strip_19 rfl (by decide) rfl ?_
      refine g_iconst F dX5_strip_20 ?_
      refine g_istore F (lv' := [(4, .int (iI 0)), (3, .int (iI 0)), (2, .int (iI 0)), (0, .ref (xa 18 100)), (1, .int (iI w))]) dX5_strip_21 (by decide) rfl ?_
      have L23 : ∀ (mz23 : Nat) (c : Int) (l : Int) (b : Int), (12 - c).toNat = mz23 → (0 ≤ c ∧ c ≤ 12) → (smx yes (rising (X 0 2)) (fun c => c) (0, 0) c = (b, l)) → ((0 ≤ l ∧ l ≤ 13) ∧ 0 ≤ b ∧ b ≤ c) → G E (xw κ xa X) [(4, .int (iI c)), (3, .int (iI b)), (2, .int (iI l)), (0, .ref (xa 18 100)), (1, .int (iI w))] 23 [] := by
        intro mz23
        induction mz23 using Nat.strongRecOn with
        | _ mz23 ih23 =>
        intro c l b hmz23 hc hs hl
        refine g_iload F 0 dX5_strip_23 rfl ?_
        refine g_bipush F dX5_strip_25 (by decide +kernel) ?_
        refine g_icmp_ge F 59 (by omega) dX5_strip_27 (by decide) (fun c27 => ?_) (fun c27 => ?_)
        · skip
          refine g_iload_n F 4 dX5_strip_59 rfl ?_
          refine g_if_ne F 67 (by omega) dX5_strip_60 (by decide) (fun c60 => ?_) (fun c60 => ?_)
          · skip
            refine g_iload_n F 1 dX5_strip_67 rfl ?_
            have hq : b = qStrip (X 0 2) w := by unfold qStrip; rw [if_neg (by omega), show smx yes (rising (X 0 2)) (fun c => c) (0, 0) 12 = (b, l) from by rw [← hs, show c = 12 by omega]]; show _ = if w = 0 then l else b; split <;> omega
            exact K xw_same ⟨_, rfl, iIc hq, sX_0, (by rw [← hq]; exact (rfa_n (by omega)).symm)⟩ rfl dX5_strip_68
          · skip
            refine g_iload_n F 2 dX5_strip_63 rfl ?_
            refine g_goto F 68 dX5_strip_64 (by decide) ?_
            have hq : l = qStrip (X 0 2) w := by unfold qStrip; rw [if_neg (by omega), show smx yes (rising (X 0 2)) (fun c => c) (0, 0) 12 = (b, l) from by rw [← hs, show c = 12 by omega]]; show _ = if w = 0 then l else b; split <;> omega
            exact K xw_same ⟨_, rfl, iIc hq, sX_0, (by rw [← hq]; exact (rfa_n (by omega)).symm)⟩ rfl dX5_strip_68
        · skip
          have hrb := rising_bd (X 0 2) (c := c) (by omega) (by omega)
          refine g_aload_n F 3 dX5_strip_30 rfl ?_
          refine g18_get_0 F  lf_X5_10 dX5_strip_31 ?_
          refine g_iload F 0 dX5_strip_34 rfl ?_
          refine g_callNI F (stk := [.int (iI c), .ref (xa 0 100)]) (st := []) (k_X0_risingFrom κ xa X 0 (by decide) c (by omega) (fun j a b => (ok.r a b).2.2.1)) cal_X0_risingFrom nm_X5_297 0 rfl rfl rfl rfl (by decide) rfl (Nat.le_of_ble_eq_true rfl) dX5_strip_36 (fun r36 ws36 _ hr36 => ?_)
          obtain ⟨rfl, rfl⟩ := hr36
          refine g_istore F (lv' := [(5, .int (iI (rising ((X 0) 2) c))), (4, .int (iI c)), (3, .int (iI b)), (2, .int (iI l)), (0, .ref (xa 18 100)), (1, .int (iI w))]) dX5_strip_39 (by decide) rfl ?_
          refine g_iload F 0 dX5_strip_41 rfl ?_
          refine g_iload_n F 3 dX5_strip_43 rfl ?_
          refine g_icmp_le F 53 (by omega) dX5_strip_44 (by decide) (fun c44 => ?_) (fun c44 => ?_)
          · skip
            refine g_iinc F (lv' := [(4, .int (iI (c + 1))), (5, .int (iI (rising ((X 0) 2) c))), (3, .int (iI b)), (2, .int (iI l)), (0, .ref (xa 18 100)), (1, .int (iI w))]) 1 dX5_strip_53 rfl (by decide) rfl ?_
            refine g_goto F 23 dX5_strip_56 (by decide) ?_
            refine g_sub F (lv' := [(4, .int (iI (c + 1))), (3, .int (iI b)), (2, .int (iI l)), (0, .ref (xa 18 100)), (1, .int (iI w))]) [0, 2, 3, 4, 5] rfl ?_
            exact ih23 _ (by omega) (c + 1) l b rfl (by omega) (by first | (exfalso; omega) | exact smx_tx hs rfl rfl hc.1 rfl (by omega) | exact smx_fx (x := rising (X 0 2) c) hs rfl hc.1 (Or.inr (by omega))) (by omega)
          · skip
            refine g_iload F 0 dX5_strip_47 rfl ?_
            refine g_istore_n F (lv' := [(2, .int (iI (rising ((X 0) 2) c))), (5, .int (iI (rising ((X 0) 2) c))), (4, .int (iI c)), (3, .int (iI b)), (0, .ref (xa 18 100)), (1, .int (iI w))]) 2 dX5_strip_49 rfl (by decide) rfl ?_
            refine g_iload F 2 dX5_strip_50 rfl ?_
            refine g_istore_n F (lv' := [(3, .int (iI c)), (2, .int (iI (rising ((X 0) 2) c))), (5, .int (iI (rising ((X 0) 2) c))), (4, .int (iI c)), (0, .ref (xa 18 100)), (1, .int (iI w))]) 3 dX5_strip_52 rfl (by decide) rfl ?_
            refine g_iinc F (lv' := [(4, .int (iI (c + 1))), (3, .int (iI c)), (2, .int (iI (rising ((X 0) 2) c))), (5, .int (iI (rising ((X 0) 2) c))), (0, .ref (xa 18 100)), (1, .int (iI w))]) 3 dX5_strip_53 rfl (by decide) rfl ?_
            refine g_goto F 23 dX5_strip_56 (by decide) ?_
            refine g_sub F (lv' := [(4, .int (iI (c + 1))), (3, .int (iI c)), (2, .int (iI (rising ((X 0) 2) c))), (0, .ref (xa 18 100)), (1, .int (iI w))]) [0, 1, 2, 4, 5] rfl ?_
            exact ih23 _ (by omega) (c + 1) (rising ((X 0) 2) c) c rfl (by omega) (by first | (exfalso; omega) | exact smx_tx hs rfl rfl hc.1 rfl (by omega) | exact smx_fx (x := rising (X 0 2) c) hs rfl hc.1 (Or.inr (by omega))) (by omega)
      refine g_sub F (lv' := [(4, .int (iI 0)), (3, .int (iI 0)), (2, .int (iI 0)), (0, .ref (xa 18 100)), (1, .int (iI w))]) [0, 1, 2, 3, 4] rfl ?_
      exact L23 _ 0 0 0 rfl (by omega) rfl (by omega)
    · skip
      refine g_aload_n F 0 dX5_strip_9 rfl ?_
      refine g_bipush F dX5_strip_10 (by decide +kernel) ?_
      refine g_callI F (stk := [.int (iI (-2)), .ref (xa 18 100)]) (st := []) (k_X5_refuse κ xa X (-2) (by omega)) cal_X5_refuse lm_X5_69 81 rfl rfl rfl rfl (by decide) rfl (Nat.le_of_ble_eq_true rfl) dX5_strip_12 (fun r12 ws12 _ hr12 => ?_)
      obtain ⟨rfl, rfl⟩ := hr12
      have hq : (-2) = qStrip (X 0 2) w := by unfold qStrip; (repeat' split) <;> omega
      exact K xw_same ⟨_, rfl, iIc hq, (sX_18 sX_0 rfl rfl rfl), (by rw [← hq]; exact (rfa_r (by omega)).symm)⟩ rfl dX5_strip_15
theorem dX6_pairs_0 : decode cX6_pairs 0 = .ok (.aload_n 0, 1) := by decide +kernel
theorem dX6_pairs_1 : decode cX6_pairs 1 = .ok (.iconst 0, 1) := by decide +kernel
theorem dX6_pairs_2 : decode cX6_pairs 2 = .ok (.putfield 91, 3) := by decide +kernel
theorem dX6_pairs_5 : decode cX6_pairs 5 = .ok (.iconst 0, 1) := by decide +kernel
theorem dX6_pairs_6 : decode cX6_pairs 6 = .ok (.istore_n 1, 1) := by decide +kernel
theorem dX6_pairs_7 : decode cX6_pairs 7 = .ok (.iconst 0, 1) := by decide +kernel
theorem dX6_pairs_8 : decode cX6_pairs 8 = .ok (.istore_n 2, 1) := by decide +kernel
theorem dX6_pairs_9 : decode cX6_pairs 9 = .ok (.iload_n 2, 1) := by decide +kernel
theorem dX6_pairs_10 : decode cX6_pairs 10 = .ok (.bipush 12, 2) := by decide +kernel
theorem dX6_pairs_12 : decode cX6_pairs 12 = .ok (.if_icmp .ge 58, 3) := by decide +kernel
theorem dX6_pairs_15 : decode cX6_pairs 15 = .ok (.iconst 2, 1) := by decide +kernel
theorem dX6_pairs_16 : decode cX6_pairs 16 = .ok (.istore_n 3, 1) := by decide +kernel
theorem dX6_pairs_17 : decode cX6_pairs 17 = .ok (.iload_n 3, 1) := by decide +kernel
theorem dX6_pairs_18 : decode cX6_pairs 18 = .ok (.iconst 4, 1) := by decide +kernel
theorem dX6_pairs_19 : decode cX6_pairs 19 = .ok (.if_icmp .ge 45, 3) := by decide +kernel
theorem dX6_pairs_22 : decode cX6_pairs 22 = .ok (.iload_n 2, 1) := by decide +kernel
theorem dX6_pairs_23 : decode cX6_pairs 23 = .ok (.iload_n 3, 1) := by decide +kernel
theorem dX6_pairs_24 : decode cX6_pairs 24 = .ok (.invokestatic 104, 3) := by decide +kernel
theorem dX6_pairs_27 : decode cX6_pairs 27 = .ok (.istore 4, 2) := by decide +kernel
theorem dX6_pairs_29 : decode cX6_pairs 29 = .ok (.iload_n 1, 1) := by decide +kernel
theorem dX6_pairs_30 : decode cX6_pairs 30 = .ok (.iload 4, 2) := by decide +kernel
theorem dX6_pairs_32 : decode cX6_pairs 32 = .ok (.ifCond .lt 23, 3) := by decide +kernel
theorem dX6_pairs_35 : decode cX6_pairs 35 = .ok (.aload_n 0, 1) := by decide +kernel
theorem dX6_pairs_36 : decode cX6_pairs 36 = .ok (.getfield 7, 3) := by decide +kernel
theorem dX6_pairs_39 : decode cX6_pairs 39 = .ok (.iload_n 2, 1) := by decide +kernel
theorem dX6_pairs_40 : decode cX6_pairs 40 = .ok (.iaload, 1) := by decide +kernel
theorem dX6_pairs_41 : decode cX6_pairs 41 = .ok (.aload_n 0, 1) := by decide +kernel
theorem dX6_pairs_42 : decode cX6_pairs 42 = .ok (.getfield 7, 3) := by decide +kernel
theorem dX6_pairs_45 : decode cX6_pairs 45 = .ok (.iload 4, 2) := by decide +kernel
theorem dX6_pairs_47 : decode cX6_pairs 47 = .ok (.iaload, 1) := by decide +kernel
theorem dX6_pairs_48 : decode cX6_pairs 48 = .ok (.if_icmp .ne 7, 3) := by decide +kernel
theorem dX6_pairs_51 : decode cX6_pairs 51 = .ok (.iconst 1, 1) := by decide +kernel
theorem dX6_pairs_52 : decode cX6_pairs 52 = .ok (.goto 4, 3) := by decide +kernel
theorem dX6_pairs_55 : decode cX6_pairs 55 = .ok (.iconst 0, 1) := by decide +kernel
theorem dX6_pairs_56 : decode cX6_pairs 56 = .ok (.iadd, 1) := by decide +kernel
theorem dX6_pairs_57 : decode cX6_pairs 57 = .ok (.istore_n 1, 1) := by decide +kernel
theorem dX6_pairs_58 : decode cX6_pairs 58 = .ok (.iinc 3 1, 3) := by decide +kernel
theorem dX6_pairs_61 : decode cX6_pairs 61 = .ok (.goto (-44), 3) := by decide +kernel
theorem dX6_pairs_64 : decode cX6_pairs 64 = .ok (.iinc 2 1, 3) := by decide +kernel
theorem dX6_pairs_67 : decode cX6_pairs 67 = .ok (.goto (-58), 3) := by decide +kernel
theorem dX6_pairs_70 : decode cX6_pairs 70 = .ok (.iload_n 1, 1) := by decide +kernel
theorem dX6_pairs_71 : decode cX6_pairs 71 = .ok (.ireturn, 1) := by decide +kernel
set_option maxRecDepth 100000 in
set_option maxHeartbeats 4000000 in
theorem k_X6_pairs (κ : Kp) (ma : Nat → Nat) (M : MS)  (ok : okC (cl M)) : mI κ yX6_pairs cX6_pairs 5 .int 2 [.ref (ma 100)] (mw κ ma M) (qM κ ma M (qPairs (M 0))) := by
  refine mI_of (by decide) (Nat.le_of_ble_eq_true rfl) (fun E F K => ?_)
  refine g_lv (lv' := [(0, .ref (ma 100))]) rfl ?_
  refine g_aload_n F 0 dX6_pairs_0 rfl ?_
  refine g_iconst F dX6_pairs_1 ?_
  refine gm_put_10 F dX6_pairs_2 ?_
  refine g_iconst F dX6_pairs_5 ?_
  refine g_istore_n F (lv' := [(1, .int (iI 0)), (0, .ref (ma 100))]) 1 dX6_pairs_6 rfl (by decide) rfl ?_
  refine g_iconst F dX6_pairs_7 ?_
  refine g_istore_n F (lv' := [(2, .int (iI 0)), (1, .int (iI 0)), (0, .ref (ma 100))]) 2 dX6_pairs_8 rfl (by decide) rfl ?_
  have L9 : ∀ (mz9 : Nat) (c : Int) (s : Int), (12 - c).toNat = mz9 → (0 ≤ c ∧ c ≤ 12) → (s = sumI (fun c => sumI (pw (M 0) c) 4) c) → (0 ≤ s ∧ s ≤ 4 * c) → G E (mw κ ma (mA M 10 (fun _ => 0))) [(2, .int (iI c)), (1, .int (iI s)), (0, .ref (ma 100))] 9 [] := by
    intro mz9
    induction mz9 using Nat.strongRecOn with
    | _ mz9 ih9 =>
    intro c s hmz9 hc hs hsb
    refine g_iload_n F 0 dX6_pairs_9 rfl ?_
    refine g_bipush F dX6_pairs_10 (by decide +kernel) ?_
    refine g_icmp_ge F 70 (by omega) dX6_pairs_12 (by decide) (fun c12 => ?_) (fun c12 => ?_)
    · skip
      refine g_iload_n F 1 dX6_pairs_70 rfl ?_
      have hq : s = qPairs (M 0) := by rw [hs, show c = 12 by omega]; rfl
      exact K mw_same ⟨_, rfl, iIc hq, ⟨rfl, rfl, rfl, rfl, rfl, rfl, rfl, rfl, rfl, rfl, rfl, rfl, rfl, rfl, rfl, rfl, rfl, rfl⟩, (by rw [← hq]; show M 11 = _; exact (rfa_n (by omega)).symm)⟩ rfl dX6_pairs_71
    · skip
      refine g_iconst F dX6_pairs_15 ?_
      refine g_istore_n F (lv' := [(3, .int (iI 2)), (2, .int (iI c)), (1, .int (iI s)), (0, .ref (ma 100))]) 3 dX6_pairs_16 rfl (by decide) rfl ?_
      have L17 : ∀ (mz17 : Nat) (w : Int) (s2 : Int), (4 - w).toNat = mz17 → (2 ≤ w ∧ w ≤ 4) → (s2 = s + sumI (pw (M 0) c) w) → (0 ≤ s2 ∧ s2 ≤ 4 * c + w) → G E (mw κ ma (mA M 10 (fun _ => 0))) [(3, .int (iI w)), (2, .int (iI c)), (1, .int (iI s2)), (0, .ref (ma 100))] 17 [] := by
        intro mz17
        induction mz17 using Nat.strongRecOn with
        | _ mz17 ih17 =>
        intro w s2 hmz17 hw hs2 hs2b
        refine g_iload_n F 0 dX6_pairs_17 rfl ?_
        refine g_iconst F dX6_pairs_18 ?_
        refine g_icmp_ge F 64 (by omega) dX6_pairs_19 (by decide) (fun c19 => ?_) (fun c19 => ?_)
        · skip
          refine g_iinc F (lv' := [(2, .int (iI (c + 1))), (3, .int (iI w)), (1, .int (iI s2)), (0, .ref (ma 100))]) 1 dX6_pairs_64 rfl (by decide) rfl ?_
          refine g_goto F 9 dX6_pairs_67 (by decide) ?_
          refine g_sub F (lv' := [(2, .int (iI (c + 1))), (1, .int (iI s2)), (0, .ref (ma 100))]) [0, 2, 3] rfl ?_
          exact ih9 _ (by omega) (c + 1) s2 rfl (by omega) (by rw [sumI_s _ hc.1, ← hs, hs2, show w = 4 by omega]) (by omega)
        · skip
          have hnb := nbM_in (c := c) (w := w) (by omega) (by omega) (by omega) (by omega)
          have he : 0 ≤ nbM c w → M 0 (nb c w) = M 0 (nbM c w) := fun q => by rw [hnb.2.2.1 q]
          refine g_iload_n F 1 dX6_pairs_22 rfl ?_
          refine g_iload_n F 0 dX6_pairs_23 rfl ?_
          refine g_callSI F (stk := [.int (iI w), .int (iI c)]) (st := []) (k_X6_besideOf κ (mw κ ma (mA M 10 (fun _ => 0))) c w (by omega)) cal_X6_besideOf lm_X6_104 rfl (by decide) rfl (Nat.le_of_ble_eq_true rfl) dX6_pairs_24 (fun r24 ws24 _ hr24 => ?_)
          obtain ⟨rfl, rfl⟩ := hr24
          refine g_istore F (lv' := [(4, .int (iI (nbM c w))), (3, .int (iI w)), (2, .int (iI c)), (1, .int (iI s2)), (0, .ref (ma 100))]) dX6_pairs_27 (by decide) rfl ?_
          refine g_iload_n F 3 dX6_pairs_29 rfl ?_
          refine g_iload F 0 dX6_pairs_30 rfl ?_
          refine g_if_lt F 55 (by omega) dX6_pairs_32 (by decide) (fun c32 => ?_) (fun c32 => ?_)
          · skip
            refine g_iconst F dX6_pairs_55 ?_
            refine g_iadd F dX6_pairs_56 ?_
            refine g_istore_n F (lv' := [(1, .int (iI (s2 + 0))), (4, .int (iI (nbM c w))), (3, .int (iI w)), (2, .int (iI c)), (0, .ref (ma 100))]) 1 dX6_pairs_57 rfl (by decide) rfl ?_
            refine g_iinc F (lv' := [(3, .int (iI (w + 1))), (1, .int (iI (s2 + 0))), (4, .int (iI (nbM c w))), (2, .int (iI c)), (0, .ref (ma 100))]) 2 dX6_pairs_58 rfl (by decide) rfl ?_
            refine g_goto F 17 dX6_pairs_61 (by decide) ?_
            refine g_sub F (lv' := [(3, .int (iI (w + 1))), (2, .int (iI c)), (1, .int (iI (s2 + 0))), (0, .ref (ma 100))]) [0, 3, 1, 4] rfl ?_
            exact ih17 _ (by omega) (w + 1) (s2 + 0) rfl (by omega) (by rw [sumI_s _ (by omega), ← Int.add_assoc, ← hs2]; unfold pw; split <;> omega) (by omega)
          · skip
            have h1 : 0 ≤ M 0 c ∧ M 0 c ≤ 5 := ok.k c (by omega) (by omega)
            have h2 : 0 ≤ M 0 (nbM c w) ∧ M 0 (nbM c w) ≤ 5 := ok.k (nbM c w) (by omega) (by omega)
            refine g_aload_n F 4 dX6_pairs_35 rfl ?_
            refine gm_get_0 F dX6_pairs_36 ?_
            refine g_iload_n F 2 dX6_pairs_39 rfl ?_
            refine gm_ald_0 F (by omega) dX6_pairs_40 ?_
            refine g_top (y := iI (M 0 c)) rfl ?_
            refine g_aload_n F 4 dX6_pairs_41 rfl ?_
            refine gm_get_0 F dX6_pairs_42 ?_
            refine g_iload F 0 dX6_pairs_45 rfl ?_
            refine gm_ald_0 F (by omega) dX6_pairs_47 ?_
            refine g_top (y := iI (M 0 (nbM c w))) rfl ?_
            refine g_icmp_ne F 55 (by omega) dX6_pairs_48 (by decide) (fun c48 => ?_) (fun c48 => ?_)
            · skip
              refine g_iconst F dX6_pairs_55 ?_
              refine g_iadd F dX6_pairs_56 ?_
              refine g_istore_n F (lv' := [(1, .int (iI (s2 + 0))), (4, .int (iI (nbM c w))), (3, .int (iI w)), (2, .int (iI c)), (0, .ref (ma 100))]) 1 dX6_pairs_57 rfl (by decide) rfl ?_
              refine g_iinc F (lv' := [(3, .int (iI (w + 1))), (1, .int (iI (s2 + 0))), (4, .int (iI (nbM c w))), (2, .int (iI c)), (0, .ref (ma 100))]) 2 dX6_pairs_58 rfl (by decide) rfl ?_
              refine g_goto F 17 dX6_pairs_61 (by decide) ?_
              refine g_sub F (lv' := [(3, .int (iI (w + 1))), (2, .int (iI c)), (1, .int (iI (s2 + 0))), (0, .ref (ma 100))]) [0, 3, 1, 4] rfl ?_
              exact ih17 _ (by omega) (w + 1) (s2 + 0) rfl (by omega) (by rw [sumI_s _ (by omega), ← Int.add_assoc, ← hs2]; unfold pw; split <;> omega) (by omega)
            · skip
              refine g_iconst F dX6_pairs_51 ?_
              refine g_goto F 56 dX6_pairs_52 (by decide) ?_
              refine g_iadd F dX6_pairs_56 ?_
              refine g_istore_n F (lv' := [(1, .int (iI (s2 + 1))), (4, .int (iI (nbM c w))), (3, .int (iI w)), (2, .int (iI c)), (0, .ref (ma 100))]) 1 dX6_pairs_57 rfl (by decide) rfl ?_
              refine g_iinc F (lv' := [(3, .int (iI (w + 1))), (1, .int (iI (s2 + 1))), (4, .int (iI (nbM c w))), (2, .int (iI c)), (0, .ref (ma 100))]) 2 dX6_pairs_58 rfl (by decide) rfl ?_
              refine g_goto F 17 dX6_pairs_61 (by decide) ?_
              refine g_sub F (lv' := [(3, .int (iI (w + 1))), (2, .int (iI c)), (1, .int (iI (s2 + 1))), (0, .ref (ma 100))]) [0, 3, 1, 4] rfl ?_
              exact ih17 _ (by omega) (w + 1) (s2 + 1) rfl (by omega) (by rw [sumI_s _ (by omega), ← Int.add_assoc, ← hs2]; unfold pw; split <;> omega) (by omega)
      refine g_sub F (lv' := [(3, .int (iI 2)), (2, .int (iI c)), (1, .int (iI s)), (0, .ref (ma 100))]) [0, 1, 2, 3] rfl ?_
      exact L17 _ 2 s rfl (by omega) (by rw [pw_2]; omega) (by omega)
  refine g_sub F (lv' := [(2, .int (iI 0)), (1, .int (iI 0)), (0, .ref (ma 100))]) [0, 1, 2] rfl ?_
  exact L9 _ 0 0 rfl (by omega) rfl (by omega)
theorem dX5_pairs_0 : decode cX5_pairs 0 = .ok (.iconst 0, 1) := by decide +kernel
theorem dX5_pairs_1 : decode cX5_pairs 1 = .ok (.istore_n 1, 1) := by decide +kernel
theorem dX5_pairs_2 : decode cX5_pairs 2 = .ok (.iconst 0, 1) := by decide +kernel
theorem dX5_pairs_3 : decode cX5_pairs 3 = .ok (.istore_n 2, 1) := by decide +kernel
theorem dX5_pairs_4 : decode cX5_pairs 4 = .ok (.iload_n 2, 1) := by decide +kernel
theorem dX5_pairs_5 : decode cX5_pairs 5 = .ok (.bipush 12, 2) := by decide +kernel
theorem dX5_pairs_7 : decode cX5_pairs 7 = .ok (.if_icmp .ge 64, 3) := by decide +kernel
theorem dX5_pairs_10 : decode cX5_pairs 10 = .ok (.iconst 0, 1) := by decide +kernel
theorem dX5_pairs_11 : decode cX5_pairs 11 = .ok (.istore_n 3, 1) := by decide +kernel
theorem dX5_pairs_12 : decode cX5_pairs 12 = .ok (.iload_n 3, 1) := by decide +kernel
theorem dX5_pairs_13 : decode cX5_pairs 13 = .ok (.iconst 4, 1) := by decide +kernel
theorem dX5_pairs_14 : decode cX5_pairs 14 = .ok (.if_icmp .ge 51, 3) := by decide +kernel
theorem dX5_pairs_17 : decode cX5_pairs 17 = .ok (.getstatic 308, 3) := by decide +kernel
theorem dX5_pairs_20 : decode cX5_pairs 20 = .ok (.iload_n 2, 1) := by decide +kernel
theorem dX5_pairs_21 : decode cX5_pairs 21 = .ok (.iconst 4, 1) := by decide +kernel
theorem dX5_pairs_22 : decode cX5_pairs 22 = .ok (.imul, 1) := by decide +kernel
theorem dX5_pairs_23 : decode cX5_pairs 23 = .ok (.iload_n 3, 1) := by decide +kernel
theorem dX5_pairs_24 : decode cX5_pairs 24 = .ok (.iadd, 1) := by decide +kernel
theorem dX5_pairs_25 : decode cX5_pairs 25 = .ok (.iaload, 1) := by decide +kernel
theorem dX5_pairs_26 : decode cX5_pairs 26 = .ok (.istore 4, 2) := by decide +kernel
theorem dX5_pairs_28 : decode cX5_pairs 28 = .ok (.iload 4, 2) := by decide +kernel
theorem dX5_pairs_30 : decode cX5_pairs 30 = .ok (.iload_n 2, 1) := by decide +kernel
theorem dX5_pairs_31 : decode cX5_pairs 31 = .ok (.if_icmp .le 28, 3) := by decide +kernel
theorem dX5_pairs_34 : decode cX5_pairs 34 = .ok (.aload_n 0, 1) := by decide +kernel
theorem dX5_pairs_35 : decode cX5_pairs 35 = .ok (.getfield 10, 3) := by decide +kernel
theorem dX5_pairs_38 : decode cX5_pairs 38 = .ok (.getfield 169, 3) := by decide +kernel
theorem dX5_pairs_41 : decode cX5_pairs 41 = .ok (.iload_n 2, 1) := by decide +kernel
theorem dX5_pairs_42 : decode cX5_pairs 42 = .ok (.iaload, 1) := by decide +kernel
theorem dX5_pairs_43 : decode cX5_pairs 43 = .ok (.aload_n 0, 1) := by decide +kernel
theorem dX5_pairs_44 : decode cX5_pairs 44 = .ok (.getfield 10, 3) := by decide +kernel
theorem dX5_pairs_47 : decode cX5_pairs 47 = .ok (.getfield 169, 3) := by decide +kernel
theorem dX5_pairs_50 : decode cX5_pairs 50 = .ok (.iload 4, 2) := by decide +kernel
theorem dX5_pairs_52 : decode cX5_pairs 52 = .ok (.iaload, 1) := by decide +kernel
theorem dX5_pairs_53 : decode cX5_pairs 53 = .ok (.if_icmp .ne 6, 3) := by decide +kernel
theorem dX5_pairs_56 : decode cX5_pairs 56 = .ok (.iinc 1 1, 3) := by decide +kernel
theorem dX5_pairs_59 : decode cX5_pairs 59 = .ok (.iinc 3 1, 3) := by decide +kernel
theorem dX5_pairs_62 : decode cX5_pairs 62 = .ok (.goto (-50), 3) := by decide +kernel
theorem dX5_pairs_65 : decode cX5_pairs 65 = .ok (.iinc 2 1, 3) := by decide +kernel
theorem dX5_pairs_68 : decode cX5_pairs 68 = .ok (.goto (-64), 3) := by decide +kernel
theorem dX5_pairs_71 : decode cX5_pairs 71 = .ok (.iload_n 1, 1) := by decide +kernel
theorem dX5_pairs_72 : decode cX5_pairs 72 = .ok (.ireturn, 1) := by decide +kernel
set_option maxRecDepth 100000 in
set_option maxHeartbeats 4000000 in
theorem k_X5_pairs (κ : Kp) (xa : Nat → Nat → Nat) (X : XS)  (ok : okC (cl (X 0))) : mI κ yX5_pairs cX5_pairs 5 .int 2 [.ref (xa 18 100)] (xw κ xa X) (qX κ xa X (qPairs (X 0 0))) := by
  refine mI_of (by decide) (Nat.le_of_ble_eq_true rfl) (fun E F K => ?_)
  refine g_lv (lv' := [(0, .ref (xa 18 100))]) rfl ?_
  refine g_iconst F dX5_pairs_0 ?_
  refine g_istore_n F (lv' := [(1, .int (iI 0)), (0, .ref (xa 18 100))]) 1 dX5_pairs_1 rfl (by decide) rfl ?_
  refine g_iconst F dX5_pairs_2 ?_
  refine g_istore_n F (lv' := [(2, .int (iI 0)), (1, .int (iI 0)), (0, .ref (xa 18 100))]) 2 dX5_pairs_3 rfl (by decide) rfl ?_
  have L4 : ∀ (mz4 : Nat) (c : Int) (s : Int), (12 - c).toNat = mz4 → (0 ≤ c ∧ c ≤ 12) → (s = sumI (fun c => sumI (pw (X 0 0) c) 4) c) → (0 ≤ s ∧ s ≤ 4 * c) → G E (xw κ xa X) [(2, .int (iI c)), (1, .int (iI s)), (0, .ref (xa 18 100))] 4 [] := by
    intro mz4
    induction mz4 using Nat.strongRecOn with
    | _ mz4 ih4 =>
    intro c s hmz4 hc hs hsb
    refine g_iload_n F 0 dX5_pairs_4 rfl ?_
    refine g_bipush F dX5_pairs_5 (by decide +kernel) ?_
    refine g_icmp_ge F 71 (by omega) dX5_pairs_7 (by decide) (fun c7 => ?_) (fun c7 => ?_)
    · skip
      refine g_iload_n F 1 dX5_pairs_71 rfl ?_
      have hq : s = qPairs (X 0 0) := by rw [hs, show c = 12 by omega]; rfl
      exact K xw_same ⟨_, rfl, iIc hq, sX_0, (by rw [← hq]; exact (rfa_n (by omega)).symm)⟩ rfl dX5_pairs_72
    · skip
      refine g_iconst F dX5_pairs_10 ?_
      refine g_istore_n F (lv' := [(3, .int (iI 0)), (2, .int (iI c)), (1, .int (iI s)), (0, .ref (xa 18 100))]) 3 dX5_pairs_11 rfl (by decide) rfl ?_
      have L12 : ∀ (mz12 : Nat) (w : Int) (s2 : Int), (4 - w).toNat = mz12 → (0 ≤ w ∧ w ≤ 4) → (s2 = s + sumI (pw (X 0 0) c) w) → (0 ≤ s2 ∧ s2 ≤ 4 * c + w) → G E (xw κ xa X) [(3, .int (iI w)), (2, .int (iI c)), (1, .int (iI s2)), (0, .ref (xa 18 100))] 12 [] := by
        intro mz12
        induction mz12 using Nat.strongRecOn with
        | _ mz12 ih12 =>
        intro w s2 hmz12 hw hs2 hs2b
        refine g_iload_n F 0 dX5_pairs_12 rfl ?_
        refine g_iconst F dX5_pairs_13 ?_
        refine g_icmp_ge F 65 (by omega) dX5_pairs_14 (by decide) (fun c14 => ?_) (fun c14 => ?_)
        · skip
          refine g_iinc F (lv' := [(2, .int (iI (c + 1))), (3, .int (iI w)), (1, .int (iI s2)), (0, .ref (xa 18 100))]) 1 dX5_pairs_65 rfl (by decide) rfl ?_
          refine g_goto F 4 dX5_pairs_68 (by decide) ?_
          refine g_sub F (lv' := [(2, .int (iI (c + 1))), (1, .int (iI s2)), (0, .ref (xa 18 100))]) [0, 2, 3] rfl ?_
          exact ih4 _ (by omega) (c + 1) s2 rfl (by omega) (by rw [sumI_s _ hc.1, ← hs, hs2, show w = 4 by omega]) (by omega)
        · skip
          have hnb := nb_in (c := c) (w := w) (by omega) (by omega) (by omega) (by omega)
          have hgt := nb_gt (c := c) (w := w) (by omega) (by omega) (by omega) (by omega)
          refine g_bes F lf_X5_308 dX5_pairs_17 ?_
          refine g_iload_n F 1 dX5_pairs_20 rfl ?_
          refine g_iconst F dX5_pairs_21 ?_
          refine g_imul F dX5_pairs_22 ?_
          refine g_iload_n F 0 dX5_pairs_23 rfl ?_
          refine g_iadd F dX5_pairs_24 ?_
          refine g_beld F (by omega) dX5_pairs_25 ?_
          refine g_top (y := iI (nb c w)) (iIc (bes_nb (by omega) (by omega))) ?_
          refine g_istore F (lv' := [(4, .int (iI (nb c w))), (3, .int (iI w)), (2, .int (iI c)), (1, .int (iI s2)), (0, .ref (xa 18 100))]) dX5_pairs_26 (by decide) rfl ?_
          refine g_iload F 0 dX5_pairs_28 rfl ?_
          refine g_iload_n F 2 dX5_pairs_30 rfl ?_
          refine g_icmp_le F 59 (by omega) dX5_pairs_31 (by decide) (fun c31 => ?_) (fun c31 => ?_)
          · skip
            refine g_iinc F (lv' := [(3, .int (iI (w + 1))), (4, .int (iI (nb c w))), (2, .int (iI c)), (1, .int (iI s2)), (0, .ref (xa 18 100))]) 1 dX5_pairs_59 rfl (by decide) rfl ?_
            refine g_goto F 12 dX5_pairs_62 (by decide) ?_
            refine g_sub F (lv' := [(3, .int (iI (w + 1))), (2, .int (iI c)), (1, .int (iI s2)), (0, .ref (xa 18 100))]) [0, 2, 3, 4] rfl ?_
            exact ih12 _ (by omega) (w + 1) s2 rfl (by omega) (by rw [sumI_s _ (by omega), ← Int.add_assoc, ← hs2]; unfold pw; split <;> omega) (by omega)
          · skip
            have h1 : 0 ≤ X 0 0 c ∧ X 0 0 c ≤ 5 := ok.k c (by omega) (by omega)
            have h2 : 0 ≤ X 0 0 (nb c w) ∧ X 0 0 (nb c w) ≤ 5 := ok.k (nb c w) (by omega) (by omega)
            refine g_aload_n F 4 dX5_pairs_34 rfl ?_
            refine g18_get_0 F  lf_X5_10 dX5_pairs_35 ?_
            refine gc_getN_0 F (o := 0) (by decide) nf_X5_169 dX5_pairs_38 ?_
            refine g_iload_n F 2 dX5_pairs_41 rfl ?_
            refine gc_ald_0 F (o := 0) (by decide) (by omega) dX5_pairs_42 ?_
            refine g_aload_n F 4 dX5_pairs_43 rfl ?_
            refine g18_get_0 F  lf_X5_10 dX5_pairs_44 ?_
            refine gc_getN_0 F (o := 0) (by decide) nf_X5_169 dX5_pairs_47 ?_
            refine g_iload F 0 dX5_pairs_50 rfl ?_
            refine gc_ald_0 F (o := 0) (by decide) (by omega) dX5_pairs_52 ?_
            refine g_icmp_ne F 59 (by omega) dX5_pairs_53 (by decide) (fun c53 => ?_) (fun c53 => ?_)
            · skip
              refine g_iinc F (lv' := [(3, .int (iI (w + 1))), (4, .int (iI (nb c w))), (2, .int (iI c)), (1, .int (iI s2)), (0, .ref (xa 18 100))]) 1 dX5_pairs_59 rfl (by decide) rfl ?_
              refine g_goto F 12 dX5_pairs_62 (by decide) ?_
              refine g_sub F (lv' := [(3, .int (iI (w + 1))), (2, .int (iI c)), (1, .int (iI s2)), (0, .ref (xa 18 100))]) [0, 2, 3, 4] rfl ?_
              exact ih12 _ (by omega) (w + 1) s2 rfl (by omega) (by rw [sumI_s _ (by omega), ← Int.add_assoc, ← hs2]; unfold pw; split <;> omega) (by omega)
            · skip
              refine g_iinc F (lv' := [(1, .int (iI (s2 + 1))), (4, .int (iI (nb c w))), (3, .int (iI w)), (2, .int (iI c)), (0, .ref (xa 18 100))]) 3 dX5_pairs_56 rfl (by decide) rfl ?_
              refine g_iinc F (lv' := [(3, .int (iI (w + 1))), (1, .int (iI (s2 + 1))), (4, .int (iI (nb c w))), (2, .int (iI c)), (0, .ref (xa 18 100))]) 2 dX5_pairs_59 rfl (by decide) rfl ?_
              refine g_goto F 12 dX5_pairs_62 (by decide) ?_
              refine g_sub F (lv' := [(3, .int (iI (w + 1))), (2, .int (iI c)), (1, .int (iI (s2 + 1))), (0, .ref (xa 18 100))]) [0, 3, 1, 4] rfl ?_
              exact ih12 _ (by omega) (w + 1) (s2 + 1) rfl (by omega) (by rw [sumI_s _ (by omega), ← Int.add_assoc, ← hs2]; unfold pw; split <;> omega) (by omega)
      refine g_sub F (lv' := [(3, .int (iI 0)), (2, .int (iI c)), (1, .int (iI s)), (0, .ref (xa 18 100))]) [0, 1, 2, 3] rfl ?_
      exact L12 _ 0 s rfl (by omega) (by show s = s + 0; omega) (by omega)
  refine g_sub F (lv' := [(2, .int (iI 0)), (1, .int (iI 0)), (0, .ref (xa 18 100))]) [0, 1, 2] rfl ?_
  exact L4 _ 0 0 rfl (by omega) rfl (by omega)
theorem dX6_unlike_0 : decode cX6_unlike 0 = .ok (.aload_n 0, 1) := by decide +kernel
theorem dX6_unlike_1 : decode cX6_unlike 1 = .ok (.iconst 0, 1) := by decide +kernel
theorem dX6_unlike_2 : decode cX6_unlike 2 = .ok (.putfield 91, 3) := by decide +kernel
theorem dX6_unlike_5 : decode cX6_unlike 5 = .ok (.iconst 0, 1) := by decide +kernel
theorem dX6_unlike_6 : decode cX6_unlike 6 = .ok (.istore_n 1, 1) := by decide +kernel
theorem dX6_unlike_7 : decode cX6_unlike 7 = .ok (.iconst 0, 1) := by decide +kernel
theorem dX6_unlike_8 : decode cX6_unlike 8 = .ok (.istore_n 2, 1) := by decide +kernel
theorem dX6_unlike_9 : decode cX6_unlike 9 = .ok (.iload_n 2, 1) := by decide +kernel
theorem dX6_unlike_10 : decode cX6_unlike 10 = .ok (.bipush 12, 2) := by decide +kernel
theorem dX6_unlike_12 : decode cX6_unlike 12 = .ok (.if_icmp .ge 64, 3) := by decide +kernel
theorem dX6_unlike_15 : decode cX6_unlike 15 = .ok (.iconst 1, 1) := by decide +kernel
theorem dX6_unlike_16 : decode cX6_unlike 16 = .ok (.istore_n 3, 1) := by decide +kernel
theorem dX6_unlike_17 : decode cX6_unlike 17 = .ok (.iconst 0, 1) := by decide +kernel
theorem dX6_unlike_18 : decode cX6_unlike 18 = .ok (.istore 4, 2) := by decide +kernel
theorem dX6_unlike_20 : decode cX6_unlike 20 = .ok (.iload 4, 2) := by decide +kernel
theorem dX6_unlike_22 : decode cX6_unlike 22 = .ok (.iload_n 2, 1) := by decide +kernel
theorem dX6_unlike_23 : decode cX6_unlike 23 = .ok (.if_icmp .ge 35, 3) := by decide +kernel
theorem dX6_unlike_26 : decode cX6_unlike 26 = .ok (.iload_n 3, 1) := by decide +kernel
theorem dX6_unlike_27 : decode cX6_unlike 27 = .ok (.ifCond .eq 23, 3) := by decide +kernel
theorem dX6_unlike_30 : decode cX6_unlike 30 = .ok (.aload_n 0, 1) := by decide +kernel
theorem dX6_unlike_31 : decode cX6_unlike 31 = .ok (.getfield 16, 3) := by decide +kernel
theorem dX6_unlike_34 : decode cX6_unlike 34 = .ok (.iload 4, 2) := by decide +kernel
theorem dX6_unlike_36 : decode cX6_unlike 36 = .ok (.iaload, 1) := by decide +kernel
theorem dX6_unlike_37 : decode cX6_unlike 37 = .ok (.aload_n 0, 1) := by decide +kernel
theorem dX6_unlike_38 : decode cX6_unlike 38 = .ok (.getfield 16, 3) := by decide +kernel
theorem dX6_unlike_41 : decode cX6_unlike 41 = .ok (.iload_n 2, 1) := by decide +kernel
theorem dX6_unlike_42 : decode cX6_unlike 42 = .ok (.iaload, 1) := by decide +kernel
theorem dX6_unlike_43 : decode cX6_unlike 43 = .ok (.if_icmp .eq 7, 3) := by decide +kernel
theorem dX6_unlike_46 : decode cX6_unlike 46 = .ok (.iconst 1, 1) := by decide +kernel
theorem dX6_unlike_47 : decode cX6_unlike 47 = .ok (.goto 4, 3) := by decide +kernel
theorem dX6_unlike_50 : decode cX6_unlike 50 = .ok (.iconst 0, 1) := by decide +kernel
theorem dX6_unlike_51 : decode cX6_unlike 51 = .ok (.istore_n 3, 1) := by decide +kernel
theorem dX6_unlike_52 : decode cX6_unlike 52 = .ok (.iinc 4 1, 3) := by decide +kernel
theorem dX6_unlike_55 : decode cX6_unlike 55 = .ok (.goto (-35), 3) := by decide +kernel
theorem dX6_unlike_58 : decode cX6_unlike 58 = .ok (.iload_n 1, 1) := by decide +kernel
theorem dX6_unlike_59 : decode cX6_unlike 59 = .ok (.iload_n 3, 1) := by decide +kernel
theorem dX6_unlike_60 : decode cX6_unlike 60 = .ok (.ifCond .eq 7, 3) := by decide +kernel
theorem dX6_unlike_63 : decode cX6_unlike 63 = .ok (.iconst 1, 1) := by decide +kernel
theorem dX6_unlike_64 : decode cX6_unlike 64 = .ok (.goto 4, 3) := by decide +kernel
theorem dX6_unlike_67 : decode cX6_unlike 67 = .ok (.iconst 0, 1) := by decide +kernel
theorem dX6_unlike_68 : decode cX6_unlike 68 = .ok (.iadd, 1) := by decide +kernel
theorem dX6_unlike_69 : decode cX6_unlike 69 = .ok (.istore_n 1, 1) := by decide +kernel
theorem dX6_unlike_70 : decode cX6_unlike 70 = .ok (.iinc 2 1, 3) := by decide +kernel
theorem dX6_unlike_73 : decode cX6_unlike 73 = .ok (.goto (-64), 3) := by decide +kernel
theorem dX6_unlike_76 : decode cX6_unlike 76 = .ok (.iload_n 1, 1) := by decide +kernel
theorem dX6_unlike_77 : decode cX6_unlike 77 = .ok (.ireturn, 1) := by decide +kernel
set_option maxRecDepth 100000 in
set_option maxHeartbeats 4000000 in
theorem k_X6_unlike (κ : Kp) (ma : Nat → Nat) (M : MS)  (ok : okC (cl M)) : mI κ yX6_unlike cX6_unlike 5 .int 2 [.ref (ma 100)] (mw κ ma M) (qM κ ma M (qUnlike (M 2))) := by
  refine mI_of (by decide) (Nat.le_of_ble_eq_true rfl) (fun E F K => ?_)
  refine g_lv (lv' := [(0, .ref (ma 100))]) rfl ?_
  refine g_aload_n F 0 dX6_unlike_0 rfl ?_
  refine g_iconst F dX6_unlike_1 ?_
  refine gm_put_10 F dX6_unlike_2 ?_
  refine g_iconst F dX6_unlike_5 ?_
  refine g_istore_n F (lv' := [(1, .int (iI 0)), (0, .ref (ma 100))]) 1 dX6_unlike_6 rfl (by decide) rfl ?_
  refine g_iconst F dX6_unlike_7 ?_
  refine g_istore_n F (lv' := [(2, .int (iI 0)), (1, .int (iI 0)), (0, .ref (ma 100))]) 2 dX6_unlike_8 rfl (by decide) rfl ?_
  have L9 : ∀ (mz9 : Nat) (c : Int) (s : Int), (12 - c).toNat = mz9 → (0 ≤ c ∧ c ≤ 12) → (s = sumI (fun c => unI (M 2) c c) c) → (0 ≤ s ∧ s ≤ c) → G E (mw κ ma (mA M 10 (fun _ => 0))) [(2, .int (iI c)), (1, .int (iI s)), (0, .ref (ma 100))] 9 [] := by
    intro mz9
    induction mz9 using Nat.strongRecOn with
    | _ mz9 ih9 =>
    intro c s hmz9 hc hs hsb
    refine g_iload_n F 0 dX6_unlike_9 rfl ?_
    refine g_bipush F dX6_unlike_10 (by decide +kernel) ?_
    refine g_icmp_ge F 76 (by omega) dX6_unlike_12 (by decide) (fun c12 => ?_) (fun c12 => ?_)
    · skip
      refine g_iload_n F 1 dX6_unlike_76 rfl ?_
      have hq : s = qUnlike (M 2) := by rw [hs, show c = 12 by omega]; rfl
      exact K mw_same ⟨_, rfl, iIc hq, ⟨rfl, rfl, rfl, rfl, rfl, rfl, rfl, rfl, rfl, rfl, rfl, rfl, rfl, rfl, rfl, rfl, rfl, rfl⟩, (by rw [← hq]; show M 11 = _; exact (rfa_n (by omega)).symm)⟩ rfl dX6_unlike_77
    · skip
      refine g_iconst F dX6_unlike_15 ?_
      refine g_istore_n F (lv' := [(3, .int (iI 1)), (2, .int (iI c)), (1, .int (iI s)), (0, .ref (ma 100))]) 3 dX6_unlike_16 rfl (by decide) rfl ?_
      refine g_iconst F dX6_unlike_17 ?_
      refine g_istore F (lv' := [(4, .int (iI 0)), (3, .int (iI 1)), (2, .int (iI c)), (1, .int (iI s)), (0, .ref (ma 100))]) dX6_unlike_18 (by decide) rfl ?_
      have L20 : ∀ (mz20 : Nat) (o : Int) (f : Int), (c - o).toNat = mz20 → (0 ≤ o ∧ o ≤ c) → (f = unI (M 2) c o) → (0 ≤ f ∧ f ≤ 1) → G E (mw κ ma (mA M 10 (fun _ => 0))) [(4, .int (iI o)), (3, .int (iI f)), (2, .int (iI c)), (1, .int (iI s)), (0, .ref (ma 100))] 20 [] := by
        intro mz20
        induction mz20 using Nat.strongRecOn with
        | _ mz20 ih20 =>
        intro o f hmz20 ho hf hfb
        refine g_iload F 0 dX6_unlike_20 rfl ?_
        refine g_iload_n F 2 dX6_unlike_22 rfl ?_
        refine g_icmp_ge F 58 (by omega) dX6_unlike_23 (by decide) (fun c23 => ?_) (fun c23 => ?_)
        · skip
          refine g_iload_n F 3 dX6_unlike_58 rfl ?_
          refine g_iload_n F 1 dX6_unlike_59 rfl ?_
          refine g_if_eq F 67 (by omega) dX6_unlike_60 (by decide) (fun c60 => ?_) (fun c60 => ?_)
          · skip
            refine g_iconst F dX6_unlike_67 ?_
            refine g_iadd F dX6_unlike_68 ?_
            refine g_istore_n F (lv' := [(1, .int (iI (s + 0))), (4, .int (iI o)), (3, .int (iI f)), (2, .int (iI c)), (0, .ref (ma 100))]) 1 dX6_unlike_69 rfl (by decide) rfl ?_
            refine g_iinc F (lv' := [(2, .int (iI (c + 1))), (1, .int (iI (s + 0))), (4, .int (iI o)), (3, .int (iI f)), (0, .ref (ma 100))]) 3 dX6_unlike_70 rfl (by decide) rfl ?_
            refine g_goto F 9 dX6_unlike_73 (by decide) ?_
            refine g_sub F (lv' := [(2, .int (iI (c + 1))), (1, .int (iI (s + 0))), (0, .ref (ma 100))]) [0, 1, 4] rfl ?_
            exact ih9 _ (by omega) (c + 1) (s + 0) rfl (by omega) (by rw [sumI_s _ hc.1, ← hs]; show _ = s + unI (M 2) c c; rw [show unI (M 2) c c = f by rw [hf, show o = c by omega]]; omega) (by omega)
          · skip
            refine g_iconst F dX6_unlike_63 ?_
            refine g_goto F 68 dX6_unlike_64 (by decide) ?_
            refine g_iadd F dX6_unlike_68 ?_
            refine g_istore_n F (lv' := [(1, .int (iI (s + 1))), (4, .int (iI o)), (3, .int (iI f)), (2, .int (iI c)), (0, .ref (ma 100))]) 1 dX6_unlike_69 rfl (by decide) rfl ?_
            refine g_iinc F (lv' := [(2, .int (iI (c + 1))), (1, .int (iI (s + 1))), (4, .int (iI o)), (3, .int (iI f)), (0, .ref (ma 100))]) 3 dX6_unlike_70 rfl (by decide) rfl ?_
            refine g_goto F 9 dX6_unlike_73 (by decide) ?_
            refine g_sub F (lv' := [(2, .int (iI (c + 1))), (1, .int (iI (s + 1))), (0, .ref (ma 100))]) [0, 1, 4] rfl ?_
            exact ih9 _ (by omega) (c + 1) (s + 1) rfl (by omega) (by rw [sumI_s _ hc.1, ← hs]; show _ = s + unI (M 2) c c; rw [show unI (M 2) c c = f by rw [hf, show o = c by omega]]; omega) (by omega)
        · skip
          have h1 : 0 ≤ M 2 o ∧ M 2 o ≤ 99 := ok.a o (by omega) (by omega)
          have h2 : 0 ≤ M 2 c ∧ M 2 c ≤ 99 := ok.a c (by omega) (by omega)
          refine g_iload_n F 1 dX6_unlike_26 rfl ?_
          refine g_if_eq F 50 (by omega) dX6_unlike_27 (by decide) (fun c27 => ?_) (fun c27 => ?_)
          · skip
            refine g_iconst F dX6_unlike_50 ?_
            refine g_istore_n F (lv' := [(3, .int (iI 0)), (4, .int (iI o)), (2, .int (iI c)), (1, .int (iI s)), (0, .ref (ma 100))]) 3 dX6_unlike_51 rfl (by decide) rfl ?_
            refine g_iinc F (lv' := [(4, .int (iI (o + 1))), (3, .int (iI 0)), (2, .int (iI c)), (1, .int (iI s)), (0, .ref (ma 100))]) 1 dX6_unlike_52 rfl (by decide) rfl ?_
            refine g_goto F 20 dX6_unlike_55 (by decide) ?_
            refine g_sub F (lv' := [(4, .int (iI (o + 1))), (3, .int (iI 0)), (2, .int (iI c)), (1, .int (iI s)), (0, .ref (ma 100))]) [0, 1, 2, 3, 4] rfl ?_
            exact ih20 _ (by omega) (o + 1) 0 rfl (by omega) (by rw [unI_s _ _ ho.1, ← hf]; split <;> omega) (by omega)
          · skip
            refine g_aload_n F 4 dX6_unlike_30 rfl ?_
            refine gm_get_2 F dX6_unlike_31 ?_
            refine g_iload F 0 dX6_unlike_34 rfl ?_
            refine gm_ald_2 F (by omega) dX6_unlike_36 ?_
            refine g_top (y := iI (M 2 o)) rfl ?_
            refine g_aload_n F 4 dX6_unlike_37 rfl ?_
            refine gm_get_2 F dX6_unlike_38 ?_
            refine g_iload_n F 2 dX6_unlike_41 rfl ?_
            refine gm_ald_2 F (by omega) dX6_unlike_42 ?_
            refine g_top (y := iI (M 2 c)) rfl ?_
            refine g_icmp_eq F 50 (by omega) dX6_unlike_43 (by decide) (fun c43 => ?_) (fun c43 => ?_)
            · skip
              refine g_iconst F dX6_unlike_50 ?_
              refine g_istore_n F (lv' := [(3, .int (iI 0)), (4, .int (iI o)), (2, .int (iI c)), (1, .int (iI s)), (0, .ref (ma 100))]) 3 dX6_unlike_51 rfl (by decide) rfl ?_
              refine g_iinc F (lv' := [(4, .int (iI (o + 1))), (3, .int (iI 0)), (2, .int (iI c)), (1, .int (iI s)), (0, .ref (ma 100))]) 1 dX6_unlike_52 rfl (by decide) rfl ?_
              refine g_goto F 20 dX6_unlike_55 (by decide) ?_
              refine g_sub F (lv' := [(4, .int (iI (o + 1))), (3, .int (iI 0)), (2, .int (iI c)), (1, .int (iI s)), (0, .ref (ma 100))]) [0, 1, 2, 3, 4] rfl ?_
              exact ih20 _ (by omega) (o + 1) 0 rfl (by omega) (by rw [unI_s _ _ ho.1, ← hf]; split <;> omega) (by omega)
            · skip
              refine g_iconst F dX6_unlike_46 ?_
              refine g_goto F 51 dX6_unlike_47 (by decide) ?_
              refine g_istore_n F (lv' := [(3, .int (iI 1)), (4, .int (iI o)), (2, .int (iI c)), (1, .int (iI s)), (0, .ref (ma 100))]) 3 dX6_unlike_51 rfl (by decide) rfl ?_
              refine g_iinc F (lv' := [(4, .int (iI (o + 1))), (3, .int (iI 1)), (2, .int (iI c)), (1, .int (iI s)), (0, .ref (ma 100))]) 1 dX6_unlike_52 rfl (by decide) rfl ?_
              refine g_goto F 20 dX6_unlike_55 (by decide) ?_
              refine g_sub F (lv' := [(4, .int (iI (o + 1))), (3, .int (iI 1)), (2, .int (iI c)), (1, .int (iI s)), (0, .ref (ma 100))]) [0, 1, 2, 3, 4] rfl ?_
              exact ih20 _ (by omega) (o + 1) 1 rfl (by omega) (by rw [unI_s _ _ ho.1, ← hf]; split <;> omega) (by omega)
      refine g_sub F (lv' := [(4, .int (iI 0)), (3, .int (iI 1)), (2, .int (iI c)), (1, .int (iI s)), (0, .ref (ma 100))]) [0, 1, 2, 3, 4] rfl ?_
      exact L20 _ 0 1 rfl (by omega) rfl (by omega)
  refine g_sub F (lv' := [(2, .int (iI 0)), (1, .int (iI 0)), (0, .ref (ma 100))]) [0, 1, 2] rfl ?_
  exact L9 _ 0 0 rfl (by omega) rfl (by omega)
theorem dX5_unlike_0 : decode cX5_unlike 0 = .ok (.iconst 0, 1) := by decide +kernel
theorem dX5_unlike_1 : decode cX5_unlike 1 = .ok (.istore_n 1, 1) := by decide +kernel
theorem dX5_unlike_2 : decode cX5_unlike 2 = .ok (.iconst 0, 1) := by decide +kernel
theorem dX5_unlike_3 : decode cX5_unlike 3 = .ok (.istore_n 2, 1) := by decide +kernel
theorem dX5_unlike_4 : decode cX5_unlike 4 = .ok (.iload_n 2, 1) := by decide +kernel
theorem dX5_unlike_5 : decode cX5_unlike 5 = .ok (.bipush 12, 2) := by decide +kernel
theorem dX5_unlike_7 : decode cX5_unlike 7 = .ok (.if_icmp .ge 57, 3) := by decide +kernel
theorem dX5_unlike_10 : decode cX5_unlike 10 = .ok (.iconst 1, 1) := by decide +kernel
theorem dX5_unlike_11 : decode cX5_unlike 11 = .ok (.istore_n 3, 1) := by decide +kernel
theorem dX5_unlike_12 : decode cX5_unlike 12 = .ok (.iconst 0, 1) := by decide +kernel
theorem dX5_unlike_13 : decode cX5_unlike 13 = .ok (.istore 4, 2) := by decide +kernel
theorem dX5_unlike_15 : decode cX5_unlike 15 = .ok (.iload 4, 2) := by decide +kernel
theorem dX5_unlike_17 : decode cX5_unlike 17 = .ok (.iload_n 2, 1) := by decide +kernel
theorem dX5_unlike_18 : decode cX5_unlike 18 = .ok (.if_icmp .ge 33, 3) := by decide +kernel
theorem dX5_unlike_21 : decode cX5_unlike 21 = .ok (.aload_n 0, 1) := by decide +kernel
theorem dX5_unlike_22 : decode cX5_unlike 22 = .ok (.getfield 10, 3) := by decide +kernel
theorem dX5_unlike_25 : decode cX5_unlike 25 = .ok (.getfield 175, 3) := by decide +kernel
theorem dX5_unlike_28 : decode cX5_unlike 28 = .ok (.iload 4, 2) := by decide +kernel
theorem dX5_unlike_30 : decode cX5_unlike 30 = .ok (.iaload, 1) := by decide +kernel
theorem dX5_unlike_31 : decode cX5_unlike 31 = .ok (.aload_n 0, 1) := by decide +kernel
theorem dX5_unlike_32 : decode cX5_unlike 32 = .ok (.getfield 10, 3) := by decide +kernel
theorem dX5_unlike_35 : decode cX5_unlike 35 = .ok (.getfield 175, 3) := by decide +kernel
theorem dX5_unlike_38 : decode cX5_unlike 38 = .ok (.iload_n 2, 1) := by decide +kernel
theorem dX5_unlike_39 : decode cX5_unlike 39 = .ok (.iaload, 1) := by decide +kernel
theorem dX5_unlike_40 : decode cX5_unlike 40 = .ok (.if_icmp .ne 5, 3) := by decide +kernel
theorem dX5_unlike_43 : decode cX5_unlike 43 = .ok (.iconst 0, 1) := by decide +kernel
theorem dX5_unlike_44 : decode cX5_unlike 44 = .ok (.istore_n 3, 1) := by decide +kernel
theorem dX5_unlike_45 : decode cX5_unlike 45 = .ok (.iinc 4 1, 3) := by decide +kernel
theorem dX5_unlike_48 : decode cX5_unlike 48 = .ok (.goto (-33), 3) := by decide +kernel
theorem dX5_unlike_51 : decode cX5_unlike 51 = .ok (.iload_n 3, 1) := by decide +kernel
theorem dX5_unlike_52 : decode cX5_unlike 52 = .ok (.ifCond .eq 6, 3) := by decide +kernel
theorem dX5_unlike_55 : decode cX5_unlike 55 = .ok (.iinc 1 1, 3) := by decide +kernel
theorem dX5_unlike_58 : decode cX5_unlike 58 = .ok (.iinc 2 1, 3) := by decide +kernel
theorem dX5_unlike_61 : decode cX5_unlike 61 = .ok (.goto (-57), 3) := by decide +kernel
theorem dX5_unlike_64 : decode cX5_unlike 64 = .ok (.iload_n 1, 1) := by decide +kernel
theorem dX5_unlike_65 : decode cX5_unlike 65 = .ok (.ireturn, 1) := by decide +kernel
set_option maxRecDepth 100000 in
set_option maxHeartbeats 4000000 in
theorem k_X5_unlike (κ : Kp) (xa : Nat → Nat → Nat) (X : XS)  (ok : okC (cl (X 0))) : mI κ yX5_unlike cX5_unlike 5 .int 2 [.ref (xa 18 100)] (xw κ xa X) (qX κ xa X (qUnlike (X 0 2))) := by
  refine mI_of (by decide) (Nat.le_of_ble_eq_true rfl) (fun E F K => ?_)
  refine g_lv (lv' := [(0, .ref (xa 18 100))]) rfl ?_
  refine g_iconst F dX5_unlike_0 ?_
  refine g_istore_n F (lv' := [(1, .int (iI 0)), (0, .ref (xa 18 100))]) 1 dX5_unlike_1 rfl (by decide) rfl ?_
  refine g_iconst F dX5_unlike_2 ?_
  refine g_istore_n F (lv' := [(2, .int (iI 0)), (1, .int (iI 0)), (0, .ref (xa 18 100))]) 2 dX5_unlike_3 rfl (by decide) rfl ?_
  have L4 : ∀ (mz4 : Nat) (c : Int) (s : Int), (12 - c).toNat = mz4 → (0 ≤ c ∧ c ≤ 12) → (s = sumI (fun c => unI (X 0 2) c c) c) → (0 ≤ s ∧ s ≤ c) → G E (xw κ xa X) [(2, .int (iI c)), (1, .int (iI s)), (0, .ref (xa 18 100))] 4 [] := by
    intro mz4
    induction mz4 using Nat.strongRecOn with
    | _ mz4 ih4 =>
    intro c s hmz4 hc hs hsb
    refine g_iload_n F 0 dX5_unlike_4 rfl ?_
    refine g_bipush F dX5_unlike_5 (by decide +kernel) ?_
    refine g_icmp_ge F 64 (by omega) dX5_unlike_7 (by decide) (fun c7 => ?_) (fun c7 => ?_)
    · skip
      refine g_iload_n F 1 dX5_unlike_64 rfl ?_
      have hq : s = qUnlike (X 0 2) := by rw [hs, show c = 12 by omega]; rfl
      exact K xw_same ⟨_, rfl, iIc hq, sX_0, (by rw [← hq]; exact (rfa_n (by omega)).symm)⟩ rfl dX5_unlike_65
    · skip
      refine g_iconst F dX5_unlike_10 ?_
      refine g_istore_n F (lv' := [(3, .int (iI 1)), (2, .int (iI c)), (1, .int (iI s)), (0, .ref (xa 18 100))]) 3 dX5_unlike_11 rfl (by decide) rfl ?_
      refine g_iconst F dX5_unlike_12 ?_
      refine g_istore F (lv' := [(4, .int (iI 0)), (3, .int (iI 1)), (2, .int (iI c)), (1, .int (iI s)), (0, .ref (xa 18 100))]) dX5_unlike_13 (by decide) rfl ?_
      have L15 : ∀ (mz15 : Nat) (o : Int) (f : Int), (c - o).toNat = mz15 → (0 ≤ o ∧ o ≤ c) → (f = unI (X 0 2) c o) → (0 ≤ f ∧ f ≤ 1) → G E (xw κ xa X) [(4, .int (iI o)), (3, .int (iI f)), (2, .int (iI c)), (1, .int (iI s)), (0, .ref (xa 18 100))] 15 [] := by
        intro mz15
        induction mz15 using Nat.strongRecOn with
        | _ mz15 ih15 =>
        intro o f hmz15 ho hf hfb
        refine g_iload F 0 dX5_unlike_15 rfl ?_
        refine g_iload_n F 2 dX5_unlike_17 rfl ?_
        refine g_icmp_ge F 51 (by omega) dX5_unlike_18 (by decide) (fun c18 => ?_) (fun c18 => ?_)
        · skip
          refine g_iload_n F 1 dX5_unlike_51 rfl ?_
          refine g_if_eq F 58 (by omega) dX5_unlike_52 (by decide) (fun c52 => ?_) (fun c52 => ?_)
          · skip
            refine g_iinc F (lv' := [(2, .int (iI (c + 1))), (4, .int (iI o)), (3, .int (iI f)), (1, .int (iI s)), (0, .ref (xa 18 100))]) 2 dX5_unlike_58 rfl (by decide) rfl ?_
            refine g_goto F 4 dX5_unlike_61 (by decide) ?_
            refine g_sub F (lv' := [(2, .int (iI (c + 1))), (1, .int (iI s)), (0, .ref (xa 18 100))]) [0, 3, 4] rfl ?_
            exact ih4 _ (by omega) (c + 1) s rfl (by omega) (by rw [sumI_s _ hc.1, ← hs]; show _ = s + unI (X 0 2) c c; rw [show unI (X 0 2) c c = f by rw [hf, show o = c by omega]]; omega) (by omega)
          · skip
            refine g_iinc F (lv' := [(1, .int (iI (s + 1))), (4, .int (iI o)), (3, .int (iI f)), (2, .int (iI c)), (0, .ref (xa 18 100))]) 3 dX5_unlike_55 rfl (by decide) rfl ?_
            refine g_iinc F (lv' := [(2, .int (iI (c + 1))), (1, .int (iI (s + 1))), (4, .int (iI o)), (3, .int (iI f)), (0, .ref (xa 18 100))]) 3 dX5_unlike_58 rfl (by decide) rfl ?_
            refine g_goto F 4 dX5_unlike_61 (by decide) ?_
            refine g_sub F (lv' := [(2, .int (iI (c + 1))), (1, .int (iI (s + 1))), (0, .ref (xa 18 100))]) [0, 1, 4] rfl ?_
            exact ih4 _ (by omega) (c + 1) (s + 1) rfl (by omega) (by rw [sumI_s _ hc.1, ← hs]; show _ = s + unI (X 0 2) c c; rw [show unI (X 0 2) c c = f by rw [hf, show o = c by omega]]; omega) (by omega)
        · skip
          have h1 : 0 ≤ X 0 2 o ∧ X 0 2 o ≤ 99 := ok.a o (by omega) (by omega)
          have h2 : 0 ≤ X 0 2 c ∧ X 0 2 c ≤ 99 := ok.a c (by omega) (by omega)
          refine g_aload_n F 4 dX5_unlike_21 rfl ?_
          refine g18_get_0 F  lf_X5_10 dX5_unlike_22 ?_
          refine gc_getN_2 F (o := 0) (by decide) nf_X5_175 dX5_unlike_25 ?_
          refine g_iload F 0 dX5_unlike_28 rfl ?_
          refine gc_ald_2 F (o := 0) (by decide) (by omega) dX5_unlike_30 ?_
          refine g_aload_n F 4 dX5_unlike_31 rfl ?_
          refine g18_get_0 F  lf_X5_10 dX5_unlike_32 ?_
          refine gc_getN_2 F (o := 0) (by decide) nf_X5_175 dX5_unlike_35 ?_
          refine g_iload_n F 2 dX5_unlike_38 rfl ?_
          refine gc_ald_2 F (o := 0) (by decide) (by omega) dX5_unlike_39 ?_
          refine g_icmp_ne F 45 (by omega) dX5_unlike_40 (by decide) (fun c40 => ?_) (fun c40 => ?_)
          · skip
            refine g_iinc F (lv' := [(4, .int (iI (o + 1))), (3, .int (iI f)), (2, .int (iI c)), (1, .int (iI s)), (0, .ref (xa 18 100))]) 0 dX5_unlike_45 rfl (by decide) rfl ?_
            refine g_goto F 15 dX5_unlike_48 (by decide) ?_
            refine g_sub F (lv' := [(4, .int (iI (o + 1))), (3, .int (iI f)), (2, .int (iI c)), (1, .int (iI s)), (0, .ref (xa 18 100))]) [0, 1, 2, 3, 4] rfl ?_
            exact ih15 _ (by omega) (o + 1) f rfl (by omega) (by rw [unI_s _ _ ho.1, ← hf]; split <;> omega) (by omega)
          · skip
            refine g_iconst F dX5_unlike_43 ?_
            refine g_istore_n F (lv' := [(3, .int (iI 0)), (4, .int (iI o)), (2, .int (iI c)), (1, .int (iI s)), (0, .ref (xa 18 100))]) 3 dX5_unlike_44 rfl (by decide) rfl ?_
            refine g_iinc F (lv' := [(4, .int (iI (o + 1))), (3, .int (iI 0)), (2, .int (iI c)), (1, .int (iI s)), (0, .ref (xa 18 100))]) 1 dX5_unlike_45 rfl (by decide) rfl ?_
            refine g_goto F 15 dX5_unlike_48 (by decide) ?_
            refine g_sub F (lv' := [(4, .int (iI (o + 1))), (3, .int (iI 0)), (2, .int (iI c)), (1, .int (iI s)), (0, .ref (xa 18 100))]) [0, 1, 2, 3, 4] rfl ?_
            exact ih15 _ (by omega) (o + 1) 0 rfl (by omega) (by rw [unI_s _ _ ho.1, ← hf]; split <;> omega) (by omega)
      refine g_sub F (lv' := [(4, .int (iI 0)), (3, .int (iI 1)), (2, .int (iI c)), (1, .int (iI s)), (0, .ref (xa 18 100))]) [0, 1, 2, 3, 4] rfl ?_
      exact L15 _ 0 1 rfl (by omega) rfl (by omega)
  refine g_sub F (lv' := [(2, .int (iI 0)), (1, .int (iI 0)), (0, .ref (xa 18 100))]) [0, 1, 2] rfl ?_
  exact L4 _ 0 0 rfl (by omega) rfl (by omega)
