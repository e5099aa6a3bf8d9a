theorem dX6_turns_0 : decode cX6_turns 0 = .ok (.aload_n 0, 1) := by decide +kernel
theorem dX6_turns_1 : decode cX6_turns 1 = .ok (.iconst 0, 1) := by decide +kernel
theorem dX6_turns_2 : decode cX6_turns 2 = .ok (.putfield 91, 3) := by decide +kernel
theorem dX6_turns_5 : decode cX6_turns 5 = .ok (.aload_n 0, 1) := by decide +kernel
theorem dX6_turns_6 : decode cX6_turns 6 = .ok (.invokevirtual 267, 3) := by decide +kernel
theorem dX6_turns_9 : decode cX6_turns 9 = .ok (.iload_n 1, 1) := by decide +kernel
theorem dX6_turns_10 : decode cX6_turns 10 = .ok (.i2l, 1) := by decide +kernel
theorem dX6_turns_11 : decode cX6_turns 11 = .ok (.lconst 0, 1) := by decide +kernel
theorem dX6_turns_12 : decode cX6_turns 12 = .ok (.lconst 1, 1) := by decide +kernel
theorem dX6_turns_13 : decode cX6_turns 13 = .ok (.invokestatic 97, 3) := by decide +kernel
theorem dX6_turns_16 : decode cX6_turns 16 = .ok (.ifCond .ne 8, 3) := by decide +kernel
theorem dX6_turns_19 : decode cX6_turns 19 = .ok (.bipush (-2), 2) := by decide +kernel
theorem dX6_turns_21 : decode cX6_turns 21 = .ok (.goto 17, 3) := by decide +kernel
theorem dX6_turns_24 : decode cX6_turns 24 = .ok (.aload_n 0, 1) := by decide +kernel
theorem dX6_turns_25 : decode cX6_turns 25 = .ok (.getfield 264, 3) := by decide +kernel
theorem dX6_turns_28 : decode cX6_turns 28 = .ok (.iconst 3, 1) := by decide +kernel
theorem dX6_turns_29 : decode cX6_turns 29 = .ok (.if_icmp .le 8, 3) := by decide +kernel
theorem dX6_turns_32 : decode cX6_turns 32 = .ok (.bipush (-3), 2) := by decide +kernel
theorem dX6_turns_34 : decode cX6_turns 34 = .ok (.goto 4, 3) := by decide +kernel
theorem dX6_turns_37 : decode cX6_turns 37 = .ok (.iconst 0, 1) := by decide +kernel
theorem dX6_turns_38 : decode cX6_turns 38 = .ok (.istore_n 2, 1) := by decide +kernel
theorem dX6_turns_39 : decode cX6_turns 39 = .ok (.iload_n 2, 1) := by decide +kernel
theorem dX6_turns_40 : decode cX6_turns 40 = .ok (.ifCond .ge 9, 3) := by decide +kernel
theorem dX6_turns_43 : decode cX6_turns 43 = .ok (.aload_n 0, 1) := by decide +kernel
theorem dX6_turns_44 : decode cX6_turns 44 = .ok (.iload_n 2, 1) := by decide +kernel
theorem dX6_turns_45 : decode cX6_turns 45 = .ok (.invokevirtual 138, 3) := by decide +kernel
theorem dX6_turns_48 : decode cX6_turns 48 = .ok (.ireturn, 1) := by decide +kernel
theorem dX6_turns_49 : decode cX6_turns 49 = .ok (.aload_n 0, 1) := by decide +kernel
theorem dX6_turns_50 : decode cX6_turns 50 = .ok (.getfield 264, 3) := by decide +kernel
theorem dX6_turns_53 : decode cX6_turns 53 = .ok (.ifCond .ne 6, 3) := by decide +kernel
theorem dX6_turns_56 : decode cX6_turns 56 = .ok (.bipush (-9), 2) := by decide +kernel
theorem dX6_turns_58 : decode cX6_turns 58 = .ok (.ireturn, 1) := by decide +kernel
theorem dX6_turns_59 : decode cX6_turns 59 = .ok (.aload_n 0, 1) := by decide +kernel
theorem dX6_turns_60 : decode cX6_turns 60 = .ok (.invokevirtual 191, 3) := by decide +kernel
theorem dX6_turns_63 : decode cX6_turns 63 = .ok (.aload_n 0, 1) := by decide +kernel
theorem dX6_turns_64 : decode cX6_turns 64 = .ok (.invokevirtual 292, 3) := by decide +kernel
theorem dX6_turns_67 : decode cX6_turns 67 = .ok (.iload_n 1, 1) := by decide +kernel
theorem dX6_turns_68 : decode cX6_turns 68 = .ok (.ifCond .ne 12, 3) := by decide +kernel
theorem dX6_turns_71 : decode cX6_turns 71 = .ok (.aload_n 0, 1) := by decide +kernel
theorem dX6_turns_72 : decode cX6_turns 72 = .ok (.getfield 76, 3) := by decide +kernel
theorem dX6_turns_75 : decode cX6_turns 75 = .ok (.iconst 0, 1) := by decide +kernel
theorem dX6_turns_76 : decode cX6_turns 76 = .ok (.iaload, 1) := by decide +kernel
theorem dX6_turns_77 : decode cX6_turns 77 = .ok (.goto 26, 3) := by decide +kernel
theorem dX6_turns_80 : decode cX6_turns 80 = .ok (.bipush 100, 2) := by decide +kernel
theorem dX6_turns_82 : decode cX6_turns 82 = .ok (.aload_n 0, 1) := by decide +kernel
theorem dX6_turns_83 : decode cX6_turns 83 = .ok (.getfield 64, 3) := by decide +kernel
theorem dX6_turns_86 : decode cX6_turns 86 = .ok (.aload_n 0, 1) := by decide +kernel
theorem dX6_turns_87 : decode cX6_turns 87 = .ok (.getfield 276, 3) := by decide +kernel
theorem dX6_turns_90 : decode cX6_turns 90 = .ok (.bipush 12, 2) := by decide +kernel
theorem dX6_turns_92 : decode cX6_turns 92 = .ok (.idiv, 1) := by decide +kernel
theorem dX6_turns_93 : decode cX6_turns 93 = .ok (.iaload, 1) := by decide +kernel
theorem dX6_turns_94 : decode cX6_turns 94 = .ok (.imul, 1) := by decide +kernel
theorem dX6_turns_95 : decode cX6_turns 95 = .ok (.aload_n 0, 1) := by decide +kernel
theorem dX6_turns_96 : decode cX6_turns 96 = .ok (.getfield 276, 3) := by decide +kernel
theorem dX6_turns_99 : decode cX6_turns 99 = .ok (.bipush 12, 2) := by decide +kernel
theorem dX6_turns_101 : decode cX6_turns 101 = .ok (.irem, 1) := by decide +kernel
theorem dX6_turns_102 : decode cX6_turns 102 = .ok (.iadd, 1) := by decide +kernel
theorem dX6_turns_103 : decode cX6_turns 103 = .ok (.ireturn, 1) := by decide +kernel
set_option maxRecDepth 100000 in
set_option maxHeartbeats 4000000 in
theorem k_X6_turns (κ : Kp) (ma : Nat → Nat) (M : MS) (w : Int)  (ha_w : In32 w) (ok : okC (cl M)) (hy : M 4 0 ≤ 999) (okr : okR M) : mI κ yX6_turns cX6_turns 3 .int 6 [.ref (ma 100), .int (iI w)] (mw κ ma M) (qM κ ma M (qTurns (cl M) (M 6) (M 7) (M 8) (M 9) (M 5 0) w)) := by
  refine mI_of (by decide) (Nat.le_of_ble_eq_true rfl) (fun E F K => ?_)
  refine g_lv (lv' := [(0, .ref (ma 100)), (1, .int (iI w))]) rfl ?_
  refine g_aload_n F 0 dX6_turns_0 rfl ?_
  refine g_iconst F dX6_turns_1 ?_
  refine gm_put_10 F dX6_turns_2 ?_
  have hn := okr.1
  refine g_aload_n F 0 dX6_turns_5 rfl ?_
  obtain ⟨n, hnn⟩ : ∃ n : Int, n = frc (M 9) (M 5 0) := ⟨_, rfl⟩
  obtain ⟨fr, hfr⟩ : ∃ fr : Int → Int, fr = flA (M 30) (M 9) (M 5 0) := ⟨_, rfl⟩
  have hnb := frc_bd (M 9) hn.1
  have hF : isFr fr (M 9) (M 5 0) := by rw [hfr]; exact isFr_fl _ _ hn.1
  have hfE : ∀ i : Int, 0 ≤ i → i < n → fr i = frP (M 9) (M 5 0) i := fun i a b => isFr_eq hF (isFr_fl _ _ hn.1) i a (by omega)
  have hpr : ∀ i : Int, 0 ≤ i → i < n → (0 ≤ M 6 (fr i) ∧ M 6 (fr i) ≤ 5) ∧ (0 ≤ M 7 (fr i) ∧ M 7 (fr i) ≤ 9) ∧ 0 ≤ M 8 (fr i) ∧ M 8 (fr i) ≤ 99 := fun i a b => by have q := hF.1 i a (by omega); have r := okr.2 (fr i) q.1.1 (by omega); omega
  have hf6 : ∀ i : Int, 0 ≤ i → i < n → 0 ≤ fr i ∧ fr i < 6 := fun i a b => by have q := (hF.1 i a (by omega)).1; omega
  have hlf : okL (leaf (cl M) (M 6) (M 7) (M 8) fr n) := fun a => allPull_bd (asC_ok ok hpr).A
  refine g_callV F (stk := [.ref (ma 100)]) (st := []) (k_X6_layFree κ ma (mA M 10 (fun _ => 0)) okr) cal_X6_layFree lm_X6_267 0 rfl rfl rfl rfl (by decide) rfl (Nat.le_of_ble_eq_true rfl) dX6_turns_6 (fun ws6 _ hr6 => ?_)
  obtain rfl := hr6
  refine g_ws (ws' := mw κ ma (mA (mA (mA M 10 (fun _ => 0)) 31 (fun _ => frc (M 9) (M 5 0))) 30 (flA (M 30) (M 9) (M 5 0)))) rfl ?_
  refine g_ws (ws' := mw κ ma (mA (mA (mA M 10 (fun _ => 0)) 31 (fun _ => n)) 30 fr)) (by rw [hnn, hfr]) ?_
  refine g_iload_n F 1 dX6_turns_9 rfl ?_
  refine g_i2l F (by omega) dX6_turns_10 ?_
  refine g_lconst F (z := 0) dX6_turns_11 rfl ?_
  refine g_lconst F (z := 1) dX6_turns_12 rfl ?_
  refine g_callSI F (stk := [.long (iL 1), .long (iL 0), .long (iL w)]) (st := []) (k_X6_in κ (mw κ ma (mA (mA (mA M 10 (fun _ => 0)) 31 (fun _ => n)) 30 fr)) w 0 1 (by omega)) cal_X6_in lm_X6_97 rfl (by decide) rfl (Nat.le_of_ble_eq_true rfl) dX6_turns_13 (fun r13 ws13 _ hr13 => ?_)
  obtain ⟨rfl, rfl⟩ := hr13
  refine g_if_ne F 24 (b2i_in _) dX6_turns_16 (by decide) (fun c16 => ?_) (fun c16 => ?_)
  · skip
    have c16 : 0 ≤ w ∧ w ≤ 1 := b2i_t c16
    refine g_aload_n F 0 dX6_turns_24 rfl ?_
    refine gm_get_31 F dX6_turns_25 ?_
    refine g_top (y := iI n) rfl ?_
    refine g_iconst F dX6_turns_28 ?_
    refine g_icmp_le F 37 (by omega) dX6_turns_29 (by decide) (fun c29 => ?_) (fun c29 => ?_)
    · skip
      refine g_iconst F dX6_turns_37 ?_
      refine g_istore_n F (lv' := [(2, .int (iI 0)), (0, .ref (ma 100)), (1, .int (iI w))]) 2 dX6_turns_38 rfl (by decide) rfl ?_
      refine g_iload_n F 0 dX6_turns_39 rfl ?_
      refine g_if_ge F 49 (by omega) dX6_turns_40 (by decide) (fun c40 => ?_) (fun c40 => ?_)
      · skip
        refine g_aload_n F 1 dX6_turns_49 rfl ?_
        refine gm_get_31 F dX6_turns_50 ?_
        refine g_top (y := iI n) rfl ?_
        refine g_if_ne F 59 (by omega) dX6_turns_53 (by decide) (fun c53 => ?_) (fun c53 => ?_)
        · skip
          refine g_aload_n F 1 dX6_turns_59 rfl ?_
          refine g_callV F (stk := [.ref (ma 100)]) (st := []) (k_X6_think κ ma (mA (mA (mA M 10 (fun _ => 0)) 31 (fun _ => n)) 30 fr)) cal_X6_think lm_X6_191 0 rfl rfl rfl rfl (by decide) rfl (Nat.le_of_ble_eq_true rfl) dX6_turns_60 (fun ws60 _ hr60 => ?_)
          obtain rfl := hr60
          refine g_ws (ws' := mw κ ma (thk (mA (mA (mA M 10 (fun _ => 0)) 31 (fun _ => n)) 30 fr))) rfl ?_
          refine g_aload_n F 1 dX6_turns_63 rfl ?_
          refine g_callV F (stk := [.ref (ma 100)]) (st := []) (k_X6_playAll κ ma (thk (mA (mA (mA M 10 (fun _ => 0)) 31 (fun _ => n)) 30 fr)) M (fun z _ _ => by show snapF (mA (mA (mA M 10 (fun _ => 0)) 31 (fun _ => n)) 30 fr) z = _; rw [snapF_mA (by decide), snapF_mA (by decide), snapF_mA (by decide)]) (show 1 ≤ n ∧ n ≤ 3 by omega) hf6 ok hpr) cal_X6_playAll lm_X6_292 0 rfl rfl rfl rfl (by decide) rfl (Nat.le_of_ble_eq_true rfl) dX6_turns_64 (fun ws64 _ hr64 => ?_)
          obtain ⟨T, Wt, ft, Gm, rfl, hW, hft⟩ := hr64
          have hW : Wt 0 = (pr0 (leaf (cl M) (M 6) (M 7) (M 8) fr n) n (12 * n)).2 := hW
          have hft : ft = (pr0 (leaf (cl M) (M 6) (M 7) (M 8) fr n) n (12 * n)).1 := hft
          have hpi := pr0_in hlf (n := n) (by omega) (by omega)
          rw [← hW, ← hft] at hpi
          have hf7 := hf6 (ft / 12) (by omega) (by omega)
          refine g_iload_n F 2 dX6_turns_67 rfl ?_
          refine g_if_ne F 80 (by omega) dX6_turns_68 (by decide) (fun c68 => ?_) (fun c68 => ?_)
          · skip
            refine g_bipush F dX6_turns_80 (by decide +kernel) ?_
            refine g_aload_n F 1 dX6_turns_82 rfl ?_
            refine gm_get_30 F dX6_turns_83 ?_
            refine g_aload_n F 1 dX6_turns_86 rfl ?_
            refine gm_get_36 F dX6_turns_87 ?_
            refine g_top (y := iI ft) rfl ?_
            refine g_bipush F dX6_turns_90 (by decide +kernel) ?_
            refine g_idiv F dX6_turns_92 (by omega) ?_
            refine gm_ald_30 F (by omega) dX6_turns_93 ?_
            refine g_top (y := iI (fr (ft / 12))) rfl ?_
            refine g_imul F dX6_turns_94 ?_
            refine g_aload_n F 1 dX6_turns_95 rfl ?_
            refine gm_get_36 F dX6_turns_96 ?_
            refine g_top (y := iI ft) rfl ?_
            refine g_bipush F dX6_turns_99 (by decide +kernel) ?_
            refine g_irem F dX6_turns_101 (by omega) ?_
            refine g_iadd F dX6_turns_102 ?_
            rw [leaf_fr _ _ _ _ hfE] at hW hft
            have hq : (100 * (fr (ft / 12))) + (ft % 12) = qTurns (cl M) (M 6) (M 7) (M 8) (M 9) (M 5 0) w := by unfold qTurns; rw [if_neg (by omega), ← hnn, if_neg (by omega), if_neg (by omega)]; first | (rw [if_pos (by omega)]; exact hW) | (rw [if_neg (by omega), ← hft, hfE _ (by omega) (by omega)])
            exact K mw_same ⟨_, rfl, iIc hq, ⟨rfl, rfl, rfl, rfl, rfl, rfl, rfl, rfl, rfl, rfl, rfl, rfl, rfl, rfl, rfl, rfl, rfl, rfl⟩, (by rw [← hq]; show M 11 = _; exact (rfa_n (by omega)).symm)⟩ rfl dX6_turns_103
          · skip
            refine g_aload_n F 1 dX6_turns_71 rfl ?_
            refine gm_get_35 F dX6_turns_72 ?_
            refine g_iconst F dX6_turns_75 ?_
            refine gm_ald_35 F (by omega) dX6_turns_76 ?_
            refine g_top (y := iI (Wt 0)) rfl ?_
            refine g_goto F 103 dX6_turns_77 (by decide) ?_
            rw [leaf_fr _ _ _ _ hfE] at hW hft
            have hq : Wt 0 = qTurns (cl M) (M 6) (M 7) (M 8) (M 9) (M 5 0) w := by unfold qTurns; rw [if_neg (by omega), ← hnn, if_neg (by omega), if_neg (by omega)]; first | (rw [if_pos (by omega)]; exact hW) | (rw [if_neg (by omega), ← hft, hfE _ (by omega) (by omega)])
            exact K mw_same ⟨_, rfl, iIc hq, ⟨rfl, rfl, rfl, rfl, rfl, rfl, rfl, rfl, rfl, rfl, rfl, rfl, rfl, rfl, rfl, rfl, rfl, rfl⟩, (by rw [← hq]; show M 11 = _; exact (rfa_n (by omega)).symm)⟩ rfl dX6_turns_103
        · skip
          refine g_bipush F dX6_turns_56 (by decide +kernel) ?_
          have hq : -9 = qTurns (cl M) (M 6) (M 7) (M 8) (M 9) (M 5 0) w := by unfold qTurns; (repeat' split) <;> omega
          exact K mw_same ⟨_, rfl, iIc hq, ⟨rfl, rfl, rfl, rfl, rfl, rfl, rfl, rfl, rfl, rfl, rfl, rfl, rfl, rfl, rfl, rfl, rfl, rfl⟩, (by rw [← hq]; show M 11 = _; exact (rfa_n (by omega)).symm)⟩ rfl dX6_turns_58
      · skip
        exact absurd trivial (by omega)
    · skip
      refine g_bipush F dX6_turns_32 (by decide +kernel) ?_
      refine g_goto F 38 dX6_turns_34 (by decide) ?_
      refine g_istore_n F (lv' := [(2, .int (iI (-3))), (0, .ref (ma 100)), (1, .int (iI w))]) 2 dX6_turns_38 rfl (by decide) rfl ?_
      refine g_iload_n F 0 dX6_turns_39 rfl ?_
      refine g_if_ge F 49 (by omega) dX6_turns_40 (by decide) (fun c40 => ?_) (fun c40 => ?_)
      · skip
        exact absurd trivial (by omega)
      · skip
        refine g_aload_n F 1 dX6_turns_43 rfl ?_
        refine g_iload_n F 0 dX6_turns_44 rfl ?_
        refine g_callI F (stk := [.int (iI (-3)), .ref (ma 100)]) (st := []) (k_X6_refuse κ ma (mA (mA (mA M 10 (fun _ => 0)) 31 (fun _ => n)) 30 fr) (-3) (by omega)) cal_X6_refuse lm_X6_138 0 rfl rfl rfl rfl (by decide) rfl (Nat.le_of_ble_eq_true rfl) dX6_turns_45 (fun r45 ws45 _ hr45 => ?_)
        obtain ⟨rfl, rfl⟩ := hr45
        refine g_top (y := iI (-3)) rfl ?_
        refine g_ws (ws' := mw κ ma (mA (mA (mA (mA M 10 (fun _ => 0)) 31 (fun _ => n)) 30 fr) 11 (uI (M 11) (-(-3)) (M 11 (-(-3)) + 1)))) rfl ?_
        have hq : (-3) = qTurns (cl M) (M 6) (M 7) (M 8) (M 9) (M 5 0) w := by unfold qTurns; (repeat' split) <;> omega
        exact K mw_same ⟨_, rfl, iIc hq, ⟨rfl, rfl, rfl, rfl, rfl, rfl, rfl, rfl, rfl, rfl, rfl, rfl, rfl, rfl, rfl, rfl, rfl, rfl⟩, (by rw [← hq]; exact (rfa_r (by omega)).symm)⟩ rfl dX6_turns_48
  · skip
    have c16 : ¬ (0 ≤ w ∧ w ≤ 1) := b2i_f c16
    refine g_bipush F dX6_turns_19 (by decide +kernel) ?_
    refine g_goto F 38 dX6_turns_21 (by decide) ?_
    refine g_istore_n F (lv' := [(2, .int (iI (-2))), (0, .ref (ma 100)), (1, .int (iI w))]) 2 dX6_turns_38 rfl (by decide) rfl ?_
    refine g_iload_n F 0 dX6_turns_39 rfl ?_
    refine g_if_ge F 49 (by omega) dX6_turns_40 (by decide) (fun c40 => ?_) (fun c40 => ?_)
    · skip
      exact absurd trivial (by omega)
    · skip
      refine g_aload_n F 1 dX6_turns_43 rfl ?_
      refine g_iload_n F 0 dX6_turns_44 rfl ?_
      refine g_callI F (stk := [.int (iI (-2)), .ref (ma 100)]) (st := []) (k_X6_refuse κ ma (mA (mA (mA M 10 (fun _ => 0)) 31 (fun _ => n)) 30 fr) (-2) (by omega)) cal_X6_refuse lm_X6_138 0 rfl rfl rfl rfl (by decide) rfl (Nat.le_of_ble_eq_true rfl) dX6_turns_45 (fun r45 ws45 _ hr45 => ?_)
      obtain ⟨rfl, rfl⟩ := hr45
      refine g_top (y := iI (-2)) rfl ?_
      refine g_ws (ws' := mw κ ma (mA (mA (mA (mA M 10 (fun _ => 0)) 31 (fun _ => n)) 30 fr) 11 (uI (M 11) (-(-2)) (M 11 (-(-2)) + 1)))) rfl ?_
      have hq : (-2) = qTurns (cl M) (M 6) (M 7) (M 8) (M 9) (M 5 0) w := by unfold qTurns; (repeat' split) <;> omega
      exact K mw_same ⟨_, rfl, iIc hq, ⟨rfl, rfl, rfl, rfl, rfl, rfl, rfl, rfl, rfl, rfl, rfl, rfl, rfl, rfl, rfl, rfl, rfl, rfl⟩, (by rw [← hq]; exact (rfa_r (by omega)).symm)⟩ rfl dX6_turns_48
