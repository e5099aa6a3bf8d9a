theorem pl_at {C : Cl} {pk pf pa fr : Int → Int} {n b l : Int} (h : sPl C pk pf pa fr n (pwT n) = (b, l)) (hl : l ≤ 3000) : (0 ≤ b ∧ b < pwT n) ∧ apP (dgA n b) n ∧ l = leaf C pk pf pa fr n (dgA n b) := by
  have hp := pwT_bd n
  have k := smn_at (ok := fun k => decide (apP (dgA n k) n)) (f := fun k => leaf C pk pf pa fr n (dgA n k)) (pwT n).toNat
  have e : smnN (fun k => decide (apP (dgA n k) n)) (fun k => leaf C pk pf pa fr n (dgA n k)) (fun k => k) (0, MAXI) (pwT n).toNat = (b, l) := h
  rw [e] at k
  rcases k with k | ⟨k1, k2, k3⟩
  · have q : l = MAXI := congrArg Prod.snd k
    have hm : MAXI = 2147483647 := rfl
    omega
  · have q1 : 0 ≤ b ∧ b < ((pwT n).toNat : Int) := k1
    exact ⟨⟨q1.1, by omega⟩, of_decide_eq_true k2, k3⟩
theorem dX5_placed_0 : decode cX5_placed 0 = .ok (.iload_n 1, 1) := by decide +kernel
theorem dX5_placed_1 : decode cX5_placed 1 = .ok (.iconst (-1), 1) := by decide +kernel
theorem dX5_placed_2 : decode cX5_placed 2 = .ok (.if_icmp .eq 20, 3) := by decide +kernel
theorem dX5_placed_5 : decode cX5_placed 5 = .ok (.aload_n 0, 1) := by decide +kernel
theorem dX5_placed_6 : decode cX5_placed 6 = .ok (.getfield 19, 3) := by decide +kernel
theorem dX5_placed_9 : decode cX5_placed 9 = .ok (.iload_n 1, 1) := by decide +kernel
theorem dX5_placed_10 : decode cX5_placed 10 = .ok (.invokevirtual 190, 3) := by decide +kernel
theorem dX5_placed_13 : decode cX5_placed 13 = .ok (.ifCond .ne 9, 3) := by decide +kernel
theorem dX5_placed_16 : decode cX5_placed 16 = .ok (.aload_n 0, 1) := by decide +kernel
theorem dX5_placed_17 : decode cX5_placed 17 = .ok (.iconst (-1), 1) := by decide +kernel
theorem dX5_placed_18 : decode cX5_placed 18 = .ok (.invokevirtual 69, 3) := by decide +kernel
theorem dX5_placed_21 : decode cX5_placed 21 = .ok (.ireturn, 1) := by decide +kernel
theorem dX5_placed_22 : decode cX5_placed 22 = .ok (.aload_n 0, 1) := by decide +kernel
theorem dX5_placed_23 : decode cX5_placed 23 = .ok (.getfield 19, 3) := by decide +kernel
theorem dX5_placed_26 : decode cX5_placed 26 = .ok (.invokevirtual 235, 3) := by decide +kernel
theorem dX5_placed_29 : decode cX5_placed 29 = .ok (.iconst 3, 1) := by decide +kernel
theorem dX5_placed_30 : decode cX5_placed 30 = .ok (.if_icmp .le 10, 3) := by decide +kernel
theorem dX5_placed_33 : decode cX5_placed 33 = .ok (.aload_n 0, 1) := by decide +kernel
theorem dX5_placed_34 : decode cX5_placed 34 = .ok (.bipush (-3), 2) := by decide +kernel
theorem dX5_placed_36 : decode cX5_placed 36 = .ok (.invokevirtual 69, 3) := by decide +kernel
theorem dX5_placed_39 : decode cX5_placed 39 = .ok (.ireturn, 1) := by decide +kernel
theorem dX5_placed_40 : decode cX5_placed 40 = .ok (.aload_n 0, 1) := by decide +kernel
theorem dX5_placed_41 : decode cX5_placed 41 = .ok (.getfield 19, 3) := by decide +kernel
theorem dX5_placed_44 : decode cX5_placed 44 = .ok (.invokevirtual 235, 3) := by decide +kernel
theorem dX5_placed_47 : decode cX5_placed 47 = .ok (.ifCond .eq 18, 3) := by decide +kernel
theorem dX5_placed_50 : decode cX5_placed 50 = .ok (.iload_n 1, 1) := by decide +kernel
theorem dX5_placed_51 : decode cX5_placed 51 = .ok (.ifCond .lt 17, 3) := by decide +kernel
theorem dX5_placed_54 : decode cX5_placed 54 = .ok (.aload_n 0, 1) := by decide +kernel
theorem dX5_placed_55 : decode cX5_placed 55 = .ok (.getfield 19, 3) := by decide +kernel
theorem dX5_placed_58 : decode cX5_placed 58 = .ok (.iload_n 1, 1) := by decide +kernel
theorem dX5_placed_59 : decode cX5_placed 59 = .ok (.invokevirtual 150, 3) := by decide +kernel
theorem dX5_placed_62 : decode cX5_placed 62 = .ok (.ifCond .ne 6, 3) := by decide +kernel
theorem dX5_placed_65 : decode cX5_placed 65 = .ok (.bipush (-9), 2) := by decide +kernel
theorem dX5_placed_67 : decode cX5_placed 67 = .ok (.ireturn, 1) := by decide +kernel
theorem dX5_placed_68 : decode cX5_placed 68 = .ok (.aload_n 0, 1) := by decide +kernel
theorem dX5_placed_69 : decode cX5_placed 69 = .ok (.getfield 62, 3) := by decide +kernel
theorem dX5_placed_72 : decode cX5_placed 72 = .ok (.aload_n 0, 1) := by decide +kernel
theorem dX5_placed_73 : decode cX5_placed 73 = .ok (.getfield 19, 3) := by decide +kernel
theorem dX5_placed_76 : decode cX5_placed 76 = .ok (.invokevirtual 238, 3) := by decide +kernel
theorem dX5_placed_79 : decode cX5_placed 79 = .ok (.aload_n 0, 1) := by decide +kernel
theorem dX5_placed_80 : decode cX5_placed 80 = .ok (.getfield 62, 3) := by decide +kernel
theorem dX5_placed_83 : decode cX5_placed 83 = .ok (.aload_n 0, 1) := by decide +kernel
theorem dX5_placed_84 : decode cX5_placed 84 = .ok (.getfield 10, 3) := by decide +kernel
theorem dX5_placed_87 : decode cX5_placed 87 = .ok (.aload_n 0, 1) := by decide +kernel
theorem dX5_placed_88 : decode cX5_placed 88 = .ok (.getfield 19, 3) := by decide +kernel
theorem dX5_placed_91 : decode cX5_placed 91 = .ok (.aload_n 0, 1) := by decide +kernel
theorem dX5_placed_92 : decode cX5_placed 92 = .ok (.getfield 50, 3) := by decide +kernel
theorem dX5_placed_95 : decode cX5_placed 95 = .ok (.invokevirtual 241, 3) := by decide +kernel
theorem dX5_placed_98 : decode cX5_placed 98 = .ok (.aload_n 0, 1) := by decide +kernel
theorem dX5_placed_99 : decode cX5_placed 99 = .ok (.getfield 62, 3) := by decide +kernel
theorem dX5_placed_102 : decode cX5_placed 102 = .ok (.invokevirtual 245, 3) := by decide +kernel
theorem dX5_placed_105 : decode cX5_placed 105 = .ok (.istore_n 2, 1) := by decide +kernel
theorem dX5_placed_106 : decode cX5_placed 106 = .ok (.iload_n 1, 1) := by decide +kernel
theorem dX5_placed_107 : decode cX5_placed 107 = .ok (.iconst (-1), 1) := by decide +kernel
theorem dX5_placed_108 : decode cX5_placed 108 = .ok (.if_icmp .ne 15, 3) := by decide +kernel
theorem dX5_placed_111 : decode cX5_placed 111 = .ok (.aload_n 0, 1) := by decide +kernel
theorem dX5_placed_112 : decode cX5_placed 112 = .ok (.getfield 62, 3) := by decide +kernel
theorem dX5_placed_115 : decode cX5_placed 115 = .ok (.getfield 248, 3) := by decide +kernel
theorem dX5_placed_118 : decode cX5_placed 118 = .ok (.iload_n 2, 1) := by decide +kernel
theorem dX5_placed_119 : decode cX5_placed 119 = .ok (.iaload, 1) := by decide +kernel
theorem dX5_placed_120 : decode cX5_placed 120 = .ok (.goto 19, 3) := by decide +kernel
theorem dX5_placed_123 : decode cX5_placed 123 = .ok (.aload_n 0, 1) := by decide +kernel
theorem dX5_placed_124 : decode cX5_placed 124 = .ok (.getfield 62, 3) := by decide +kernel
theorem dX5_placed_127 : decode cX5_placed 127 = .ok (.iload_n 2, 1) := by decide +kernel
theorem dX5_placed_128 : decode cX5_placed 128 = .ok (.aload_n 0, 1) := by decide +kernel
theorem dX5_placed_129 : decode cX5_placed 129 = .ok (.getfield 62, 3) := by decide +kernel
theorem dX5_placed_132 : decode cX5_placed 132 = .ok (.iload_n 1, 1) := by decide +kernel
theorem dX5_placed_133 : decode cX5_placed 133 = .ok (.invokevirtual 250, 3) := by decide +kernel
theorem dX5_placed_136 : decode cX5_placed 136 = .ok (.invokevirtual 253, 3) := by decide +kernel
theorem dX5_placed_139 : decode cX5_placed 139 = .ok (.ireturn, 1) := by decide +kernel
set_option maxRecDepth 100000 in
set_option maxHeartbeats 4000000 in
theorem k_X5_placed (κ : Kp) (xa : Nat → Nat → Nat) (X : XS) (p : Int)  (ha_p : In32 p) (ok : okC (cl (X 0))) (hy : X 0 4 0 ≤ 999) (okr : okRl (X 12)) (hub : X 12 4 0 < p2 (X 12 3 0)) : mI κ yX5_placed cX5_placed 3 .int 5 [.ref (xa 18 100), .int (iI p)] (xw κ xa X) (qX κ xa X (qPlaced (cl (X 0)) (X 12 0) (X 12 1) (X 12 2) (uR (X 12)) (X 12 3 0) p)) := by
  refine mI_of (by decide) (Nat.le_of_ble_eq_true rfl) (fun E F K => ?_)
  refine g_lv (lv' := [(0, .ref (xa 18 100)), (1, .int (iI p))]) rfl ?_
  have hn := okr.1
  have hfc := free_cnt okr hub
  have hnb := frc_bd (uR (X 12)) hn.1.1
  obtain ⟨n, hnn⟩ : ∃ n : Int, n = frc (uR (X 12)) (X 12 3 0) := ⟨_, rfl⟩
  have hu : uR (X 12) p = X 12 4 0 / p2 p % 2 := rfl
  refine g_iload_n F 1 dX5_placed_0 rfl ?_
  refine g_iconst F dX5_placed_1 ?_
  refine g_icmp_eq F 22 (by omega) dX5_placed_2 (by decide) (fun c2 => ?_) (fun c2 => ?_)
  · skip
    refine g_aload_n F 0 dX5_placed_22 rfl ?_
    refine g18_get_1 F  lf_X5_19 dX5_placed_23 ?_
    refine g_callNI F (stk := [.ref (xa 12 100)]) (st := []) (k_X2_free κ xa X 0 (by decide) (show (0 ≤ ((X 12) 3 0) ∧ ((X 12) 3 0) ≤ 6) ∧ 0 ≤ ((X 12) 4 0) ∧ ((X 12) 4 0) < 64 from by omega)) cal_X2_free nm_X5_235 60 rfl rfl rfl rfl (by decide) rfl (Nat.le_of_ble_eq_true rfl) dX5_placed_26 (fun r26 ws26 _ hr26 => ?_)
    obtain ⟨rfl, rfl⟩ := hr26
    refine g_top (y := iI n) (iIc (by rw [hfc, hnn])) ?_
    refine g_iconst F dX5_placed_29 ?_
    refine g_icmp_le F 40 (by omega) dX5_placed_30 (by decide) (fun c30 => ?_) (fun c30 => ?_)
    · skip
      refine g_aload_n F 0 dX5_placed_40 rfl ?_
      refine g18_get_1 F  lf_X5_19 dX5_placed_41 ?_
      refine g_callNI F (stk := [.ref (xa 12 100)]) (st := []) (k_X2_free κ xa X 0 (by decide) (show (0 ≤ ((X 12) 3 0) ∧ ((X 12) 3 0) ≤ 6) ∧ 0 ≤ ((X 12) 4 0) ∧ ((X 12) 4 0) < 64 from by omega)) cal_X2_free nm_X5_235 60 rfl rfl rfl rfl (by decide) rfl (Nat.le_of_ble_eq_true rfl) dX5_placed_44 (fun r44 ws44 _ hr44 => ?_)
      obtain ⟨rfl, rfl⟩ := hr44
      refine g_top (y := iI n) (iIc (by rw [hfc, hnn])) ?_
      refine g_if_eq F 65 (by omega) dX5_placed_47 (by decide) (fun c47 => ?_) (fun c47 => ?_)
      · skip
        refine g_bipush F dX5_placed_65 (by decide +kernel) ?_
        have hq : -9 = qPlaced (cl (X 0)) (X 12 0) (X 12 1) (X 12 2) (uR (X 12)) (X 12 3 0) p := by unfold qPlaced; (repeat' split) <;> omega
        exact K xw_same ⟨_, rfl, iIc hq, sX_0, (by rw [← hq]; exact (rfa_n (by omega)).symm)⟩ rfl dX5_placed_67
      · skip
        refine g_iload_n F 1 dX5_placed_50 rfl ?_
        refine g_if_lt F 68 (by omega) dX5_placed_51 (by decide) (fun c51 => ?_) (fun c51 => ?_)
        · skip
          obtain ⟨fr, hfr⟩ : ∃ fr : Int → Int, fr = flA (X 17 0) (uR (X 12)) (X 12 3 0) := ⟨_, rfl⟩
          have hF : isFr fr (uR (X 12)) (X 12 3 0) := by rw [hfr]; exact isFr_fl _ _ hn.1.1
          have hfE : ∀ i : Int, 0 ≤ i → i < n → fr i = frP (uR (X 12)) (X 12 3 0) i := fun i a b => isFr_eq hF (isFr_fl _ _ hn.1.1) i a (by omega)
          have hfr6 : ∀ i : Int, 0 ≤ i → i < n → 0 ≤ fr i ∧ fr i < 6 := fun i a b => by have q := (hF.1 i a (by omega)).1; omega
          have hpr : ∀ i : Int, 0 ≤ i → i < n → (0 ≤ X 12 0 (fr i) ∧ X 12 0 (fr i) ≤ 5) ∧ (0 ≤ X 12 1 (fr i) ∧ X 12 1 (fr i) ≤ 9) ∧ 0 ≤ X 12 2 (fr i) ∧ X 12 2 (fr i) ≤ 99 := fun i a b => okr.p (p := fr i) (hfr6 i a b).1 (hfr6 i a b).2
          have hlf : okL (leaf (cl (X 0)) (X 12 0) (X 12 1) (X 12 2) fr n) := fun a => allPull_bd (asC_ok ok hpr).A
          refine g_aload_n F 0 dX5_placed_68 rfl ?_
          refine g18_get_13 F  lf_X5_62 dX5_placed_69 ?_
          refine g_aload_n F 0 dX5_placed_72 rfl ?_
          refine g18_get_1 F  lf_X5_19 dX5_placed_73 ?_
          refine g_callNV F (stk := [.ref (xa 12 100), .ref (xa 17 100)]) (st := []) (k_X4_gather κ xa X okr (show frc (uR (X 12)) (X 12 3 0) ≤ 3 by omega)) cal_X4_gather nm_X5_238 77 rfl rfl rfl rfl (by decide) rfl (Nat.le_of_ble_eq_true rfl) dX5_placed_76 (fun ws76 _ hr76 => ?_)
          obtain rfl := hr76
          refine g_ws (ws' := xw κ xa (setO X 17 (mA (mA (X 17) 3 (fun _ => n)) 0 fr))) (by rw [hnn, hfr]) ?_
          refine g_aload_n F 0 dX5_placed_79 rfl ?_
          refine g18_get_13 F  lf_X5_62 dX5_placed_80 ?_
          refine g_aload_n F 0 dX5_placed_83 rfl ?_
          refine g18_get_0 F  lf_X5_10 dX5_placed_84 ?_
          refine g_aload_n F 0 dX5_placed_87 rfl ?_
          refine g18_get_1 F  lf_X5_19 dX5_placed_88 ?_
          refine g_aload_n F 0 dX5_placed_91 rfl ?_
          refine g18_get_10 F  lf_X5_50 dX5_placed_92 ?_
          refine g_callNV F (stk := [.ref (xa 2 100), .ref (xa 12 100), .ref (xa 0 100), .ref (xa 17 100)]) (st := []) (k_X4_reckon κ xa (setO X 17 (mA (mA (X 17) 3 (fun _ => n)) 0 fr)) (show 1 ≤ n ∧ n ≤ 3 by omega) ok hfr6 okr) cal_X4_reckon nm_X5_241 77 rfl rfl rfl rfl (by decide) rfl (Nat.le_of_ble_eq_true rfl) dX5_placed_95 (fun ws95 _ hr95 => ?_)
          obtain ⟨a, P, D, rfl, hra, hT⟩ := hr95
          have hT : tabP (cl (X 0)) (X 12 0) (X 12 1) (X 12 2) fr n P (pwT n) := hT
          refine g_ws (ws' := xw κ xa (setO (setO X 17 (mA (mA (mA (mA (X 17) 3 (fun _ => n)) 0 fr) 1 a) 2 P)) 2 D)) rfl ?_
          have hPb : ∀ k : Int, 0 ≤ k → k < pwT n → -1 ≤ P k ∧ P k ≤ 3000 := fun k x y => by have h := hlf (dgA n k); rcases hT k x y with ⟨q1, q2⟩ | ⟨q1, q2⟩; (rw [q2]; exact ⟨Int.le_trans (by decide) h.1, h.2⟩); (rw [q2]; decide)
          have hpw := pwT_bd n
          obtain ⟨b, l, hbl⟩ : ∃ b l : Int, lwS P (pwT n) = (b, l) := ⟨_, _, rfl⟩
          have hsp : sPl (cl (X 0)) (X 12 0) (X 12 1) (X 12 2) fr n (pwT n) = (b, l) := by rw [← lw_pl hT (fun a => (hlf a).1)]; exact hbl
          have hsm := sPl_some (C := cl (X 0)) (pk := X 12 0) (pf := X 12 1) (pa := X 12 2) (fr := fr) (n := n) (by omega) (fun a => (hlf a).2)
          rw [hsp] at hsm
          have hsm : l ≤ 3000 := hsm
          have hat := pl_at hsp hsm
          have hPl : P b = l := by rcases hT b hat.1.1 hat.1.2 with ⟨q1, q2⟩ | ⟨q1, q2⟩; (rw [q2]; exact hat.2.2.symm); exact absurd hat.2.1 q1
          have hl0 : 0 ≤ l := by rw [hat.2.2]; exact (hlf _).1
          refine g_aload_n F 0 dX5_placed_98 rfl ?_
          refine g18_get_13 F  lf_X5_62 dX5_placed_99 ?_
          refine g_callNI F (stk := [.ref (xa 17 100)]) (st := []) (k_X4_leastWay κ xa (setO (setO X 17 (mA (mA (mA (mA (X 17) 3 (fun _ => n)) 0 fr) 1 a) 2 P)) 2 D) (show 0 ≤ n ∧ n ≤ 3 from by omega) hPb) cal_X4_leastWay nm_X5_245 77 rfl rfl rfl rfl (by decide) rfl (Nat.le_of_ble_eq_true rfl) dX5_placed_102 (fun r102 ws102 _ hr102 => ?_)
          obtain ⟨rfl, rfl⟩ := hr102
          refine g_top (y := iI ((lwS P (pwT (n))).1)) rfl ?_
          refine g_top (y := iI b) (iIc (by rw [hbl])) ?_
          refine g_istore_n F (lv' := [(2, .int (iI b)), (0, .ref (xa 18 100)), (1, .int (iI p))]) 2 dX5_placed_105 rfl (by decide) rfl ?_
          refine g_iload_n F 2 dX5_placed_106 rfl ?_
          refine g_iconst F dX5_placed_107 ?_
          refine g_icmp_ne F 123 (by omega) dX5_placed_108 (by decide) (fun c108 => ?_) (fun c108 => ?_)
          · skip
            exact absurd trivial (by omega)
          · skip
            refine g_aload_n F 1 dX5_placed_111 rfl ?_
            refine g18_get_13 F  lf_X5_62 dX5_placed_112 ?_
            refine g17_getN_2 F  nf_X5_248 dX5_placed_115 ?_
            refine g_iload_n F 0 dX5_placed_118 rfl ?_
            refine g17_ald_2 F  (by omega) dX5_placed_119 ?_
            refine g_top (y := iI (P b)) rfl ?_
            refine g_goto F 139 dX5_placed_120 (by decide) ?_
            have hdb := dg_bd n b (frc (uR (X 12)) p)
            have hdb2 : 0 ≤ frc (uR (X 12)) p → frc (uR (X 12)) p < n → 0 ≤ dgA n b (frc (uR (X 12)) p) := hdb.2.2
            have hq : P b = qPlaced (cl (X 0)) (X 12 0) (X 12 1) (X 12 2) (uR (X 12)) (X 12 3 0) p := by unfold qPlaced; rw [if_neg (by omega), ← hnn, if_neg (by omega), if_neg (by omega)]; first | (rw [if_pos (by omega), ← sPl_fr _ _ _ _ hfE, hsp]; exact hPl) | (rw [if_neg (by omega), if_pos (by omega), ← sPl_fr _ _ _ _ hfE, hsp])
            exact K xw_same ⟨_, rfl, iIc hq, (sX_o (sX_o sX_0 (by decide)) (by decide)), (by rw [← hq]; exact (rfa_n (by omega)).symm)⟩ rfl dX5_placed_139
        · skip
          exact absurd trivial (by omega)
    · skip
      refine g_aload_n F 0 dX5_placed_33 rfl ?_
      refine g_bipush F dX5_placed_34 (by decide +kernel) ?_
      refine g_callI F (stk := [.int (iI (-3)), .ref (xa 18 100)]) (st := []) (k_X5_refuse κ xa X (-3) (by omega)) cal_X5_refuse lm_X5_69 81 rfl rfl rfl rfl (by decide) rfl (Nat.le_of_ble_eq_true rfl) dX5_placed_36 (fun r36 ws36 _ hr36 => ?_)
      obtain ⟨rfl, rfl⟩ := hr36
      have hq : (-3) = qPlaced (cl (X 0)) (X 12 0) (X 12 1) (X 12 2) (uR (X 12)) (X 12 3 0) p := by unfold qPlaced; (repeat' split) <;> omega
      exact K xw_same ⟨_, rfl, iIc hq, (sX_18 sX_0 rfl rfl rfl), (by rw [← hq]; exact (rfa_r (by omega)).symm)⟩ rfl dX5_placed_39
  · skip
    refine g_aload_n F 0 dX5_placed_5 rfl ?_
    refine g18_get_1 F  lf_X5_19 dX5_placed_6 ?_
    refine g_iload_n F 1 dX5_placed_9 rfl ?_
    refine g_callNI F (stk := [.int (iI p), .ref (xa 12 100)]) (st := []) (k_X2_has κ xa X 0 (by decide) p (show In32 p ∧ 0 ≤ ((X 12) 3 0) ∧ ((X 12) 3 0) ≤ 6 from by omega)) cal_X2_has nm_X5_190 60 rfl rfl rfl rfl (by decide) rfl (Nat.le_of_ble_eq_true rfl) dX5_placed_10 (fun r10 ws10 _ hr10 => ?_)
    obtain ⟨rfl, rfl⟩ := hr10
    refine g_if_ne F 22 (b2i_in _) dX5_placed_13 (by decide) (fun c13 => ?_) (fun c13 => ?_)
    · skip
      have c13 : 0 ≤ p ∧ p < (X 12) 3 0 := b2i_t c13
      refine g_aload_n F 0 dX5_placed_22 rfl ?_
      refine g18_get_1 F  lf_X5_19 dX5_placed_23 ?_
      refine g_callNI F (stk := [.ref (xa 12 100)]) (st := []) (k_X2_free κ xa X 0 (by decide) (show (0 ≤ ((X 12) 3 0) ∧ ((X 12) 3 0) ≤ 6) ∧ 0 ≤ ((X 12) 4 0) ∧ ((X 12) 4 0) < 64 from by omega)) cal_X2_free nm_X5_235 60 rfl rfl rfl rfl (by decide) rfl (Nat.le_of_ble_eq_true rfl) dX5_placed_26 (fun r26 ws26 _ hr26 => ?_)
      obtain ⟨rfl, rfl⟩ := hr26
      refine g_top (y := iI n) (iIc (by rw [hfc, hnn])) ?_
      refine g_iconst F dX5_placed_29 ?_
      refine g_icmp_le F 40 (by omega) dX5_placed_30 (by decide) (fun c30 => ?_) (fun c30 => ?_)
      · skip
        refine g_aload_n F 0 dX5_placed_40 rfl ?_
        refine g18_get_1 F  lf_X5_19 dX5_placed_41 ?_
        refine g_callNI F (stk := [.ref (xa 12 100)]) (st := []) (k_X2_free κ xa X 0 (by decide) (show (0 ≤ ((X 12) 3 0) ∧ ((X 12) 3 0) ≤ 6) ∧ 0 ≤ ((X 12) 4 0) ∧ ((X 12) 4 0) < 64 from by omega)) cal_X2_free nm_X5_235 60 rfl rfl rfl rfl (by decide) rfl (Nat.le_of_ble_eq_true rfl) dX5_placed_44 (fun r44 ws44 _ hr44 => ?_)
        obtain ⟨rfl, rfl⟩ := hr44
        refine g_top (y := iI n) (iIc (by rw [hfc, hnn])) ?_
        refine g_if_eq F 65 (by omega) dX5_placed_47 (by decide) (fun c47 => ?_) (fun c47 => ?_)
        · skip
          refine g_bipush F dX5_placed_65 (by decide +kernel) ?_
          have hq : -9 = qPlaced (cl (X 0)) (X 12 0) (X 12 1) (X 12 2) (uR (X 12)) (X 12 3 0) p := by unfold qPlaced; (repeat' split) <;> omega
          exact K xw_same ⟨_, rfl, iIc hq, sX_0, (by rw [← hq]; exact (rfa_n (by omega)).symm)⟩ rfl dX5_placed_67
        · skip
          refine g_iload_n F 1 dX5_placed_50 rfl ?_
          refine g_if_lt F 68 (by omega) dX5_placed_51 (by decide) (fun c51 => ?_) (fun c51 => ?_)
          · skip
            obtain ⟨fr, hfr⟩ : ∃ fr : Int → Int, fr = flA (X 17 0) (uR (X 12)) (X 12 3 0) := ⟨_, rfl⟩
            have hF : isFr fr (uR (X 12)) (X 12 3 0) := by rw [hfr]; exact isFr_fl _ _ hn.1.1
            have hfE : ∀ i : Int, 0 ≤ i → i < n → fr i = frP (uR (X 12)) (X 12 3 0) i := fun i a b => isFr_eq hF (isFr_fl _ _ hn.1.1) i a (by omega)
            have hfr6 : ∀ i : Int, 0 ≤ i → i < n → 0 ≤ fr i ∧ fr i < 6 := fun i a b => by have q := (hF.1 i a (by omega)).1; omega
            have hpr : ∀ i : Int, 0 ≤ i → i < n → (0 ≤ X 12 0 (fr i) ∧ X 12 0 (fr i) ≤ 5) ∧ (0 ≤ X 12 1 (fr i) ∧ X 12 1 (fr i) ≤ 9) ∧ 0 ≤ X 12 2 (fr i) ∧ X 12 2 (fr i) ≤ 99 := fun i a b => okr.p (p := fr i) (hfr6 i a b).1 (hfr6 i a b).2
            have hlf : okL (leaf (cl (X 0)) (X 12 0) (X 12 1) (X 12 2) fr n) := fun a => allPull_bd (asC_ok ok hpr).A
            refine g_aload_n F 0 dX5_placed_68 rfl ?_
            refine g18_get_13 F  lf_X5_62 dX5_placed_69 ?_
            refine g_aload_n F 0 dX5_placed_72 rfl ?_
            refine g18_get_1 F  lf_X5_19 dX5_placed_73 ?_
            refine g_callNV F (stk := [.ref (xa 12 100), .ref (xa 17 100)]) (st := []) (k_X4_gather κ xa X okr (show frc (uR (X 12)) (X 12 3 0) ≤ 3 by omega)) cal_X4_gather nm_X5_238 77 rfl rfl rfl rfl (by decide) rfl (Nat.le_of_ble_eq_true rfl) dX5_placed_76 (fun ws76 _ hr76 => ?_)
            obtain rfl := hr76
            refine g_ws (ws' := xw κ xa (setO X 17 (mA (mA (X 17) 3 (fun _ => n)) 0 fr))) (by rw [hnn, hfr]) ?_
            refine g_aload_n F 0 dX5_placed_79 rfl ?_
            refine g18_get_13 F  lf_X5_62 dX5_placed_80 ?_
            refine g_aload_n F 0 dX5_placed_83 rfl ?_
            refine g18_get_0 F  lf_X5_10 dX5_placed_84 ?_
            refine g_aload_n F 0 dX5_placed_87 rfl ?_
            refine g18_get_1 F  lf_X5_19 dX5_placed_88 ?_
            refine g_aload_n F 0 dX5_placed_91 rfl ?_
            refine g18_get_10 F  lf_X5_50 dX5_placed_92 ?_
            refine g_callNV F (stk := [.ref (xa 2 100), .ref (xa 12 100), .ref (xa 0 100), .ref (xa 17 100)]) (st := []) (k_X4_reckon κ xa (setO X 17 (mA (mA (X 17) 3 (fun _ => n)) 0 fr)) (show 1 ≤ n ∧ n ≤ 3 by omega) ok hfr6 okr) cal_X4_reckon nm_X5_241 77 rfl rfl rfl rfl (by decide) rfl (Nat.le_of_ble_eq_true rfl) dX5_placed_95 (fun ws95 _ hr95 => ?_)
            obtain ⟨a, P, D, rfl, hra, hT⟩ := hr95
            have hT : tabP (cl (X 0)) (X 12 0) (X 12 1) (X 12 2) fr n P (pwT n) := hT
            refine g_ws (ws' := xw κ xa (setO (setO X 17 (mA (mA (mA (mA (X 17) 3 (fun _ => n)) 0 fr) 1 a) 2 P)) 2 D)) rfl ?_
            have hPb : ∀ k : Int, 0 ≤ k → k < pwT n → -1 ≤ P k ∧ P k ≤ 3000 := fun k x y => by have h := hlf (dgA n k); rcases hT k x y with ⟨q1, q2⟩ | ⟨q1, q2⟩; (rw [q2]; exact ⟨Int.le_trans (by decide) h.1, h.2⟩); (rw [q2]; decide)
            have hpw := pwT_bd n
            obtain ⟨b, l, hbl⟩ : ∃ b l : Int, lwS P (pwT n) = (b, l) := ⟨_, _, rfl⟩
            have hsp : sPl (cl (X 0)) (X 12 0) (X 12 1) (X 12 2) fr n (pwT n) = (b, l) := by rw [← lw_pl hT (fun a => (hlf a).1)]; exact hbl
            have hsm := sPl_some (C := cl (X 0)) (pk := X 12 0) (pf := X 12 1) (pa := X 12 2) (fr := fr) (n := n) (by omega) (fun a => (hlf a).2)
            rw [hsp] at hsm
            have hsm : l ≤ 3000 := hsm
            have hat := pl_at hsp hsm
            have hPl : P b = l := by rcases hT b hat.1.1 hat.1.2 with ⟨q1, q2⟩ | ⟨q1, q2⟩; (rw [q2]; exact hat.2.2.symm); exact absurd hat.2.1 q1
            have hl0 : 0 ≤ l := by rw [hat.2.2]; exact (hlf _).1
            refine g_aload_n F 0 dX5_placed_98 rfl ?_
            refine g18_get_13 F  lf_X5_62 dX5_placed_99 ?_
            refine g_callNI F (stk := [.ref (xa 17 100)]) (st := []) (k_X4_leastWay κ xa (setO (setO X 17 (mA (mA (mA (mA (X 17) 3 (fun _ => n)) 0 fr) 1 a) 2 P)) 2 D) (show 0 ≤ n ∧ n ≤ 3 from by omega) hPb) cal_X4_leastWay nm_X5_245 77 rfl rfl rfl rfl (by decide) rfl (Nat.le_of_ble_eq_true rfl) dX5_placed_102 (fun r102 ws102 _ hr102 => ?_)
            obtain ⟨rfl, rfl⟩ := hr102
            refine g_top (y := iI ((lwS P (pwT (n))).1)) rfl ?_
            refine g_top (y := iI b) (iIc (by rw [hbl])) ?_
            refine g_istore_n F (lv' := [(2, .int (iI b)), (0, .ref (xa 18 100)), (1, .int (iI p))]) 2 dX5_placed_105 rfl (by decide) rfl ?_
            refine g_iload_n F 2 dX5_placed_106 rfl ?_
            refine g_iconst F dX5_placed_107 ?_
            refine g_icmp_ne F 123 (by omega) dX5_placed_108 (by decide) (fun c108 => ?_) (fun c108 => ?_)
            · skip
              have hfi := hF.2 p (by omega) (by omega) (by omega)
              have hf0 := (frc_bd (uR (X 12)) (n := p) (by omega)).1
              refine g_aload_n F 1 dX5_placed_123 rfl ?_
              refine g18_get_13 F  lf_X5_62 dX5_placed_124 ?_
              refine g_iload_n F 0 dX5_placed_127 rfl ?_
              refine g_aload_n F 1 dX5_placed_128 rfl ?_
              refine g18_get_13 F  lf_X5_62 dX5_placed_129 ?_
              refine g_iload_n F 2 dX5_placed_132 rfl ?_
              refine g_callNI F (stk := [.int (iI p), .ref (xa 17 100), .int (iI b), .ref (xa 17 100)]) (st := [.int (iI b), .ref (xa 17 100)]) (k_X4_placeOf κ xa (setO (setO X 17 (mA (mA (mA (mA (X 17) 3 (fun _ => n)) 0 fr) 1 a) 2 P)) 2 D) (uR (X 12)) (X 12 3 0) p hF (show n = frc (uR (X 12)) (X 12 3 0) ∧ frc (uR (X 12)) (X 12 3 0) ≤ 3 by omega) (by omega) (by omega)) cal_X4_placeOf nm_X5_250 77 rfl rfl rfl rfl (by decide) rfl (Nat.le_of_ble_eq_true rfl) dX5_placed_133 (fun r133 ws133 _ hr133 => ?_)
              obtain ⟨rfl, rfl⟩ := hr133
              refine g_callNI F (stk := [.int (iI (frc (uR (X 12)) p)), .int (iI b), .ref (xa 17 100)]) (st := []) (k_X4_cellIn κ xa (setO (setO X 17 (mA (mA (mA (mA (X 17) 3 (fun _ => n)) 0 fr) 1 a) 2 P)) 2 D) b (frc (uR (X 12)) p) (show (0 ≤ n ∧ n ≤ 3) ∧ (0 ≤ b ∧ b < 1728) ∧ 0 ≤ (frc (uR (X 12)) p) ∧ (frc (uR (X 12)) p) < n from by omega)) cal_X4_cellIn nm_X5_253 77 rfl rfl rfl rfl (by decide) rfl (Nat.le_of_ble_eq_true rfl) dX5_placed_136 (fun r136 ws136 _ hr136 => ?_)
              obtain ⟨rfl, rfl⟩ := hr136
              refine g_top (y := iI (dgA (n) b (frc (uR (X 12)) p))) rfl ?_
              have hdb := dg_bd n b (frc (uR (X 12)) p)
              have hdb2 : 0 ≤ frc (uR (X 12)) p → frc (uR (X 12)) p < n → 0 ≤ dgA n b (frc (uR (X 12)) p) := hdb.2.2
              have hq : dgA (n) b (frc (uR (X 12)) p) = qPlaced (cl (X 0)) (X 12 0) (X 12 1) (X 12 2) (uR (X 12)) (X 12 3 0) p := by unfold qPlaced; rw [if_neg (by omega), ← hnn, if_neg (by omega), if_neg (by omega)]; first | (rw [if_pos (by omega), ← sPl_fr _ _ _ _ hfE, hsp]; exact hPl) | (rw [if_neg (by omega), if_pos (by omega), ← sPl_fr _ _ _ _ hfE, hsp])
              exact K xw_same ⟨_, rfl, iIc hq, (sX_o (sX_o sX_0 (by decide)) (by decide)), (by rw [← hq]; exact (rfa_n (by omega)).symm)⟩ rfl dX5_placed_139
            · skip
              exact absurd trivial (by omega)
          · skip
            refine g_aload_n F 0 dX5_placed_54 rfl ?_
            refine g18_get_1 F  lf_X5_19 dX5_placed_55 ?_
            refine g_iload_n F 1 dX5_placed_58 rfl ?_
            refine g_callNI F (stk := [.int (iI p), .ref (xa 12 100)]) (st := []) (k_X2_isFree κ xa X 0 (by decide) p (show In32 p ∧ (0 ≤ ((X 12) 3 0) ∧ ((X 12) 3 0) ≤ 6) ∧ 0 ≤ ((X 12) 4 0) ∧ ((X 12) 4 0) < 64 from by omega)) cal_X2_isFree nm_X5_150 60 rfl rfl rfl rfl (by decide) rfl (Nat.le_of_ble_eq_true rfl) dX5_placed_59 (fun r59 ws59 _ hr59 => ?_)
            obtain ⟨rfl, rfl⟩ := hr59
            refine g_if_ne F 68 (b2i_in _) dX5_placed_62 (by decide) (fun c62 => ?_) (fun c62 => ?_)
            · skip
              have c62 : (0 ≤ p ∧ p < (X 12) 3 0) ∧ (X 12) 4 0 / p2 p % 2 = 0 := b2i_t c62
              obtain ⟨fr, hfr⟩ : ∃ fr : Int → Int, fr = flA (X 17 0) (uR (X 12)) (X 12 3 0) := ⟨_, rfl⟩
              have hF : isFr fr (uR (X 12)) (X 12 3 0) := by rw [hfr]; exact isFr_fl _ _ hn.1.1
              have hfE : ∀ i : Int, 0 ≤ i → i < n → fr i = frP (uR (X 12)) (X 12 3 0) i := fun i a b => isFr_eq hF (isFr_fl _ _ hn.1.1) i a (by omega)
              have hfr6 : ∀ i : Int, 0 ≤ i → i < n → 0 ≤ fr i ∧ fr i < 6 := fun i a b => by have q := (hF.1 i a (by omega)).1; omega
              have hpr : ∀ i : Int, 0 ≤ i → i < n → (0 ≤ X 12 0 (fr i) ∧ X 12 0 (fr i) ≤ 5) ∧ (0 ≤ X 12 1 (fr i) ∧ X 12 1 (fr i) ≤ 9) ∧ 0 ≤ X 12 2 (fr i) ∧ X 12 2 (fr i) ≤ 99 := fun i a b => okr.p (p := fr i) (hfr6 i a b).1 (hfr6 i a b).2
              have hlf : okL (leaf (cl (X 0)) (X 12 0) (X 12 1) (X 12 2) fr n) := fun a => allPull_bd (asC_ok ok hpr).A
              refine g_aload_n F 0 dX5_placed_68 rfl ?_
              refine g18_get_13 F  lf_X5_62 dX5_placed_69 ?_
              refine g_aload_n F 0 dX5_placed_72 rfl ?_
              refine g18_get_1 F  lf_X5_19 dX5_placed_73 ?_
              refine g_callNV F (stk := [.ref (xa 12 100), .ref (xa 17 100)]) (st := []) (k_X4_gather κ xa X okr (show frc (uR (X 12)) (X 12 3 0) ≤ 3 by omega)) cal_X4_gather nm_X5_238 77 rfl rfl rfl rfl (by decide) rfl (Nat.le_of_ble_eq_true rfl) dX5_placed_76 (fun ws76 _ hr76 => ?_)
              obtain rfl := hr76
              refine g_ws (ws' := xw κ xa (setO X 17 (mA (mA (X 17) 3 (fun _ => n)) 0 fr))) (by rw [hnn, hfr]) ?_
              refine g_aload_n F 0 dX5_placed_79 rfl ?_
              refine g18_get_13 F  lf_X5_62 dX5_placed_80 ?_
              refine g_aload_n F 0 dX5_placed_83 rfl ?_
              refine g18_get_0 F  lf_X5_10 dX5_placed_84 ?_
              refine g_aload_n F 0 dX5_placed_87 rfl ?_
              refine g18_get_1 F  lf_X5_19 dX5_placed_88 ?_
              refine g_aload_n F 0 dX5_placed_91 rfl ?_
              refine g18_get_10 F  lf_X5_50 dX5_placed_92 ?_
              refine g_callNV F (stk := [.ref (xa 2 100), .ref (xa 12 100), .ref (xa 0 100), .ref (xa 17 100)]) (st := []) (k_X4_reckon κ xa (setO X 17 (mA (mA (X 17) 3 (fun _ => n)) 0 fr)) (show 1 ≤ n ∧ n ≤ 3 by omega) ok hfr6 okr) cal_X4_reckon nm_X5_241 77 rfl rfl rfl rfl (by decide) rfl (Nat.le_of_ble_eq_true rfl) dX5_placed_95 (fun ws95 _ hr95 => ?_)
              obtain ⟨a, P, D, rfl, hra, hT⟩ := hr95
              have hT : tabP (cl (X 0)) (X 12 0) (X 12 1) (X 12 2) fr n P (pwT n) := hT
              refine g_ws (ws' := xw κ xa (setO (setO X 17 (mA (mA (mA (mA (X 17) 3 (fun _ => n)) 0 fr) 1 a) 2 P)) 2 D)) rfl ?_
              have hPb : ∀ k : Int, 0 ≤ k → k < pwT n → -1 ≤ P k ∧ P k ≤ 3000 := fun k x y => by have h := hlf (dgA n k); rcases hT k x y with ⟨q1, q2⟩ | ⟨q1, q2⟩; (rw [q2]; exact ⟨Int.le_trans (by decide) h.1, h.2⟩); (rw [q2]; decide)
              have hpw := pwT_bd n
              obtain ⟨b, l, hbl⟩ : ∃ b l : Int, lwS P (pwT n) = (b, l) := ⟨_, _, rfl⟩
              have hsp : sPl (cl (X 0)) (X 12 0) (X 12 1) (X 12 2) fr n (pwT n) = (b, l) := by rw [← lw_pl hT (fun a => (hlf a).1)]; exact hbl
              have hsm := sPl_some (C := cl (X 0)) (pk := X 12 0) (pf := X 12 1) (pa := X 12 2) (fr := fr) (n := n) (by omega) (fun a => (hlf a).2)
              rw [hsp] at hsm
              have hsm : l ≤ 3000 := hsm
              have hat := pl_at hsp hsm
              have hPl : P b = l := by rcases hT b hat.1.1 hat.1.2 with ⟨q1, q2⟩ | ⟨q1, q2⟩; (rw [q2]; exact hat.2.2.symm); exact absurd hat.2.1 q1
              have hl0 : 0 ≤ l := by rw [hat.2.2]; exact (hlf _).1
              refine g_aload_n F 0 dX5_placed_98 rfl ?_
              refine g18_get_13 F  lf_X5_62 dX5_placed_99 ?_
              refine g_callNI F (stk := [.ref (xa 17 100)]) (st := []) (k_X4_leastWay κ xa (setO (setO X 17 (mA (mA (mA (mA (X 17) 3 (fun _ => n)) 0 fr) 1 a) 2 P)) 2 D) (show 0 ≤ n ∧ n ≤ 3 from by omega) hPb) cal_X4_leastWay nm_X5_245 77 rfl rfl rfl rfl (by decide) rfl (Nat.le_of_ble_eq_true rfl) dX5_placed_102 (fun r102 ws102 _ hr102 => ?_)
              obtain ⟨rfl, rfl⟩ := hr102
              refine g_top (y := iI ((lwS P (pwT (n))).1)) rfl ?_
              refine g_top (y := iI b) (iIc (by rw [hbl])) ?_
              refine g_istore_n F (lv' := [(2, .int (iI b)), (0, .ref (xa 18 100)), (1, .int (iI p))]) 2 dX5_placed_105 rfl (by decide) rfl ?_
              refine g_iload_n F 2 dX5_placed_106 rfl ?_
              refine g_iconst F dX5_placed_107 ?_
              refine g_icmp_ne F 123 (by omega) dX5_placed_108 (by decide) (fun c108 => ?_) (fun c108 => ?_)
              · skip
                have hfi := hF.2 p (by omega) (by omega) (by omega)
                have hf0 := (frc_bd (uR (X 12)) (n := p) (by omega)).1
                refine g_aload_n F 1 dX5_placed_123 rfl ?_
                refine g18_get_13 F  lf_X5_62 dX5_placed_124 ?_
                refine g_iload_n F 0 dX5_placed_127 rfl ?_
                refine g_aload_n F 1 dX5_placed_128 rfl ?_
                refine g18_get_13 F  lf_X5_62 dX5_placed_129 ?_
                refine g_iload_n F 2 dX5_placed_132 rfl ?_
                refine g_callNI F (stk := [.int (iI p), .ref (xa 17 100), .int (iI b), .ref (xa 17 100)]) (st := [.int (iI b), .ref (xa 17 100)]) (k_X4_placeOf κ xa (setO (setO X 17 (mA (mA (mA (mA (X 17) 3 (fun _ => n)) 0 fr) 1 a) 2 P)) 2 D) (uR (X 12)) (X 12 3 0) p hF (show n = frc (uR (X 12)) (X 12 3 0) ∧ frc (uR (X 12)) (X 12 3 0) ≤ 3 by omega) (by omega) (by omega)) cal_X4_placeOf nm_X5_250 77 rfl rfl rfl rfl (by decide) rfl (Nat.le_of_ble_eq_true rfl) dX5_placed_133 (fun r133 ws133 _ hr133 => ?_)
                obtain ⟨rfl, rfl⟩ := hr133
                refine g_callNI F (stk := [.int (iI (frc (uR (X 12)) p)), .int (iI b), .ref (xa 17 100)]) (st := []) (k_X4_cellIn κ xa (setO (setO X 17 (mA (mA (mA (mA (X 17) 3 (fun _ => n)) 0 fr) 1 a) 2 P)) 2 D) b (frc (uR (X 12)) p) (show (0 ≤ n ∧ n ≤ 3) ∧ (0 ≤ b ∧ b < 1728) ∧ 0 ≤ (frc (uR (X 12)) p) ∧ (frc (uR (X 12)) p) < n from by omega)) cal_X4_cellIn nm_X5_253 77 rfl rfl rfl rfl (by decide) rfl (Nat.le_of_ble_eq_true rfl) dX5_placed_136 (fun r136 ws136 _ hr136 => ?_)
                obtain ⟨rfl, rfl⟩ := hr136
                refine g_top (y := iI (dgA (n) b (frc (uR (X 12)) p))) rfl ?_
                have hdb := dg_bd n b (frc (uR (X 12)) p)
                have hdb2 : 0 ≤ frc (uR (X 12)) p → frc (uR (X 12)) p < n → 0 ≤ dgA n b (frc (uR (X 12)) p) := hdb.2.2
                have hq : dgA (n) b (frc (uR (X 12)) p) = qPlaced (cl (X 0)) (X 12 0) (X 12 1) (X 12 2) (uR (X 12)) (X 12 3 0) p := by unfold qPlaced; rw [if_neg (by omega), ← hnn, if_neg (by omega), if_neg (by omega)]; first | (rw [if_pos (by omega), ← sPl_fr _ _ _ _ hfE, hsp]; exact hPl) | (rw [if_neg (by omega), if_pos (by omega), ← sPl_fr _ _ _ _ hfE, hsp])
                exact K xw_same ⟨_, rfl, iIc hq, (sX_o (sX_o sX_0 (by decide)) (by decide)), (by rw [← hq]; exact (rfa_n (by omega)).symm)⟩ rfl dX5_placed_139
              · skip
                exact absurd trivial (by omega)
            · skip
              have c62 : ¬ ((0 ≤ p ∧ p < (X 12) 3 0) ∧ (X 12) 4 0 / p2 p % 2 = 0) := b2i_f c62
              refine g_bipush F dX5_placed_65 (by decide +kernel) ?_
              have hq : -9 = qPlaced (cl (X 0)) (X 12 0) (X 12 1) (X 12 2) (uR (X 12)) (X 12 3 0) p := by unfold qPlaced; (repeat' split) <;> omega
              exact K xw_same ⟨_, rfl, iIc hq, sX_0, (by rw [← hq]; exact (rfa_n (by omega)).symm)⟩ rfl dX5_placed_67
      · skip
        refine g_aload_n F 0 dX5_placed_33 rfl ?_
        refine g_bipush F dX5_placed_34 (by decide +kernel) ?_
        refine g_callI F (stk := [.int (iI (-3)), .ref (xa 18 100)]) (st := []) (k_X5_refuse κ xa X (-3) (by omega)) cal_X5_refuse lm_X5_69 81 rfl rfl rfl rfl (by decide) rfl (Nat.le_of_ble_eq_true rfl) dX5_placed_36 (fun r36 ws36 _ hr36 => ?_)
        obtain ⟨rfl, rfl⟩ := hr36
        have hq : (-3) = qPlaced (cl (X 0)) (X 12 0) (X 12 1) (X 12 2) (uR (X 12)) (X 12 3 0) p := by unfold qPlaced; (repeat' split) <;> omega
        exact K xw_same ⟨_, rfl, iIc hq, (sX_18 sX_0 rfl rfl rfl), (by rw [← hq]; exact (rfa_r (by omega)).symm)⟩ rfl dX5_placed_39
    · skip
      have c13 : ¬ (0 ≤ p ∧ p < (X 12) 3 0) := b2i_f c13
      refine g_aload_n F 0 dX5_placed_16 rfl ?_
      refine g_iconst F dX5_placed_17 ?_
      refine g_callI F (stk := [.int (iI (-1)), .ref (xa 18 100)]) (st := []) (k_X5_refuse κ xa X (-1) (by omega)) cal_X5_refuse lm_X5_69 81 rfl rfl rfl rfl (by decide) rfl (Nat.le_of_ble_eq_true rfl) dX5_placed_18 (fun r18 ws18 _ hr18 => ?_)
      obtain ⟨rfl, rfl⟩ := hr18
      have hq : (-1) = qPlaced (cl (X 0)) (X 12 0) (X 12 1) (X 12 2) (uR (X 12)) (X 12 3 0) p := by unfold qPlaced; (repeat' split) <;> omega
      exact K xw_same ⟨_, rfl, iIc hq, (sX_18 sX_0 rfl rfl rfl), (by rw [← hq]; exact (rfa_r (by omega)).symm)⟩ rfl dX5_placed_21
