theorem dX5_turns_0 : decode cX5_turns 0 = .ok (.iload_n 1, 1) := by decide +kernel
theorem dX5_turns_1 : decode cX5_turns 1 = .ok (.ifCond .lt 8, 3) := by decide +kernel
theorem dX5_turns_4 : decode cX5_turns 4 = .ok (.iload_n 1, 1) := by decide +kernel
theorem dX5_turns_5 : decode cX5_turns 5 = .ok (.iconst 1, 1) := by decide +kernel
theorem dX5_turns_6 : decode cX5_turns 6 = .ok (.if_icmp .le 10, 3) := by decide +kernel
theorem dX5_turns_9 : decode cX5_turns 9 = .ok (.aload_n 0, 1) := by decide +kernel
theorem dX5_turns_10 : decode cX5_turns 10 = .ok (.bipush (-2), 2) := by decide +kernel
theorem dX5_turns_12 : decode cX5_turns 12 = .ok (.invokevirtual 69, 3) := by decide +kernel
theorem dX5_turns_15 : decode cX5_turns 15 = .ok (.ireturn, 1) := by decide +kernel
theorem dX5_turns_16 : decode cX5_turns 16 = .ok (.aload_n 0, 1) := by decide +kernel
theorem dX5_turns_17 : decode cX5_turns 17 = .ok (.getfield 19, 3) := by decide +kernel
theorem dX5_turns_20 : decode cX5_turns 20 = .ok (.invokevirtual 235, 3) := by decide +kernel
theorem dX5_turns_23 : decode cX5_turns 23 = .ok (.iconst 3, 1) := by decide +kernel
theorem dX5_turns_24 : decode cX5_turns 24 = .ok (.if_icmp .le 10, 3) := by decide +kernel
theorem dX5_turns_27 : decode cX5_turns 27 = .ok (.aload_n 0, 1) := by decide +kernel
theorem dX5_turns_28 : decode cX5_turns 28 = .ok (.bipush (-3), 2) := by decide +kernel
theorem dX5_turns_30 : decode cX5_turns 30 = .ok (.invokevirtual 69, 3) := by decide +kernel
theorem dX5_turns_33 : decode cX5_turns 33 = .ok (.ireturn, 1) := by decide +kernel
theorem dX5_turns_34 : decode cX5_turns 34 = .ok (.aload_n 0, 1) := by decide +kernel
theorem dX5_turns_35 : decode cX5_turns 35 = .ok (.getfield 19, 3) := by decide +kernel
theorem dX5_turns_38 : decode cX5_turns 38 = .ok (.invokevirtual 235, 3) := by decide +kernel
theorem dX5_turns_41 : decode cX5_turns 41 = .ok (.ifCond .ne 6, 3) := by decide +kernel
theorem dX5_turns_44 : decode cX5_turns 44 = .ok (.bipush (-9), 2) := by decide +kernel
theorem dX5_turns_46 : decode cX5_turns 46 = .ok (.ireturn, 1) := by decide +kernel
theorem dX5_turns_47 : decode cX5_turns 47 = .ok (.aload_n 0, 1) := by decide +kernel
theorem dX5_turns_48 : decode cX5_turns 48 = .ok (.getfield 62, 3) := by decide +kernel
theorem dX5_turns_51 : decode cX5_turns 51 = .ok (.aload_n 0, 1) := by decide +kernel
theorem dX5_turns_52 : decode cX5_turns 52 = .ok (.getfield 19, 3) := by decide +kernel
theorem dX5_turns_55 : decode cX5_turns 55 = .ok (.invokevirtual 238, 3) := by decide +kernel
theorem dX5_turns_58 : decode cX5_turns 58 = .ok (.aload_n 0, 1) := by decide +kernel
theorem dX5_turns_59 : decode cX5_turns 59 = .ok (.getfield 62, 3) := by decide +kernel
theorem dX5_turns_62 : decode cX5_turns 62 = .ok (.aload_n 0, 1) := by decide +kernel
theorem dX5_turns_63 : decode cX5_turns 63 = .ok (.getfield 10, 3) := by decide +kernel
theorem dX5_turns_66 : decode cX5_turns 66 = .ok (.aload_n 0, 1) := by decide +kernel
theorem dX5_turns_67 : decode cX5_turns 67 = .ok (.getfield 19, 3) := by decide +kernel
theorem dX5_turns_70 : decode cX5_turns 70 = .ok (.aload_n 0, 1) := by decide +kernel
theorem dX5_turns_71 : decode cX5_turns 71 = .ok (.getfield 50, 3) := by decide +kernel
theorem dX5_turns_74 : decode cX5_turns 74 = .ok (.invokevirtual 241, 3) := by decide +kernel
theorem dX5_turns_77 : decode cX5_turns 77 = .ok (.aload_n 0, 1) := by decide +kernel
theorem dX5_turns_78 : decode cX5_turns 78 = .ok (.getfield 62, 3) := by decide +kernel
theorem dX5_turns_81 : decode cX5_turns 81 = .ok (.invokevirtual 256, 3) := by decide +kernel
theorem dX5_turns_84 : decode cX5_turns 84 = .ok (.iconst 0, 1) := by decide +kernel
theorem dX5_turns_85 : decode cX5_turns 85 = .ok (.istore_n 2, 1) := by decide +kernel
theorem dX5_turns_86 : decode cX5_turns 86 = .ok (.ldc 234, 2) := by decide +kernel
theorem dX5_turns_88 : decode cX5_turns 88 = .ok (.istore_n 3, 1) := by decide +kernel
theorem dX5_turns_89 : decode cX5_turns 89 = .ok (.iconst 0, 1) := by decide +kernel
theorem dX5_turns_90 : decode cX5_turns 90 = .ok (.istore 4, 2) := by decide +kernel
theorem dX5_turns_92 : decode cX5_turns 92 = .ok (.iload 4, 2) := by decide +kernel
theorem dX5_turns_94 : decode cX5_turns 94 = .ok (.aload_n 0, 1) := by decide +kernel
theorem dX5_turns_95 : decode cX5_turns 95 = .ok (.getfield 62, 3) := by decide +kernel
theorem dX5_turns_98 : decode cX5_turns 98 = .ok (.getfield 259, 3) := by decide +kernel
theorem dX5_turns_101 : decode cX5_turns 101 = .ok (.if_icmp .ge 84, 3) := by decide +kernel
theorem dX5_turns_104 : decode cX5_turns 104 = .ok (.iconst 0, 1) := by decide +kernel
theorem dX5_turns_105 : decode cX5_turns 105 = .ok (.istore 5, 2) := by decide +kernel
theorem dX5_turns_107 : decode cX5_turns 107 = .ok (.iload 5, 2) := by decide +kernel
theorem dX5_turns_109 : decode cX5_turns 109 = .ok (.bipush 12, 2) := by decide +kernel
theorem dX5_turns_111 : decode cX5_turns 111 = .ok (.if_icmp .ge 57, 3) := by decide +kernel
theorem dX5_turns_114 : decode cX5_turns 114 = .ok (.aload_n 0, 1) := by decide +kernel
theorem dX5_turns_115 : decode cX5_turns 115 = .ok (.getfield 62, 3) := by decide +kernel
theorem dX5_turns_118 : decode cX5_turns 118 = .ok (.getfield 260, 3) := by decide +kernel
theorem dX5_turns_121 : decode cX5_turns 121 = .ok (.iload 4, 2) := by decide +kernel
theorem dX5_turns_123 : decode cX5_turns 123 = .ok (.iload 5, 2) := by decide +kernel
theorem dX5_turns_125 : decode cX5_turns 125 = .ok (.iastore, 1) := by decide +kernel
theorem dX5_turns_126 : decode cX5_turns 126 = .ok (.aload_n 0, 1) := by decide +kernel
theorem dX5_turns_127 : decode cX5_turns 127 = .ok (.getfield 62, 3) := by decide +kernel
theorem dX5_turns_130 : decode cX5_turns 130 = .ok (.iconst 1, 1) := by decide +kernel
theorem dX5_turns_131 : decode cX5_turns 131 = .ok (.invokestatic 263, 3) := by decide +kernel
theorem dX5_turns_134 : decode cX5_turns 134 = .ok (.istore 6, 2) := by decide +kernel
theorem dX5_turns_136 : decode cX5_turns 136 = .ok (.iload 6, 2) := by decide +kernel
theorem dX5_turns_138 : decode cX5_turns 138 = .ok (.iload_n 3, 1) := by decide +kernel
theorem dX5_turns_139 : decode cX5_turns 139 = .ok (.if_icmp .ge 23, 3) := by decide +kernel
theorem dX5_turns_142 : decode cX5_turns 142 = .ok (.iload 6, 2) := by decide +kernel
theorem dX5_turns_144 : decode cX5_turns 144 = .ok (.istore_n 3, 1) := by decide +kernel
theorem dX5_turns_145 : decode cX5_turns 145 = .ok (.bipush 100, 2) := by decide +kernel
theorem dX5_turns_147 : decode cX5_turns 147 = .ok (.aload_n 0, 1) := by decide +kernel
theorem dX5_turns_148 : decode cX5_turns 148 = .ok (.getfield 62, 3) := by decide +kernel
theorem dX5_turns_151 : decode cX5_turns 151 = .ok (.getfield 267, 3) := by decide +kernel
theorem dX5_turns_154 : decode cX5_turns 154 = .ok (.iload 4, 2) := by decide +kernel
theorem dX5_turns_156 : decode cX5_turns 156 = .ok (.iaload, 1) := by decide +kernel
theorem dX5_turns_157 : decode cX5_turns 157 = .ok (.imul, 1) := by decide +kernel
theorem dX5_turns_158 : decode cX5_turns 158 = .ok (.iload 5, 2) := by decide +kernel
theorem dX5_turns_160 : decode cX5_turns 160 = .ok (.iadd, 1) := by decide +kernel
theorem dX5_turns_161 : decode cX5_turns 161 = .ok (.istore_n 2, 1) := by decide +kernel
theorem dX5_turns_162 : decode cX5_turns 162 = .ok (.iinc 5 1, 3) := by decide +kernel
theorem dX5_turns_165 : decode cX5_turns 165 = .ok (.goto (-58), 3) := by decide +kernel
theorem dX5_turns_168 : decode cX5_turns 168 = .ok (.aload_n 0, 1) := by decide +kernel
theorem dX5_turns_169 : decode cX5_turns 169 = .ok (.getfield 62, 3) := by decide +kernel
theorem dX5_turns_172 : decode cX5_turns 172 = .ok (.getfield 260, 3) := by decide +kernel
theorem dX5_turns_175 : decode cX5_turns 175 = .ok (.iload 4, 2) := by decide +kernel
theorem dX5_turns_177 : decode cX5_turns 177 = .ok (.iconst (-1), 1) := by decide +kernel
theorem dX5_turns_178 : decode cX5_turns 178 = .ok (.iastore, 1) := by decide +kernel
theorem dX5_turns_179 : decode cX5_turns 179 = .ok (.iinc 4 1, 3) := by decide +kernel
theorem dX5_turns_182 : decode cX5_turns 182 = .ok (.goto (-90), 3) := by decide +kernel
theorem dX5_turns_185 : decode cX5_turns 185 = .ok (.iload_n 1, 1) := by decide +kernel
theorem dX5_turns_186 : decode cX5_turns 186 = .ok (.ifCond .ne 7, 3) := by decide +kernel
theorem dX5_turns_189 : decode cX5_turns 189 = .ok (.iload_n 3, 1) := by decide +kernel
theorem dX5_turns_190 : decode cX5_turns 190 = .ok (.goto 4, 3) := by decide +kernel
theorem dX5_turns_193 : decode cX5_turns 193 = .ok (.iload_n 2, 1) := by decide +kernel
theorem dX5_turns_194 : decode cX5_turns 194 = .ok (.ireturn, 1) := by decide +kernel
set_option maxRecDepth 100000 in
set_option maxHeartbeats 4000000 in
theorem k_X5_turns (κ : Kp) (xa : Nat → Nat → Nat) (X : XS) (w : Int)  (ha_w : In32 w) (ok : okC (cl (X 0))) (hy : X 0 4 0 ≤ 999) (okr : okRl (X 12)) (hub : X 12 4 0 < p2 (X 12 3 0)) : mI κ yX5_turns cX5_turns 7 .int 6 [.ref (xa 18 100), .int (iI w)] (xw κ xa X) (qX κ xa X (qTurns (cl (X 0)) (X 12 0) (X 12 1) (X 12 2) (uR (X 12)) (X 12 3 0) w)) := by
  refine mI_of (by decide) (Nat.le_of_ble_eq_true rfl) (fun E F K => ?_)
  refine g_lv (lv' := [(0, .ref (xa 18 100)), (1, .int (iI w))]) rfl ?_
  have hn := okr.1
  have hfc := free_cnt okr hub
  have hnb := frc_bd (uR (X 12)) hn.1.1
  obtain ⟨n, hnn⟩ : ∃ n : Int, n = frc (uR (X 12)) (X 12 3 0) := ⟨_, rfl⟩
  refine g_iload_n F 1 dX5_turns_0 rfl ?_
  refine g_if_lt F 9 (by omega) dX5_turns_1 (by decide) (fun c1 => ?_) (fun c1 => ?_)
  · skip
    refine g_aload_n F 0 dX5_turns_9 rfl ?_
    refine g_bipush F dX5_turns_10 (by decide +kernel) ?_
    refine g_callI F (stk := [.int (iI (-2)), .ref (xa 18 100)]) (st := []) (k_X5_refuse κ xa X (-2) (by omega)) cal_X5_refuse lm_X5_69 81 rfl rfl rfl rfl (by decide) rfl (Nat.le_of_ble_eq_true rfl) dX5_turns_12 (fun r12 ws12 _ hr12 => ?_)
    obtain ⟨rfl, rfl⟩ := hr12
    have hq : (-2) = qTurns (cl (X 0)) (X 12 0) (X 12 1) (X 12 2) (uR (X 12)) (X 12 3 0) w := by unfold qTurns; (repeat' split) <;> omega
    exact K xw_same ⟨_, rfl, iIc hq, (sX_18 sX_0 rfl rfl rfl), (by rw [← hq]; exact (rfa_r (by omega)).symm)⟩ rfl dX5_turns_15
  · skip
    refine g_iload_n F 1 dX5_turns_4 rfl ?_
    refine g_iconst F dX5_turns_5 ?_
    refine g_icmp_le F 16 (by omega) dX5_turns_6 (by decide) (fun c6 => ?_) (fun c6 => ?_)
    · skip
      refine g_aload_n F 0 dX5_turns_16 rfl ?_
      refine g18_get_1 F  lf_X5_19 dX5_turns_17 ?_
      refine g_callNI F (stk := [.ref (xa 12 100)]) (st := []) (k_X2_free κ xa X 0 (by decide) (show (0 ≤ ((X 12) 3 0) ∧ ((X 12) 3 0) ≤ 6) ∧ 0 ≤ ((X 12) 4 0) ∧ ((X 12) 4 0) < 64 from by omega)) cal_X2_free nm_X5_235 60 rfl rfl rfl rfl (by decide) rfl (Nat.le_of_ble_eq_true rfl) dX5_turns_20 (fun r20 ws20 _ hr20 => ?_)
      obtain ⟨rfl, rfl⟩ := hr20
      refine g_top (y := iI n) (iIc (by rw [hfc, hnn])) ?_
      refine g_iconst F dX5_turns_23 ?_
      refine g_icmp_le F 34 (by omega) dX5_turns_24 (by decide) (fun c24 => ?_) (fun c24 => ?_)
      · skip
        refine g_aload_n F 0 dX5_turns_34 rfl ?_
        refine g18_get_1 F  lf_X5_19 dX5_turns_35 ?_
        refine g_callNI F (stk := [.ref (xa 12 100)]) (st := []) (k_X2_free κ xa X 0 (by decide) (show (0 ≤ ((X 12) 3 0) ∧ ((X 12) 3 0) ≤ 6) ∧ 0 ≤ ((X 12) 4 0) ∧ ((X 12) 4 0) < 64 from by omega)) cal_X2_free nm_X5_235 60 rfl rfl rfl rfl (by decide) rfl (Nat.le_of_ble_eq_true rfl) dX5_turns_38 (fun r38 ws38 _ hr38 => ?_)
        obtain ⟨rfl, rfl⟩ := hr38
        refine g_top (y := iI n) (iIc (by rw [hfc, hnn])) ?_
        refine g_if_ne F 47 (by omega) dX5_turns_41 (by decide) (fun c41 => ?_) (fun c41 => ?_)
        · skip
          obtain ⟨fr, hfr⟩ : ∃ fr : Int → Int, fr = flA (X 17 0) (uR (X 12)) (X 12 3 0) := ⟨_, rfl⟩
          have hF : isFr fr (uR (X 12)) (X 12 3 0) := by rw [hfr]; exact isFr_fl _ _ hn.1.1
          have hfE : ∀ i : Int, 0 ≤ i → i < n → fr i = frP (uR (X 12)) (X 12 3 0) i := fun i a b => isFr_eq hF (isFr_fl _ _ hn.1.1) i a (by omega)
          have hfr6 : ∀ i : Int, 0 ≤ i → i < n → 0 ≤ fr i ∧ fr i < 6 := fun i a b => by have q := (hF.1 i a (by omega)).1; omega
          have hpr : ∀ i : Int, 0 ≤ i → i < n → (0 ≤ X 12 0 (fr i) ∧ X 12 0 (fr i) ≤ 5) ∧ (0 ≤ X 12 1 (fr i) ∧ X 12 1 (fr i) ≤ 9) ∧ 0 ≤ X 12 2 (fr i) ∧ X 12 2 (fr i) ≤ 99 := fun i a b => okr.p (p := fr i) (hfr6 i a b).1 (hfr6 i a b).2
          have hlf : okL (leaf (cl (X 0)) (X 12 0) (X 12 1) (X 12 2) fr n) := fun a => allPull_bd (asC_ok ok hpr).A
          have hn13 : 1 ≤ n ∧ n ≤ 3 := by omega
          refine g_aload_n F 0 dX5_turns_47 rfl ?_
          refine g18_get_13 F  lf_X5_62 dX5_turns_48 ?_
          refine g_aload_n F 0 dX5_turns_51 rfl ?_
          refine g18_get_1 F  lf_X5_19 dX5_turns_52 ?_
          refine g_callNV F (stk := [.ref (xa 12 100), .ref (xa 17 100)]) (st := []) (k_X4_gather κ xa X okr (show frc (uR (X 12)) (X 12 3 0) ≤ 3 by omega)) cal_X4_gather nm_X5_238 77 rfl rfl rfl rfl (by decide) rfl (Nat.le_of_ble_eq_true rfl) dX5_turns_55 (fun ws55 _ hr55 => ?_)
          obtain rfl := hr55
          refine g_ws (ws' := xw κ xa (setO X 17 (mA (mA (X 17) 3 (fun _ => n)) 0 fr))) (by rw [hnn, hfr]) ?_
          refine g_aload_n F 0 dX5_turns_58 rfl ?_
          refine g18_get_13 F  lf_X5_62 dX5_turns_59 ?_
          refine g_aload_n F 0 dX5_turns_62 rfl ?_
          refine g18_get_0 F  lf_X5_10 dX5_turns_63 ?_
          refine g_aload_n F 0 dX5_turns_66 rfl ?_
          refine g18_get_1 F  lf_X5_19 dX5_turns_67 ?_
          refine g_aload_n F 0 dX5_turns_70 rfl ?_
          refine g18_get_10 F  lf_X5_50 dX5_turns_71 ?_
          refine g_callNV F (stk := [.ref (xa 2 100), .ref (xa 12 100), .ref (xa 0 100), .ref (xa 17 100)]) (st := []) (k_X4_reckon κ xa (setO X 17 (mA (mA (X 17) 3 (fun _ => n)) 0 fr)) (show 1 ≤ n ∧ n ≤ 3 by omega) ok hfr6 okr) cal_X4_reckon nm_X5_241 77 rfl rfl rfl rfl (by decide) rfl (Nat.le_of_ble_eq_true rfl) dX5_turns_74 (fun ws74 _ hr74 => ?_)
          obtain ⟨a, P, D, rfl, hra, hT⟩ := hr74
          have hT : tabP (cl (X 0)) (X 12 0) (X 12 1) (X 12 2) fr n P (pwT n) := hT
          refine g_ws (ws' := xw κ xa (setO (setO X 17 (mA (mA (mA (mA (X 17) 3 (fun _ => n)) 0 fr) 1 a) 2 P)) 2 D)) rfl ?_
          refine g_aload_n F 0 dX5_turns_77 rfl ?_
          refine g18_get_13 F  lf_X5_62 dX5_turns_78 ?_
          refine g_callNV F (stk := [.ref (xa 17 100)]) (st := []) (k_X4_takeOff κ xa (setO (setO X 17 (mA (mA (mA (mA (X 17) 3 (fun _ => n)) 0 fr) 1 a) 2 P)) 2 D)) cal_X4_takeOff nm_X5_256 77 rfl rfl rfl rfl (by decide) rfl (Nat.le_of_ble_eq_true rfl) dX5_turns_81 (fun ws81 _ hr81 => ?_)
          obtain rfl := hr81
          refine g_ws (ws' := xw κ xa (setO (setO (setO X 17 (mA (mA (mA (mA (X 17) 3 (fun _ => n)) 0 fr) 1 a) 2 P)) 2 D) 17 (mA (mA (mA (mA (mA (X 17) 3 (fun _ => n)) 0 fr) 1 a) 2 P) 1 (upTo a (fun _ => -1) 3)))) rfl ?_
          refine g_ws (ws' := xw κ xa (setO (setO X 17 (mA (mA (mA (mA (X 17) 3 (fun _ => n)) 0 fr) 2 P) 1 (upTo a (fun _ => -1) 3))) 2 D)) rfl ?_
          have hT2 : ∀ b : Int → Int, gA b n n → P (nmI b n) = leaf (cl (X 0)) (X 12 0) (X 12 1) (X 12 2) fr n b := fun b hb => by have hq := gA_n hb (by omega) (by omega); have hk := nm_bd (a := b) (n := n) (fun j x y => (hb.r j x y).2) (by omega) (by omega); have hd := nm_dg (a := b) (n := n) (by omega) (by omega) hq.1; rcases hT _ hk.1 hk.2 with ⟨q1, q2⟩ | ⟨q1, q2⟩; (rw [q2]; exact congrArg allPull (asC_at _ _ _ _ _ hd)); exact absurd ((apP_eq hd).mpr hq.2) q1
          have hLc : ∀ a b : Int → Int, (∀ j : Int, 0 ≤ j → j < 3 → a j = b j) → leaf (cl (X 0)) (X 12 0) (X 12 1) (X 12 2) fr n a = leaf (cl (X 0)) (X 12 0) (X 12 1) (X 12 2) fr n b := fun a b h => congrArg allPull (asC_at _ _ _ _ _ (fun j x y => h j x (by omega)))
          refine g_iconst F dX5_turns_84 ?_
          refine g_istore_n F (lv' := [(2, .int (iI 0)), (0, .ref (xa 18 100)), (1, .int (iI w))]) 2 dX5_turns_85 rfl (by decide) rfl ?_
          refine g_ldc F (z := 2147483647) lc_X5_234 (by decide +kernel) dX5_turns_86 ?_
          refine g_istore_n F (lv' := [(3, .int (iI 2147483647)), (2, .int (iI 0)), (0, .ref (xa 18 100)), (1, .int (iI w))]) 3 dX5_turns_88 rfl (by decide) rfl ?_
          refine g_iconst F dX5_turns_89 ?_
          refine g_istore F (lv' := [(4, .int (iI 0)), (3, .int (iI 2147483647)), (2, .int (iI 0)), (0, .ref (xa 18 100)), (1, .int (iI w))]) dX5_turns_90 (by decide) rfl ?_
          have L92 : ∀ (mz92 : Nat) (i : Int) (f : Int) (l : Int) (aa : Int → Int), (n - i).toNat = mz92 → (0 ≤ i ∧ i ≤ n) → (∀ j : Int, 0 ≤ j → j < 3 → aa j = -1) → (smn (vL (fun _ => -1) n) (vF (leaf (cl (X 0)) (X 12 0) (X 12 1) (X 12 2) fr n) n (n - 0 - 1).toNat 0 (fun _ => -1)) (fun t => 100 * fr (t / 12) + t % 12) (0, MAXI) (12 * i) = (f, l)) → (0 ≤ l ∧ l ≤ 2147483647) → G E (xw κ xa (setO (setO X 17 (mA (mA (mA (mA (X 17) 3 (fun _ => n)) 0 fr) 2 P) 1 aa)) 2 D)) [(4, .int (iI i)), (3, .int (iI l)), (2, .int (iI f)), (0, .ref (xa 18 100)), (1, .int (iI w))] 92 [] := by
            intro mz92
            induction mz92 using Nat.strongRecOn with
            | _ mz92 ih92 =>
            intro i f l aa hmz92 hi haa hs hl
            refine g_iload F 0 dX5_turns_92 rfl ?_
            refine g_aload_n F 3 dX5_turns_94 rfl ?_
            refine g18_get_13 F  lf_X5_62 dX5_turns_95 ?_
            refine g17_getN_3 F  nf_X5_259 dX5_turns_98 ?_
            refine g_top (y := iI n) rfl ?_
            refine g_icmp_ge F 185 (by omega) dX5_turns_101 (by decide) (fun c101 => ?_) (fun c101 => ?_)
            · skip
              have hs2e : smn (vL (fun _ => -1) n) (vF (leaf (cl (X 0)) (X 12 0) (X 12 1) (X 12 2) fr n) n (n - 0 - 1).toNat 0 (fun _ => -1)) (fun t => 100 * fr (t / 12) + t % 12) (0, MAXI) (12 * n) = (f, l) := by rw [show 12 * n = 12 * i by omega]; exact hs
              have hmp := smn_map (ok := vL (fun _ => -1) n) (f := vF (leaf (cl (X 0)) (X 12 0) (X 12 1) (X 12 2) fr n) n (n - 0 - 1).toNat 0 (fun _ => -1)) (g := fun t => 100 * fr (t / 12) + t % 12) (x := 0) (y := -9) (12 * n).toNat
              have hpi := pr0_in hlf (n := n) (by omega) (by omega)
              have hm1 : (smn (vL (fun _ => -1) n) (vF (leaf (cl (X 0)) (X 12 0) (X 12 1) (X 12 2) fr n) n (n - 0 - 1).toNat 0 (fun _ => -1)) (fun t => 100 * fr (t / 12) + t % 12) (0, MAXI) (12 * n)).2 = (pr0 (leaf (cl (X 0)) (X 12 0) (X 12 1) (X 12 2) fr n) n (12 * n)).2 := hmp.1
              have hm2 : (pr0 (leaf (cl (X 0)) (X 12 0) (X 12 1) (X 12 2) fr n) n (12 * n)).2 = MAXI ∨ (smn (vL (fun _ => -1) n) (vF (leaf (cl (X 0)) (X 12 0) (X 12 1) (X 12 2) fr n) n (n - 0 - 1).toNat 0 (fun _ => -1)) (fun t => 100 * fr (t / 12) + t % 12) (0, MAXI) (12 * n)).1 = 100 * fr ((pr0 (leaf (cl (X 0)) (X 12 0) (X 12 1) (X 12 2) fr n) n (12 * n)).1 / 12) + (pr0 (leaf (cl (X 0)) (X 12 0) (X 12 1) (X 12 2) fr n) n (12 * n)).1 % 12 := hmp.2
              rw [hs2e] at hm1 hm2
              have hm1 : l = (pr0 (leaf (cl (X 0)) (X 12 0) (X 12 1) (X 12 2) fr n) n (12 * n)).2 := hm1
              have hm2 : f = 100 * fr ((pr0 (leaf (cl (X 0)) (X 12 0) (X 12 1) (X 12 2) fr n) n (12 * n)).1 / 12) + (pr0 (leaf (cl (X 0)) (X 12 0) (X 12 1) (X 12 2) fr n) n (12 * n)).1 % 12 := hm2.resolve_left (fun z => by have q := hpi.1.2; rw [z] at q; exact absurd q (by decide))
              have hf6 := hfr6 ((pr0 (leaf (cl (X 0)) (X 12 0) (X 12 1) (X 12 2) fr n) n (12 * n)).1 / 12) (by omega) (by omega)
              have hl0 : 0 ≤ l ∧ l ≤ 3000 := by rw [hm1]; exact hpi.1
              have hf0 : 0 ≤ f := by omega
              rw [leaf_fr _ _ _ _ hfE] at hm1
              rw [hfE _ (by omega) (by omega), leaf_fr _ _ _ _ hfE] at hm2
              refine g_iload_n F 4 dX5_turns_185 rfl ?_
              refine g_if_ne F 193 (by omega) dX5_turns_186 (by decide) (fun c186 => ?_) (fun c186 => ?_)
              · skip
                refine g_iload_n F 2 dX5_turns_193 rfl ?_
                have hq : f = qTurns (cl (X 0)) (X 12 0) (X 12 1) (X 12 2) (uR (X 12)) (X 12 3 0) w := by unfold qTurns; rw [if_neg (by omega), ← hnn, if_neg (by omega), if_neg (by omega)]; first | (rw [if_pos (by omega)]; exact hm1) | (rw [if_neg (by omega)]; exact hm2)
                exact K xw_same ⟨_, rfl, iIc hq, (sX_o (sX_o sX_0 (by decide)) (by decide)), (by rw [← hq]; exact (rfa_n (by omega)).symm)⟩ rfl dX5_turns_194
              · skip
                refine g_iload_n F 1 dX5_turns_189 rfl ?_
                refine g_goto F 194 dX5_turns_190 (by decide) ?_
                have hq : l = qTurns (cl (X 0)) (X 12 0) (X 12 1) (X 12 2) (uR (X 12)) (X 12 3 0) w := by unfold qTurns; rw [if_neg (by omega), ← hnn, if_neg (by omega), if_neg (by omega)]; first | (rw [if_pos (by omega)]; exact hm1) | (rw [if_neg (by omega)]; exact hm2)
                exact K xw_same ⟨_, rfl, iIc hq, (sX_o (sX_o sX_0 (by decide)) (by decide)), (by rw [← hq]; exact (rfa_n (by omega)).symm)⟩ rfl dX5_turns_194
            · skip
              refine g_iconst F dX5_turns_104 ?_
              refine g_istore F (lv' := [(5, .int (iI 0)), (4, .int (iI i)), (3, .int (iI l)), (2, .int (iI f)), (0, .ref (xa 18 100)), (1, .int (iI w))]) dX5_turns_105 (by decide) rfl ?_
              have L107 : ∀ (mz107 : Nat) (c : Int) (f2 : Int) (l2 : Int) (ab : Int → Int), (12 - c).toNat = mz107 → (0 ≤ c ∧ c ≤ 12) → (∀ j : Int, 0 ≤ j → j < 3 → j ≠ i → ab j = -1) → (smn (vL (fun _ => -1) n) (vF (leaf (cl (X 0)) (X 12 0) (X 12 1) (X 12 2) fr n) n (n - 0 - 1).toNat 0 (fun _ => -1)) (fun t => 100 * fr (t / 12) + t % 12) (0, MAXI) (12 * i + c) = (f2, l2)) → (0 ≤ l2 ∧ l2 ≤ 2147483647) → G E (xw κ xa (setO (setO X 17 (mA (mA (mA (mA (X 17) 3 (fun _ => n)) 0 fr) 2 P) 1 ab)) 2 D)) [(5, .int (iI c)), (4, .int (iI i)), (3, .int (iI l2)), (2, .int (iI f2)), (0, .ref (xa 18 100)), (1, .int (iI w))] 107 [] := by
                intro mz107
                induction mz107 using Nat.strongRecOn with
                | _ mz107 ih107 =>
                intro c f2 l2 ab hmz107 hc hab hs2 hl2
                refine g_iload F 0 dX5_turns_107 rfl ?_
                refine g_bipush F dX5_turns_109 (by decide +kernel) ?_
                refine g_icmp_ge F 168 (by omega) dX5_turns_111 (by decide) (fun c111 => ?_) (fun c111 => ?_)
                · skip
                  refine g_aload_n F 4 dX5_turns_168 rfl ?_
                  refine g18_get_13 F  lf_X5_62 dX5_turns_169 ?_
                  refine g17_getN_1 F  nf_X5_260 dX5_turns_172 ?_
                  refine g_iload F 1 dX5_turns_175 rfl ?_
                  refine g_iconst F dX5_turns_177 ?_
                  refine g17_ast_1 F  (by omega) dX5_turns_178 ?_
                  refine g_ws (ws' := xw κ xa (setO (setO (setO X 17 (mA (mA (mA (mA (X 17) 3 (fun _ => n)) 0 fr) 2 P) 1 ab)) 2 D) 17 (mA (mA (mA (mA (X 17) 3 (fun _ => n)) 0 fr) 2 P) 1 (uI ab i (-1))))) rfl ?_
                  refine g_iinc F (lv' := [(4, .int (iI (i + 1))), (5, .int (iI c)), (3, .int (iI l2)), (2, .int (iI f2)), (0, .ref (xa 18 100)), (1, .int (iI w))]) 1 dX5_turns_179 rfl (by decide) rfl ?_
                  refine g_goto F 92 dX5_turns_182 (by decide) ?_
                  refine g_sub F (lv' := [(4, .int (iI (i + 1))), (3, .int (iI l2)), (2, .int (iI f2)), (0, .ref (xa 18 100)), (1, .int (iI w))]) [0, 2, 3, 4, 5] rfl ?_
                  refine g_ws (ws' := xw κ xa (setO (setO X 17 (mA (mA (mA (mA (X 17) 3 (fun _ => n)) 0 fr) 2 P) 1 (uI ab i (-1)))) 2 D)) rfl ?_
                  exact ih92 _ (by omega) (i + 1) f2 l2 (uI ab i (-1)) rfl (by omega) (fun j x y => by by_cases q : j = i <;> first | (rw [q, uI_s]) | (rw [uI_n q]; exact hab j x y q)) (by rw [show 12 * (i + 1) = 12 * i + c by omega]; exact hs2) (by omega)
                · skip
                  refine g_aload_n F 4 dX5_turns_114 rfl ?_
                  refine g18_get_13 F  lf_X5_62 dX5_turns_115 ?_
                  refine g17_getN_1 F  nf_X5_260 dX5_turns_118 ?_
                  refine g_iload F 1 dX5_turns_121 rfl ?_
                  refine g_iload F 0 dX5_turns_123 rfl ?_
                  refine g17_ast_1 F  (by omega) dX5_turns_125 ?_
                  refine g_ws (ws' := xw κ xa (setO (setO (setO X 17 (mA (mA (mA (mA (X 17) 3 (fun _ => n)) 0 fr) 2 P) 1 ab)) 2 D) 17 (mA (mA (mA (mA (X 17) 3 (fun _ => n)) 0 fr) 2 P) 1 (uI ab i c)))) rfl ?_
                  have hlg : legal (fun _ => -1) n (12 * i + c) := ⟨rfl, fun q => by rcases q with q | q | q <;> (have z : (-1 : Int) = (12 * i + c) % 12 := q.2; omega)⟩
                  have hae : ∀ j : Int, 0 ≤ j → j < 3 → uI ab i c j = uI (fun _ => -1) ((12 * i + c) / 12) ((12 * i + c) % 12) j := fun j x y => by rw [show (12 * i + c) / 12 = i by omega, show (12 * i + c) % 12 = c by omega]; by_cases q : j = i <;> first | (rw [q, uI_s, uI_s]) | (rw [uI_n q, uI_n q]; exact hab j x y q)
                  have hGs : gA (uI ab i c) n 1 := gA_eq hae (gA_s (gA_0 (fun _ _ _ => rfl)) hlg (by omega) (by omega) (by omega))
                  have hvF : val (leaf (cl (X 0)) (X 12 0) (X 12 1) (X 12 2) fr n) n (n - 0 - 1).toNat (0 + 1) (uI ab i c) = vF (leaf (cl (X 0)) (X 12 0) (X 12 1) (X 12 2) fr n) n (n - 0 - 1).toNat 0 (fun _ => -1) (12 * i + c) := val_eq hLc (by omega) _ _ _ _ hae
                  have hvr := vF_rng hlf (n := n) (by omega) (by omega) (r := (n - 0 - 1).toNat) (p := 0) (a := fun _ => -1) (by rw [show n - ((n - 0 - 1).toNat : Int) - 1 = 0 by omega]; exact gA_0 (fun _ _ _ => rfl)) (t := 12 * i + c) (by omega) (by omega) hlg
                  refine g_aload_n F 4 dX5_turns_126 rfl ?_
                  refine g18_get_13 F  lf_X5_62 dX5_turns_127 ?_
                  refine g_iconst F dX5_turns_130 ?_
                  refine g_callSI F (stk := [.int (iI 1), .ref (xa 17 100)]) (st := []) (k_X5_endOf_top κ xa (setO (setO (setO X 17 (mA (mA (mA (mA (X 17) 3 (fun _ => n)) 0 fr) 2 P) 1 ab)) 2 D) 17 (mA (mA (mA (mA (X 17) 3 (fun _ => n)) 0 fr) 2 P) 1 (uI ab i c))) (leaf (cl (X 0)) (X 12 0) (X 12 1) (X 12 2) fr n) hn13 hlf hGs hT2) cal_X5_endOf lm_X5_263 rfl (by decide) rfl (Nat.le_of_ble_eq_true rfl) dX5_turns_131 (fun r131 ws131 _ hr131 => ?_)
                  obtain ⟨rfl, rfl⟩ := hr131
                  refine g_top (y := iI (vF (leaf (cl (X 0)) (X 12 0) (X 12 1) (X 12 2) fr n) n (n - 0 - 1).toNat 0 (fun _ => -1) (12 * i + c))) (iIc hvF) ?_
                  refine g_istore F (lv' := [(6, .int (iI (vF (leaf (cl (X 0)) (X 12 0) (X 12 1) (X 12 2) fr n) n (n - 0 - 1).toNat 0 (fun _ => -1) (12 * i + c)))), (5, .int (iI c)), (4, .int (iI i)), (3, .int (iI l2)), (2, .int (iI f2)), (0, .ref (xa 18 100)), (1, .int (iI w))]) dX5_turns_134 (by decide) rfl ?_
                  refine g_iload F 0 dX5_turns_136 rfl ?_
                  refine g_iload_n F 3 dX5_turns_138 rfl ?_
                  refine g_icmp_ge F 162 (by omega) dX5_turns_139 (by decide) (fun c139 => ?_) (fun c139 => ?_)
                  · skip
                    refine g_iinc F (lv' := [(5, .int (iI (c + 1))), (6, .int (iI (vF (leaf (cl (X 0)) (X 12 0) (X 12 1) (X 12 2) fr n) n (n - 0 - 1).toNat 0 (fun _ => -1) (12 * i + c)))), (4, .int (iI i)), (3, .int (iI l2)), (2, .int (iI f2)), (0, .ref (xa 18 100)), (1, .int (iI w))]) 1 dX5_turns_162 rfl (by decide) rfl ?_
                    refine g_goto F 107 dX5_turns_165 (by decide) ?_
                    refine g_sub F (lv' := [(5, .int (iI (c + 1))), (4, .int (iI i)), (3, .int (iI l2)), (2, .int (iI f2)), (0, .ref (xa 18 100)), (1, .int (iI w))]) [0, 2, 3, 4, 5, 6] rfl ?_
                    refine g_ws (ws' := xw κ xa (setO (setO X 17 (mA (mA (mA (mA (X 17) 3 (fun _ => n)) 0 fr) 2 P) 1 (uI ab i c))) 2 D)) rfl ?_
                    exact ih107 _ (by omega) (c + 1) f2 l2 (uI ab i c) rfl (by omega) (fun j x y q => by rw [uI_n q]; exact hab j x y q) (by rw [show 12 * i + (c + 1) = (12 * i + c) + 1 by omega]; exact smn_fx hs2 rfl (by omega) (Or.inr c139)) (by omega)
                  · skip
                    refine g_iload F 0 dX5_turns_142 rfl ?_
                    refine g_istore_n F (lv' := [(3, .int (iI (vF (leaf (cl (X 0)) (X 12 0) (X 12 1) (X 12 2) fr n) n (n - 0 - 1).toNat 0 (fun _ => -1) (12 * i + c)))), (6, .int (iI (vF (leaf (cl (X 0)) (X 12 0) (X 12 1) (X 12 2) fr n) n (n - 0 - 1).toNat 0 (fun _ => -1) (12 * i + c)))), (5, .int (iI c)), (4, .int (iI i)), (2, .int (iI f2)), (0, .ref (xa 18 100)), (1, .int (iI w))]) 3 dX5_turns_144 rfl (by decide) rfl ?_
                    refine g_bipush F dX5_turns_145 (by decide +kernel) ?_
                    refine g_aload_n F 5 dX5_turns_147 rfl ?_
                    refine g18_get_13 F  lf_X5_62 dX5_turns_148 ?_
                    have hf6 := hfr6 i (by omega) (by omega)
                    refine g17_getN_0 F  nf_X5_267 dX5_turns_151 ?_
                    refine g_iload F 3 dX5_turns_154 rfl ?_
                    refine g17_ald_0 F  (by omega) dX5_turns_156 ?_
                    refine g_top (y := iI (fr i)) rfl ?_
                    refine g_imul F dX5_turns_157 ?_
                    refine g_iload F 2 dX5_turns_158 rfl ?_
                    refine g_iadd F dX5_turns_160 ?_
                    refine g_istore_n F (lv' := [(2, .int (iI ((100 * (fr i)) + c))), (3, .int (iI (vF (leaf (cl (X 0)) (X 12 0) (X 12 1) (X 12 2) fr n) n (n - 0 - 1).toNat 0 (fun _ => -1) (12 * i + c)))), (6, .int (iI (vF (leaf (cl (X 0)) (X 12 0) (X 12 1) (X 12 2) fr n) n (n - 0 - 1).toNat 0 (fun _ => -1) (12 * i + c)))), (5, .int (iI c)), (4, .int (iI i)), (0, .ref (xa 18 100)), (1, .int (iI w))]) 2 dX5_turns_161 rfl (by decide) rfl ?_
                    refine g_iinc F (lv' := [(5, .int (iI (c + 1))), (2, .int (iI ((100 * (fr i)) + c))), (3, .int (iI (vF (leaf (cl (X 0)) (X 12 0) (X 12 1) (X 12 2) fr n) n (n - 0 - 1).toNat 0 (fun _ => -1) (12 * i + c)))), (6, .int (iI (vF (leaf (cl (X 0)) (X 12 0) (X 12 1) (X 12 2) fr n) n (n - 0 - 1).toNat 0 (fun _ => -1) (12 * i + c)))), (4, .int (iI i)), (0, .ref (xa 18 100)), (1, .int (iI w))]) 3 dX5_turns_162 rfl (by decide) rfl ?_
                    refine g_goto F 107 dX5_turns_165 (by decide) ?_
                    refine g_sub F (lv' := [(5, .int (iI (c + 1))), (4, .int (iI i)), (3, .int (iI (vF (leaf (cl (X 0)) (X 12 0) (X 12 1) (X 12 2) fr n) n (n - 0 - 1).toNat 0 (fun _ => -1) (12 * i + c)))), (2, .int (iI ((100 * (fr i)) + c))), (0, .ref (xa 18 100)), (1, .int (iI w))]) [0, 4, 2, 1, 5, 6] rfl ?_
                    refine g_ws (ws' := xw κ xa (setO (setO X 17 (mA (mA (mA (mA (X 17) 3 (fun _ => n)) 0 fr) 2 P) 1 (uI ab i c))) 2 D)) rfl ?_
                    exact ih107 _ (by omega) (c + 1) ((100 * (fr i)) + c) (vF (leaf (cl (X 0)) (X 12 0) (X 12 1) (X 12 2) fr n) n (n - 0 - 1).toNat 0 (fun _ => -1) (12 * i + c)) (uI ab i c) rfl (by omega) (fun j x y q => by rw [uI_n q]; exact hab j x y q) (by rw [show 12 * i + (c + 1) = (12 * i + c) + 1 by omega]; exact smn_tx hs2 (by show 100 * fr ((12 * i + c) / 12) + (12 * i + c) % 12 = 100 * fr i + c; rw [show (12 * i + c) / 12 = i by omega, show (12 * i + c) % 12 = c by omega]) rfl (by omega) (decide_eq_true hlg) c139) (by omega)
              refine g_sub F (lv' := [(5, .int (iI 0)), (4, .int (iI i)), (3, .int (iI l)), (2, .int (iI f)), (0, .ref (xa 18 100)), (1, .int (iI w))]) [0, 1, 2, 3, 4, 5] rfl ?_
              exact L107 _ 0 f l aa rfl (by omega) (fun j x y _ => haa j x y) (by rw [Int.add_zero]; exact hs) (by omega)
          refine g_sub F (lv' := [(4, .int (iI 0)), (3, .int (iI 2147483647)), (2, .int (iI 0)), (0, .ref (xa 18 100)), (1, .int (iI w))]) [0, 1, 2, 3, 4] rfl ?_
          exact L92 _ 0 0 2147483647 (upTo a (fun _ => -1) 3) rfl (by omega) (fun j x y => upTo_in x y) rfl (by omega)
        · skip
          refine g_bipush F dX5_turns_44 (by decide +kernel) ?_
          have hq : -9 = qTurns (cl (X 0)) (X 12 0) (X 12 1) (X 12 2) (uR (X 12)) (X 12 3 0) w := by unfold qTurns; (repeat' split) <;> omega
          exact K xw_same ⟨_, rfl, iIc hq, sX_0, (by rw [← hq]; exact (rfa_n (by omega)).symm)⟩ rfl dX5_turns_46
      · skip
        refine g_aload_n F 0 dX5_turns_27 rfl ?_
        refine g_bipush F dX5_turns_28 (by decide +kernel) ?_
        refine g_callI F (stk := [.int (iI (-3)), .ref (xa 18 100)]) (st := []) (k_X5_refuse κ xa X (-3) (by omega)) cal_X5_refuse lm_X5_69 81 rfl rfl rfl rfl (by decide) rfl (Nat.le_of_ble_eq_true rfl) dX5_turns_30 (fun r30 ws30 _ hr30 => ?_)
        obtain ⟨rfl, rfl⟩ := hr30
        have hq : (-3) = qTurns (cl (X 0)) (X 12 0) (X 12 1) (X 12 2) (uR (X 12)) (X 12 3 0) w := by unfold qTurns; (repeat' split) <;> omega
        exact K xw_same ⟨_, rfl, iIc hq, (sX_18 sX_0 rfl rfl rfl), (by rw [← hq]; exact (rfa_r (by omega)).symm)⟩ rfl dX5_turns_33
    · skip
      refine g_aload_n F 0 dX5_turns_9 rfl ?_
      refine g_bipush F dX5_turns_10 (by decide +kernel) ?_
      refine g_callI F (stk := [.int (iI (-2)), .ref (xa 18 100)]) (st := []) (k_X5_refuse κ xa X (-2) (by omega)) cal_X5_refuse lm_X5_69 81 rfl rfl rfl rfl (by decide) rfl (Nat.le_of_ble_eq_true rfl) dX5_turns_12 (fun r12 ws12 _ hr12 => ?_)
      obtain ⟨rfl, rfl⟩ := hr12
      have hq : (-2) = qTurns (cl (X 0)) (X 12 0) (X 12 1) (X 12 2) (uR (X 12)) (X 12 3 0) w := by unfold qTurns; (repeat' split) <;> omega
      exact K xw_same ⟨_, rfl, iIc hq, (sX_18 sX_0 rfl rfl rfl), (by rw [← hq]; exact (rfa_r (by omega)).symm)⟩ rfl dX5_turns_15
