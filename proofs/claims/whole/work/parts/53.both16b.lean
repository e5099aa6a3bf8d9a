theorem dX5_endOf_0 : decode cX5_endOf 0 = .ok (.iload_n 1, 1) := by decide +kernel
theorem dX5_endOf_1 : decode cX5_endOf 1 = .ok (.aload_n 0, 1) := by decide +kernel
theorem dX5_endOf_2 : decode cX5_endOf 2 = .ok (.getfield 259, 3) := by decide +kernel
theorem dX5_endOf_5 : decode cX5_endOf 5 = .ok (.if_icmp .lt 13, 3) := by decide +kernel
theorem dX5_endOf_8 : decode cX5_endOf 8 = .ok (.aload_n 0, 1) := by decide +kernel
theorem dX5_endOf_9 : decode cX5_endOf 9 = .ok (.getfield 248, 3) := by decide +kernel
theorem dX5_endOf_12 : decode cX5_endOf 12 = .ok (.aload_n 0, 1) := by decide +kernel
theorem dX5_endOf_13 : decode cX5_endOf 13 = .ok (.invokevirtual 270, 3) := by decide +kernel
theorem dX5_endOf_16 : decode cX5_endOf 16 = .ok (.iaload, 1) := by decide +kernel
theorem dX5_endOf_17 : decode cX5_endOf 17 = .ok (.ireturn, 1) := by decide +kernel
theorem dX5_endOf_18 : decode cX5_endOf 18 = .ok (.iload_n 1, 1) := by decide +kernel
theorem dX5_endOf_19 : decode cX5_endOf 19 = .ok (.iconst 2, 1) := by decide +kernel
theorem dX5_endOf_20 : decode cX5_endOf 20 = .ok (.irem, 1) := by decide +kernel
theorem dX5_endOf_21 : decode cX5_endOf 21 = .ok (.ifCond .ne 7, 3) := by decide +kernel
theorem dX5_endOf_24 : decode cX5_endOf 24 = .ok (.iconst 1, 1) := by decide +kernel
theorem dX5_endOf_25 : decode cX5_endOf 25 = .ok (.goto 4, 3) := by decide +kernel
theorem dX5_endOf_28 : decode cX5_endOf 28 = .ok (.iconst 0, 1) := by decide +kernel
theorem dX5_endOf_29 : decode cX5_endOf 29 = .ok (.istore_n 2, 1) := by decide +kernel
theorem dX5_endOf_30 : decode cX5_endOf 30 = .ok (.iload_n 2, 1) := by decide +kernel
theorem dX5_endOf_31 : decode cX5_endOf 31 = .ok (.ifCond .eq 8, 3) := by decide +kernel
theorem dX5_endOf_34 : decode cX5_endOf 34 = .ok (.ldc 234, 2) := by decide +kernel
theorem dX5_endOf_36 : decode cX5_endOf 36 = .ok (.goto 4, 3) := by decide +kernel
theorem dX5_endOf_39 : decode cX5_endOf 39 = .ok (.iconst (-1), 1) := by decide +kernel
theorem dX5_endOf_40 : decode cX5_endOf 40 = .ok (.istore_n 3, 1) := by decide +kernel
theorem dX5_endOf_41 : decode cX5_endOf 41 = .ok (.iconst 0, 1) := by decide +kernel
theorem dX5_endOf_42 : decode cX5_endOf 42 = .ok (.istore 4, 2) := by decide +kernel
theorem dX5_endOf_44 : decode cX5_endOf 44 = .ok (.iload 4, 2) := by decide +kernel
theorem dX5_endOf_46 : decode cX5_endOf 46 = .ok (.aload_n 0, 1) := by decide +kernel
theorem dX5_endOf_47 : decode cX5_endOf 47 = .ok (.getfield 259, 3) := by decide +kernel
theorem dX5_endOf_50 : decode cX5_endOf 50 = .ok (.if_icmp .ge 97, 3) := by decide +kernel
theorem dX5_endOf_53 : decode cX5_endOf 53 = .ok (.aload_n 0, 1) := by decide +kernel
theorem dX5_endOf_54 : decode cX5_endOf 54 = .ok (.getfield 260, 3) := by decide +kernel
theorem dX5_endOf_57 : decode cX5_endOf 57 = .ok (.iload 4, 2) := by decide +kernel
theorem dX5_endOf_59 : decode cX5_endOf 59 = .ok (.iaload, 1) := by decide +kernel
theorem dX5_endOf_60 : decode cX5_endOf 60 = .ok (.iconst (-1), 1) := by decide +kernel
theorem dX5_endOf_61 : decode cX5_endOf 61 = .ok (.if_icmp .eq 6, 3) := by decide +kernel
theorem dX5_endOf_64 : decode cX5_endOf 64 = .ok (.goto 77, 3) := by decide +kernel
theorem dX5_endOf_67 : decode cX5_endOf 67 = .ok (.iconst 0, 1) := by decide +kernel
theorem dX5_endOf_68 : decode cX5_endOf 68 = .ok (.istore 5, 2) := by decide +kernel
theorem dX5_endOf_70 : decode cX5_endOf 70 = .ok (.iload 5, 2) := by decide +kernel
theorem dX5_endOf_72 : decode cX5_endOf 72 = .ok (.bipush 12, 2) := by decide +kernel
theorem dX5_endOf_74 : decode cX5_endOf 74 = .ok (.if_icmp .ge 67, 3) := by decide +kernel
theorem dX5_endOf_77 : decode cX5_endOf 77 = .ok (.aload_n 0, 1) := by decide +kernel
theorem dX5_endOf_78 : decode cX5_endOf 78 = .ok (.iload 5, 2) := by decide +kernel
theorem dX5_endOf_80 : decode cX5_endOf 80 = .ok (.invokevirtual 272, 3) := by decide +kernel
theorem dX5_endOf_83 : decode cX5_endOf 83 = .ok (.ifCond .eq 6, 3) := by decide +kernel
theorem dX5_endOf_86 : decode cX5_endOf 86 = .ok (.goto 49, 3) := by decide +kernel
theorem dX5_endOf_89 : decode cX5_endOf 89 = .ok (.aload_n 0, 1) := by decide +kernel
theorem dX5_endOf_90 : decode cX5_endOf 90 = .ok (.getfield 260, 3) := by decide +kernel
theorem dX5_endOf_93 : decode cX5_endOf 93 = .ok (.iload 4, 2) := by decide +kernel
theorem dX5_endOf_95 : decode cX5_endOf 95 = .ok (.iload 5, 2) := by decide +kernel
theorem dX5_endOf_97 : decode cX5_endOf 97 = .ok (.iastore, 1) := by decide +kernel
theorem dX5_endOf_98 : decode cX5_endOf 98 = .ok (.aload_n 0, 1) := by decide +kernel
theorem dX5_endOf_99 : decode cX5_endOf 99 = .ok (.iload_n 1, 1) := by decide +kernel
theorem dX5_endOf_100 : decode cX5_endOf 100 = .ok (.iconst 1, 1) := by decide +kernel
theorem dX5_endOf_101 : decode cX5_endOf 101 = .ok (.iadd, 1) := by decide +kernel
theorem dX5_endOf_102 : decode cX5_endOf 102 = .ok (.invokestatic 263, 3) := by decide +kernel
theorem dX5_endOf_105 : decode cX5_endOf 105 = .ok (.istore 6, 2) := by decide +kernel
theorem dX5_endOf_107 : decode cX5_endOf 107 = .ok (.iload_n 2, 1) := by decide +kernel
theorem dX5_endOf_108 : decode cX5_endOf 108 = .ok (.ifCond .eq 12, 3) := by decide +kernel
theorem dX5_endOf_111 : decode cX5_endOf 111 = .ok (.iload_n 3, 1) := by decide +kernel
theorem dX5_endOf_112 : decode cX5_endOf 112 = .ok (.iload 6, 2) := by decide +kernel
theorem dX5_endOf_114 : decode cX5_endOf 114 = .ok (.invokestatic 275, 3) := by decide +kernel
theorem dX5_endOf_117 : decode cX5_endOf 117 = .ok (.goto 9, 3) := by decide +kernel
theorem dX5_endOf_120 : decode cX5_endOf 120 = .ok (.iload_n 3, 1) := by decide +kernel
theorem dX5_endOf_121 : decode cX5_endOf 121 = .ok (.iload 6, 2) := by decide +kernel
theorem dX5_endOf_123 : decode cX5_endOf 123 = .ok (.invokestatic 102, 3) := by decide +kernel
theorem dX5_endOf_126 : decode cX5_endOf 126 = .ok (.istore_n 3, 1) := by decide +kernel
theorem dX5_endOf_127 : decode cX5_endOf 127 = .ok (.aload_n 0, 1) := by decide +kernel
theorem dX5_endOf_128 : decode cX5_endOf 128 = .ok (.getfield 260, 3) := by decide +kernel
theorem dX5_endOf_131 : decode cX5_endOf 131 = .ok (.iload 4, 2) := by decide +kernel
theorem dX5_endOf_133 : decode cX5_endOf 133 = .ok (.iconst (-1), 1) := by decide +kernel
theorem dX5_endOf_134 : decode cX5_endOf 134 = .ok (.iastore, 1) := by decide +kernel
theorem dX5_endOf_135 : decode cX5_endOf 135 = .ok (.iinc 5 1, 3) := by decide +kernel
theorem dX5_endOf_138 : decode cX5_endOf 138 = .ok (.goto (-68), 3) := by decide +kernel
theorem dX5_endOf_141 : decode cX5_endOf 141 = .ok (.iinc 4 1, 3) := by decide +kernel
theorem dX5_endOf_144 : decode cX5_endOf 144 = .ok (.goto (-100), 3) := by decide +kernel
theorem dX5_endOf_147 : decode cX5_endOf 147 = .ok (.iload_n 3, 1) := by decide +kernel
theorem dX5_endOf_148 : decode cX5_endOf 148 = .ok (.ireturn, 1) := by decide +kernel
set_option maxRecDepth 100000 in
set_option maxHeartbeats 4000000 in
theorem k_X5_endOf_0_2 (κ : Kp) (xa : Nat → Nat → Nat) (X : XS) (Lf : (Int → Int) → Int) (pt : Int) (hn : 1 ≤ X 17 3 0 ∧ X 17 3 0 ≤ 3) (hp : pt = X 17 3 0 - 0) (hpp : 0 ≤ pt) (hL : okL Lf) (hG : gA (X 17 1) (X 17 3 0) pt) (hT : ∀ b : Int → Int, gA b (X 17 3 0) (X 17 3 0) → X 17 2 (nmI b (X 17 3 0)) = Lf b) : mI κ yX5_endOf cX5_endOf 7 .int 2 [.ref (xa 17 100), .int (iI pt)] (xw κ xa X) (is1 (iI (val Lf (X 17 3 0) 0 pt (X 17 1))) (xw κ xa X)) := by
  refine mI_of (by decide) (Nat.le_of_ble_eq_true rfl) (fun E F K => ?_)
  refine g_lv (lv' := [(0, .ref (xa 17 100)), (1, .int (iI pt))]) rfl ?_
  refine g_iload_n F 1 dX5_endOf_0 rfl ?_
  refine g_aload_n F 0 dX5_endOf_1 rfl ?_
  refine g17_getN_3 F  nf_X5_259 dX5_endOf_2 ?_
  refine g_icmp_lt F 18 (by omega) dX5_endOf_5 (by decide) (fun c5 => ?_) (fun c5 => ?_)
  · skip
    exact absurd trivial (by omega)
  · skip
    have hnb := nm_bd (a := X 17 1) (n := X 17 3 0) (fun j x y => (hG.r j x y).2) (by omega) (by omega)
    have hpw := pwT_bd (X 17 3 0)
    refine g_aload_n F 0 dX5_endOf_8 rfl ?_
    refine g17_getN_2 F  nf_X5_248 dX5_endOf_9 ?_
    refine g_aload_n F 0 dX5_endOf_12 rfl ?_
    refine g_callNI F (stk := [.ref (xa 17 100), .ref (xa 17 2)]) (st := [.ref (xa 17 2)]) (k_X4_number κ xa X (show 0 ≤ ((X 17) 3 0) ∧ ((X 17) 3 0) ≤ 3 from by omega) hG.r) cal_X4_number nm_X5_270 77 rfl rfl rfl rfl (by decide) rfl (Nat.le_of_ble_eq_true rfl) dX5_endOf_13 (fun r13 ws13 _ hr13 => ?_)
    obtain ⟨rfl, rfl⟩ := hr13
    refine g17_ald_2 F  (by omega) dX5_endOf_16 ?_
    exact K xw_same ⟨iIc (hT _ (by have e : X 17 3 0 = pt := (by omega); rw [← e] at hG; exact hG)), rfl⟩ rfl dX5_endOf_17
set_option maxRecDepth 100000 in
set_option maxHeartbeats 4000000 in
theorem k_X5_endOf_0_3 (κ : Kp) (xa : Nat → Nat → Nat) (X : XS) (Lf : (Int → Int) → Int) (pt : Int) (hn : 1 ≤ X 17 3 0 ∧ X 17 3 0 ≤ 3) (hp : pt = X 17 3 0 - 0) (hpp : 0 ≤ pt) (hL : okL Lf) (hG : gA (X 17 1) (X 17 3 0) pt) (hT : ∀ b : Int → Int, gA b (X 17 3 0) (X 17 3 0) → X 17 2 (nmI b (X 17 3 0)) = Lf b) : mI κ yX5_endOf cX5_endOf 7 .int 3 [.ref (xa 17 100), .int (iI pt)] (xw κ xa X) (is1 (iI (val Lf (X 17 3 0) 0 pt (X 17 1))) (xw κ xa X)) := by
  refine mI_of (by decide) (Nat.le_of_ble_eq_true rfl) (fun E F K => ?_)
  refine g_lv (lv' := [(0, .ref (xa 17 100)), (1, .int (iI pt))]) rfl ?_
  refine g_iload_n F 1 dX5_endOf_0 rfl ?_
  refine g_aload_n F 0 dX5_endOf_1 rfl ?_
  refine g17_getN_3 F  nf_X5_259 dX5_endOf_2 ?_
  refine g_icmp_lt F 18 (by omega) dX5_endOf_5 (by decide) (fun c5 => ?_) (fun c5 => ?_)
  · skip
    exact absurd trivial (by omega)
  · skip
    have hnb := nm_bd (a := X 17 1) (n := X 17 3 0) (fun j x y => (hG.r j x y).2) (by omega) (by omega)
    have hpw := pwT_bd (X 17 3 0)
    refine g_aload_n F 0 dX5_endOf_8 rfl ?_
    refine g17_getN_2 F  nf_X5_248 dX5_endOf_9 ?_
    refine g_aload_n F 0 dX5_endOf_12 rfl ?_
    refine g_callNI F (stk := [.ref (xa 17 100), .ref (xa 17 2)]) (st := [.ref (xa 17 2)]) (k_X4_number κ xa X (show 0 ≤ ((X 17) 3 0) ∧ ((X 17) 3 0) ≤ 3 from by omega) hG.r) cal_X4_number nm_X5_270 77 rfl rfl rfl rfl (by decide) rfl (Nat.le_of_ble_eq_true rfl) dX5_endOf_13 (fun r13 ws13 _ hr13 => ?_)
    obtain ⟨rfl, rfl⟩ := hr13
    refine g17_ald_2 F  (by omega) dX5_endOf_16 ?_
    exact K xw_same ⟨iIc (hT _ (by have e : X 17 3 0 = pt := (by omega); rw [← e] at hG; exact hG)), rfl⟩ rfl dX5_endOf_17
set_option maxRecDepth 100000 in
set_option maxHeartbeats 4000000 in
theorem k_X5_endOf_0_4 (κ : Kp) (xa : Nat → Nat → Nat) (X : XS) (Lf : (Int → Int) → Int) (pt : Int) (hn : 1 ≤ X 17 3 0 ∧ X 17 3 0 ≤ 3) (hp : pt = X 17 3 0 - 0) (hpp : 0 ≤ pt) (hL : okL Lf) (hG : gA (X 17 1) (X 17 3 0) pt) (hT : ∀ b : Int → Int, gA b (X 17 3 0) (X 17 3 0) → X 17 2 (nmI b (X 17 3 0)) = Lf b) : mI κ yX5_endOf cX5_endOf 7 .int 4 [.ref (xa 17 100), .int (iI pt)] (xw κ xa X) (is1 (iI (val Lf (X 17 3 0) 0 pt (X 17 1))) (xw κ xa X)) := by
  refine mI_of (by decide) (Nat.le_of_ble_eq_true rfl) (fun E F K => ?_)
  refine g_lv (lv' := [(0, .ref (xa 17 100)), (1, .int (iI pt))]) rfl ?_
  refine g_iload_n F 1 dX5_endOf_0 rfl ?_
  refine g_aload_n F 0 dX5_endOf_1 rfl ?_
  refine g17_getN_3 F  nf_X5_259 dX5_endOf_2 ?_
  refine g_icmp_lt F 18 (by omega) dX5_endOf_5 (by decide) (fun c5 => ?_) (fun c5 => ?_)
  · skip
    exact absurd trivial (by omega)
  · skip
    have hnb := nm_bd (a := X 17 1) (n := X 17 3 0) (fun j x y => (hG.r j x y).2) (by omega) (by omega)
    have hpw := pwT_bd (X 17 3 0)
    refine g_aload_n F 0 dX5_endOf_8 rfl ?_
    refine g17_getN_2 F  nf_X5_248 dX5_endOf_9 ?_
    refine g_aload_n F 0 dX5_endOf_12 rfl ?_
    refine g_callNI F (stk := [.ref (xa 17 100), .ref (xa 17 2)]) (st := [.ref (xa 17 2)]) (k_X4_number κ xa X (show 0 ≤ ((X 17) 3 0) ∧ ((X 17) 3 0) ≤ 3 from by omega) hG.r) cal_X4_number nm_X5_270 77 rfl rfl rfl rfl (by decide) rfl (Nat.le_of_ble_eq_true rfl) dX5_endOf_13 (fun r13 ws13 _ hr13 => ?_)
    obtain ⟨rfl, rfl⟩ := hr13
    refine g17_ald_2 F  (by omega) dX5_endOf_16 ?_
    exact K xw_same ⟨iIc (hT _ (by have e : X 17 3 0 = pt := (by omega); rw [← e] at hG; exact hG)), rfl⟩ rfl dX5_endOf_17
set_option maxRecDepth 100000 in
set_option maxHeartbeats 4000000 in
theorem k_X5_endOf_1_3 (κ : Kp) (xa : Nat → Nat → Nat) (X : XS) (Lf : (Int → Int) → Int) (pt : Int) (hn : 1 ≤ X 17 3 0 ∧ X 17 3 0 ≤ 3) (hp : pt = X 17 3 0 - 1) (hpp : 0 ≤ pt) (hL : okL Lf) (hG : gA (X 17 1) (X 17 3 0) pt) (hT : ∀ b : Int → Int, gA b (X 17 3 0) (X 17 3 0) → X 17 2 (nmI b (X 17 3 0)) = Lf b) : mI κ yX5_endOf cX5_endOf 7 .int 3 [.ref (xa 17 100), .int (iI pt)] (xw κ xa X) (is1 (iI (val Lf (X 17 3 0) 1 pt (X 17 1))) (xw κ xa X)) := by
  refine mI_of (by decide) (Nat.le_of_ble_eq_true rfl) (fun E F K => ?_)
  refine g_lv (lv' := [(0, .ref (xa 17 100)), (1, .int (iI pt))]) rfl ?_
  refine g_iload_n F 1 dX5_endOf_0 rfl ?_
  refine g_aload_n F 0 dX5_endOf_1 rfl ?_
  refine g17_getN_3 F  nf_X5_259 dX5_endOf_2 ?_
  refine g_icmp_lt F 18 (by omega) dX5_endOf_5 (by decide) (fun c5 => ?_) (fun c5 => ?_)
  · skip
    refine g_iload_n F 1 dX5_endOf_18 rfl ?_
    refine g_iconst F dX5_endOf_19 ?_
    refine g_irem F dX5_endOf_20 (by omega) ?_
    refine g_if_ne F 28 (by omega) dX5_endOf_21 (by decide) (fun c21 => ?_) (fun c21 => ?_)
    · skip
      refine g_iconst F dX5_endOf_28 ?_
      refine g_istore_n F (lv' := [(2, .int (iI 0)), (0, .ref (xa 17 100)), (1, .int (iI pt))]) 2 dX5_endOf_29 rfl (by decide) rfl ?_
      refine g_iload_n F 0 dX5_endOf_30 rfl ?_
      refine g_if_eq F 39 (by omega) dX5_endOf_31 (by decide) (fun c31 => ?_) (fun c31 => ?_)
      · skip
        refine g_iconst F dX5_endOf_39 ?_
        refine g_istore_n F (lv' := [(3, .int (iI (-1))), (2, .int (iI 0)), (0, .ref (xa 17 100)), (1, .int (iI pt))]) 3 dX5_endOf_40 rfl (by decide) rfl ?_
        refine g_iconst F dX5_endOf_41 ?_
        refine g_istore F (lv' := [(4, .int (iI 0)), (3, .int (iI (-1))), (2, .int (iI 0)), (0, .ref (xa 17 100)), (1, .int (iI pt))]) dX5_endOf_42 (by decide) rfl ?_
        have L44 : ∀ (mz44 : Nat) (i : Int) (b : Int), (X 17 3 0 - i).toNat = mz44 → (0 ≤ i ∧ i ≤ X 17 3 0) → (b = lvn Lf (X 17 3 0) 0 (X 17 1) pt (12 * i)) → G E (xw κ xa X) [(4, .int (iI i)), (3, .int (iI b)), (2, .int (iI 0)), (0, .ref (xa 17 100)), (1, .int (iI pt))] 44 [] := by
          intro mz44
          induction mz44 using Nat.strongRecOn with
          | _ mz44 ih44 =>
          intro i b hmz44 hi hb
          refine g_iload F 0 dX5_endOf_44 rfl ?_
          refine g_aload_n F 3 dX5_endOf_46 rfl ?_
          refine g17_getN_3 F  nf_X5_259 dX5_endOf_47 ?_
          refine g_icmp_ge F 147 (by omega) dX5_endOf_50 (by decide) (fun c50 => ?_) (fun c50 => ?_)
          · skip
            refine g_iload_n F 1 dX5_endOf_147 rfl ?_
            exact K xw_same ⟨iIc (by rw [hb, show i = X 17 3 0 by omega]; rfl), rfl⟩ rfl dX5_endOf_148
          · skip
            refine g_aload_n F 3 dX5_endOf_53 rfl ?_
            refine g17_getN_1 F  nf_X5_260 dX5_endOf_54 ?_
            have hai := hG.r i (by omega) (by omega)
            refine g_iload F 0 dX5_endOf_57 rfl ?_
            refine g17_ald_1 F  (by omega) dX5_endOf_59 ?_
            refine g_iconst F dX5_endOf_60 ?_
            refine g_icmp_eq F 67 (by omega) dX5_endOf_61 (by decide) (fun c61 => ?_) (fun c61 => ?_)
            · skip
              refine g_iconst F dX5_endOf_67 ?_
              refine g_istore F (lv' := [(5, .int (iI 0)), (4, .int (iI i)), (3, .int (iI b)), (2, .int (iI 0)), (0, .ref (xa 17 100)), (1, .int (iI pt))]) dX5_endOf_68 (by decide) rfl ?_
              have L70 : ∀ (mz70 : Nat) (c : Int) (b2 : Int), (12 - c).toNat = mz70 → (0 ≤ c ∧ c ≤ 12) → (b2 = lvn Lf (X 17 3 0) 0 (X 17 1) pt (12 * i + c)) → G E (xw κ xa X) [(5, .int (iI c)), (4, .int (iI i)), (3, .int (iI b2)), (2, .int (iI 0)), (0, .ref (xa 17 100)), (1, .int (iI pt))] 70 [] := by
                intro mz70
                induction mz70 using Nat.strongRecOn with
                | _ mz70 ih70 =>
                intro c b2 hmz70 hc hb2
                refine g_iload F 0 dX5_endOf_70 rfl ?_
                refine g_bipush F dX5_endOf_72 (by decide +kernel) ?_
                refine g_icmp_ge F 141 (by omega) dX5_endOf_74 (by decide) (fun c74 => ?_) (fun c74 => ?_)
                · skip
                  refine g_iinc F (lv' := [(4, .int (iI (i + 1))), (5, .int (iI c)), (3, .int (iI b2)), (2, .int (iI 0)), (0, .ref (xa 17 100)), (1, .int (iI pt))]) 1 dX5_endOf_141 rfl (by decide) rfl ?_
                  refine g_goto F 44 dX5_endOf_144 (by decide) ?_
                  refine g_sub F (lv' := [(4, .int (iI (i + 1))), (3, .int (iI b2)), (2, .int (iI 0)), (0, .ref (xa 17 100)), (1, .int (iI pt))]) [0, 2, 3, 4, 5] rfl ?_
                  exact ih44 _ (by omega) (i + 1) b2 rfl (by omega) (by rw [hb2, show 12 * i + c = 12 * (i + 1) by omega])
                · skip
                  refine g_aload_n F 4 dX5_endOf_77 rfl ?_
                  refine g_iload F 0 dX5_endOf_78 rfl ?_
                  refine g_callNI F (stk := [.int (iI c), .ref (xa 17 100)]) (st := []) (k_X4_isTaken κ xa X c (show 0 ≤ ((X 17) 3 0) ∧ ((X 17) 3 0) ≤ 3 from by omega) hG.r (by omega)) cal_X4_isTaken nm_X5_272 77 rfl rfl rfl rfl (by decide) rfl (Nat.le_of_ble_eq_true rfl) dX5_endOf_80 (fun r80 ws80 _ hr80 => ?_)
                  obtain ⟨rfl, rfl⟩ := hr80
                  refine g_if_eq F 89 (b2i_in _) dX5_endOf_83 (by decide) (fun c83 => ?_) (fun c83 => ?_)
                  · skip
                    have c83 : ¬ (tkn (X 17 1) (X 17 3 0) c) := b2i_f c83
                    have hlg : legal (X 17 1) (X 17 3 0) (12 * i + c) := ⟨by rw [show (12 * i + c) / 12 = i by omega]; exact c61, by rw [show (12 * i + c) % 12 = c by omega]; exact c83⟩
                    have hGs := gA_s hG hlg (by omega) (by omega) (by omega)
                    rw [show (12 * i + c) / 12 = i by omega, show (12 * i + c) % 12 = c by omega] at hGs
                    have hvF : vF Lf (X 17 3 0) 0 pt (X 17 1) (12 * i + c) = val Lf (X 17 3 0) 0 (pt + 1) (uI (X 17 1) i c) := by unfold vF; rw [show (12 * i + c) / 12 = i by omega, show (12 * i + c) % 12 = c by omega]
                    have hvr := val_rng hL (n := X 17 3 0) (by omega) (by omega) 0 (pt + 1) (uI (X 17 1) i c) (by rw [show X 17 3 0 - ((0 : Nat) : Int) = pt + 1 by omega]; exact hGs)
                    have hlb := lvn_bd hL (n := X 17 3 0) (by omega) (by omega) (r := 0) (p := pt) (a := X 17 1) (by rw [show X 17 3 0 - ((0 : Nat) : Int) - 1 = pt by omega]; exact hG) (k := 12 * i + c) (by omega)
                    have hb2r : -1 ≤ b2 ∧ b2 ≤ 2147483647 := by rw [hb2]; rcases Classical.em (pt % 2 = 0) with q | q; exact ⟨Int.le_trans (by decide) (hlb.1 q).1, (hlb.1 q).2⟩; exact ⟨(hlb.2 q).1, Int.le_trans (hlb.2 q).2 (by decide)⟩
                    clear hlb
                    refine g_aload_n F 4 dX5_endOf_89 rfl ?_
                    refine g17_getN_1 F  nf_X5_260 dX5_endOf_90 ?_
                    refine g_iload F 1 dX5_endOf_93 rfl ?_
                    refine g_iload F 0 dX5_endOf_95 rfl ?_
                    refine g17_ast_1 F  (by omega) dX5_endOf_97 ?_
                    refine g_aload_n F 4 dX5_endOf_98 rfl ?_
                    refine g_iload_n F 5 dX5_endOf_99 rfl ?_
                    refine g_iconst F dX5_endOf_100 ?_
                    refine g_iadd F dX5_endOf_101 ?_
                    refine g_callSI F (stk := [.int (iI (pt + 1)), .ref (xa 17 100)]) (st := []) (k_X5_endOf_0_2 κ xa (setO X 17 (mA (X 17) 1 (uI ((X 17) 1) i c))) Lf (pt + 1) hn (show pt + 1 = X 17 3 0 - 0 by omega) (by omega) hL hGs hT) cal_X5_endOf lm_X5_263 rfl (by decide) rfl (Nat.le_of_ble_eq_true rfl) dX5_endOf_102 (fun r102 ws102 _ hr102 => ?_)
                    obtain ⟨rfl, rfl⟩ := hr102
                    refine g_top (y := iI (val Lf (X 17 3 0) 0 (pt + 1) (uI (X 17 1) i c))) rfl ?_
                    refine g_istore F (lv' := [(6, .int (iI (val Lf (X 17 3 0) 0 (pt + 1) (uI (X 17 1) i c)))), (5, .int (iI c)), (4, .int (iI i)), (3, .int (iI b2)), (2, .int (iI 0)), (0, .ref (xa 17 100)), (1, .int (iI pt))]) dX5_endOf_105 (by decide) rfl ?_
                    refine g_iload_n F 4 dX5_endOf_107 rfl ?_
                    refine g_if_eq F 120 (by omega) dX5_endOf_108 (by decide) (fun c108 => ?_) (fun c108 => ?_)
                    · skip
                      refine g_iload_n F 3 dX5_endOf_120 rfl ?_
                      refine g_iload F 0 dX5_endOf_121 rfl ?_
                      refine g_max F (by omega) lm_X5_102 ms_max ms_ini mc_max (by decide) (Nat.le_of_ble_eq_true rfl) dX5_endOf_123 ?_
                      refine g_istore_n F (lv' := [(3, .int (iI (max b2 (val Lf (X 17 3 0) 0 (pt + 1) (uI (X 17 1) i c))))), (6, .int (iI (val Lf (X 17 3 0) 0 (pt + 1) (uI (X 17 1) i c)))), (5, .int (iI c)), (4, .int (iI i)), (2, .int (iI 0)), (0, .ref (xa 17 100)), (1, .int (iI pt))]) 3 dX5_endOf_126 rfl (by decide) rfl ?_
                      refine g_aload_n F 5 dX5_endOf_127 rfl ?_
                      refine g17_getN_1 F  nf_X5_260 dX5_endOf_128 ?_
                      refine g_iload F 3 dX5_endOf_131 rfl ?_
                      refine g_iconst F dX5_endOf_133 ?_
                      refine g17_ast_1 F  (by omega) dX5_endOf_134 ?_
                      refine g_ws (ws' := xw κ xa (setO X 17 (mA (X 17) 1 (uI (uI ((X 17) 1) i c) i (-1))))) rfl ?_
                      refine g_ws (ws' := xw κ xa X) (by rw [uI_uI, ← c61, uI_self, mA_self, setO_self]) ?_
                      refine g_iinc F (lv' := [(5, .int (iI (c + 1))), (3, .int (iI (max b2 (val Lf (X 17 3 0) 0 (pt + 1) (uI (X 17 1) i c))))), (6, .int (iI (val Lf (X 17 3 0) 0 (pt + 1) (uI (X 17 1) i c)))), (4, .int (iI i)), (2, .int (iI 0)), (0, .ref (xa 17 100)), (1, .int (iI pt))]) 2 dX5_endOf_135 rfl (by decide) rfl ?_
                      refine g_goto F 70 dX5_endOf_138 (by decide) ?_
                      refine g_sub F (lv' := [(5, .int (iI (c + 1))), (4, .int (iI i)), (3, .int (iI (max b2 (val Lf (X 17 3 0) 0 (pt + 1) (uI (X 17 1) i c))))), (2, .int (iI 0)), (0, .ref (xa 17 100)), (1, .int (iI pt))]) [0, 3, 1, 4, 5, 6] rfl ?_
                      exact ih70 _ (by omega) (c + 1) (max b2 (val Lf (X 17 3 0) 0 (pt + 1) (uI (X 17 1) i c))) rfl (by omega) (by rw [show 12 * i + (c + 1) = (12 * i + c) + 1 by omega, lv_t (by omega) hlg, hvF, ← hb2]; first | rw [if_pos c21] | rw [if_neg c21])
                    · skip
                      exact absurd trivial (by omega)
                  · skip
                    have c83 : tkn (X 17 1) (X 17 3 0) c := b2i_t c83
                    refine g_goto F 135 dX5_endOf_86 (by decide) ?_
                    refine g_iinc F (lv' := [(5, .int (iI (c + 1))), (4, .int (iI i)), (3, .int (iI b2)), (2, .int (iI 0)), (0, .ref (xa 17 100)), (1, .int (iI pt))]) 0 dX5_endOf_135 rfl (by decide) rfl ?_
                    refine g_goto F 70 dX5_endOf_138 (by decide) ?_
                    refine g_sub F (lv' := [(5, .int (iI (c + 1))), (4, .int (iI i)), (3, .int (iI b2)), (2, .int (iI 0)), (0, .ref (xa 17 100)), (1, .int (iI pt))]) [0, 1, 2, 3, 4, 5] rfl ?_
                    exact ih70 _ (by omega) (c + 1) b2 rfl (by omega) (by rw [show 12 * i + (c + 1) = (12 * i + c) + 1 by omega, lv_f (by omega) (fun z => z.2 (by rw [show (12 * i + c) % 12 = c by omega]; exact c83))]; exact hb2)
              refine g_sub F (lv' := [(5, .int (iI 0)), (4, .int (iI i)), (3, .int (iI b)), (2, .int (iI 0)), (0, .ref (xa 17 100)), (1, .int (iI pt))]) [0, 1, 2, 3, 4, 5] rfl ?_
              exact L70 _ 0 b rfl (by omega) (by rw [Int.add_zero]; exact hb)
            · skip
              refine g_goto F 141 dX5_endOf_64 (by decide) ?_
              refine g_iinc F (lv' := [(4, .int (iI (i + 1))), (3, .int (iI b)), (2, .int (iI 0)), (0, .ref (xa 17 100)), (1, .int (iI pt))]) 0 dX5_endOf_141 rfl (by decide) rfl ?_
              refine g_goto F 44 dX5_endOf_144 (by decide) ?_
              refine g_sub F (lv' := [(4, .int (iI (i + 1))), (3, .int (iI b)), (2, .int (iI 0)), (0, .ref (xa 17 100)), (1, .int (iI pt))]) [0, 1, 2, 3, 4] rfl ?_
              exact ih44 _ (by omega) (i + 1) b rfl (by omega) (by rw [hb]; exact (lv_skip (by omega) (by omega) (fun t x y z => c61 (by have h := z.1; rw [show t / 12 = i by omega] at h; exact h))).symm)
        refine g_sub F (lv' := [(4, .int (iI 0)), (3, .int (iI (-1))), (2, .int (iI 0)), (0, .ref (xa 17 100)), (1, .int (iI pt))]) [0, 1, 2, 3, 4] rfl ?_
        exact L44 _ 0 (-1) rfl (by omega) (by rw [show 12 * (0 : Int) = 0 by decide, lv_0]; unfold MAXI; split <;> omega)
      · skip
        exact absurd trivial (by omega)
    · skip
      refine g_iconst F dX5_endOf_24 ?_
      refine g_goto F 29 dX5_endOf_25 (by decide) ?_
      refine g_istore_n F (lv' := [(2, .int (iI 1)), (0, .ref (xa 17 100)), (1, .int (iI pt))]) 2 dX5_endOf_29 rfl (by decide) rfl ?_
      refine g_iload_n F 0 dX5_endOf_30 rfl ?_
      refine g_if_eq F 39 (by omega) dX5_endOf_31 (by decide) (fun c31 => ?_) (fun c31 => ?_)
      · skip
        exact absurd trivial (by omega)
      · skip
        refine g_ldc F (z := 2147483647) lc_X5_234 (by decide +kernel) dX5_endOf_34 ?_
        refine g_goto F 40 dX5_endOf_36 (by decide) ?_
        refine g_istore_n F (lv' := [(3, .int (iI 2147483647)), (2, .int (iI 1)), (0, .ref (xa 17 100)), (1, .int (iI pt))]) 3 dX5_endOf_40 rfl (by decide) rfl ?_
        refine g_iconst F dX5_endOf_41 ?_
        refine g_istore F (lv' := [(4, .int (iI 0)), (3, .int (iI 2147483647)), (2, .int (iI 1)), (0, .ref (xa 17 100)), (1, .int (iI pt))]) dX5_endOf_42 (by decide) rfl ?_
        have L44 : ∀ (mz44 : Nat) (i : Int) (b : Int), (X 17 3 0 - i).toNat = mz44 → (0 ≤ i ∧ i ≤ X 17 3 0) → (b = lvn Lf (X 17 3 0) 0 (X 17 1) pt (12 * i)) → G E (xw κ xa X) [(4, .int (iI i)), (3, .int (iI b)), (2, .int (iI 1)), (0, .ref (xa 17 100)), (1, .int (iI pt))] 44 [] := by
          intro mz44
          induction mz44 using Nat.strongRecOn with
          | _ mz44 ih44 =>
          intro i b hmz44 hi hb
          refine g_iload F 0 dX5_endOf_44 rfl ?_
          refine g_aload_n F 3 dX5_endOf_46 rfl ?_
          refine g17_getN_3 F  nf_X5_259 dX5_endOf_47 ?_
          refine g_icmp_ge F 147 (by omega) dX5_endOf_50 (by decide) (fun c50 => ?_) (fun c50 => ?_)
          · skip
            refine g_iload_n F 1 dX5_endOf_147 rfl ?_
            exact K xw_same ⟨iIc (by rw [hb, show i = X 17 3 0 by omega]; rfl), rfl⟩ rfl dX5_endOf_148
          · skip
            refine g_aload_n F 3 dX5_endOf_53 rfl ?_
            refine g17_getN_1 F  nf_X5_260 dX5_endOf_54 ?_
            have hai := hG.r i (by omega) (by omega)
            refine g_iload F 0 dX5_endOf_57 rfl ?_
            refine g17_ald_1 F  (by omega) dX5_endOf_59 ?_
            refine g_iconst F dX5_endOf_60 ?_
            refine g_icmp_eq F 67 (by omega) dX5_endOf_61 (by decide) (fun c61 => ?_) (fun c61 => ?_)
            · skip
              refine g_iconst F dX5_endOf_67 ?_
              refine g_istore F (lv' := [(5, .int (iI 0)), (4, .int (iI i)), (3, .int (iI b)), (2, .int (iI 1)), (0, .ref (xa 17 100)), (1, .int (iI pt))]) dX5_endOf_68 (by decide) rfl ?_
              have L70 : ∀ (mz70 : Nat) (c : Int) (b2 : Int), (12 - c).toNat = mz70 → (0 ≤ c ∧ c ≤ 12) → (b2 = lvn Lf (X 17 3 0) 0 (X 17 1) pt (12 * i + c)) → G E (xw κ xa X) [(5, .int (iI c)), (4, .int (iI i)), (3, .int (iI b2)), (2, .int (iI 1)), (0, .ref (xa 17 100)), (1, .int (iI pt))] 70 [] := by
                intro mz70
                induction mz70 using Nat.strongRecOn with
                | _ mz70 ih70 =>
                intro c b2 hmz70 hc hb2
                refine g_iload F 0 dX5_endOf_70 rfl ?_
                refine g_bipush F dX5_endOf_72 (by decide +kernel) ?_
                refine g_icmp_ge F 141 (by omega) dX5_endOf_74 (by decide) (fun c74 => ?_) (fun c74 => ?_)
                · skip
                  refine g_iinc F (lv' := [(4, .int (iI (i + 1))), (5, .int (iI c)), (3, .int (iI b2)), (2, .int (iI 1)), (0, .ref (xa 17 100)), (1, .int (iI pt))]) 1 dX5_endOf_141 rfl (by decide) rfl ?_
                  refine g_goto F 44 dX5_endOf_144 (by decide) ?_
                  refine g_sub F (lv' := [(4, .int (iI (i + 1))), (3, .int (iI b2)), (2, .int (iI 1)), (0, .ref (xa 17 100)), (1, .int (iI pt))]) [0, 2, 3, 4, 5] rfl ?_
                  exact ih44 _ (by omega) (i + 1) b2 rfl (by omega) (by rw [hb2, show 12 * i + c = 12 * (i + 1) by omega])
                · skip
                  refine g_aload_n F 4 dX5_endOf_77 rfl ?_
                  refine g_iload F 0 dX5_endOf_78 rfl ?_
                  refine g_callNI F (stk := [.int (iI c), .ref (xa 17 100)]) (st := []) (k_X4_isTaken κ xa X c (show 0 ≤ ((X 17) 3 0) ∧ ((X 17) 3 0) ≤ 3 from by omega) hG.r (by omega)) cal_X4_isTaken nm_X5_272 77 rfl rfl rfl rfl (by decide) rfl (Nat.le_of_ble_eq_true rfl) dX5_endOf_80 (fun r80 ws80 _ hr80 => ?_)
                  obtain ⟨rfl, rfl⟩ := hr80
                  refine g_if_eq F 89 (b2i_in _) dX5_endOf_83 (by decide) (fun c83 => ?_) (fun c83 => ?_)
                  · skip
                    have c83 : ¬ (tkn (X 17 1) (X 17 3 0) c) := b2i_f c83
                    have hlg : legal (X 17 1) (X 17 3 0) (12 * i + c) := ⟨by rw [show (12 * i + c) / 12 = i by omega]; exact c61, by rw [show (12 * i + c) % 12 = c by omega]; exact c83⟩
                    have hGs := gA_s hG hlg (by omega) (by omega) (by omega)
                    rw [show (12 * i + c) / 12 = i by omega, show (12 * i + c) % 12 = c by omega] at hGs
                    have hvF : vF Lf (X 17 3 0) 0 pt (X 17 1) (12 * i + c) = val Lf (X 17 3 0) 0 (pt + 1) (uI (X 17 1) i c) := by unfold vF; rw [show (12 * i + c) / 12 = i by omega, show (12 * i + c) % 12 = c by omega]
                    have hvr := val_rng hL (n := X 17 3 0) (by omega) (by omega) 0 (pt + 1) (uI (X 17 1) i c) (by rw [show X 17 3 0 - ((0 : Nat) : Int) = pt + 1 by omega]; exact hGs)
                    have hlb := lvn_bd hL (n := X 17 3 0) (by omega) (by omega) (r := 0) (p := pt) (a := X 17 1) (by rw [show X 17 3 0 - ((0 : Nat) : Int) - 1 = pt by omega]; exact hG) (k := 12 * i + c) (by omega)
                    have hb2r : -1 ≤ b2 ∧ b2 ≤ 2147483647 := by rw [hb2]; rcases Classical.em (pt % 2 = 0) with q | q; exact ⟨Int.le_trans (by decide) (hlb.1 q).1, (hlb.1 q).2⟩; exact ⟨(hlb.2 q).1, Int.le_trans (hlb.2 q).2 (by decide)⟩
                    clear hlb
                    refine g_aload_n F 4 dX5_endOf_89 rfl ?_
                    refine g17_getN_1 F  nf_X5_260 dX5_endOf_90 ?_
                    refine g_iload F 1 dX5_endOf_93 rfl ?_
                    refine g_iload F 0 dX5_endOf_95 rfl ?_
                    refine g17_ast_1 F  (by omega) dX5_endOf_97 ?_
                    refine g_aload_n F 4 dX5_endOf_98 rfl ?_
                    refine g_iload_n F 5 dX5_endOf_99 rfl ?_
                    refine g_iconst F dX5_endOf_100 ?_
                    refine g_iadd F dX5_endOf_101 ?_
                    refine g_callSI F (stk := [.int (iI (pt + 1)), .ref (xa 17 100)]) (st := []) (k_X5_endOf_0_2 κ xa (setO X 17 (mA (X 17) 1 (uI ((X 17) 1) i c))) Lf (pt + 1) hn (show pt + 1 = X 17 3 0 - 0 by omega) (by omega) hL hGs hT) cal_X5_endOf lm_X5_263 rfl (by decide) rfl (Nat.le_of_ble_eq_true rfl) dX5_endOf_102 (fun r102 ws102 _ hr102 => ?_)
                    obtain ⟨rfl, rfl⟩ := hr102
                    refine g_top (y := iI (val Lf (X 17 3 0) 0 (pt + 1) (uI (X 17 1) i c))) rfl ?_
                    refine g_istore F (lv' := [(6, .int (iI (val Lf (X 17 3 0) 0 (pt + 1) (uI (X 17 1) i c)))), (5, .int (iI c)), (4, .int (iI i)), (3, .int (iI b2)), (2, .int (iI 1)), (0, .ref (xa 17 100)), (1, .int (iI pt))]) dX5_endOf_105 (by decide) rfl ?_
                    refine g_iload_n F 4 dX5_endOf_107 rfl ?_
                    refine g_if_eq F 120 (by omega) dX5_endOf_108 (by decide) (fun c108 => ?_) (fun c108 => ?_)
                    · skip
                      exact absurd trivial (by omega)
                    · skip
                      refine g_iload_n F 3 dX5_endOf_111 rfl ?_
                      refine g_iload F 0 dX5_endOf_112 rfl ?_
                      refine g_min F (by omega) lm_X5_275 ms_min ms_ini mc_min (by decide) (Nat.le_of_ble_eq_true rfl) dX5_endOf_114 ?_
                      refine g_goto F 126 dX5_endOf_117 (by decide) ?_
                      refine g_istore_n F (lv' := [(3, .int (iI (min b2 (val Lf (X 17 3 0) 0 (pt + 1) (uI (X 17 1) i c))))), (6, .int (iI (val Lf (X 17 3 0) 0 (pt + 1) (uI (X 17 1) i c)))), (5, .int (iI c)), (4, .int (iI i)), (2, .int (iI 1)), (0, .ref (xa 17 100)), (1, .int (iI pt))]) 3 dX5_endOf_126 rfl (by decide) rfl ?_
                      refine g_aload_n F 5 dX5_endOf_127 rfl ?_
                      refine g17_getN_1 F  nf_X5_260 dX5_endOf_128 ?_
                      refine g_iload F 3 dX5_endOf_131 rfl ?_
                      refine g_iconst F dX5_endOf_133 ?_
                      refine g17_ast_1 F  (by omega) dX5_endOf_134 ?_
                      refine g_ws (ws' := xw κ xa (setO X 17 (mA (X 17) 1 (uI (uI ((X 17) 1) i c) i (-1))))) rfl ?_
                      refine g_ws (ws' := xw κ xa X) (by rw [uI_uI, ← c61, uI_self, mA_self, setO_self]) ?_
                      refine g_iinc F (lv' := [(5, .int (iI (c + 1))), (3, .int (iI (min b2 (val Lf (X 17 3 0) 0 (pt + 1) (uI (X 17 1) i c))))), (6, .int (iI (val Lf (X 17 3 0) 0 (pt + 1) (uI (X 17 1) i c)))), (4, .int (iI i)), (2, .int (iI 1)), (0, .ref (xa 17 100)), (1, .int (iI pt))]) 2 dX5_endOf_135 rfl (by decide) rfl ?_
                      refine g_goto F 70 dX5_endOf_138 (by decide) ?_
                      refine g_sub F (lv' := [(5, .int (iI (c + 1))), (4, .int (iI i)), (3, .int (iI (min b2 (val Lf (X 17 3 0) 0 (pt + 1) (uI (X 17 1) i c))))), (2, .int (iI 1)), (0, .ref (xa 17 100)), (1, .int (iI pt))]) [0, 3, 1, 4, 5, 6] rfl ?_
                      exact ih70 _ (by omega) (c + 1) (min b2 (val Lf (X 17 3 0) 0 (pt + 1) (uI (X 17 1) i c))) rfl (by omega) (by rw [show 12 * i + (c + 1) = (12 * i + c) + 1 by omega, lv_t (by omega) hlg, hvF, ← hb2]; first | rw [if_pos c21] | rw [if_neg c21])
                  · skip
                    have c83 : tkn (X 17 1) (X 17 3 0) c := b2i_t c83
                    refine g_goto F 135 dX5_endOf_86 (by decide) ?_
                    refine g_iinc F (lv' := [(5, .int (iI (c + 1))), (4, .int (iI i)), (3, .int (iI b2)), (2, .int (iI 1)), (0, .ref (xa 17 100)), (1, .int (iI pt))]) 0 dX5_endOf_135 rfl (by decide) rfl ?_
                    refine g_goto F 70 dX5_endOf_138 (by decide) ?_
                    refine g_sub F (lv' := [(5, .int (iI (c + 1))), (4, .int (iI i)), (3, .int (iI b2)), (2, .int (iI 1)), (0, .ref (xa 17 100)), (1, .int (iI pt))]) [0, 1, 2, 3, 4, 5] rfl ?_
                    exact ih70 _ (by omega) (c + 1) b2 rfl (by omega) (by rw [show 12 * i + (c + 1) = (12 * i + c) + 1 by omega, lv_f (by omega) (fun z => z.2 (by rw [show (12 * i + c) % 12 = c by omega]; exact c83))]; exact hb2)
              refine g_sub F (lv' := [(5, .int (iI 0)), (4, .int (iI i)), (3, .int (iI b)), (2, .int (iI 1)), (0, .ref (xa 17 100)), (1, .int (iI pt))]) [0, 1, 2, 3, 4, 5] rfl ?_
              exact L70 _ 0 b rfl (by omega) (by rw [Int.add_zero]; exact hb)
            · skip
              refine g_goto F 141 dX5_endOf_64 (by decide) ?_
              refine g_iinc F (lv' := [(4, .int (iI (i + 1))), (3, .int (iI b)), (2, .int (iI 1)), (0, .ref (xa 17 100)), (1, .int (iI pt))]) 0 dX5_endOf_141 rfl (by decide) rfl ?_
              refine g_goto F 44 dX5_endOf_144 (by decide) ?_
              refine g_sub F (lv' := [(4, .int (iI (i + 1))), (3, .int (iI b)), (2, .int (iI 1)), (0, .ref (xa 17 100)), (1, .int (iI pt))]) [0, 1, 2, 3, 4] rfl ?_
              exact ih44 _ (by omega) (i + 1) b rfl (by omega) (by rw [hb]; exact (lv_skip (by omega) (by omega) (fun t x y z => c61 (by have h := z.1; rw [show t / 12 = i by omega] at h; exact h))).symm)
        refine g_sub F (lv' := [(4, .int (iI 0)), (3, .int (iI 2147483647)), (2, .int (iI 1)), (0, .ref (xa 17 100)), (1, .int (iI pt))]) [0, 1, 2, 3, 4] rfl ?_
        exact L44 _ 0 2147483647 rfl (by omega) (by rw [show 12 * (0 : Int) = 0 by decide, lv_0]; unfold MAXI; split <;> omega)
  · skip
    exact absurd trivial (by omega)
set_option maxRecDepth 100000 in
set_option maxHeartbeats 4000000 in
theorem k_X5_endOf_1_4 (κ : Kp) (xa : Nat → Nat → Nat) (X : XS) (Lf : (Int → Int) → Int) (pt : Int) (hn : 1 ≤ X 17 3 0 ∧ X 17 3 0 ≤ 3) (hp : pt = X 17 3 0 - 1) (hpp : 0 ≤ pt) (hL : okL Lf) (hG : gA (X 17 1) (X 17 3 0) pt) (hT : ∀ b : Int → Int, gA b (X 17 3 0) (X 17 3 0) → X 17 2 (nmI b (X 17 3 0)) = Lf b) : mI κ yX5_endOf cX5_endOf 7 .int 4 [.ref (xa 17 100), .int (iI pt)] (xw κ xa X) (is1 (iI (val Lf (X 17 3 0) 1 pt (X 17 1))) (xw κ xa X)) := by
  refine mI_of (by decide) (Nat.le_of_ble_eq_true rfl) (fun E F K => ?_)
  refine g_lv (lv' := [(0, .ref (xa 17 100)), (1, .int (iI pt))]) rfl ?_
  refine g_iload_n F 1 dX5_endOf_0 rfl ?_
  refine g_aload_n F 0 dX5_endOf_1 rfl ?_
  refine g17_getN_3 F  nf_X5_259 dX5_endOf_2 ?_
  refine g_icmp_lt F 18 (by omega) dX5_endOf_5 (by decide) (fun c5 => ?_) (fun c5 => ?_)
  · skip
    refine g_iload_n F 1 dX5_endOf_18 rfl ?_
    refine g_iconst F dX5_endOf_19 ?_
    refine g_irem F dX5_endOf_20 (by omega) ?_
    refine g_if_ne F 28 (by omega) dX5_endOf_21 (by decide) (fun c21 => ?_) (fun c21 => ?_)
    · skip
      refine g_iconst F dX5_endOf_28 ?_
      refine g_istore_n F (lv' := [(2, .int (iI 0)), (0, .ref (xa 17 100)), (1, .int (iI pt))]) 2 dX5_endOf_29 rfl (by decide) rfl ?_
      refine g_iload_n F 0 dX5_endOf_30 rfl ?_
      refine g_if_eq F 39 (by omega) dX5_endOf_31 (by decide) (fun c31 => ?_) (fun c31 => ?_)
      · skip
        refine g_iconst F dX5_endOf_39 ?_
        refine g_istore_n F (lv' := [(3, .int (iI (-1))), (2, .int (iI 0)), (0, .ref (xa 17 100)), (1, .int (iI pt))]) 3 dX5_endOf_40 rfl (by decide) rfl ?_
        refine g_iconst F dX5_endOf_41 ?_
        refine g_istore F (lv' := [(4, .int (iI 0)), (3, .int (iI (-1))), (2, .int (iI 0)), (0, .ref (xa 17 100)), (1, .int (iI pt))]) dX5_endOf_42 (by decide) rfl ?_
        have L44 : ∀ (mz44 : Nat) (i : Int) (b : Int), (X 17 3 0 - i).toNat = mz44 → (0 ≤ i ∧ i ≤ X 17 3 0) → (b = lvn Lf (X 17 3 0) 0 (X 17 1) pt (12 * i)) → G E (xw κ xa X) [(4, .int (iI i)), (3, .int (iI b)), (2, .int (iI 0)), (0, .ref (xa 17 100)), (1, .int (iI pt))] 44 [] := by
          intro mz44
          induction mz44 using Nat.strongRecOn with
          | _ mz44 ih44 =>
          intro i b hmz44 hi hb
          refine g_iload F 0 dX5_endOf_44 rfl ?_
          refine g_aload_n F 3 dX5_endOf_46 rfl ?_
          refine g17_getN_3 F  nf_X5_259 dX5_endOf_47 ?_
          refine g_icmp_ge F 147 (by omega) dX5_endOf_50 (by decide) (fun c50 => ?_) (fun c50 => ?_)
          · skip
            refine g_iload_n F 1 dX5_endOf_147 rfl ?_
            exact K xw_same ⟨iIc (by rw [hb, show i = X 17 3 0 by omega]; rfl), rfl⟩ rfl dX5_endOf_148
          · skip
            refine g_aload_n F 3 dX5_endOf_53 rfl ?_
            refine g17_getN_1 F  nf_X5_260 dX5_endOf_54 ?_
            have hai := hG.r i (by omega) (by omega)
            refine g_iload F 0 dX5_endOf_57 rfl ?_
            refine g17_ald_1 F  (by omega) dX5_endOf_59 ?_
            refine g_iconst F dX5_endOf_60 ?_
            refine g_icmp_eq F 67 (by omega) dX5_endOf_61 (by decide) (fun c61 => ?_) (fun c61 => ?_)
            · skip
              refine g_iconst F dX5_endOf_67 ?_
              refine g_istore F (lv' := [(5, .int (iI 0)), (4, .int (iI i)), (3, .int (iI b)), (2, .int (iI 0)), (0, .ref (xa 17 100)), (1, .int (iI pt))]) dX5_endOf_68 (by decide) rfl ?_
              have L70 : ∀ (mz70 : Nat) (c : Int) (b2 : Int), (12 - c).toNat = mz70 → (0 ≤ c ∧ c ≤ 12) → (b2 = lvn Lf (X 17 3 0) 0 (X 17 1) pt (12 * i + c)) → G E (xw κ xa X) [(5, .int (iI c)), (4, .int (iI i)), (3, .int (iI b2)), (2, .int (iI 0)), (0, .ref (xa 17 100)), (1, .int (iI pt))] 70 [] := by
                intro mz70
                induction mz70 using Nat.strongRecOn with
                | _ mz70 ih70 =>
                intro c b2 hmz70 hc hb2
                refine g_iload F 0 dX5_endOf_70 rfl ?_
                refine g_bipush F dX5_endOf_72 (by decide +kernel) ?_
                refine g_icmp_ge F 141 (by omega) dX5_endOf_74 (by decide) (fun c74 => ?_) (fun c74 => ?_)
                · skip
                  refine g_iinc F (lv' := [(4, .int (iI (i + 1))), (5, .int (iI c)), (3, .int (iI b2)), (2, .int (iI 0)), (0, .ref (xa 17 100)), (1, .int (iI pt))]) 1 dX5_endOf_141 rfl (by decide) rfl ?_
                  refine g_goto F 44 dX5_endOf_144 (by decide) ?_
                  refine g_sub F (lv' := [(4, .int (iI (i + 1))), (3, .int (iI b2)), (2, .int (iI 0)), (0, .ref (xa 17 100)), (1, .int (iI pt))]) [0, 2, 3, 4, 5] rfl ?_
                  exact ih44 _ (by omega) (i + 1) b2 rfl (by omega) (by rw [hb2, show 12 * i + c = 12 * (i + 1) by omega])
                · skip
                  refine g_aload_n F 4 dX5_endOf_77 rfl ?_
                  refine g_iload F 0 dX5_endOf_78 rfl ?_
                  refine g_callNI F (stk := [.int (iI c), .ref (xa 17 100)]) (st := []) (k_X4_isTaken κ xa X c (show 0 ≤ ((X 17) 3 0) ∧ ((X 17) 3 0) ≤ 3 from by omega) hG.r (by omega)) cal_X4_isTaken nm_X5_272 77 rfl rfl rfl rfl (by decide) rfl (Nat.le_of_ble_eq_true rfl) dX5_endOf_80 (fun r80 ws80 _ hr80 => ?_)
                  obtain ⟨rfl, rfl⟩ := hr80
                  refine g_if_eq F 89 (b2i_in _) dX5_endOf_83 (by decide) (fun c83 => ?_) (fun c83 => ?_)
                  · skip
                    have c83 : ¬ (tkn (X 17 1) (X 17 3 0) c) := b2i_f c83
                    have hlg : legal (X 17 1) (X 17 3 0) (12 * i + c) := ⟨by rw [show (12 * i + c) / 12 = i by omega]; exact c61, by rw [show (12 * i + c) % 12 = c by omega]; exact c83⟩
                    have hGs := gA_s hG hlg (by omega) (by omega) (by omega)
                    rw [show (12 * i + c) / 12 = i by omega, show (12 * i + c) % 12 = c by omega] at hGs
                    have hvF : vF Lf (X 17 3 0) 0 pt (X 17 1) (12 * i + c) = val Lf (X 17 3 0) 0 (pt + 1) (uI (X 17 1) i c) := by unfold vF; rw [show (12 * i + c) / 12 = i by omega, show (12 * i + c) % 12 = c by omega]
                    have hvr := val_rng hL (n := X 17 3 0) (by omega) (by omega) 0 (pt + 1) (uI (X 17 1) i c) (by rw [show X 17 3 0 - ((0 : Nat) : Int) = pt + 1 by omega]; exact hGs)
                    have hlb := lvn_bd hL (n := X 17 3 0) (by omega) (by omega) (r := 0) (p := pt) (a := X 17 1) (by rw [show X 17 3 0 - ((0 : Nat) : Int) - 1 = pt by omega]; exact hG) (k := 12 * i + c) (by omega)
                    have hb2r : -1 ≤ b2 ∧ b2 ≤ 2147483647 := by rw [hb2]; rcases Classical.em (pt % 2 = 0) with q | q; exact ⟨Int.le_trans (by decide) (hlb.1 q).1, (hlb.1 q).2⟩; exact ⟨(hlb.2 q).1, Int.le_trans (hlb.2 q).2 (by decide)⟩
                    clear hlb
                    refine g_aload_n F 4 dX5_endOf_89 rfl ?_
                    refine g17_getN_1 F  nf_X5_260 dX5_endOf_90 ?_
                    refine g_iload F 1 dX5_endOf_93 rfl ?_
                    refine g_iload F 0 dX5_endOf_95 rfl ?_
                    refine g17_ast_1 F  (by omega) dX5_endOf_97 ?_
                    refine g_aload_n F 4 dX5_endOf_98 rfl ?_
                    refine g_iload_n F 5 dX5_endOf_99 rfl ?_
                    refine g_iconst F dX5_endOf_100 ?_
                    refine g_iadd F dX5_endOf_101 ?_
                    refine g_callSI F (stk := [.int (iI (pt + 1)), .ref (xa 17 100)]) (st := []) (k_X5_endOf_0_3 κ xa (setO X 17 (mA (X 17) 1 (uI ((X 17) 1) i c))) Lf (pt + 1) hn (show pt + 1 = X 17 3 0 - 0 by omega) (by omega) hL hGs hT) cal_X5_endOf lm_X5_263 rfl (by decide) rfl (Nat.le_of_ble_eq_true rfl) dX5_endOf_102 (fun r102 ws102 _ hr102 => ?_)
                    obtain ⟨rfl, rfl⟩ := hr102
                    refine g_top (y := iI (val Lf (X 17 3 0) 0 (pt + 1) (uI (X 17 1) i c))) rfl ?_
                    refine g_istore F (lv' := [(6, .int (iI (val Lf (X 17 3 0) 0 (pt + 1) (uI (X 17 1) i c)))), (5, .int (iI c)), (4, .int (iI i)), (3, .int (iI b2)), (2, .int (iI 0)), (0, .ref (xa 17 100)), (1, .int (iI pt))]) dX5_endOf_105 (by decide) rfl ?_
                    refine g_iload_n F 4 dX5_endOf_107 rfl ?_
                    refine g_if_eq F 120 (by omega) dX5_endOf_108 (by decide) (fun c108 => ?_) (fun c108 => ?_)
                    · skip
                      refine g_iload_n F 3 dX5_endOf_120 rfl ?_
                      refine g_iload F 0 dX5_endOf_121 rfl ?_
                      refine g_max F (by omega) lm_X5_102 ms_max ms_ini mc_max (by decide) (Nat.le_of_ble_eq_true rfl) dX5_endOf_123 ?_
                      refine g_istore_n F (lv' := [(3, .int (iI (max b2 (val Lf (X 17 3 0) 0 (pt + 1) (uI (X 17 1) i c))))), (6, .int (iI (val Lf (X 17 3 0) 0 (pt + 1) (uI (X 17 1) i c)))), (5, .int (iI c)), (4, .int (iI i)), (2, .int (iI 0)), (0, .ref (xa 17 100)), (1, .int (iI pt))]) 3 dX5_endOf_126 rfl (by decide) rfl ?_
                      refine g_aload_n F 5 dX5_endOf_127 rfl ?_
                      refine g17_getN_1 F  nf_X5_260 dX5_endOf_128 ?_
                      refine g_iload F 3 dX5_endOf_131 rfl ?_
                      refine g_iconst F dX5_endOf_133 ?_
                      refine g17_ast_1 F  (by omega) dX5_endOf_134 ?_
                      refine g_ws (ws' := xw κ xa (setO X 17 (mA (X 17) 1 (uI (uI ((X 17) 1) i c) i (-1))))) rfl ?_
                      refine g_ws (ws' := xw κ xa X) (by rw [uI_uI, ← c61, uI_self, mA_self, setO_self]) ?_
                      refine g_iinc F (lv' := [(5, .int (iI (c + 1))), (3, .int (iI (max b2 (val Lf (X 17 3 0) 0 (pt + 1) (uI (X 17 1) i c))))), (6, .int (iI (val Lf (X 17 3 0) 0 (pt + 1) (uI (X 17 1) i c)))), (4, .int (iI i)), (2, .int (iI 0)), (0, .ref (xa 17 100)), (1, .int (iI pt))]) 2 dX5_endOf_135 rfl (by decide) rfl ?_
                      refine g_goto F 70 dX5_endOf_138 (by decide) ?_
                      refine g_sub F (lv' := [(5, .int (iI (c + 1))), (4, .int (iI i)), (3, .int (iI (max b2 (val Lf (X 17 3 0) 0 (pt + 1) (uI (X 17 1) i c))))), (2, .int (iI 0)), (0, .ref (xa 17 100)), (1, .int (iI pt))]) [0, 3, 1, 4, 5, 6] rfl ?_
                      exact ih70 _ (by omega) (c + 1) (max b2 (val Lf (X 17 3 0) 0 (pt + 1) (uI (X 17 1) i c))) rfl (by omega) (by rw [show 12 * i + (c + 1) = (12 * i + c) + 1 by omega, lv_t (by omega) hlg, hvF, ← hb2]; first | rw [if_pos c21] | rw [if_neg c21])
                    · skip
                      exact absurd trivial (by omega)
                  · skip
                    have c83 : tkn (X 17 1) (X 17 3 0) c := b2i_t c83
                    refine g_goto F 135 dX5_endOf_86 (by decide) ?_
                    refine g_iinc F (lv' := [(5, .int (iI (c + 1))), (4, .int (iI i)), (3, .int (iI b2)), (2, .int (iI 0)), (0, .ref (xa 17 100)), (1, .int (iI pt))]) 0 dX5_endOf_135 rfl (by decide) rfl ?_
                    refine g_goto F 70 dX5_endOf_138 (by decide) ?_
                    refine g_sub F (lv' := [(5, .int (iI (c + 1))), (4, .int (iI i)), (3, .int (iI b2)), (2, .int (iI 0)), (0, .ref (xa 17 100)), (1, .int (iI pt))]) [0, 1, 2, 3, 4, 5] rfl ?_
                    exact ih70 _ (by omega) (c + 1) b2 rfl (by omega) (by rw [show 12 * i + (c + 1) = (12 * i + c) + 1 by omega, lv_f (by omega) (fun z => z.2 (by rw [show (12 * i + c) % 12 = c by omega]; exact c83))]; exact hb2)
              refine g_sub F (lv' := [(5, .int (iI 0)), (4, .int (iI i)), (3, .int (iI b)), (2, .int (iI 0)), (0, .ref (xa 17 100)), (1, .int (iI pt))]) [0, 1, 2, 3, 4, 5] rfl ?_
              exact L70 _ 0 b rfl (by omega) (by rw [Int.add_zero]; exact hb)
            · skip
              refine g_goto F 141 dX5_endOf_64 (by decide) ?_
              refine g_iinc F (lv' := [(4, .int (iI (i + 1))), (3, .int (iI b)), (2, .int (iI 0)), (0, .ref (xa 17 100)), (1, .int (iI pt))]) 0 dX5_endOf_141 rfl (by decide) rfl ?_
              refine g_goto F 44 dX5_endOf_144 (by decide) ?_
              refine g_sub F (lv' := [(4, .int (iI (i + 1))), (3, .int (iI b)), (2, .int (iI 0)), (0, .ref (xa 17 100)), (1, .int (iI pt))]) [0, 1, 2, 3, 4] rfl ?_
              exact ih44 _ (by omega) (i + 1) b rfl (by omega) (by rw [hb]; exact (lv_skip (by omega) (by omega) (fun t x y z => c61 (by have h := z.1; rw [show t / 12 = i by omega] at h; exact h))).symm)
        refine g_sub F (lv' := [(4, .int (iI 0)), (3, .int (iI (-1))), (2, .int (iI 0)), (0, .ref (xa 17 100)), (1, .int (iI pt))]) [0, 1, 2, 3, 4] rfl ?_
        exact L44 _ 0 (-1) rfl (by omega) (by rw [show 12 * (0 : Int) = 0 by decide, lv_0]; unfold MAXI; split <;> omega)
      · skip
        exact absurd trivial (by omega)
    · skip
      refine g_iconst F dX5_endOf_24 ?_
      refine g_goto F 29 dX5_endOf_25 (by decide) ?_
      refine g_istore_n F (lv' := [(2, .int (iI 1)), (0, .ref (xa 17 100)), (1, .int (iI pt))]) 2 dX5_endOf_29 rfl (by decide) rfl ?_
      refine g_iload_n F 0 dX5_endOf_30 rfl ?_
      refine g_if_eq F 39 (by omega) dX5_endOf_31 (by decide) (fun c31 => ?_) (fun c31 => ?_)
      · skip
        exact absurd trivial (by omega)
      · skip
        refine g_ldc F (z := 2147483647) lc_X5_234 (by decide +kernel) dX5_endOf_34 ?_
        refine g_goto F 40 dX5_endOf_36 (by decide) ?_
        refine g_istore_n F (lv' := [(3, .int (iI 2147483647)), (2, .int (iI 1)), (0, .ref (xa 17 100)), (1, .int (iI pt))]) 3 dX5_endOf_40 rfl (by decide) rfl ?_
        refine g_iconst F dX5_endOf_41 ?_
        refine g_istore F (lv' := [(4, .int (iI 0)), (3, .int (iI 2147483647)), (2, .int (iI 1)), (0, .ref (xa 17 100)), (1, .int (iI pt))]) dX5_endOf_42 (by decide) rfl ?_
        have L44 : ∀ (mz44 : Nat) (i : Int) (b : Int), (X 17 3 0 - i).toNat = mz44 → (0 ≤ i ∧ i ≤ X 17 3 0) → (b = lvn Lf (X 17 3 0) 0 (X 17 1) pt (12 * i)) → G E (xw κ xa X) [(4, .int (iI i)), (3, .int (iI b)), (2, .int (iI 1)), (0, .ref (xa 17 100)), (1, .int (iI pt))] 44 [] := by
          intro mz44
          induction mz44 using Nat.strongRecOn with
          | _ mz44 ih44 =>
          intro i b hmz44 hi hb
          refine g_iload F 0 dX5_endOf_44 rfl ?_
          refine g_aload_n F 3 dX5_endOf_46 rfl ?_
          refine g17_getN_3 F  nf_X5_259 dX5_endOf_47 ?_
          refine g_icmp_ge F 147 (by omega) dX5_endOf_50 (by decide) (fun c50 => ?_) (fun c50 => ?_)
          · skip
            refine g_iload_n F 1 dX5_endOf_147 rfl ?_
            exact K xw_same ⟨iIc (by rw [hb, show i = X 17 3 0 by omega]; rfl), rfl⟩ rfl dX5_endOf_148
          · skip
            refine g_aload_n F 3 dX5_endOf_53 rfl ?_
            refine g17_getN_1 F  nf_X5_260 dX5_endOf_54 ?_
            have hai := hG.r i (by omega) (by omega)
            refine g_iload F 0 dX5_endOf_57 rfl ?_
            refine g17_ald_1 F  (by omega) dX5_endOf_59 ?_
            refine g_iconst F dX5_endOf_60 ?_
            refine g_icmp_eq F 67 (by omega) dX5_endOf_61 (by decide) (fun c61 => ?_) (fun c61 => ?_)
            · skip
              refine g_iconst F dX5_endOf_67 ?_
              refine g_istore F (lv' := [(5, .int (iI 0)), (4, .int (iI i)), (3, .int (iI b)), (2, .int (iI 1)), (0, .ref (xa 17 100)), (1, .int (iI pt))]) dX5_endOf_68 (by decide) rfl ?_
              have L70 : ∀ (mz70 : Nat) (c : Int) (b2 : Int), (12 - c).toNat = mz70 → (0 ≤ c ∧ c ≤ 12) → (b2 = lvn Lf (X 17 3 0) 0 (X 17 1) pt (12 * i + c)) → G E (xw κ xa X) [(5, .int (iI c)), (4, .int (iI i)), (3, .int (iI b2)), (2, .int (iI 1)), (0, .ref (xa 17 100)), (1, .int (iI pt))] 70 [] := by
                intro mz70
                induction mz70 using Nat.strongRecOn with
                | _ mz70 ih70 =>
                intro c b2 hmz70 hc hb2
                refine g_iload F 0 dX5_endOf_70 rfl ?_
                refine g_bipush F dX5_endOf_72 (by decide +kernel) ?_
                refine g_icmp_ge F 141 (by omega) dX5_endOf_74 (by decide) (fun c74 => ?_) (fun c74 => ?_)
                · skip
                  refine g_iinc F (lv' := [(4, .int (iI (i + 1))), (5, .int (iI c)), (3, .int (iI b2)), (2, .int (iI 1)), (0, .ref (xa 17 100)), (1, .int (iI pt))]) 1 dX5_endOf_141 rfl (by decide) rfl ?_
                  refine g_goto F 44 dX5_endOf_144 (by decide) ?_
                  refine g_sub F (lv' := [(4, .int (iI (i + 1))), (3, .int (iI b2)), (2, .int (iI 1)), (0, .ref (xa 17 100)), (1, .int (iI pt))]) [0, 2, 3, 4, 5] rfl ?_
                  exact ih44 _ (by omega) (i + 1) b2 rfl (by omega) (by rw [hb2, show 12 * i + c = 12 * (i + 1) by omega])
                · skip
                  refine g_aload_n F 4 dX5_endOf_77 rfl ?_
                  refine g_iload F 0 dX5_endOf_78 rfl ?_
                  refine g_callNI F (stk := [.int (iI c), .ref (xa 17 100)]) (st := []) (k_X4_isTaken κ xa X c (show 0 ≤ ((X 17) 3 0) ∧ ((X 17) 3 0) ≤ 3 from by omega) hG.r (by omega)) cal_X4_isTaken nm_X5_272 77 rfl rfl rfl rfl (by decide) rfl (Nat.le_of_ble_eq_true rfl) dX5_endOf_80 (fun r80 ws80 _ hr80 => ?_)
                  obtain ⟨rfl, rfl⟩ := hr80
                  refine g_if_eq F 89 (b2i_in _) dX5_endOf_83 (by decide) (fun c83 => ?_) (fun c83 => ?_)
                  · skip
                    have c83 : ¬ (tkn (X 17 1) (X 17 3 0) c) := b2i_f c83
                    have hlg : legal (X 17 1) (X 17 3 0) (12 * i + c) := ⟨by rw [show (12 * i + c) / 12 = i by omega]; exact c61, by rw [show (12 * i + c) % 12 = c by omega]; exact c83⟩
                    have hGs := gA_s hG hlg (by omega) (by omega) (by omega)
                    rw [show (12 * i + c) / 12 = i by omega, show (12 * i + c) % 12 = c by omega] at hGs
                    have hvF : vF Lf (X 17 3 0) 0 pt (X 17 1) (12 * i + c) = val Lf (X 17 3 0) 0 (pt + 1) (uI (X 17 1) i c) := by unfold vF; rw [show (12 * i + c) / 12 = i by omega, show (12 * i + c) % 12 = c by omega]
                    have hvr := val_rng hL (n := X 17 3 0) (by omega) (by omega) 0 (pt + 1) (uI (X 17 1) i c) (by rw [show X 17 3 0 - ((0 : Nat) : Int) = pt + 1 by omega]; exact hGs)
                    have hlb := lvn_bd hL (n := X 17 3 0) (by omega) (by omega) (r := 0) (p := pt) (a := X 17 1) (by rw [show X 17 3 0 - ((0 : Nat) : Int) - 1 = pt by omega]; exact hG) (k := 12 * i + c) (by omega)
                    have hb2r : -1 ≤ b2 ∧ b2 ≤ 2147483647 := by rw [hb2]; rcases Classical.em (pt % 2 = 0) with q | q; exact ⟨Int.le_trans (by decide) (hlb.1 q).1, (hlb.1 q).2⟩; exact ⟨(hlb.2 q).1, Int.le_trans (hlb.2 q).2 (by decide)⟩
                    clear hlb
                    refine g_aload_n F 4 dX5_endOf_89 rfl ?_
                    refine g17_getN_1 F  nf_X5_260 dX5_endOf_90 ?_
                    refine g_iload F 1 dX5_endOf_93 rfl ?_
                    refine g_iload F 0 dX5_endOf_95 rfl ?_
                    refine g17_ast_1 F  (by omega) dX5_endOf_97 ?_
                    refine g_aload_n F 4 dX5_endOf_98 rfl ?_
                    refine g_iload_n F 5 dX5_endOf_99 rfl ?_
                    refine g_iconst F dX5_endOf_100 ?_
                    refine g_iadd F dX5_endOf_101 ?_
                    refine g_callSI F (stk := [.int (iI (pt + 1)), .ref (xa 17 100)]) (st := []) (k_X5_endOf_0_3 κ xa (setO X 17 (mA (X 17) 1 (uI ((X 17) 1) i c))) Lf (pt + 1) hn (show pt + 1 = X 17 3 0 - 0 by omega) (by omega) hL hGs hT) cal_X5_endOf lm_X5_263 rfl (by decide) rfl (Nat.le_of_ble_eq_true rfl) dX5_endOf_102 (fun r102 ws102 _ hr102 => ?_)
                    obtain ⟨rfl, rfl⟩ := hr102
                    refine g_top (y := iI (val Lf (X 17 3 0) 0 (pt + 1) (uI (X 17 1) i c))) rfl ?_
                    refine g_istore F (lv' := [(6, .int (iI (val Lf (X 17 3 0) 0 (pt + 1) (uI (X 17 1) i c)))), (5, .int (iI c)), (4, .int (iI i)), (3, .int (iI b2)), (2, .int (iI 1)), (0, .ref (xa 17 100)), (1, .int (iI pt))]) dX5_endOf_105 (by decide) rfl ?_
                    refine g_iload_n F 4 dX5_endOf_107 rfl ?_
                    refine g_if_eq F 120 (by omega) dX5_endOf_108 (by decide) (fun c108 => ?_) (fun c108 => ?_)
                    · skip
                      exact absurd trivial (by omega)
                    · skip
                      refine g_iload_n F 3 dX5_endOf_111 rfl ?_
                      refine g_iload F 0 dX5_endOf_112 rfl ?_
                      refine g_min F (by omega) lm_X5_275 ms_min ms_ini mc_min (by decide) (Nat.le_of_ble_eq_true rfl) dX5_endOf_114 ?_
                      refine g_goto F 126 dX5_endOf_117 (by decide) ?_
                      refine g_istore_n F (lv' := [(3, .int (iI (min b2 (val Lf (X 17 3 0) 0 (pt + 1) (uI (X 17 1) i c))))), (6, .int (iI (val Lf (X 17 3 0) 0 (pt + 1) (uI (X 17 1) i c)))), (5, .int (iI c)), (4, .int (iI i)), (2, .int (iI 1)), (0, .ref (xa 17 100)), (1, .int (iI pt))]) 3 dX5_endOf_126 rfl (by decide) rfl ?_
                      refine g_aload_n F 5 dX5_endOf_127 rfl ?_
                      refine g17_getN_1 F  nf_X5_260 dX5_endOf_128 ?_
                      refine g_iload F 3 dX5_endOf_131 rfl ?_
                      refine g_iconst F dX5_endOf_133 ?_
                      refine g17_ast_1 F  (by omega) dX5_endOf_134 ?_
                      refine g_ws (ws' := xw κ xa (setO X 17 (mA (X 17) 1 (uI (uI ((X 17) 1) i c) i (-1))))) rfl ?_
                      refine g_ws (ws' := xw κ xa X) (by rw [uI_uI, ← c61, uI_self, mA_self, setO_self]) ?_
                      refine g_iinc F (lv' := [(5, .int (iI (c + 1))), (3, .int (iI (min b2 (val Lf (X 17 3 0) 0 (pt + 1) (uI (X 17 1) i c))))), (6, .int (iI (val Lf (X 17 3 0) 0 (pt + 1) (uI (X 17 1) i c)))), (4, .int (iI i)), (2, .int (iI 1)), (0, .ref (xa 17 100)), (1, .int (iI pt))]) 2 dX5_endOf_135 rfl (by decide) rfl ?_
                      refine g_goto F 70 dX5_endOf_138 (by decide) ?_
                      refine g_sub F (lv' := [(5, .int (iI (c + 1))), (4, .int (iI i)), (3, .int (iI (min b2 (val Lf (X 17 3 0) 0 (pt + 1) (uI (X 17 1) i c))))), (2, .int (iI 1)), (0, .ref (xa 17 100)), (1, .int (iI pt))]) [0, 3, 1, 4, 5, 6] rfl ?_
                      exact ih70 _ (by omega) (c + 1) (min b2 (val Lf (X 17 3 0) 0 (pt + 1) (uI (X 17 1) i c))) rfl (by omega) (by rw [show 12 * i + (c + 1) = (12 * i + c) + 1 by omega, lv_t (by omega) hlg, hvF, ← hb2]; first | rw [if_pos c21] | rw [if_neg c21])
                  · skip
                    have c83 : tkn (X 17 1) (X 17 3 0) c := b2i_t c83
                    refine g_goto F 135 dX5_endOf_86 (by decide) ?_
                    refine g_iinc F (lv' := [(5, .int (iI (c + 1))), (4, .int (iI i)), (3, .int (iI b2)), (2, .int (iI 1)), (0, .ref (xa 17 100)), (1, .int (iI pt))]) 0 dX5_endOf_135 rfl (by decide) rfl ?_
                    refine g_goto F 70 dX5_endOf_138 (by decide) ?_
                    refine g_sub F (lv' := [(5, .int (iI (c + 1))), (4, .int (iI i)), (3, .int (iI b2)), (2, .int (iI 1)), (0, .ref (xa 17 100)), (1, .int (iI pt))]) [0, 1, 2, 3, 4, 5] rfl ?_
                    exact ih70 _ (by omega) (c + 1) b2 rfl (by omega) (by rw [show 12 * i + (c + 1) = (12 * i + c) + 1 by omega, lv_f (by omega) (fun z => z.2 (by rw [show (12 * i + c) % 12 = c by omega]; exact c83))]; exact hb2)
              refine g_sub F (lv' := [(5, .int (iI 0)), (4, .int (iI i)), (3, .int (iI b)), (2, .int (iI 1)), (0, .ref (xa 17 100)), (1, .int (iI pt))]) [0, 1, 2, 3, 4, 5] rfl ?_
              exact L70 _ 0 b rfl (by omega) (by rw [Int.add_zero]; exact hb)
            · skip
              refine g_goto F 141 dX5_endOf_64 (by decide) ?_
              refine g_iinc F (lv' := [(4, .int (iI (i + 1))), (3, .int (iI b)), (2, .int (iI 1)), (0, .ref (xa 17 100)), (1, .int (iI pt))]) 0 dX5_endOf_141 rfl (by decide) rfl ?_
              refine g_goto F 44 dX5_endOf_144 (by decide) ?_
              refine g_sub F (lv' := [(4, .int (iI (i + 1))), (3, .int (iI b)), (2, .int (iI 1)), (0, .ref (xa 17 100)), (1, .int (iI pt))]) [0, 1, 2, 3, 4] rfl ?_
              exact ih44 _ (by omega) (i + 1) b rfl (by omega) (by rw [hb]; exact (lv_skip (by omega) (by omega) (fun t x y z => c61 (by have h := z.1; rw [show t / 12 = i by omega] at h; exact h))).symm)
        refine g_sub F (lv' := [(4, .int (iI 0)), (3, .int (iI 2147483647)), (2, .int (iI 1)), (0, .ref (xa 17 100)), (1, .int (iI pt))]) [0, 1, 2, 3, 4] rfl ?_
        exact L44 _ 0 2147483647 rfl (by omega) (by rw [show 12 * (0 : Int) = 0 by decide, lv_0]; unfold MAXI; split <;> omega)
  · skip
    exact absurd trivial (by omega)
set_option maxRecDepth 100000 in
set_option maxHeartbeats 4000000 in
theorem k_X5_endOf_2_4 (κ : Kp) (xa : Nat → Nat → Nat) (X : XS) (Lf : (Int → Int) → Int) (pt : Int) (hn : 1 ≤ X 17 3 0 ∧ X 17 3 0 ≤ 3) (hp : pt = X 17 3 0 - 2) (hpp : 0 ≤ pt) (hL : okL Lf) (hG : gA (X 17 1) (X 17 3 0) pt) (hT : ∀ b : Int → Int, gA b (X 17 3 0) (X 17 3 0) → X 17 2 (nmI b (X 17 3 0)) = Lf b) : mI κ yX5_endOf cX5_endOf 7 .int 4 [.ref (xa 17 100), .int (iI pt)] (xw κ xa X) (is1 (iI (val Lf (X 17 3 0) 2 pt (X 17 1))) (xw κ xa X)) := by
  refine mI_of (by decide) (Nat.le_of_ble_eq_true rfl) (fun E F K => ?_)
  refine g_lv (lv' := [(0, .ref (xa 17 100)), (1, .int (iI pt))]) rfl ?_
  refine g_iload_n F 1 dX5_endOf_0 rfl ?_
  refine g_aload_n F 0 dX5_endOf_1 rfl ?_
  refine g17_getN_3 F  nf_X5_259 dX5_endOf_2 ?_
  refine g_icmp_lt F 18 (by omega) dX5_endOf_5 (by decide) (fun c5 => ?_) (fun c5 => ?_)
  · skip
    refine g_iload_n F 1 dX5_endOf_18 rfl ?_
    refine g_iconst F dX5_endOf_19 ?_
    refine g_irem F dX5_endOf_20 (by omega) ?_
    refine g_if_ne F 28 (by omega) dX5_endOf_21 (by decide) (fun c21 => ?_) (fun c21 => ?_)
    · skip
      refine g_iconst F dX5_endOf_28 ?_
      refine g_istore_n F (lv' := [(2, .int (iI 0)), (0, .ref (xa 17 100)), (1, .int (iI pt))]) 2 dX5_endOf_29 rfl (by decide) rfl ?_
      refine g_iload_n F 0 dX5_endOf_30 rfl ?_
      refine g_if_eq F 39 (by omega) dX5_endOf_31 (by decide) (fun c31 => ?_) (fun c31 => ?_)
      · skip
        refine g_iconst F dX5_endOf_39 ?_
        refine g_istore_n F (lv' := [(3, .int (iI (-1))), (2, .int (iI 0)), (0, .ref (xa 17 100)), (1, .int (iI pt))]) 3 dX5_endOf_40 rfl (by decide) rfl ?_
        refine g_iconst F dX5_endOf_41 ?_
        refine g_istore F (lv' := [(4, .int (iI 0)), (3, .int (iI (-1))), (2, .int (iI 0)), (0, .ref (xa 17 100)), (1, .int (iI pt))]) dX5_endOf_42 (by decide) rfl ?_
        have L44 : ∀ (mz44 : Nat) (i : Int) (b : Int), (X 17 3 0 - i).toNat = mz44 → (0 ≤ i ∧ i ≤ X 17 3 0) → (b = lvn Lf (X 17 3 0) 1 (X 17 1) pt (12 * i)) → G E (xw κ xa X) [(4, .int (iI i)), (3, .int (iI b)), (2, .int (iI 0)), (0, .ref (xa 17 100)), (1, .int (iI pt))] 44 [] := by
          intro mz44
          induction mz44 using Nat.strongRecOn with
          | _ mz44 ih44 =>
          intro i b hmz44 hi hb
          refine g_iload F 0 dX5_endOf_44 rfl ?_
          refine g_aload_n F 3 dX5_endOf_46 rfl ?_
          refine g17_getN_3 F  nf_X5_259 dX5_endOf_47 ?_
          refine g_icmp_ge F 147 (by omega) dX5_endOf_50 (by decide) (fun c50 => ?_) (fun c50 => ?_)
          · skip
            refine g_iload_n F 1 dX5_endOf_147 rfl ?_
            exact K xw_same ⟨iIc (by rw [hb, show i = X 17 3 0 by omega]; rfl), rfl⟩ rfl dX5_endOf_148
          · skip
            refine g_aload_n F 3 dX5_endOf_53 rfl ?_
            refine g17_getN_1 F  nf_X5_260 dX5_endOf_54 ?_
            have hai := hG.r i (by omega) (by omega)
            refine g_iload F 0 dX5_endOf_57 rfl ?_
            refine g17_ald_1 F  (by omega) dX5_endOf_59 ?_
            refine g_iconst F dX5_endOf_60 ?_
            refine g_icmp_eq F 67 (by omega) dX5_endOf_61 (by decide) (fun c61 => ?_) (fun c61 => ?_)
            · skip
              refine g_iconst F dX5_endOf_67 ?_
              refine g_istore F (lv' := [(5, .int (iI 0)), (4, .int (iI i)), (3, .int (iI b)), (2, .int (iI 0)), (0, .ref (xa 17 100)), (1, .int (iI pt))]) dX5_endOf_68 (by decide) rfl ?_
              have L70 : ∀ (mz70 : Nat) (c : Int) (b2 : Int), (12 - c).toNat = mz70 → (0 ≤ c ∧ c ≤ 12) → (b2 = lvn Lf (X 17 3 0) 1 (X 17 1) pt (12 * i + c)) → G E (xw κ xa X) [(5, .int (iI c)), (4, .int (iI i)), (3, .int (iI b2)), (2, .int (iI 0)), (0, .ref (xa 17 100)), (1, .int (iI pt))] 70 [] := by
                intro mz70
                induction mz70 using Nat.strongRecOn with
                | _ mz70 ih70 =>
                intro c b2 hmz70 hc hb2
                refine g_iload F 0 dX5_endOf_70 rfl ?_
                refine g_bipush F dX5_endOf_72 (by decide +kernel) ?_
                refine g_icmp_ge F 141 (by omega) dX5_endOf_74 (by decide) (fun c74 => ?_) (fun c74 => ?_)
                · skip
                  refine g_iinc F (lv' := [(4, .int (iI (i + 1))), (5, .int (iI c)), (3, .int (iI b2)), (2, .int (iI 0)), (0, .ref (xa 17 100)), (1, .int (iI pt))]) 1 dX5_endOf_141 rfl (by decide) rfl ?_
                  refine g_goto F 44 dX5_endOf_144 (by decide) ?_
                  refine g_sub F (lv' := [(4, .int (iI (i + 1))), (3, .int (iI b2)), (2, .int (iI 0)), (0, .ref (xa 17 100)), (1, .int (iI pt))]) [0, 2, 3, 4, 5] rfl ?_
                  exact ih44 _ (by omega) (i + 1) b2 rfl (by omega) (by rw [hb2, show 12 * i + c = 12 * (i + 1) by omega])
                · skip
                  refine g_aload_n F 4 dX5_endOf_77 rfl ?_
                  refine g_iload F 0 dX5_endOf_78 rfl ?_
                  refine g_callNI F (stk := [.int (iI c), .ref (xa 17 100)]) (st := []) (k_X4_isTaken κ xa X c (show 0 ≤ ((X 17) 3 0) ∧ ((X 17) 3 0) ≤ 3 from by omega) hG.r (by omega)) cal_X4_isTaken nm_X5_272 77 rfl rfl rfl rfl (by decide) rfl (Nat.le_of_ble_eq_true rfl) dX5_endOf_80 (fun r80 ws80 _ hr80 => ?_)
                  obtain ⟨rfl, rfl⟩ := hr80
                  refine g_if_eq F 89 (b2i_in _) dX5_endOf_83 (by decide) (fun c83 => ?_) (fun c83 => ?_)
                  · skip
                    have c83 : ¬ (tkn (X 17 1) (X 17 3 0) c) := b2i_f c83
                    have hlg : legal (X 17 1) (X 17 3 0) (12 * i + c) := ⟨by rw [show (12 * i + c) / 12 = i by omega]; exact c61, by rw [show (12 * i + c) % 12 = c by omega]; exact c83⟩
                    have hGs := gA_s hG hlg (by omega) (by omega) (by omega)
                    rw [show (12 * i + c) / 12 = i by omega, show (12 * i + c) % 12 = c by omega] at hGs
                    have hvF : vF Lf (X 17 3 0) 1 pt (X 17 1) (12 * i + c) = val Lf (X 17 3 0) 1 (pt + 1) (uI (X 17 1) i c) := by unfold vF; rw [show (12 * i + c) / 12 = i by omega, show (12 * i + c) % 12 = c by omega]
                    have hvr := val_rng hL (n := X 17 3 0) (by omega) (by omega) 1 (pt + 1) (uI (X 17 1) i c) (by rw [show X 17 3 0 - ((1 : Nat) : Int) = pt + 1 by omega]; exact hGs)
                    have hlb := lvn_bd hL (n := X 17 3 0) (by omega) (by omega) (r := 1) (p := pt) (a := X 17 1) (by rw [show X 17 3 0 - ((1 : Nat) : Int) - 1 = pt by omega]; exact hG) (k := 12 * i + c) (by omega)
                    have hb2r : -1 ≤ b2 ∧ b2 ≤ 2147483647 := by rw [hb2]; rcases Classical.em (pt % 2 = 0) with q | q; exact ⟨Int.le_trans (by decide) (hlb.1 q).1, (hlb.1 q).2⟩; exact ⟨(hlb.2 q).1, Int.le_trans (hlb.2 q).2 (by decide)⟩
                    clear hlb
                    refine g_aload_n F 4 dX5_endOf_89 rfl ?_
                    refine g17_getN_1 F  nf_X5_260 dX5_endOf_90 ?_
                    refine g_iload F 1 dX5_endOf_93 rfl ?_
                    refine g_iload F 0 dX5_endOf_95 rfl ?_
                    refine g17_ast_1 F  (by omega) dX5_endOf_97 ?_
                    refine g_aload_n F 4 dX5_endOf_98 rfl ?_
                    refine g_iload_n F 5 dX5_endOf_99 rfl ?_
                    refine g_iconst F dX5_endOf_100 ?_
                    refine g_iadd F dX5_endOf_101 ?_
                    refine g_callSI F (stk := [.int (iI (pt + 1)), .ref (xa 17 100)]) (st := []) (k_X5_endOf_1_3 κ xa (setO X 17 (mA (X 17) 1 (uI ((X 17) 1) i c))) Lf (pt + 1) hn (show pt + 1 = X 17 3 0 - 1 by omega) (by omega) hL hGs hT) cal_X5_endOf lm_X5_263 rfl (by decide) rfl (Nat.le_of_ble_eq_true rfl) dX5_endOf_102 (fun r102 ws102 _ hr102 => ?_)
                    obtain ⟨rfl, rfl⟩ := hr102
                    refine g_top (y := iI (val Lf (X 17 3 0) 1 (pt + 1) (uI (X 17 1) i c))) rfl ?_
                    refine g_istore F (lv' := [(6, .int (iI (val Lf (X 17 3 0) 1 (pt + 1) (uI (X 17 1) i c)))), (5, .int (iI c)), (4, .int (iI i)), (3, .int (iI b2)), (2, .int (iI 0)), (0, .ref (xa 17 100)), (1, .int (iI pt))]) dX5_endOf_105 (by decide) rfl ?_
                    refine g_iload_n F 4 dX5_endOf_107 rfl ?_
                    refine g_if_eq F 120 (by omega) dX5_endOf_108 (by decide) (fun c108 => ?_) (fun c108 => ?_)
                    · skip
                      refine g_iload_n F 3 dX5_endOf_120 rfl ?_
                      refine g_iload F 0 dX5_endOf_121 rfl ?_
                      refine g_max F (by omega) lm_X5_102 ms_max ms_ini mc_max (by decide) (Nat.le_of_ble_eq_true rfl) dX5_endOf_123 ?_
                      refine g_istore_n F (lv' := [(3, .int (iI (max b2 (val Lf (X 17 3 0) 1 (pt + 1) (uI (X 17 1) i c))))), (6, .int (iI (val Lf (X 17 3 0) 1 (pt + 1) (uI (X 17 1) i c)))), (5, .int (iI c)), (4, .int (iI i)), (2, .int (iI 0)), (0, .ref (xa 17 100)), (1, .int (iI pt))]) 3 dX5_endOf_126 rfl (by decide) rfl ?_
                      refine g_aload_n F 5 dX5_endOf_127 rfl ?_
                      refine g17_getN_1 F  nf_X5_260 dX5_endOf_128 ?_
                      refine g_iload F 3 dX5_endOf_131 rfl ?_
                      refine g_iconst F dX5_endOf_133 ?_
                      refine g17_ast_1 F  (by omega) dX5_endOf_134 ?_
                      refine g_ws (ws' := xw κ xa (setO X 17 (mA (X 17) 1 (uI (uI ((X 17) 1) i c) i (-1))))) rfl ?_
                      refine g_ws (ws' := xw κ xa X) (by rw [uI_uI, ← c61, uI_self, mA_self, setO_self]) ?_
                      refine g_iinc F (lv' := [(5, .int (iI (c + 1))), (3, .int (iI (max b2 (val Lf (X 17 3 0) 1 (pt + 1) (uI (X 17 1) i c))))), (6, .int (iI (val Lf (X 17 3 0) 1 (pt + 1) (uI (X 17 1) i c)))), (4, .int (iI i)), (2, .int (iI 0)), (0, .ref (xa 17 100)), (1, .int (iI pt))]) 2 dX5_endOf_135 rfl (by decide) rfl ?_
                      refine g_goto F 70 dX5_endOf_138 (by decide) ?_
                      refine g_sub F (lv' := [(5, .int (iI (c + 1))), (4, .int (iI i)), (3, .int (iI (max b2 (val Lf (X 17 3 0) 1 (pt + 1) (uI (X 17 1) i c))))), (2, .int (iI 0)), (0, .ref (xa 17 100)), (1, .int (iI pt))]) [0, 3, 1, 4, 5, 6] rfl ?_
                      exact ih70 _ (by omega) (c + 1) (max b2 (val Lf (X 17 3 0) 1 (pt + 1) (uI (X 17 1) i c))) rfl (by omega) (by rw [show 12 * i + (c + 1) = (12 * i + c) + 1 by omega, lv_t (by omega) hlg, hvF, ← hb2]; first | rw [if_pos c21] | rw [if_neg c21])
                    · skip
                      exact absurd trivial (by omega)
                  · skip
                    have c83 : tkn (X 17 1) (X 17 3 0) c := b2i_t c83
                    refine g_goto F 135 dX5_endOf_86 (by decide) ?_
                    refine g_iinc F (lv' := [(5, .int (iI (c + 1))), (4, .int (iI i)), (3, .int (iI b2)), (2, .int (iI 0)), (0, .ref (xa 17 100)), (1, .int (iI pt))]) 0 dX5_endOf_135 rfl (by decide) rfl ?_
                    refine g_goto F 70 dX5_endOf_138 (by decide) ?_
                    refine g_sub F (lv' := [(5, .int (iI (c + 1))), (4, .int (iI i)), (3, .int (iI b2)), (2, .int (iI 0)), (0, .ref (xa 17 100)), (1, .int (iI pt))]) [0, 1, 2, 3, 4, 5] rfl ?_
                    exact ih70 _ (by omega) (c + 1) b2 rfl (by omega) (by rw [show 12 * i + (c + 1) = (12 * i + c) + 1 by omega, lv_f (by omega) (fun z => z.2 (by rw [show (12 * i + c) % 12 = c by omega]; exact c83))]; exact hb2)
              refine g_sub F (lv' := [(5, .int (iI 0)), (4, .int (iI i)), (3, .int (iI b)), (2, .int (iI 0)), (0, .ref (xa 17 100)), (1, .int (iI pt))]) [0, 1, 2, 3, 4, 5] rfl ?_
              exact L70 _ 0 b rfl (by omega) (by rw [Int.add_zero]; exact hb)
            · skip
              refine g_goto F 141 dX5_endOf_64 (by decide) ?_
              refine g_iinc F (lv' := [(4, .int (iI (i + 1))), (3, .int (iI b)), (2, .int (iI 0)), (0, .ref (xa 17 100)), (1, .int (iI pt))]) 0 dX5_endOf_141 rfl (by decide) rfl ?_
              refine g_goto F 44 dX5_endOf_144 (by decide) ?_
              refine g_sub F (lv' := [(4, .int (iI (i + 1))), (3, .int (iI b)), (2, .int (iI 0)), (0, .ref (xa 17 100)), (1, .int (iI pt))]) [0, 1, 2, 3, 4] rfl ?_
              exact ih44 _ (by omega) (i + 1) b rfl (by omega) (by rw [hb]; exact (lv_skip (by omega) (by omega) (fun t x y z => c61 (by have h := z.1; rw [show t / 12 = i by omega] at h; exact h))).symm)
        refine g_sub F (lv' := [(4, .int (iI 0)), (3, .int (iI (-1))), (2, .int (iI 0)), (0, .ref (xa 17 100)), (1, .int (iI pt))]) [0, 1, 2, 3, 4] rfl ?_
        exact L44 _ 0 (-1) rfl (by omega) (by rw [show 12 * (0 : Int) = 0 by decide, lv_0]; unfold MAXI; split <;> omega)
      · skip
        exact absurd trivial (by omega)
    · skip
      refine g_iconst F dX5_endOf_24 ?_
      refine g_goto F 29 dX5_endOf_25 (by decide) ?_
      refine g_istore_n F (lv' := [(2, .int (iI 1)), (0, .ref (xa 17 100)), (1, .int (iI pt))]) 2 dX5_endOf_29 rfl (by decide) rfl ?_
      refine g_iload_n F 0 dX5_endOf_30 rfl ?_
      refine g_if_eq F 39 (by omega) dX5_endOf_31 (by decide) (fun c31 => ?_) (fun c31 => ?_)
      · skip
        exact absurd trivial (by omega)
      · skip
        refine g_ldc F (z := 2147483647) lc_X5_234 (by decide +kernel) dX5_endOf_34 ?_
        refine g_goto F 40 dX5_endOf_36 (by decide) ?_
        refine g_istore_n F (lv' := [(3, .int (iI 2147483647)), (2, .int (iI 1)), (0, .ref (xa 17 100)), (1, .int (iI pt))]) 3 dX5_endOf_40 rfl (by decide) rfl ?_
        refine g_iconst F dX5_endOf_41 ?_
        refine g_istore F (lv' := [(4, .int (iI 0)), (3, .int (iI 2147483647)), (2, .int (iI 1)), (0, .ref (xa 17 100)), (1, .int (iI pt))]) dX5_endOf_42 (by decide) rfl ?_
        have L44 : ∀ (mz44 : Nat) (i : Int) (b : Int), (X 17 3 0 - i).toNat = mz44 → (0 ≤ i ∧ i ≤ X 17 3 0) → (b = lvn Lf (X 17 3 0) 1 (X 17 1) pt (12 * i)) → G E (xw κ xa X) [(4, .int (iI i)), (3, .int (iI b)), (2, .int (iI 1)), (0, .ref (xa 17 100)), (1, .int (iI pt))] 44 [] := by
          intro mz44
          induction mz44 using Nat.strongRecOn with
          | _ mz44 ih44 =>
          intro i b hmz44 hi hb
          refine g_iload F 0 dX5_endOf_44 rfl ?_
          refine g_aload_n F 3 dX5_endOf_46 rfl ?_
          refine g17_getN_3 F  nf_X5_259 dX5_endOf_47 ?_
          refine g_icmp_ge F 147 (by omega) dX5_endOf_50 (by decide) (fun c50 => ?_) (fun c50 => ?_)
          · skip
            refine g_iload_n F 1 dX5_endOf_147 rfl ?_
            exact K xw_same ⟨iIc (by rw [hb, show i = X 17 3 0 by omega]; rfl), rfl⟩ rfl dX5_endOf_148
          · skip
            refine g_aload_n F 3 dX5_endOf_53 rfl ?_
            refine g17_getN_1 F  nf_X5_260 dX5_endOf_54 ?_
            have hai := hG.r i (by omega) (by omega)
            refine g_iload F 0 dX5_endOf_57 rfl ?_
            refine g17_ald_1 F  (by omega) dX5_endOf_59 ?_
            refine g_iconst F dX5_endOf_60 ?_
            refine g_icmp_eq F 67 (by omega) dX5_endOf_61 (by decide) (fun c61 => ?_) (fun c61 => ?_)
            · skip
              refine g_iconst F dX5_endOf_67 ?_
              refine g_istore F (lv' := [(5, .int (iI 0)), (4, .int (iI i)), (3, .int (iI b)), (2, .int (iI 1)), (0, .ref (xa 17 100)), (1, .int (iI pt))]) dX5_endOf_68 (by decide) rfl ?_
              have L70 : ∀ (mz70 : Nat) (c : Int) (b2 : Int), (12 - c).toNat = mz70 → (0 ≤ c ∧ c ≤ 12) → (b2 = lvn Lf (X 17 3 0) 1 (X 17 1) pt (12 * i + c)) → G E (xw κ xa X) [(5, .int (iI c)), (4, .int (iI i)), (3, .int (iI b2)), (2, .int (iI 1)), (0, .ref (xa 17 100)), (1, .int (iI pt))] 70 [] := by
                intro mz70
                induction mz70 using Nat.strongRecOn with
                | _ mz70 ih70 =>
                intro c b2 hmz70 hc hb2
                refine g_iload F 0 dX5_endOf_70 rfl ?_
                refine g_bipush F dX5_endOf_72 (by decide +kernel) ?_
                refine g_icmp_ge F 141 (by omega) dX5_endOf_74 (by decide) (fun c74 => ?_) (fun c74 => ?_)
                · skip
                  refine g_iinc F (lv' := [(4, .int (iI (i + 1))), (5, .int (iI c)), (3, .int (iI b2)), (2, .int (iI 1)), (0, .ref (xa 17 100)), (1, .int (iI pt))]) 1 dX5_endOf_141 rfl (by decide) rfl ?_
                  refine g_goto F 44 dX5_endOf_144 (by decide) ?_
                  refine g_sub F (lv' := [(4, .int (iI (i + 1))), (3, .int (iI b2)), (2, .int (iI 1)), (0, .ref (xa 17 100)), (1, .int (iI pt))]) [0, 2, 3, 4, 5] rfl ?_
                  exact ih44 _ (by omega) (i + 1) b2 rfl (by omega) (by rw [hb2, show 12 * i + c = 12 * (i + 1) by omega])
                · skip
                  refine g_aload_n F 4 dX5_endOf_77 rfl ?_
                  refine g_iload F 0 dX5_endOf_78 rfl ?_
                  refine g_callNI F (stk := [.int (iI c), .ref (xa 17 100)]) (st := []) (k_X4_isTaken κ xa X c (show 0 ≤ ((X 17) 3 0) ∧ ((X 17) 3 0) ≤ 3 from by omega) hG.r (by omega)) cal_X4_isTaken nm_X5_272 77 rfl rfl rfl rfl (by decide) rfl (Nat.le_of_ble_eq_true rfl) dX5_endOf_80 (fun r80 ws80 _ hr80 => ?_)
                  obtain ⟨rfl, rfl⟩ := hr80
                  refine g_if_eq F 89 (b2i_in _) dX5_endOf_83 (by decide) (fun c83 => ?_) (fun c83 => ?_)
                  · skip
                    have c83 : ¬ (tkn (X 17 1) (X 17 3 0) c) := b2i_f c83
                    have hlg : legal (X 17 1) (X 17 3 0) (12 * i + c) := ⟨by rw [show (12 * i + c) / 12 = i by omega]; exact c61, by rw [show (12 * i + c) % 12 = c by omega]; exact c83⟩
                    have hGs := gA_s hG hlg (by omega) (by omega) (by omega)
                    rw [show (12 * i + c) / 12 = i by omega, show (12 * i + c) % 12 = c by omega] at hGs
                    have hvF : vF Lf (X 17 3 0) 1 pt (X 17 1) (12 * i + c) = val Lf (X 17 3 0) 1 (pt + 1) (uI (X 17 1) i c) := by unfold vF; rw [show (12 * i + c) / 12 = i by omega, show (12 * i + c) % 12 = c by omega]
                    have hvr := val_rng hL (n := X 17 3 0) (by omega) (by omega) 1 (pt + 1) (uI (X 17 1) i c) (by rw [show X 17 3 0 - ((1 : Nat) : Int) = pt + 1 by omega]; exact hGs)
                    have hlb := lvn_bd hL (n := X 17 3 0) (by omega) (by omega) (r := 1) (p := pt) (a := X 17 1) (by rw [show X 17 3 0 - ((1 : Nat) : Int) - 1 = pt by omega]; exact hG) (k := 12 * i + c) (by omega)
                    have hb2r : -1 ≤ b2 ∧ b2 ≤ 2147483647 := by rw [hb2]; rcases Classical.em (pt % 2 = 0) with q | q; exact ⟨Int.le_trans (by decide) (hlb.1 q).1, (hlb.1 q).2⟩; exact ⟨(hlb.2 q).1, Int.le_trans (hlb.2 q).2 (by decide)⟩
                    clear hlb
                    refine g_aload_n F 4 dX5_endOf_89 rfl ?_
                    refine g17_getN_1 F  nf_X5_260 dX5_endOf_90 ?_
                    refine g_iload F 1 dX5_endOf_93 rfl ?_
                    refine g_iload F 0 dX5_endOf_95 rfl ?_
                    refine g17_ast_1 F  (by omega) dX5_endOf_97 ?_
                    refine g_aload_n F 4 dX5_endOf_98 rfl ?_
                    refine g_iload_n F 5 dX5_endOf_99 rfl ?_
                    refine g_iconst F dX5_endOf_100 ?_
                    refine g_iadd F dX5_endOf_101 ?_
                    refine g_callSI F (stk := [.int (iI (pt + 1)), .ref (xa 17 100)]) (st := []) (k_X5_endOf_1_3 κ xa (setO X 17 (mA (X 17) 1 (uI ((X 17) 1) i c))) Lf (pt + 1) hn (show pt + 1 = X 17 3 0 - 1 by omega) (by omega) hL hGs hT) cal_X5_endOf lm_X5_263 rfl (by decide) rfl (Nat.le_of_ble_eq_true rfl) dX5_endOf_102 (fun r102 ws102 _ hr102 => ?_)
                    obtain ⟨rfl, rfl⟩ := hr102
                    refine g_top (y := iI (val Lf (X 17 3 0) 1 (pt + 1) (uI (X 17 1) i c))) rfl ?_
                    refine g_istore F (lv' := [(6, .int (iI (val Lf (X 17 3 0) 1 (pt + 1) (uI (X 17 1) i c)))), (5, .int (iI c)), (4, .int (iI i)), (3, .int (iI b2)), (2, .int (iI 1)), (0, .ref (xa 17 100)), (1, .int (iI pt))]) dX5_endOf_105 (by decide) rfl ?_
                    refine g_iload_n F 4 dX5_endOf_107 rfl ?_
                    refine g_if_eq F 120 (by omega) dX5_endOf_108 (by decide) (fun c108 => ?_) (fun c108 => ?_)
                    · skip
                      exact absurd trivial (by omega)
                    · skip
                      refine g_iload_n F 3 dX5_endOf_111 rfl ?_
                      refine g_iload F 0 dX5_endOf_112 rfl ?_
                      refine g_min F (by omega) lm_X5_275 ms_min ms_ini mc_min (by decide) (Nat.le_of_ble_eq_true rfl) dX5_endOf_114 ?_
                      refine g_goto F 126 dX5_endOf_117 (by decide) ?_
                      refine g_istore_n F (lv' := [(3, .int (iI (min b2 (val Lf (X 17 3 0) 1 (pt + 1) (uI (X 17 1) i c))))), (6, .int (iI (val Lf (X 17 3 0) 1 (pt + 1) (uI (X 17 1) i c)))), (5, .int (iI c)), (4, .int (iI i)), (2, .int (iI 1)), (0, .ref (xa 17 100)), (1, .int (iI pt))]) 3 dX5_endOf_126 rfl (by decide) rfl ?_
                      refine g_aload_n F 5 dX5_endOf_127 rfl ?_
                      refine g17_getN_1 F  nf_X5_260 dX5_endOf_128 ?_
                      refine g_iload F 3 dX5_endOf_131 rfl ?_
                      refine g_iconst F dX5_endOf_133 ?_
                      refine g17_ast_1 F  (by omega) dX5_endOf_134 ?_
                      refine g_ws (ws' := xw κ xa (setO X 17 (mA (X 17) 1 (uI (uI ((X 17) 1) i c) i (-1))))) rfl ?_
                      refine g_ws (ws' := xw κ xa X) (by rw [uI_uI, ← c61, uI_self, mA_self, setO_self]) ?_
                      refine g_iinc F (lv' := [(5, .int (iI (c + 1))), (3, .int (iI (min b2 (val Lf (X 17 3 0) 1 (pt + 1) (uI (X 17 1) i c))))), (6, .int (iI (val Lf (X 17 3 0) 1 (pt + 1) (uI (X 17 1) i c)))), (4, .int (iI i)), (2, .int (iI 1)), (0, .ref (xa 17 100)), (1, .int (iI pt))]) 2 dX5_endOf_135 rfl (by decide) rfl ?_
                      refine g_goto F 70 dX5_endOf_138 (by decide) ?_
                      refine g_sub F (lv' := [(5, .int (iI (c + 1))), (4, .int (iI i)), (3, .int (iI (min b2 (val Lf (X 17 3 0) 1 (pt + 1) (uI (X 17 1) i c))))), (2, .int (iI 1)), (0, .ref (xa 17 100)), (1, .int (iI pt))]) [0, 3, 1, 4, 5, 6] rfl ?_
                      exact ih70 _ (by omega) (c + 1) (min b2 (val Lf (X 17 3 0) 1 (pt + 1) (uI (X 17 1) i c))) rfl (by omega) (by rw [show 12 * i + (c + 1) = (12 * i + c) + 1 by omega, lv_t (by omega) hlg, hvF, ← hb2]; first | rw [if_pos c21] | rw [if_neg c21])
                  · skip
                    have c83 : tkn (X 17 1) (X 17 3 0) c := b2i_t c83
                    refine g_goto F 135 dX5_endOf_86 (by decide) ?_
                    refine g_iinc F (lv' := [(5, .int (iI (c + 1))), (4, .int (iI i)), (3, .int (iI b2)), (2, .int (iI 1)), (0, .ref (xa 17 100)), (1, .int (iI pt))]) 0 dX5_endOf_135 rfl (by decide) rfl ?_
                    refine g_goto F 70 dX5_endOf_138 (by decide) ?_
                    refine g_sub F (lv' := [(5, .int (iI (c + 1))), (4, .int (iI i)), (3, .int (iI b2)), (2, .int (iI 1)), (0, .ref (xa 17 100)), (1, .int (iI pt))]) [0, 1, 2, 3, 4, 5] rfl ?_
                    exact ih70 _ (by omega) (c + 1) b2 rfl (by omega) (by rw [show 12 * i + (c + 1) = (12 * i + c) + 1 by omega, lv_f (by omega) (fun z => z.2 (by rw [show (12 * i + c) % 12 = c by omega]; exact c83))]; exact hb2)
              refine g_sub F (lv' := [(5, .int (iI 0)), (4, .int (iI i)), (3, .int (iI b)), (2, .int (iI 1)), (0, .ref (xa 17 100)), (1, .int (iI pt))]) [0, 1, 2, 3, 4, 5] rfl ?_
              exact L70 _ 0 b rfl (by omega) (by rw [Int.add_zero]; exact hb)
            · skip
              refine g_goto F 141 dX5_endOf_64 (by decide) ?_
              refine g_iinc F (lv' := [(4, .int (iI (i + 1))), (3, .int (iI b)), (2, .int (iI 1)), (0, .ref (xa 17 100)), (1, .int (iI pt))]) 0 dX5_endOf_141 rfl (by decide) rfl ?_
              refine g_goto F 44 dX5_endOf_144 (by decide) ?_
              refine g_sub F (lv' := [(4, .int (iI (i + 1))), (3, .int (iI b)), (2, .int (iI 1)), (0, .ref (xa 17 100)), (1, .int (iI pt))]) [0, 1, 2, 3, 4] rfl ?_
              exact ih44 _ (by omega) (i + 1) b rfl (by omega) (by rw [hb]; exact (lv_skip (by omega) (by omega) (fun t x y z => c61 (by have h := z.1; rw [show t / 12 = i by omega] at h; exact h))).symm)
        refine g_sub F (lv' := [(4, .int (iI 0)), (3, .int (iI 2147483647)), (2, .int (iI 1)), (0, .ref (xa 17 100)), (1, .int (iI pt))]) [0, 1, 2, 3, 4] rfl ?_
        exact L44 _ 0 2147483647 rfl (by omega) (by rw [show 12 * (0 : Int) = 0 by decide, lv_0]; unfold MAXI; split <;> omega)
  · skip
    exact absurd trivial (by omega)
theorem k_X5_endOf_top (κ : Kp) (xa : Nat → Nat → Nat) (X : XS) (Lf : (Int → Int) → Int) (hn : 1 ≤ X 17 3 0 ∧ X 17 3 0 ≤ 3) (hL : okL Lf) (hG : gA (X 17 1) (X 17 3 0) 1) (hT : ∀ b : Int → Int, gA b (X 17 3 0) (X 17 3 0) → X 17 2 (nmI b (X 17 3 0)) = Lf b) : mI κ yX5_endOf cX5_endOf 7 .int 4 [.ref (xa 17 100), .int (iI 1)] (xw κ xa X) (is1 (iI (val Lf (X 17 3 0) (X 17 3 0 - 0 - 1).toNat (0 + 1) (X 17 1))) (xw κ xa X)) := by
  have h : X 17 3 0 = 1 ∨ X 17 3 0 = 2 ∨ X 17 3 0 = 3 := by omega
  rcases h with h | h | h
  · rw [show (X 17 3 0 - 0 - 1).toNat = 0 by omega]
    exact k_X5_endOf_0_4 κ xa X Lf 1 hn (by omega) (by decide) hL hG hT
  · rw [show (X 17 3 0 - 0 - 1).toNat = 1 by omega]
    exact k_X5_endOf_1_4 κ xa X Lf 1 hn (by omega) (by decide) hL hG hT
  · rw [show (X 17 3 0 - 0 - 1).toNat = 2 by omega]
    exact k_X5_endOf_2_4 κ xa X Lf 1 hn (by omega) (by decide) hL hG hT
