def bitc (x : Int32) : Int32 :=
  let x1 := x - ((x.toUInt32 >>> ((iI 1).toUInt32 &&& Int32.toUInt32 31)).toInt32 &&& iI 1431655765)
  let x2 := (x1 &&& iI 858993459) + ((x1.toUInt32 >>> ((iI 2).toUInt32 &&& Int32.toUInt32 31)).toInt32 &&& iI 858993459)
  let x3 := (x2 + (x2.toUInt32 >>> ((iI 4).toUInt32 &&& Int32.toUInt32 31)).toInt32) &&& iI 252645135
  let x4 := x3 + (x3.toUInt32 >>> ((iI 8).toUInt32 &&& Int32.toUInt32 31)).toInt32
  let x5 := x4 + (x4.toUInt32 >>> ((iI 16).toUInt32 &&& Int32.toUInt32 31)).toInt32
  x5 &&& iI 63
theorem bitc_2 : ∀ a : Nat, a < 64 → ∀ b : Nat, b < 64 → bitc (nI (64 * a + b)) = nI (pcN (64 * a + b)) := by decide +kernel
theorem bitc_ok {z : Int} (h0 : 0 ≤ z) (h1 : z < 4096) : bitc (iI z) = iI (pcnt z) := by
  have e : 64 * (z.toNat / 64) + z.toNat % 64 = z.toNat := by omega
  have k := bitc_2 (z.toNat / 64) (by omega) (z.toNat % 64) (by omega)
  rw [e] at k
  rw [iI_toN h0, k, pcnt, iI_nat]
def okRl (R : MS) : Prop := ((0 ≤ R 3 0 ∧ R 3 0 ≤ 6) ∧ 0 ≤ R 4 0 ∧ R 4 0 < 64) ∧ ∀ p : Int, 0 ≤ p → p < 6 → (0 ≤ R 0 p ∧ R 0 p ≤ 5) ∧ (0 ≤ R 1 p ∧ R 1 p ≤ 9) ∧ 0 ≤ R 2 p ∧ R 2 p ≤ 99
theorem div_p2' {b k : Int} (h : 0 ≤ b) : 0 ≤ b / p2 k := Int.ediv_nonneg h (by have := p2_pos k; omega)
theorem dJ6_bitCount_0f7a4_0 : decode cJ6_bitCount_0f7a4 0 = .ok (.iload_n 0, 1) := by decide +kernel
theorem dJ6_bitCount_0f7a4_1 : decode cJ6_bitCount_0f7a4 1 = .ok (.iload_n 0, 1) := by decide +kernel
theorem dJ6_bitCount_0f7a4_2 : decode cJ6_bitCount_0f7a4 2 = .ok (.iconst 1, 1) := by decide +kernel
theorem dJ6_bitCount_0f7a4_3 : decode cJ6_bitCount_0f7a4 3 = .ok (.iushr, 1) := by decide +kernel
theorem dJ6_bitCount_0f7a4_4 : decode cJ6_bitCount_0f7a4 4 = .ok (.ldc_w 265, 3) := by decide +kernel
theorem dJ6_bitCount_0f7a4_7 : decode cJ6_bitCount_0f7a4 7 = .ok (.iand, 1) := by decide +kernel
theorem dJ6_bitCount_0f7a4_8 : decode cJ6_bitCount_0f7a4 8 = .ok (.isub, 1) := by decide +kernel
theorem dJ6_bitCount_0f7a4_9 : decode cJ6_bitCount_0f7a4 9 = .ok (.istore_n 0, 1) := by decide +kernel
theorem dJ6_bitCount_0f7a4_10 : decode cJ6_bitCount_0f7a4 10 = .ok (.iload_n 0, 1) := by decide +kernel
theorem dJ6_bitCount_0f7a4_11 : decode cJ6_bitCount_0f7a4 11 = .ok (.ldc_w 266, 3) := by decide +kernel
theorem dJ6_bitCount_0f7a4_14 : decode cJ6_bitCount_0f7a4 14 = .ok (.iand, 1) := by decide +kernel
theorem dJ6_bitCount_0f7a4_15 : decode cJ6_bitCount_0f7a4 15 = .ok (.iload_n 0, 1) := by decide +kernel
theorem dJ6_bitCount_0f7a4_16 : decode cJ6_bitCount_0f7a4 16 = .ok (.iconst 2, 1) := by decide +kernel
theorem dJ6_bitCount_0f7a4_17 : decode cJ6_bitCount_0f7a4 17 = .ok (.iushr, 1) := by decide +kernel
theorem dJ6_bitCount_0f7a4_18 : decode cJ6_bitCount_0f7a4 18 = .ok (.ldc_w 266, 3) := by decide +kernel
theorem dJ6_bitCount_0f7a4_21 : decode cJ6_bitCount_0f7a4 21 = .ok (.iand, 1) := by decide +kernel
theorem dJ6_bitCount_0f7a4_22 : decode cJ6_bitCount_0f7a4 22 = .ok (.iadd, 1) := by decide +kernel
theorem dJ6_bitCount_0f7a4_23 : decode cJ6_bitCount_0f7a4 23 = .ok (.istore_n 0, 1) := by decide +kernel
theorem dJ6_bitCount_0f7a4_24 : decode cJ6_bitCount_0f7a4 24 = .ok (.iload_n 0, 1) := by decide +kernel
theorem dJ6_bitCount_0f7a4_25 : decode cJ6_bitCount_0f7a4 25 = .ok (.iload_n 0, 1) := by decide +kernel
theorem dJ6_bitCount_0f7a4_26 : decode cJ6_bitCount_0f7a4 26 = .ok (.iconst 4, 1) := by decide +kernel
theorem dJ6_bitCount_0f7a4_27 : decode cJ6_bitCount_0f7a4 27 = .ok (.iushr, 1) := by decide +kernel
theorem dJ6_bitCount_0f7a4_28 : decode cJ6_bitCount_0f7a4 28 = .ok (.iadd, 1) := by decide +kernel
theorem dJ6_bitCount_0f7a4_29 : decode cJ6_bitCount_0f7a4 29 = .ok (.ldc_w 267, 3) := by decide +kernel
theorem dJ6_bitCount_0f7a4_32 : decode cJ6_bitCount_0f7a4 32 = .ok (.iand, 1) := by decide +kernel
theorem dJ6_bitCount_0f7a4_33 : decode cJ6_bitCount_0f7a4 33 = .ok (.istore_n 0, 1) := by decide +kernel
theorem dJ6_bitCount_0f7a4_34 : decode cJ6_bitCount_0f7a4 34 = .ok (.iload_n 0, 1) := by decide +kernel
theorem dJ6_bitCount_0f7a4_35 : decode cJ6_bitCount_0f7a4 35 = .ok (.iload_n 0, 1) := by decide +kernel
theorem dJ6_bitCount_0f7a4_36 : decode cJ6_bitCount_0f7a4 36 = .ok (.bipush 8, 2) := by decide +kernel
theorem dJ6_bitCount_0f7a4_38 : decode cJ6_bitCount_0f7a4 38 = .ok (.iushr, 1) := by decide +kernel
theorem dJ6_bitCount_0f7a4_39 : decode cJ6_bitCount_0f7a4 39 = .ok (.iadd, 1) := by decide +kernel
theorem dJ6_bitCount_0f7a4_40 : decode cJ6_bitCount_0f7a4 40 = .ok (.istore_n 0, 1) := by decide +kernel
theorem dJ6_bitCount_0f7a4_41 : decode cJ6_bitCount_0f7a4 41 = .ok (.iload_n 0, 1) := by decide +kernel
theorem dJ6_bitCount_0f7a4_42 : decode cJ6_bitCount_0f7a4 42 = .ok (.iload_n 0, 1) := by decide +kernel
theorem dJ6_bitCount_0f7a4_43 : decode cJ6_bitCount_0f7a4 43 = .ok (.bipush 16, 2) := by decide +kernel
theorem dJ6_bitCount_0f7a4_45 : decode cJ6_bitCount_0f7a4 45 = .ok (.iushr, 1) := by decide +kernel
theorem dJ6_bitCount_0f7a4_46 : decode cJ6_bitCount_0f7a4 46 = .ok (.iadd, 1) := by decide +kernel
theorem dJ6_bitCount_0f7a4_47 : decode cJ6_bitCount_0f7a4 47 = .ok (.istore_n 0, 1) := by decide +kernel
theorem dJ6_bitCount_0f7a4_48 : decode cJ6_bitCount_0f7a4 48 = .ok (.iload_n 0, 1) := by decide +kernel
theorem dJ6_bitCount_0f7a4_49 : decode cJ6_bitCount_0f7a4 49 = .ok (.bipush 63, 2) := by decide +kernel
theorem dJ6_bitCount_0f7a4_51 : decode cJ6_bitCount_0f7a4 51 = .ok (.iand, 1) := by decide +kernel
theorem dJ6_bitCount_0f7a4_52 : decode cJ6_bitCount_0f7a4 52 = .ok (.ireturn, 1) := by decide +kernel
set_option maxRecDepth 100000 in
set_option maxHeartbeats 4000000 in
theorem k_J6_bitCount_0f7a4 (κ : Kp) (ws : va_W) (z : Int) (hz : 0 ≤ z ∧ z < 4096) : mI κ yJ6_bitCount_0f7a4 cJ6_bitCount_0f7a4 1 .int 0 [.int (iI z)] ws (is1 (iI (pcnt z)) ws) := by
  refine mI_of (by decide) (Nat.le_of_ble_eq_true rfl) (fun E F K => ?_)
  refine g_lv (lv' := [(0, .int (iI z))]) rfl ?_
  refine g_iload_n F 0 dJ6_bitCount_0f7a4_0 rfl ?_
  refine g_iload_n F 0 dJ6_bitCount_0f7a4_1 rfl ?_
  refine g_iconst F dJ6_bitCount_0f7a4_2 ?_
  refine g_iushr F dJ6_bitCount_0f7a4_3 ?_
  refine g_ldcw F (z := 1431655765) lc_J6_265 (by decide +kernel) dJ6_bitCount_0f7a4_4 ?_
  refine g_iand F dJ6_bitCount_0f7a4_7 ?_
  refine g_isubR F dJ6_bitCount_0f7a4_8 ?_
  refine g_istore_n F (lv' := [(0, .int ((iI z) - ((((iI z).toUInt32 >>> ((iI 1).toUInt32 &&& Int32.toUInt32 31)).toInt32) &&& (iI 1431655765))))]) 0 dJ6_bitCount_0f7a4_9 rfl (by decide) rfl ?_
  refine g_iload_n F 0 dJ6_bitCount_0f7a4_10 rfl ?_
  refine g_ldcw F (z := 858993459) lc_J6_266 (by decide +kernel) dJ6_bitCount_0f7a4_11 ?_
  refine g_iand F dJ6_bitCount_0f7a4_14 ?_
  refine g_iload_n F 0 dJ6_bitCount_0f7a4_15 rfl ?_
  refine g_iconst F dJ6_bitCount_0f7a4_16 ?_
  refine g_iushr F dJ6_bitCount_0f7a4_17 ?_
  refine g_ldcw F (z := 858993459) lc_J6_266 (by decide +kernel) dJ6_bitCount_0f7a4_18 ?_
  refine g_iand F dJ6_bitCount_0f7a4_21 ?_
  refine g_iaddR F dJ6_bitCount_0f7a4_22 ?_
  refine g_istore_n F (lv' := [(0, .int ((((iI z) - ((((iI z).toUInt32 >>> ((iI 1).toUInt32 &&& Int32.toUInt32 31)).toInt32) &&& (iI 1431655765))) &&& (iI 858993459)) + (((((iI z) - ((((iI z).toUInt32 >>> ((iI 1).toUInt32 &&& Int32.toUInt32 31)).toInt32) &&& (iI 1431655765))).toUInt32 >>> ((iI 2).toUInt32 &&& Int32.toUInt32 31)).toInt32) &&& (iI 858993459))))]) 0 dJ6_bitCount_0f7a4_23 rfl (by decide) rfl ?_
  refine g_iload_n F 0 dJ6_bitCount_0f7a4_24 rfl ?_
  refine g_iload_n F 0 dJ6_bitCount_0f7a4_25 rfl ?_
  refine g_iconst F dJ6_bitCount_0f7a4_26 ?_
  refine g_iushr F dJ6_bitCount_0f7a4_27 ?_
  refine g_iaddR F dJ6_bitCount_0f7a4_28 ?_
  refine g_ldcw F (z := 252645135) lc_J6_267 (by decide +kernel) dJ6_bitCount_0f7a4_29 ?_
  refine g_iand F dJ6_bitCount_0f7a4_32 ?_
  refine g_istore_n F (lv' := [(0, .int ((((((iI z) - ((((iI z).toUInt32 >>> ((iI 1).toUInt32 &&& Int32.toUInt32 31)).toInt32) &&& (iI 1431655765))) &&& (iI 858993459)) + (((((iI z) - ((((iI z).toUInt32 >>> ((iI 1).toUInt32 &&& Int32.toUInt32 31)).toInt32) &&& (iI 1431655765))).toUInt32 >>> ((iI 2).toUInt32 &&& Int32.toUInt32 31)).toInt32) &&& (iI 858993459))) + ((((((iI z) - ((((iI z).toUInt32 >>> ((iI 1).toUInt32 &&& Int32.toUInt32 31)).toInt32) &&& (iI 1431655765))) &&& (iI 858993459)) + (((((iI z) - ((((iI z).toUInt32 >>> ((iI 1).toUInt32 &&& Int32.toUInt32 31)).toInt32) &&& (iI 1431655765))).toUInt32 >>> ((iI 2).toUInt32 &&& Int32.toUInt32 31)).toInt32) &&& (iI 858993459))).toUInt32 >>> ((iI 4).toUInt32 &&& Int32.toUInt32 31)).toInt32)) &&& (iI 252645135)))]) 0 dJ6_bitCount_0f7a4_33 rfl (by decide) rfl ?_
  refine g_iload_n F 0 dJ6_bitCount_0f7a4_34 rfl ?_
  refine g_iload_n F 0 dJ6_bitCount_0f7a4_35 rfl ?_
  refine g_bipush F dJ6_bitCount_0f7a4_36 (by decide +kernel) ?_
  refine g_iushr F dJ6_bitCount_0f7a4_38 ?_
  refine g_iaddR F dJ6_bitCount_0f7a4_39 ?_
  refine g_istore_n F (lv' := [(0, .int (((((((iI z) - ((((iI z).toUInt32 >>> ((iI 1).toUInt32 &&& Int32.toUInt32 31)).toInt32) &&& (iI 1431655765))) &&& (iI 858993459)) + (((((iI z) - ((((iI z).toUInt32 >>> ((iI 1).toUInt32 &&& Int32.toUInt32 31)).toInt32) &&& (iI 1431655765))).toUInt32 >>> ((iI 2).toUInt32 &&& Int32.toUInt32 31)).toInt32) &&& (iI 858993459))) + ((((((iI z) - ((((iI z).toUInt32 >>> ((iI 1).toUInt32 &&& Int32.toUInt32 31)).toInt32) &&& (iI 1431655765))) &&& (iI 858993459)) + (((((iI z) - ((((iI z).toUInt32 >>> ((iI 1).toUInt32 &&& Int32.toUInt32 31)).toInt32) &&& (iI 1431655765))).toUInt32 >>> ((iI 2).toUInt32 &&& Int32.toUInt32 31)).toInt32) &&& (iI 858993459))).toUInt32 >>> ((iI 4).toUInt32 &&& Int32.toUInt32 31)).toInt32)) &&& (iI 252645135)) + ((((((((iI z) - ((((iI z).toUInt32 >>> ((iI 1).toUInt32 &&& Int32.toUInt32 31)).toInt32) &&& (iI 1431655765))) &&& (iI 858993459)) + (((((iI z) - ((((iI z).toUInt32 >>> ((iI 1).toUInt32 &&& Int32.toUInt32 31)).toInt32) &&& (iI 1431655765))).toUInt32 >>> ((iI 2).toUInt32 &&& Int32.toUInt32 31)).toInt32) &&& (iI 858993459))) + ((((((iI z) - ((((iI z).toUInt32 >>> ((iI 1).toUInt32 &&& Int32.toUInt32 31)).toInt32) &&& (iI 1431655765))) &&& (iI 858993459)) + (((((iI z) - ((((iI z).toUInt32 >>> ((iI 1).toUInt32 &&& Int32.toUInt32 31)).toInt32) &&& (iI 1431655765))).toUInt32 >>> ((iI 2).toUInt32 &&& Int32.toUInt32 31)).toInt32) &&& (iI 858993459))).toUInt32 >>> ((iI 4).toUInt32 &&& Int32.toUInt32 31)).toInt32)) &&& (iI 252645135)).toUInt32 >>> ((iI 8).toUInt32 &&& Int32.toUInt32 31)).toInt32)))]) 0 dJ6_bitCount_0f7a4_40 rfl (by decide) rfl ?_
  refine g_iload_n F 0 dJ6_bitCount_0f7a4_41 rfl ?_
  refine g_iload_n F 0 dJ6_bitCount_0f7a4_42 rfl ?_
  refine g_bipush F dJ6_bitCount_0f7a4_43 (by decide +kernel) ?_
  refine g_iushr F dJ6_bitCount_0f7a4_45 ?_
  refine g_iaddR F dJ6_bitCount_0f7a4_46 ?_
  refine g_istore_n F (lv' := [(0, .int ((((((((iI z) - ((((iI z).toUInt32 >>> ((iI 1).toUInt32 &&& Int32.toUInt32 31)).toInt32) &&& (iI 1431655765))) &&& (iI 858993459)) + (((((iI z) - ((((iI z).toUInt32 >>> ((iI 1).toUInt32 &&& Int32.toUInt32 31)).toInt32) &&& (iI 1431655765))).toUInt32 >>> ((iI 2).toUInt32 &&& Int32.toUInt32 31)).toInt32) &&& (iI 858993459))) + ((((((iI z) - ((((iI z).toUInt32 >>> ((iI 1).toUInt32 &&& Int32.toUInt32 31)).toInt32) &&& (iI 1431655765))) &&& (iI 858993459)) + (((((iI z) - ((((iI z).toUInt32 >>> ((iI 1).toUInt32 &&& Int32.toUInt32 31)).toInt32) &&& (iI 1431655765))).toUInt32 >>> ((iI 2).toUInt32 &&& Int32.toUInt32 31)).toInt32) &&& (iI 858993459))).toUInt32 >>> ((iI 4).toUInt32 &&& Int32.toUInt32 31)).toInt32)) &&& (iI 252645135)) + ((((((((iI z) - ((((iI z).toUInt32 >>> ((iI 1).toUInt32 &&& Int32.toUInt32 31)).toInt32) &&& (iI 1431655765))) &&& (iI 858993459)) + (((((iI z) - ((((iI z).toUInt32 >>> ((iI 1).toUInt32 &&& Int32.toUInt32 31)).toInt32) &&& (iI 1431655765))).toUInt32 >>> ((iI 2).toUInt32 &&& Int32.toUInt32 31)).toInt32) &&& (iI 858993459))) + ((((((iI z) - ((((iI z).toUInt32 >>> ((iI 1).toUInt32 &&& Int32.toUInt32 31)).toInt32) &&& (iI 1431655765))) &&& (iI 858993459)) + (((((iI z) - ((((iI z).toUInt32 >>> ((iI 1).toUInt32 &&& Int32.toUInt32 31)).toInt32) &&& (iI 1431655765))).toUInt32 >>> ((iI 2).toUInt32 &&& Int32.toUInt32 31)).toInt32) &&& (iI 858993459))).toUInt32 >>> ((iI 4).toUInt32 &&& Int32.toUInt32 31)).toInt32)) &&& (iI 252645135)).toUInt32 >>> ((iI 8).toUInt32 &&& Int32.toUInt32 31)).toInt32)) + (((((((((iI z) - ((((iI z).toUInt32 >>> ((iI 1).toUInt32 &&& Int32.toUInt32 31)).toInt32) &&& (iI 1431655765))) &&& (iI 858993459)) + (((((iI z) - ((((iI z).toUInt32 >>> ((iI 1).toUInt32 &&& Int32.toUInt32 31)).toInt32) &&& (iI 1431655765))).toUInt32 >>> ((iI 2).toUInt32 &&& Int32.toUInt32 31)).toInt32) &&& (iI 858993459))) + ((((((iI z) - ((((iI z).toUInt32 >>> ((iI 1).toUInt32 &&& Int32.toUInt32 31)).toInt32) &&& (iI 1431655765))) &&& (iI 858993459)) + (((((iI z) - ((((iI z).toUInt32 >>> ((iI 1).toUInt32 &&& Int32.toUInt32 31)).toInt32) &&& (iI 1431655765))).toUInt32 >>> ((iI 2).toUInt32 &&& Int32.toUInt32 31)).toInt32) &&& (iI 858993459))).toUInt32 >>> ((iI 4).toUInt32 &&& Int32.toUInt32 31)).toInt32)) &&& (iI 252645135)) + ((((((((iI z) - ((((iI z).toUInt32 >>> ((iI 1).toUInt32 &&& Int32.toUInt32 31)).toInt32) &&& (iI 1431655765))) &&& (iI 858993459)) + (((((iI z) - ((((iI z).toUInt32 >>> ((iI 1).toUInt32 &&& Int32.toUInt32 31)).toInt32) &&& (iI 1431655765))).toUInt32 >>> ((iI 2).toUInt32 &&& Int32.toUInt32 31)).toInt32) &&& (iI 858993459))) + ((((((iI z) - ((((iI z).toUInt32 >>> ((iI 1).toUInt32 &&& Int32.toUInt32 31)).toInt32) &&& (iI 1431655765))) &&& (iI 858993459)) + (((((iI z) - ((((iI z).toUInt32 >>> ((iI 1).toUInt32 &&& Int32.toUInt32 31)).toInt32) &&& (iI 1431655765))).toUInt32 >>> ((iI 2).toUInt32 &&& Int32.toUInt32 31)).toInt32) &&& (iI 858993459))).toUInt32 >>> ((iI 4).toUInt32 &&& Int32.toUInt32 31)).toInt32)) &&& (iI 252645135)).toUInt32 >>> ((iI 8).toUInt32 &&& Int32.toUInt32 31)).toInt32)).toUInt32 >>> ((iI 16).toUInt32 &&& Int32.toUInt32 31)).toInt32)))]) 0 dJ6_bitCount_0f7a4_47 rfl (by decide) rfl ?_
  refine g_iload_n F 0 dJ6_bitCount_0f7a4_48 rfl ?_
  refine g_bipush F dJ6_bitCount_0f7a4_49 (by decide +kernel) ?_
  refine g_iand F dJ6_bitCount_0f7a4_51 ?_
  exact K sameA.rf ⟨bitc_ok hz.1 hz.2, rfl⟩ rfl dJ6_bitCount_0f7a4_52
theorem dX2_has_0 : decode cX2_has 0 = .ok (.iload_n 1, 1) := by decide +kernel
theorem dX2_has_1 : decode cX2_has 1 = .ok (.ifCond .lt 15, 3) := by decide +kernel
theorem dX2_has_4 : decode cX2_has 4 = .ok (.iload_n 1, 1) := by decide +kernel
theorem dX2_has_5 : decode cX2_has 5 = .ok (.aload_n 0, 1) := by decide +kernel
theorem dX2_has_6 : decode cX2_has 6 = .ok (.getfield 27, 3) := by decide +kernel
theorem dX2_has_9 : decode cX2_has 9 = .ok (.if_icmp .ge 7, 3) := by decide +kernel
theorem dX2_has_12 : decode cX2_has 12 = .ok (.iconst 1, 1) := by decide +kernel
theorem dX2_has_13 : decode cX2_has 13 = .ok (.goto 4, 3) := by decide +kernel
theorem dX2_has_16 : decode cX2_has 16 = .ok (.iconst 0, 1) := by decide +kernel
theorem dX2_has_17 : decode cX2_has 17 = .ok (.ireturn, 1) := by decide +kernel
set_option maxRecDepth 100000 in
set_option maxHeartbeats 4000000 in
theorem kS_X2_has (κ : Kp) (xa : Nat → Nat → Nat) (X : XS) (o : Nat) (hr : o < 3) (C : MS) (p : Int)  (hp : In32 p ∧ 0 ≤ C 3 0 ∧ C 3 0 ≤ 6) : mI κ yX2_has cX2_has 2 .boolean 0 [.ref (xa (12 + o) 100), .int (iI p)] (xw κ xa (setO X (12 + o) C)) (is1 (iI (b2i (0 ≤ p ∧ p < C 3 0))) (xw κ xa (setO X (12 + o) C))) := by
  refine mI_of (by decide) (Nat.le_of_ble_eq_true rfl) (fun E F K => ?_)
  refine g_lv (lv' := [(0, .ref (xa (12 + o) 100)), (1, .int (iI p))]) rfl ?_
  refine g_iload_n F 1 dX2_has_0 rfl ?_
  refine g_if_lt F 16 (by omega) dX2_has_1 (by decide) (fun c1 => ?_) (fun c1 => ?_)
  · skip
    refine g_iconst F dX2_has_16 ?_
    exact K xw_same ⟨b2i_0 (by omega), rfl⟩ (by decide +kernel) dX2_has_17
  · skip
    refine g_iload_n F 1 dX2_has_4 rfl ?_
    refine g_aload_n F 0 dX2_has_5 rfl ?_
    refine grS_get_3 F hr lf_X2_27 dX2_has_6 ?_
    refine g_top (y := iI (C 3 0)) rfl ?_
    refine g_icmp_ge F 16 (by omega) dX2_has_9 (by decide) (fun c9 => ?_) (fun c9 => ?_)
    · skip
      refine g_iconst F dX2_has_16 ?_
      exact K xw_same ⟨b2i_0 (by omega), rfl⟩ (by decide +kernel) dX2_has_17
    · skip
      refine g_iconst F dX2_has_12 ?_
      refine g_goto F 17 dX2_has_13 (by decide) ?_
      exact K xw_same ⟨b2i_1 (by omega), rfl⟩ (by decide +kernel) dX2_has_17
theorem k_X2_has (κ : Kp) (xa : Nat → Nat → Nat) (X : XS) (o : Nat) (hr : o < 3) (p : Int) (hp : In32 p ∧ 0 ≤ (X (12 + o)) 3 0 ∧ (X (12 + o)) 3 0 ≤ 6) : mI κ yX2_has cX2_has 2 .boolean 0 [.ref (xa (12 + o) 100), .int (iI p)] (xw κ xa X) (is1 (iI (b2i (0 ≤ p ∧ p < (X (12 + o)) 3 0))) (xw κ xa X)) := by
  have h := kS_X2_has κ xa X o hr (X (12 + o)) p hp
  rw [setO_self] at h
  exact h
theorem dX2_isFree_0 : decode cX2_isFree 0 = .ok (.aload_n 0, 1) := by decide +kernel
theorem dX2_isFree_1 : decode cX2_isFree 1 = .ok (.iload_n 1, 1) := by decide +kernel
theorem dX2_isFree_2 : decode cX2_isFree 2 = .ok (.invokevirtual 34, 3) := by decide +kernel
theorem dX2_isFree_5 : decode cX2_isFree 5 = .ok (.ifCond .eq 18, 3) := by decide +kernel
theorem dX2_isFree_8 : decode cX2_isFree 8 = .ok (.aload_n 0, 1) := by decide +kernel
theorem dX2_isFree_9 : decode cX2_isFree 9 = .ok (.getfield 31, 3) := by decide +kernel
theorem dX2_isFree_12 : decode cX2_isFree 12 = .ok (.iload_n 1, 1) := by decide +kernel
theorem dX2_isFree_13 : decode cX2_isFree 13 = .ok (.ishr, 1) := by decide +kernel
theorem dX2_isFree_14 : decode cX2_isFree 14 = .ok (.iconst 1, 1) := by decide +kernel
theorem dX2_isFree_15 : decode cX2_isFree 15 = .ok (.iand, 1) := by decide +kernel
theorem dX2_isFree_16 : decode cX2_isFree 16 = .ok (.ifCond .ne 7, 3) := by decide +kernel
theorem dX2_isFree_19 : decode cX2_isFree 19 = .ok (.iconst 1, 1) := by decide +kernel
theorem dX2_isFree_20 : decode cX2_isFree 20 = .ok (.goto 4, 3) := by decide +kernel
theorem dX2_isFree_23 : decode cX2_isFree 23 = .ok (.iconst 0, 1) := by decide +kernel
theorem dX2_isFree_24 : decode cX2_isFree 24 = .ok (.ireturn, 1) := by decide +kernel
set_option maxRecDepth 100000 in
set_option maxHeartbeats 4000000 in
theorem kS_X2_isFree (κ : Kp) (xa : Nat → Nat → Nat) (X : XS) (o : Nat) (hr : o < 3) (C : MS) (p : Int)  (hp : In32 p ∧ (0 ≤ C 3 0 ∧ C 3 0 ≤ 6) ∧ 0 ≤ C 4 0 ∧ C 4 0 < 64) : mI κ yX2_isFree cX2_isFree 2 .boolean 1 [.ref (xa (12 + o) 100), .int (iI p)] (xw κ xa (setO X (12 + o) C)) (is1 (iI (b2i ((0 ≤ p ∧ p < C 3 0) ∧ C 4 0 / p2 p % 2 = 0))) (xw κ xa (setO X (12 + o) C))) := by
  refine mI_of (by decide) (Nat.le_of_ble_eq_true rfl) (fun E F K => ?_)
  refine g_lv (lv' := [(0, .ref (xa (12 + o) 100)), (1, .int (iI p))]) rfl ?_
  refine g_aload_n F 0 dX2_isFree_0 rfl ?_
  refine g_iload_n F 1 dX2_isFree_1 rfl ?_
  refine g_callI F (stk := [.int (iI p), .ref (xa (12 + o) 100)]) (st := []) (kS_X2_has κ xa X o hr C p (show In32 p ∧ 0 ≤ (C 3 0) ∧ (C 3 0) ≤ 6 from by omega)) cal_X2_has lm_X2_34 (4 * o + 60) (xr_obj hr) rfl rfl rfl (by decide) rfl (Nat.le_of_ble_eq_true rfl) dX2_isFree_2 (fun r2 ws2 _ hr2 => ?_)
  obtain ⟨rfl, rfl⟩ := hr2
  refine g_if_eq F 23 (b2i_in _) dX2_isFree_5 (by decide) (fun c5 => ?_) (fun c5 => ?_)
  · skip
    have c5 : ¬ (0 ≤ p ∧ p < C 3 0) := b2i_f c5
    refine g_iconst F dX2_isFree_23 ?_
    exact K xw_same ⟨b2i_0 (by omega), rfl⟩ (by decide +kernel) dX2_isFree_24
  · skip
    have c5 : 0 ≤ p ∧ p < C 3 0 := b2i_t c5
    refine g_aload_n F 0 dX2_isFree_8 rfl ?_
    refine grS_get_4 F hr lf_X2_31 dX2_isFree_9 ?_
    refine g_top (y := iI (C 4 0)) rfl ?_
    refine g_iload_n F 1 dX2_isFree_12 rfl ?_
    refine g_ishr F dX2_isFree_13 ?_
    refine g_top (y := iI (C 4 0 / p2 p)) (iI_shr (by omega) (by omega) (by omega) (by omega)) ?_
    refine g_iconst F dX2_isFree_14 ?_
    refine g_iand F dX2_isFree_15 ?_
    refine g_top (y := iI (C 4 0 / p2 p % 2)) (iI_and1 (div_p2' (by omega))) ?_
    refine g_if_ne F 23 (by omega) dX2_isFree_16 (by decide) (fun c16 => ?_) (fun c16 => ?_)
    · skip
      refine g_iconst F dX2_isFree_23 ?_
      exact K xw_same ⟨b2i_0 (by omega), rfl⟩ (by decide +kernel) dX2_isFree_24
    · skip
      refine g_iconst F dX2_isFree_19 ?_
      refine g_goto F 24 dX2_isFree_20 (by decide) ?_
      exact K xw_same ⟨b2i_1 (by omega), rfl⟩ (by decide +kernel) dX2_isFree_24
theorem k_X2_isFree (κ : Kp) (xa : Nat → Nat → Nat) (X : XS) (o : Nat) (hr : o < 3) (p : Int) (hp : In32 p ∧ (0 ≤ (X (12 + o)) 3 0 ∧ (X (12 + o)) 3 0 ≤ 6) ∧ 0 ≤ (X (12 + o)) 4 0 ∧ (X (12 + o)) 4 0 < 64) : mI κ yX2_isFree cX2_isFree 2 .boolean 1 [.ref (xa (12 + o) 100), .int (iI p)] (xw κ xa X) (is1 (iI (b2i ((0 ≤ p ∧ p < (X (12 + o)) 3 0) ∧ (X (12 + o)) 4 0 / p2 p % 2 = 0))) (xw κ xa X)) := by
  have h := kS_X2_isFree κ xa X o hr (X (12 + o)) p hp
  rw [setO_self] at h
  exact h
theorem dX2_use_0 : decode cX2_use 0 = .ok (.aload_n 0, 1) := by decide +kernel
theorem dX2_use_1 : decode cX2_use 1 = .ok (.dup, 1) := by decide +kernel
theorem dX2_use_2 : decode cX2_use 2 = .ok (.getfield 31, 3) := by decide +kernel
theorem dX2_use_5 : decode cX2_use 5 = .ok (.iconst 1, 1) := by decide +kernel
theorem dX2_use_6 : decode cX2_use 6 = .ok (.iload_n 1, 1) := by decide +kernel
theorem dX2_use_7 : decode cX2_use 7 = .ok (.ishl, 1) := by decide +kernel
theorem dX2_use_8 : decode cX2_use 8 = .ok (.ior, 1) := by decide +kernel
theorem dX2_use_9 : decode cX2_use 9 = .ok (.putfield 31, 3) := by decide +kernel
theorem dX2_use_12 : decode cX2_use 12 = .ok (.return_, 1) := by decide +kernel
set_option maxRecDepth 100000 in
set_option maxHeartbeats 4000000 in
theorem kS_X2_use (κ : Kp) (xa : Nat → Nat → Nat) (X : XS) (o : Nat) (hr : o < 3) (C : MS) (p : Int)  (hp : (0 ≤ p ∧ p < 6) ∧ 0 ≤ C 4 0) : mV κ yX2_use cX2_use 2 0 [.ref (xa (12 + o) 100), .int (iI p)] (xw κ xa (setO X (12 + o) C)) (is0 (xw κ xa (setO X (12 + o) (mA C 4 (fun _ => bor (C 4 0) (p2 p)))))) := by
  refine mV_of (by decide) (Nat.le_of_ble_eq_true rfl) (fun E F K => ?_)
  refine g_lv (lv' := [(0, .ref (xa (12 + o) 100)), (1, .int (iI p))]) rfl ?_
  refine g_aload_n F 0 dX2_use_0 rfl ?_
  refine g_dup F dX2_use_1 rfl ?_
  refine grS_get_4 F hr lf_X2_31 dX2_use_2 ?_
  refine g_top (y := iI (C 4 0)) rfl ?_
  refine g_iconst F dX2_use_5 ?_
  refine g_iload_n F 1 dX2_use_6 rfl ?_
  refine g_ishl F dX2_use_7 ?_
  refine g_top (y := iI (p2 p)) (iI_shl1 (by omega) (by omega)) ?_
  refine g_ior F dX2_use_8 ?_
  refine g_top (y := iI (bor (C 4 0) (p2 p))) (iI_bor hp.2 (by have := p2_pos p; omega)) ?_
  refine grS_put_4 F  hr lf_X2_31 dX2_use_9 ?_
  exact K xw_same rfl dX2_use_12
theorem k_X2_use (κ : Kp) (xa : Nat → Nat → Nat) (X : XS) (o : Nat) (hr : o < 3) (p : Int) (hp : (0 ≤ p ∧ p < 6) ∧ 0 ≤ (X (12 + o)) 4 0) : mV κ yX2_use cX2_use 2 0 [.ref (xa (12 + o) 100), .int (iI p)] (xw κ xa X) (is0 (xw κ xa (setO X (12 + o) (mA (X (12 + o)) 4 (fun _ => bor ((X (12 + o)) 4 0) (p2 p)))))) := by
  have h := kS_X2_use κ xa X o hr (X (12 + o)) p hp
  rw [setO_self] at h
  exact h
theorem dX2_free_0 : decode cX2_free 0 = .ok (.aload_n 0, 1) := by decide +kernel
theorem dX2_free_1 : decode cX2_free 1 = .ok (.getfield 27, 3) := by decide +kernel
theorem dX2_free_4 : decode cX2_free 4 = .ok (.aload_n 0, 1) := by decide +kernel
theorem dX2_free_5 : decode cX2_free 5 = .ok (.getfield 31, 3) := by decide +kernel
theorem dX2_free_8 : decode cX2_free 8 = .ok (.invokestatic 38, 3) := by decide +kernel
theorem dX2_free_11 : decode cX2_free 11 = .ok (.isub, 1) := by decide +kernel
theorem dX2_free_12 : decode cX2_free 12 = .ok (.ireturn, 1) := by decide +kernel
set_option maxRecDepth 100000 in
set_option maxHeartbeats 4000000 in
theorem kS_X2_free (κ : Kp) (xa : Nat → Nat → Nat) (X : XS) (o : Nat) (hr : o < 3) (C : MS)  (hp : (0 ≤ C 3 0 ∧ C 3 0 ≤ 6) ∧ 0 ≤ C 4 0 ∧ C 4 0 < 64) : mI κ yX2_free cX2_free 1 .int 1 [.ref (xa (12 + o) 100)] (xw κ xa (setO X (12 + o) C)) (is1 (iI (C 3 0 - pcnt (C 4 0))) (xw κ xa (setO X (12 + o) C))) := by
  refine mI_of (by decide) (Nat.le_of_ble_eq_true rfl) (fun E F K => ?_)
  refine g_lv (lv' := [(0, .ref (xa (12 + o) 100))]) rfl ?_
  refine g_aload_n F 0 dX2_free_0 rfl ?_
  refine grS_get_3 F hr lf_X2_27 dX2_free_1 ?_
  refine g_top (y := iI (C 3 0)) rfl ?_
  refine g_aload_n F 0 dX2_free_4 rfl ?_
  refine grS_get_4 F hr lf_X2_31 dX2_free_5 ?_
  refine g_top (y := iI (C 4 0)) rfl ?_
  refine g_callSI F (stk := [.int (iI (C 4 0)), .int (iI (C 3 0))]) (st := [.int (iI (C 3 0))]) (k_J6_bitCount_0f7a4 κ (xw κ xa (setO X (12 + o) C)) (C 4 0) (by omega)) cal_J6_bitCount_0f7a4 lm_X2_38 rfl (by decide) rfl (Nat.le_of_ble_eq_true rfl) dX2_free_8 (fun r8 ws8 _ hr8 => ?_)
  obtain ⟨rfl, rfl⟩ := hr8
  refine g_isub F dX2_free_11 ?_
  exact K xw_same ⟨rfl, rfl⟩ rfl dX2_free_12
theorem k_X2_free (κ : Kp) (xa : Nat → Nat → Nat) (X : XS) (o : Nat) (hr : o < 3)  (hp : (0 ≤ (X (12 + o)) 3 0 ∧ (X (12 + o)) 3 0 ≤ 6) ∧ 0 ≤ (X (12 + o)) 4 0 ∧ (X (12 + o)) 4 0 < 64) : mI κ yX2_free cX2_free 1 .int 1 [.ref (xa (12 + o) 100)] (xw κ xa X) (is1 (iI ((X (12 + o)) 3 0 - pcnt ((X (12 + o)) 4 0))) (xw κ xa X)) := by
  have h := kS_X2_free κ xa X o hr (X (12 + o)) hp
  rw [setO_self] at h
  exact h
theorem dX2_add_0 : decode cX2_add 0 = .ok (.aload_n 0, 1) := by decide +kernel
theorem dX2_add_1 : decode cX2_add 1 = .ok (.getfield 27, 3) := by decide +kernel
theorem dX2_add_4 : decode cX2_add 4 = .ok (.bipush 6, 2) := by decide +kernel
theorem dX2_add_6 : decode cX2_add 6 = .ok (.if_icmp .lt 4, 3) := by decide +kernel
theorem dX2_add_9 : decode cX2_add 9 = .ok (.return_, 1) := by decide +kernel
theorem dX2_add_10 : decode cX2_add 10 = .ok (.aload_n 0, 1) := by decide +kernel
theorem dX2_add_11 : decode cX2_add 11 = .ok (.getfield 9, 3) := by decide +kernel
theorem dX2_add_14 : decode cX2_add 14 = .ok (.aload_n 0, 1) := by decide +kernel
theorem dX2_add_15 : decode cX2_add 15 = .ok (.getfield 27, 3) := by decide +kernel
theorem dX2_add_18 : decode cX2_add 18 = .ok (.iload_n 1, 1) := by decide +kernel
theorem dX2_add_19 : decode cX2_add 19 = .ok (.iastore, 1) := by decide +kernel
theorem dX2_add_20 : decode cX2_add 20 = .ok (.aload_n 0, 1) := by decide +kernel
theorem dX2_add_21 : decode cX2_add 21 = .ok (.getfield 15, 3) := by decide +kernel
theorem dX2_add_24 : decode cX2_add 24 = .ok (.aload_n 0, 1) := by decide +kernel
theorem dX2_add_25 : decode cX2_add 25 = .ok (.getfield 27, 3) := by decide +kernel
theorem dX2_add_28 : decode cX2_add 28 = .ok (.iload_n 2, 1) := by decide +kernel
theorem dX2_add_29 : decode cX2_add 29 = .ok (.iastore, 1) := by decide +kernel
theorem dX2_add_30 : decode cX2_add 30 = .ok (.aload_n 0, 1) := by decide +kernel
theorem dX2_add_31 : decode cX2_add 31 = .ok (.getfield 18, 3) := by decide +kernel
theorem dX2_add_34 : decode cX2_add 34 = .ok (.aload_n 0, 1) := by decide +kernel
theorem dX2_add_35 : decode cX2_add 35 = .ok (.getfield 27, 3) := by decide +kernel
theorem dX2_add_38 : decode cX2_add 38 = .ok (.iload_n 3, 1) := by decide +kernel
theorem dX2_add_39 : decode cX2_add 39 = .ok (.iastore, 1) := by decide +kernel
theorem dX2_add_40 : decode cX2_add 40 = .ok (.aload_n 0, 1) := by decide +kernel
theorem dX2_add_41 : decode cX2_add 41 = .ok (.dup, 1) := by decide +kernel
theorem dX2_add_42 : decode cX2_add 42 = .ok (.getfield 27, 3) := by decide +kernel
theorem dX2_add_45 : decode cX2_add 45 = .ok (.iconst 1, 1) := by decide +kernel
theorem dX2_add_46 : decode cX2_add 46 = .ok (.iadd, 1) := by decide +kernel
theorem dX2_add_47 : decode cX2_add 47 = .ok (.putfield 27, 3) := by decide +kernel
theorem dX2_add_50 : decode cX2_add 50 = .ok (.return_, 1) := by decide +kernel
set_option maxRecDepth 100000 in
set_option maxHeartbeats 4000000 in
theorem kS_X2_add (κ : Kp) (xa : Nat → Nat → Nat) (X : XS) (o : Nat) (hr : o < 3) (C : MS) (k : Int) (f : Int) (a : Int)  (hn : 0 ≤ C 3 0 ∧ C 3 0 < 6) : mV κ yX2_add cX2_add 4 0 [.ref (xa (12 + o) 100), .int (iI k), .int (iI f), .int (iI a)] (xw κ xa (setO X (12 + o) C)) (is0 (xw κ xa (setO X (12 + o) (mA (mA (mA (mA C 0 (uI (C 0) (C 3 0) k)) 1 (uI (C 1) (C 3 0) f)) 2 (uI (C 2) (C 3 0) a)) 3 (fun _ => C 3 0 + 1))))) := by
  refine mV_of (by decide) (Nat.le_of_ble_eq_true rfl) (fun E F K => ?_)
  refine g_lv (lv' := [(0, .ref (xa (12 + o) 100)), (1, .int (iI k)), (2, .int (iI f)), (3, .int (iI a))]) rfl ?_
  refine g_aload_n F 0 dX2_add_0 rfl ?_
  refine grS_get_3 F hr lf_X2_27 dX2_add_1 ?_
  refine g_top (y := iI (C 3 0)) rfl ?_
  refine g_bipush F dX2_add_4 (by decide +kernel) ?_
  refine g_icmp_lt F 10 (by omega) dX2_add_6 (by decide) (fun c6 => ?_) (fun c6 => ?_)
  · skip
    refine g_aload_n F 0 dX2_add_10 rfl ?_
    refine grS_get_0 F hr lf_X2_9 dX2_add_11 ?_
    refine g_aload_n F 0 dX2_add_14 rfl ?_
    refine grS_get_3 F hr lf_X2_27 dX2_add_15 ?_
    refine g_top (y := iI (C 3 0)) rfl ?_
    refine g_iload_n F 1 dX2_add_18 rfl ?_
    refine grS_ast_0 F hr (by omega) dX2_add_19 ?_
    refine g_aload_n F 0 dX2_add_20 rfl ?_
    refine grS_get_1 F hr lf_X2_15 dX2_add_21 ?_
    refine g_aload_n F 0 dX2_add_24 rfl ?_
    refine grS_get_3 F hr lf_X2_27 dX2_add_25 ?_
    refine g_top (y := iI (C 3 0)) rfl ?_
    refine g_iload_n F 2 dX2_add_28 rfl ?_
    refine grS_ast_1 F hr (by omega) dX2_add_29 ?_
    refine g_ws (ws' := xw κ xa (setO X (12 + o) (mA (mA C 0 (uI (C 0) (C 3 0) k)) 1 (uI (C 1) (C 3 0) f)))) rfl ?_
    refine g_aload_n F 0 dX2_add_30 rfl ?_
    refine grS_get_2 F hr lf_X2_18 dX2_add_31 ?_
    refine g_aload_n F 0 dX2_add_34 rfl ?_
    refine grS_get_3 F hr lf_X2_27 dX2_add_35 ?_
    refine g_top (y := iI (C 3 0)) rfl ?_
    refine g_iload_n F 3 dX2_add_38 rfl ?_
    refine grS_ast_2 F hr (by omega) dX2_add_39 ?_
    refine g_ws (ws' := xw κ xa (setO X (12 + o) (mA (mA (mA C 0 (uI (C 0) (C 3 0) k)) 1 (uI (C 1) (C 3 0) f)) 2 (uI (C 2) (C 3 0) a)))) rfl ?_
    refine g_aload_n F 0 dX2_add_40 rfl ?_
    refine g_dup F dX2_add_41 rfl ?_
    refine grS_get_3 F hr lf_X2_27 dX2_add_42 ?_
    refine g_top (y := iI (C 3 0)) rfl ?_
    refine g_iconst F dX2_add_45 ?_
    refine g_iadd F dX2_add_46 ?_
    refine grS_put_3 F  hr lf_X2_27 dX2_add_47 ?_
    exact K xw_same rfl dX2_add_50
  · skip
    exact absurd trivial (by omega)
theorem k_X2_add (κ : Kp) (xa : Nat → Nat → Nat) (X : XS) (o : Nat) (hr : o < 3) (k : Int) (f : Int) (a : Int) (hn : 0 ≤ (X (12 + o)) 3 0 ∧ (X (12 + o)) 3 0 < 6) : mV κ yX2_add cX2_add 4 0 [.ref (xa (12 + o) 100), .int (iI k), .int (iI f), .int (iI a)] (xw κ xa X) (is0 (xw κ xa (setO X (12 + o) (mA (mA (mA (mA (X (12 + o)) 0 (uI ((X (12 + o)) 0) ((X (12 + o)) 3 0) k)) 1 (uI ((X (12 + o)) 1) ((X (12 + o)) 3 0) f)) 2 (uI ((X (12 + o)) 2) ((X (12 + o)) 3 0) a)) 3 (fun _ => (X (12 + o)) 3 0 + 1))))) := by
  have h := kS_X2_add κ xa X o hr (X (12 + o)) k f a hn
  rw [setO_self] at h
  exact h
theorem dX2_become_0 : decode cX2_become 0 = .ok (.aload_n 1, 1) := by decide +kernel
theorem dX2_become_1 : decode cX2_become 1 = .ok (.getfield 9, 3) := by decide +kernel
theorem dX2_become_4 : decode cX2_become 4 = .ok (.iconst 0, 1) := by decide +kernel
theorem dX2_become_5 : decode cX2_become 5 = .ok (.aload_n 0, 1) := by decide +kernel
theorem dX2_become_6 : decode cX2_become 6 = .ok (.getfield 9, 3) := by decide +kernel
theorem dX2_become_9 : decode cX2_become 9 = .ok (.iconst 0, 1) := by decide +kernel
theorem dX2_become_10 : decode cX2_become 10 = .ok (.bipush 6, 2) := by decide +kernel
theorem dX2_become_12 : decode cX2_become 12 = .ok (.invokestatic 21, 3) := by decide +kernel
theorem dX2_become_15 : decode cX2_become 15 = .ok (.aload_n 1, 1) := by decide +kernel
theorem dX2_become_16 : decode cX2_become 16 = .ok (.getfield 15, 3) := by decide +kernel
theorem dX2_become_19 : decode cX2_become 19 = .ok (.iconst 0, 1) := by decide +kernel
theorem dX2_become_20 : decode cX2_become 20 = .ok (.aload_n 0, 1) := by decide +kernel
theorem dX2_become_21 : decode cX2_become 21 = .ok (.getfield 15, 3) := by decide +kernel
theorem dX2_become_24 : decode cX2_become 24 = .ok (.iconst 0, 1) := by decide +kernel
theorem dX2_become_25 : decode cX2_become 25 = .ok (.bipush 6, 2) := by decide +kernel
theorem dX2_become_27 : decode cX2_become 27 = .ok (.invokestatic 21, 3) := by decide +kernel
theorem dX2_become_30 : decode cX2_become 30 = .ok (.aload_n 1, 1) := by decide +kernel
theorem dX2_become_31 : decode cX2_become 31 = .ok (.getfield 18, 3) := by decide +kernel
theorem dX2_become_34 : decode cX2_become 34 = .ok (.iconst 0, 1) := by decide +kernel
theorem dX2_become_35 : decode cX2_become 35 = .ok (.aload_n 0, 1) := by decide +kernel
theorem dX2_become_36 : decode cX2_become 36 = .ok (.getfield 18, 3) := by decide +kernel
theorem dX2_become_39 : decode cX2_become 39 = .ok (.iconst 0, 1) := by decide +kernel
theorem dX2_become_40 : decode cX2_become 40 = .ok (.bipush 6, 2) := by decide +kernel
theorem dX2_become_42 : decode cX2_become 42 = .ok (.invokestatic 21, 3) := by decide +kernel
theorem dX2_become_45 : decode cX2_become 45 = .ok (.aload_n 0, 1) := by decide +kernel
theorem dX2_become_46 : decode cX2_become 46 = .ok (.aload_n 1, 1) := by decide +kernel
theorem dX2_become_47 : decode cX2_become 47 = .ok (.getfield 27, 3) := by decide +kernel
theorem dX2_become_50 : decode cX2_become 50 = .ok (.putfield 27, 3) := by decide +kernel
theorem dX2_become_53 : decode cX2_become 53 = .ok (.aload_n 0, 1) := by decide +kernel
theorem dX2_become_54 : decode cX2_become 54 = .ok (.aload_n 1, 1) := by decide +kernel
theorem dX2_become_55 : decode cX2_become 55 = .ok (.getfield 31, 3) := by decide +kernel
theorem dX2_become_58 : decode cX2_become 58 = .ok (.putfield 31, 3) := by decide +kernel
theorem dX2_become_61 : decode cX2_become 61 = .ok (.return_, 1) := by decide +kernel
set_option maxRecDepth 100000 in
set_option maxHeartbeats 4000000 in
theorem kS_X2_become (κ : Kp) (xa : Nat → Nat → Nat) (X : XS) (o : Nat) (hr : o < 3) (C : MS) (q : Nat) (hq : q < 3) (hne : q ≠ o) : mV κ yX2_become cX2_become 2 1 [.ref (xa (12 + o) 100), .ref (xa (12 + q) 100)] (xw κ xa (setO X (12 + o) C)) (is0 (xw κ xa (setO X (12 + o) (stR C (rl (X (12 + q))))))) := by
  refine mV_of (by decide) (Nat.le_of_ble_eq_true rfl) (fun E F K => ?_)
  refine g_lv (lv' := [(0, .ref (xa (12 + o) 100)), (1, .ref (xa (12 + q) 100))]) rfl ?_
  refine g_aload_n F 1 dX2_become_0 rfl ?_
  refine gr_get_0 F hq lf_X2_9 dX2_become_1 ?_
  refine g_iconst F dX2_become_4 ?_
  refine g_aload_n F 0 dX2_become_5 rfl ?_
  refine grS_get_0 F hr lf_X2_9 dX2_become_6 ?_
  refine g_iconst F dX2_become_9 ?_
  refine g_bipush F dX2_become_10 (by decide +kernel) ?_
  refine g_copy F (ws' := xw κ xa (setO X (12 + o) (mA C 0 ((X (12 + q)) 0)))) (4 * q + 61) (4 * o + 61) (by rw [xr_arr_0 hq, setO_n (by omega)]) (by rw [xr_arr_0 hr, setO_s]) (by decide) (by rw [xr_set_0 hr, setO_s, setO_setO]) lm_X2_21 sy_0 sy_1 sy_2 (by decide) (Nat.le_of_ble_eq_true rfl) dX2_become_12 ?_
  refine g_aload_n F 1 dX2_become_15 rfl ?_
  refine gr_get_1 F hq lf_X2_15 dX2_become_16 ?_
  refine g_iconst F dX2_become_19 ?_
  refine g_aload_n F 0 dX2_become_20 rfl ?_
  refine grS_get_1 F hr lf_X2_15 dX2_become_21 ?_
  refine g_iconst F dX2_become_24 ?_
  refine g_bipush F dX2_become_25 (by decide +kernel) ?_
  refine g_copy F (ws' := xw κ xa (setO X (12 + o) (mA (mA C 0 ((X (12 + q)) 0)) 1 ((X (12 + q)) 1)))) (4 * q + 62) (4 * o + 62) (by rw [xr_arr_1 hq, setO_n (by omega)]) (by rw [xr_arr_1 hr, setO_s]) (by decide) (by rw [xr_set_1 hr, setO_s, setO_setO]) lm_X2_21 sy_0 sy_1 sy_2 (by decide) (Nat.le_of_ble_eq_true rfl) dX2_become_27 ?_
  refine g_aload_n F 1 dX2_become_30 rfl ?_
  refine gr_get_2 F hq lf_X2_18 dX2_become_31 ?_
  refine g_iconst F dX2_become_34 ?_
  refine g_aload_n F 0 dX2_become_35 rfl ?_
  refine grS_get_2 F hr lf_X2_18 dX2_become_36 ?_
  refine g_iconst F dX2_become_39 ?_
  refine g_bipush F dX2_become_40 (by decide +kernel) ?_
  refine g_copy F (ws' := xw κ xa (setO X (12 + o) (mA (mA (mA C 0 ((X (12 + q)) 0)) 1 ((X (12 + q)) 1)) 2 ((X (12 + q)) 2)))) (4 * q + 63) (4 * o + 63) (by rw [xr_arr_2 hq, setO_n (by omega)]) (by rw [xr_arr_2 hr, setO_s]) (by decide) (by rw [xr_set_2 hr, setO_s, setO_setO]) lm_X2_21 sy_0 sy_1 sy_2 (by decide) (Nat.le_of_ble_eq_true rfl) dX2_become_42 ?_
  refine g_aload_n F 0 dX2_become_45 rfl ?_
  refine g_aload_n F 1 dX2_become_46 rfl ?_
  refine gr_get_3 F hq lf_X2_27 dX2_become_47 ?_
  refine g_top (y := iI ((X (12 + q)) 3 0)) (by rw [setO_n (by omega)]) ?_
  refine grS_put_3 F  hr lf_X2_27 dX2_become_50 ?_
  refine g_aload_n F 0 dX2_become_53 rfl ?_
  refine g_aload_n F 1 dX2_become_54 rfl ?_
  refine gr_get_4 F hq lf_X2_31 dX2_become_55 ?_
  refine g_top (y := iI ((X (12 + q)) 4 0)) (by rw [setO_n (by omega)]) ?_
  refine grS_put_4 F  hr lf_X2_31 dX2_become_58 ?_
  exact K xw_same (xr_ext hr rfl) dX2_become_61
theorem k_X2_become (κ : Kp) (xa : Nat → Nat → Nat) (X : XS) (o : Nat) (hr : o < 3) (q : Nat) (hq : q < 3) (hne : q ≠ o) : mV κ yX2_become cX2_become 2 1 [.ref (xa (12 + o) 100), .ref (xa (12 + q) 100)] (xw κ xa X) (is0 (xw κ xa (setO X (12 + o) (stR (X (12 + o)) (rl (X (12 + q))))))) := by
  have h := kS_X2_become κ xa X o hr (X (12 + o)) q hq hne
  rw [setO_self] at h
  exact h
theorem g_past {E : gE} {κ : Kp} {cc : ByteArray} {own : String} {n dd : Nat} {xa : Nat → Nat → Nat} {X : XS} {lv : List (Nat × Value)} {pc : Nat} {st : List Value} {z : Int} (F : Fx E κ cc own n dd) (hz : 0 ≤ z ∧ z < 8) (hd : decode cc pc = .ok (.aaload, 1)) (k : G E (xw κ xa X) lv (pc + 1) (.ref (xa (4 + z.toNat) 100) :: st)) : G E (xw κ xa X) lv pc (.int (iI z) :: .ref (xa 15 0) :: st) := by
  obtain ⟨p, l, e, R, s, m, args, below, meth, c, κ', A, cells, slots, Q, nL⟩ := E
  obtain ⟨rfl, hx, hb, hml, rfl, hown, hts, hlk, hK, hr1, hr2, hr3, hr4⟩ := F
  intro H locs ls hP hD hS hl
  refine va_aldq hx hb hK.1 hP 73 1 (cA := κ'.2.2.1) (C := RX0) (n := 8) (f := fun j : Nat => some (xa (4 + j) 100)) rfl rfl (iI_in hz.1 (by omega) (by decide)) hd ?_
  rw [iI_clamp hz.1 (by omega)]
  exact k H locs ls hP hD hS hl
theorem dX1_forget_0 : decode cX1_forget 0 = .ok (.aload_n 0, 1) := by decide +kernel
theorem dX1_forget_1 : decode cX1_forget 1 = .ok (.iconst 0, 1) := by decide +kernel
theorem dX1_forget_2 : decode cX1_forget 2 = .ok (.putfield 34, 3) := by decide +kernel
theorem dX1_forget_5 : decode cX1_forget 5 = .ok (.return_, 1) := by decide +kernel
set_option maxRecDepth 100000 in
set_option maxHeartbeats 4000000 in
theorem k_X1_forget (κ : Kp) (xa : Nat → Nat → Nat) (X : XS)  : mV κ yX1_forget cX1_forget 1 0 [.ref (xa 15 100)] (xw κ xa X) (is0 (xw κ xa (setO X 15 (mA (X 15) 3 (fun _ => 0))))) := by
  refine mV_of (by decide) (Nat.le_of_ble_eq_true rfl) (fun E F K => ?_)
  refine g_lv (lv' := [(0, .ref (xa 15 100))]) rfl ?_
  refine g_aload_n F 0 dX1_forget_0 rfl ?_
  refine g_iconst F dX1_forget_1 ?_
  refine g15_put_3 F   lf_X1_34 dX1_forget_2 ?_
  exact K xw_same rfl dX1_forget_5
theorem dX1_note_0 : decode cX1_note 0 = .ok (.aload_n 0, 1) := by decide +kernel
theorem dX1_note_1 : decode cX1_note 1 = .ok (.getfield 11, 3) := by decide +kernel
theorem dX1_note_4 : decode cX1_note 4 = .ok (.aload_n 0, 1) := by decide +kernel
theorem dX1_note_5 : decode cX1_note 5 = .ok (.getfield 22, 3) := by decide +kernel
theorem dX1_note_8 : decode cX1_note 8 = .ok (.aaload, 1) := by decide +kernel
theorem dX1_note_9 : decode cX1_note 9 = .ok (.aload_n 1, 1) := by decide +kernel
theorem dX1_note_10 : decode cX1_note 10 = .ok (.invokevirtual 26, 3) := by decide +kernel
theorem dX1_note_13 : decode cX1_note 13 = .ok (.aload_n 0, 1) := by decide +kernel
theorem dX1_note_14 : decode cX1_note 14 = .ok (.getfield 17, 3) := by decide +kernel
theorem dX1_note_17 : decode cX1_note 17 = .ok (.aload_n 0, 1) := by decide +kernel
theorem dX1_note_18 : decode cX1_note 18 = .ok (.getfield 22, 3) := by decide +kernel
theorem dX1_note_21 : decode cX1_note 21 = .ok (.aload_n 2, 1) := by decide +kernel
theorem dX1_note_22 : decode cX1_note 22 = .ok (.getfield 30, 3) := by decide +kernel
theorem dX1_note_25 : decode cX1_note 25 = .ok (.iastore, 1) := by decide +kernel
theorem dX1_note_26 : decode cX1_note 26 = .ok (.aload_n 0, 1) := by decide +kernel
theorem dX1_note_27 : decode cX1_note 27 = .ok (.aload_n 0, 1) := by decide +kernel
theorem dX1_note_28 : decode cX1_note 28 = .ok (.getfield 22, 3) := by decide +kernel
theorem dX1_note_31 : decode cX1_note 31 = .ok (.iconst 1, 1) := by decide +kernel
theorem dX1_note_32 : decode cX1_note 32 = .ok (.iadd, 1) := by decide +kernel
theorem dX1_note_33 : decode cX1_note 33 = .ok (.bipush 8, 2) := by decide +kernel
theorem dX1_note_35 : decode cX1_note 35 = .ok (.irem, 1) := by decide +kernel
theorem dX1_note_36 : decode cX1_note 36 = .ok (.putfield 22, 3) := by decide +kernel
theorem dX1_note_39 : decode cX1_note 39 = .ok (.aload_n 0, 1) := by decide +kernel
theorem dX1_note_40 : decode cX1_note 40 = .ok (.bipush 8, 2) := by decide +kernel
theorem dX1_note_42 : decode cX1_note 42 = .ok (.aload_n 0, 1) := by decide +kernel
theorem dX1_note_43 : decode cX1_note 43 = .ok (.getfield 34, 3) := by decide +kernel
theorem dX1_note_46 : decode cX1_note 46 = .ok (.iconst 1, 1) := by decide +kernel
theorem dX1_note_47 : decode cX1_note 47 = .ok (.iadd, 1) := by decide +kernel
theorem dX1_note_48 : decode cX1_note 48 = .ok (.invokestatic 37, 3) := by decide +kernel
theorem dX1_note_51 : decode cX1_note 51 = .ok (.putfield 34, 3) := by decide +kernel
theorem dX1_note_54 : decode cX1_note 54 = .ok (.return_, 1) := by decide +kernel
set_option maxRecDepth 100000 in
set_option maxHeartbeats 4000000 in
theorem k_X1_note (κ : Kp) (xa : Nat → Nat → Nat) (X : XS) (z : Int) (hz : 0 ≤ z ∧ z < 8) (hx : X 15 2 0 = z) (hs : 0 ≤ X 15 3 0 ∧ X 15 3 0 ≤ 8) : mV κ yX1_note cX1_note 3 2 [.ref (xa 15 100), .ref (xa 0 100), .ref (xa 12 100)] (xw κ xa X) (is0 (xw κ xa (setO (setO X (4 + z.toNat) (stC (X (4 + z.toNat)) (cl (X 0)))) 15 (mA (mA (mA (X 15) 1 (uI (X 15 1) z (X 12 4 0))) 2 (fun _ => (z + 1) % 8)) 3 (fun _ => min 8 (X 15 3 0 + 1)))))) := by
  refine mV_of (by decide) (Nat.le_of_ble_eq_true rfl) (fun E F K => ?_)
  refine g_lv (lv' := [(0, .ref (xa 15 100)), (1, .ref (xa 0 100)), (2, .ref (xa 12 100))]) rfl ?_
  refine g_aload_n F 0 dX1_note_0 rfl ?_
  refine g15_get_0 F  lf_X1_11 dX1_note_1 ?_
  refine g_aload_n F 0 dX1_note_4 rfl ?_
  refine g15_get_2 F  lf_X1_22 dX1_note_5 ?_
  refine g_top (y := iI z) (iIc hx) ?_
  refine g_past F (by omega) dX1_note_8 ?_
  refine g_aload_n F 1 dX1_note_9 rfl ?_
  refine g_callNV F (stk := [.ref (xa 0 100), .ref (xa (4 + z.toNat) 100)]) (st := []) (k_X0_become κ xa X (4 + z.toNat) (by omega) 0 (by decide) (by omega)) cal_X0_become nm_X1_26 (5 * (4 + z.toNat) + 0) (xc_obj (by omega)) rfl rfl rfl (by decide) rfl (Nat.le_of_ble_eq_true rfl) dX1_note_10 (fun ws10 _ hr10 => ?_)
  obtain rfl := hr10
  refine g_aload_n F 0 dX1_note_13 rfl ?_
  refine g15_get_1 F  lf_X1_17 dX1_note_14 ?_
  refine g_aload_n F 0 dX1_note_17 rfl ?_
  refine g15_get_2 F  lf_X1_22 dX1_note_18 ?_
  refine g_top (y := iI ((X 15) 2 0)) (by rw [setO_n (by omega)]) ?_
  refine g_top (y := iI z) (iIc hx) ?_
  refine g_aload_n F 2 dX1_note_21 rfl ?_
  refine gr_getN_4 F (o := 0) (by decide) nf_X1_30 dX1_note_22 ?_
  refine g_top (y := iI ((X 12) 4 0)) (by rw [setO_n (by omega)]) ?_
  refine g15_ast_1 F  (by omega) dX1_note_25 ?_
  refine g_ws (ws' := xw κ xa (setO (setO X (4 + z.toNat) (stC (X (4 + z.toNat)) (cl (X 0)))) 15 (mA (X 15) 1 (uI ((X 15) 1) z ((X 12) 4 0))))) (by rw [setO_n (by omega)]) ?_
  refine g_aload_n F 0 dX1_note_26 rfl ?_
  refine g_aload_n F 0 dX1_note_27 rfl ?_
  refine g15_get_2 F  lf_X1_22 dX1_note_28 ?_
  refine g_top (y := iI ((X 15) 2 0)) rfl ?_
  refine g_top (y := iI z) (iIc hx) ?_
  refine g_iconst F dX1_note_31 ?_
  refine g_iadd F dX1_note_32 ?_
  refine g_bipush F dX1_note_33 (by decide +kernel) ?_
  refine g_irem F dX1_note_35 (by omega) ?_
  refine g15_put_2 F   lf_X1_22 dX1_note_36 ?_
  refine g_ws (ws' := xw κ xa (setO (setO X (4 + z.toNat) (stC (X (4 + z.toNat)) (cl (X 0)))) 15 (mA (mA (X 15) 1 (uI ((X 15) 1) z ((X 12) 4 0))) 2 (fun _ => (z + 1) % 8)))) (by rw [setO_s, setO_setO]) ?_
  refine g_aload_n F 0 dX1_note_39 rfl ?_
  refine g_bipush F dX1_note_40 (by decide +kernel) ?_
  refine g_aload_n F 0 dX1_note_42 rfl ?_
  refine g15_get_3 F  lf_X1_34 dX1_note_43 ?_
  refine g_top (y := iI ((X 15) 3 0)) rfl ?_
  refine g_iconst F dX1_note_46 ?_
  refine g_iadd F dX1_note_47 ?_
  refine g_min F (by omega) lm_X1_37 ms_min ms_ini mc_min (by decide) (Nat.le_of_ble_eq_true rfl) dX1_note_48 ?_
  refine g15_put_3 F   lf_X1_34 dX1_note_51 ?_
  refine g_ws (ws' := xw κ xa (setO (setO X (4 + z.toNat) (stC (X (4 + z.toNat)) (cl (X 0)))) 15 (mA (mA (mA (X 15) 1 (uI ((X 15) 1) z ((X 12) 4 0))) 2 (fun _ => (z + 1) % 8)) 3 (fun _ => min 8 (((X 15) 3 0) + 1))))) (by rw [setO_s, setO_setO]) ?_
  exact K xw_same rfl dX1_note_54
