/-! THE CONSTRUCTORS -/
theorem df_X0 : ∀ i, i < 5 → defaultValue (tyX0 i) = vp_V [.null, .null, .null, .null, .int (iI 0)] i := fun i hi => match i, hi with
  | 0, _ => rfl
  | 1, _ => rfl
  | 2, _ => rfl
  | 3, _ => rfl
  | 4, _ => rfl
  | i + 5, h => absurd h (by omega)
theorem dX0_init_0 : decode cX0_init 0 = .ok (.aload_n 0, 1) := by decide +kernel
theorem dX0_init_1 : decode cX0_init 1 = .ok (.invokespecial 3, 3) := by decide +kernel
theorem dX0_init_4 : decode cX0_init 4 = .ok (.aload_n 0, 1) := by decide +kernel
theorem dX0_init_5 : decode cX0_init 5 = .ok (.bipush 12, 2) := by decide +kernel
theorem dX0_init_7 : decode cX0_init 7 = .ok (.newarray .int, 2) := by decide +kernel
theorem dX0_init_9 : decode cX0_init 9 = .ok (.putfield 9, 3) := by decide +kernel
theorem dX0_init_12 : decode cX0_init 12 = .ok (.aload_n 0, 1) := by decide +kernel
theorem dX0_init_13 : decode cX0_init 13 = .ok (.bipush 12, 2) := by decide +kernel
theorem dX0_init_15 : decode cX0_init 15 = .ok (.newarray .int, 2) := by decide +kernel
theorem dX0_init_17 : decode cX0_init 17 = .ok (.putfield 15, 3) := by decide +kernel
theorem dX0_init_20 : decode cX0_init 20 = .ok (.aload_n 0, 1) := by decide +kernel
theorem dX0_init_21 : decode cX0_init 21 = .ok (.bipush 12, 2) := by decide +kernel
theorem dX0_init_23 : decode cX0_init 23 = .ok (.newarray .int, 2) := by decide +kernel
theorem dX0_init_25 : decode cX0_init 25 = .ok (.putfield 18, 3) := by decide +kernel
theorem dX0_init_28 : decode cX0_init 28 = .ok (.aload_n 0, 1) := by decide +kernel
theorem dX0_init_29 : decode cX0_init 29 = .ok (.bipush 12, 2) := by decide +kernel
theorem dX0_init_31 : decode cX0_init 31 = .ok (.newarray .int, 2) := by decide +kernel
theorem dX0_init_33 : decode cX0_init 33 = .ok (.putfield 21, 3) := by decide +kernel
theorem dX0_init_36 : decode cX0_init 36 = .ok (.return_, 1) := by decide +kernel
def pC0 (κ : Kp) (h : Nat) (w : va_W) : Prop := ∃ a0 a1 a2 a3 : Nat, w = [(h, .inr (0, [.ref a0, .ref a1, .ref a2, .ref a3, .int (iI 0)])), (a0, .inl (κ.2.1, 12, .inl (fun _ : Nat => iI 0))), (a1, .inl (κ.2.1, 12, .inl (fun _ : Nat => iI 0))), (a2, .inl (κ.2.1, 12, .inl (fun _ : Nat => iI 0))), (a3, .inl (κ.2.1, 12, .inl (fun _ : Nat => iI 0)))]
set_option maxHeartbeats 4000000 in
set_option maxRecDepth 100000 in
theorem k_X0_init (κ : Kp) : mC κ yX0_init cX0_init 1 1 4 48 0 [.null, .null, .null, .null, .int (iI 0)] (pC0 κ) := by
  refine mC_of (by decide) (by decide) rfl (fun E h0 F C I K => ?_)
  refine g_aload_n F 0 dX0_init_0 rfl ?_
  refine g_objInit F (Nat.le_of_ble_eq_true rfl) lm_X0_3 (Nat.le_of_ble_eq_true rfl) dX0_init_1 ?_
  refine g_aload_n F 0 dX0_init_4 rfl ?_
  refine g_bipush F dX0_init_5 (by decide +kernel) ?_
  refine g_arr F C 12 rfl (Nat.le_of_ble_eq_true rfl) (k2 := 1) (j2 := 12) rfl rfl (Nat.le_of_ble_eq_true rfl) (Nat.le_of_ble_eq_true rfl) dX0_init_7 (fun q0 => ?_)
  have F := F.NN C (k2 := 1) (j2 := 12) (Nat.le_of_ble_eq_true rfl) (Nat.le_of_ble_eq_true rfl)
  refine g_ws (ws' := [(h0, .inr (0, [.null, .null, .null, .null, .int (iI 0)])), (q0, .inl (κ.2.1, 12, .inl (fun _ : Nat => iI 0)))]) rfl ?_
  refine g_putF F I.N (ws' := [(h0, .inr (0, [.ref q0, .null, .null, .null, .int (iI 0)])), (q0, .inl (κ.2.1, 12, .inl (fun _ : Nat => iI 0)))]) 0 rfl rfl i_X0 tyX0 tyX0_ok nmX0 0 (Nat.le_of_ble_eq_true rfl) lf_X0_9 rfl rfl rfl rfl (Nat.le_of_ble_eq_true rfl) rfl dX0_init_9 ?_
  refine g_aload_n F 0 dX0_init_12 rfl ?_
  refine g_bipush F dX0_init_13 (by decide +kernel) ?_
  refine g_arr F C 12 rfl (Nat.le_of_ble_eq_true rfl) (k2 := 2) (j2 := 24) rfl rfl (Nat.le_of_ble_eq_true rfl) (Nat.le_of_ble_eq_true rfl) dX0_init_15 (fun q1 => ?_)
  have F := F.NN C (k2 := 2) (j2 := 24) (Nat.le_of_ble_eq_true rfl) (Nat.le_of_ble_eq_true rfl)
  refine g_ws (ws' := [(h0, .inr (0, [.ref q0, .null, .null, .null, .int (iI 0)])), (q0, .inl (κ.2.1, 12, .inl (fun _ : Nat => iI 0))), (q1, .inl (κ.2.1, 12, .inl (fun _ : Nat => iI 0)))]) rfl ?_
  refine g_putF F I.N (ws' := [(h0, .inr (0, [.ref q0, .ref q1, .null, .null, .int (iI 0)])), (q0, .inl (κ.2.1, 12, .inl (fun _ : Nat => iI 0))), (q1, .inl (κ.2.1, 12, .inl (fun _ : Nat => iI 0)))]) 0 rfl rfl i_X0 tyX0 tyX0_ok nmX0 1 (Nat.le_of_ble_eq_true rfl) lf_X0_15 rfl rfl rfl rfl (Nat.le_of_ble_eq_true rfl) rfl dX0_init_17 ?_
  refine g_aload_n F 0 dX0_init_20 rfl ?_
  refine g_bipush F dX0_init_21 (by decide +kernel) ?_
  refine g_arr F C 12 rfl (Nat.le_of_ble_eq_true rfl) (k2 := 3) (j2 := 36) rfl rfl (Nat.le_of_ble_eq_true rfl) (Nat.le_of_ble_eq_true rfl) dX0_init_23 (fun q2 => ?_)
  have F := F.NN C (k2 := 3) (j2 := 36) (Nat.le_of_ble_eq_true rfl) (Nat.le_of_ble_eq_true rfl)
  refine g_ws (ws' := [(h0, .inr (0, [.ref q0, .ref q1, .null, .null, .int (iI 0)])), (q0, .inl (κ.2.1, 12, .inl (fun _ : Nat => iI 0))), (q1, .inl (κ.2.1, 12, .inl (fun _ : Nat => iI 0))), (q2, .inl (κ.2.1, 12, .inl (fun _ : Nat => iI 0)))]) rfl ?_
  refine g_putF F I.N (ws' := [(h0, .inr (0, [.ref q0, .ref q1, .ref q2, .null, .int (iI 0)])), (q0, .inl (κ.2.1, 12, .inl (fun _ : Nat => iI 0))), (q1, .inl (κ.2.1, 12, .inl (fun _ : Nat => iI 0))), (q2, .inl (κ.2.1, 12, .inl (fun _ : Nat => iI 0)))]) 0 rfl rfl i_X0 tyX0 tyX0_ok nmX0 2 (Nat.le_of_ble_eq_true rfl) lf_X0_18 rfl rfl rfl rfl (Nat.le_of_ble_eq_true rfl) rfl dX0_init_25 ?_
  refine g_aload_n F 0 dX0_init_28 rfl ?_
  refine g_bipush F dX0_init_29 (by decide +kernel) ?_
  refine g_arr F C 12 rfl (Nat.le_of_ble_eq_true rfl) (k2 := 4) (j2 := 48) rfl rfl (Nat.le_of_ble_eq_true rfl) (Nat.le_of_ble_eq_true rfl) dX0_init_31 (fun q3 => ?_)
  have F := F.NN C (k2 := 4) (j2 := 48) (Nat.le_of_ble_eq_true rfl) (Nat.le_of_ble_eq_true rfl)
  refine g_ws (ws' := [(h0, .inr (0, [.ref q0, .ref q1, .ref q2, .null, .int (iI 0)])), (q0, .inl (κ.2.1, 12, .inl (fun _ : Nat => iI 0))), (q1, .inl (κ.2.1, 12, .inl (fun _ : Nat => iI 0))), (q2, .inl (κ.2.1, 12, .inl (fun _ : Nat => iI 0))), (q3, .inl (κ.2.1, 12, .inl (fun _ : Nat => iI 0)))]) rfl ?_
  refine g_putF F I.N (ws' := [(h0, .inr (0, [.ref q0, .ref q1, .ref q2, .ref q3, .int (iI 0)])), (q0, .inl (κ.2.1, 12, .inl (fun _ : Nat => iI 0))), (q1, .inl (κ.2.1, 12, .inl (fun _ : Nat => iI 0))), (q2, .inl (κ.2.1, 12, .inl (fun _ : Nat => iI 0))), (q3, .inl (κ.2.1, 12, .inl (fun _ : Nat => iI 0)))]) 0 rfl rfl i_X0 tyX0 tyX0_ok nmX0 3 (Nat.le_of_ble_eq_true rfl) lf_X0_21 rfl rfl rfl rfl (Nat.le_of_ble_eq_true rfl) rfl dX0_init_33 ?_
  exact K ⟨q0, q1, q2, q3, rfl⟩ dX0_init_36
theorem df_X2 : ∀ i, i < 5 → defaultValue (tyX2 i) = vp_V [.null, .null, .null, .int (iI 0), .int (iI 0)] i := fun i hi => match i, hi with
  | 0, _ => rfl
  | 1, _ => rfl
  | 2, _ => rfl
  | 3, _ => rfl
  | 4, _ => rfl
  | i + 5, h => absurd h (by omega)
theorem dX2_init_0 : decode cX2_init 0 = .ok (.aload_n 0, 1) := by decide +kernel
theorem dX2_init_1 : decode cX2_init 1 = .ok (.invokespecial 3, 3) := by decide +kernel
theorem dX2_init_4 : decode cX2_init 4 = .ok (.aload_n 0, 1) := by decide +kernel
theorem dX2_init_5 : decode cX2_init 5 = .ok (.bipush 6, 2) := by decide +kernel
theorem dX2_init_7 : decode cX2_init 7 = .ok (.newarray .int, 2) := by decide +kernel
theorem dX2_init_9 : decode cX2_init 9 = .ok (.putfield 9, 3) := by decide +kernel
theorem dX2_init_12 : decode cX2_init 12 = .ok (.aload_n 0, 1) := by decide +kernel
theorem dX2_init_13 : decode cX2_init 13 = .ok (.bipush 6, 2) := by decide +kernel
theorem dX2_init_15 : decode cX2_init 15 = .ok (.newarray .int, 2) := by decide +kernel
theorem dX2_init_17 : decode cX2_init 17 = .ok (.putfield 15, 3) := by decide +kernel
theorem dX2_init_20 : decode cX2_init 20 = .ok (.aload_n 0, 1) := by decide +kernel
theorem dX2_init_21 : decode cX2_init 21 = .ok (.bipush 6, 2) := by decide +kernel
theorem dX2_init_23 : decode cX2_init 23 = .ok (.newarray .int, 2) := by decide +kernel
theorem dX2_init_25 : decode cX2_init 25 = .ok (.putfield 18, 3) := by decide +kernel
theorem dX2_init_28 : decode cX2_init 28 = .ok (.return_, 1) := by decide +kernel
def pC2 (κ : Kp) (h : Nat) (w : va_W) : Prop := ∃ a0 a1 a2 : Nat, w = [(h, .inr (2, [.ref a0, .ref a1, .ref a2, .int (iI 0), .int (iI 0)])), (a0, .inl (κ.2.1, 6, .inl (fun _ : Nat => iI 0))), (a1, .inl (κ.2.1, 6, .inl (fun _ : Nat => iI 0))), (a2, .inl (κ.2.1, 6, .inl (fun _ : Nat => iI 0)))]
set_option maxHeartbeats 4000000 in
set_option maxRecDepth 100000 in
theorem k_X2_init (κ : Kp) : mC κ yX2_init cX2_init 1 1 3 18 2 [.null, .null, .null, .int (iI 0), .int (iI 0)] (pC2 κ) := by
  refine mC_of (by decide) (by decide) rfl (fun E h0 F C I K => ?_)
  refine g_aload_n F 0 dX2_init_0 rfl ?_
  refine g_objInit F (Nat.le_of_ble_eq_true rfl) lm_X2_3 (Nat.le_of_ble_eq_true rfl) dX2_init_1 ?_
  refine g_aload_n F 0 dX2_init_4 rfl ?_
  refine g_bipush F dX2_init_5 (by decide +kernel) ?_
  refine g_arr F C 6 rfl (Nat.le_of_ble_eq_true rfl) (k2 := 1) (j2 := 6) rfl rfl (Nat.le_of_ble_eq_true rfl) (Nat.le_of_ble_eq_true rfl) dX2_init_7 (fun q0 => ?_)
  have F := F.NN C (k2 := 1) (j2 := 6) (Nat.le_of_ble_eq_true rfl) (Nat.le_of_ble_eq_true rfl)
  refine g_ws (ws' := [(h0, .inr (2, [.null, .null, .null, .int (iI 0), .int (iI 0)])), (q0, .inl (κ.2.1, 6, .inl (fun _ : Nat => iI 0)))]) rfl ?_
  refine g_putF F I.N (ws' := [(h0, .inr (2, [.ref q0, .null, .null, .int (iI 0), .int (iI 0)])), (q0, .inl (κ.2.1, 6, .inl (fun _ : Nat => iI 0)))]) 0 rfl rfl i_X2 tyX2 tyX2_ok nmX2 0 (Nat.le_of_ble_eq_true rfl) lf_X2_9 rfl rfl rfl rfl (Nat.le_of_ble_eq_true rfl) rfl dX2_init_9 ?_
  refine g_aload_n F 0 dX2_init_12 rfl ?_
  refine g_bipush F dX2_init_13 (by decide +kernel) ?_
  refine g_arr F C 6 rfl (Nat.le_of_ble_eq_true rfl) (k2 := 2) (j2 := 12) rfl rfl (Nat.le_of_ble_eq_true rfl) (Nat.le_of_ble_eq_true rfl) dX2_init_15 (fun q1 => ?_)
  have F := F.NN C (k2 := 2) (j2 := 12) (Nat.le_of_ble_eq_true rfl) (Nat.le_of_ble_eq_true rfl)
  refine g_ws (ws' := [(h0, .inr (2, [.ref q0, .null, .null, .int (iI 0), .int (iI 0)])), (q0, .inl (κ.2.1, 6, .inl (fun _ : Nat => iI 0))), (q1, .inl (κ.2.1, 6, .inl (fun _ : Nat => iI 0)))]) rfl ?_
  refine g_putF F I.N (ws' := [(h0, .inr (2, [.ref q0, .ref q1, .null, .int (iI 0), .int (iI 0)])), (q0, .inl (κ.2.1, 6, .inl (fun _ : Nat => iI 0))), (q1, .inl (κ.2.1, 6, .inl (fun _ : Nat => iI 0)))]) 0 rfl rfl i_X2 tyX2 tyX2_ok nmX2 1 (Nat.le_of_ble_eq_true rfl) lf_X2_15 rfl rfl rfl rfl (Nat.le_of_ble_eq_true rfl) rfl dX2_init_17 ?_
  refine g_aload_n F 0 dX2_init_20 rfl ?_
  refine g_bipush F dX2_init_21 (by decide +kernel) ?_
  refine g_arr F C 6 rfl (Nat.le_of_ble_eq_true rfl) (k2 := 3) (j2 := 18) rfl rfl (Nat.le_of_ble_eq_true rfl) (Nat.le_of_ble_eq_true rfl) dX2_init_23 (fun q2 => ?_)
  have F := F.NN C (k2 := 3) (j2 := 18) (Nat.le_of_ble_eq_true rfl) (Nat.le_of_ble_eq_true rfl)
  refine g_ws (ws' := [(h0, .inr (2, [.ref q0, .ref q1, .null, .int (iI 0), .int (iI 0)])), (q0, .inl (κ.2.1, 6, .inl (fun _ : Nat => iI 0))), (q1, .inl (κ.2.1, 6, .inl (fun _ : Nat => iI 0))), (q2, .inl (κ.2.1, 6, .inl (fun _ : Nat => iI 0)))]) rfl ?_
  refine g_putF F I.N (ws' := [(h0, .inr (2, [.ref q0, .ref q1, .ref q2, .int (iI 0), .int (iI 0)])), (q0, .inl (κ.2.1, 6, .inl (fun _ : Nat => iI 0))), (q1, .inl (κ.2.1, 6, .inl (fun _ : Nat => iI 0))), (q2, .inl (κ.2.1, 6, .inl (fun _ : Nat => iI 0)))]) 0 rfl rfl i_X2 tyX2 tyX2_ok nmX2 2 (Nat.le_of_ble_eq_true rfl) lf_X2_18 rfl rfl rfl rfl (Nat.le_of_ble_eq_true rfl) rfl dX2_init_25 ?_
  exact K ⟨q0, q1, q2, rfl⟩ dX2_init_28
theorem df_X3 : ∀ i, i < 2 → defaultValue (tyX3 i) = vp_V [.null, .int (iI 0)] i := fun i hi => match i, hi with
  | 0, _ => rfl
  | 1, _ => rfl
  | i + 2, h => absurd h (by omega)
theorem dX3_init_0 : decode cX3_init 0 = .ok (.aload_n 0, 1) := by decide +kernel
theorem dX3_init_1 : decode cX3_init 1 = .ok (.invokespecial 3, 3) := by decide +kernel
theorem dX3_init_4 : decode cX3_init 4 = .ok (.aload_n 0, 1) := by decide +kernel
theorem dX3_init_5 : decode cX3_init 5 = .ok (.bipush 96, 2) := by decide +kernel
theorem dX3_init_7 : decode cX3_init 7 = .ok (.newarray .int, 2) := by decide +kernel
theorem dX3_init_9 : decode cX3_init 9 = .ok (.putfield 9, 3) := by decide +kernel
theorem dX3_init_12 : decode cX3_init 12 = .ok (.return_, 1) := by decide +kernel
def pC3 (κ : Kp) (h : Nat) (w : va_W) : Prop := ∃ a0 : Nat, w = [(h, .inr (3, [.ref a0, .int (iI 0)])), (a0, .inl (κ.2.1, 96, .inl (fun _ : Nat => iI 0)))]
set_option maxHeartbeats 4000000 in
set_option maxRecDepth 100000 in
theorem k_X3_init (κ : Kp) : mC κ yX3_init cX3_init 1 1 1 96 3 [.null, .int (iI 0)] (pC3 κ) := by
  refine mC_of (by decide) (by decide) rfl (fun E h0 F C I K => ?_)
  refine g_aload_n F 0 dX3_init_0 rfl ?_
  refine g_objInit F (Nat.le_of_ble_eq_true rfl) lm_X3_3 (Nat.le_of_ble_eq_true rfl) dX3_init_1 ?_
  refine g_aload_n F 0 dX3_init_4 rfl ?_
  refine g_bipush F dX3_init_5 (by decide +kernel) ?_
  refine g_arr F C 96 rfl (Nat.le_of_ble_eq_true rfl) (k2 := 1) (j2 := 96) rfl rfl (Nat.le_of_ble_eq_true rfl) (Nat.le_of_ble_eq_true rfl) dX3_init_7 (fun q0 => ?_)
  have F := F.NN C (k2 := 1) (j2 := 96) (Nat.le_of_ble_eq_true rfl) (Nat.le_of_ble_eq_true rfl)
  refine g_ws (ws' := [(h0, .inr (3, [.null, .int (iI 0)])), (q0, .inl (κ.2.1, 96, .inl (fun _ : Nat => iI 0)))]) rfl ?_
  refine g_putF F I.N (ws' := [(h0, .inr (3, [.ref q0, .int (iI 0)])), (q0, .inl (κ.2.1, 96, .inl (fun _ : Nat => iI 0)))]) 0 rfl rfl i_X3 tyX3 tyX3_ok nmX3 0 (Nat.le_of_ble_eq_true rfl) lf_X3_9 rfl rfl rfl rfl (Nat.le_of_ble_eq_true rfl) rfl dX3_init_9 ?_
  exact K ⟨q0, rfl⟩ dX3_init_12
theorem df_X4 : ∀ i, i < 4 → defaultValue (tyX4 i) = vp_V [.null, .null, .null, .int (iI 0)] i := fun i hi => match i, hi with
  | 0, _ => rfl
  | 1, _ => rfl
  | 2, _ => rfl
  | 3, _ => rfl
  | i + 4, h => absurd h (by omega)
theorem dX4_init_0 : decode cX4_init 0 = .ok (.aload_n 0, 1) := by decide +kernel
theorem dX4_init_1 : decode cX4_init 1 = .ok (.invokespecial 3, 3) := by decide +kernel
theorem dX4_init_4 : decode cX4_init 4 = .ok (.aload_n 0, 1) := by decide +kernel
theorem dX4_init_5 : decode cX4_init 5 = .ok (.iconst 3, 1) := by decide +kernel
theorem dX4_init_6 : decode cX4_init 6 = .ok (.newarray .int, 2) := by decide +kernel
theorem dX4_init_8 : decode cX4_init 8 = .ok (.putfield 9, 3) := by decide +kernel
theorem dX4_init_11 : decode cX4_init 11 = .ok (.aload_n 0, 1) := by decide +kernel
theorem dX4_init_12 : decode cX4_init 12 = .ok (.iconst 3, 1) := by decide +kernel
theorem dX4_init_13 : decode cX4_init 13 = .ok (.newarray .int, 2) := by decide +kernel
theorem dX4_init_15 : decode cX4_init 15 = .ok (.putfield 15, 3) := by decide +kernel
theorem dX4_init_18 : decode cX4_init 18 = .ok (.aload_n 0, 1) := by decide +kernel
theorem dX4_init_19 : decode cX4_init 19 = .ok (.sipush 1728, 3) := by decide +kernel
theorem dX4_init_22 : decode cX4_init 22 = .ok (.newarray .int, 2) := by decide +kernel
theorem dX4_init_24 : decode cX4_init 24 = .ok (.putfield 18, 3) := by decide +kernel
theorem dX4_init_27 : decode cX4_init 27 = .ok (.return_, 1) := by decide +kernel
def pC4 (κ : Kp) (h : Nat) (w : va_W) : Prop := ∃ a0 a1 a2 : Nat, w = [(h, .inr (4, [.ref a0, .ref a1, .ref a2, .int (iI 0)])), (a0, .inl (κ.2.1, 3, .inl (fun _ : Nat => iI 0))), (a1, .inl (κ.2.1, 3, .inl (fun _ : Nat => iI 0))), (a2, .inl (κ.2.1, 1728, .inl (fun _ : Nat => iI 0)))]
set_option maxHeartbeats 4000000 in
set_option maxRecDepth 100000 in
theorem k_X4_init (κ : Kp) : mC κ yX4_init cX4_init 1 1 3 1734 4 [.null, .null, .null, .int (iI 0)] (pC4 κ) := by
  refine mC_of (by decide) (by decide) rfl (fun E h0 F C I K => ?_)
  refine g_aload_n F 0 dX4_init_0 rfl ?_
  refine g_objInit F (Nat.le_of_ble_eq_true rfl) lm_X4_3 (Nat.le_of_ble_eq_true rfl) dX4_init_1 ?_
  refine g_aload_n F 0 dX4_init_4 rfl ?_
  refine g_iconst F dX4_init_5 ?_
  refine g_arr F C 3 rfl (Nat.le_of_ble_eq_true rfl) (k2 := 1) (j2 := 3) rfl rfl (Nat.le_of_ble_eq_true rfl) (Nat.le_of_ble_eq_true rfl) dX4_init_6 (fun q0 => ?_)
  have F := F.NN C (k2 := 1) (j2 := 3) (Nat.le_of_ble_eq_true rfl) (Nat.le_of_ble_eq_true rfl)
  refine g_ws (ws' := [(h0, .inr (4, [.null, .null, .null, .int (iI 0)])), (q0, .inl (κ.2.1, 3, .inl (fun _ : Nat => iI 0)))]) rfl ?_
  refine g_putF F I.N (ws' := [(h0, .inr (4, [.ref q0, .null, .null, .int (iI 0)])), (q0, .inl (κ.2.1, 3, .inl (fun _ : Nat => iI 0)))]) 0 rfl rfl i_X4 tyX4 tyX4_ok nmX4 0 (Nat.le_of_ble_eq_true rfl) lf_X4_9 rfl rfl rfl rfl (Nat.le_of_ble_eq_true rfl) rfl dX4_init_8 ?_
  refine g_aload_n F 0 dX4_init_11 rfl ?_
  refine g_iconst F dX4_init_12 ?_
  refine g_arr F C 3 rfl (Nat.le_of_ble_eq_true rfl) (k2 := 2) (j2 := 6) rfl rfl (Nat.le_of_ble_eq_true rfl) (Nat.le_of_ble_eq_true rfl) dX4_init_13 (fun q1 => ?_)
  have F := F.NN C (k2 := 2) (j2 := 6) (Nat.le_of_ble_eq_true rfl) (Nat.le_of_ble_eq_true rfl)
  refine g_ws (ws' := [(h0, .inr (4, [.ref q0, .null, .null, .int (iI 0)])), (q0, .inl (κ.2.1, 3, .inl (fun _ : Nat => iI 0))), (q1, .inl (κ.2.1, 3, .inl (fun _ : Nat => iI 0)))]) rfl ?_
  refine g_putF F I.N (ws' := [(h0, .inr (4, [.ref q0, .ref q1, .null, .int (iI 0)])), (q0, .inl (κ.2.1, 3, .inl (fun _ : Nat => iI 0))), (q1, .inl (κ.2.1, 3, .inl (fun _ : Nat => iI 0)))]) 0 rfl rfl i_X4 tyX4 tyX4_ok nmX4 1 (Nat.le_of_ble_eq_true rfl) lf_X4_15 rfl rfl rfl rfl (Nat.le_of_ble_eq_true rfl) rfl dX4_init_15 ?_
  refine g_aload_n F 0 dX4_init_18 rfl ?_
  refine g_sipush F dX4_init_19 (by decide +kernel) ?_
  refine g_arr F C 1728 rfl (Nat.le_of_ble_eq_true rfl) (k2 := 3) (j2 := 1734) rfl rfl (Nat.le_of_ble_eq_true rfl) (Nat.le_of_ble_eq_true rfl) dX4_init_22 (fun q2 => ?_)
  have F := F.NN C (k2 := 3) (j2 := 1734) (Nat.le_of_ble_eq_true rfl) (Nat.le_of_ble_eq_true rfl)
  refine g_ws (ws' := [(h0, .inr (4, [.ref q0, .ref q1, .null, .int (iI 0)])), (q0, .inl (κ.2.1, 3, .inl (fun _ : Nat => iI 0))), (q1, .inl (κ.2.1, 3, .inl (fun _ : Nat => iI 0))), (q2, .inl (κ.2.1, 1728, .inl (fun _ : Nat => iI 0)))]) rfl ?_
  refine g_putF F I.N (ws' := [(h0, .inr (4, [.ref q0, .ref q1, .ref q2, .int (iI 0)])), (q0, .inl (κ.2.1, 3, .inl (fun _ : Nat => iI 0))), (q1, .inl (κ.2.1, 3, .inl (fun _ : Nat => iI 0))), (q2, .inl (κ.2.1, 1728, .inl (fun _ : Nat => iI 0)))]) 0 rfl rfl i_X4 tyX4 tyX4_ok nmX4 2 (Nat.le_of_ble_eq_true rfl) lf_X4_18 rfl rfl rfl rfl (Nat.le_of_ble_eq_true rfl) rfl dX4_init_24 ?_
  exact K ⟨q0, q1, q2, rfl⟩ dX4_init_27
theorem df_X1 : ∀ i, i < 4 → defaultValue (tyX1 i) = vp_V [.null, .null, .int (iI 0), .int (iI 0)] i := fun i hi => match i, hi with
  | 0, _ => rfl
  | 1, _ => rfl
  | 2, _ => rfl
  | 3, _ => rfl
  | i + 4, h => absurd h (by omega)
theorem dX1_init_0 : decode cX1_init 0 = .ok (.aload_n 0, 1) := by decide +kernel
theorem dX1_init_1 : decode cX1_init 1 = .ok (.invokespecial 3, 3) := by decide +kernel
theorem dX1_init_4 : decode cX1_init 4 = .ok (.aload_n 0, 1) := by decide +kernel
theorem dX1_init_5 : decode cX1_init 5 = .ok (.bipush 8, 2) := by decide +kernel
theorem dX1_init_7 : decode cX1_init 7 = .ok (.anewarray 9, 3) := by decide +kernel
theorem dX1_init_10 : decode cX1_init 10 = .ok (.putfield 11, 3) := by decide +kernel
theorem dX1_init_13 : decode cX1_init 13 = .ok (.aload_n 0, 1) := by decide +kernel
theorem dX1_init_14 : decode cX1_init 14 = .ok (.bipush 8, 2) := by decide +kernel
theorem dX1_init_16 : decode cX1_init 16 = .ok (.newarray .int, 2) := by decide +kernel
theorem dX1_init_18 : decode cX1_init 18 = .ok (.putfield 17, 3) := by decide +kernel
theorem dX1_init_21 : decode cX1_init 21 = .ok (.iconst 0, 1) := by decide +kernel
theorem dX1_init_22 : decode cX1_init 22 = .ok (.istore_n 1, 1) := by decide +kernel
theorem dX1_init_23 : decode cX1_init 23 = .ok (.iload_n 1, 1) := by decide +kernel
theorem dX1_init_24 : decode cX1_init 24 = .ok (.bipush 8, 2) := by decide +kernel
theorem dX1_init_26 : decode cX1_init 26 = .ok (.if_icmp .ge 22, 3) := by decide +kernel
theorem dX1_init_29 : decode cX1_init 29 = .ok (.aload_n 0, 1) := by decide +kernel
theorem dX1_init_30 : decode cX1_init 30 = .ok (.getfield 11, 3) := by decide +kernel
theorem dX1_init_33 : decode cX1_init 33 = .ok (.iload_n 1, 1) := by decide +kernel
theorem dX1_init_34 : decode cX1_init 34 = .ok (.new 9, 3) := by decide +kernel
theorem dX1_init_37 : decode cX1_init 37 = .ok (.dup, 1) := by decide +kernel
theorem dX1_init_38 : decode cX1_init 38 = .ok (.invokespecial 21, 3) := by decide +kernel
theorem dX1_init_41 : decode cX1_init 41 = .ok (.aastore, 1) := by decide +kernel
theorem dX1_init_42 : decode cX1_init 42 = .ok (.iinc 1 1, 3) := by decide +kernel
theorem dX1_init_45 : decode cX1_init 45 = .ok (.goto (-22), 3) := by decide +kernel
theorem dX1_init_48 : decode cX1_init 48 = .ok (.return_, 1) := by decide +kernel
def pC1 (κ : Kp) (h : Nat) (w : va_W) : Prop := ∃ a0 a1 a2 a3 a4 a5 a6 a7 a8 a9 a10 a11 a12 a13 a14 a15 a16 a17 a18 a19 a20 a21 a22 a23 a24 a25 a26 a27 a28 a29 a30 a31 a32 a33 a34 a35 a36 a37 a38 a39 a40 a41 : Nat, w = [(h, .inr (1, [.ref a0, .ref a1, .int (iI 0), .int (iI 0)])), (a0, .inl (κ.2.2.1, 8, .inr (.inr (.inr (.inr (fun j : Nat => [a2, a7, a12, a17, a22, a27, a32, a37][j]?)))))), (a1, .inl (κ.2.1, 8, .inl (fun _ : Nat => iI 0))), (a2, .inr (0, [.ref a3, .ref a4, .ref a5, .ref a6, .int (iI 0)])), (a3, .inl (κ.2.1, 12, .inl (fun _ : Nat => iI 0))), (a4, .inl (κ.2.1, 12, .inl (fun _ : Nat => iI 0))), (a5, .inl (κ.2.1, 12, .inl (fun _ : Nat => iI 0))), (a6, .inl (κ.2.1, 12, .inl (fun _ : Nat => iI 0))), (a7, .inr (0, [.ref a8, .ref a9, .ref a10, .ref a11, .int (iI 0)])), (a8, .inl (κ.2.1, 12, .inl (fun _ : Nat => iI 0))), (a9, .inl (κ.2.1, 12, .inl (fun _ : Nat => iI 0))), (a10, .inl (κ.2.1, 12, .inl (fun _ : Nat => iI 0))), (a11, .inl (κ.2.1, 12, .inl (fun _ : Nat => iI 0))), (a12, .inr (0, [.ref a13, .ref a14, .ref a15, .ref a16, .int (iI 0)])), (a13, .inl (κ.2.1, 12, .inl (fun _ : Nat => iI 0))), (a14, .inl (κ.2.1, 12, .inl (fun _ : Nat => iI 0))), (a15, .inl (κ.2.1, 12, .inl (fun _ : Nat => iI 0))), (a16, .inl (κ.2.1, 12, .inl (fun _ : Nat => iI 0))), (a17, .inr (0, [.ref a18, .ref a19, .ref a20, .ref a21, .int (iI 0)])), (a18, .inl (κ.2.1, 12, .inl (fun _ : Nat => iI 0))), (a19, .inl (κ.2.1, 12, .inl (fun _ : Nat => iI 0))), (a20, .inl (κ.2.1, 12, .inl (fun _ : Nat => iI 0))), (a21, .inl (κ.2.1, 12, .inl (fun _ : Nat => iI 0))), (a22, .inr (0, [.ref a23, .ref a24, .ref a25, .ref a26, .int (iI 0)])), (a23, .inl (κ.2.1, 12, .inl (fun _ : Nat => iI 0))), (a24, .inl (κ.2.1, 12, .inl (fun _ : Nat => iI 0))), (a25, .inl (κ.2.1, 12, .inl (fun _ : Nat => iI 0))), (a26, .inl (κ.2.1, 12, .inl (fun _ : Nat => iI 0))), (a27, .inr (0, [.ref a28, .ref a29, .ref a30, .ref a31, .int (iI 0)])), (a28, .inl (κ.2.1, 12, .inl (fun _ : Nat => iI 0))), (a29, .inl (κ.2.1, 12, .inl (fun _ : Nat => iI 0))), (a30, .inl (κ.2.1, 12, .inl (fun _ : Nat => iI 0))), (a31, .inl (κ.2.1, 12, .inl (fun _ : Nat => iI 0))), (a32, .inr (0, [.ref a33, .ref a34, .ref a35, .ref a36, .int (iI 0)])), (a33, .inl (κ.2.1, 12, .inl (fun _ : Nat => iI 0))), (a34, .inl (κ.2.1, 12, .inl (fun _ : Nat => iI 0))), (a35, .inl (κ.2.1, 12, .inl (fun _ : Nat => iI 0))), (a36, .inl (κ.2.1, 12, .inl (fun _ : Nat => iI 0))), (a37, .inr (0, [.ref a38, .ref a39, .ref a40, .ref a41, .int (iI 0)])), (a38, .inl (κ.2.1, 12, .inl (fun _ : Nat => iI 0))), (a39, .inl (κ.2.1, 12, .inl (fun _ : Nat => iI 0))), (a40, .inl (κ.2.1, 12, .inl (fun _ : Nat => iI 0))), (a41, .inl (κ.2.1, 12, .inl (fun _ : Nat => iI 0)))]
set_option maxHeartbeats 4000000 in
set_option maxRecDepth 100000 in
theorem k_X1_init (κ : Kp) : mC κ yX1_init cX1_init 2 2 42 440 1 [.null, .null, .int (iI 0), .int (iI 0)] (pC1 κ) := by
  refine mC_of (by decide) (by decide) rfl (fun E h0 F C I K => ?_)
  refine g_aload_n F 0 dX1_init_0 rfl ?_
  refine g_objInit F (Nat.le_of_ble_eq_true rfl) lm_X1_3 (Nat.le_of_ble_eq_true rfl) dX1_init_1 ?_
  refine g_aload_n F 0 dX1_init_4 rfl ?_
  refine g_bipush F dX1_init_5 (by decide +kernel) ?_
  refine g_arrq F C lcl_X1_9 (k2 := 1) (j2 := 8) rfl rfl (Nat.le_of_ble_eq_true rfl) (Nat.le_of_ble_eq_true rfl) dX1_init_7 (fun q0 => ?_)
  have F := F.NN C (k2 := 1) (j2 := 8) (Nat.le_of_ble_eq_true rfl) (Nat.le_of_ble_eq_true rfl)
  refine g_ws (ws' := [(h0, .inr (1, [.null, .null, .int (iI 0), .int (iI 0)])), (q0, .inl (κ.2.2.1, 8, .inr (.inr (.inr (.inr (fun _ : Nat => none))))))]) rfl ?_
  refine g_putF F I.N (ws' := [(h0, .inr (1, [.ref q0, .null, .int (iI 0), .int (iI 0)])), (q0, .inl (κ.2.2.1, 8, .inr (.inr (.inr (.inr (fun _ : Nat => none))))))]) 0 rfl rfl i_X1 tyX1 tyX1_ok nmX1 0 (Nat.le_of_ble_eq_true rfl) lf_X1_11 rfl rfl rfl rfl (Nat.le_of_ble_eq_true rfl) rfl dX1_init_10 ?_
  refine g_aload_n F 0 dX1_init_13 rfl ?_
  refine g_bipush F dX1_init_14 (by decide +kernel) ?_
  refine g_arr F C 8 rfl (Nat.le_of_ble_eq_true rfl) (k2 := 2) (j2 := 16) rfl rfl (Nat.le_of_ble_eq_true rfl) (Nat.le_of_ble_eq_true rfl) dX1_init_16 (fun q1 => ?_)
  have F := F.NN C (k2 := 2) (j2 := 16) (Nat.le_of_ble_eq_true rfl) (Nat.le_of_ble_eq_true rfl)
  refine g_ws (ws' := [(h0, .inr (1, [.ref q0, .null, .int (iI 0), .int (iI 0)])), (q0, .inl (κ.2.2.1, 8, .inr (.inr (.inr (.inr (fun _ : Nat => none)))))), (q1, .inl (κ.2.1, 8, .inl (fun _ : Nat => iI 0)))]) rfl ?_
  refine g_putF F I.N (ws' := [(h0, .inr (1, [.ref q0, .ref q1, .int (iI 0), .int (iI 0)])), (q0, .inl (κ.2.2.1, 8, .inr (.inr (.inr (.inr (fun _ : Nat => none)))))), (q1, .inl (κ.2.1, 8, .inl (fun _ : Nat => iI 0)))]) 0 rfl rfl i_X1 tyX1 tyX1_ok nmX1 1 (Nat.le_of_ble_eq_true rfl) lf_X1_17 rfl rfl rfl rfl (Nat.le_of_ble_eq_true rfl) rfl dX1_init_18 ?_
  refine g_iconst F dX1_init_21 ?_
  refine g_istore_n F (lv' := [(1, .int (iI 0)), (0, .ref h0)]) 1 dX1_init_22 rfl (by decide) rfl ?_
  refine g_iload_n F 0 dX1_init_23 rfl ?_
  refine g_bipush F dX1_init_24 (by decide +kernel) ?_
  refine g_icmp_ge F 48 (by decide) dX1_init_26 (by decide) (fun q => absurd q (by decide)) (fun _ => ?_)
  refine g_aload_n F 1 dX1_init_29 rfl ?_
  refine g_get F (C := RX1) (T := TX1) (N := 4) 0 rfl rfl i_X1 0 (Nat.le_of_ble_eq_true rfl) lf_X1_11 rfl dX1_init_30 ?_
  refine g_iload_n F 0 dX1_init_33 rfl ?_
  refine g_obj F C tyX0 tyX0_ok i_X0 lcl_X1_9 ins_X0 ini_X0 rfl df_X0 (k2 := 3) (j2 := 21) rfl rfl (Nat.le_of_ble_eq_true rfl) (Nat.le_of_ble_eq_true rfl) dX1_init_34 (fun q2 => ?_)
  have F := F.NN C (k2 := 3) (j2 := 21) (Nat.le_of_ble_eq_true rfl) (Nat.le_of_ble_eq_true rfl)
  refine g_dup F dX1_init_37 rfl ?_
  refine g_callCN (w1 := [(h0, .inr (1, [.ref q0, .ref q1, .int (iI 0), .int (iI 0)])), (q0, .inl (κ.2.2.1, 8, .inr (.inr (.inr (.inr (fun _ : Nat => none)))))), (q1, .inl (κ.2.1, 8, .inl (fun _ : Nat => iI 0)))]) F C (k_X0_init κ) cac_X0 nm_X1_21 (Nat.le_of_ble_eq_true rfl) (Nat.le_of_ble_eq_true rfl) (k2 := 7) (j2 := 69) rfl rfl (Nat.le_of_ble_eq_true rfl) (Nat.le_of_ble_eq_true rfl) dX1_init_38 (fun w hw => ?_)
  obtain ⟨q3, q4, q5, q6, rfl⟩ := hw
  have F := F.NN C (k2 := 7) (j2 := 69) (Nat.le_of_ble_eq_true rfl) (Nat.le_of_ble_eq_true rfl)
  refine g_ws (ws' := [(h0, .inr (1, [.ref q0, .ref q1, .int (iI 0), .int (iI 0)])), (q0, .inl (κ.2.2.1, 8, .inr (.inr (.inr (.inr (fun _ : Nat => none)))))), (q1, .inl (κ.2.1, 8, .inl (fun _ : Nat => iI 0))), (q2, .inr (0, [.ref q3, .ref q4, .ref q5, .ref q6, .int (iI 0)])), (q3, .inl (κ.2.1, 12, .inl (fun _ : Nat => iI 0))), (q4, .inl (κ.2.1, 12, .inl (fun _ : Nat => iI 0))), (q5, .inl (κ.2.1, 12, .inl (fun _ : Nat => iI 0))), (q6, .inl (κ.2.1, 12, .inl (fun _ : Nat => iI 0)))]) rfl ?_
  refine g_astq F (ws' := [(h0, .inr (1, [.ref q0, .ref q1, .int (iI 0), .int (iI 0)])), (q0, .inl (κ.2.2.1, 8, .inr (.inr (.inr (.inr (va_up (fun _ : Nat => none) 0 (some q2))))))), (q1, .inl (κ.2.1, 8, .inl (fun _ : Nat => iI 0))), (q2, .inr (0, [.ref q3, .ref q4, .ref q5, .ref q6, .int (iI 0)])), (q3, .inl (κ.2.1, 12, .inl (fun _ : Nat => iI 0))), (q4, .inl (κ.2.1, 12, .inl (fun _ : Nat => iI 0))), (q5, .inl (κ.2.1, 12, .inl (fun _ : Nat => iI 0))), (q6, .inl (κ.2.1, 12, .inl (fun _ : Nat => iI 0)))]) (z := 0) 1 3 rfl rfl (by decide) rfl dX1_init_41 ?_
  refine g_iinc F (lv' := [(1, .int (iI 1)), (0, .ref h0)]) 0 dX1_init_42 rfl (by decide) rfl ?_
  refine g_goto F 23 dX1_init_45 (by decide) ?_
  refine g_iload_n F 0 dX1_init_23 rfl ?_
  refine g_bipush F dX1_init_24 (by decide +kernel) ?_
  refine g_icmp_ge F 48 (by decide) dX1_init_26 (by decide) (fun q => absurd q (by decide)) (fun _ => ?_)
  refine g_aload_n F 1 dX1_init_29 rfl ?_
  refine g_get F (C := RX1) (T := TX1) (N := 4) 0 rfl rfl i_X1 0 (Nat.le_of_ble_eq_true rfl) lf_X1_11 rfl dX1_init_30 ?_
  refine g_iload_n F 0 dX1_init_33 rfl ?_
  refine g_obj F C tyX0 tyX0_ok i_X0 lcl_X1_9 ins_X0 ini_X0 rfl df_X0 (k2 := 8) (j2 := 74) rfl rfl (Nat.le_of_ble_eq_true rfl) (Nat.le_of_ble_eq_true rfl) dX1_init_34 (fun q7 => ?_)
  have F := F.NN C (k2 := 8) (j2 := 74) (Nat.le_of_ble_eq_true rfl) (Nat.le_of_ble_eq_true rfl)
  refine g_dup F dX1_init_37 rfl ?_
  refine g_callCN (w1 := [(h0, .inr (1, [.ref q0, .ref q1, .int (iI 0), .int (iI 0)])), (q0, .inl (κ.2.2.1, 8, .inr (.inr (.inr (.inr (va_up (fun _ : Nat => none) 0 (some q2))))))), (q1, .inl (κ.2.1, 8, .inl (fun _ : Nat => iI 0))), (q2, .inr (0, [.ref q3, .ref q4, .ref q5, .ref q6, .int (iI 0)])), (q3, .inl (κ.2.1, 12, .inl (fun _ : Nat => iI 0))), (q4, .inl (κ.2.1, 12, .inl (fun _ : Nat => iI 0))), (q5, .inl (κ.2.1, 12, .inl (fun _ : Nat => iI 0))), (q6, .inl (κ.2.1, 12, .inl (fun _ : Nat => iI 0)))]) F C (k_X0_init κ) cac_X0 nm_X1_21 (Nat.le_of_ble_eq_true rfl) (Nat.le_of_ble_eq_true rfl) (k2 := 12) (j2 := 122) rfl rfl (Nat.le_of_ble_eq_true rfl) (Nat.le_of_ble_eq_true rfl) dX1_init_38 (fun w hw => ?_)
  obtain ⟨q8, q9, q10, q11, rfl⟩ := hw
  have F := F.NN C (k2 := 12) (j2 := 122) (Nat.le_of_ble_eq_true rfl) (Nat.le_of_ble_eq_true rfl)
  refine g_ws (ws' := [(h0, .inr (1, [.ref q0, .ref q1, .int (iI 0), .int (iI 0)])), (q0, .inl (κ.2.2.1, 8, .inr (.inr (.inr (.inr (va_up (fun _ : Nat => none) 0 (some q2))))))), (q1, .inl (κ.2.1, 8, .inl (fun _ : Nat => iI 0))), (q2, .inr (0, [.ref q3, .ref q4, .ref q5, .ref q6, .int (iI 0)])), (q3, .inl (κ.2.1, 12, .inl (fun _ : Nat => iI 0))), (q4, .inl (κ.2.1, 12, .inl (fun _ : Nat => iI 0))), (q5, .inl (κ.2.1, 12, .inl (fun _ : Nat => iI 0))), (q6, .inl (κ.2.1, 12, .inl (fun _ : Nat => iI 0))), (q7, .inr (0, [.ref q8, .ref q9, .ref q10, .ref q11, .int (iI 0)])), (q8, .inl (κ.2.1, 12, .inl (fun _ : Nat => iI 0))), (q9, .inl (κ.2.1, 12, .inl (fun _ : Nat => iI 0))), (q10, .inl (κ.2.1, 12, .inl (fun _ : Nat => iI 0))), (q11, .inl (κ.2.1, 12, .inl (fun _ : Nat => iI 0)))]) rfl ?_
  refine g_astq F (ws' := [(h0, .inr (1, [.ref q0, .ref q1, .int (iI 0), .int (iI 0)])), (q0, .inl (κ.2.2.1, 8, .inr (.inr (.inr (.inr (va_up (va_up (fun _ : Nat => none) 0 (some q2)) 1 (some q7))))))), (q1, .inl (κ.2.1, 8, .inl (fun _ : Nat => iI 0))), (q2, .inr (0, [.ref q3, .ref q4, .ref q5, .ref q6, .int (iI 0)])), (q3, .inl (κ.2.1, 12, .inl (fun _ : Nat => iI 0))), (q4, .inl (κ.2.1, 12, .inl (fun _ : Nat => iI 0))), (q5, .inl (κ.2.1, 12, .inl (fun _ : Nat => iI 0))), (q6, .inl (κ.2.1, 12, .inl (fun _ : Nat => iI 0))), (q7, .inr (0, [.ref q8, .ref q9, .ref q10, .ref q11, .int (iI 0)])), (q8, .inl (κ.2.1, 12, .inl (fun _ : Nat => iI 0))), (q9, .inl (κ.2.1, 12, .inl (fun _ : Nat => iI 0))), (q10, .inl (κ.2.1, 12, .inl (fun _ : Nat => iI 0))), (q11, .inl (κ.2.1, 12, .inl (fun _ : Nat => iI 0)))]) (z := 1) 1 8 rfl rfl (by decide) rfl dX1_init_41 ?_
  refine g_iinc F (lv' := [(1, .int (iI 2)), (0, .ref h0)]) 0 dX1_init_42 rfl (by decide) rfl ?_
  refine g_goto F 23 dX1_init_45 (by decide) ?_
  refine g_iload_n F 0 dX1_init_23 rfl ?_
  refine g_bipush F dX1_init_24 (by decide +kernel) ?_
  refine g_icmp_ge F 48 (by decide) dX1_init_26 (by decide) (fun q => absurd q (by decide)) (fun _ => ?_)
  refine g_aload_n F 1 dX1_init_29 rfl ?_
  refine g_get F (C := RX1) (T := TX1) (N := 4) 0 rfl rfl i_X1 0 (Nat.le_of_ble_eq_true rfl) lf_X1_11 rfl dX1_init_30 ?_
  refine g_iload_n F 0 dX1_init_33 rfl ?_
  refine g_obj F C tyX0 tyX0_ok i_X0 lcl_X1_9 ins_X0 ini_X0 rfl df_X0 (k2 := 13) (j2 := 127) rfl rfl (Nat.le_of_ble_eq_true rfl) (Nat.le_of_ble_eq_true rfl) dX1_init_34 (fun q12 => ?_)
  have F := F.NN C (k2 := 13) (j2 := 127) (Nat.le_of_ble_eq_true rfl) (Nat.le_of_ble_eq_true rfl)
  refine g_dup F dX1_init_37 rfl ?_
  refine g_callCN (w1 := [(h0, .inr (1, [.ref q0, .ref q1, .int (iI 0), .int (iI 0)])), (q0, .inl (κ.2.2.1, 8, .inr (.inr (.inr (.inr (va_up (va_up (fun _ : Nat => none) 0 (some q2)) 1 (some q7))))))), (q1, .inl (κ.2.1, 8, .inl (fun _ : Nat => iI 0))), (q2, .inr (0, [.ref q3, .ref q4, .ref q5, .ref q6, .int (iI 0)])), (q3, .inl (κ.2.1, 12, .inl (fun _ : Nat => iI 0))), (q4, .inl (κ.2.1, 12, .inl (fun _ : Nat => iI 0))), (q5, .inl (κ.2.1, 12, .inl (fun _ : Nat => iI 0))), (q6, .inl (κ.2.1, 12, .inl (fun _ : Nat => iI 0))), (q7, .inr (0, [.ref q8, .ref q9, .ref q10, .ref q11, .int (iI 0)])), (q8, .inl (κ.2.1, 12, .inl (fun _ : Nat => iI 0))), (q9, .inl (κ.2.1, 12, .inl (fun _ : Nat => iI 0))), (q10, .inl (κ.2.1, 12, .inl (fun _ : Nat => iI 0))), (q11, .inl (κ.2.1, 12, .inl (fun _ : Nat => iI 0)))]) F C (k_X0_init κ) cac_X0 nm_X1_21 (Nat.le_of_ble_eq_true rfl) (Nat.le_of_ble_eq_true rfl) (k2 := 17) (j2 := 175) rfl rfl (Nat.le_of_ble_eq_true rfl) (Nat.le_of_ble_eq_true rfl) dX1_init_38 (fun w hw => ?_)
  obtain ⟨q13, q14, q15, q16, rfl⟩ := hw
  have F := F.NN C (k2 := 17) (j2 := 175) (Nat.le_of_ble_eq_true rfl) (Nat.le_of_ble_eq_true rfl)
  refine g_ws (ws' := [(h0, .inr (1, [.ref q0, .ref q1, .int (iI 0), .int (iI 0)])), (q0, .inl (κ.2.2.1, 8, .inr (.inr (.inr (.inr (va_up (va_up (fun _ : Nat => none) 0 (some q2)) 1 (some q7))))))), (q1, .inl (κ.2.1, 8, .inl (fun _ : Nat => iI 0))), (q2, .inr (0, [.ref q3, .ref q4, .ref q5, .ref q6, .int (iI 0)])), (q3, .inl (κ.2.1, 12, .inl (fun _ : Nat => iI 0))), (q4, .inl (κ.2.1, 12, .inl (fun _ : Nat => iI 0))), (q5, .inl (κ.2.1, 12, .inl (fun _ : Nat => iI 0))), (q6, .inl (κ.2.1, 12, .inl (fun _ : Nat => iI 0))), (q7, .inr (0, [.ref q8, .ref q9, .ref q10, .ref q11, .int (iI 0)])), (q8, .inl (κ.2.1, 12, .inl (fun _ : Nat => iI 0))), (q9, .inl (κ.2.1, 12, .inl (fun _ : Nat => iI 0))), (q10, .inl (κ.2.1, 12, .inl (fun _ : Nat => iI 0))), (q11, .inl (κ.2.1, 12, .inl (fun _ : Nat => iI 0))), (q12, .inr (0, [.ref q13, .ref q14, .ref q15, .ref q16, .int (iI 0)])), (q13, .inl (κ.2.1, 12, .inl (fun _ : Nat => iI 0))), (q14, .inl (κ.2.1, 12, .inl (fun _ : Nat => iI 0))), (q15, .inl (κ.2.1, 12, .inl (fun _ : Nat => iI 0))), (q16, .inl (κ.2.1, 12, .inl (fun _ : Nat => iI 0)))]) rfl ?_
  refine g_astq F (ws' := [(h0, .inr (1, [.ref q0, .ref q1, .int (iI 0), .int (iI 0)])), (q0, .inl (κ.2.2.1, 8, .inr (.inr (.inr (.inr (va_up (va_up (va_up (fun _ : Nat => none) 0 (some q2)) 1 (some q7)) 2 (some q12))))))), (q1, .inl (κ.2.1, 8, .inl (fun _ : Nat => iI 0))), (q2, .inr (0, [.ref q3, .ref q4, .ref q5, .ref q6, .int (iI 0)])), (q3, .inl (κ.2.1, 12, .inl (fun _ : Nat => iI 0))), (q4, .inl (κ.2.1, 12, .inl (fun _ : Nat => iI 0))), (q5, .inl (κ.2.1, 12, .inl (fun _ : Nat => iI 0))), (q6, .inl (κ.2.1, 12, .inl (fun _ : Nat => iI 0))), (q7, .inr (0, [.ref q8, .ref q9, .ref q10, .ref q11, .int (iI 0)])), (q8, .inl (κ.2.1, 12, .inl (fun _ : Nat => iI 0))), (q9, .inl (κ.2.1, 12, .inl (fun _ : Nat => iI 0))), (q10, .inl (κ.2.1, 12, .inl (fun _ : Nat => iI 0))), (q11, .inl (κ.2.1, 12, .inl (fun _ : Nat => iI 0))), (q12, .inr (0, [.ref q13, .ref q14, .ref q15, .ref q16, .int (iI 0)])), (q13, .inl (κ.2.1, 12, .inl (fun _ : Nat => iI 0))), (q14, .inl (κ.2.1, 12, .inl (fun _ : Nat => iI 0))), (q15, .inl (κ.2.1, 12, .inl (fun _ : Nat => iI 0))), (q16, .inl (κ.2.1, 12, .inl (fun _ : Nat => iI 0)))]) (z := 2) 1 13 rfl rfl (by decide) rfl dX1_init_41 ?_
  refine g_iinc F (lv' := [(1, .int (iI 3)), (0, .ref h0)]) 0 dX1_init_42 rfl (by decide) rfl ?_
  refine g_goto F 23 dX1_init_45 (by decide) ?_
  refine g_iload_n F 0 dX1_init_23 rfl ?_
  refine g_bipush F dX1_init_24 (by decide +kernel) ?_
  refine g_icmp_ge F 48 (by decide) dX1_init_26 (by decide) (fun q => absurd q (by decide)) (fun _ => ?_)
  refine g_aload_n F 1 dX1_init_29 rfl ?_
  refine g_get F (C := RX1) (T := TX1) (N := 4) 0 rfl rfl i_X1 0 (Nat.le_of_ble_eq_true rfl) lf_X1_11 rfl dX1_init_30 ?_
  refine g_iload_n F 0 dX1_init_33 rfl ?_
  refine g_obj F C tyX0 tyX0_ok i_X0 lcl_X1_9 ins_X0 ini_X0 rfl df_X0 (k2 := 18) (j2 := 180) rfl rfl (Nat.le_of_ble_eq_true rfl) (Nat.le_of_ble_eq_true rfl) dX1_init_34 (fun q17 => ?_)
  have F := F.NN C (k2 := 18) (j2 := 180) (Nat.le_of_ble_eq_true rfl) (Nat.le_of_ble_eq_true rfl)
  refine g_dup F dX1_init_37 rfl ?_
  refine g_callCN (w1 := [(h0, .inr (1, [.ref q0, .ref q1, .int (iI 0), .int (iI 0)])), (q0, .inl (κ.2.2.1, 8, .inr (.inr (.inr (.inr (va_up (va_up (va_up (fun _ : Nat => none) 0 (some q2)) 1 (some q7)) 2 (some q12))))))), (q1, .inl (κ.2.1, 8, .inl (fun _ : Nat => iI 0))), (q2, .inr (0, [.ref q3, .ref q4, .ref q5, .ref q6, .int (iI 0)])), (q3, .inl (κ.2.1, 12, .inl (fun _ : Nat => iI 0))), (q4, .inl (κ.2.1, 12, .inl (fun _ : Nat => iI 0))), (q5, .inl (κ.2.1, 12, .inl (fun _ : Nat => iI 0))), (q6, .inl (κ.2.1, 12, .inl (fun _ : Nat => iI 0))), (q7, .inr (0, [.ref q8, .ref q9, .ref q10, .ref q11, .int (iI 0)])), (q8, .inl (κ.2.1, 12, .inl (fun _ : Nat => iI 0))), (q9, .inl (κ.2.1, 12, .inl (fun _ : Nat => iI 0))), (q10, .inl (κ.2.1, 12, .inl (fun _ : Nat => iI 0))), (q11, .inl (κ.2.1, 12, .inl (fun _ : Nat => iI 0))), (q12, .inr (0, [.ref q13, .ref q14, .ref q15, .ref q16, .int (iI 0)])), (q13, .inl (κ.2.1, 12, .inl (fun _ : Nat => iI 0))), (q14, .inl (κ.2.1, 12, .inl (fun _ : Nat => iI 0))), (q15, .inl (κ.2.1, 12, .inl (fun _ : Nat => iI 0))), (q16, .inl (κ.2.1, 12, .inl (fun _ : Nat => iI 0)))]) F C (k_X0_init κ) cac_X0 nm_X1_21 (Nat.le_of_ble_eq_true rfl) (Nat.le_of_ble_eq_true rfl) (k2 := 22) (j2 := 228) rfl rfl (Nat.le_of_ble_eq_true rfl) (Nat.le_of_ble_eq_true rfl) dX1_init_38 (fun w hw => ?_)
  obtain ⟨q18, q19, q20, q21, rfl⟩ := hw
  have F := F.NN C (k2 := 22) (j2 := 228) (Nat.le_of_ble_eq_true rfl) (Nat.le_of_ble_eq_true rfl)
  refine g_ws (ws' := [(h0, .inr (1, [.ref q0, .ref q1, .int (iI 0), .int (iI 0)])), (q0, .inl (κ.2.2.1, 8, .inr (.inr (.inr (.inr (va_up (va_up (va_up (fun _ : Nat => none) 0 (some q2)) 1 (some q7)) 2 (some q12))))))), (q1, .inl (κ.2.1, 8, .inl (fun _ : Nat => iI 0))), (q2, .inr (0, [.ref q3, .ref q4, .ref q5, .ref q6, .int (iI 0)])), (q3, .inl (κ.2.1, 12, .inl (fun _ : Nat => iI 0))), (q4, .inl (κ.2.1, 12, .inl (fun _ : Nat => iI 0))), (q5, .inl (κ.2.1, 12, .inl (fun _ : Nat => iI 0))), (q6, .inl (κ.2.1, 12, .inl (fun _ : Nat => iI 0))), (q7, .inr (0, [.ref q8, .ref q9, .ref q10, .ref q11, .int (iI 0)])), (q8, .inl (κ.2.1, 12, .inl (fun _ : Nat => iI 0))), (q9, .inl (κ.2.1, 12, .inl (fun _ : Nat => iI 0))), (q10, .inl (κ.2.1, 12, .inl (fun _ : Nat => iI 0))), (q11, .inl (κ.2.1, 12, .inl (fun _ : Nat => iI 0))), (q12, .inr (0, [.ref q13, .ref q14, .ref q15, .ref q16, .int (iI 0)])), (q13, .inl (κ.2.1, 12, .inl (fun _ : Nat => iI 0))), (q14, .inl (κ.2.1, 12, .inl (fun _ : Nat => iI 0))), (q15, .inl (κ.2.1, 12, .inl (fun _ : Nat => iI 0))), (q16, .inl (κ.2.1, 12, .inl (fun _ : Nat => iI 0))), (q17, .inr (0, [.ref q18, .ref q19, .ref q20, .ref q21, .int (iI 0)])), (q18, .inl (κ.2.1, 12, .inl (fun _ : Nat => iI 0))), (q19, .inl (κ.2.1, 12, .inl (fun _ : Nat => iI 0))), (q20, .inl (κ.2.1, 12, .inl (fun _ : Nat => iI 0))), (q21, .inl (κ.2.1, 12, .inl (fun _ : Nat => iI 0)))]) rfl ?_
  refine g_astq F (ws' := [(h0, .inr (1, [.ref q0, .ref q1, .int (iI 0), .int (iI 0)])), (q0, .inl (κ.2.2.1, 8, .inr (.inr (.inr (.inr (va_up (va_up (va_up (va_up (fun _ : Nat => none) 0 (some q2)) 1 (some q7)) 2 (some q12)) 3 (some q17))))))), (q1, .inl (κ.2.1, 8, .inl (fun _ : Nat => iI 0))), (q2, .inr (0, [.ref q3, .ref q4, .ref q5, .ref q6, .int (iI 0)])), (q3, .inl (κ.2.1, 12, .inl (fun _ : Nat => iI 0))), (q4, .inl (κ.2.1, 12, .inl (fun _ : Nat => iI 0))), (q5, .inl (κ.2.1, 12, .inl (fun _ : Nat => iI 0))), (q6, .inl (κ.2.1, 12, .inl (fun _ : Nat => iI 0))), (q7, .inr (0, [.ref q8, .ref q9, .ref q10, .ref q11, .int (iI 0)])), (q8, .inl (κ.2.1, 12, .inl (fun _ : Nat => iI 0))), (q9, .inl (κ.2.1, 12, .inl (fun _ : Nat => iI 0))), (q10, .inl (κ.2.1, 12, .inl (fun _ : Nat => iI 0))), (q11, .inl (κ.2.1, 12, .inl (fun _ : Nat => iI 0))), (q12, .inr (0, [.ref q13, .ref q14, .ref q15, .ref q16, .int (iI 0)])), (q13, .inl (κ.2.1, 12, .inl (fun _ : Nat => iI 0))), (q14, .inl (κ.2.1, 12, .inl (fun _ : Nat => iI 0))), (q15, .inl (κ.2.1, 12, .inl (fun _ : Nat => iI 0))), (q16, .inl (κ.2.1, 12, .inl (fun _ : Nat => iI 0))), (q17, .inr (0, [.ref q18, .ref q19, .ref q20, .ref q21, .int (iI 0)])), (q18, .inl (κ.2.1, 12, .inl (fun _ : Nat => iI 0))), (q19, .inl (κ.2.1, 12, .inl (fun _ : Nat => iI 0))), (q20, .inl (κ.2.1, 12, .inl (fun _ : Nat => iI 0))), (q21, .inl (κ.2.1, 12, .inl (fun _ : Nat => iI 0)))]) (z := 3) 1 18 rfl rfl (by decide) rfl dX1_init_41 ?_
  refine g_iinc F (lv' := [(1, .int (iI 4)), (0, .ref h0)]) 0 dX1_init_42 rfl (by decide) rfl ?_
  refine g_goto F 23 dX1_init_45 (by decide) ?_
  refine g_iload_n F 0 dX1_init_23 rfl ?_
  refine g_bipush F dX1_init_24 (by decide +kernel) ?_
  refine g_icmp_ge F 48 (by decide) dX1_init_26 (by decide) (fun q => absurd q (by decide)) (fun _ => ?_)
  refine g_aload_n F 1 dX1_init_29 rfl ?_
  refine g_get F (C := RX1) (T := TX1) (N := 4) 0 rfl rfl i_X1 0 (Nat.le_of_ble_eq_true rfl) lf_X1_11 rfl dX1_init_30 ?_
  refine g_iload_n F 0 dX1_init_33 rfl ?_
  refine g_obj F C tyX0 tyX0_ok i_X0 lcl_X1_9 ins_X0 ini_X0 rfl df_X0 (k2 := 23) (j2 := 233) rfl rfl (Nat.le_of_ble_eq_true rfl) (Nat.le_of_ble_eq_true rfl) dX1_init_34 (fun q22 => ?_)
  have F := F.NN C (k2 := 23) (j2 := 233) (Nat.le_of_ble_eq_true rfl) (Nat.le_of_ble_eq_true rfl)
  refine g_dup F dX1_init_37 rfl ?_
  refine g_callCN (w1 := [(h0, .inr (1, [.ref q0, .ref q1, .int (iI 0), .int (iI 0)])), (q0, .inl (κ.2.2.1, 8, .inr (.inr (.inr (.inr (va_up (va_up (va_up (va_up (fun _ : Nat => none) 0 (some q2)) 1 (some q7)) 2 (some q12)) 3 (some q17))))))), (q1, .inl (κ.2.1, 8, .inl (fun _ : Nat => iI 0))), (q2, .inr (0, [.ref q3, .ref q4, .ref q5, .ref q6, .int (iI 0)])), (q3, .inl (κ.2.1, 12, .inl (fun _ : Nat => iI 0))), (q4, .inl (κ.2.1, 12, .inl (fun _ : Nat => iI 0))), (q5, .inl (κ.2.1, 12, .inl (fun _ : Nat => iI 0))), (q6, .inl (κ.2.1, 12, .inl (fun _ : Nat => iI 0))), (q7, .inr (0, [.ref q8, .ref q9, .ref q10, .ref q11, .int (iI 0)])), (q8, .inl (κ.2.1, 12, .inl (fun _ : Nat => iI 0))), (q9, .inl (κ.2.1, 12, .inl (fun _ : Nat => iI 0))), (q10, .inl (κ.2.1, 12, .inl (fun _ : Nat => iI 0))), (q11, .inl (κ.2.1, 12, .inl (fun _ : Nat => iI 0))), (q12, .inr (0, [.ref q13, .ref q14, .ref q15, .ref q16, .int (iI 0)])), (q13, .inl (κ.2.1, 12, .inl (fun _ : Nat => iI 0))), (q14, .inl (κ.2.1, 12, .inl (fun _ : Nat => iI 0))), (q15, .inl (κ.2.1, 12, .inl (fun _ : Nat => iI 0))), (q16, .inl (κ.2.1, 12, .inl (fun _ : Nat => iI 0))), (q17, .inr (0, [.ref q18, .ref q19, .ref q20, .ref q21, .int (iI 0)])), (q18, .inl (κ.2.1, 12, .inl (fun _ : Nat => iI 0))), (q19, .inl (κ.2.1, 12, .inl (fun _ : Nat => iI 0))), (q20, .inl (κ.2.1, 12, .inl (fun _ : Nat => iI 0))), (q21, .inl (κ.2.1, 12, .inl (fun _ : Nat => iI 0)))]) F C (k_X0_init κ) cac_X0 nm_X1_21 (Nat.le_of_ble_eq_true rfl) (Nat.le_of_ble_eq_true rfl) (k2 := 27) (j2 := 281) rfl rfl (Nat.le_of_ble_eq_true rfl) (Nat.le_of_ble_eq_true rfl) dX1_init_38 (fun w hw => ?_)
  obtain ⟨q23, q24, q25, q26, rfl⟩ := hw
  have F := F.NN C (k2 := 27) (j2 := 281) (Nat.le_of_ble_eq_true rfl) (Nat.le_of_ble_eq_true rfl)
  refine g_ws (ws' := [(h0, .inr (1, [.ref q0, .ref q1, .int (iI 0), .int (iI 0)])), (q0, .inl (κ.2.2.1, 8, .inr (.inr (.inr (.inr (va_up (va_up (va_up (va_up (fun _ : Nat => none) 0 (some q2)) 1 (some q7)) 2 (some q12)) 3 (some q17))))))), (q1, .inl (κ.2.1, 8, .inl (fun _ : Nat => iI 0))), (q2, .inr (0, [.ref q3, .ref q4, .ref q5, .ref q6, .int (iI 0)])), (q3, .inl (κ.2.1, 12, .inl (fun _ : Nat => iI 0))), (q4, .inl (κ.2.1, 12, .inl (fun _ : Nat => iI 0))), (q5, .inl (κ.2.1, 12, .inl (fun _ : Nat => iI 0))), (q6, .inl (κ.2.1, 12, .inl (fun _ : Nat => iI 0))), (q7, .inr (0, [.ref q8, .ref q9, .ref q10, .ref q11, .int (iI 0)])), (q8, .inl (κ.2.1, 12, .inl (fun _ : Nat => iI 0))), (q9, .inl (κ.2.1, 12, .inl (fun _ : Nat => iI 0))), (q10, .inl (κ.2.1, 12, .inl (fun _ : Nat => iI 0))), (q11, .inl (κ.2.1, 12, .inl (fun _ : Nat => iI 0))), (q12, .inr (0, [.ref q13, .ref q14, .ref q15, .ref q16, .int (iI 0)])), (q13, .inl (κ.2.1, 12, .inl (fun _ : Nat => iI 0))), (q14, .inl (κ.2.1, 12, .inl (fun _ : Nat => iI 0))), (q15, .inl (κ.2.1, 12, .inl (fun _ : Nat => iI 0))), (q16, .inl (κ.2.1, 12, .inl (fun _ : Nat => iI 0))), (q17, .inr (0, [.ref q18, .ref q19, .ref q20, .ref q21, .int (iI 0)])), (q18, .inl (κ.2.1, 12, .inl (fun _ : Nat => iI 0))), (q19, .inl (κ.2.1, 12, .inl (fun _ : Nat => iI 0))), (q20, .inl (κ.2.1, 12, .inl (fun _ : Nat => iI 0))), (q21, .inl (κ.2.1, 12, .inl (fun _ : Nat => iI 0))), (q22, .inr (0, [.ref q23, .ref q24, .ref q25, .ref q26, .int (iI 0)])), (q23, .inl (κ.2.1, 12, .inl (fun _ : Nat => iI 0))), (q24, .inl (κ.2.1, 12, .inl (fun _ : Nat => iI 0))), (q25, .inl (κ.2.1, 12, .inl (fun _ : Nat => iI 0))), (q26, .inl (κ.2.1, 12, .inl (fun _ : Nat => iI 0)))]) rfl ?_
  refine g_astq F (ws' := [(h0, .inr (1, [.ref q0, .ref q1, .int (iI 0), .int (iI 0)])), (q0, .inl (κ.2.2.1, 8, .inr (.inr (.inr (.inr (va_up (va_up (va_up (va_up (va_up (fun _ : Nat => none) 0 (some q2)) 1 (some q7)) 2 (some q12)) 3 (some q17)) 4 (some q22))))))), (q1, .inl (κ.2.1, 8, .inl (fun _ : Nat => iI 0))), (q2, .inr (0, [.ref q3, .ref q4, .ref q5, .ref q6, .int (iI 0)])), (q3, .inl (κ.2.1, 12, .inl (fun _ : Nat => iI 0))), (q4, .inl (κ.2.1, 12, .inl (fun _ : Nat => iI 0))), (q5, .inl (κ.2.1, 12, .inl (fun _ : Nat => iI 0))), (q6, .inl (κ.2.1, 12, .inl (fun _ : Nat => iI 0))), (q7, .inr (0, [.ref q8, .ref q9, .ref q10, .ref q11, .int (iI 0)])), (q8, .inl (κ.2.1, 12, .inl (fun _ : Nat => iI 0))), (q9, .inl (κ.2.1, 12, .inl (fun _ : Nat => iI 0))), (q10, .inl (κ.2.1, 12, .inl (fun _ : Nat => iI 0))), (q11, .inl (κ.2.1, 12, .inl (fun _ : Nat => iI 0))), (q12, .inr (0, [.ref q13, .ref q14, .ref q15, .ref q16, .int (iI 0)])), (q13, .inl (κ.2.1, 12, .inl (fun _ : Nat => iI 0))), (q14, .inl (κ.2.1, 12, .inl (fun _ : Nat => iI 0))), (q15, .inl (κ.2.1, 12, .inl (fun _ : Nat => iI 0))), (q16, .inl (κ.2.1, 12, .inl (fun _ : Nat => iI 0))), (q17, .inr (0, [.ref q18, .ref q19, .ref q20, .ref q21, .int (iI 0)])), (q18, .inl (κ.2.1, 12, .inl (fun _ : Nat => iI 0))), (q19, .inl (κ.2.1, 12, .inl (fun _ : Nat => iI 0))), (q20, .inl (κ.2.1, 12, .inl (fun _ : Nat => iI 0))), (q21, .inl (κ.2.1, 12, .inl (fun _ : Nat => iI 0))), (q22, .inr (0, [.ref q23, .ref q24, .ref q25, .ref q26, .int (iI 0)])), (q23, .inl (κ.2.1, 12, .inl (fun _ : Nat => iI 0))), (q24, .inl (κ.2.1, 12, .inl (fun _ : Nat => iI 0))), (q25, .inl (κ.2.1, 12, .inl (fun _ : Nat => iI 0))), (q26, .inl (κ.2.1, 12, .inl (fun _ : Nat => iI 0)))]) (z := 4) 1 23 rfl rfl (by decide) rfl dX1_init_41 ?_
  refine g_iinc F (lv' := [(1, .int (iI 5)), (0, .ref h0)]) 0 dX1_init_42 rfl (by decide) rfl ?_
  refine g_goto F 23 dX1_init_45 (by decide) ?_
  refine g_iload_n F 0 dX1_init_23 rfl ?_
  refine g_bipush F dX1_init_24 (by decide +kernel) ?_
  refine g_icmp_ge F 48 (by decide) dX1_init_26 (by decide) (fun q => absurd q (by decide)) (fun _ => ?_)
  refine g_aload_n F 1 dX1_init_29 rfl ?_
  refine g_get F (C := RX1) (T := TX1) (N := 4) 0 rfl rfl i_X1 0 (Nat.le_of_ble_eq_true rfl) lf_X1_11 rfl dX1_init_30 ?_
  refine g_iload_n F 0 dX1_init_33 rfl ?_
  refine g_obj F C tyX0 tyX0_ok i_X0 lcl_X1_9 ins_X0 ini_X0 rfl df_X0 (k2 := 28) (j2 := 286) rfl rfl (Nat.le_of_ble_eq_true rfl) (Nat.le_of_ble_eq_true rfl) dX1_init_34 (fun q27 => ?_)
  have F := F.NN C (k2 := 28) (j2 := 286) (Nat.le_of_ble_eq_true rfl) (Nat.le_of_ble_eq_true rfl)
  refine g_dup F dX1_init_37 rfl ?_
  refine g_callCN (w1 := [(h0, .inr (1, [.ref q0, .ref q1, .int (iI 0), .int (iI 0)])), (q0, .inl (κ.2.2.1, 8, .inr (.inr (.inr (.inr (va_up (va_up (va_up (va_up (va_up (fun _ : Nat => none) 0 (some q2)) 1 (some q7)) 2 (some q12)) 3 (some q17)) 4 (some q22))))))), (q1, .inl (κ.2.1, 8, .inl (fun _ : Nat => iI 0))), (q2, .inr (0, [.ref q3, .ref q4, .ref q5, .ref q6, .int (iI 0)])), (q3, .inl (κ.2.1, 12, .inl (fun _ : Nat => iI 0))), (q4, .inl (κ.2.1, 12, .inl (fun _ : Nat => iI 0))), (q5, .inl (κ.2.1, 12, .inl (fun _ : Nat => iI 0))), (q6, .inl (κ.2.1, 12, .inl (fun _ : Nat => iI 0))), (q7, .inr (0, [.ref q8, .ref q9, .ref q10, .ref q11, .int (iI 0)])), (q8, .inl (κ.2.1, 12, .inl (fun _ : Nat => iI 0))), (q9, .inl (κ.2.1, 12, .inl (fun _ : Nat => iI 0))), (q10, .inl (κ.2.1, 12, .inl (fun _ : Nat => iI 0))), (q11, .inl (κ.2.1, 12, .inl (fun _ : Nat => iI 0))), (q12, .inr (0, [.ref q13, .ref q14, .ref q15, .ref q16, .int (iI 0)])), (q13, .inl (κ.2.1, 12, .inl (fun _ : Nat => iI 0))), (q14, .inl (κ.2.1, 12, .inl (fun _ : Nat => iI 0))), (q15, .inl (κ.2.1, 12, .inl (fun _ : Nat => iI 0))), (q16, .inl (κ.2.1, 12, .inl (fun _ : Nat => iI 0))), (q17, .inr (0, [.ref q18, .ref q19, .ref q20, .ref q21, .int (iI 0)])), (q18, .inl (κ.2.1, 12, .inl (fun _ : Nat => iI 0))), (q19, .inl (κ.2.1, 12, .inl (fun _ : Nat => iI 0))), (q20, .inl (κ.2.1, 12, .inl (fun _ : Nat => iI 0))), (q21, .inl (κ.2.1, 12, .inl (fun _ : Nat => iI 0))), (q22, .inr (0, [.ref q23, .ref q24, .ref q25, .ref q26, .int (iI 0)])), (q23, .inl (κ.2.1, 12, .inl (fun _ : Nat => iI 0))), (q24, .inl (κ.2.1, 12, .inl (fun _ : Nat => iI 0))), (q25, .inl (κ.2.1, 12, .inl (fun _ : Nat => iI 0))), (q26, .inl (κ.2.1, 12, .inl (fun _ : Nat => iI 0)))]) F C (k_X0_init κ) cac_X0 nm_X1_21 (Nat.le_of_ble_eq_true rfl) (Nat.le_of_ble_eq_true rfl) (k2 := 32) (j2 := 334) rfl rfl (Nat.le_of_ble_eq_true rfl) (Nat.le_of_ble_eq_true rfl) dX1_init_38 (fun w hw => ?_)
  obtain ⟨q28, q29, q30, q31, rfl⟩ := hw
  have F := F.NN C (k2 := 32) (j2 := 334) (Nat.le_of_ble_eq_true rfl) (Nat.le_of_ble_eq_true rfl)
  refine g_ws (ws' := [(h0, .inr (1, [.ref q0, .ref q1, .int (iI 0), .int (iI 0)])), (q0, .inl (κ.2.2.1, 8, .inr (.inr (.inr (.inr (va_up (va_up (va_up (va_up (va_up (fun _ : Nat => none) 0 (some q2)) 1 (some q7)) 2 (some q12)) 3 (some q17)) 4 (some q22))))))), (q1, .inl (κ.2.1, 8, .inl (fun _ : Nat => iI 0))), (q2, .inr (0, [.ref q3, .ref q4, .ref q5, .ref q6, .int (iI 0)])), (q3, .inl (κ.2.1, 12, .inl (fun _ : Nat => iI 0))), (q4, .inl (κ.2.1, 12, .inl (fun _ : Nat => iI 0))), (q5, .inl (κ.2.1, 12, .inl (fun _ : Nat => iI 0))), (q6, .inl (κ.2.1, 12, .inl (fun _ : Nat => iI 0))), (q7, .inr (0, [.ref q8, .ref q9, .ref q10, .ref q11, .int (iI 0)])), (q8, .inl (κ.2.1, 12, .inl (fun _ : Nat => iI 0))), (q9, .inl (κ.2.1, 12, .inl (fun _ : Nat => iI 0))), (q10, .inl (κ.2.1, 12, .inl (fun _ : Nat => iI 0))), (q11, .inl (κ.2.1, 12, .inl (fun _ : Nat => iI 0))), (q12, .inr (0, [.ref q13, .ref q14, .ref q15, .ref q16, .int (iI 0)])), (q13, .inl (κ.2.1, 12, .inl (fun _ : Nat => iI 0))), (q14, .inl (κ.2.1, 12, .inl (fun _ : Nat => iI 0))), (q15, .inl (κ.2.1, 12, .inl (fun _ : Nat => iI 0))), (q16, .inl (κ.2.1, 12, .inl (fun _ : Nat => iI 0))), (q17, .inr (0, [.ref q18, .ref q19, .ref q20, .ref q21, .int (iI 0)])), (q18, .inl (κ.2.1, 12, .inl (fun _ : Nat => iI 0))), (q19, .inl (κ.2.1, 12, .inl (fun _ : Nat => iI 0))), (q20, .inl (κ.2.1, 12, .inl (fun _ : Nat => iI 0))), (q21, .inl (κ.2.1, 12, .inl (fun _ : Nat => iI 0))), (q22, .inr (0, [.ref q23, .ref q24, .ref q25, .ref q26, .int (iI 0)])), (q23, .inl (κ.2.1, 12, .inl (fun _ : Nat => iI 0))), (q24, .inl (κ.2.1, 12, .inl (fun _ : Nat => iI 0))), (q25, .inl (κ.2.1, 12, .inl (fun _ : Nat => iI 0))), (q26, .inl (κ.2.1, 12, .inl (fun _ : Nat => iI 0))), (q27, .inr (0, [.ref q28, .ref q29, .ref q30, .ref q31, .int (iI 0)])), (q28, .inl (κ.2.1, 12, .inl (fun _ : Nat => iI 0))), (q29, .inl (κ.2.1, 12, .inl (fun _ : Nat => iI 0))), (q30, .inl (κ.2.1, 12, .inl (fun _ : Nat => iI 0))), (q31, .inl (κ.2.1, 12, .inl (fun _ : Nat => iI 0)))]) rfl ?_
  refine g_astq F (ws' := [(h0, .inr (1, [.ref q0, .ref q1, .int (iI 0), .int (iI 0)])), (q0, .inl (κ.2.2.1, 8, .inr (.inr (.inr (.inr (va_up (va_up (va_up (va_up (va_up (va_up (fun _ : Nat => none) 0 (some q2)) 1 (some q7)) 2 (some q12)) 3 (some q17)) 4 (some q22)) 5 (some q27))))))), (q1, .inl (κ.2.1, 8, .inl (fun _ : Nat => iI 0))), (q2, .inr (0, [.ref q3, .ref q4, .ref q5, .ref q6, .int (iI 0)])), (q3, .inl (κ.2.1, 12, .inl (fun _ : Nat => iI 0))), (q4, .inl (κ.2.1, 12, .inl (fun _ : Nat => iI 0))), (q5, .inl (κ.2.1, 12, .inl (fun _ : Nat => iI 0))), (q6, .inl (κ.2.1, 12, .inl (fun _ : Nat => iI 0))), (q7, .inr (0, [.ref q8, .ref q9, .ref q10, .ref q11, .int (iI 0)])), (q8, .inl (κ.2.1, 12, .inl (fun _ : Nat => iI 0))), (q9, .inl (κ.2.1, 12, .inl (fun _ : Nat => iI 0))), (q10, .inl (κ.2.1, 12, .inl (fun _ : Nat => iI 0))), (q11, .inl (κ.2.1, 12, .inl (fun _ : Nat => iI 0))), (q12, .inr (0, [.ref q13, .ref q14, .ref q15, .ref q16, .int (iI 0)])), (q13, .inl (κ.2.1, 12, .inl (fun _ : Nat => iI 0))), (q14, .inl (κ.2.1, 12, .inl (fun _ : Nat => iI 0))), (q15, .inl (κ.2.1, 12, .inl (fun _ : Nat => iI 0))), (q16, .inl (κ.2.1, 12, .inl (fun _ : Nat => iI 0))), (q17, .inr (0, [.ref q18, .ref q19, .ref q20, .ref q21, .int (iI 0)])), (q18, .inl (κ.2.1, 12, .inl (fun _ : Nat => iI 0))), (q19, .inl (κ.2.1, 12, .inl (fun _ : Nat => iI 0))), (q20, .inl (κ.2.1, 12, .inl (fun _ : Nat => iI 0))), (q21, .inl (κ.2.1, 12, .inl (fun _ : Nat => iI 0))), (q22, .inr (0, [.ref q23, .ref q24, .ref q25, .ref q26, .int (iI 0)])), (q23, .inl (κ.2.1, 12, .inl (fun _ : Nat => iI 0))), (q24, .inl (κ.2.1, 12, .inl (fun _ : Nat => iI 0))), (q25, .inl (κ.2.1, 12, .inl (fun _ : Nat => iI 0))), (q26, .inl (κ.2.1, 12, .inl (fun _ : Nat => iI 0))), (q27, .inr (0, [.ref q28, .ref q29, .ref q30, .ref q31, .int (iI 0)])), (q28, .inl (κ.2.1, 12, .inl (fun _ : Nat => iI 0))), (q29, .inl (κ.2.1, 12, .inl (fun _ : Nat => iI 0))), (q30, .inl (κ.2.1, 12, .inl (fun _ : Nat => iI 0))), (q31, .inl (κ.2.1, 12, .inl (fun _ : Nat => iI 0)))]) (z := 5) 1 28 rfl rfl (by decide) rfl dX1_init_41 ?_
  refine g_iinc F (lv' := [(1, .int (iI 6)), (0, .ref h0)]) 0 dX1_init_42 rfl (by decide) rfl ?_
  refine g_goto F 23 dX1_init_45 (by decide) ?_
  refine g_iload_n F 0 dX1_init_23 rfl ?_
  refine g_bipush F dX1_init_24 (by decide +kernel) ?_
  refine g_icmp_ge F 48 (by decide) dX1_init_26 (by decide) (fun q => absurd q (by decide)) (fun _ => ?_)
  refine g_aload_n F 1 dX1_init_29 rfl ?_
  refine g_get F (C := RX1) (T := TX1) (N := 4) 0 rfl rfl i_X1 0 (Nat.le_of_ble_eq_true rfl) lf_X1_11 rfl dX1_init_30 ?_
  refine g_iload_n F 0 dX1_init_33 rfl ?_
  refine g_obj F C tyX0 tyX0_ok i_X0 lcl_X1_9 ins_X0 ini_X0 rfl df_X0 (k2 := 33) (j2 := 339) rfl rfl (Nat.le_of_ble_eq_true rfl) (Nat.le_of_ble_eq_true rfl) dX1_init_34 (fun q32 => ?_)
  have F := F.NN C (k2 := 33) (j2 := 339) (Nat.le_of_ble_eq_true rfl) (Nat.le_of_ble_eq_true rfl)
  refine g_dup F dX1_init_37 rfl ?_
  refine g_callCN (w1 := [(h0, .inr (1, [.ref q0, .ref q1, .int (iI 0), .int (iI 0)])), (q0, .inl (κ.2.2.1, 8, .inr (.inr (.inr (.inr (va_up (va_up (va_up (va_up (va_up (va_up (fun _ : Nat => none) 0 (some q2)) 1 (some q7)) 2 (some q12)) 3 (some q17)) 4 (some q22)) 5 (some q27))))))), (q1, .inl (κ.2.1, 8, .inl (fun _ : Nat => iI 0))), (q2, .inr (0, [.ref q3, .ref q4, .ref q5, .ref q6, .int (iI 0)])), (q3, .inl (κ.2.1, 12, .inl (fun _ : Nat => iI 0))), (q4, .inl (κ.2.1, 12, .inl (fun _ : Nat => iI 0))), (q5, .inl (κ.2.1, 12, .inl (fun _ : Nat => iI 0))), (q6, .inl (κ.2.1, 12, .inl (fun _ : Nat => iI 0))), (q7, .inr (0, [.ref q8, .ref q9, .ref q10, .ref q11, .int (iI 0)])), (q8, .inl (κ.2.1, 12, .inl (fun _ : Nat => iI 0))), (q9, .inl (κ.2.1, 12, .inl (fun _ : Nat => iI 0))), (q10, .inl (κ.2.1, 12, .inl (fun _ : Nat => iI 0))), (q11, .inl (κ.2.1, 12, .inl (fun _ : Nat => iI 0))), (q12, .inr (0, [.ref q13, .ref q14, .ref q15, .ref q16, .int (iI 0)])), (q13, .inl (κ.2.1, 12, .inl (fun _ : Nat => iI 0))), (q14, .inl (κ.2.1, 12, .inl (fun _ : Nat => iI 0))), (q15, .inl (κ.2.1, 12, .inl (fun _ : Nat => iI 0))), (q16, .inl (κ.2.1, 12, .inl (fun _ : Nat => iI 0))), (q17, .inr (0, [.ref q18, .ref q19, .ref q20, .ref q21, .int (iI 0)])), (q18, .inl (κ.2.1, 12, .inl (fun _ : Nat => iI 0))), (q19, .inl (κ.2.1, 12, .inl (fun _ : Nat => iI 0))), (q20, .inl (κ.2.1, 12, .inl (fun _ : Nat => iI 0))), (q21, .inl (κ.2.1, 12, .inl (fun _ : Nat => iI 0))), (q22, .inr (0, [.ref q23, .ref q24, .ref q25, .ref q26, .int (iI 0)])), (q23, .inl (κ.2.1, 12, .inl (fun _ : Nat => iI 0))), (q24, .inl (κ.2.1, 12, .inl (fun _ : Nat => iI 0))), (q25, .inl (κ.2.1, 12, .inl (fun _ : Nat => iI 0))), (q26, .inl (κ.2.1, 12, .inl (fun _ : Nat => iI 0))), (q27, .inr (0, [.ref q28, .ref q29, .ref q30, .ref q31, .int (iI 0)])), (q28, .inl (κ.2.1, 12, .inl (fun _ : Nat => iI 0))), (q29, .inl (κ.2.1, 12, .inl (fun _ : Nat => iI 0))), (q30, .inl (κ.2.1, 12, .inl (fun _ : Nat => iI 0))), (q31, .inl (κ.2.1, 12, .inl (fun _ : Nat => iI 0)))]) F C (k_X0_init κ) cac_X0 nm_X1_21 (Nat.le_of_ble_eq_true rfl) (Nat.le_of_ble_eq_true rfl) (k2 := 37) (j2 := 387) rfl rfl (Nat.le_of_ble_eq_true rfl) (Nat.le_of_ble_eq_true rfl) dX1_init_38 (fun w hw => ?_)
  obtain ⟨q33, q34, q35, q36, rfl⟩ := hw
  have F := F.NN C (k2 := 37) (j2 := 387) (Nat.le_of_ble_eq_true rfl) (Nat.le_of_ble_eq_true rfl)
  refine g_ws (ws' := [(h0, .inr (1, [.ref q0, .ref q1, .int (iI 0), .int (iI 0)])), (q0, .inl (κ.2.2.1, 8, .inr (.inr (.inr (.inr (va_up (va_up (va_up (va_up (va_up (va_up (fun _ : Nat => none) 0 (some q2)) 1 (some q7)) 2 (some q12)) 3 (some q17)) 4 (some q22)) 5 (some q27))))))), (q1, .inl (κ.2.1, 8, .inl (fun _ : Nat => iI 0))), (q2, .inr (0, [.ref q3, .ref q4, .ref q5, .ref q6, .int (iI 0)])), (q3, .inl (κ.2.1, 12, .inl (fun _ : Nat => iI 0))), (q4, .inl (κ.2.1, 12, .inl (fun _ : Nat => iI 0))), (q5, .inl (κ.2.1, 12, .inl (fun _ : Nat => iI 0))), (q6, .inl (κ.2.1, 12, .inl (fun _ : Nat => iI 0))), (q7, .inr (0, [.ref q8, .ref q9, .ref q10, .ref q11, .int (iI 0)])), (q8, .inl (κ.2.1, 12, .inl (fun _ : Nat => iI 0))), (q9, .inl (κ.2.1, 12, .inl (fun _ : Nat => iI 0))), (q10, .inl (κ.2.1, 12, .inl (fun _ : Nat => iI 0))), (q11, .inl (κ.2.1, 12, .inl (fun _ : Nat => iI 0))), (q12, .inr (0, [.ref q13, .ref q14, .ref q15, .ref q16, .int (iI 0)])), (q13, .inl (κ.2.1, 12, .inl (fun _ : Nat => iI 0))), (q14, .inl (κ.2.1, 12, .inl (fun _ : Nat => iI 0))), (q15, .inl (κ.2.1, 12, .inl (fun _ : Nat => iI 0))), (q16, .inl (κ.2.1, 12, .inl (fun _ : Nat => iI 0))), (q17, .inr (0, [.ref q18, .ref q19, .ref q20, .ref q21, .int (iI 0)])), (q18, .inl (κ.2.1, 12, .inl (fun _ : Nat => iI 0))), (q19, .inl (κ.2.1, 12, .inl (fun _ : Nat => iI 0))), (q20, .inl (κ.2.1, 12, .inl (fun _ : Nat => iI 0))), (q21, .inl (κ.2.1, 12, .inl (fun _ : Nat => iI 0))), (q22, .inr (0, [.ref q23, .ref q24, .ref q25, .ref q26, .int (iI 0)])), (q23, .inl (κ.2.1, 12, .inl (fun _ : Nat => iI 0))), (q24, .inl (κ.2.1, 12, .inl (fun _ : Nat => iI 0))), (q25, .inl (κ.2.1, 12, .inl (fun _ : Nat => iI 0))), (q26, .inl (κ.2.1, 12, .inl (fun _ : Nat => iI 0))), (q27, .inr (0, [.ref q28, .ref q29, .ref q30, .ref q31, .int (iI 0)])), (q28, .inl (κ.2.1, 12, .inl (fun _ : Nat => iI 0))), (q29, .inl (κ.2.1, 12, .inl (fun _ : Nat => iI 0))), (q30, .inl (κ.2.1, 12, .inl (fun _ : Nat => iI 0))), (q31, .inl (κ.2.1, 12, .inl (fun _ : Nat => iI 0))), (q32, .inr (0, [.ref q33, .ref q34, .ref q35, .ref q36, .int (iI 0)])), (q33, .inl (κ.2.1, 12, .inl (fun _ : Nat => iI 0))), (q34, .inl (κ.2.1, 12, .inl (fun _ : Nat => iI 0))), (q35, .inl (κ.2.1, 12, .inl (fun _ : Nat => iI 0))), (q36, .inl (κ.2.1, 12, .inl (fun _ : Nat => iI 0)))]) rfl ?_
  refine g_astq F (ws' := [(h0, .inr (1, [.ref q0, .ref q1, .int (iI 0), .int (iI 0)])), (q0, .inl (κ.2.2.1, 8, .inr (.inr (.inr (.inr (va_up (va_up (va_up (va_up (va_up (va_up (va_up (fun _ : Nat => none) 0 (some q2)) 1 (some q7)) 2 (some q12)) 3 (some q17)) 4 (some q22)) 5 (some q27)) 6 (some q32))))))), (q1, .inl (κ.2.1, 8, .inl (fun _ : Nat => iI 0))), (q2, .inr (0, [.ref q3, .ref q4, .ref q5, .ref q6, .int (iI 0)])), (q3, .inl (κ.2.1, 12, .inl (fun _ : Nat => iI 0))), (q4, .inl (κ.2.1, 12, .inl (fun _ : Nat => iI 0))), (q5, .inl (κ.2.1, 12, .inl (fun _ : Nat => iI 0))), (q6, .inl (κ.2.1, 12, .inl (fun _ : Nat => iI 0))), (q7, .inr (0, [.ref q8, .ref q9, .ref q10, .ref q11, .int (iI 0)])), (q8, .inl (κ.2.1, 12, .inl (fun _ : Nat => iI 0))), (q9, .inl (κ.2.1, 12, .inl (fun _ : Nat => iI 0))), (q10, .inl (κ.2.1, 12, .inl (fun _ : Nat => iI 0))), (q11, .inl (κ.2.1, 12, .inl (fun _ : Nat => iI 0))), (q12, .inr (0, [.ref q13, .ref q14, .ref q15, .ref q16, .int (iI 0)])), (q13, .inl (κ.2.1, 12, .inl (fun _ : Nat => iI 0))), (q14, .inl (κ.2.1, 12, .inl (fun _ : Nat => iI 0))), (q15, .inl (κ.2.1, 12, .inl (fun _ : Nat => iI 0))), (q16, .inl (κ.2.1, 12, .inl (fun _ : Nat => iI 0))), (q17, .inr (0, [.ref q18, .ref q19, .ref q20, .ref q21, .int (iI 0)])), (q18, .inl (κ.2.1, 12, .inl (fun _ : Nat => iI 0))), (q19, .inl (κ.2.1, 12, .inl (fun _ : Nat => iI 0))), (q20, .inl (κ.2.1, 12, .inl (fun _ : Nat => iI 0))), (q21, .inl (κ.2.1, 12, .inl (fun _ : Nat => iI 0))), (q22, .inr (0, [.ref q23, .ref q24, .ref q25, .ref q26, .int (iI 0)])), (q23, .inl (κ.2.1, 12, .inl (fun _ : Nat => iI 0))), (q24, .inl (κ.2.1, 12, .inl (fun _ : Nat => iI 0))), (q25, .inl (κ.2.1, 12, .inl (fun _ : Nat => iI 0))), (q26, .inl (κ.2.1, 12, .inl (fun _ : Nat => iI 0))), (q27, .inr (0, [.ref q28, .ref q29, .ref q30, .ref q31, .int (iI 0)])), (q28, .inl (κ.2.1, 12, .inl (fun _ : Nat => iI 0))), (q29, .inl (κ.2.1, 12, .inl (fun _ : Nat => iI 0))), (q30, .inl (κ.2.1, 12, .inl (fun _ : Nat => iI 0))), (q31, .inl (κ.2.1, 12, .inl (fun _ : Nat => iI 0))), (q32, .inr (0, [.ref q33, .ref q34, .ref q35, .ref q36, .int (iI 0)])), (q33, .inl (κ.2.1, 12, .inl (fun _ : Nat => iI 0))), (q34, .inl (κ.2.1, 12, .inl (fun _ : Nat => iI 0))), (q35, .inl (κ.2.1, 12, .inl (fun _ : Nat => iI 0))), (q36, .inl (κ.2.1, 12, .inl (fun _ : Nat => iI 0)))]) (z := 6) 1 33 rfl rfl (by decide) rfl dX1_init_41 ?_
  refine g_iinc F (lv' := [(1, .int (iI 7)), (0, .ref h0)]) 0 dX1_init_42 rfl (by decide) rfl ?_
  refine g_goto F 23 dX1_init_45 (by decide) ?_
  refine g_iload_n F 0 dX1_init_23 rfl ?_
  refine g_bipush F dX1_init_24 (by decide +kernel) ?_
  refine g_icmp_ge F 48 (by decide) dX1_init_26 (by decide) (fun q => absurd q (by decide)) (fun _ => ?_)
  refine g_aload_n F 1 dX1_init_29 rfl ?_
  refine g_get F (C := RX1) (T := TX1) (N := 4) 0 rfl rfl i_X1 0 (Nat.le_of_ble_eq_true rfl) lf_X1_11 rfl dX1_init_30 ?_
  refine g_iload_n F 0 dX1_init_33 rfl ?_
  refine g_obj F C tyX0 tyX0_ok i_X0 lcl_X1_9 ins_X0 ini_X0 rfl df_X0 (k2 := 38) (j2 := 392) rfl rfl (Nat.le_of_ble_eq_true rfl) (Nat.le_of_ble_eq_true rfl) dX1_init_34 (fun q37 => ?_)
  have F := F.NN C (k2 := 38) (j2 := 392) (Nat.le_of_ble_eq_true rfl) (Nat.le_of_ble_eq_true rfl)
  refine g_dup F dX1_init_37 rfl ?_
  refine g_callCN (w1 := [(h0, .inr (1, [.ref q0, .ref q1, .int (iI 0), .int (iI 0)])), (q0, .inl (κ.2.2.1, 8, .inr (.inr (.inr (.inr (va_up (va_up (va_up (va_up (va_up (va_up (va_up (fun _ : Nat => none) 0 (some q2)) 1 (some q7)) 2 (some q12)) 3 (some q17)) 4 (some q22)) 5 (some q27)) 6 (some q32))))))), (q1, .inl (κ.2.1, 8, .inl (fun _ : Nat => iI 0))), (q2, .inr (0, [.ref q3, .ref q4, .ref q5, .ref q6, .int (iI 0)])), (q3, .inl (κ.2.1, 12, .inl (fun _ : Nat => iI 0))), (q4, .inl (κ.2.1, 12, .inl (fun _ : Nat => iI 0))), (q5, .inl (κ.2.1, 12, .inl (fun _ : Nat => iI 0))), (q6, .inl (κ.2.1, 12, .inl (fun _ : Nat => iI 0))), (q7, .inr (0, [.ref q8, .ref q9, .ref q10, .ref q11, .int (iI 0)])), (q8, .inl (κ.2.1, 12, .inl (fun _ : Nat => iI 0))), (q9, .inl (κ.2.1, 12, .inl (fun _ : Nat => iI 0))), (q10, .inl (κ.2.1, 12, .inl (fun _ : Nat => iI 0))), (q11, .inl (κ.2.1, 12, .inl (fun _ : Nat => iI 0))), (q12, .inr (0, [.ref q13, .ref q14, .ref q15, .ref q16, .int (iI 0)])), (q13, .inl (κ.2.1, 12, .inl (fun _ : Nat => iI 0))), (q14, .inl (κ.2.1, 12, .inl (fun _ : Nat => iI 0))), (q15, .inl (κ.2.1, 12, .inl (fun _ : Nat => iI 0))), (q16, .inl (κ.2.1, 12, .inl (fun _ : Nat => iI 0))), (q17, .inr (0, [.ref q18, .ref q19, .ref q20, .ref q21, .int (iI 0)])), (q18, .inl (κ.2.1, 12, .inl (fun _ : Nat => iI 0))), (q19, .inl (κ.2.1, 12, .inl (fun _ : Nat => iI 0))), (q20, .inl (κ.2.1, 12, .inl (fun _ : Nat => iI 0))), (q21, .inl (κ.2.1, 12, .inl (fun _ : Nat => iI 0))), (q22, .inr (0, [.ref q23, .ref q24, .ref q25, .ref q26, .int (iI 0)])), (q23, .inl (κ.2.1, 12, .inl (fun _ : Nat => iI 0))), (q24, .inl (κ.2.1, 12, .inl (fun _ : Nat => iI 0))), (q25, .inl (κ.2.1, 12, .inl (fun _ : Nat => iI 0))), (q26, .inl (κ.2.1, 12, .inl (fun _ : Nat => iI 0))), (q27, .inr (0, [.ref q28, .ref q29, .ref q30, .ref q31, .int (iI 0)])), (q28, .inl (κ.2.1, 12, .inl (fun _ : Nat => iI 0))), (q29, .inl (κ.2.1, 12, .inl (fun _ : Nat => iI 0))), (q30, .inl (κ.2.1, 12, .inl (fun _ : Nat => iI 0))), (q31, .inl (κ.2.1, 12, .inl (fun _ : Nat => iI 0))), (q32, .inr (0, [.ref q33, .ref q34, .ref q35, .ref q36, .int (iI 0)])), (q33, .inl (κ.2.1, 12, .inl (fun _ : Nat => iI 0))), (q34, .inl (κ.2.1, 12, .inl (fun _ : Nat => iI 0))), (q35, .inl (κ.2.1, 12, .inl (fun _ : Nat => iI 0))), (q36, .inl (κ.2.1, 12, .inl (fun _ : Nat => iI 0)))]) F C (k_X0_init κ) cac_X0 nm_X1_21 (Nat.le_of_ble_eq_true rfl) (Nat.le_of_ble_eq_true rfl) (k2 := 42) (j2 := 440) rfl rfl (Nat.le_of_ble_eq_true rfl) (Nat.le_of_ble_eq_true rfl) dX1_init_38 (fun w hw => ?_)
  obtain ⟨q38, q39, q40, q41, rfl⟩ := hw
  have F := F.NN C (k2 := 42) (j2 := 440) (Nat.le_of_ble_eq_true rfl) (Nat.le_of_ble_eq_true rfl)
  refine g_ws (ws' := [(h0, .inr (1, [.ref q0, .ref q1, .int (iI 0), .int (iI 0)])), (q0, .inl (κ.2.2.1, 8, .inr (.inr (.inr (.inr (va_up (va_up (va_up (va_up (va_up (va_up (va_up (fun _ : Nat => none) 0 (some q2)) 1 (some q7)) 2 (some q12)) 3 (some q17)) 4 (some q22)) 5 (some q27)) 6 (some q32))))))), (q1, .inl (κ.2.1, 8, .inl (fun _ : Nat => iI 0))), (q2, .inr (0, [.ref q3, .ref q4, .ref q5, .ref q6, .int (iI 0)])), (q3, .inl (κ.2.1, 12, .inl (fun _ : Nat => iI 0))), (q4, .inl (κ.2.1, 12, .inl (fun _ : Nat => iI 0))), (q5, .inl (κ.2.1, 12, .inl (fun _ : Nat => iI 0))), (q6, .inl (κ.2.1, 12, .inl (fun _ : Nat => iI 0))), (q7, .inr (0, [.ref q8, .ref q9, .ref q10, .ref q11, .int (iI 0)])), (q8, .inl (κ.2.1, 12, .inl (fun _ : Nat => iI 0))), (q9, .inl (κ.2.1, 12, .inl (fun _ : Nat => iI 0))), (q10, .inl (κ.2.1, 12, .inl (fun _ : Nat => iI 0))), (q11, .inl (κ.2.1, 12, .inl (fun _ : Nat => iI 0))), (q12, .inr (0, [.ref q13, .ref q14, .ref q15, .ref q16, .int (iI 0)])), (q13, .inl (κ.2.1, 12, .inl (fun _ : Nat => iI 0))), (q14, .inl (κ.2.1, 12, .inl (fun _ : Nat => iI 0))), (q15, .inl (κ.2.1, 12, .inl (fun _ : Nat => iI 0))), (q16, .inl (κ.2.1, 12, .inl (fun _ : Nat => iI 0))), (q17, .inr (0, [.ref q18, .ref q19, .ref q20, .ref q21, .int (iI 0)])), (q18, .inl (κ.2.1, 12, .inl (fun _ : Nat => iI 0))), (q19, .inl (κ.2.1, 12, .inl (fun _ : Nat => iI 0))), (q20, .inl (κ.2.1, 12, .inl (fun _ : Nat => iI 0))), (q21, .inl (κ.2.1, 12, .inl (fun _ : Nat => iI 0))), (q22, .inr (0, [.ref q23, .ref q24, .ref q25, .ref q26, .int (iI 0)])), (q23, .inl (κ.2.1, 12, .inl (fun _ : Nat => iI 0))), (q24, .inl (κ.2.1, 12, .inl (fun _ : Nat => iI 0))), (q25, .inl (κ.2.1, 12, .inl (fun _ : Nat => iI 0))), (q26, .inl (κ.2.1, 12, .inl (fun _ : Nat => iI 0))), (q27, .inr (0, [.ref q28, .ref q29, .ref q30, .ref q31, .int (iI 0)])), (q28, .inl (κ.2.1, 12, .inl (fun _ : Nat => iI 0))), (q29, .inl (κ.2.1, 12, .inl (fun _ : Nat => iI 0))), (q30, .inl (κ.2.1, 12, .inl (fun _ : Nat => iI 0))), (q31, .inl (κ.2.1, 12, .inl (fun _ : Nat => iI 0))), (q32, .inr (0, [.ref q33, .ref q34, .ref q35, .ref q36, .int (iI 0)])), (q33, .inl (κ.2.1, 12, .inl (fun _ : Nat => iI 0))), (q34, .inl (κ.2.1, 12, .inl (fun _ : Nat => iI 0))), (q35, .inl (κ.2.1, 12, .inl (fun _ : Nat => iI 0))), (q36, .inl (κ.2.1, 12, .inl (fun _ : Nat => iI 0))), (q37, .inr (0, [.ref q38, .ref q39, .ref q40, .ref q41, .int (iI 0)])), (q38, .inl (κ.2.1, 12, .inl (fun _ : Nat => iI 0))), (q39, .inl (κ.2.1, 12, .inl (fun _ : Nat => iI 0))), (q40, .inl (κ.2.1, 12, .inl (fun _ : Nat => iI 0))), (q41, .inl (κ.2.1, 12, .inl (fun _ : Nat => iI 0)))]) rfl ?_
  refine g_astq F (ws' := [(h0, .inr (1, [.ref q0, .ref q1, .int (iI 0), .int (iI 0)])), (q0, .inl (κ.2.2.1, 8, .inr (.inr (.inr (.inr (va_up (va_up (va_up (va_up (va_up (va_up (va_up (va_up (fun _ : Nat => none) 0 (some q2)) 1 (some q7)) 2 (some q12)) 3 (some q17)) 4 (some q22)) 5 (some q27)) 6 (some q32)) 7 (some q37))))))), (q1, .inl (κ.2.1, 8, .inl (fun _ : Nat => iI 0))), (q2, .inr (0, [.ref q3, .ref q4, .ref q5, .ref q6, .int (iI 0)])), (q3, .inl (κ.2.1, 12, .inl (fun _ : Nat => iI 0))), (q4, .inl (κ.2.1, 12, .inl (fun _ : Nat => iI 0))), (q5, .inl (κ.2.1, 12, .inl (fun _ : Nat => iI 0))), (q6, .inl (κ.2.1, 12, .inl (fun _ : Nat => iI 0))), (q7, .inr (0, [.ref q8, .ref q9, .ref q10, .ref q11, .int (iI 0)])), (q8, .inl (κ.2.1, 12, .inl (fun _ : Nat => iI 0))), (q9, .inl (κ.2.1, 12, .inl (fun _ : Nat => iI 0))), (q10, .inl (κ.2.1, 12, .inl (fun _ : Nat => iI 0))), (q11, .inl (κ.2.1, 12, .inl (fun _ : Nat => iI 0))), (q12, .inr (0, [.ref q13, .ref q14, .ref q15, .ref q16, .int (iI 0)])), (q13, .inl (κ.2.1, 12, .inl (fun _ : Nat => iI 0))), (q14, .inl (κ.2.1, 12, .inl (fun _ : Nat => iI 0))), (q15, .inl (κ.2.1, 12, .inl (fun _ : Nat => iI 0))), (q16, .inl (κ.2.1, 12, .inl (fun _ : Nat => iI 0))), (q17, .inr (0, [.ref q18, .ref q19, .ref q20, .ref q21, .int (iI 0)])), (q18, .inl (κ.2.1, 12, .inl (fun _ : Nat => iI 0))), (q19, .inl (κ.2.1, 12, .inl (fun _ : Nat => iI 0))), (q20, .inl (κ.2.1, 12, .inl (fun _ : Nat => iI 0))), (q21, .inl (κ.2.1, 12, .inl (fun _ : Nat => iI 0))), (q22, .inr (0, [.ref q23, .ref q24, .ref q25, .ref q26, .int (iI 0)])), (q23, .inl (κ.2.1, 12, .inl (fun _ : Nat => iI 0))), (q24, .inl (κ.2.1, 12, .inl (fun _ : Nat => iI 0))), (q25, .inl (κ.2.1, 12, .inl (fun _ : Nat => iI 0))), (q26, .inl (κ.2.1, 12, .inl (fun _ : Nat => iI 0))), (q27, .inr (0, [.ref q28, .ref q29, .ref q30, .ref q31, .int (iI 0)])), (q28, .inl (κ.2.1, 12, .inl (fun _ : Nat => iI 0))), (q29, .inl (κ.2.1, 12, .inl (fun _ : Nat => iI 0))), (q30, .inl (κ.2.1, 12, .inl (fun _ : Nat => iI 0))), (q31, .inl (κ.2.1, 12, .inl (fun _ : Nat => iI 0))), (q32, .inr (0, [.ref q33, .ref q34, .ref q35, .ref q36, .int (iI 0)])), (q33, .inl (κ.2.1, 12, .inl (fun _ : Nat => iI 0))), (q34, .inl (κ.2.1, 12, .inl (fun _ : Nat => iI 0))), (q35, .inl (κ.2.1, 12, .inl (fun _ : Nat => iI 0))), (q36, .inl (κ.2.1, 12, .inl (fun _ : Nat => iI 0))), (q37, .inr (0, [.ref q38, .ref q39, .ref q40, .ref q41, .int (iI 0)])), (q38, .inl (κ.2.1, 12, .inl (fun _ : Nat => iI 0))), (q39, .inl (κ.2.1, 12, .inl (fun _ : Nat => iI 0))), (q40, .inl (κ.2.1, 12, .inl (fun _ : Nat => iI 0))), (q41, .inl (κ.2.1, 12, .inl (fun _ : Nat => iI 0)))]) (z := 7) 1 38 rfl rfl (by decide) rfl dX1_init_41 ?_
  refine g_iinc F (lv' := [(1, .int (iI 8)), (0, .ref h0)]) 0 dX1_init_42 rfl (by decide) rfl ?_
  refine g_goto F 23 dX1_init_45 (by decide) ?_
  refine g_iload_n F 0 dX1_init_23 rfl ?_
  refine g_bipush F dX1_init_24 (by decide +kernel) ?_
  refine g_icmp_ge F 48 (by decide) dX1_init_26 (by decide) (fun _ => ?_) (fun q => absurd q (by decide))
  refine g_arrF (ws' := [(h0, .inr (1, [.ref q0, .ref q1, .int (iI 0), .int (iI 0)])), (q0, .inl (κ.2.2.1, 8, .inr (.inr (.inr (.inr (fun j : Nat => [q2, q7, q12, q17, q22, q27, q32, q37][j]?)))))), (q1, .inl (κ.2.1, 8, .inl (fun _ : Nat => iI 0))), (q2, .inr (0, [.ref q3, .ref q4, .ref q5, .ref q6, .int (iI 0)])), (q3, .inl (κ.2.1, 12, .inl (fun _ : Nat => iI 0))), (q4, .inl (κ.2.1, 12, .inl (fun _ : Nat => iI 0))), (q5, .inl (κ.2.1, 12, .inl (fun _ : Nat => iI 0))), (q6, .inl (κ.2.1, 12, .inl (fun _ : Nat => iI 0))), (q7, .inr (0, [.ref q8, .ref q9, .ref q10, .ref q11, .int (iI 0)])), (q8, .inl (κ.2.1, 12, .inl (fun _ : Nat => iI 0))), (q9, .inl (κ.2.1, 12, .inl (fun _ : Nat => iI 0))), (q10, .inl (κ.2.1, 12, .inl (fun _ : Nat => iI 0))), (q11, .inl (κ.2.1, 12, .inl (fun _ : Nat => iI 0))), (q12, .inr (0, [.ref q13, .ref q14, .ref q15, .ref q16, .int (iI 0)])), (q13, .inl (κ.2.1, 12, .inl (fun _ : Nat => iI 0))), (q14, .inl (κ.2.1, 12, .inl (fun _ : Nat => iI 0))), (q15, .inl (κ.2.1, 12, .inl (fun _ : Nat => iI 0))), (q16, .inl (κ.2.1, 12, .inl (fun _ : Nat => iI 0))), (q17, .inr (0, [.ref q18, .ref q19, .ref q20, .ref q21, .int (iI 0)])), (q18, .inl (κ.2.1, 12, .inl (fun _ : Nat => iI 0))), (q19, .inl (κ.2.1, 12, .inl (fun _ : Nat => iI 0))), (q20, .inl (κ.2.1, 12, .inl (fun _ : Nat => iI 0))), (q21, .inl (κ.2.1, 12, .inl (fun _ : Nat => iI 0))), (q22, .inr (0, [.ref q23, .ref q24, .ref q25, .ref q26, .int (iI 0)])), (q23, .inl (κ.2.1, 12, .inl (fun _ : Nat => iI 0))), (q24, .inl (κ.2.1, 12, .inl (fun _ : Nat => iI 0))), (q25, .inl (κ.2.1, 12, .inl (fun _ : Nat => iI 0))), (q26, .inl (κ.2.1, 12, .inl (fun _ : Nat => iI 0))), (q27, .inr (0, [.ref q28, .ref q29, .ref q30, .ref q31, .int (iI 0)])), (q28, .inl (κ.2.1, 12, .inl (fun _ : Nat => iI 0))), (q29, .inl (κ.2.1, 12, .inl (fun _ : Nat => iI 0))), (q30, .inl (κ.2.1, 12, .inl (fun _ : Nat => iI 0))), (q31, .inl (κ.2.1, 12, .inl (fun _ : Nat => iI 0))), (q32, .inr (0, [.ref q33, .ref q34, .ref q35, .ref q36, .int (iI 0)])), (q33, .inl (κ.2.1, 12, .inl (fun _ : Nat => iI 0))), (q34, .inl (κ.2.1, 12, .inl (fun _ : Nat => iI 0))), (q35, .inl (κ.2.1, 12, .inl (fun _ : Nat => iI 0))), (q36, .inl (κ.2.1, 12, .inl (fun _ : Nat => iI 0))), (q37, .inr (0, [.ref q38, .ref q39, .ref q40, .ref q41, .int (iI 0)])), (q38, .inl (κ.2.1, 12, .inl (fun _ : Nat => iI 0))), (q39, .inl (κ.2.1, 12, .inl (fun _ : Nat => iI 0))), (q40, .inl (κ.2.1, 12, .inl (fun _ : Nat => iI 0))), (q41, .inl (κ.2.1, 12, .inl (fun _ : Nat => iI 0)))]) 1 rfl (g := fun j : Nat => [q2, q7, q12, q17, q22, q27, q32, q37][j]?) (fun j hj => by match j, hj with
    | 0, _ => rfl
    | 1, _ => rfl
    | 2, _ => rfl
    | 3, _ => rfl
    | 4, _ => rfl
    | 5, _ => rfl
    | 6, _ => rfl
    | 7, _ => rfl
    | i + 8, h => exact absurd h (by omega)) rfl ?_
  exact K ⟨q0, q1, q2, q3, q4, q5, q6, q7, q8, q9, q10, q11, q12, q13, q14, q15, q16, q17, q18, q19, q20, q21, q22, q23, q24, q25, q26, q27, q28, q29, q30, q31, q32, q33, q34, q35, q36, q37, q38, q39, q40, q41, rfl⟩ dX1_init_48
