/-! THE LAW FROM ITS ENTRY -/
section
variable {i : Nat} {w : Cond}
theorem inT1 (h : tables_1_1[i]? = some w) : w ∈ lw_tbl := List.mem_append_right _ (List.mem_append_left _ (List.mem_of_getElem? h))
theorem inT2 (h : tables_1_2[i]? = some w) : w ∈ lw_tbl := List.mem_append_right _ (List.mem_append_right _ (List.mem_append_left _ (List.mem_of_getElem? h)))
theorem inT3 (h : tables_1_3[i]? = some w) : w ∈ lw_tbl := List.mem_append_right _ (List.mem_append_right _ (List.mem_append_right _ (List.mem_append_left _ (List.mem_of_getElem? h))))
theorem inT4 (h : tables_1_4[i]? = some w) : w ∈ lw_tbl := List.mem_append_right _ (List.mem_append_right _ (List.mem_append_right _ (List.mem_append_right _ (List.mem_append_left _ (List.mem_of_getElem? h)))))
theorem inT5 (h : tables_1_5[i]? = some w) : w ∈ lw_tbl := List.mem_append_right _ (List.mem_append_right _ (List.mem_append_right _ (List.mem_append_right _ (List.mem_append_right _ (List.mem_append_left _ (List.mem_of_getElem? h))))))
theorem inT6 (h : tables_1_6[i]? = some w) : w ∈ lw_tbl := List.mem_append_right _ (List.mem_append_right _ (List.mem_append_right _ (List.mem_append_right _ (List.mem_append_right _ (List.mem_append_right _ (List.mem_of_getElem? h))))))
end
theorem nw_cons {w : Cond} {L : List Cond} (h : w ∈ lw_tbl) (k : ∀ x ∈ L, x ∈ lw_tbl) : ∀ x ∈ w :: L, x ∈ lw_tbl := fun x hx => by
  rcases List.mem_cons.mp hx with rfl | hx
  · exact h
  · exact k x hx
set_option maxRecDepth 100000 in
set_option maxHeartbeats 4000000 in
theorem nw_in : ∀ w ∈ NWl, w ∈ lw_tbl := by
  unfold NWl
  refine nw_cons (inT1 (i := 21) rfl) ?_
  refine nw_cons (inT1 (i := 26) rfl) ?_
  refine nw_cons (inT1 (i := 28) rfl) ?_
  refine nw_cons (inT1 (i := 30) rfl) ?_
  refine nw_cons (inT1 (i := 32) rfl) ?_
  refine nw_cons (inT1 (i := 34) rfl) ?_
  refine nw_cons (inT1 (i := 49) rfl) ?_
  refine nw_cons (inT1 (i := 54) rfl) ?_
  refine nw_cons (inT1 (i := 55) rfl) ?_
  refine nw_cons (inT1 (i := 57) rfl) ?_
  refine nw_cons (inT1 (i := 58) rfl) ?_
  refine nw_cons (inT1 (i := 60) rfl) ?_
  refine nw_cons (inT1 (i := 61) rfl) ?_
  refine nw_cons (inT1 (i := 62) rfl) ?_
  refine nw_cons (inT1 (i := 64) rfl) ?_
  refine nw_cons (inT1 (i := 65) rfl) ?_
  refine nw_cons (inT1 (i := 80) rfl) ?_
  refine nw_cons (inT1 (i := 86) rfl) ?_
  refine nw_cons (inT1 (i := 91) rfl) ?_
  refine nw_cons (inT1 (i := 103) rfl) ?_
  refine nw_cons (inT1 (i := 109) rfl) ?_
  refine nw_cons (inT1 (i := 117) rfl) ?_
  refine nw_cons (inT1 (i := 122) rfl) ?_
  refine nw_cons (inT1 (i := 124) rfl) ?_
  refine nw_cons (inT1 (i := 126) rfl) ?_
  refine nw_cons (inT1 (i := 128) rfl) ?_
  refine nw_cons (inT1 (i := 192) rfl) ?_
  refine nw_cons (inT1 (i := 200) rfl) ?_
  refine nw_cons (inT1 (i := 219) rfl) ?_
  refine nw_cons (inT1 (i := 226) rfl) ?_
  refine nw_cons (inT1 (i := 235) rfl) ?_
  refine nw_cons (inT1 (i := 236) rfl) ?_
  refine nw_cons (inT2 (i := 10) rfl) ?_
  refine nw_cons (inT2 (i := 18) rfl) ?_
  refine nw_cons (inT2 (i := 26) rfl) ?_
  refine nw_cons (inT2 (i := 34) rfl) ?_
  refine nw_cons (inT2 (i := 39) rfl) ?_
  refine nw_cons (inT2 (i := 51) rfl) ?_
  refine nw_cons (inT2 (i := 63) rfl) ?_
  refine nw_cons (inT2 (i := 78) rfl) ?_
  refine nw_cons (inT2 (i := 80) rfl) ?_
  refine nw_cons (inT2 (i := 88) rfl) ?_
  refine nw_cons (inT2 (i := 89) rfl) ?_
  refine nw_cons (inT2 (i := 90) rfl) ?_
  refine nw_cons (inT2 (i := 94) rfl) ?_
  refine nw_cons (inT2 (i := 103) rfl) ?_
  refine nw_cons (inT2 (i := 112) rfl) ?_
  refine nw_cons (inT2 (i := 116) rfl) ?_
  refine nw_cons (inT2 (i := 122) rfl) ?_
  refine nw_cons (inT2 (i := 134) rfl) ?_
  refine nw_cons (inT2 (i := 149) rfl) ?_
  refine nw_cons (inT2 (i := 165) rfl) ?_
  refine nw_cons (inT2 (i := 177) rfl) ?_
  refine nw_cons (inT2 (i := 199) rfl) ?_
  refine nw_cons (inT2 (i := 221) rfl) ?_
  refine nw_cons (inT2 (i := 226) rfl) ?_
  refine nw_cons (inT2 (i := 230) rfl) ?_
  refine nw_cons (inT2 (i := 231) rfl) ?_
  refine nw_cons (inT3 (i := 3) rfl) ?_
  refine nw_cons (inT3 (i := 12) rfl) ?_
  refine nw_cons (inT3 (i := 13) rfl) ?_
  refine nw_cons (inT3 (i := 14) rfl) ?_
  refine nw_cons (inT3 (i := 19) rfl) ?_
  refine nw_cons (inT3 (i := 23) rfl) ?_
  refine nw_cons (inT3 (i := 32) rfl) ?_
  refine nw_cons (inT3 (i := 36) rfl) ?_
  refine nw_cons (inT3 (i := 40) rfl) ?_
  refine nw_cons (inT3 (i := 82) rfl) ?_
  refine nw_cons (inT3 (i := 94) rfl) ?_
  refine nw_cons (inT3 (i := 102) rfl) ?_
  refine nw_cons (inT3 (i := 146) rfl) ?_
  refine nw_cons (inT3 (i := 174) rfl) ?_
  exact fun _ h => absurd h List.not_mem_nil
theorem nw_tab : ∀ w ∈ NWl, w.onTables = true := by decide +kernel
set_option maxRecDepth 100000 in
theorem ao_in : Cond.arrayOver (.object RX0) ∈ lw_tbl := (inT1 (i := 85) rfl)
set_option maxRecDepth 100000 in
theorem ls_in : Cond.laysStatic "PatchesSameAge" "BESIDE" "[I" ∈ lw_tbl := (inT2 (i := 64) rfl)
theorem k_int {args : Array Value} {s : State} (h : (Cond.arrayClass .int).before args s = true) : ∃ cA : ClassId, ArrOfT s cA .int ∧ va_RA s cA .int := by
  cases hc : s.vm.findClass ("[" ++ (FieldType.int).toString) with
  | none => simp [Cond.before, Cond.holds, Cond.value, hc] at h
  | some cA =>
    cases hk : s.vm.classes[cA]? with
    | none => simp [Cond.before, Cond.holds, Cond.value, hc, hk] at h
    | some kA =>
      cases hd : kA.kind with
      | array comp ty =>
        have ht : ty = .int := by simpa [Cond.before, Cond.holds, Cond.value, hc, hk, hd] using h
        subst ht
        exact ⟨cA, fun N z => ⟨(fun k h => by cases h), kA, hk, comp, hd⟩, hc⟩
      | _ => simp [Cond.before, Cond.holds, Cond.value, hc, hk, hd] at h
theorem k_obj {args : Array Value} {s : State} {C : String} (h : (Cond.arrayOver (.object C)).before args s = true) : ∃ cA : ClassId, ArrOfT s cA (.object C) ∧ va_RA s cA (.object C) := by
  obtain ⟨comp, c, k, h1, h2, h3, h4, h5⟩ := Cond.arrayOver_spec h
  exact ⟨c, fun N z => ⟨(fun k h => by cases h), k, h3, comp, h4⟩, k, comp, h3, h4, h1, h5⟩
def tmB : Term := .static "PatchesSameAge" "BESIDE" "[I"
theorem bs_row {args : Array Value} {s : State} {j : Nat} {v : Int32} (e : iI (bes (j : Int)) = v) (h : (Cond.eq (.elem tmB (.int (Int32.ofNat j))) (.int v)).before args s = true) : (Term.elem tmB (.int (Int32.ofNat j))).eval args s none [] s = some (bsV j) := by
  rw [va_eqt h]
  show some (Value.int v) = some (Value.int (iI (bes (j : Int))))
  rw [e]
set_option maxRecDepth 100000 in
set_option maxHeartbeats 4000000 in
theorem bs_rows {args : Array Value} {s : State} (hgv : (Jvm.Cond.and given_1 narrow_1).before args s = true) : ∀ j : Nat, j < 48 → (Term.elem tmB (.int (Int32.ofNat j))).eval args s none [] s = some (bsV j) := fun j hj => by
  have hs := flat_of_before _ hgv
  match j, hj with
  | 0, _ => exact bs_row (v := (-1)) (by decide +kernel) (hs _ (by decide +kernel))
  | 1, _ => exact bs_row (v := (-1)) (by decide +kernel) (hs _ (by decide +kernel))
  | 2, _ => exact bs_row (v := 1) (by decide +kernel) (hs _ (by decide +kernel))
  | 3, _ => exact bs_row (v := 4) (by decide +kernel) (hs _ (by decide +kernel))
  | 4, _ => exact bs_row (v := (-1)) (by decide +kernel) (hs _ (by decide +kernel))
  | 5, _ => exact bs_row (v := 0) (by decide +kernel) (hs _ (by decide +kernel))
  | 6, _ => exact bs_row (v := 2) (by decide +kernel) (hs _ (by decide +kernel))
  | 7, _ => exact bs_row (v := 5) (by decide +kernel) (hs _ (by decide +kernel))
  | 8, _ => exact bs_row (v := (-1)) (by decide +kernel) (hs _ (by decide +kernel))
  | 9, _ => exact bs_row (v := 1) (by decide +kernel) (hs _ (by decide +kernel))
  | 10, _ => exact bs_row (v := 3) (by decide +kernel) (hs _ (by decide +kernel))
  | 11, _ => exact bs_row (v := 6) (by decide +kernel) (hs _ (by decide +kernel))
  | 12, _ => exact bs_row (v := (-1)) (by decide +kernel) (hs _ (by decide +kernel))
  | 13, _ => exact bs_row (v := 2) (by decide +kernel) (hs _ (by decide +kernel))
  | 14, _ => exact bs_row (v := (-1)) (by decide +kernel) (hs _ (by decide +kernel))
  | 15, _ => exact bs_row (v := 7) (by decide +kernel) (hs _ (by decide +kernel))
  | 16, _ => exact bs_row (v := 0) (by decide +kernel) (hs _ (by decide +kernel))
  | 17, _ => exact bs_row (v := (-1)) (by decide +kernel) (hs _ (by decide +kernel))
  | 18, _ => exact bs_row (v := 5) (by decide +kernel) (hs _ (by decide +kernel))
  | 19, _ => exact bs_row (v := 8) (by decide +kernel) (hs _ (by decide +kernel))
  | 20, _ => exact bs_row (v := 1) (by decide +kernel) (hs _ (by decide +kernel))
  | 21, _ => exact bs_row (v := 4) (by decide +kernel) (hs _ (by decide +kernel))
  | 22, _ => exact bs_row (v := 6) (by decide +kernel) (hs _ (by decide +kernel))
  | 23, _ => exact bs_row (v := 9) (by decide +kernel) (hs _ (by decide +kernel))
  | 24, _ => exact bs_row (v := 2) (by decide +kernel) (hs _ (by decide +kernel))
  | 25, _ => exact bs_row (v := 5) (by decide +kernel) (hs _ (by decide +kernel))
  | 26, _ => exact bs_row (v := 7) (by decide +kernel) (hs _ (by decide +kernel))
  | 27, _ => exact bs_row (v := 10) (by decide +kernel) (hs _ (by decide +kernel))
  | 28, _ => exact bs_row (v := 3) (by decide +kernel) (hs _ (by decide +kernel))
  | 29, _ => exact bs_row (v := 6) (by decide +kernel) (hs _ (by decide +kernel))
  | 30, _ => exact bs_row (v := (-1)) (by decide +kernel) (hs _ (by decide +kernel))
  | 31, _ => exact bs_row (v := 11) (by decide +kernel) (hs _ (by decide +kernel))
  | 32, _ => exact bs_row (v := 4) (by decide +kernel) (hs _ (by decide +kernel))
  | 33, _ => exact bs_row (v := (-1)) (by decide +kernel) (hs _ (by decide +kernel))
  | 34, _ => exact bs_row (v := 9) (by decide +kernel) (hs _ (by decide +kernel))
  | 35, _ => exact bs_row (v := (-1)) (by decide +kernel) (hs _ (by decide +kernel))
  | 36, _ => exact bs_row (v := 5) (by decide +kernel) (hs _ (by decide +kernel))
  | 37, _ => exact bs_row (v := 8) (by decide +kernel) (hs _ (by decide +kernel))
  | 38, _ => exact bs_row (v := 10) (by decide +kernel) (hs _ (by decide +kernel))
  | 39, _ => exact bs_row (v := (-1)) (by decide +kernel) (hs _ (by decide +kernel))
  | 40, _ => exact bs_row (v := 6) (by decide +kernel) (hs _ (by decide +kernel))
  | 41, _ => exact bs_row (v := 9) (by decide +kernel) (hs _ (by decide +kernel))
  | 42, _ => exact bs_row (v := 11) (by decide +kernel) (hs _ (by decide +kernel))
  | 43, _ => exact bs_row (v := (-1)) (by decide +kernel) (hs _ (by decide +kernel))
  | 44, _ => exact bs_row (v := 7) (by decide +kernel) (hs _ (by decide +kernel))
  | 45, _ => exact bs_row (v := 10) (by decide +kernel) (hs _ (by decide +kernel))
  | 46, _ => exact bs_row (v := (-1)) (by decide +kernel) (hs _ (by decide +kernel))
  | 47, _ => exact bs_row (v := (-1)) (by decide +kernel) (hs _ (by decide +kernel))
  | j + 48, h => exact absurd h (by omega)
set_option maxRecDepth 100000 in
set_option maxHeartbeats 4000000 in
theorem ke_start {args : Array Value} {s : State} {A : Nat → Prop} (hts : ∀ w ∈ lw_tbl, w.before args s = true) (hgv : (Jvm.Cond.and given_1 narrow_1).before args s = true) (hA : ∀ a : Nat, a < s.heap.size → ¬ A a) : ∃ κ : Kp, KE κ A s := by
  have htg : ∀ w ∈ TG, w.before args s = true := fun w h => hts w (tg_tbl h)
  have hs := flat_of_before _ hgv
  obtain ⟨c0, i0, h0⟩ := u_known (C := RX0) (T := TX0) (N := 5) (n := 5) htg i_X0 (htg _ ins_X0)
  obtain ⟨c1, i1, h1⟩ := u_known (C := RX1) (T := TX1) (N := 4) (n := 4) htg i_X1 (htg _ ins_X1)
  obtain ⟨c2, i2, h2⟩ := u_known (C := RX2) (T := TX2) (N := 5) (n := 5) htg i_X2 (htg _ ins_X2)
  obtain ⟨c3, i3, h3⟩ := u_known (C := RX3) (T := TX3) (N := 2) (n := 2) htg i_X3 (htg _ ins_X3)
  obtain ⟨c4, i4, h4⟩ := u_known (C := RX4) (T := TX4) (N := 4) (n := 4) htg i_X4 (htg _ ins_X4)
  obtain ⟨c5, i5, h5⟩ := u_known (C := RX5) (T := TX5) (N := 15) (n := 15) htg i_X5 (htg _ ins_X5)
  obtain ⟨c6, i6, h6⟩ := u_known (C := RX6) (T := TX6) (N := 43) (n := 43) htg i_X6 (htg _ ins_X6)
  obtain ⟨cA, a1, a2⟩ := k_int (htg _ arr_int)
  obtain ⟨cB, b1, b2⟩ := k_obj (hts _ ao_in)
  obtain ⟨t, ht, hT⟩ := va_Tof (tm := tmB) (ty := .int) (N := 48) (f := bsV) (A := A) (by decide) (hs (Cond.arrayOf tmB .int) (by decide +kernel)) (va_eqt (z := 48) (hs _ (by decide +kernel))) (bs_rows hgv) hA
  refine ⟨((fun k => match k with | 0 => c0 | 1 => c1 | 2 => c2 | 3 => c3 | 4 => c4 | 5 => c5 | _ => c6, fun k => match k with | 0 => i0 | 1 => i1 | 2 => i2 | 3 => i3 | 4 => i4 | 5 => i5 | _ => i6), cA, cB, t), ⟨fun k q hq => ?_, fun k q hq => ?_⟩, fun w hw => va_Nw.of (nw_tab w hw) (hts w (nw_in w hw)), va_Zref (hts _ ls_in) (htg _ ini_X5) ht hA, hT⟩
  · match k, hq with
    | 0, hq => cases hq; exact h0
    | 1, hq => cases hq; exact h1
    | 2, hq => cases hq; exact h2
    | 3, hq => cases hq; exact h3
    | 4, hq => cases hq; exact h4
    | 5, hq => cases hq; exact h5
    | 6, hq => cases hq; exact h6
    | k + 7, hq => cases hq
  · match k, hq with
    | 0, hq => cases hq; exact ⟨a1, a2⟩
    | 1, hq => cases hq; exact ⟨b1, b2⟩
    | k + 2, hq => cases hq
theorem rel_0 : relT X00 M00 := by
  have hp : ∀ p : Int, (0 : Int) / p2 p % 2 = 0 := fun p => by rw [Int.zero_ediv]; rfl
  refine ⟨⟨⟨rfl, ⟨fun c _ _ => ?_, by decide⟩, by decide⟩, ⟨rfl, rfl, rfl, rfl, funext hp, ⟨by decide, fun p _ _ => (by decide : (0 ≤ (0 : Int) ∧ (0 : Int) ≤ 5) ∧ (0 ≤ (0 : Int) ∧ (0 : Int) ≤ 9) ∧ 0 ≤ (0 : Int) ∧ (0 : Int) ≤ 99)⟩, by decide⟩, ⟨rfl, rfl, by decide, fun j _ _ => (by decide : 0 ≤ (0 : Int) ∧ (0 : Int) ≤ 255)⟩, ⟨rfl, rfl, by decide, fun j _ _ => (by decide : 0 ≤ (0 : Int) ∧ (0 : Int) ≤ 99)⟩, ⟨rfl, by decide, Or.inl rfl⟩, ⟨rfl, by decide, by decide, fun i i0 i1 => absurd (show i < 0 from i1) (by omega)⟩⟩, rfl⟩
  show (0 ≤ (0 : Int) ∧ (0 : Int) ≤ 5) ∧ (0 ≤ (0 : Int) ∧ (0 : Int) ≤ 9) ∧ (0 ≤ (0 : Int) ∧ (0 : Int) ≤ 99) ∧ 0 ≤ (0 : Int) ∧ (0 : Int) ≤ 99
  decide
set_option maxRecDepth 100000 in
set_option maxHeartbeats 4000000 in
theorem lw_main {E : gE} {κ : Kp} {b L : Nat} {xs : Nat → Int32} (F : Fx (eN E 0 0) κ cL_law "PatchesSameAgeLaw" 4 9) (C : FC E 600000 7302250) (hX : ScrX (eN E 113 4057) b L xs) (hL : L ≤ 2560) (hend : ∀ (w : va_W) (lv : List (Nat × Value)), G (eN E 113 4057) w lv 1399 [.int (iI 1)]) : G (eN E 0 0) [] [(0, .ref b)] 0 [] := by
  refine g_obj (ci := 5) F C tyX5 tyX5_ok i_X5 lcl_L_7 ins_X5 ini_X5 rfl df_X5 (k2 := 1) (j2 := 15) rfl rfl (Nat.le_of_ble_eq_true rfl) (Nat.le_of_ble_eq_true rfl) dL_law_0 (fun q0 => ?_)
  have F := F.NN C (k2 := 1) (j2 := 15) (Nat.le_of_ble_eq_true rfl) (Nat.le_of_ble_eq_true rfl)
  refine g_dup F dL_law_3 rfl ?_
  refine g_callC (w1 := []) (st := [.ref q0]) F C (k_X5_init κ) cac_X5 lm_L_9 (Nat.le_of_ble_eq_true rfl) (Nat.le_of_ble_eq_true rfl) (k2 := 85) (j2 := 2607) rfl rfl (Nat.le_of_ble_eq_true rfl) (Nat.le_of_ble_eq_true rfl) dL_law_4 (fun w hw => ?_)
  obtain ⟨xa, hxa, rfl⟩ := hw
  subst hxa
  have F := F.NN C (k2 := 85) (j2 := 2607) (Nat.le_of_ble_eq_true rfl) (Nat.le_of_ble_eq_true rfl)
  refine g_ws (ws' := xw κ xa X00) rfl ?_
  refine g_astore_n F (lv' := [(1, .ref (xa 18 100)), (0, .ref b)]) 1 dL_law_7 rfl (by decide) rfl ?_
  refine g_obj (ci := 6) F C tyX6 tyX6_ok i_X6 lcl_L_10 ins_X6 ini_X6 rfl df_X6 (k2 := 86) (j2 := 2650) rfl rfl (Nat.le_of_ble_eq_true rfl) (Nat.le_of_ble_eq_true rfl) dL_law_8 (fun q1 => ?_)
  have F := F.NN C (k2 := 86) (j2 := 2650) (Nat.le_of_ble_eq_true rfl) (Nat.le_of_ble_eq_true rfl)
  refine g_dup F dL_law_11 rfl ?_
  refine g_callC (w1 := xw κ xa X00) (st := [.ref q1]) F C (k_X6_init κ) cac_X6 lm_L_12 (Nat.le_of_ble_eq_true rfl) (Nat.le_of_ble_eq_true rfl) (k2 := 113) (j2 := 4057) rfl rfl (Nat.le_of_ble_eq_true rfl) (Nat.le_of_ble_eq_true rfl) dL_law_12 (fun w hw => ?_)
  obtain ⟨ma, hma, rfl⟩ := hw
  subst hma
  have F := F.NN C (k2 := 113) (j2 := 4057) (Nat.le_of_ble_eq_true rfl) (Nat.le_of_ble_eq_true rfl)
  refine g_astore_n F (lv' := [(2, .ref (ma 100)), (1, .ref (xa 18 100)), (0, .ref b)]) 2 dL_law_15 rfl (by decide) rfl ?_
  refine g_iconst F dL_law_16 ?_
  refine g_istore_n F (lv' := [(3, .int (iI 0)), (2, .ref (ma 100)), (1, .ref (xa 18 100)), (0, .ref b)]) 3 dL_law_17 rfl (by decide) rfl ?_
  exact lw_loop F hX hL hend _ 0 X00 M00 rfl (by decide) (by decide) rel_0
/-- from the entry, the law comes to its end with true -/
theorem whole_start {p : Program} {e : Env} {s : State} {m : MethodId} {below : List Frame} {meth : Method} {c : Code} (l : Launch) (hflags : l.flags = flags0) {b L : Nat} {xs : Nat → Int32} (hL : L ≤ 2560) (C0 : lw_At p s m meth c b L xs) : W p l e room_1 s m #[Value.ref b] below meth c s.heap [] 0 0 (lw_Z below #[Value.ref b] s) (entryFrame m ([Value.ref b] : List Value).toArray 4) := by
  obtain ⟨hx, hb, hr, hml, hown, hts, hX, hbl, hlocks, hgv⟩ := id C0
  have htg : ∀ w ∈ TG, w.before #[Value.ref b] s = true := fun w h => hts w (tg_tbl h)
  obtain ⟨κ, hK⟩ := ke_start (A := fun q : Nat => s.heap.size ≤ q) hts hgv (fun a h => Nat.not_le.mpr h)
  have hAO : va_AO RX0 s := va_AO.of (hts _ ao_in)
  have F : Fx (eN (p, l, e, room_1, s, m, #[Value.ref b], below, meth, c, κ, (fun q : Nat => s.heap.size ≤ q), 0, 0, lw_Z below #[Value.ref b] s, 4) 0 0) κ cL_law "PatchesSameAgeLaw" 4 9 := ⟨rfl, hx, hb, hml, rfl, hown, htg, hlocks, hK, Nat.le_of_ble_eq_true rfl, Nat.le_of_ble_eq_true rfl, Nat.zero_le _, Nat.zero_le _⟩
  have C : FC (p, l, e, room_1, s, m, #[Value.ref b], below, meth, c, κ, (fun q : Nat => s.heap.size ≤ q), 0, 0, lw_Z below #[Value.ref b] s, 4) 600000 7302250 := ⟨rfl, rfl, fun _ h => h, hAO⟩
  have main := lw_main F C (b := b) (L := L) (xs := xs) ⟨hX, hbl, Nat.not_le.mpr hbl⟩ hL (fun w lv H locs ls hP hD hS hl => va_forget (fun q h => hS.2.2 q h) (W.widen (k := 600000) (n := 7302250) (Nat.le_of_ble_eq_true rfl) (Nat.le_of_ble_eq_true rfl) (lw_ret hx hb hr hlocks dL_law_1399)))
  have hl := lv_entry [.ref b] (n := 4) (Nat.le_of_ble_eq_true rfl)
  rw [lg_entry_eq]
  exact main s.heap [] _ (fun k q h => by cases h) ⟨fun i j p q h => (by cases h), fun k q h => (by cases h)⟩ va_S.rf hl
