/-- all that is carried, by its place -/
def snapF (M : MS) (z : Int) : Int := if z = 0 then M 4 0 else if z = 1 then M 5 0 else if z < 50 then M ((z - 2) % 4).toNat ((z - 2) / 4) else M (6 + ((z - 50) % 4).toNat) ((z - 50) / 4)
theorem snap_0 (M : MS) : snapF M 0 = M 4 0 := rfl
theorem snap_1 (M : MS) : snapF M 1 = M 5 0 := rfl
theorem snap_c (M : MS) {c j z : Int} (h0 : 0 ≤ c) (h1 : c < 12) (j0 : 0 ≤ j) (j1 : j < 4) (hz : z = 2 + 4 * c + j) : snapF M z = M j.toNat c := by
  unfold snapF
  rw [if_neg (by omega), if_neg (by omega), if_pos (by omega), show ((z - 2) % 4).toNat = j.toNat by omega, show (z - 2) / 4 = c by omega]
theorem snap_p (M : MS) {c j z : Int} (h0 : 0 ≤ c) (h1 : c < 6) (j0 : 0 ≤ j) (j1 : j < 4) (hz : z = 50 + 4 * c + j) : snapF M z = M (6 + j.toNat) c := by
  unfold snapF
  rw [if_neg (by omega), if_neg (by omega), if_neg (by omega), show ((z - 50) % 4).toNat = j.toNat by omega, show (z - 50) / 4 = c by omega]
/-- a state while it is carried: into or out of array t (b), at place q, that array holds f, what is carried is kk -/
def cst (M : MS) (t b : Nat) (q : Int) (f : Int → Int) (kk : MS) : MS := fun a => if a = 25 then (fun _ => (t : Int)) else if a = 24 then (fun _ => (b : Int)) else if a = 23 then (fun _ => q) else if a = t then f else if a ≤ 9 then kk a else M a
def kst (M M0 : MS) (c p : Int) : MS := fun a => if a ≤ 3 then upTo (M a) (M0 a) c else if a ≤ 5 then M0 a else upTo (M a) (M0 a) p
theorem uI_self (f : Int → Int) (c : Int) : uI f c (f c) = f := by
  funext j
  unfold uI
  split
  · rename_i h; rw [h]
  · rfl
theorem dX6_carry_0 : decode cX6_carry 0 = .ok (.aload_n 0, 1) := by decide +kernel
theorem dX6_carry_1 : decode cX6_carry 1 = .ok (.getfield 203, 3) := by decide +kernel
theorem dX6_carry_4 : decode cX6_carry 4 = .ok (.ifCond .eq 13, 3) := by decide +kernel
theorem dX6_carry_7 : decode cX6_carry 7 = .ok (.aload_n 0, 1) := by decide +kernel
theorem dX6_carry_8 : decode cX6_carry 8 = .ok (.getfield 206, 3) := by decide +kernel
theorem dX6_carry_11 : decode cX6_carry 11 = .ok (.aload_n 0, 1) := by decide +kernel
theorem dX6_carry_12 : decode cX6_carry 12 = .ok (.getfield 209, 3) := by decide +kernel
theorem dX6_carry_15 : decode cX6_carry 15 = .ok (.iload_n 1, 1) := by decide +kernel
theorem dX6_carry_16 : decode cX6_carry 16 = .ok (.iastore, 1) := by decide +kernel
theorem dX6_carry_17 : decode cX6_carry 17 = .ok (.aload_n 0, 1) := by decide +kernel
theorem dX6_carry_18 : decode cX6_carry 18 = .ok (.dup, 1) := by decide +kernel
theorem dX6_carry_19 : decode cX6_carry 19 = .ok (.getfield 209, 3) := by decide +kernel
theorem dX6_carry_22 : decode cX6_carry 22 = .ok (.iconst 1, 1) := by decide +kernel
theorem dX6_carry_23 : decode cX6_carry 23 = .ok (.iadd, 1) := by decide +kernel
theorem dX6_carry_24 : decode cX6_carry 24 = .ok (.putfield 209, 3) := by decide +kernel
theorem dX6_carry_27 : decode cX6_carry 27 = .ok (.aload_n 0, 1) := by decide +kernel
theorem dX6_carry_28 : decode cX6_carry 28 = .ok (.getfield 206, 3) := by decide +kernel
theorem dX6_carry_31 : decode cX6_carry 31 = .ok (.aload_n 0, 1) := by decide +kernel
theorem dX6_carry_32 : decode cX6_carry 32 = .ok (.getfield 209, 3) := by decide +kernel
theorem dX6_carry_35 : decode cX6_carry 35 = .ok (.iconst 1, 1) := by decide +kernel
theorem dX6_carry_36 : decode cX6_carry 36 = .ok (.isub, 1) := by decide +kernel
theorem dX6_carry_37 : decode cX6_carry 37 = .ok (.iaload, 1) := by decide +kernel
theorem dX6_carry_38 : decode cX6_carry 38 = .ok (.ireturn, 1) := by decide +kernel
set_option maxRecDepth 100000 in
set_option maxHeartbeats 4000000 in
theorem k_X6_carry_t20 (κ : Kp) (ma : Nat → Nat) (M kk : MS) (f : Int → Int) (q v : Int) (hq : 0 ≤ q ∧ q < 74) : mI κ yX6_carry cX6_carry 2 .int 0 [.ref (ma 100), .int (iI v)] (mw κ ma (cst M 20 1 q f kk)) (is1 (iI v) (mw κ ma (cst M 20 1 (q + 1) (uI f q v) kk))) := by
  refine mI_of (by decide) (Nat.le_of_ble_eq_true rfl) (fun E F K => ?_)
  refine g_lv (lv' := [(0, .ref (ma 100)), (1, .int (iI v))]) rfl ?_
  refine g_aload_n F 0 dX6_carry_0 rfl ?_
  refine gm_get_24 F dX6_carry_1 ?_
  refine g_top (y := iI 1) rfl ?_
  refine g_if_eq F 17 (by omega) dX6_carry_4 (by decide) (fun c4 => ?_) (fun c4 => ?_)
  · skip
    exact absurd trivial (by omega)
  · skip
    refine g_aload_n F 0 dX6_carry_7 rfl ?_
    refine gm_get_25 F dX6_carry_8 ?_
    refine g_st (st' := [.ref (ma 20)]) rfl ?_
    refine g_aload_n F 0 dX6_carry_11 rfl ?_
    refine gm_get_23 F dX6_carry_12 ?_
    refine g_top (y := iI q) rfl ?_
    refine g_iload_n F 1 dX6_carry_15 rfl ?_
    refine gm_ast_20 F (by omega) dX6_carry_16 ?_
    refine g_ws (ws' := mw κ ma (mA (cst M 20 1 q f kk) 20 (uI f q v))) rfl ?_
    refine g_aload_n F 0 dX6_carry_17 rfl ?_
    refine g_dup F dX6_carry_18 rfl ?_
    refine gm_get_23 F dX6_carry_19 ?_
    refine g_top (y := iI q) rfl ?_
    refine g_iconst F dX6_carry_22 ?_
    refine g_iadd F dX6_carry_23 ?_
    refine gm_put_23 F dX6_carry_24 ?_
    refine g_aload_n F 0 dX6_carry_27 rfl ?_
    refine gm_get_25 F dX6_carry_28 ?_
    refine g_st (st' := [.ref (ma 20)]) rfl ?_
    refine g_aload_n F 0 dX6_carry_31 rfl ?_
    refine gm_get_23 F dX6_carry_32 ?_
    refine g_top (y := iI (q + 1)) rfl ?_
    refine g_iconst F dX6_carry_35 ?_
    refine g_isub F dX6_carry_36 ?_
    refine gm_ald_20 F (by omega) dX6_carry_37 ?_
    refine g_top (y := iI ((uI f q v) ((q + 1) - 1))) rfl ?_
    refine g_top (y := iI v) (iIc (show uI f q v (q + 1 - 1) = v by rw [show q + 1 - 1 = q by omega]; exact uI_s)) ?_
    exact K mw_same ⟨rfl, rfl⟩ rfl dX6_carry_38
set_option maxRecDepth 100000 in
set_option maxHeartbeats 4000000 in
theorem k_X6_carry_f20 (κ : Kp) (ma : Nat → Nat) (M kk : MS) (f : Int → Int) (q v : Int) (hq : 0 ≤ q ∧ q < 74) : mI κ yX6_carry cX6_carry 2 .int 0 [.ref (ma 100), .int (iI v)] (mw κ ma (cst M 20 0 q f kk)) (is1 (iI (f q)) (mw κ ma (cst M 20 0 (q + 1) f kk))) := by
  refine mI_of (by decide) (Nat.le_of_ble_eq_true rfl) (fun E F K => ?_)
  refine g_lv (lv' := [(0, .ref (ma 100)), (1, .int (iI v))]) rfl ?_
  refine g_aload_n F 0 dX6_carry_0 rfl ?_
  refine gm_get_24 F dX6_carry_1 ?_
  refine g_top (y := iI 0) rfl ?_
  refine g_if_eq F 17 (by omega) dX6_carry_4 (by decide) (fun c4 => ?_) (fun c4 => ?_)
  · skip
    refine g_aload_n F 0 dX6_carry_17 rfl ?_
    refine g_dup F dX6_carry_18 rfl ?_
    refine gm_get_23 F dX6_carry_19 ?_
    refine g_top (y := iI q) rfl ?_
    refine g_iconst F dX6_carry_22 ?_
    refine g_iadd F dX6_carry_23 ?_
    refine gm_put_23 F dX6_carry_24 ?_
    refine g_aload_n F 0 dX6_carry_27 rfl ?_
    refine gm_get_25 F dX6_carry_28 ?_
    refine g_st (st' := [.ref (ma 20)]) rfl ?_
    refine g_aload_n F 0 dX6_carry_31 rfl ?_
    refine gm_get_23 F dX6_carry_32 ?_
    refine g_top (y := iI (q + 1)) rfl ?_
    refine g_iconst F dX6_carry_35 ?_
    refine g_isub F dX6_carry_36 ?_
    refine gm_ald_20 F (by omega) dX6_carry_37 ?_
    refine g_top (y := iI (f ((q + 1) - 1))) rfl ?_
    exact K mw_same ⟨iIc (show f (q + 1 - 1) = f q by rw [show q + 1 - 1 = q by omega]), rfl⟩ rfl dX6_carry_38
  · skip
    exact absurd trivial (by omega)
set_option maxRecDepth 100000 in
set_option maxHeartbeats 4000000 in
theorem k_X6_carry_t21 (κ : Kp) (ma : Nat → Nat) (M kk : MS) (f : Int → Int) (q v : Int) (hq : 0 ≤ q ∧ q < 74) : mI κ yX6_carry cX6_carry 2 .int 0 [.ref (ma 100), .int (iI v)] (mw κ ma (cst M 21 1 q f kk)) (is1 (iI v) (mw κ ma (cst M 21 1 (q + 1) (uI f q v) kk))) := by
  refine mI_of (by decide) (Nat.le_of_ble_eq_true rfl) (fun E F K => ?_)
  refine g_lv (lv' := [(0, .ref (ma 100)), (1, .int (iI v))]) rfl ?_
  refine g_aload_n F 0 dX6_carry_0 rfl ?_
  refine gm_get_24 F dX6_carry_1 ?_
  refine g_top (y := iI 1) rfl ?_
  refine g_if_eq F 17 (by omega) dX6_carry_4 (by decide) (fun c4 => ?_) (fun c4 => ?_)
  · skip
    exact absurd trivial (by omega)
  · skip
    refine g_aload_n F 0 dX6_carry_7 rfl ?_
    refine gm_get_25 F dX6_carry_8 ?_
    refine g_st (st' := [.ref (ma 21)]) rfl ?_
    refine g_aload_n F 0 dX6_carry_11 rfl ?_
    refine gm_get_23 F dX6_carry_12 ?_
    refine g_top (y := iI q) rfl ?_
    refine g_iload_n F 1 dX6_carry_15 rfl ?_
    refine gm_ast_21 F (by omega) dX6_carry_16 ?_
    refine g_ws (ws' := mw κ ma (mA (cst M 21 1 q f kk) 21 (uI f q v))) rfl ?_
    refine g_aload_n F 0 dX6_carry_17 rfl ?_
    refine g_dup F dX6_carry_18 rfl ?_
    refine gm_get_23 F dX6_carry_19 ?_
    refine g_top (y := iI q) rfl ?_
    refine g_iconst F dX6_carry_22 ?_
    refine g_iadd F dX6_carry_23 ?_
    refine gm_put_23 F dX6_carry_24 ?_
    refine g_aload_n F 0 dX6_carry_27 rfl ?_
    refine gm_get_25 F dX6_carry_28 ?_
    refine g_st (st' := [.ref (ma 21)]) rfl ?_
    refine g_aload_n F 0 dX6_carry_31 rfl ?_
    refine gm_get_23 F dX6_carry_32 ?_
    refine g_top (y := iI (q + 1)) rfl ?_
    refine g_iconst F dX6_carry_35 ?_
    refine g_isub F dX6_carry_36 ?_
    refine gm_ald_21 F (by omega) dX6_carry_37 ?_
    refine g_top (y := iI ((uI f q v) ((q + 1) - 1))) rfl ?_
    refine g_top (y := iI v) (iIc (show uI f q v (q + 1 - 1) = v by rw [show q + 1 - 1 = q by omega]; exact uI_s)) ?_
    exact K mw_same ⟨rfl, rfl⟩ rfl dX6_carry_38
set_option maxRecDepth 100000 in
set_option maxHeartbeats 4000000 in
theorem k_X6_carry_f21 (κ : Kp) (ma : Nat → Nat) (M kk : MS) (f : Int → Int) (q v : Int) (hq : 0 ≤ q ∧ q < 74) : mI κ yX6_carry cX6_carry 2 .int 0 [.ref (ma 100), .int (iI v)] (mw κ ma (cst M 21 0 q f kk)) (is1 (iI (f q)) (mw κ ma (cst M 21 0 (q + 1) f kk))) := by
  refine mI_of (by decide) (Nat.le_of_ble_eq_true rfl) (fun E F K => ?_)
  refine g_lv (lv' := [(0, .ref (ma 100)), (1, .int (iI v))]) rfl ?_
  refine g_aload_n F 0 dX6_carry_0 rfl ?_
  refine gm_get_24 F dX6_carry_1 ?_
  refine g_top (y := iI 0) rfl ?_
  refine g_if_eq F 17 (by omega) dX6_carry_4 (by decide) (fun c4 => ?_) (fun c4 => ?_)
  · skip
    refine g_aload_n F 0 dX6_carry_17 rfl ?_
    refine g_dup F dX6_carry_18 rfl ?_
    refine gm_get_23 F dX6_carry_19 ?_
    refine g_top (y := iI q) rfl ?_
    refine g_iconst F dX6_carry_22 ?_
    refine g_iadd F dX6_carry_23 ?_
    refine gm_put_23 F dX6_carry_24 ?_
    refine g_aload_n F 0 dX6_carry_27 rfl ?_
    refine gm_get_25 F dX6_carry_28 ?_
    refine g_st (st' := [.ref (ma 21)]) rfl ?_
    refine g_aload_n F 0 dX6_carry_31 rfl ?_
    refine gm_get_23 F dX6_carry_32 ?_
    refine g_top (y := iI (q + 1)) rfl ?_
    refine g_iconst F dX6_carry_35 ?_
    refine g_isub F dX6_carry_36 ?_
    refine gm_ald_21 F (by omega) dX6_carry_37 ?_
    refine g_top (y := iI (f ((q + 1) - 1))) rfl ?_
    exact K mw_same ⟨iIc (show f (q + 1 - 1) = f q by rw [show q + 1 - 1 = q by omega]), rfl⟩ rfl dX6_carry_38
  · skip
    exact absurd trivial (by omega)
set_option maxRecDepth 100000 in
set_option maxHeartbeats 4000000 in
theorem k_X6_carry_t27 (κ : Kp) (ma : Nat → Nat) (M kk : MS) (f : Int → Int) (q v : Int) (hq : 0 ≤ q ∧ q < 74) : mI κ yX6_carry cX6_carry 2 .int 0 [.ref (ma 100), .int (iI v)] (mw κ ma (cst M 27 1 q f kk)) (is1 (iI v) (mw κ ma (cst M 27 1 (q + 1) (uI f q v) kk))) := by
  refine mI_of (by decide) (Nat.le_of_ble_eq_true rfl) (fun E F K => ?_)
  refine g_lv (lv' := [(0, .ref (ma 100)), (1, .int (iI v))]) rfl ?_
  refine g_aload_n F 0 dX6_carry_0 rfl ?_
  refine gm_get_24 F dX6_carry_1 ?_
  refine g_top (y := iI 1) rfl ?_
  refine g_if_eq F 17 (by omega) dX6_carry_4 (by decide) (fun c4 => ?_) (fun c4 => ?_)
  · skip
    exact absurd trivial (by omega)
  · skip
    refine g_aload_n F 0 dX6_carry_7 rfl ?_
    refine gm_get_25 F dX6_carry_8 ?_
    refine g_st (st' := [.ref (ma 27)]) rfl ?_
    refine g_aload_n F 0 dX6_carry_11 rfl ?_
    refine gm_get_23 F dX6_carry_12 ?_
    refine g_top (y := iI q) rfl ?_
    refine g_iload_n F 1 dX6_carry_15 rfl ?_
    refine gm_ast_27 F (by omega) dX6_carry_16 ?_
    refine g_ws (ws' := mw κ ma (mA (cst M 27 1 q f kk) 27 (uI f q v))) rfl ?_
    refine g_aload_n F 0 dX6_carry_17 rfl ?_
    refine g_dup F dX6_carry_18 rfl ?_
    refine gm_get_23 F dX6_carry_19 ?_
    refine g_top (y := iI q) rfl ?_
    refine g_iconst F dX6_carry_22 ?_
    refine g_iadd F dX6_carry_23 ?_
    refine gm_put_23 F dX6_carry_24 ?_
    refine g_aload_n F 0 dX6_carry_27 rfl ?_
    refine gm_get_25 F dX6_carry_28 ?_
    refine g_st (st' := [.ref (ma 27)]) rfl ?_
    refine g_aload_n F 0 dX6_carry_31 rfl ?_
    refine gm_get_23 F dX6_carry_32 ?_
    refine g_top (y := iI (q + 1)) rfl ?_
    refine g_iconst F dX6_carry_35 ?_
    refine g_isub F dX6_carry_36 ?_
    refine gm_ald_27 F (by omega) dX6_carry_37 ?_
    refine g_top (y := iI ((uI f q v) ((q + 1) - 1))) rfl ?_
    refine g_top (y := iI v) (iIc (show uI f q v (q + 1 - 1) = v by rw [show q + 1 - 1 = q by omega]; exact uI_s)) ?_
    exact K mw_same ⟨rfl, rfl⟩ rfl dX6_carry_38
set_option maxRecDepth 100000 in
set_option maxHeartbeats 4000000 in
theorem k_X6_carry_f27 (κ : Kp) (ma : Nat → Nat) (M kk : MS) (f : Int → Int) (q v : Int) (hq : 0 ≤ q ∧ q < 74) : mI κ yX6_carry cX6_carry 2 .int 0 [.ref (ma 100), .int (iI v)] (mw κ ma (cst M 27 0 q f kk)) (is1 (iI (f q)) (mw κ ma (cst M 27 0 (q + 1) f kk))) := by
  refine mI_of (by decide) (Nat.le_of_ble_eq_true rfl) (fun E F K => ?_)
  refine g_lv (lv' := [(0, .ref (ma 100)), (1, .int (iI v))]) rfl ?_
  refine g_aload_n F 0 dX6_carry_0 rfl ?_
  refine gm_get_24 F dX6_carry_1 ?_
  refine g_top (y := iI 0) rfl ?_
  refine g_if_eq F 17 (by omega) dX6_carry_4 (by decide) (fun c4 => ?_) (fun c4 => ?_)
  · skip
    refine g_aload_n F 0 dX6_carry_17 rfl ?_
    refine g_dup F dX6_carry_18 rfl ?_
    refine gm_get_23 F dX6_carry_19 ?_
    refine g_top (y := iI q) rfl ?_
    refine g_iconst F dX6_carry_22 ?_
    refine g_iadd F dX6_carry_23 ?_
    refine gm_put_23 F dX6_carry_24 ?_
    refine g_aload_n F 0 dX6_carry_27 rfl ?_
    refine gm_get_25 F dX6_carry_28 ?_
    refine g_st (st' := [.ref (ma 27)]) rfl ?_
    refine g_aload_n F 0 dX6_carry_31 rfl ?_
    refine gm_get_23 F dX6_carry_32 ?_
    refine g_top (y := iI (q + 1)) rfl ?_
    refine g_iconst F dX6_carry_35 ?_
    refine g_isub F dX6_carry_36 ?_
    refine gm_ald_27 F (by omega) dX6_carry_37 ?_
    refine g_top (y := iI (f ((q + 1) - 1))) rfl ?_
    exact K mw_same ⟨iIc (show f (q + 1 - 1) = f q by rw [show q + 1 - 1 = q by omega]), rfl⟩ rfl dX6_carry_38
  · skip
    exact absurd trivial (by omega)
theorem dX6_carryAll_0 : decode cX6_carryAll 0 = .ok (.aload_n 0, 1) := by decide +kernel
theorem dX6_carryAll_1 : decode cX6_carryAll 1 = .ok (.aload_n 1, 1) := by decide +kernel
theorem dX6_carryAll_2 : decode cX6_carryAll 2 = .ok (.putfield 206, 3) := by decide +kernel
theorem dX6_carryAll_5 : decode cX6_carryAll 5 = .ok (.aload_n 0, 1) := by decide +kernel
theorem dX6_carryAll_6 : decode cX6_carryAll 6 = .ok (.iload_n 2, 1) := by decide +kernel
theorem dX6_carryAll_7 : decode cX6_carryAll 7 = .ok (.putfield 203, 3) := by decide +kernel
theorem dX6_carryAll_10 : decode cX6_carryAll 10 = .ok (.aload_n 0, 1) := by decide +kernel
theorem dX6_carryAll_11 : decode cX6_carryAll 11 = .ok (.iconst 0, 1) := by decide +kernel
theorem dX6_carryAll_12 : decode cX6_carryAll 12 = .ok (.putfield 209, 3) := by decide +kernel
theorem dX6_carryAll_15 : decode cX6_carryAll 15 = .ok (.aload_n 0, 1) := by decide +kernel
theorem dX6_carryAll_16 : decode cX6_carryAll 16 = .ok (.aload_n 0, 1) := by decide +kernel
theorem dX6_carryAll_17 : decode cX6_carryAll 17 = .ok (.aload_n 0, 1) := by decide +kernel
theorem dX6_carryAll_18 : decode cX6_carryAll 18 = .ok (.getfield 125, 3) := by decide +kernel
theorem dX6_carryAll_21 : decode cX6_carryAll 21 = .ok (.invokevirtual 212, 3) := by decide +kernel
theorem dX6_carryAll_24 : decode cX6_carryAll 24 = .ok (.putfield 125, 3) := by decide +kernel
theorem dX6_carryAll_27 : decode cX6_carryAll 27 = .ok (.aload_n 0, 1) := by decide +kernel
theorem dX6_carryAll_28 : decode cX6_carryAll 28 = .ok (.aload_n 0, 1) := by decide +kernel
theorem dX6_carryAll_29 : decode cX6_carryAll 29 = .ok (.aload_n 0, 1) := by decide +kernel
theorem dX6_carryAll_30 : decode cX6_carryAll 30 = .ok (.getfield 101, 3) := by decide +kernel
theorem dX6_carryAll_33 : decode cX6_carryAll 33 = .ok (.invokevirtual 212, 3) := by decide +kernel
theorem dX6_carryAll_36 : decode cX6_carryAll 36 = .ok (.putfield 101, 3) := by decide +kernel
theorem dX6_carryAll_39 : decode cX6_carryAll 39 = .ok (.iconst 0, 1) := by decide +kernel
theorem dX6_carryAll_40 : decode cX6_carryAll 40 = .ok (.istore_n 3, 1) := by decide +kernel
theorem dX6_carryAll_41 : decode cX6_carryAll 41 = .ok (.iload_n 3, 1) := by decide +kernel
theorem dX6_carryAll_42 : decode cX6_carryAll 42 = .ok (.bipush 12, 2) := by decide +kernel
theorem dX6_carryAll_44 : decode cX6_carryAll 44 = .ok (.if_icmp .ge 73, 3) := by decide +kernel
theorem dX6_carryAll_47 : decode cX6_carryAll 47 = .ok (.aload_n 0, 1) := by decide +kernel
theorem dX6_carryAll_48 : decode cX6_carryAll 48 = .ok (.getfield 7, 3) := by decide +kernel
theorem dX6_carryAll_51 : decode cX6_carryAll 51 = .ok (.iload_n 3, 1) := by decide +kernel
theorem dX6_carryAll_52 : decode cX6_carryAll 52 = .ok (.aload_n 0, 1) := by decide +kernel
theorem dX6_carryAll_53 : decode cX6_carryAll 53 = .ok (.aload_n 0, 1) := by decide +kernel
theorem dX6_carryAll_54 : decode cX6_carryAll 54 = .ok (.getfield 7, 3) := by decide +kernel
theorem dX6_carryAll_57 : decode cX6_carryAll 57 = .ok (.iload_n 3, 1) := by decide +kernel
theorem dX6_carryAll_58 : decode cX6_carryAll 58 = .ok (.iaload, 1) := by decide +kernel
theorem dX6_carryAll_59 : decode cX6_carryAll 59 = .ok (.invokevirtual 212, 3) := by decide +kernel
theorem dX6_carryAll_62 : decode cX6_carryAll 62 = .ok (.iastore, 1) := by decide +kernel
theorem dX6_carryAll_63 : decode cX6_carryAll 63 = .ok (.aload_n 0, 1) := by decide +kernel
theorem dX6_carryAll_64 : decode cX6_carryAll 64 = .ok (.getfield 13, 3) := by decide +kernel
theorem dX6_carryAll_67 : decode cX6_carryAll 67 = .ok (.iload_n 3, 1) := by decide +kernel
theorem dX6_carryAll_68 : decode cX6_carryAll 68 = .ok (.aload_n 0, 1) := by decide +kernel
theorem dX6_carryAll_69 : decode cX6_carryAll 69 = .ok (.aload_n 0, 1) := by decide +kernel
theorem dX6_carryAll_70 : decode cX6_carryAll 70 = .ok (.getfield 13, 3) := by decide +kernel
theorem dX6_carryAll_73 : decode cX6_carryAll 73 = .ok (.iload_n 3, 1) := by decide +kernel
theorem dX6_carryAll_74 : decode cX6_carryAll 74 = .ok (.iaload, 1) := by decide +kernel
theorem dX6_carryAll_75 : decode cX6_carryAll 75 = .ok (.invokevirtual 212, 3) := by decide +kernel
theorem dX6_carryAll_78 : decode cX6_carryAll 78 = .ok (.iastore, 1) := by decide +kernel
theorem dX6_carryAll_79 : decode cX6_carryAll 79 = .ok (.aload_n 0, 1) := by decide +kernel
theorem dX6_carryAll_80 : decode cX6_carryAll 80 = .ok (.getfield 16, 3) := by decide +kernel
theorem dX6_carryAll_83 : decode cX6_carryAll 83 = .ok (.iload_n 3, 1) := by decide +kernel
theorem dX6_carryAll_84 : decode cX6_carryAll 84 = .ok (.aload_n 0, 1) := by decide +kernel
theorem dX6_carryAll_85 : decode cX6_carryAll 85 = .ok (.aload_n 0, 1) := by decide +kernel
theorem dX6_carryAll_86 : decode cX6_carryAll 86 = .ok (.getfield 16, 3) := by decide +kernel
theorem dX6_carryAll_89 : decode cX6_carryAll 89 = .ok (.iload_n 3, 1) := by decide +kernel
theorem dX6_carryAll_90 : decode cX6_carryAll 90 = .ok (.iaload, 1) := by decide +kernel
theorem dX6_carryAll_91 : decode cX6_carryAll 91 = .ok (.invokevirtual 212, 3) := by decide +kernel
theorem dX6_carryAll_94 : decode cX6_carryAll 94 = .ok (.iastore, 1) := by decide +kernel
theorem dX6_carryAll_95 : decode cX6_carryAll 95 = .ok (.aload_n 0, 1) := by decide +kernel
theorem dX6_carryAll_96 : decode cX6_carryAll 96 = .ok (.getfield 19, 3) := by decide +kernel
theorem dX6_carryAll_99 : decode cX6_carryAll 99 = .ok (.iload_n 3, 1) := by decide +kernel
theorem dX6_carryAll_100 : decode cX6_carryAll 100 = .ok (.aload_n 0, 1) := by decide +kernel
theorem dX6_carryAll_101 : decode cX6_carryAll 101 = .ok (.aload_n 0, 1) := by decide +kernel
theorem dX6_carryAll_102 : decode cX6_carryAll 102 = .ok (.getfield 19, 3) := by decide +kernel
theorem dX6_carryAll_105 : decode cX6_carryAll 105 = .ok (.iload_n 3, 1) := by decide +kernel
theorem dX6_carryAll_106 : decode cX6_carryAll 106 = .ok (.iaload, 1) := by decide +kernel
theorem dX6_carryAll_107 : decode cX6_carryAll 107 = .ok (.invokevirtual 212, 3) := by decide +kernel
theorem dX6_carryAll_110 : decode cX6_carryAll 110 = .ok (.iastore, 1) := by decide +kernel
theorem dX6_carryAll_111 : decode cX6_carryAll 111 = .ok (.iinc 3 1, 3) := by decide +kernel
theorem dX6_carryAll_114 : decode cX6_carryAll 114 = .ok (.goto (-73), 3) := by decide +kernel
theorem dX6_carryAll_117 : decode cX6_carryAll 117 = .ok (.iconst 0, 1) := by decide +kernel
theorem dX6_carryAll_118 : decode cX6_carryAll 118 = .ok (.istore_n 3, 1) := by decide +kernel
theorem dX6_carryAll_119 : decode cX6_carryAll 119 = .ok (.iload_n 3, 1) := by decide +kernel
theorem dX6_carryAll_120 : decode cX6_carryAll 120 = .ok (.bipush 6, 2) := by decide +kernel
theorem dX6_carryAll_122 : decode cX6_carryAll 122 = .ok (.if_icmp .ge 73, 3) := by decide +kernel
theorem dX6_carryAll_125 : decode cX6_carryAll 125 = .ok (.aload_n 0, 1) := by decide +kernel
theorem dX6_carryAll_126 : decode cX6_carryAll 126 = .ok (.getfield 22, 3) := by decide +kernel
theorem dX6_carryAll_129 : decode cX6_carryAll 129 = .ok (.iload_n 3, 1) := by decide +kernel
theorem dX6_carryAll_130 : decode cX6_carryAll 130 = .ok (.aload_n 0, 1) := by decide +kernel
theorem dX6_carryAll_131 : decode cX6_carryAll 131 = .ok (.aload_n 0, 1) := by decide +kernel
theorem dX6_carryAll_132 : decode cX6_carryAll 132 = .ok (.getfield 22, 3) := by decide +kernel
theorem dX6_carryAll_135 : decode cX6_carryAll 135 = .ok (.iload_n 3, 1) := by decide +kernel
theorem dX6_carryAll_136 : decode cX6_carryAll 136 = .ok (.iaload, 1) := by decide +kernel
theorem dX6_carryAll_137 : decode cX6_carryAll 137 = .ok (.invokevirtual 212, 3) := by decide +kernel
theorem dX6_carryAll_140 : decode cX6_carryAll 140 = .ok (.iastore, 1) := by decide +kernel
theorem dX6_carryAll_141 : decode cX6_carryAll 141 = .ok (.aload_n 0, 1) := by decide +kernel
theorem dX6_carryAll_142 : decode cX6_carryAll 142 = .ok (.getfield 25, 3) := by decide +kernel
theorem dX6_carryAll_145 : decode cX6_carryAll 145 = .ok (.iload_n 3, 1) := by decide +kernel
theorem dX6_carryAll_146 : decode cX6_carryAll 146 = .ok (.aload_n 0, 1) := by decide +kernel
theorem dX6_carryAll_147 : decode cX6_carryAll 147 = .ok (.aload_n 0, 1) := by decide +kernel
theorem dX6_carryAll_148 : decode cX6_carryAll 148 = .ok (.getfield 25, 3) := by decide +kernel
theorem dX6_carryAll_151 : decode cX6_carryAll 151 = .ok (.iload_n 3, 1) := by decide +kernel
theorem dX6_carryAll_152 : decode cX6_carryAll 152 = .ok (.iaload, 1) := by decide +kernel
theorem dX6_carryAll_153 : decode cX6_carryAll 153 = .ok (.invokevirtual 212, 3) := by decide +kernel
theorem dX6_carryAll_156 : decode cX6_carryAll 156 = .ok (.iastore, 1) := by decide +kernel
theorem dX6_carryAll_157 : decode cX6_carryAll 157 = .ok (.aload_n 0, 1) := by decide +kernel
theorem dX6_carryAll_158 : decode cX6_carryAll 158 = .ok (.getfield 28, 3) := by decide +kernel
theorem dX6_carryAll_161 : decode cX6_carryAll 161 = .ok (.iload_n 3, 1) := by decide +kernel
theorem dX6_carryAll_162 : decode cX6_carryAll 162 = .ok (.aload_n 0, 1) := by decide +kernel
theorem dX6_carryAll_163 : decode cX6_carryAll 163 = .ok (.aload_n 0, 1) := by decide +kernel
theorem dX6_carryAll_164 : decode cX6_carryAll 164 = .ok (.getfield 28, 3) := by decide +kernel
theorem dX6_carryAll_167 : decode cX6_carryAll 167 = .ok (.iload_n 3, 1) := by decide +kernel
theorem dX6_carryAll_168 : decode cX6_carryAll 168 = .ok (.iaload, 1) := by decide +kernel
theorem dX6_carryAll_169 : decode cX6_carryAll 169 = .ok (.invokevirtual 212, 3) := by decide +kernel
theorem dX6_carryAll_172 : decode cX6_carryAll 172 = .ok (.iastore, 1) := by decide +kernel
theorem dX6_carryAll_173 : decode cX6_carryAll 173 = .ok (.aload_n 0, 1) := by decide +kernel
theorem dX6_carryAll_174 : decode cX6_carryAll 174 = .ok (.getfield 31, 3) := by decide +kernel
theorem dX6_carryAll_177 : decode cX6_carryAll 177 = .ok (.iload_n 3, 1) := by decide +kernel
theorem dX6_carryAll_178 : decode cX6_carryAll 178 = .ok (.aload_n 0, 1) := by decide +kernel
theorem dX6_carryAll_179 : decode cX6_carryAll 179 = .ok (.aload_n 0, 1) := by decide +kernel
theorem dX6_carryAll_180 : decode cX6_carryAll 180 = .ok (.getfield 31, 3) := by decide +kernel
theorem dX6_carryAll_183 : decode cX6_carryAll 183 = .ok (.iload_n 3, 1) := by decide +kernel
theorem dX6_carryAll_184 : decode cX6_carryAll 184 = .ok (.iaload, 1) := by decide +kernel
theorem dX6_carryAll_185 : decode cX6_carryAll 185 = .ok (.invokevirtual 212, 3) := by decide +kernel
theorem dX6_carryAll_188 : decode cX6_carryAll 188 = .ok (.iastore, 1) := by decide +kernel
theorem dX6_carryAll_189 : decode cX6_carryAll 189 = .ok (.iinc 3 1, 3) := by decide +kernel
theorem dX6_carryAll_192 : decode cX6_carryAll 192 = .ok (.goto (-73), 3) := by decide +kernel
theorem dX6_carryAll_195 : decode cX6_carryAll 195 = .ok (.return_, 1) := by decide +kernel
set_option maxRecDepth 100000 in
set_option maxHeartbeats 4000000 in
theorem k_X6_carryAll_t20 (κ : Kp) (ma : Nat → Nat) (M : MS)  : mV κ yX6_carryAll cX6_carryAll 4 1 [.ref (ma 100), .ref (ma 20), .int (iI 1)] (mw κ ma M) (is0 (mw κ ma (cst M 20 1 74 (snapF M) M))) := by
  refine mV_of (by decide) (Nat.le_of_ble_eq_true rfl) (fun E F K => ?_)
  refine g_lv (lv' := [(0, .ref (ma 100)), (1, .ref (ma 20)), (2, .int (iI 1))]) rfl ?_
  refine g_aload_n F 0 dX6_carryAll_0 rfl ?_
  refine g_aload_n F 1 dX6_carryAll_1 rfl ?_
  refine gm_put_25_20 F dX6_carryAll_2 ?_
  refine g_aload_n F 0 dX6_carryAll_5 rfl ?_
  refine g_iload_n F 2 dX6_carryAll_6 rfl ?_
  refine gm_put_24 F (by omega) dX6_carryAll_7 ?_
  refine g_aload_n F 0 dX6_carryAll_10 rfl ?_
  refine g_iconst F dX6_carryAll_11 ?_
  refine gm_put_23 F dX6_carryAll_12 ?_
  refine g_ws (ws' := mw κ ma (cst M 20 1 0 (M 20) M)) rfl ?_
  refine g_aload_n F 0 dX6_carryAll_15 rfl ?_
  refine g_aload_n F 0 dX6_carryAll_16 rfl ?_
  refine g_aload_n F 0 dX6_carryAll_17 rfl ?_
  refine gm_get_4 F dX6_carryAll_18 ?_
  refine g_top (y := iI (M 4 0)) rfl ?_
  refine g_callI F (stk := [.int (iI (M 4 0)), .ref (ma 100), .ref (ma 100)]) (st := [.ref (ma 100)]) (k_X6_carry_t20 κ ma M M (M 20) 0 (M 4 0) (by omega)) cal_X6_carry lm_X6_212 0 rfl rfl rfl rfl (by decide) rfl (Nat.le_of_ble_eq_true rfl) dX6_carryAll_21 (fun r21 ws21 _ hr21 => ?_)
  obtain ⟨rfl, rfl⟩ := hr21
  refine gm_put_4 F dX6_carryAll_24 ?_
  refine g_ws (ws' := mw κ ma (cst M 20 1 (0 + 1) (uI (M 20) 0 (M 4 0)) M)) rfl ?_
  refine g_aload_n F 0 dX6_carryAll_27 rfl ?_
  refine g_aload_n F 0 dX6_carryAll_28 rfl ?_
  refine g_aload_n F 0 dX6_carryAll_29 rfl ?_
  refine gm_get_5 F dX6_carryAll_30 ?_
  refine g_top (y := iI (M 5 0)) rfl ?_
  refine g_callI F (stk := [.int (iI (M 5 0)), .ref (ma 100), .ref (ma 100)]) (st := [.ref (ma 100)]) (k_X6_carry_t20 κ ma M M (uI (M 20) 0 (M 4 0)) (0 + 1) (M 5 0) (by omega)) cal_X6_carry lm_X6_212 0 rfl rfl rfl rfl (by decide) rfl (Nat.le_of_ble_eq_true rfl) dX6_carryAll_33 (fun r33 ws33 _ hr33 => ?_)
  obtain ⟨rfl, rfl⟩ := hr33
  refine gm_put_5 F dX6_carryAll_36 ?_
  refine g_ws (ws' := mw κ ma (cst M 20 1 (0 + 1 + 1) (uI (uI (M 20) 0 (M 4 0)) (0 + 1) (M 5 0)) M)) rfl ?_
  refine g_iconst F dX6_carryAll_39 ?_
  refine g_istore_n F (lv' := [(3, .int (iI 0)), (0, .ref (ma 100)), (1, .ref (ma 20)), (2, .int (iI 1))]) 3 dX6_carryAll_40 rfl (by decide) rfl ?_
  have L41 : ∀ (mz41 : Nat) (c : Int) (q : Int) (f : Int → Int), (12 - c).toNat = mz41 → (0 ≤ c ∧ c ≤ 12) → (q = 2 + 4 * c) → (f = upTo (M 20) (snapF M) q) → G E (mw κ ma (cst M 20 1 q f M)) [(3, .int (iI c)), (0, .ref (ma 100)), (1, .ref (ma 20)), (2, .int (iI 1))] 41 [] := by
    intro mz41
    induction mz41 using Nat.strongRecOn with
    | _ mz41 ih41 =>
    intro c q f hmz41 hc hq hf
    refine g_iload_n F 0 dX6_carryAll_41 rfl ?_
    refine g_bipush F dX6_carryAll_42 (by decide +kernel) ?_
    refine g_icmp_ge F 117 (by omega) dX6_carryAll_44 (by decide) (fun c44 => ?_) (fun c44 => ?_)
    · skip
      refine g_iconst F dX6_carryAll_117 ?_
      refine g_istore_n F (lv' := [(3, .int (iI 0)), (0, .ref (ma 100)), (1, .ref (ma 20)), (2, .int (iI 1))]) 3 dX6_carryAll_118 rfl (by decide) rfl ?_
      have L119 : ∀ (mz119 : Nat) (p : Int) (q2 : Int) (g : Int → Int), (6 - p).toNat = mz119 → (0 ≤ p ∧ p ≤ 6) → (q2 = 50 + 4 * p) → (g = upTo (M 20) (snapF M) q2) → G E (mw κ ma (cst M 20 1 q2 g M)) [(3, .int (iI p)), (0, .ref (ma 100)), (1, .ref (ma 20)), (2, .int (iI 1))] 119 [] := by
        intro mz119
        induction mz119 using Nat.strongRecOn with
        | _ mz119 ih119 =>
        intro p q2 g hmz119 hp hq2 hg
        refine g_iload_n F 0 dX6_carryAll_119 rfl ?_
        refine g_bipush F dX6_carryAll_120 (by decide +kernel) ?_
        refine g_icmp_ge F 195 (by omega) dX6_carryAll_122 (by decide) (fun c122 => ?_) (fun c122 => ?_)
        · skip
          refine g_ws (ws' := mw κ ma (mA (cst M 20 1 q2 g M) 20 g)) rfl ?_
          refine gm_weq_20 (g := snapF M) (fun j a b => by rw [hg, hq2, show p = 6 by omega]; exact upTo_in a b) ?_
          exact K mw_same (by rw [hq2, show p = 6 by omega]; rfl) dX6_carryAll_195
        · skip
          refine g_aload_n F 1 dX6_carryAll_125 rfl ?_
          refine gm_get_6 F dX6_carryAll_126 ?_
          refine g_iload_n F 0 dX6_carryAll_129 rfl ?_
          refine g_aload_n F 1 dX6_carryAll_130 rfl ?_
          refine g_aload_n F 1 dX6_carryAll_131 rfl ?_
          refine gm_get_6 F dX6_carryAll_132 ?_
          refine g_iload_n F 0 dX6_carryAll_135 rfl ?_
          refine gm_ald_6 F (by omega) dX6_carryAll_136 ?_
          refine g_top (y := iI (M 6 p)) rfl ?_
          refine g_callI F (stk := [.int (iI (M 6 p)), .ref (ma 100), .int (iI p), .ref (ma 6)]) (st := [.int (iI p), .ref (ma 6)]) (k_X6_carry_t20 κ ma M M g q2 (M 6 p) (by omega)) cal_X6_carry lm_X6_212 0 rfl rfl rfl rfl (by decide) rfl (Nat.le_of_ble_eq_true rfl) dX6_carryAll_137 (fun r137 ws137 _ hr137 => ?_)
          obtain ⟨rfl, rfl⟩ := hr137
          refine gm_ast_6 F (by omega) dX6_carryAll_140 ?_
          refine g_ws (ws' := mw κ ma (mA (cst M 20 1 (q2 + 1) (uI g q2 (M 6 p)) M) 6 (uI (M 6) p (M 6 p)))) rfl ?_
          refine g_ws (ws' := mw κ ma (cst M 20 1 (q2 + 1) (uI g q2 (M 6 p)) M)) (by rw [uI_self]; rfl) ?_
          refine g_aload_n F 1 dX6_carryAll_141 rfl ?_
          refine gm_get_7 F dX6_carryAll_142 ?_
          refine g_iload_n F 0 dX6_carryAll_145 rfl ?_
          refine g_aload_n F 1 dX6_carryAll_146 rfl ?_
          refine g_aload_n F 1 dX6_carryAll_147 rfl ?_
          refine gm_get_7 F dX6_carryAll_148 ?_
          refine g_iload_n F 0 dX6_carryAll_151 rfl ?_
          refine gm_ald_7 F (by omega) dX6_carryAll_152 ?_
          refine g_top (y := iI (M 7 p)) rfl ?_
          refine g_callI F (stk := [.int (iI (M 7 p)), .ref (ma 100), .int (iI p), .ref (ma 7)]) (st := [.int (iI p), .ref (ma 7)]) (k_X6_carry_t20 κ ma M M (uI g q2 (M 6 p)) (q2 + 1) (M 7 p) (by omega)) cal_X6_carry lm_X6_212 0 rfl rfl rfl rfl (by decide) rfl (Nat.le_of_ble_eq_true rfl) dX6_carryAll_153 (fun r153 ws153 _ hr153 => ?_)
          obtain ⟨rfl, rfl⟩ := hr153
          refine gm_ast_7 F (by omega) dX6_carryAll_156 ?_
          refine g_ws (ws' := mw κ ma (mA (cst M 20 1 (q2 + 1 + 1) (uI (uI g q2 (M 6 p)) (q2 + 1) (M 7 p)) M) 7 (uI (M 7) p (M 7 p)))) rfl ?_
          refine g_ws (ws' := mw κ ma (cst M 20 1 (q2 + 1 + 1) (uI (uI g q2 (M 6 p)) (q2 + 1) (M 7 p)) M)) (by rw [uI_self]; rfl) ?_
          refine g_aload_n F 1 dX6_carryAll_157 rfl ?_
          refine gm_get_8 F dX6_carryAll_158 ?_
          refine g_iload_n F 0 dX6_carryAll_161 rfl ?_
          refine g_aload_n F 1 dX6_carryAll_162 rfl ?_
          refine g_aload_n F 1 dX6_carryAll_163 rfl ?_
          refine gm_get_8 F dX6_carryAll_164 ?_
          refine g_iload_n F 0 dX6_carryAll_167 rfl ?_
          refine gm_ald_8 F (by omega) dX6_carryAll_168 ?_
          refine g_top (y := iI (M 8 p)) rfl ?_
          refine g_callI F (stk := [.int (iI (M 8 p)), .ref (ma 100), .int (iI p), .ref (ma 8)]) (st := [.int (iI p), .ref (ma 8)]) (k_X6_carry_t20 κ ma M M (uI (uI g q2 (M 6 p)) (q2 + 1) (M 7 p)) (q2 + 1 + 1) (M 8 p) (by omega)) cal_X6_carry lm_X6_212 0 rfl rfl rfl rfl (by decide) rfl (Nat.le_of_ble_eq_true rfl) dX6_carryAll_169 (fun r169 ws169 _ hr169 => ?_)
          obtain ⟨rfl, rfl⟩ := hr169
          refine gm_ast_8 F (by omega) dX6_carryAll_172 ?_
          refine g_ws (ws' := mw κ ma (mA (cst M 20 1 (q2 + 1 + 1 + 1) (uI (uI (uI g q2 (M 6 p)) (q2 + 1) (M 7 p)) (q2 + 1 + 1) (M 8 p)) M) 8 (uI (M 8) p (M 8 p)))) rfl ?_
          refine g_ws (ws' := mw κ ma (cst M 20 1 (q2 + 1 + 1 + 1) (uI (uI (uI g q2 (M 6 p)) (q2 + 1) (M 7 p)) (q2 + 1 + 1) (M 8 p)) M)) (by rw [uI_self]; rfl) ?_
          refine g_aload_n F 1 dX6_carryAll_173 rfl ?_
          refine gm_get_9 F dX6_carryAll_174 ?_
          refine g_iload_n F 0 dX6_carryAll_177 rfl ?_
          refine g_aload_n F 1 dX6_carryAll_178 rfl ?_
          refine g_aload_n F 1 dX6_carryAll_179 rfl ?_
          refine gm_get_9 F dX6_carryAll_180 ?_
          refine g_iload_n F 0 dX6_carryAll_183 rfl ?_
          refine gm_ald_9 F (by omega) dX6_carryAll_184 ?_
          refine g_top (y := iI (M 9 p)) rfl ?_
          refine g_callI F (stk := [.int (iI (M 9 p)), .ref (ma 100), .int (iI p), .ref (ma 9)]) (st := [.int (iI p), .ref (ma 9)]) (k_X6_carry_t20 κ ma M M (uI (uI (uI g q2 (M 6 p)) (q2 + 1) (M 7 p)) (q2 + 1 + 1) (M 8 p)) (q2 + 1 + 1 + 1) (M 9 p) (by omega)) cal_X6_carry lm_X6_212 0 rfl rfl rfl rfl (by decide) rfl (Nat.le_of_ble_eq_true rfl) dX6_carryAll_185 (fun r185 ws185 _ hr185 => ?_)
          obtain ⟨rfl, rfl⟩ := hr185
          refine gm_ast_9 F (by omega) dX6_carryAll_188 ?_
          refine g_ws (ws' := mw κ ma (mA (cst M 20 1 (q2 + 1 + 1 + 1 + 1) (uI (uI (uI (uI g q2 (M 6 p)) (q2 + 1) (M 7 p)) (q2 + 1 + 1) (M 8 p)) (q2 + 1 + 1 + 1) (M 9 p)) M) 9 (uI (M 9) p (M 9 p)))) rfl ?_
          refine g_ws (ws' := mw κ ma (cst M 20 1 (q2 + 1 + 1 + 1 + 1) (uI (uI (uI (uI g q2 (M 6 p)) (q2 + 1) (M 7 p)) (q2 + 1 + 1) (M 8 p)) (q2 + 1 + 1 + 1) (M 9 p)) M)) (by rw [uI_self]; rfl) ?_
          refine g_iinc F (lv' := [(3, .int (iI (p + 1))), (0, .ref (ma 100)), (1, .ref (ma 20)), (2, .int (iI 1))]) 0 dX6_carryAll_189 rfl (by decide) rfl ?_
          refine g_goto F 119 dX6_carryAll_192 (by decide) ?_
          refine g_sub F (lv' := [(3, .int (iI (p + 1))), (0, .ref (ma 100)), (1, .ref (ma 20)), (2, .int (iI 1))]) [0, 1, 2, 3] rfl ?_
          have e0 : snapF M (q2) = M 6 p := snap_p M hp.1 (by omega) (by decide : (0 : Int) ≤ 0) (by decide) (by omega)
          have e1 : snapF M (q2 + 1) = M 7 p := snap_p M hp.1 (by omega) (by decide : (0 : Int) ≤ 1) (by decide) (by omega)
          have e2 : snapF M (q2 + 1 + 1) = M 8 p := snap_p M hp.1 (by omega) (by decide : (0 : Int) ≤ 2) (by decide) (by omega)
          have e3 : snapF M (q2 + 1 + 1 + 1) = M 9 p := snap_p M hp.1 (by omega) (by decide : (0 : Int) ≤ 3) (by decide) (by omega)
          exact ih119 _ (by omega) (p + 1) (q2 + 1 + 1 + 1 + 1) (uI (uI (uI (uI g q2 (M 6 p)) (q2 + 1) (M 7 p)) (q2 + 1 + 1) (M 8 p)) (q2 + 1 + 1 + 1) (M 9 p)) rfl (by omega) (by omega) (by rw [hg, ← e0, upTo_s _ _ (by omega), ← e1, upTo_s _ _ (by omega), ← e2, upTo_s _ _ (by omega), ← e3, upTo_s _ _ (by omega)])
      refine g_sub F (lv' := [(3, .int (iI 0)), (0, .ref (ma 100)), (1, .ref (ma 20)), (2, .int (iI 1))]) [0, 1, 2, 3] rfl ?_
      exact L119 _ 0 q f rfl (by omega) (by omega) hf
    · skip
      refine g_aload_n F 1 dX6_carryAll_47 rfl ?_
      refine gm_get_0 F dX6_carryAll_48 ?_
      refine g_iload_n F 0 dX6_carryAll_51 rfl ?_
      refine g_aload_n F 1 dX6_carryAll_52 rfl ?_
      refine g_aload_n F 1 dX6_carryAll_53 rfl ?_
      refine gm_get_0 F dX6_carryAll_54 ?_
      refine g_iload_n F 0 dX6_carryAll_57 rfl ?_
      refine gm_ald_0 F (by omega) dX6_carryAll_58 ?_
      refine g_top (y := iI (M 0 c)) rfl ?_
      refine g_callI F (stk := [.int (iI (M 0 c)), .ref (ma 100), .int (iI c), .ref (ma 0)]) (st := [.int (iI c), .ref (ma 0)]) (k_X6_carry_t20 κ ma M M f q (M 0 c) (by omega)) cal_X6_carry lm_X6_212 0 rfl rfl rfl rfl (by decide) rfl (Nat.le_of_ble_eq_true rfl) dX6_carryAll_59 (fun r59 ws59 _ hr59 => ?_)
      obtain ⟨rfl, rfl⟩ := hr59
      refine gm_ast_0 F (by omega) dX6_carryAll_62 ?_
      refine g_ws (ws' := mw κ ma (mA (cst M 20 1 (q + 1) (uI f q (M 0 c)) M) 0 (uI (M 0) c (M 0 c)))) rfl ?_
      refine g_ws (ws' := mw κ ma (cst M 20 1 (q + 1) (uI f q (M 0 c)) M)) (by rw [uI_self]; rfl) ?_
      refine g_aload_n F 1 dX6_carryAll_63 rfl ?_
      refine gm_get_1 F dX6_carryAll_64 ?_
      refine g_iload_n F 0 dX6_carryAll_67 rfl ?_
      refine g_aload_n F 1 dX6_carryAll_68 rfl ?_
      refine g_aload_n F 1 dX6_carryAll_69 rfl ?_
      refine gm_get_1 F dX6_carryAll_70 ?_
      refine g_iload_n F 0 dX6_carryAll_73 rfl ?_
      refine gm_ald_1 F (by omega) dX6_carryAll_74 ?_
      refine g_top (y := iI (M 1 c)) rfl ?_
      refine g_callI F (stk := [.int (iI (M 1 c)), .ref (ma 100), .int (iI c), .ref (ma 1)]) (st := [.int (iI c), .ref (ma 1)]) (k_X6_carry_t20 κ ma M M (uI f q (M 0 c)) (q + 1) (M 1 c) (by omega)) cal_X6_carry lm_X6_212 0 rfl rfl rfl rfl (by decide) rfl (Nat.le_of_ble_eq_true rfl) dX6_carryAll_75 (fun r75 ws75 _ hr75 => ?_)
      obtain ⟨rfl, rfl⟩ := hr75
      refine gm_ast_1 F (by omega) dX6_carryAll_78 ?_
      refine g_ws (ws' := mw κ ma (mA (cst M 20 1 (q + 1 + 1) (uI (uI f q (M 0 c)) (q + 1) (M 1 c)) M) 1 (uI (M 1) c (M 1 c)))) rfl ?_
      refine g_ws (ws' := mw κ ma (cst M 20 1 (q + 1 + 1) (uI (uI f q (M 0 c)) (q + 1) (M 1 c)) M)) (by rw [uI_self]; rfl) ?_
      refine g_aload_n F 1 dX6_carryAll_79 rfl ?_
      refine gm_get_2 F dX6_carryAll_80 ?_
      refine g_iload_n F 0 dX6_carryAll_83 rfl ?_
      refine g_aload_n F 1 dX6_carryAll_84 rfl ?_
      refine g_aload_n F 1 dX6_carryAll_85 rfl ?_
      refine gm_get_2 F dX6_carryAll_86 ?_
      refine g_iload_n F 0 dX6_carryAll_89 rfl ?_
      refine gm_ald_2 F (by omega) dX6_carryAll_90 ?_
      refine g_top (y := iI (M 2 c)) rfl ?_
      refine g_callI F (stk := [.int (iI (M 2 c)), .ref (ma 100), .int (iI c), .ref (ma 2)]) (st := [.int (iI c), .ref (ma 2)]) (k_X6_carry_t20 κ ma M M (uI (uI f q (M 0 c)) (q + 1) (M 1 c)) (q + 1 + 1) (M 2 c) (by omega)) cal_X6_carry lm_X6_212 0 rfl rfl rfl rfl (by decide) rfl (Nat.le_of_ble_eq_true rfl) dX6_carryAll_91 (fun r91 ws91 _ hr91 => ?_)
      obtain ⟨rfl, rfl⟩ := hr91
      refine gm_ast_2 F (by omega) dX6_carryAll_94 ?_
      refine g_ws (ws' := mw κ ma (mA (cst M 20 1 (q + 1 + 1 + 1) (uI (uI (uI f q (M 0 c)) (q + 1) (M 1 c)) (q + 1 + 1) (M 2 c)) M) 2 (uI (M 2) c (M 2 c)))) rfl ?_
      refine g_ws (ws' := mw κ ma (cst M 20 1 (q + 1 + 1 + 1) (uI (uI (uI f q (M 0 c)) (q + 1) (M 1 c)) (q + 1 + 1) (M 2 c)) M)) (by rw [uI_self]; rfl) ?_
      refine g_aload_n F 1 dX6_carryAll_95 rfl ?_
      refine gm_get_3 F dX6_carryAll_96 ?_
      refine g_iload_n F 0 dX6_carryAll_99 rfl ?_
      refine g_aload_n F 1 dX6_carryAll_100 rfl ?_
      refine g_aload_n F 1 dX6_carryAll_101 rfl ?_
      refine gm_get_3 F dX6_carryAll_102 ?_
      refine g_iload_n F 0 dX6_carryAll_105 rfl ?_
      refine gm_ald_3 F (by omega) dX6_carryAll_106 ?_
      refine g_top (y := iI (M 3 c)) rfl ?_
      refine g_callI F (stk := [.int (iI (M 3 c)), .ref (ma 100), .int (iI c), .ref (ma 3)]) (st := [.int (iI c), .ref (ma 3)]) (k_X6_carry_t20 κ ma M M (uI (uI (uI f q (M 0 c)) (q + 1) (M 1 c)) (q + 1 + 1) (M 2 c)) (q + 1 + 1 + 1) (M 3 c) (by omega)) cal_X6_carry lm_X6_212 0 rfl rfl rfl rfl (by decide) rfl (Nat.le_of_ble_eq_true rfl) dX6_carryAll_107 (fun r107 ws107 _ hr107 => ?_)
      obtain ⟨rfl, rfl⟩ := hr107
      refine gm_ast_3 F (by omega) dX6_carryAll_110 ?_
      refine g_ws (ws' := mw κ ma (mA (cst M 20 1 (q + 1 + 1 + 1 + 1) (uI (uI (uI (uI f q (M 0 c)) (q + 1) (M 1 c)) (q + 1 + 1) (M 2 c)) (q + 1 + 1 + 1) (M 3 c)) M) 3 (uI (M 3) c (M 3 c)))) rfl ?_
      refine g_ws (ws' := mw κ ma (cst M 20 1 (q + 1 + 1 + 1 + 1) (uI (uI (uI (uI f q (M 0 c)) (q + 1) (M 1 c)) (q + 1 + 1) (M 2 c)) (q + 1 + 1 + 1) (M 3 c)) M)) (by rw [uI_self]; rfl) ?_
      refine g_iinc F (lv' := [(3, .int (iI (c + 1))), (0, .ref (ma 100)), (1, .ref (ma 20)), (2, .int (iI 1))]) 0 dX6_carryAll_111 rfl (by decide) rfl ?_
      refine g_goto F 41 dX6_carryAll_114 (by decide) ?_
      refine g_sub F (lv' := [(3, .int (iI (c + 1))), (0, .ref (ma 100)), (1, .ref (ma 20)), (2, .int (iI 1))]) [0, 1, 2, 3] rfl ?_
      have e0 : snapF M (q) = M 0 c := snap_c M hc.1 (by omega) (by decide : (0 : Int) ≤ 0) (by decide) (by omega)
      have e1 : snapF M (q + 1) = M 1 c := snap_c M hc.1 (by omega) (by decide : (0 : Int) ≤ 1) (by decide) (by omega)
      have e2 : snapF M (q + 1 + 1) = M 2 c := snap_c M hc.1 (by omega) (by decide : (0 : Int) ≤ 2) (by decide) (by omega)
      have e3 : snapF M (q + 1 + 1 + 1) = M 3 c := snap_c M hc.1 (by omega) (by decide : (0 : Int) ≤ 3) (by decide) (by omega)
      exact ih41 _ (by omega) (c + 1) (q + 1 + 1 + 1 + 1) (uI (uI (uI (uI f q (M 0 c)) (q + 1) (M 1 c)) (q + 1 + 1) (M 2 c)) (q + 1 + 1 + 1) (M 3 c)) rfl (by omega) (by omega) (by rw [hf, ← e0, upTo_s _ _ (by omega), ← e1, upTo_s _ _ (by omega), ← e2, upTo_s _ _ (by omega), ← e3, upTo_s _ _ (by omega)])
  refine g_sub F (lv' := [(3, .int (iI 0)), (0, .ref (ma 100)), (1, .ref (ma 20)), (2, .int (iI 1))]) [0, 1, 2, 3] rfl ?_
  exact L41 _ 0 (0 + 1 + 1) (uI (uI (M 20) 0 (M 4 0)) (0 + 1) (M 5 0)) rfl (by omega) (by omega) (by rw [← upTo_s _ _ (by decide : (0 : Int) ≤ 0 + 1), ← upTo_s _ _ (by decide : (0 : Int) ≤ 0), upTo_0]; rfl)
theorem cst_kst_20 {κ : Kp} {ma : Nat → Nat} (M M0 : MS) : mw κ ma (cst M 20 0 (0 + 1 + 1) (M 20) (mA (mA M 4 (fun _ => M0 4 0)) 5 (fun _ => M0 5 0))) = mw κ ma (cst M 20 0 (0 + 1 + 1) (M 20) (kst M M0 0 0)) := by
  have e : kst M M0 0 0 = mA (mA M 4 (M0 4)) 5 (M0 5) := by
    funext a
    unfold kst mA
    rw [upTo_0]
    repeat' split
    all_goals first | rfl | omega | (subst_vars; rfl)
  rw [e]
  rfl
set_option maxRecDepth 100000 in
set_option maxHeartbeats 4000000 in
theorem k_X6_carryAll_f20 (κ : Kp) (ma : Nat → Nat) (M M0 : MS) (hS : ∀ z : Int, 0 ≤ z → z < 74 → M 20 z = snapF M0 z) : mV κ yX6_carryAll cX6_carryAll 4 1 [.ref (ma 100), .ref (ma 20), .int (iI 0)] (mw κ ma M) (is0 (mw κ ma (cst M 20 0 74 (M 20) M0))) := by
  refine mV_of (by decide) (Nat.le_of_ble_eq_true rfl) (fun E F K => ?_)
  refine g_lv (lv' := [(0, .ref (ma 100)), (1, .ref (ma 20)), (2, .int (iI 0))]) rfl ?_
  refine g_aload_n F 0 dX6_carryAll_0 rfl ?_
  refine g_aload_n F 1 dX6_carryAll_1 rfl ?_
  refine gm_put_25_20 F dX6_carryAll_2 ?_
  refine g_aload_n F 0 dX6_carryAll_5 rfl ?_
  refine g_iload_n F 2 dX6_carryAll_6 rfl ?_
  refine gm_put_24 F (by omega) dX6_carryAll_7 ?_
  refine g_aload_n F 0 dX6_carryAll_10 rfl ?_
  refine g_iconst F dX6_carryAll_11 ?_
  refine gm_put_23 F dX6_carryAll_12 ?_
  refine g_ws (ws' := mw κ ma (cst M 20 0 0 (M 20) M)) rfl ?_
  refine g_aload_n F 0 dX6_carryAll_15 rfl ?_
  refine g_aload_n F 0 dX6_carryAll_16 rfl ?_
  refine g_aload_n F 0 dX6_carryAll_17 rfl ?_
  refine gm_get_4 F dX6_carryAll_18 ?_
  refine g_top (y := iI (M 4 0)) rfl ?_
  refine g_callI F (stk := [.int (iI (M 4 0)), .ref (ma 100), .ref (ma 100)]) (st := [.ref (ma 100)]) (k_X6_carry_f20 κ ma M M (M 20) 0 (M 4 0) (by omega)) cal_X6_carry lm_X6_212 0 rfl rfl rfl rfl (by decide) rfl (Nat.le_of_ble_eq_true rfl) dX6_carryAll_21 (fun r21 ws21 _ hr21 => ?_)
  obtain ⟨rfl, rfl⟩ := hr21
  refine g_top (y := iI (M0 4 0)) (iIc (hS 0 (by decide) (by decide))) ?_
  refine gm_put_4 F dX6_carryAll_24 ?_
  refine g_ws (ws' := mw κ ma (cst M 20 0 (0 + 1) (M 20) (mA M 4 (fun _ => M0 4 0)))) rfl ?_
  refine g_aload_n F 0 dX6_carryAll_27 rfl ?_
  refine g_aload_n F 0 dX6_carryAll_28 rfl ?_
  refine g_aload_n F 0 dX6_carryAll_29 rfl ?_
  refine gm_get_5 F dX6_carryAll_30 ?_
  refine g_top (y := iI (M 5 0)) rfl ?_
  refine g_callI F (stk := [.int (iI (M 5 0)), .ref (ma 100), .ref (ma 100)]) (st := [.ref (ma 100)]) (k_X6_carry_f20 κ ma M (mA M 4 (fun _ => M0 4 0)) (M 20) (0 + 1) (M 5 0) (by omega)) cal_X6_carry lm_X6_212 0 rfl rfl rfl rfl (by decide) rfl (Nat.le_of_ble_eq_true rfl) dX6_carryAll_33 (fun r33 ws33 _ hr33 => ?_)
  obtain ⟨rfl, rfl⟩ := hr33
  refine g_top (y := iI (M0 5 0)) (iIc (hS (0 + 1) (by decide) (by decide))) ?_
  refine gm_put_5 F dX6_carryAll_36 ?_
  refine g_ws (ws' := mw κ ma (cst M 20 0 (0 + 1 + 1) (M 20) (mA (mA M 4 (fun _ => M0 4 0)) 5 (fun _ => M0 5 0)))) rfl ?_
  refine g_iconst F dX6_carryAll_39 ?_
  refine g_istore_n F (lv' := [(3, .int (iI 0)), (0, .ref (ma 100)), (1, .ref (ma 20)), (2, .int (iI 0))]) 3 dX6_carryAll_40 rfl (by decide) rfl ?_
  have L41 : ∀ (mz41 : Nat) (c : Int) (q : Int), (12 - c).toNat = mz41 → (0 ≤ c ∧ c ≤ 12) → (q = 2 + 4 * c) → G E (mw κ ma (cst M 20 0 q (M 20) (kst M M0 c 0))) [(3, .int (iI c)), (0, .ref (ma 100)), (1, .ref (ma 20)), (2, .int (iI 0))] 41 [] := by
    intro mz41
    induction mz41 using Nat.strongRecOn with
    | _ mz41 ih41 =>
    intro c q hmz41 hc hq
    refine g_iload_n F 0 dX6_carryAll_41 rfl ?_
    refine g_bipush F dX6_carryAll_42 (by decide +kernel) ?_
    refine g_icmp_ge F 117 (by omega) dX6_carryAll_44 (by decide) (fun c44 => ?_) (fun c44 => ?_)
    · skip
      refine g_iconst F dX6_carryAll_117 ?_
      refine g_istore_n F (lv' := [(3, .int (iI 0)), (0, .ref (ma 100)), (1, .ref (ma 20)), (2, .int (iI 0))]) 3 dX6_carryAll_118 rfl (by decide) rfl ?_
      have L119 : ∀ (mz119 : Nat) (p : Int) (q2 : Int), (6 - p).toNat = mz119 → (0 ≤ p ∧ p ≤ 6) → (q2 = 50 + 4 * p) → G E (mw κ ma (cst M 20 0 q2 (M 20) (kst M M0 12 p))) [(3, .int (iI p)), (0, .ref (ma 100)), (1, .ref (ma 20)), (2, .int (iI 0))] 119 [] := by
        intro mz119
        induction mz119 using Nat.strongRecOn with
        | _ mz119 ih119 =>
        intro p q2 hmz119 hp hq2
        refine g_iload_n F 0 dX6_carryAll_119 rfl ?_
        refine g_bipush F dX6_carryAll_120 (by decide +kernel) ?_
        refine g_icmp_ge F 195 (by omega) dX6_carryAll_122 (by decide) (fun c122 => ?_) (fun c122 => ?_)
        · skip
          refine g_ws (ws' := mw κ ma (mA (cst M 20 0 q2 (M 20) (kst M M0 12 p)) 0 (upTo (M 0) (M0 0) 12))) rfl ?_
          refine gm_weq_0 (g := M0 0) (fun j a b => upTo_in a b) ?_
          refine g_ws (ws' := mw κ ma (mA (mA (cst M 20 0 q2 (M 20) (kst M M0 12 p)) 0 (M0 0)) 1 (upTo (M 1) (M0 1) 12))) rfl ?_
          refine gm_weq_1 (g := M0 1) (fun j a b => upTo_in a b) ?_
          refine g_ws (ws' := mw κ ma (mA (mA (mA (cst M 20 0 q2 (M 20) (kst M M0 12 p)) 0 (M0 0)) 1 (M0 1)) 2 (upTo (M 2) (M0 2) 12))) rfl ?_
          refine gm_weq_2 (g := M0 2) (fun j a b => upTo_in a b) ?_
          refine g_ws (ws' := mw κ ma (mA (mA (mA (mA (cst M 20 0 q2 (M 20) (kst M M0 12 p)) 0 (M0 0)) 1 (M0 1)) 2 (M0 2)) 3 (upTo (M 3) (M0 3) 12))) rfl ?_
          refine gm_weq_3 (g := M0 3) (fun j a b => upTo_in a b) ?_
          refine g_ws (ws' := mw κ ma (mA (mA (mA (mA (mA (cst M 20 0 q2 (M 20) (kst M M0 12 p)) 0 (M0 0)) 1 (M0 1)) 2 (M0 2)) 3 (M0 3)) 6 (upTo (M 6) (M0 6) p))) rfl ?_
          refine gm_weq_6 (g := M0 6) (fun j a b => by rw [show p = 6 by omega]; exact upTo_in a b) ?_
          refine g_ws (ws' := mw κ ma (mA (mA (mA (mA (mA (mA (cst M 20 0 q2 (M 20) (kst M M0 12 p)) 0 (M0 0)) 1 (M0 1)) 2 (M0 2)) 3 (M0 3)) 6 (M0 6)) 7 (upTo (M 7) (M0 7) p))) rfl ?_
          refine gm_weq_7 (g := M0 7) (fun j a b => by rw [show p = 6 by omega]; exact upTo_in a b) ?_
          refine g_ws (ws' := mw κ ma (mA (mA (mA (mA (mA (mA (mA (cst M 20 0 q2 (M 20) (kst M M0 12 p)) 0 (M0 0)) 1 (M0 1)) 2 (M0 2)) 3 (M0 3)) 6 (M0 6)) 7 (M0 7)) 8 (upTo (M 8) (M0 8) p))) rfl ?_
          refine gm_weq_8 (g := M0 8) (fun j a b => by rw [show p = 6 by omega]; exact upTo_in a b) ?_
          refine g_ws (ws' := mw κ ma (mA (mA (mA (mA (mA (mA (mA (mA (cst M 20 0 q2 (M 20) (kst M M0 12 p)) 0 (M0 0)) 1 (M0 1)) 2 (M0 2)) 3 (M0 3)) 6 (M0 6)) 7 (M0 7)) 8 (M0 8)) 9 (upTo (M 9) (M0 9) p))) rfl ?_
          refine gm_weq_9 (g := M0 9) (fun j a b => by rw [show p = 6 by omega]; exact upTo_in a b) ?_
          exact K mw_same (by rw [hq2, show p = 6 by omega]; rfl) dX6_carryAll_195
        · skip
          refine g_aload_n F 1 dX6_carryAll_125 rfl ?_
          refine gm_get_6 F dX6_carryAll_126 ?_
          refine g_iload_n F 0 dX6_carryAll_129 rfl ?_
          refine g_aload_n F 1 dX6_carryAll_130 rfl ?_
          refine g_aload_n F 1 dX6_carryAll_131 rfl ?_
          refine gm_get_6 F dX6_carryAll_132 ?_
          refine g_iload_n F 0 dX6_carryAll_135 rfl ?_
          refine gm_ald_6 F (by omega) dX6_carryAll_136 ?_
          refine g_top (y := iI ((upTo (M 6) (M0 6) p) p)) rfl ?_
          refine g_callI F (stk := [.int (iI ((upTo (M 6) (M0 6) p) p)), .ref (ma 100), .int (iI p), .ref (ma 6)]) (st := [.int (iI p), .ref (ma 6)]) (k_X6_carry_f20 κ ma M (kst M M0 12 p) (M 20) q2 ((upTo (M 6) (M0 6) p) p) (by omega)) cal_X6_carry lm_X6_212 0 rfl rfl rfl rfl (by decide) rfl (Nat.le_of_ble_eq_true rfl) dX6_carryAll_137 (fun r137 ws137 _ hr137 => ?_)
          obtain ⟨rfl, rfl⟩ := hr137
          refine g_top (y := iI (M0 6 p)) (iIc ((hS _ (by omega) (by omega)).trans (snap_p M0 hp.1 (by omega) (by decide : (0 : Int) ≤ 0) (by decide) (by omega)))) ?_
          refine gm_ast_6 F (by omega) dX6_carryAll_140 ?_
          refine g_ws (ws' := mw κ ma (mA (cst M 20 0 (q2 + 1) (M 20) (kst M M0 12 p)) 6 (uI (upTo (M 6) (M0 6) p) p (M0 6 p)))) rfl ?_
          refine g_ws (ws' := mw κ ma (cst M 20 0 (q2 + 1) (M 20) (mA (kst M M0 12 p) 6 (uI (upTo (M 6) (M0 6) p) p (M0 6 p))))) rfl ?_
          refine g_aload_n F 1 dX6_carryAll_141 rfl ?_
          refine gm_get_7 F dX6_carryAll_142 ?_
          refine g_iload_n F 0 dX6_carryAll_145 rfl ?_
          refine g_aload_n F 1 dX6_carryAll_146 rfl ?_
          refine g_aload_n F 1 dX6_carryAll_147 rfl ?_
          refine gm_get_7 F dX6_carryAll_148 ?_
          refine g_iload_n F 0 dX6_carryAll_151 rfl ?_
          refine gm_ald_7 F (by omega) dX6_carryAll_152 ?_
          refine g_top (y := iI ((upTo (M 7) (M0 7) p) p)) rfl ?_
          refine g_callI F (stk := [.int (iI ((upTo (M 7) (M0 7) p) p)), .ref (ma 100), .int (iI p), .ref (ma 7)]) (st := [.int (iI p), .ref (ma 7)]) (k_X6_carry_f20 κ ma M (mA (kst M M0 12 p) 6 (uI (upTo (M 6) (M0 6) p) p (M0 6 p))) (M 20) (q2 + 1) ((upTo (M 7) (M0 7) p) p) (by omega)) cal_X6_carry lm_X6_212 0 rfl rfl rfl rfl (by decide) rfl (Nat.le_of_ble_eq_true rfl) dX6_carryAll_153 (fun r153 ws153 _ hr153 => ?_)
          obtain ⟨rfl, rfl⟩ := hr153
          refine g_top (y := iI (M0 7 p)) (iIc ((hS _ (by omega) (by omega)).trans (snap_p M0 hp.1 (by omega) (by decide : (0 : Int) ≤ 1) (by decide) (by omega)))) ?_
          refine gm_ast_7 F (by omega) dX6_carryAll_156 ?_
          refine g_ws (ws' := mw κ ma (mA (cst M 20 0 (q2 + 1 + 1) (M 20) (mA (kst M M0 12 p) 6 (uI (upTo (M 6) (M0 6) p) p (M0 6 p)))) 7 (uI (upTo (M 7) (M0 7) p) p (M0 7 p)))) rfl ?_
          refine g_ws (ws' := mw κ ma (cst M 20 0 (q2 + 1 + 1) (M 20) (mA (mA (kst M M0 12 p) 6 (uI (upTo (M 6) (M0 6) p) p (M0 6 p))) 7 (uI (upTo (M 7) (M0 7) p) p (M0 7 p))))) rfl ?_
          refine g_aload_n F 1 dX6_carryAll_157 rfl ?_
          refine gm_get_8 F dX6_carryAll_158 ?_
          refine g_iload_n F 0 dX6_carryAll_161 rfl ?_
          refine g_aload_n F 1 dX6_carryAll_162 rfl ?_
          refine g_aload_n F 1 dX6_carryAll_163 rfl ?_
          refine gm_get_8 F dX6_carryAll_164 ?_
          refine g_iload_n F 0 dX6_carryAll_167 rfl ?_
          refine gm_ald_8 F (by omega) dX6_carryAll_168 ?_
          refine g_top (y := iI ((upTo (M 8) (M0 8) p) p)) rfl ?_
          refine g_callI F (stk := [.int (iI ((upTo (M 8) (M0 8) p) p)), .ref (ma 100), .int (iI p), .ref (ma 8)]) (st := [.int (iI p), .ref (ma 8)]) (k_X6_carry_f20 κ ma M (mA (mA (kst M M0 12 p) 6 (uI (upTo (M 6) (M0 6) p) p (M0 6 p))) 7 (uI (upTo (M 7) (M0 7) p) p (M0 7 p))) (M 20) (q2 + 1 + 1) ((upTo (M 8) (M0 8) p) p) (by omega)) cal_X6_carry lm_X6_212 0 rfl rfl rfl rfl (by decide) rfl (Nat.le_of_ble_eq_true rfl) dX6_carryAll_169 (fun r169 ws169 _ hr169 => ?_)
          obtain ⟨rfl, rfl⟩ := hr169
          refine g_top (y := iI (M0 8 p)) (iIc ((hS _ (by omega) (by omega)).trans (snap_p M0 hp.1 (by omega) (by decide : (0 : Int) ≤ 2) (by decide) (by omega)))) ?_
          refine gm_ast_8 F (by omega) dX6_carryAll_172 ?_
          refine g_ws (ws' := mw κ ma (mA (cst M 20 0 (q2 + 1 + 1 + 1) (M 20) (mA (mA (kst M M0 12 p) 6 (uI (upTo (M 6) (M0 6) p) p (M0 6 p))) 7 (uI (upTo (M 7) (M0 7) p) p (M0 7 p)))) 8 (uI (upTo (M 8) (M0 8) p) p (M0 8 p)))) rfl ?_
          refine g_ws (ws' := mw κ ma (cst M 20 0 (q2 + 1 + 1 + 1) (M 20) (mA (mA (mA (kst M M0 12 p) 6 (uI (upTo (M 6) (M0 6) p) p (M0 6 p))) 7 (uI (upTo (M 7) (M0 7) p) p (M0 7 p))) 8 (uI (upTo (M 8) (M0 8) p) p (M0 8 p))))) rfl ?_
          refine g_aload_n F 1 dX6_carryAll_173 rfl ?_
          refine gm_get_9 F dX6_carryAll_174 ?_
          refine g_iload_n F 0 dX6_carryAll_177 rfl ?_
          refine g_aload_n F 1 dX6_carryAll_178 rfl ?_
          refine g_aload_n F 1 dX6_carryAll_179 rfl ?_
          refine gm_get_9 F dX6_carryAll_180 ?_
          refine g_iload_n F 0 dX6_carryAll_183 rfl ?_
          refine gm_ald_9 F (by omega) dX6_carryAll_184 ?_
          refine g_top (y := iI ((upTo (M 9) (M0 9) p) p)) rfl ?_
          refine g_callI F (stk := [.int (iI ((upTo (M 9) (M0 9) p) p)), .ref (ma 100), .int (iI p), .ref (ma 9)]) (st := [.int (iI p), .ref (ma 9)]) (k_X6_carry_f20 κ ma M (mA (mA (mA (kst M M0 12 p) 6 (uI (upTo (M 6) (M0 6) p) p (M0 6 p))) 7 (uI (upTo (M 7) (M0 7) p) p (M0 7 p))) 8 (uI (upTo (M 8) (M0 8) p) p (M0 8 p))) (M 20) (q2 + 1 + 1 + 1) ((upTo (M 9) (M0 9) p) p) (by omega)) cal_X6_carry lm_X6_212 0 rfl rfl rfl rfl (by decide) rfl (Nat.le_of_ble_eq_true rfl) dX6_carryAll_185 (fun r185 ws185 _ hr185 => ?_)
          obtain ⟨rfl, rfl⟩ := hr185
          refine g_top (y := iI (M0 9 p)) (iIc ((hS _ (by omega) (by omega)).trans (snap_p M0 hp.1 (by omega) (by decide : (0 : Int) ≤ 3) (by decide) (by omega)))) ?_
          refine gm_ast_9 F (by omega) dX6_carryAll_188 ?_
          refine g_ws (ws' := mw κ ma (mA (cst M 20 0 (q2 + 1 + 1 + 1 + 1) (M 20) (mA (mA (mA (kst M M0 12 p) 6 (uI (upTo (M 6) (M0 6) p) p (M0 6 p))) 7 (uI (upTo (M 7) (M0 7) p) p (M0 7 p))) 8 (uI (upTo (M 8) (M0 8) p) p (M0 8 p)))) 9 (uI (upTo (M 9) (M0 9) p) p (M0 9 p)))) rfl ?_
          refine g_ws (ws' := mw κ ma (cst M 20 0 (q2 + 1 + 1 + 1 + 1) (M 20) (mA (mA (mA (mA (kst M M0 12 p) 6 (uI (upTo (M 6) (M0 6) p) p (M0 6 p))) 7 (uI (upTo (M 7) (M0 7) p) p (M0 7 p))) 8 (uI (upTo (M 8) (M0 8) p) p (M0 8 p))) 9 (uI (upTo (M 9) (M0 9) p) p (M0 9 p))))) rfl ?_
          refine g_iinc F (lv' := [(3, .int (iI (p + 1))), (0, .ref (ma 100)), (1, .ref (ma 20)), (2, .int (iI 0))]) 0 dX6_carryAll_189 rfl (by decide) rfl ?_
          refine g_goto F 119 dX6_carryAll_192 (by decide) ?_
          refine g_sub F (lv' := [(3, .int (iI (p + 1))), (0, .ref (ma 100)), (1, .ref (ma 20)), (2, .int (iI 0))]) [0, 1, 2, 3] rfl ?_
          refine g_ws (ws' := mw κ ma (cst M 20 0 (q2 + 1 + 1 + 1 + 1) (M 20) (kst M M0 12 (p + 1)))) (by rw [upTo_s _ _ hp.1, upTo_s _ _ hp.1, upTo_s _ _ hp.1, upTo_s _ _ hp.1]; rfl) ?_
          exact ih119 _ (by omega) (p + 1) (q2 + 1 + 1 + 1 + 1) rfl (by omega) (by omega)
      refine g_sub F (lv' := [(3, .int (iI 0)), (0, .ref (ma 100)), (1, .ref (ma 20)), (2, .int (iI 0))]) [0, 1, 2, 3] rfl ?_
      refine g_ws (ws' := mw κ ma (cst M 20 0 q (M 20) (kst M M0 12 0))) (by rw [show c = 12 by omega]) ?_
      exact L119 _ 0 q rfl (by omega) (by omega)
    · skip
      refine g_aload_n F 1 dX6_carryAll_47 rfl ?_
      refine gm_get_0 F dX6_carryAll_48 ?_
      refine g_iload_n F 0 dX6_carryAll_51 rfl ?_
      refine g_aload_n F 1 dX6_carryAll_52 rfl ?_
      refine g_aload_n F 1 dX6_carryAll_53 rfl ?_
      refine gm_get_0 F dX6_carryAll_54 ?_
      refine g_iload_n F 0 dX6_carryAll_57 rfl ?_
      refine gm_ald_0 F (by omega) dX6_carryAll_58 ?_
      refine g_top (y := iI ((upTo (M 0) (M0 0) c) c)) rfl ?_
      refine g_callI F (stk := [.int (iI ((upTo (M 0) (M0 0) c) c)), .ref (ma 100), .int (iI c), .ref (ma 0)]) (st := [.int (iI c), .ref (ma 0)]) (k_X6_carry_f20 κ ma M (kst M M0 c 0) (M 20) q ((upTo (M 0) (M0 0) c) c) (by omega)) cal_X6_carry lm_X6_212 0 rfl rfl rfl rfl (by decide) rfl (Nat.le_of_ble_eq_true rfl) dX6_carryAll_59 (fun r59 ws59 _ hr59 => ?_)
      obtain ⟨rfl, rfl⟩ := hr59
      refine g_top (y := iI (M0 0 c)) (iIc ((hS _ (by omega) (by omega)).trans (snap_c M0 hc.1 (by omega) (by decide : (0 : Int) ≤ 0) (by decide) (by omega)))) ?_
      refine gm_ast_0 F (by omega) dX6_carryAll_62 ?_
      refine g_ws (ws' := mw κ ma (mA (cst M 20 0 (q + 1) (M 20) (kst M M0 c 0)) 0 (uI (upTo (M 0) (M0 0) c) c (M0 0 c)))) rfl ?_
      refine g_ws (ws' := mw κ ma (cst M 20 0 (q + 1) (M 20) (mA (kst M M0 c 0) 0 (uI (upTo (M 0) (M0 0) c) c (M0 0 c))))) rfl ?_
      refine g_aload_n F 1 dX6_carryAll_63 rfl ?_
      refine gm_get_1 F dX6_carryAll_64 ?_
      refine g_iload_n F 0 dX6_carryAll_67 rfl ?_
      refine g_aload_n F 1 dX6_carryAll_68 rfl ?_
      refine g_aload_n F 1 dX6_carryAll_69 rfl ?_
      refine gm_get_1 F dX6_carryAll_70 ?_
      refine g_iload_n F 0 dX6_carryAll_73 rfl ?_
      refine gm_ald_1 F (by omega) dX6_carryAll_74 ?_
      refine g_top (y := iI ((upTo (M 1) (M0 1) c) c)) rfl ?_
      refine g_callI F (stk := [.int (iI ((upTo (M 1) (M0 1) c) c)), .ref (ma 100), .int (iI c), .ref (ma 1)]) (st := [.int (iI c), .ref (ma 1)]) (k_X6_carry_f20 κ ma M (mA (kst M M0 c 0) 0 (uI (upTo (M 0) (M0 0) c) c (M0 0 c))) (M 20) (q + 1) ((upTo (M 1) (M0 1) c) c) (by omega)) cal_X6_carry lm_X6_212 0 rfl rfl rfl rfl (by decide) rfl (Nat.le_of_ble_eq_true rfl) dX6_carryAll_75 (fun r75 ws75 _ hr75 => ?_)
      obtain ⟨rfl, rfl⟩ := hr75
      refine g_top (y := iI (M0 1 c)) (iIc ((hS _ (by omega) (by omega)).trans (snap_c M0 hc.1 (by omega) (by decide : (0 : Int) ≤ 1) (by decide) (by omega)))) ?_
      refine gm_ast_1 F (by omega) dX6_carryAll_78 ?_
      refine g_ws (ws' := mw κ ma (mA (cst M 20 0 (q + 1 + 1) (M 20) (mA (kst M M0 c 0) 0 (uI (upTo (M 0) (M0 0) c) c (M0 0 c)))) 1 (uI (upTo (M 1) (M0 1) c) c (M0 1 c)))) rfl ?_
      refine g_ws (ws' := mw κ ma (cst M 20 0 (q + 1 + 1) (M 20) (mA (mA (kst M M0 c 0) 0 (uI (upTo (M 0) (M0 0) c) c (M0 0 c))) 1 (uI (upTo (M 1) (M0 1) c) c (M0 1 c))))) rfl ?_
      refine g_aload_n F 1 dX6_carryAll_79 rfl ?_
      refine gm_get_2 F dX6_carryAll_80 ?_
      refine g_iload_n F 0 dX6_carryAll_83 rfl ?_
      refine g_aload_n F 1 dX6_carryAll_84 rfl ?_
      refine g_aload_n F 1 dX6_carryAll_85 rfl ?_
      refine gm_get_2 F dX6_carryAll_86 ?_
      refine g_iload_n F 0 dX6_carryAll_89 rfl ?_
      refine gm_ald_2 F (by omega) dX6_carryAll_90 ?_
      refine g_top (y := iI ((upTo (M 2) (M0 2) c) c)) rfl ?_
      refine g_callI F (stk := [.int (iI ((upTo (M 2) (M0 2) c) c)), .ref (ma 100), .int (iI c), .ref (ma 2)]) (st := [.int (iI c), .ref (ma 2)]) (k_X6_carry_f20 κ ma M (mA (mA (kst M M0 c 0) 0 (uI (upTo (M 0) (M0 0) c) c (M0 0 c))) 1 (uI (upTo (M 1) (M0 1) c) c (M0 1 c))) (M 20) (q + 1 + 1) ((upTo (M 2) (M0 2) c) c) (by omega)) cal_X6_carry lm_X6_212 0 rfl rfl rfl rfl (by decide) rfl (Nat.le_of_ble_eq_true rfl) dX6_carryAll_91 (fun r91 ws91 _ hr91 => ?_)
      obtain ⟨rfl, rfl⟩ := hr91
      refine g_top (y := iI (M0 2 c)) (iIc ((hS _ (by omega) (by omega)).trans (snap_c M0 hc.1 (by omega) (by decide : (0 : Int) ≤ 2) (by decide) (by omega)))) ?_
      refine gm_ast_2 F (by omega) dX6_carryAll_94 ?_
      refine g_ws (ws' := mw κ ma (mA (cst M 20 0 (q + 1 + 1 + 1) (M 20) (mA (mA (kst M M0 c 0) 0 (uI (upTo (M 0) (M0 0) c) c (M0 0 c))) 1 (uI (upTo (M 1) (M0 1) c) c (M0 1 c)))) 2 (uI (upTo (M 2) (M0 2) c) c (M0 2 c)))) rfl ?_
      refine g_ws (ws' := mw κ ma (cst M 20 0 (q + 1 + 1 + 1) (M 20) (mA (mA (mA (kst M M0 c 0) 0 (uI (upTo (M 0) (M0 0) c) c (M0 0 c))) 1 (uI (upTo (M 1) (M0 1) c) c (M0 1 c))) 2 (uI (upTo (M 2) (M0 2) c) c (M0 2 c))))) rfl ?_
      refine g_aload_n F 1 dX6_carryAll_95 rfl ?_
      refine gm_get_3 F dX6_carryAll_96 ?_
      refine g_iload_n F 0 dX6_carryAll_99 rfl ?_
      refine g_aload_n F 1 dX6_carryAll_100 rfl ?_
      refine g_aload_n F 1 dX6_carryAll_101 rfl ?_
      refine gm_get_3 F dX6_carryAll_102 ?_
      refine g_iload_n F 0 dX6_carryAll_105 rfl ?_
      refine gm_ald_3 F (by omega) dX6_carryAll_106 ?_
      refine g_top (y := iI ((upTo (M 3) (M0 3) c) c)) rfl ?_
      refine g_callI F (stk := [.int (iI ((upTo (M 3) (M0 3) c) c)), .ref (ma 100), .int (iI c), .ref (ma 3)]) (st := [.int (iI c), .ref (ma 3)]) (k_X6_carry_f20 κ ma M (mA (mA (mA (kst M M0 c 0) 0 (uI (upTo (M 0) (M0 0) c) c (M0 0 c))) 1 (uI (upTo (M 1) (M0 1) c) c (M0 1 c))) 2 (uI (upTo (M 2) (M0 2) c) c (M0 2 c))) (M 20) (q + 1 + 1 + 1) ((upTo (M 3) (M0 3) c) c) (by omega)) cal_X6_carry lm_X6_212 0 rfl rfl rfl rfl (by decide) rfl (Nat.le_of_ble_eq_true rfl) dX6_carryAll_107 (fun r107 ws107 _ hr107 => ?_)
      obtain ⟨rfl, rfl⟩ := hr107
      refine g_top (y := iI (M0 3 c)) (iIc ((hS _ (by omega) (by omega)).trans (snap_c M0 hc.1 (by omega) (by decide : (0 : Int) ≤ 3) (by decide) (by omega)))) ?_
      refine gm_ast_3 F (by omega) dX6_carryAll_110 ?_
      refine g_ws (ws' := mw κ ma (mA (cst M 20 0 (q + 1 + 1 + 1 + 1) (M 20) (mA (mA (mA (kst M M0 c 0) 0 (uI (upTo (M 0) (M0 0) c) c (M0 0 c))) 1 (uI (upTo (M 1) (M0 1) c) c (M0 1 c))) 2 (uI (upTo (M 2) (M0 2) c) c (M0 2 c)))) 3 (uI (upTo (M 3) (M0 3) c) c (M0 3 c)))) rfl ?_
      refine g_ws (ws' := mw κ ma (cst M 20 0 (q + 1 + 1 + 1 + 1) (M 20) (mA (mA (mA (mA (kst M M0 c 0) 0 (uI (upTo (M 0) (M0 0) c) c (M0 0 c))) 1 (uI (upTo (M 1) (M0 1) c) c (M0 1 c))) 2 (uI (upTo (M 2) (M0 2) c) c (M0 2 c))) 3 (uI (upTo (M 3) (M0 3) c) c (M0 3 c))))) rfl ?_
      refine g_iinc F (lv' := [(3, .int (iI (c + 1))), (0, .ref (ma 100)), (1, .ref (ma 20)), (2, .int (iI 0))]) 0 dX6_carryAll_111 rfl (by decide) rfl ?_
      refine g_goto F 41 dX6_carryAll_114 (by decide) ?_
      refine g_sub F (lv' := [(3, .int (iI (c + 1))), (0, .ref (ma 100)), (1, .ref (ma 20)), (2, .int (iI 0))]) [0, 1, 2, 3] rfl ?_
      refine g_ws (ws' := mw κ ma (cst M 20 0 (q + 1 + 1 + 1 + 1) (M 20) (kst M M0 (c + 1) 0))) (by rw [upTo_s _ _ hc.1, upTo_s _ _ hc.1, upTo_s _ _ hc.1, upTo_s _ _ hc.1]; rfl) ?_
      exact ih41 _ (by omega) (c + 1) (q + 1 + 1 + 1 + 1) rfl (by omega) (by omega)
  refine g_sub F (lv' := [(3, .int (iI 0)), (0, .ref (ma 100)), (1, .ref (ma 20)), (2, .int (iI 0))]) [0, 1, 2, 3] rfl ?_
  refine g_ws (ws' := mw κ ma (cst M 20 0 (0 + 1 + 1) (M 20) (kst M M0 0 0))) (cst_kst_20 M M0) ?_
  exact L41 _ 0 (0 + 1 + 1) rfl (by omega) (by omega)
set_option maxRecDepth 100000 in
set_option maxHeartbeats 4000000 in
theorem k_X6_carryAll_t21 (κ : Kp) (ma : Nat → Nat) (M : MS)  : mV κ yX6_carryAll cX6_carryAll 4 1 [.ref (ma 100), .ref (ma 21), .int (iI 1)] (mw κ ma M) (is0 (mw κ ma (cst M 21 1 74 (snapF M) M))) := by
  refine mV_of (by decide) (Nat.le_of_ble_eq_true rfl) (fun E F K => ?_)
  refine g_lv (lv' := [(0, .ref (ma 100)), (1, .ref (ma 21)), (2, .int (iI 1))]) rfl ?_
  refine g_aload_n F 0 dX6_carryAll_0 rfl ?_
  refine g_aload_n F 1 dX6_carryAll_1 rfl ?_
  refine gm_put_25_21 F dX6_carryAll_2 ?_
  refine g_aload_n F 0 dX6_carryAll_5 rfl ?_
  refine g_iload_n F 2 dX6_carryAll_6 rfl ?_
  refine gm_put_24 F (by omega) dX6_carryAll_7 ?_
  refine g_aload_n F 0 dX6_carryAll_10 rfl ?_
  refine g_iconst F dX6_carryAll_11 ?_
  refine gm_put_23 F dX6_carryAll_12 ?_
  refine g_ws (ws' := mw κ ma (cst M 21 1 0 (M 21) M)) rfl ?_
  refine g_aload_n F 0 dX6_carryAll_15 rfl ?_
  refine g_aload_n F 0 dX6_carryAll_16 rfl ?_
  refine g_aload_n F 0 dX6_carryAll_17 rfl ?_
  refine gm_get_4 F dX6_carryAll_18 ?_
  refine g_top (y := iI (M 4 0)) rfl ?_
  refine g_callI F (stk := [.int (iI (M 4 0)), .ref (ma 100), .ref (ma 100)]) (st := [.ref (ma 100)]) (k_X6_carry_t21 κ ma M M (M 21) 0 (M 4 0) (by omega)) cal_X6_carry lm_X6_212 0 rfl rfl rfl rfl (by decide) rfl (Nat.le_of_ble_eq_true rfl) dX6_carryAll_21 (fun r21 ws21 _ hr21 => ?_)
  obtain ⟨rfl, rfl⟩ := hr21
  refine gm_put_4 F dX6_carryAll_24 ?_
  refine g_ws (ws' := mw κ ma (cst M 21 1 (0 + 1) (uI (M 21) 0 (M 4 0)) M)) rfl ?_
  refine g_aload_n F 0 dX6_carryAll_27 rfl ?_
  refine g_aload_n F 0 dX6_carryAll_28 rfl ?_
  refine g_aload_n F 0 dX6_carryAll_29 rfl ?_
  refine gm_get_5 F dX6_carryAll_30 ?_
  refine g_top (y := iI (M 5 0)) rfl ?_
  refine g_callI F (stk := [.int (iI (M 5 0)), .ref (ma 100), .ref (ma 100)]) (st := [.ref (ma 100)]) (k_X6_carry_t21 κ ma M M (uI (M 21) 0 (M 4 0)) (0 + 1) (M 5 0) (by omega)) cal_X6_carry lm_X6_212 0 rfl rfl rfl rfl (by decide) rfl (Nat.le_of_ble_eq_true rfl) dX6_carryAll_33 (fun r33 ws33 _ hr33 => ?_)
  obtain ⟨rfl, rfl⟩ := hr33
  refine gm_put_5 F dX6_carryAll_36 ?_
  refine g_ws (ws' := mw κ ma (cst M 21 1 (0 + 1 + 1) (uI (uI (M 21) 0 (M 4 0)) (0 + 1) (M 5 0)) M)) rfl ?_
  refine g_iconst F dX6_carryAll_39 ?_
  refine g_istore_n F (lv' := [(3, .int (iI 0)), (0, .ref (ma 100)), (1, .ref (ma 21)), (2, .int (iI 1))]) 3 dX6_carryAll_40 rfl (by decide) rfl ?_
  have L41 : ∀ (mz41 : Nat) (c : Int) (q : Int) (f : Int → Int), (12 - c).toNat = mz41 → (0 ≤ c ∧ c ≤ 12) → (q = 2 + 4 * c) → (f = upTo (M 21) (snapF M) q) → G E (mw κ ma (cst M 21 1 q f M)) [(3, .int (iI c)), (0, .ref (ma 100)), (1, .ref (ma 21)), (2, .int (iI 1))] 41 [] := by
    intro mz41
    induction mz41 using Nat.strongRecOn with
    | _ mz41 ih41 =>
    intro c q f hmz41 hc hq hf
    refine g_iload_n F 0 dX6_carryAll_41 rfl ?_
    refine g_bipush F dX6_carryAll_42 (by decide +kernel) ?_
    refine g_icmp_ge F 117 (by omega) dX6_carryAll_44 (by decide) (fun c44 => ?_) (fun c44 => ?_)
    · skip
      refine g_iconst F dX6_carryAll_117 ?_
      refine g_istore_n F (lv' := [(3, .int (iI 0)), (0, .ref (ma 100)), (1, .ref (ma 21)), (2, .int (iI 1))]) 3 dX6_carryAll_118 rfl (by decide) rfl ?_
      have L119 : ∀ (mz119 : Nat) (p : Int) (q2 : Int) (g : Int → Int), (6 - p).toNat = mz119 → (0 ≤ p ∧ p ≤ 6) → (q2 = 50 + 4 * p) → (g = upTo (M 21) (snapF M) q2) → G E (mw κ ma (cst M 21 1 q2 g M)) [(3, .int (iI p)), (0, .ref (ma 100)), (1, .ref (ma 21)), (2, .int (iI 1))] 119 [] := by
        intro mz119
        induction mz119 using Nat.strongRecOn with
        | _ mz119 ih119 =>
        intro p q2 g hmz119 hp hq2 hg
        refine g_iload_n F 0 dX6_carryAll_119 rfl ?_
        refine g_bipush F dX6_carryAll_120 (by decide +kernel) ?_
        refine g_icmp_ge F 195 (by omega) dX6_carryAll_122 (by decide) (fun c122 => ?_) (fun c122 => ?_)
        · skip
          refine g_ws (ws' := mw κ ma (mA (cst M 21 1 q2 g M) 21 g)) rfl ?_
          refine gm_weq_21 (g := snapF M) (fun j a b => by rw [hg, hq2, show p = 6 by omega]; exact upTo_in a b) ?_
          exact K mw_same (by rw [hq2, show p = 6 by omega]; rfl) dX6_carryAll_195
        · skip
          refine g_aload_n F 1 dX6_carryAll_125 rfl ?_
          refine gm_get_6 F dX6_carryAll_126 ?_
          refine g_iload_n F 0 dX6_carryAll_129 rfl ?_
          refine g_aload_n F 1 dX6_carryAll_130 rfl ?_
          refine g_aload_n F 1 dX6_carryAll_131 rfl ?_
          refine gm_get_6 F dX6_carryAll_132 ?_
          refine g_iload_n F 0 dX6_carryAll_135 rfl ?_
          refine gm_ald_6 F (by omega) dX6_carryAll_136 ?_
          refine g_top (y := iI (M 6 p)) rfl ?_
          refine g_callI F (stk := [.int (iI (M 6 p)), .ref (ma 100), .int (iI p), .ref (ma 6)]) (st := [.int (iI p), .ref (ma 6)]) (k_X6_carry_t21 κ ma M M g q2 (M 6 p) (by omega)) cal_X6_carry lm_X6_212 0 rfl rfl rfl rfl (by decide) rfl (Nat.le_of_ble_eq_true rfl) dX6_carryAll_137 (fun r137 ws137 _ hr137 => ?_)
          obtain ⟨rfl, rfl⟩ := hr137
          refine gm_ast_6 F (by omega) dX6_carryAll_140 ?_
          refine g_ws (ws' := mw κ ma (mA (cst M 21 1 (q2 + 1) (uI g q2 (M 6 p)) M) 6 (uI (M 6) p (M 6 p)))) rfl ?_
          refine g_ws (ws' := mw κ ma (cst M 21 1 (q2 + 1) (uI g q2 (M 6 p)) M)) (by rw [uI_self]; rfl) ?_
          refine g_aload_n F 1 dX6_carryAll_141 rfl ?_
          refine gm_get_7 F dX6_carryAll_142 ?_
          refine g_iload_n F 0 dX6_carryAll_145 rfl ?_
          refine g_aload_n F 1 dX6_carryAll_146 rfl ?_
          refine g_aload_n F 1 dX6_carryAll_147 rfl ?_
          refine gm_get_7 F dX6_carryAll_148 ?_
          refine g_iload_n F 0 dX6_carryAll_151 rfl ?_
          refine gm_ald_7 F (by omega) dX6_carryAll_152 ?_
          refine g_top (y := iI (M 7 p)) rfl ?_
          refine g_callI F (stk := [.int (iI (M 7 p)), .ref (ma 100), .int (iI p), .ref (ma 7)]) (st := [.int (iI p), .ref (ma 7)]) (k_X6_carry_t21 κ ma M M (uI g q2 (M 6 p)) (q2 + 1) (M 7 p) (by omega)) cal_X6_carry lm_X6_212 0 rfl rfl rfl rfl (by decide) rfl (Nat.le_of_ble_eq_true rfl) dX6_carryAll_153 (fun r153 ws153 _ hr153 => ?_)
          obtain ⟨rfl, rfl⟩ := hr153
          refine gm_ast_7 F (by omega) dX6_carryAll_156 ?_
          refine g_ws (ws' := mw κ ma (mA (cst M 21 1 (q2 + 1 + 1) (uI (uI g q2 (M 6 p)) (q2 + 1) (M 7 p)) M) 7 (uI (M 7) p (M 7 p)))) rfl ?_
          refine g_ws (ws' := mw κ ma (cst M 21 1 (q2 + 1 + 1) (uI (uI g q2 (M 6 p)) (q2 + 1) (M 7 p)) M)) (by rw [uI_self]; rfl) ?_
          refine g_aload_n F 1 dX6_carryAll_157 rfl ?_
          refine gm_get_8 F dX6_carryAll_158 ?_
          refine g_iload_n F 0 dX6_carryAll_161 rfl ?_
          refine g_aload_n F 1 dX6_carryAll_162 rfl ?_
          refine g_aload_n F 1 dX6_carryAll_163 rfl ?_
          refine gm_get_8 F dX6_carryAll_164 ?_
          refine g_iload_n F 0 dX6_carryAll_167 rfl ?_
          refine gm_ald_8 F (by omega) dX6_carryAll_168 ?_
          refine g_top (y := iI (M 8 p)) rfl ?_
          refine g_callI F (stk := [.int (iI (M 8 p)), .ref (ma 100), .int (iI p), .ref (ma 8)]) (st := [.int (iI p), .ref (ma 8)]) (k_X6_carry_t21 κ ma M M (uI (uI g q2 (M 6 p)) (q2 + 1) (M 7 p)) (q2 + 1 + 1) (M 8 p) (by omega)) cal_X6_carry lm_X6_212 0 rfl rfl rfl rfl (by decide) rfl (Nat.le_of_ble_eq_true rfl) dX6_carryAll_169 (fun r169 ws169 _ hr169 => ?_)
          obtain ⟨rfl, rfl⟩ := hr169
          refine gm_ast_8 F (by omega) dX6_carryAll_172 ?_
          refine g_ws (ws' := mw κ ma (mA (cst M 21 1 (q2 + 1 + 1 + 1) (uI (uI (uI g q2 (M 6 p)) (q2 + 1) (M 7 p)) (q2 + 1 + 1) (M 8 p)) M) 8 (uI (M 8) p (M 8 p)))) rfl ?_
          refine g_ws (ws' := mw κ ma (cst M 21 1 (q2 + 1 + 1 + 1) (uI (uI (uI g q2 (M 6 p)) (q2 + 1) (M 7 p)) (q2 + 1 + 1) (M 8 p)) M)) (by rw [uI_self]; rfl) ?_
          refine g_aload_n F 1 dX6_carryAll_173 rfl ?_
          refine gm_get_9 F dX6_carryAll_174 ?_
          refine g_iload_n F 0 dX6_carryAll_177 rfl ?_
          refine g_aload_n F 1 dX6_carryAll_178 rfl ?_
          refine g_aload_n F 1 dX6_carryAll_179 rfl ?_
          refine gm_get_9 F dX6_carryAll_180 ?_
          refine g_iload_n F 0 dX6_carryAll_183 rfl ?_
          refine gm_ald_9 F (by omega) dX6_carryAll_184 ?_
          refine g_top (y := iI (M 9 p)) rfl ?_
          refine g_callI F (stk := [.int (iI (M 9 p)), .ref (ma 100), .int (iI p), .ref (ma 9)]) (st := [.int (iI p), .ref (ma 9)]) (k_X6_carry_t21 κ ma M M (uI (uI (uI g q2 (M 6 p)) (q2 + 1) (M 7 p)) (q2 + 1 + 1) (M 8 p)) (q2 + 1 + 1 + 1) (M 9 p) (by omega)) cal_X6_carry lm_X6_212 0 rfl rfl rfl rfl (by decide) rfl (Nat.le_of_ble_eq_true rfl) dX6_carryAll_185 (fun r185 ws185 _ hr185 => ?_)
          obtain ⟨rfl, rfl⟩ := hr185
          refine gm_ast_9 F (by omega) dX6_carryAll_188 ?_
          refine g_ws (ws' := mw κ ma (mA (cst M 21 1 (q2 + 1 + 1 + 1 + 1) (uI (uI (uI (uI g q2 (M 6 p)) (q2 + 1) (M 7 p)) (q2 + 1 + 1) (M 8 p)) (q2 + 1 + 1 + 1) (M 9 p)) M) 9 (uI (M 9) p (M 9 p)))) rfl ?_
          refine g_ws (ws' := mw κ ma (cst M 21 1 (q2 + 1 + 1 + 1 + 1) (uI (uI (uI (uI g q2 (M 6 p)) (q2 + 1) (M 7 p)) (q2 + 1 + 1) (M 8 p)) (q2 + 1 + 1 + 1) (M 9 p)) M)) (by rw [uI_self]; rfl) ?_
          refine g_iinc F (lv' := [(3, .int (iI (p + 1))), (0, .ref (ma 100)), (1, .ref (ma 21)), (2, .int (iI 1))]) 0 dX6_carryAll_189 rfl (by decide) rfl ?_
          refine g_goto F 119 dX6_carryAll_192 (by decide) ?_
          refine g_sub F (lv' := [(3, .int (iI (p + 1))), (0, .ref (ma 100)), (1, .ref (ma 21)), (2, .int (iI 1))]) [0, 1, 2, 3] rfl ?_
          have e0 : snapF M (q2) = M 6 p := snap_p M hp.1 (by omega) (by decide : (0 : Int) ≤ 0) (by decide) (by omega)
          have e1 : snapF M (q2 + 1) = M 7 p := snap_p M hp.1 (by omega) (by decide : (0 : Int) ≤ 1) (by decide) (by omega)
          have e2 : snapF M (q2 + 1 + 1) = M 8 p := snap_p M hp.1 (by omega) (by decide : (0 : Int) ≤ 2) (by decide) (by omega)
          have e3 : snapF M (q2 + 1 + 1 + 1) = M 9 p := snap_p M hp.1 (by omega) (by decide : (0 : Int) ≤ 3) (by decide) (by omega)
          exact ih119 _ (by omega) (p + 1) (q2 + 1 + 1 + 1 + 1) (uI (uI (uI (uI g q2 (M 6 p)) (q2 + 1) (M 7 p)) (q2 + 1 + 1) (M 8 p)) (q2 + 1 + 1 + 1) (M 9 p)) rfl (by omega) (by omega) (by rw [hg, ← e0, upTo_s _ _ (by omega), ← e1, upTo_s _ _ (by omega), ← e2, upTo_s _ _ (by omega), ← e3, upTo_s _ _ (by omega)])
      refine g_sub F (lv' := [(3, .int (iI 0)), (0, .ref (ma 100)), (1, .ref (ma 21)), (2, .int (iI 1))]) [0, 1, 2, 3] rfl ?_
      exact L119 _ 0 q f rfl (by omega) (by omega) hf
    · skip
      refine g_aload_n F 1 dX6_carryAll_47 rfl ?_
      refine gm_get_0 F dX6_carryAll_48 ?_
      refine g_iload_n F 0 dX6_carryAll_51 rfl ?_
      refine g_aload_n F 1 dX6_carryAll_52 rfl ?_
      refine g_aload_n F 1 dX6_carryAll_53 rfl ?_
      refine gm_get_0 F dX6_carryAll_54 ?_
      refine g_iload_n F 0 dX6_carryAll_57 rfl ?_
      refine gm_ald_0 F (by omega) dX6_carryAll_58 ?_
      refine g_top (y := iI (M 0 c)) rfl ?_
      refine g_callI F (stk := [.int (iI (M 0 c)), .ref (ma 100), .int (iI c), .ref (ma 0)]) (st := [.int (iI c), .ref (ma 0)]) (k_X6_carry_t21 κ ma M M f q (M 0 c) (by omega)) cal_X6_carry lm_X6_212 0 rfl rfl rfl rfl (by decide) rfl (Nat.le_of_ble_eq_true rfl) dX6_carryAll_59 (fun r59 ws59 _ hr59 => ?_)
      obtain ⟨rfl, rfl⟩ := hr59
      refine gm_ast_0 F (by omega) dX6_carryAll_62 ?_
      refine g_ws (ws' := mw κ ma (mA (cst M 21 1 (q + 1) (uI f q (M 0 c)) M) 0 (uI (M 0) c (M 0 c)))) rfl ?_
      refine g_ws (ws' := mw κ ma (cst M 21 1 (q + 1) (uI f q (M 0 c)) M)) (by rw [uI_self]; rfl) ?_
      refine g_aload_n F 1 dX6_carryAll_63 rfl ?_
      refine gm_get_1 F dX6_carryAll_64 ?_
      refine g_iload_n F 0 dX6_carryAll_67 rfl ?_
      refine g_aload_n F 1 dX6_carryAll_68 rfl ?_
      refine g_aload_n F 1 dX6_carryAll_69 rfl ?_
      refine gm_get_1 F dX6_carryAll_70 ?_
      refine g_iload_n F 0 dX6_carryAll_73 rfl ?_
      refine gm_ald_1 F (by omega) dX6_carryAll_74 ?_
      refine g_top (y := iI (M 1 c)) rfl ?_
      refine g_callI F (stk := [.int (iI (M 1 c)), .ref (ma 100), .int (iI c), .ref (ma 1)]) (st := [.int (iI c), .ref (ma 1)]) (k_X6_carry_t21 κ ma M M (uI f q (M 0 c)) (q + 1) (M 1 c) (by omega)) cal_X6_carry lm_X6_212 0 rfl rfl rfl rfl (by decide) rfl (Nat.le_of_ble_eq_true rfl) dX6_carryAll_75 (fun r75 ws75 _ hr75 => ?_)
      obtain ⟨rfl, rfl⟩ := hr75
      refine gm_ast_1 F (by omega) dX6_carryAll_78 ?_
      refine g_ws (ws' := mw κ ma (mA (cst M 21 1 (q + 1 + 1) (uI (uI f q (M 0 c)) (q + 1) (M 1 c)) M) 1 (uI (M 1) c (M 1 c)))) rfl ?_
      refine g_ws (ws' := mw κ ma (cst M 21 1 (q + 1 + 1) (uI (uI f q (M 0 c)) (q + 1) (M 1 c)) M)) (by rw [uI_self]; rfl) ?_
      refine g_aload_n F 1 dX6_carryAll_79 rfl ?_
      refine gm_get_2 F dX6_carryAll_80 ?_
      refine g_iload_n F 0 dX6_carryAll_83 rfl ?_
      refine g_aload_n F 1 dX6_carryAll_84 rfl ?_
      refine g_aload_n F 1 dX6_carryAll_85 rfl ?_
      refine gm_get_2 F dX6_carryAll_86 ?_
      refine g_iload_n F 0 dX6_carryAll_89 rfl ?_
      refine gm_ald_2 F (by omega) dX6_carryAll_90 ?_
      refine g_top (y := iI (M 2 c)) rfl ?_
      refine g_callI F (stk := [.int (iI (M 2 c)), .ref (ma 100), .int (iI c), .ref (ma 2)]) (st := [.int (iI c), .ref (ma 2)]) (k_X6_carry_t21 κ ma M M (uI (uI f q (M 0 c)) (q + 1) (M 1 c)) (q + 1 + 1) (M 2 c) (by omega)) cal_X6_carry lm_X6_212 0 rfl rfl rfl rfl (by decide) rfl (Nat.le_of_ble_eq_true rfl) dX6_carryAll_91 (fun r91 ws91 _ hr91 => ?_)
      obtain ⟨rfl, rfl⟩ := hr91
      refine gm_ast_2 F (by omega) dX6_carryAll_94 ?_
      refine g_ws (ws' := mw κ ma (mA (cst M 21 1 (q + 1 + 1 + 1) (uI (uI (uI f q (M 0 c)) (q + 1) (M 1 c)) (q + 1 + 1) (M 2 c)) M) 2 (uI (M 2) c (M 2 c)))) rfl ?_
      refine g_ws (ws' := mw κ ma (cst M 21 1 (q + 1 + 1 + 1) (uI (uI (uI f q (M 0 c)) (q + 1) (M 1 c)) (q + 1 + 1) (M 2 c)) M)) (by rw [uI_self]; rfl) ?_
      refine g_aload_n F 1 dX6_carryAll_95 rfl ?_
      refine gm_get_3 F dX6_carryAll_96 ?_
      refine g_iload_n F 0 dX6_carryAll_99 rfl ?_
      refine g_aload_n F 1 dX6_carryAll_100 rfl ?_
      refine g_aload_n F 1 dX6_carryAll_101 rfl ?_
      refine gm_get_3 F dX6_carryAll_102 ?_
      refine g_iload_n F 0 dX6_carryAll_105 rfl ?_
      refine gm_ald_3 F (by omega) dX6_carryAll_106 ?_
      refine g_top (y := iI (M 3 c)) rfl ?_
      refine g_callI F (stk := [.int (iI (M 3 c)), .ref (ma 100), .int (iI c), .ref (ma 3)]) (st := [.int (iI c), .ref (ma 3)]) (k_X6_carry_t21 κ ma M M (uI (uI (uI f q (M 0 c)) (q + 1) (M 1 c)) (q + 1 + 1) (M 2 c)) (q + 1 + 1 + 1) (M 3 c) (by omega)) cal_X6_carry lm_X6_212 0 rfl rfl rfl rfl (by decide) rfl (Nat.le_of_ble_eq_true rfl) dX6_carryAll_107 (fun r107 ws107 _ hr107 => ?_)
      obtain ⟨rfl, rfl⟩ := hr107
      refine gm_ast_3 F (by omega) dX6_carryAll_110 ?_
      refine g_ws (ws' := mw κ ma (mA (cst M 21 1 (q + 1 + 1 + 1 + 1) (uI (uI (uI (uI f q (M 0 c)) (q + 1) (M 1 c)) (q + 1 + 1) (M 2 c)) (q + 1 + 1 + 1) (M 3 c)) M) 3 (uI (M 3) c (M 3 c)))) rfl ?_
      refine g_ws (ws' := mw κ ma (cst M 21 1 (q + 1 + 1 + 1 + 1) (uI (uI (uI (uI f q (M 0 c)) (q + 1) (M 1 c)) (q + 1 + 1) (M 2 c)) (q + 1 + 1 + 1) (M 3 c)) M)) (by rw [uI_self]; rfl) ?_
      refine g_iinc F (lv' := [(3, .int (iI (c + 1))), (0, .ref (ma 100)), (1, .ref (ma 21)), (2, .int (iI 1))]) 0 dX6_carryAll_111 rfl (by decide) rfl ?_
      refine g_goto F 41 dX6_carryAll_114 (by decide) ?_
      refine g_sub F (lv' := [(3, .int (iI (c + 1))), (0, .ref (ma 100)), (1, .ref (ma 21)), (2, .int (iI 1))]) [0, 1, 2, 3] rfl ?_
      have e0 : snapF M (q) = M 0 c := snap_c M hc.1 (by omega) (by decide : (0 : Int) ≤ 0) (by decide) (by omega)
      have e1 : snapF M (q + 1) = M 1 c := snap_c M hc.1 (by omega) (by decide : (0 : Int) ≤ 1) (by decide) (by omega)
      have e2 : snapF M (q + 1 + 1) = M 2 c := snap_c M hc.1 (by omega) (by decide : (0 : Int) ≤ 2) (by decide) (by omega)
      have e3 : snapF M (q + 1 + 1 + 1) = M 3 c := snap_c M hc.1 (by omega) (by decide : (0 : Int) ≤ 3) (by decide) (by omega)
      exact ih41 _ (by omega) (c + 1) (q + 1 + 1 + 1 + 1) (uI (uI (uI (uI f q (M 0 c)) (q + 1) (M 1 c)) (q + 1 + 1) (M 2 c)) (q + 1 + 1 + 1) (M 3 c)) rfl (by omega) (by omega) (by rw [hf, ← e0, upTo_s _ _ (by omega), ← e1, upTo_s _ _ (by omega), ← e2, upTo_s _ _ (by omega), ← e3, upTo_s _ _ (by omega)])
  refine g_sub F (lv' := [(3, .int (iI 0)), (0, .ref (ma 100)), (1, .ref (ma 21)), (2, .int (iI 1))]) [0, 1, 2, 3] rfl ?_
  exact L41 _ 0 (0 + 1 + 1) (uI (uI (M 21) 0 (M 4 0)) (0 + 1) (M 5 0)) rfl (by omega) (by omega) (by rw [← upTo_s _ _ (by decide : (0 : Int) ≤ 0 + 1), ← upTo_s _ _ (by decide : (0 : Int) ≤ 0), upTo_0]; rfl)
theorem cst_kst_21 {κ : Kp} {ma : Nat → Nat} (M M0 : MS) : mw κ ma (cst M 21 0 (0 + 1 + 1) (M 21) (mA (mA M 4 (fun _ => M0 4 0)) 5 (fun _ => M0 5 0))) = mw κ ma (cst M 21 0 (0 + 1 + 1) (M 21) (kst M M0 0 0)) := by
  have e : kst M M0 0 0 = mA (mA M 4 (M0 4)) 5 (M0 5) := by
    funext a
    unfold kst mA
    rw [upTo_0]
    repeat' split
    all_goals first | rfl | omega | (subst_vars; rfl)
  rw [e]
  rfl
set_option maxRecDepth 100000 in
set_option maxHeartbeats 4000000 in
theorem k_X6_carryAll_f21 (κ : Kp) (ma : Nat → Nat) (M M0 : MS) (hS : ∀ z : Int, 0 ≤ z → z < 74 → M 21 z = snapF M0 z) : mV κ yX6_carryAll cX6_carryAll 4 1 [.ref (ma 100), .ref (ma 21), .int (iI 0)] (mw κ ma M) (is0 (mw κ ma (cst M 21 0 74 (M 21) M0))) := by
  refine mV_of (by decide) (Nat.le_of_ble_eq_true rfl) (fun E F K => ?_)
  refine g_lv (lv' := [(0, .ref (ma 100)), (1, .ref (ma 21)), (2, .int (iI 0))]) rfl ?_
  refine g_aload_n F 0 dX6_carryAll_0 rfl ?_
  refine g_aload_n F 1 dX6_carryAll_1 rfl ?_
  refine gm_put_25_21 F dX6_carryAll_2 ?_
  refine g_aload_n F 0 dX6_carryAll_5 rfl ?_
  refine g_iload_n F 2 dX6_carryAll_6 rfl ?_
  refine gm_put_24 F (by omega) dX6_carryAll_7 ?_
  refine g_aload_n F 0 dX6_carryAll_10 rfl ?_
  refine g_iconst F dX6_carryAll_11 ?_
  refine gm_put_23 F dX6_carryAll_12 ?_
  refine g_ws (ws' := mw κ ma (cst M 21 0 0 (M 21) M)) rfl ?_
  refine g_aload_n F 0 dX6_carryAll_15 rfl ?_
  refine g_aload_n F 0 dX6_carryAll_16 rfl ?_
  refine g_aload_n F 0 dX6_carryAll_17 rfl ?_
  refine gm_get_4 F dX6_carryAll_18 ?_
  refine g_top (y := iI (M 4 0)) rfl ?_
  refine g_callI F (stk := [.int (iI (M 4 0)), .ref (ma 100), .ref (ma 100)]) (st := [.ref (ma 100)]) (k_X6_carry_f21 κ ma M M (M 21) 0 (M 4 0) (by omega)) cal_X6_carry lm_X6_212 0 rfl rfl rfl rfl (by decide) rfl (Nat.le_of_ble_eq_true rfl) dX6_carryAll_21 (fun r21 ws21 _ hr21 => ?_)
  obtain ⟨rfl, rfl⟩ := hr21
  refine g_top (y := iI (M0 4 0)) (iIc (hS 0 (by decide) (by decide))) ?_
  refine gm_put_4 F dX6_carryAll_24 ?_
  refine g_ws (ws' := mw κ ma (cst M 21 0 (0 + 1) (M 21) (mA M 4 (fun _ => M0 4 0)))) rfl ?_
  refine g_aload_n F 0 dX6_carryAll_27 rfl ?_
  refine g_aload_n F 0 dX6_carryAll_28 rfl ?_
  refine g_aload_n F 0 dX6_carryAll_29 rfl ?_
  refine gm_get_5 F dX6_carryAll_30 ?_
  refine g_top (y := iI (M 5 0)) rfl ?_
  refine g_callI F (stk := [.int (iI (M 5 0)), .ref (ma 100), .ref (ma 100)]) (st := [.ref (ma 100)]) (k_X6_carry_f21 κ ma M (mA M 4 (fun _ => M0 4 0)) (M 21) (0 + 1) (M 5 0) (by omega)) cal_X6_carry lm_X6_212 0 rfl rfl rfl rfl (by decide) rfl (Nat.le_of_ble_eq_true rfl) dX6_carryAll_33 (fun r33 ws33 _ hr33 => ?_)
  obtain ⟨rfl, rfl⟩ := hr33
  refine g_top (y := iI (M0 5 0)) (iIc (hS (0 + 1) (by decide) (by decide))) ?_
  refine gm_put_5 F dX6_carryAll_36 ?_
  refine g_ws (ws' := mw κ ma (cst M 21 0 (0 + 1 + 1) (M 21) (mA (mA M 4 (fun _ => M0 4 0)) 5 (fun _ => M0 5 0)))) rfl ?_
  refine g_iconst F dX6_carryAll_39 ?_
  refine g_istore_n F (lv' := [(3, .int (iI 0)), (0, .ref (ma 100)), (1, .ref (ma 21)), (2, .int (iI 0))]) 3 dX6_carryAll_40 rfl (by decide) rfl ?_
  have L41 : ∀ (mz41 : Nat) (c : Int) (q : Int), (12 - c).toNat = mz41 → (0 ≤ c ∧ c ≤ 12) → (q = 2 + 4 * c) → G E (mw κ ma (cst M 21 0 q (M 21) (kst M M0 c 0))) [(3, .int (iI c)), (0, .ref (ma 100)), (1, .ref (ma 21)), (2, .int (iI 0))] 41 [] := by
    intro mz41
    induction mz41 using Nat.strongRecOn with
    | _ mz41 ih41 =>
    intro c q hmz41 hc hq
    refine g_iload_n F 0 dX6_carryAll_41 rfl ?_
    refine g_bipush F dX6_carryAll_42 (by decide +kernel) ?_
    refine g_icmp_ge F 117 (by omega) dX6_carryAll_44 (by decide) (fun c44 => ?_) (fun c44 => ?_)
    · skip
      refine g_iconst F dX6_carryAll_117 ?_
      refine g_istore_n F (lv' := [(3, .int (iI 0)), (0, .ref (ma 100)), (1, .ref (ma 21)), (2, .int (iI 0))]) 3 dX6_carryAll_118 rfl (by decide) rfl ?_
      have L119 : ∀ (mz119 : Nat) (p : Int) (q2 : Int), (6 - p).toNat = mz119 → (0 ≤ p ∧ p ≤ 6) → (q2 = 50 + 4 * p) → G E (mw κ ma (cst M 21 0 q2 (M 21) (kst M M0 12 p))) [(3, .int (iI p)), (0, .ref (ma 100)), (1, .ref (ma 21)), (2, .int (iI 0))] 119 [] := by
        intro mz119
        induction mz119 using Nat.strongRecOn with
        | _ mz119 ih119 =>
        intro p q2 hmz119 hp hq2
        refine g_iload_n F 0 dX6_carryAll_119 rfl ?_
        refine g_bipush F dX6_carryAll_120 (by decide +kernel) ?_
        refine g_icmp_ge F 195 (by omega) dX6_carryAll_122 (by decide) (fun c122 => ?_) (fun c122 => ?_)
        · skip
          refine g_ws (ws' := mw κ ma (mA (cst M 21 0 q2 (M 21) (kst M M0 12 p)) 0 (upTo (M 0) (M0 0) 12))) rfl ?_
          refine gm_weq_0 (g := M0 0) (fun j a b => upTo_in a b) ?_
          refine g_ws (ws' := mw κ ma (mA (mA (cst M 21 0 q2 (M 21) (kst M M0 12 p)) 0 (M0 0)) 1 (upTo (M 1) (M0 1) 12))) rfl ?_
          refine gm_weq_1 (g := M0 1) (fun j a b => upTo_in a b) ?_
          refine g_ws (ws' := mw κ ma (mA (mA (mA (cst M 21 0 q2 (M 21) (kst M M0 12 p)) 0 (M0 0)) 1 (M0 1)) 2 (upTo (M 2) (M0 2) 12))) rfl ?_
          refine gm_weq_2 (g := M0 2) (fun j a b => upTo_in a b) ?_
          refine g_ws (ws' := mw κ ma (mA (mA (mA (mA (cst M 21 0 q2 (M 21) (kst M M0 12 p)) 0 (M0 0)) 1 (M0 1)) 2 (M0 2)) 3 (upTo (M 3) (M0 3) 12))) rfl ?_
          refine gm_weq_3 (g := M0 3) (fun j a b => upTo_in a b) ?_
          refine g_ws (ws' := mw κ ma (mA (mA (mA (mA (mA (cst M 21 0 q2 (M 21) (kst M M0 12 p)) 0 (M0 0)) 1 (M0 1)) 2 (M0 2)) 3 (M0 3)) 6 (upTo (M 6) (M0 6) p))) rfl ?_
          refine gm_weq_6 (g := M0 6) (fun j a b => by rw [show p = 6 by omega]; exact upTo_in a b) ?_
          refine g_ws (ws' := mw κ ma (mA (mA (mA (mA (mA (mA (cst M 21 0 q2 (M 21) (kst M M0 12 p)) 0 (M0 0)) 1 (M0 1)) 2 (M0 2)) 3 (M0 3)) 6 (M0 6)) 7 (upTo (M 7) (M0 7) p))) rfl ?_
          refine gm_weq_7 (g := M0 7) (fun j a b => by rw [show p = 6 by omega]; exact upTo_in a b) ?_
          refine g_ws (ws' := mw κ ma (mA (mA (mA (mA (mA (mA (mA (cst M 21 0 q2 (M 21) (kst M M0 12 p)) 0 (M0 0)) 1 (M0 1)) 2 (M0 2)) 3 (M0 3)) 6 (M0 6)) 7 (M0 7)) 8 (upTo (M 8) (M0 8) p))) rfl ?_
          refine gm_weq_8 (g := M0 8) (fun j a b => by rw [show p = 6 by omega]; exact upTo_in a b) ?_
          refine g_ws (ws' := mw κ ma (mA (mA (mA (mA (mA (mA (mA (mA (cst M 21 0 q2 (M 21) (kst M M0 12 p)) 0 (M0 0)) 1 (M0 1)) 2 (M0 2)) 3 (M0 3)) 6 (M0 6)) 7 (M0 7)) 8 (M0 8)) 9 (upTo (M 9) (M0 9) p))) rfl ?_
          refine gm_weq_9 (g := M0 9) (fun j a b => by rw [show p = 6 by omega]; exact upTo_in a b) ?_
          exact K mw_same (by rw [hq2, show p = 6 by omega]; rfl) dX6_carryAll_195
        · skip
          refine g_aload_n F 1 dX6_carryAll_125 rfl ?_
          refine gm_get_6 F dX6_carryAll_126 ?_
          refine g_iload_n F 0 dX6_carryAll_129 rfl ?_
          refine g_aload_n F 1 dX6_carryAll_130 rfl ?_
          refine g_aload_n F 1 dX6_carryAll_131 rfl ?_
          refine gm_get_6 F dX6_carryAll_132 ?_
          refine g_iload_n F 0 dX6_carryAll_135 rfl ?_
          refine gm_ald_6 F (by omega) dX6_carryAll_136 ?_
          refine g_top (y := iI ((upTo (M 6) (M0 6) p) p)) rfl ?_
          refine g_callI F (stk := [.int (iI ((upTo (M 6) (M0 6) p) p)), .ref (ma 100), .int (iI p), .ref (ma 6)]) (st := [.int (iI p), .ref (ma 6)]) (k_X6_carry_f21 κ ma M (kst M M0 12 p) (M 21) q2 ((upTo (M 6) (M0 6) p) p) (by omega)) cal_X6_carry lm_X6_212 0 rfl rfl rfl rfl (by decide) rfl (Nat.le_of_ble_eq_true rfl) dX6_carryAll_137 (fun r137 ws137 _ hr137 => ?_)
          obtain ⟨rfl, rfl⟩ := hr137
          refine g_top (y := iI (M0 6 p)) (iIc ((hS _ (by omega) (by omega)).trans (snap_p M0 hp.1 (by omega) (by decide : (0 : Int) ≤ 0) (by decide) (by omega)))) ?_
          refine gm_ast_6 F (by omega) dX6_carryAll_140 ?_
          refine g_ws (ws' := mw κ ma (mA (cst M 21 0 (q2 + 1) (M 21) (kst M M0 12 p)) 6 (uI (upTo (M 6) (M0 6) p) p (M0 6 p)))) rfl ?_
          refine g_ws (ws' := mw κ ma (cst M 21 0 (q2 + 1) (M 21) (mA (kst M M0 12 p) 6 (uI (upTo (M 6) (M0 6) p) p (M0 6 p))))) rfl ?_
          refine g_aload_n F 1 dX6_carryAll_141 rfl ?_
          refine gm_get_7 F dX6_carryAll_142 ?_
          refine g_iload_n F 0 dX6_carryAll_145 rfl ?_
          refine g_aload_n F 1 dX6_carryAll_146 rfl ?_
          refine g_aload_n F 1 dX6_carryAll_147 rfl ?_
          refine gm_get_7 F dX6_carryAll_148 ?_
          refine g_iload_n F 0 dX6_carryAll_151 rfl ?_
          refine gm_ald_7 F (by omega) dX6_carryAll_152 ?_
          refine g_top (y := iI ((upTo (M 7) (M0 7) p) p)) rfl ?_
          refine g_callI F (stk := [.int (iI ((upTo (M 7) (M0 7) p) p)), .ref (ma 100), .int (iI p), .ref (ma 7)]) (st := [.int (iI p), .ref (ma 7)]) (k_X6_carry_f21 κ ma M (mA (kst M M0 12 p) 6 (uI (upTo (M 6) (M0 6) p) p (M0 6 p))) (M 21) (q2 + 1) ((upTo (M 7) (M0 7) p) p) (by omega)) cal_X6_carry lm_X6_212 0 rfl rfl rfl rfl (by decide) rfl (Nat.le_of_ble_eq_true rfl) dX6_carryAll_153 (fun r153 ws153 _ hr153 => ?_)
          obtain ⟨rfl, rfl⟩ := hr153
          refine g_top (y := iI (M0 7 p)) (iIc ((hS _ (by omega) (by omega)).trans (snap_p M0 hp.1 (by omega) (by decide : (0 : Int) ≤ 1) (by decide) (by omega)))) ?_
          refine gm_ast_7 F (by omega) dX6_carryAll_156 ?_
          refine g_ws (ws' := mw κ ma (mA (cst M 21 0 (q2 + 1 + 1) (M 21) (mA (kst M M0 12 p) 6 (uI (upTo (M 6) (M0 6) p) p (M0 6 p)))) 7 (uI (upTo (M 7) (M0 7) p) p (M0 7 p)))) rfl ?_
          refine g_ws (ws' := mw κ ma (cst M 21 0 (q2 + 1 + 1) (M 21) (mA (mA (kst M M0 12 p) 6 (uI (upTo (M 6) (M0 6) p) p (M0 6 p))) 7 (uI (upTo (M 7) (M0 7) p) p (M0 7 p))))) rfl ?_
          refine g_aload_n F 1 dX6_carryAll_157 rfl ?_
          refine gm_get_8 F dX6_carryAll_158 ?_
          refine g_iload_n F 0 dX6_carryAll_161 rfl ?_
          refine g_aload_n F 1 dX6_carryAll_162 rfl ?_
          refine g_aload_n F 1 dX6_carryAll_163 rfl ?_
          refine gm_get_8 F dX6_carryAll_164 ?_
          refine g_iload_n F 0 dX6_carryAll_167 rfl ?_
          refine gm_ald_8 F (by omega) dX6_carryAll_168 ?_
          refine g_top (y := iI ((upTo (M 8) (M0 8) p) p)) rfl ?_
          refine g_callI F (stk := [.int (iI ((upTo (M 8) (M0 8) p) p)), .ref (ma 100), .int (iI p), .ref (ma 8)]) (st := [.int (iI p), .ref (ma 8)]) (k_X6_carry_f21 κ ma M (mA (mA (kst M M0 12 p) 6 (uI (upTo (M 6) (M0 6) p) p (M0 6 p))) 7 (uI (upTo (M 7) (M0 7) p) p (M0 7 p))) (M 21) (q2 + 1 + 1) ((upTo (M 8) (M0 8) p) p) (by omega)) cal_X6_carry lm_X6_212 0 rfl rfl rfl rfl (by decide) rfl (Nat.le_of_ble_eq_true rfl) dX6_carryAll_169 (fun r169 ws169 _ hr169 => ?_)
          obtain ⟨rfl, rfl⟩ := hr169
          refine g_top (y := iI (M0 8 p)) (iIc ((hS _ (by omega) (by omega)).trans (snap_p M0 hp.1 (by omega) (by decide : (0 : Int) ≤ 2) (by decide) (by omega)))) ?_
          refine gm_ast_8 F (by omega) dX6_carryAll_172 ?_
          refine g_ws (ws' := mw κ ma (mA (cst M 21 0 (q2 + 1 + 1 + 1) (M 21) (mA (mA (kst M M0 12 p) 6 (uI (upTo (M 6) (M0 6) p) p (M0 6 p))) 7 (uI (upTo (M 7) (M0 7) p) p (M0 7 p)))) 8 (uI (upTo (M 8) (M0 8) p) p (M0 8 p)))) rfl ?_
          refine g_ws (ws' := mw κ ma (cst M 21 0 (q2 + 1 + 1 + 1) (M 21) (mA (mA (mA (kst M M0 12 p) 6 (uI (upTo (M 6) (M0 6) p) p (M0 6 p))) 7 (uI (upTo (M 7) (M0 7) p) p (M0 7 p))) 8 (uI (upTo (M 8) (M0 8) p) p (M0 8 p))))) rfl ?_
          refine g_aload_n F 1 dX6_carryAll_173 rfl ?_
          refine gm_get_9 F dX6_carryAll_174 ?_
          refine g_iload_n F 0 dX6_carryAll_177 rfl ?_
          refine g_aload_n F 1 dX6_carryAll_178 rfl ?_
          refine g_aload_n F 1 dX6_carryAll_179 rfl ?_
          refine gm_get_9 F dX6_carryAll_180 ?_
          refine g_iload_n F 0 dX6_carryAll_183 rfl ?_
          refine gm_ald_9 F (by omega) dX6_carryAll_184 ?_
          refine g_top (y := iI ((upTo (M 9) (M0 9) p) p)) rfl ?_
          refine g_callI F (stk := [.int (iI ((upTo (M 9) (M0 9) p) p)), .ref (ma 100), .int (iI p), .ref (ma 9)]) (st := [.int (iI p), .ref (ma 9)]) (k_X6_carry_f21 κ ma M (mA (mA (mA (kst M M0 12 p) 6 (uI (upTo (M 6) (M0 6) p) p (M0 6 p))) 7 (uI (upTo (M 7) (M0 7) p) p (M0 7 p))) 8 (uI (upTo (M 8) (M0 8) p) p (M0 8 p))) (M 21) (q2 + 1 + 1 + 1) ((upTo (M 9) (M0 9) p) p) (by omega)) cal_X6_carry lm_X6_212 0 rfl rfl rfl rfl (by decide) rfl (Nat.le_of_ble_eq_true rfl) dX6_carryAll_185 (fun r185 ws185 _ hr185 => ?_)
          obtain ⟨rfl, rfl⟩ := hr185
          refine g_top (y := iI (M0 9 p)) (iIc ((hS _ (by omega) (by omega)).trans (snap_p M0 hp.1 (by omega) (by decide : (0 : Int) ≤ 3) (by decide) (by omega)))) ?_
          refine gm_ast_9 F (by omega) dX6_carryAll_188 ?_
          refine g_ws (ws' := mw κ ma (mA (cst M 21 0 (q2 + 1 + 1 + 1 + 1) (M 21) (mA (mA (mA (kst M M0 12 p) 6 (uI (upTo (M 6) (M0 6) p) p (M0 6 p))) 7 (uI (upTo (M 7) (M0 7) p) p (M0 7 p))) 8 (uI (upTo (M 8) (M0 8) p) p (M0 8 p)))) 9 (uI (upTo (M 9) (M0 9) p) p (M0 9 p)))) rfl ?_
          refine g_ws (ws' := mw κ ma (cst M 21 0 (q2 + 1 + 1 + 1 + 1) (M 21) (mA (mA (mA (mA (kst M M0 12 p) 6 (uI (upTo (M 6) (M0 6) p) p (M0 6 p))) 7 (uI (upTo (M 7) (M0 7) p) p (M0 7 p))) 8 (uI (upTo (M 8) (M0 8) p) p (M0 8 p))) 9 (uI (upTo (M 9) (M0 9) p) p (M0 9 p))))) rfl ?_
          refine g_iinc F (lv' := [(3, .int (iI (p + 1))), (0, .ref (ma 100)), (1, .ref (ma 21)), (2, .int (iI 0))]) 0 dX6_carryAll_189 rfl (by decide) rfl ?_
          refine g_goto F 119 dX6_carryAll_192 (by decide) ?_
          refine g_sub F (lv' := [(3, .int (iI (p + 1))), (0, .ref (ma 100)), (1, .ref (ma 21)), (2, .int (iI 0))]) [0, 1, 2, 3] rfl ?_
          refine g_ws (ws' := mw κ ma (cst M 21 0 (q2 + 1 + 1 + 1 + 1) (M 21) (kst M M0 12 (p + 1)))) (by rw [upTo_s _ _ hp.1, upTo_s _ _ hp.1, upTo_s _ _ hp.1, upTo_s _ _ hp.1]; rfl) ?_
          exact ih119 _ (by omega) (p + 1) (q2 + 1 + 1 + 1 + 1) rfl (by omega) (by omega)
      refine g_sub F (lv' := [(3, .int (iI 0)), (0, .ref (ma 100)), (1, .ref (ma 21)), (2, .int (iI 0))]) [0, 1, 2, 3] rfl ?_
      refine g_ws (ws' := mw κ ma (cst M 21 0 q (M 21) (kst M M0 12 0))) (by rw [show c = 12 by omega]) ?_
      exact L119 _ 0 q rfl (by omega) (by omega)
    · skip
      refine g_aload_n F 1 dX6_carryAll_47 rfl ?_
      refine gm_get_0 F dX6_carryAll_48 ?_
      refine g_iload_n F 0 dX6_carryAll_51 rfl ?_
      refine g_aload_n F 1 dX6_carryAll_52 rfl ?_
      refine g_aload_n F 1 dX6_carryAll_53 rfl ?_
      refine gm_get_0 F dX6_carryAll_54 ?_
      refine g_iload_n F 0 dX6_carryAll_57 rfl ?_
      refine gm_ald_0 F (by omega) dX6_carryAll_58 ?_
      refine g_top (y := iI ((upTo (M 0) (M0 0) c) c)) rfl ?_
      refine g_callI F (stk := [.int (iI ((upTo (M 0) (M0 0) c) c)), .ref (ma 100), .int (iI c), .ref (ma 0)]) (st := [.int (iI c), .ref (ma 0)]) (k_X6_carry_f21 κ ma M (kst M M0 c 0) (M 21) q ((upTo (M 0) (M0 0) c) c) (by omega)) cal_X6_carry lm_X6_212 0 rfl rfl rfl rfl (by decide) rfl (Nat.le_of_ble_eq_true rfl) dX6_carryAll_59 (fun r59 ws59 _ hr59 => ?_)
      obtain ⟨rfl, rfl⟩ := hr59
      refine g_top (y := iI (M0 0 c)) (iIc ((hS _ (by omega) (by omega)).trans (snap_c M0 hc.1 (by omega) (by decide : (0 : Int) ≤ 0) (by decide) (by omega)))) ?_
      refine gm_ast_0 F (by omega) dX6_carryAll_62 ?_
      refine g_ws (ws' := mw κ ma (mA (cst M 21 0 (q + 1) (M 21) (kst M M0 c 0)) 0 (uI (upTo (M 0) (M0 0) c) c (M0 0 c)))) rfl ?_
      refine g_ws (ws' := mw κ ma (cst M 21 0 (q + 1) (M 21) (mA (kst M M0 c 0) 0 (uI (upTo (M 0) (M0 0) c) c (M0 0 c))))) rfl ?_
      refine g_aload_n F 1 dX6_carryAll_63 rfl ?_
      refine gm_get_1 F dX6_carryAll_64 ?_
      refine g_iload_n F 0 dX6_carryAll_67 rfl ?_
      refine g_aload_n F 1 dX6_carryAll_68 rfl ?_
      refine g_aload_n F 1 dX6_carryAll_69 rfl ?_
      refine gm_get_1 F dX6_carryAll_70 ?_
      refine g_iload_n F 0 dX6_carryAll_73 rfl ?_
      refine gm_ald_1 F (by omega) dX6_carryAll_74 ?_
      refine g_top (y := iI ((upTo (M 1) (M0 1) c) c)) rfl ?_
      refine g_callI F (stk := [.int (iI ((upTo (M 1) (M0 1) c) c)), .ref (ma 100), .int (iI c), .ref (ma 1)]) (st := [.int (iI c), .ref (ma 1)]) (k_X6_carry_f21 κ ma M (mA (kst M M0 c 0) 0 (uI (upTo (M 0) (M0 0) c) c (M0 0 c))) (M 21) (q + 1) ((upTo (M 1) (M0 1) c) c) (by omega)) cal_X6_carry lm_X6_212 0 rfl rfl rfl rfl (by decide) rfl (Nat.le_of_ble_eq_true rfl) dX6_carryAll_75 (fun r75 ws75 _ hr75 => ?_)
      obtain ⟨rfl, rfl⟩ := hr75
      refine g_top (y := iI (M0 1 c)) (iIc ((hS _ (by omega) (by omega)).trans (snap_c M0 hc.1 (by omega) (by decide : (0 : Int) ≤ 1) (by decide) (by omega)))) ?_
      refine gm_ast_1 F (by omega) dX6_carryAll_78 ?_
      refine g_ws (ws' := mw κ ma (mA (cst M 21 0 (q + 1 + 1) (M 21) (mA (kst M M0 c 0) 0 (uI (upTo (M 0) (M0 0) c) c (M0 0 c)))) 1 (uI (upTo (M 1) (M0 1) c) c (M0 1 c)))) rfl ?_
      refine g_ws (ws' := mw κ ma (cst M 21 0 (q + 1 + 1) (M 21) (mA (mA (kst M M0 c 0) 0 (uI (upTo (M 0) (M0 0) c) c (M0 0 c))) 1 (uI (upTo (M 1) (M0 1) c) c (M0 1 c))))) rfl ?_
      refine g_aload_n F 1 dX6_carryAll_79 rfl ?_
      refine gm_get_2 F dX6_carryAll_80 ?_
      refine g_iload_n F 0 dX6_carryAll_83 rfl ?_
      refine g_aload_n F 1 dX6_carryAll_84 rfl ?_
      refine g_aload_n F 1 dX6_carryAll_85 rfl ?_
      refine gm_get_2 F dX6_carryAll_86 ?_
      refine g_iload_n F 0 dX6_carryAll_89 rfl ?_
      refine gm_ald_2 F (by omega) dX6_carryAll_90 ?_
      refine g_top (y := iI ((upTo (M 2) (M0 2) c) c)) rfl ?_
      refine g_callI F (stk := [.int (iI ((upTo (M 2) (M0 2) c) c)), .ref (ma 100), .int (iI c), .ref (ma 2)]) (st := [.int (iI c), .ref (ma 2)]) (k_X6_carry_f21 κ ma M (mA (mA (kst M M0 c 0) 0 (uI (upTo (M 0) (M0 0) c) c (M0 0 c))) 1 (uI (upTo (M 1) (M0 1) c) c (M0 1 c))) (M 21) (q + 1 + 1) ((upTo (M 2) (M0 2) c) c) (by omega)) cal_X6_carry lm_X6_212 0 rfl rfl rfl rfl (by decide) rfl (Nat.le_of_ble_eq_true rfl) dX6_carryAll_91 (fun r91 ws91 _ hr91 => ?_)
      obtain ⟨rfl, rfl⟩ := hr91
      refine g_top (y := iI (M0 2 c)) (iIc ((hS _ (by omega) (by omega)).trans (snap_c M0 hc.1 (by omega) (by decide : (0 : Int) ≤ 2) (by decide) (by omega)))) ?_
      refine gm_ast_2 F (by omega) dX6_carryAll_94 ?_
      refine g_ws (ws' := mw κ ma (mA (cst M 21 0 (q + 1 + 1 + 1) (M 21) (mA (mA (kst M M0 c 0) 0 (uI (upTo (M 0) (M0 0) c) c (M0 0 c))) 1 (uI (upTo (M 1) (M0 1) c) c (M0 1 c)))) 2 (uI (upTo (M 2) (M0 2) c) c (M0 2 c)))) rfl ?_
      refine g_ws (ws' := mw κ ma (cst M 21 0 (q + 1 + 1 + 1) (M 21) (mA (mA (mA (kst M M0 c 0) 0 (uI (upTo (M 0) (M0 0) c) c (M0 0 c))) 1 (uI (upTo (M 1) (M0 1) c) c (M0 1 c))) 2 (uI (upTo (M 2) (M0 2) c) c (M0 2 c))))) rfl ?_
      refine g_aload_n F 1 dX6_carryAll_95 rfl ?_
      refine gm_get_3 F dX6_carryAll_96 ?_
      refine g_iload_n F 0 dX6_carryAll_99 rfl ?_
      refine g_aload_n F 1 dX6_carryAll_100 rfl ?_
      refine g_aload_n F 1 dX6_carryAll_101 rfl ?_
      refine gm_get_3 F dX6_carryAll_102 ?_
      refine g_iload_n F 0 dX6_carryAll_105 rfl ?_
      refine gm_ald_3 F (by omega) dX6_carryAll_106 ?_
      refine g_top (y := iI ((upTo (M 3) (M0 3) c) c)) rfl ?_
      refine g_callI F (stk := [.int (iI ((upTo (M 3) (M0 3) c) c)), .ref (ma 100), .int (iI c), .ref (ma 3)]) (st := [.int (iI c), .ref (ma 3)]) (k_X6_carry_f21 κ ma M (mA (mA (mA (kst M M0 c 0) 0 (uI (upTo (M 0) (M0 0) c) c (M0 0 c))) 1 (uI (upTo (M 1) (M0 1) c) c (M0 1 c))) 2 (uI (upTo (M 2) (M0 2) c) c (M0 2 c))) (M 21) (q + 1 + 1 + 1) ((upTo (M 3) (M0 3) c) c) (by omega)) cal_X6_carry lm_X6_212 0 rfl rfl rfl rfl (by decide) rfl (Nat.le_of_ble_eq_true rfl) dX6_carryAll_107 (fun r107 ws107 _ hr107 => ?_)
      obtain ⟨rfl, rfl⟩ := hr107
      refine g_top (y := iI (M0 3 c)) (iIc ((hS _ (by omega) (by omega)).trans (snap_c M0 hc.1 (by omega) (by decide : (0 : Int) ≤ 3) (by decide) (by omega)))) ?_
      refine gm_ast_3 F (by omega) dX6_carryAll_110 ?_
      refine g_ws (ws' := mw κ ma (mA (cst M 21 0 (q + 1 + 1 + 1 + 1) (M 21) (mA (mA (mA (kst M M0 c 0) 0 (uI (upTo (M 0) (M0 0) c) c (M0 0 c))) 1 (uI (upTo (M 1) (M0 1) c) c (M0 1 c))) 2 (uI (upTo (M 2) (M0 2) c) c (M0 2 c)))) 3 (uI (upTo (M 3) (M0 3) c) c (M0 3 c)))) rfl ?_
      refine g_ws (ws' := mw κ ma (cst M 21 0 (q + 1 + 1 + 1 + 1) (M 21) (mA (mA (mA (mA (kst M M0 c 0) 0 (uI (upTo (M 0) (M0 0) c) c (M0 0 c))) 1 (uI (upTo (M 1) (M0 1) c) c (M0 1 c))) 2 (uI (upTo (M 2) (M0 2) c) c (M0 2 c))) 3 (uI (upTo (M 3) (M0 3) c) c (M0 3 c))))) rfl ?_
      refine g_iinc F (lv' := [(3, .int (iI (c + 1))), (0, .ref (ma 100)), (1, .ref (ma 21)), (2, .int (iI 0))]) 0 dX6_carryAll_111 rfl (by decide) rfl ?_
      refine g_goto F 41 dX6_carryAll_114 (by decide) ?_
      refine g_sub F (lv' := [(3, .int (iI (c + 1))), (0, .ref (ma 100)), (1, .ref (ma 21)), (2, .int (iI 0))]) [0, 1, 2, 3] rfl ?_
      refine g_ws (ws' := mw κ ma (cst M 21 0 (q + 1 + 1 + 1 + 1) (M 21) (kst M M0 (c + 1) 0))) (by rw [upTo_s _ _ hc.1, upTo_s _ _ hc.1, upTo_s _ _ hc.1, upTo_s _ _ hc.1]; rfl) ?_
      exact ih41 _ (by omega) (c + 1) (q + 1 + 1 + 1 + 1) rfl (by omega) (by omega)
  refine g_sub F (lv' := [(3, .int (iI 0)), (0, .ref (ma 100)), (1, .ref (ma 21)), (2, .int (iI 0))]) [0, 1, 2, 3] rfl ?_
  refine g_ws (ws' := mw κ ma (cst M 21 0 (0 + 1 + 1) (M 21) (kst M M0 0 0))) (cst_kst_21 M M0) ?_
  exact L41 _ 0 (0 + 1 + 1) rfl (by omega) (by omega)
set_option maxRecDepth 100000 in
set_option maxHeartbeats 4000000 in
theorem k_X6_carryAll_t27 (κ : Kp) (ma : Nat → Nat) (M : MS)  : mV κ yX6_carryAll cX6_carryAll 4 1 [.ref (ma 100), .ref (ma 27), .int (iI 1)] (mw κ ma M) (is0 (mw κ ma (cst M 27 1 74 (snapF M) M))) := by
  refine mV_of (by decide) (Nat.le_of_ble_eq_true rfl) (fun E F K => ?_)
  refine g_lv (lv' := [(0, .ref (ma 100)), (1, .ref (ma 27)), (2, .int (iI 1))]) rfl ?_
  refine g_aload_n F 0 dX6_carryAll_0 rfl ?_
  refine g_aload_n F 1 dX6_carryAll_1 rfl ?_
  refine gm_put_25_27 F dX6_carryAll_2 ?_
  refine g_aload_n F 0 dX6_carryAll_5 rfl ?_
  refine g_iload_n F 2 dX6_carryAll_6 rfl ?_
  refine gm_put_24 F (by omega) dX6_carryAll_7 ?_
  refine g_aload_n F 0 dX6_carryAll_10 rfl ?_
  refine g_iconst F dX6_carryAll_11 ?_
  refine gm_put_23 F dX6_carryAll_12 ?_
  refine g_ws (ws' := mw κ ma (cst M 27 1 0 (M 27) M)) rfl ?_
  refine g_aload_n F 0 dX6_carryAll_15 rfl ?_
  refine g_aload_n F 0 dX6_carryAll_16 rfl ?_
  refine g_aload_n F 0 dX6_carryAll_17 rfl ?_
  refine gm_get_4 F dX6_carryAll_18 ?_
  refine g_top (y := iI (M 4 0)) rfl ?_
  refine g_callI F (stk := [.int (iI (M 4 0)), .ref (ma 100), .ref (ma 100)]) (st := [.ref (ma 100)]) (k_X6_carry_t27 κ ma M M (M 27) 0 (M 4 0) (by omega)) cal_X6_carry lm_X6_212 0 rfl rfl rfl rfl (by decide) rfl (Nat.le_of_ble_eq_true rfl) dX6_carryAll_21 (fun r21 ws21 _ hr21 => ?_)
  obtain ⟨rfl, rfl⟩ := hr21
  refine gm_put_4 F dX6_carryAll_24 ?_
  refine g_ws (ws' := mw κ ma (cst M 27 1 (0 + 1) (uI (M 27) 0 (M 4 0)) M)) rfl ?_
  refine g_aload_n F 0 dX6_carryAll_27 rfl ?_
  refine g_aload_n F 0 dX6_carryAll_28 rfl ?_
  refine g_aload_n F 0 dX6_carryAll_29 rfl ?_
  refine gm_get_5 F dX6_carryAll_30 ?_
  refine g_top (y := iI (M 5 0)) rfl ?_
  refine g_callI F (stk := [.int (iI (M 5 0)), .ref (ma 100), .ref (ma 100)]) (st := [.ref (ma 100)]) (k_X6_carry_t27 κ ma M M (uI (M 27) 0 (M 4 0)) (0 + 1) (M 5 0) (by omega)) cal_X6_carry lm_X6_212 0 rfl rfl rfl rfl (by decide) rfl (Nat.le_of_ble_eq_true rfl) dX6_carryAll_33 (fun r33 ws33 _ hr33 => ?_)
  obtain ⟨rfl, rfl⟩ := hr33
  refine gm_put_5 F dX6_carryAll_36 ?_
  refine g_ws (ws' := mw κ ma (cst M 27 1 (0 + 1 + 1) (uI (uI (M 27) 0 (M 4 0)) (0 + 1) (M 5 0)) M)) rfl ?_
  refine g_iconst F dX6_carryAll_39 ?_
  refine g_istore_n F (lv' := [(3, .int (iI 0)), (0, .ref (ma 100)), (1, .ref (ma 27)), (2, .int (iI 1))]) 3 dX6_carryAll_40 rfl (by decide) rfl ?_
  have L41 : ∀ (mz41 : Nat) (c : Int) (q : Int) (f : Int → Int), (12 - c).toNat = mz41 → (0 ≤ c ∧ c ≤ 12) → (q = 2 + 4 * c) → (f = upTo (M 27) (snapF M) q) → G E (mw κ ma (cst M 27 1 q f M)) [(3, .int (iI c)), (0, .ref (ma 100)), (1, .ref (ma 27)), (2, .int (iI 1))] 41 [] := by
    intro mz41
    induction mz41 using Nat.strongRecOn with
    | _ mz41 ih41 =>
    intro c q f hmz41 hc hq hf
    refine g_iload_n F 0 dX6_carryAll_41 rfl ?_
    refine g_bipush F dX6_carryAll_42 (by decide +kernel) ?_
    refine g_icmp_ge F 117 (by omega) dX6_carryAll_44 (by decide) (fun c44 => ?_) (fun c44 => ?_)
    · skip
      refine g_iconst F dX6_carryAll_117 ?_
      refine g_istore_n F (lv' := [(3, .int (iI 0)), (0, .ref (ma 100)), (1, .ref (ma 27)), (2, .int (iI 1))]) 3 dX6_carryAll_118 rfl (by decide) rfl ?_
      have L119 : ∀ (mz119 : Nat) (p : Int) (q2 : Int) (g : Int → Int), (6 - p).toNat = mz119 → (0 ≤ p ∧ p ≤ 6) → (q2 = 50 + 4 * p) → (g = upTo (M 27) (snapF M) q2) → G E (mw κ ma (cst M 27 1 q2 g M)) [(3, .int (iI p)), (0, .ref (ma 100)), (1, .ref (ma 27)), (2, .int (iI 1))] 119 [] := by
        intro mz119
        induction mz119 using Nat.strongRecOn with
        | _ mz119 ih119 =>
        intro p q2 g hmz119 hp hq2 hg
        refine g_iload_n F 0 dX6_carryAll_119 rfl ?_
        refine g_bipush F dX6_carryAll_120 (by decide +kernel) ?_
        refine g_icmp_ge F 195 (by omega) dX6_carryAll_122 (by decide) (fun c122 => ?_) (fun c122 => ?_)
        · skip
          refine g_ws (ws' := mw κ ma (mA (cst M 27 1 q2 g M) 27 g)) rfl ?_
          refine gm_weq_27 (g := snapF M) (fun j a b => by rw [hg, hq2, show p = 6 by omega]; exact upTo_in a b) ?_
          exact K mw_same (by rw [hq2, show p = 6 by omega]; rfl) dX6_carryAll_195
        · skip
          refine g_aload_n F 1 dX6_carryAll_125 rfl ?_
          refine gm_get_6 F dX6_carryAll_126 ?_
          refine g_iload_n F 0 dX6_carryAll_129 rfl ?_
          refine g_aload_n F 1 dX6_carryAll_130 rfl ?_
          refine g_aload_n F 1 dX6_carryAll_131 rfl ?_
          refine gm_get_6 F dX6_carryAll_132 ?_
          refine g_iload_n F 0 dX6_carryAll_135 rfl ?_
          refine gm_ald_6 F (by omega) dX6_carryAll_136 ?_
          refine g_top (y := iI (M 6 p)) rfl ?_
          refine g_callI F (stk := [.int (iI (M 6 p)), .ref (ma 100), .int (iI p), .ref (ma 6)]) (st := [.int (iI p), .ref (ma 6)]) (k_X6_carry_t27 κ ma M M g q2 (M 6 p) (by omega)) cal_X6_carry lm_X6_212 0 rfl rfl rfl rfl (by decide) rfl (Nat.le_of_ble_eq_true rfl) dX6_carryAll_137 (fun r137 ws137 _ hr137 => ?_)
          obtain ⟨rfl, rfl⟩ := hr137
          refine gm_ast_6 F (by omega) dX6_carryAll_140 ?_
          refine g_ws (ws' := mw κ ma (mA (cst M 27 1 (q2 + 1) (uI g q2 (M 6 p)) M) 6 (uI (M 6) p (M 6 p)))) rfl ?_
          refine g_ws (ws' := mw κ ma (cst M 27 1 (q2 + 1) (uI g q2 (M 6 p)) M)) (by rw [uI_self]; rfl) ?_
          refine g_aload_n F 1 dX6_carryAll_141 rfl ?_
          refine gm_get_7 F dX6_carryAll_142 ?_
          refine g_iload_n F 0 dX6_carryAll_145 rfl ?_
          refine g_aload_n F 1 dX6_carryAll_146 rfl ?_
          refine g_aload_n F 1 dX6_carryAll_147 rfl ?_
          refine gm_get_7 F dX6_carryAll_148 ?_
          refine g_iload_n F 0 dX6_carryAll_151 rfl ?_
          refine gm_ald_7 F (by omega) dX6_carryAll_152 ?_
          refine g_top (y := iI (M 7 p)) rfl ?_
          refine g_callI F (stk := [.int (iI (M 7 p)), .ref (ma 100), .int (iI p), .ref (ma 7)]) (st := [.int (iI p), .ref (ma 7)]) (k_X6_carry_t27 κ ma M M (uI g q2 (M 6 p)) (q2 + 1) (M 7 p) (by omega)) cal_X6_carry lm_X6_212 0 rfl rfl rfl rfl (by decide) rfl (Nat.le_of_ble_eq_true rfl) dX6_carryAll_153 (fun r153 ws153 _ hr153 => ?_)
          obtain ⟨rfl, rfl⟩ := hr153
          refine gm_ast_7 F (by omega) dX6_carryAll_156 ?_
          refine g_ws (ws' := mw κ ma (mA (cst M 27 1 (q2 + 1 + 1) (uI (uI g q2 (M 6 p)) (q2 + 1) (M 7 p)) M) 7 (uI (M 7) p (M 7 p)))) rfl ?_
          refine g_ws (ws' := mw κ ma (cst M 27 1 (q2 + 1 + 1) (uI (uI g q2 (M 6 p)) (q2 + 1) (M 7 p)) M)) (by rw [uI_self]; rfl) ?_
          refine g_aload_n F 1 dX6_carryAll_157 rfl ?_
          refine gm_get_8 F dX6_carryAll_158 ?_
          refine g_iload_n F 0 dX6_carryAll_161 rfl ?_
          refine g_aload_n F 1 dX6_carryAll_162 rfl ?_
          refine g_aload_n F 1 dX6_carryAll_163 rfl ?_
          refine gm_get_8 F dX6_carryAll_164 ?_
          refine g_iload_n F 0 dX6_carryAll_167 rfl ?_
          refine gm_ald_8 F (by omega) dX6_carryAll_168 ?_
          refine g_top (y := iI (M 8 p)) rfl ?_
          refine g_callI F (stk := [.int (iI (M 8 p)), .ref (ma 100), .int (iI p), .ref (ma 8)]) (st := [.int (iI p), .ref (ma 8)]) (k_X6_carry_t27 κ ma M M (uI (uI g q2 (M 6 p)) (q2 + 1) (M 7 p)) (q2 + 1 + 1) (M 8 p) (by omega)) cal_X6_carry lm_X6_212 0 rfl rfl rfl rfl (by decide) rfl (Nat.le_of_ble_eq_true rfl) dX6_carryAll_169 (fun r169 ws169 _ hr169 => ?_)
          obtain ⟨rfl, rfl⟩ := hr169
          refine gm_ast_8 F (by omega) dX6_carryAll_172 ?_
          refine g_ws (ws' := mw κ ma (mA (cst M 27 1 (q2 + 1 + 1 + 1) (uI (uI (uI g q2 (M 6 p)) (q2 + 1) (M 7 p)) (q2 + 1 + 1) (M 8 p)) M) 8 (uI (M 8) p (M 8 p)))) rfl ?_
          refine g_ws (ws' := mw κ ma (cst M 27 1 (q2 + 1 + 1 + 1) (uI (uI (uI g q2 (M 6 p)) (q2 + 1) (M 7 p)) (q2 + 1 + 1) (M 8 p)) M)) (by rw [uI_self]; rfl) ?_
          refine g_aload_n F 1 dX6_carryAll_173 rfl ?_
          refine gm_get_9 F dX6_carryAll_174 ?_
          refine g_iload_n F 0 dX6_carryAll_177 rfl ?_
          refine g_aload_n F 1 dX6_carryAll_178 rfl ?_
          refine g_aload_n F 1 dX6_carryAll_179 rfl ?_
          refine gm_get_9 F dX6_carryAll_180 ?_
          refine g_iload_n F 0 dX6_carryAll_183 rfl ?_
          refine gm_ald_9 F (by omega) dX6_carryAll_184 ?_
          refine g_top (y := iI (M 9 p)) rfl ?_
          refine g_callI F (stk := [.int (iI (M 9 p)), .ref (ma 100), .int (iI p), .ref (ma 9)]) (st := [.int (iI p), .ref (ma 9)]) (k_X6_carry_t27 κ ma M M (uI (uI (uI g q2 (M 6 p)) (q2 + 1) (M 7 p)) (q2 + 1 + 1) (M 8 p)) (q2 + 1 + 1 + 1) (M 9 p) (by omega)) cal_X6_carry lm_X6_212 0 rfl rfl rfl rfl (by decide) rfl (Nat.le_of_ble_eq_true rfl) dX6_carryAll_185 (fun r185 ws185 _ hr185 => ?_)
          obtain ⟨rfl, rfl⟩ := hr185
          refine gm_ast_9 F (by omega) dX6_carryAll_188 ?_
          refine g_ws (ws' := mw κ ma (mA (cst M 27 1 (q2 + 1 + 1 + 1 + 1) (uI (uI (uI (uI g q2 (M 6 p)) (q2 + 1) (M 7 p)) (q2 + 1 + 1) (M 8 p)) (q2 + 1 + 1 + 1) (M 9 p)) M) 9 (uI (M 9) p (M 9 p)))) rfl ?_
          refine g_ws (ws' := mw κ ma (cst M 27 1 (q2 + 1 + 1 + 1 + 1) (uI (uI (uI (uI g q2 (M 6 p)) (q2 + 1) (M 7 p)) (q2 + 1 + 1) (M 8 p)) (q2 + 1 + 1 + 1) (M 9 p)) M)) (by rw [uI_self]; rfl) ?_
          refine g_iinc F (lv' := [(3, .int (iI (p + 1))), (0, .ref (ma 100)), (1, .ref (ma 27)), (2, .int (iI 1))]) 0 dX6_carryAll_189 rfl (by decide) rfl ?_
          refine g_goto F 119 dX6_carryAll_192 (by decide) ?_
          refine g_sub F (lv' := [(3, .int (iI (p + 1))), (0, .ref (ma 100)), (1, .ref (ma 27)), (2, .int (iI 1))]) [0, 1, 2, 3] rfl ?_
          have e0 : snapF M (q2) = M 6 p := snap_p M hp.1 (by omega) (by decide : (0 : Int) ≤ 0) (by decide) (by omega)
          have e1 : snapF M (q2 + 1) = M 7 p := snap_p M hp.1 (by omega) (by decide : (0 : Int) ≤ 1) (by decide) (by omega)
          have e2 : snapF M (q2 + 1 + 1) = M 8 p := snap_p M hp.1 (by omega) (by decide : (0 : Int) ≤ 2) (by decide) (by omega)
          have e3 : snapF M (q2 + 1 + 1 + 1) = M 9 p := snap_p M hp.1 (by omega) (by decide : (0 : Int) ≤ 3) (by decide) (by omega)
          exact ih119 _ (by omega) (p + 1) (q2 + 1 + 1 + 1 + 1) (uI (uI (uI (uI g q2 (M 6 p)) (q2 + 1) (M 7 p)) (q2 + 1 + 1) (M 8 p)) (q2 + 1 + 1 + 1) (M 9 p)) rfl (by omega) (by omega) (by rw [hg, ← e0, upTo_s _ _ (by omega), ← e1, upTo_s _ _ (by omega), ← e2, upTo_s _ _ (by omega), ← e3, upTo_s _ _ (by omega)])
      refine g_sub F (lv' := [(3, .int (iI 0)), (0, .ref (ma 100)), (1, .ref (ma 27)), (2, .int (iI 1))]) [0, 1, 2, 3] rfl ?_
      exact L119 _ 0 q f rfl (by omega) (by omega) hf
    · skip
      refine g_aload_n F 1 dX6_carryAll_47 rfl ?_
      refine gm_get_0 F dX6_carryAll_48 ?_
      refine g_iload_n F 0 dX6_carryAll_51 rfl ?_
      refine g_aload_n F 1 dX6_carryAll_52 rfl ?_
      refine g_aload_n F 1 dX6_carryAll_53 rfl ?_
      refine gm_get_0 F dX6_carryAll_54 ?_
      refine g_iload_n F 0 dX6_carryAll_57 rfl ?_
      refine gm_ald_0 F (by omega) dX6_carryAll_58 ?_
      refine g_top (y := iI (M 0 c)) rfl ?_
      refine g_callI F (stk := [.int (iI (M 0 c)), .ref (ma 100), .int (iI c), .ref (ma 0)]) (st := [.int (iI c), .ref (ma 0)]) (k_X6_carry_t27 κ ma M M f q (M 0 c) (by omega)) cal_X6_carry lm_X6_212 0 rfl rfl rfl rfl (by decide) rfl (Nat.le_of_ble_eq_true rfl) dX6_carryAll_59 (fun r59 ws59 _ hr59 => ?_)
      obtain ⟨rfl, rfl⟩ := hr59
      refine gm_ast_0 F (by omega) dX6_carryAll_62 ?_
      refine g_ws (ws' := mw κ ma (mA (cst M 27 1 (q + 1) (uI f q (M 0 c)) M) 0 (uI (M 0) c (M 0 c)))) rfl ?_
      refine g_ws (ws' := mw κ ma (cst M 27 1 (q + 1) (uI f q (M 0 c)) M)) (by rw [uI_self]; rfl) ?_
      refine g_aload_n F 1 dX6_carryAll_63 rfl ?_
      refine gm_get_1 F dX6_carryAll_64 ?_
      refine g_iload_n F 0 dX6_carryAll_67 rfl ?_
      refine g_aload_n F 1 dX6_carryAll_68 rfl ?_
      refine g_aload_n F 1 dX6_carryAll_69 rfl ?_
      refine gm_get_1 F dX6_carryAll_70 ?_
      refine g_iload_n F 0 dX6_carryAll_73 rfl ?_
      refine gm_ald_1 F (by omega) dX6_carryAll_74 ?_
      refine g_top (y := iI (M 1 c)) rfl ?_
      refine g_callI F (stk := [.int (iI (M 1 c)), .ref (ma 100), .int (iI c), .ref (ma 1)]) (st := [.int (iI c), .ref (ma 1)]) (k_X6_carry_t27 κ ma M M (uI f q (M 0 c)) (q + 1) (M 1 c) (by omega)) cal_X6_carry lm_X6_212 0 rfl rfl rfl rfl (by decide) rfl (Nat.le_of_ble_eq_true rfl) dX6_carryAll_75 (fun r75 ws75 _ hr75 => ?_)
      obtain ⟨rfl, rfl⟩ := hr75
      refine gm_ast_1 F (by omega) dX6_carryAll_78 ?_
      refine g_ws (ws' := mw κ ma (mA (cst M 27 1 (q + 1 + 1) (uI (uI f q (M 0 c)) (q + 1) (M 1 c)) M) 1 (uI (M 1) c (M 1 c)))) rfl ?_
      refine g_ws (ws' := mw κ ma (cst M 27 1 (q + 1 + 1) (uI (uI f q (M 0 c)) (q + 1) (M 1 c)) M)) (by rw [uI_self]; rfl) ?_
      refine g_aload_n F 1 dX6_carryAll_79 rfl ?_
      refine gm_get_2 F dX6_carryAll_80 ?_
      refine g_iload_n F 0 dX6_carryAll_83 rfl ?_
      refine g_aload_n F 1 dX6_carryAll_84 rfl ?_
      refine g_aload_n F 1 dX6_carryAll_85 rfl ?_
      refine gm_get_2 F dX6_carryAll_86 ?_
      refine g_iload_n F 0 dX6_carryAll_89 rfl ?_
      refine gm_ald_2 F (by omega) dX6_carryAll_90 ?_
      refine g_top (y := iI (M 2 c)) rfl ?_
      refine g_callI F (stk := [.int (iI (M 2 c)), .ref (ma 100), .int (iI c), .ref (ma 2)]) (st := [.int (iI c), .ref (ma 2)]) (k_X6_carry_t27 κ ma M M (uI (uI f q (M 0 c)) (q + 1) (M 1 c)) (q + 1 + 1) (M 2 c) (by omega)) cal_X6_carry lm_X6_212 0 rfl rfl rfl rfl (by decide) rfl (Nat.le_of_ble_eq_true rfl) dX6_carryAll_91 (fun r91 ws91 _ hr91 => ?_)
      obtain ⟨rfl, rfl⟩ := hr91
      refine gm_ast_2 F (by omega) dX6_carryAll_94 ?_
      refine g_ws (ws' := mw κ ma (mA (cst M 27 1 (q + 1 + 1 + 1) (uI (uI (uI f q (M 0 c)) (q + 1) (M 1 c)) (q + 1 + 1) (M 2 c)) M) 2 (uI (M 2) c (M 2 c)))) rfl ?_
      refine g_ws (ws' := mw κ ma (cst M 27 1 (q + 1 + 1 + 1) (uI (uI (uI f q (M 0 c)) (q + 1) (M 1 c)) (q + 1 + 1) (M 2 c)) M)) (by rw [uI_self]; rfl) ?_
      refine g_aload_n F 1 dX6_carryAll_95 rfl ?_
      refine gm_get_3 F dX6_carryAll_96 ?_
      refine g_iload_n F 0 dX6_carryAll_99 rfl ?_
      refine g_aload_n F 1 dX6_carryAll_100 rfl ?_
      refine g_aload_n F 1 dX6_carryAll_101 rfl ?_
      refine gm_get_3 F dX6_carryAll_102 ?_
      refine g_iload_n F 0 dX6_carryAll_105 rfl ?_
      refine gm_ald_3 F (by omega) dX6_carryAll_106 ?_
      refine g_top (y := iI (M 3 c)) rfl ?_
      refine g_callI F (stk := [.int (iI (M 3 c)), .ref (ma 100), .int (iI c), .ref (ma 3)]) (st := [.int (iI c), .ref (ma 3)]) (k_X6_carry_t27 κ ma M M (uI (uI (uI f q (M 0 c)) (q + 1) (M 1 c)) (q + 1 + 1) (M 2 c)) (q + 1 + 1 + 1) (M 3 c) (by omega)) cal_X6_carry lm_X6_212 0 rfl rfl rfl rfl (by decide) rfl (Nat.le_of_ble_eq_true rfl) dX6_carryAll_107 (fun r107 ws107 _ hr107 => ?_)
      obtain ⟨rfl, rfl⟩ := hr107
      refine gm_ast_3 F (by omega) dX6_carryAll_110 ?_
      refine g_ws (ws' := mw κ ma (mA (cst M 27 1 (q + 1 + 1 + 1 + 1) (uI (uI (uI (uI f q (M 0 c)) (q + 1) (M 1 c)) (q + 1 + 1) (M 2 c)) (q + 1 + 1 + 1) (M 3 c)) M) 3 (uI (M 3) c (M 3 c)))) rfl ?_
      refine g_ws (ws' := mw κ ma (cst M 27 1 (q + 1 + 1 + 1 + 1) (uI (uI (uI (uI f q (M 0 c)) (q + 1) (M 1 c)) (q + 1 + 1) (M 2 c)) (q + 1 + 1 + 1) (M 3 c)) M)) (by rw [uI_self]; rfl) ?_
      refine g_iinc F (lv' := [(3, .int (iI (c + 1))), (0, .ref (ma 100)), (1, .ref (ma 27)), (2, .int (iI 1))]) 0 dX6_carryAll_111 rfl (by decide) rfl ?_
      refine g_goto F 41 dX6_carryAll_114 (by decide) ?_
      refine g_sub F (lv' := [(3, .int (iI (c + 1))), (0, .ref (ma 100)), (1, .ref (ma 27)), (2, .int (iI 1))]) [0, 1, 2, 3] rfl ?_
      have e0 : snapF M (q) = M 0 c := snap_c M hc.1 (by omega) (by decide : (0 : Int) ≤ 0) (by decide) (by omega)
      have e1 : snapF M (q + 1) = M 1 c := snap_c M hc.1 (by omega) (by decide : (0 : Int) ≤ 1) (by decide) (by omega)
      have e2 : snapF M (q + 1 + 1) = M 2 c := snap_c M hc.1 (by omega) (by decide : (0 : Int) ≤ 2) (by decide) (by omega)
      have e3 : snapF M (q + 1 + 1 + 1) = M 3 c := snap_c M hc.1 (by omega) (by decide : (0 : Int) ≤ 3) (by decide) (by omega)
      exact ih41 _ (by omega) (c + 1) (q + 1 + 1 + 1 + 1) (uI (uI (uI (uI f q (M 0 c)) (q + 1) (M 1 c)) (q + 1 + 1) (M 2 c)) (q + 1 + 1 + 1) (M 3 c)) rfl (by omega) (by omega) (by rw [hf, ← e0, upTo_s _ _ (by omega), ← e1, upTo_s _ _ (by omega), ← e2, upTo_s _ _ (by omega), ← e3, upTo_s _ _ (by omega)])
  refine g_sub F (lv' := [(3, .int (iI 0)), (0, .ref (ma 100)), (1, .ref (ma 27)), (2, .int (iI 1))]) [0, 1, 2, 3] rfl ?_
  exact L41 _ 0 (0 + 1 + 1) (uI (uI (M 27) 0 (M 4 0)) (0 + 1) (M 5 0)) rfl (by omega) (by omega) (by rw [← upTo_s _ _ (by decide : (0 : Int) ≤ 0 + 1), ← upTo_s _ _ (by decide : (0 : Int) ≤ 0), upTo_0]; rfl)
theorem cst_kst_27 {κ : Kp} {ma : Nat → Nat} (M M0 : MS) : mw κ ma (cst M 27 0 (0 + 1 + 1) (M 27) (mA (mA M 4 (fun _ => M0 4 0)) 5 (fun _ => M0 5 0))) = mw κ ma (cst M 27 0 (0 + 1 + 1) (M 27) (kst M M0 0 0)) := by
  have e : kst M M0 0 0 = mA (mA M 4 (M0 4)) 5 (M0 5) := by
    funext a
    unfold kst mA
    rw [upTo_0]
    repeat' split
    all_goals first | rfl | omega | (subst_vars; rfl)
  rw [e]
  rfl
set_option maxRecDepth 100000 in
set_option maxHeartbeats 4000000 in
theorem k_X6_carryAll_f27 (κ : Kp) (ma : Nat → Nat) (M M0 : MS) (hS : ∀ z : Int, 0 ≤ z → z < 74 → M 27 z = snapF M0 z) : mV κ yX6_carryAll cX6_carryAll 4 1 [.ref (ma 100), .ref (ma 27), .int (iI 0)] (mw κ ma M) (is0 (mw κ ma (cst M 27 0 74 (M 27) M0))) := by
  refine mV_of (by decide) (Nat.le_of_ble_eq_true rfl) (fun E F K => ?_)
  refine g_lv (lv' := [(0, .ref (ma 100)), (1, .ref (ma 27)), (2, .int (iI 0))]) rfl ?_
  refine g_aload_n F 0 dX6_carryAll_0 rfl ?_
  refine g_aload_n F 1 dX6_carryAll_1 rfl ?_
  refine gm_put_25_27 F dX6_carryAll_2 ?_
  refine g_aload_n F 0 dX6_carryAll_5 rfl ?_
  refine g_iload_n F 2 dX6_carryAll_6 rfl ?_
  refine gm_put_24 F (by omega) dX6_carryAll_7 ?_
  refine g_aload_n F 0 dX6_carryAll_10 rfl ?_
  refine g_iconst F dX6_carryAll_11 ?_
  refine gm_put_23 F dX6_carryAll_12 ?_
  refine g_ws (ws' := mw κ ma (cst M 27 0 0 (M 27) M)) rfl ?_
  refine g_aload_n F 0 dX6_carryAll_15 rfl ?_
  refine g_aload_n F 0 dX6_carryAll_16 rfl ?_
  refine g_aload_n F 0 dX6_carryAll_17 rfl ?_
  refine gm_get_4 F dX6_carryAll_18 ?_
  refine g_top (y := iI (M 4 0)) rfl ?_
  refine g_callI F (stk := [.int (iI (M 4 0)), .ref (ma 100), .ref (ma 100)]) (st := [.ref (ma 100)]) (k_X6_carry_f27 κ ma M M (M 27) 0 (M 4 0) (by omega)) cal_X6_carry lm_X6_212 0 rfl rfl rfl rfl (by decide) rfl (Nat.le_of_ble_eq_true rfl) dX6_carryAll_21 (fun r21 ws21 _ hr21 => ?_)
  obtain ⟨rfl, rfl⟩ := hr21
  refine g_top (y := iI (M0 4 0)) (iIc (hS 0 (by decide) (by decide))) ?_
  refine gm_put_4 F dX6_carryAll_24 ?_
  refine g_ws (ws' := mw κ ma (cst M 27 0 (0 + 1) (M 27) (mA M 4 (fun _ => M0 4 0)))) rfl ?_
  refine g_aload_n F 0 dX6_carryAll_27 rfl ?_
  refine g_aload_n F 0 dX6_carryAll_28 rfl ?_
  refine g_aload_n F 0 dX6_carryAll_29 rfl ?_
  refine gm_get_5 F dX6_carryAll_30 ?_
  refine g_top (y := iI (M 5 0)) rfl ?_
  refine g_callI F (stk := [.int (iI (M 5 0)), .ref (ma 100), .ref (ma 100)]) (st := [.ref (ma 100)]) (k_X6_carry_f27 κ ma M (mA M 4 (fun _ => M0 4 0)) (M 27) (0 + 1) (M 5 0) (by omega)) cal_X6_carry lm_X6_212 0 rfl rfl rfl rfl (by decide) rfl (Nat.le_of_ble_eq_true rfl) dX6_carryAll_33 (fun r33 ws33 _ hr33 => ?_)
  obtain ⟨rfl, rfl⟩ := hr33
  refine g_top (y := iI (M0 5 0)) (iIc (hS (0 + 1) (by decide) (by decide))) ?_
  refine gm_put_5 F dX6_carryAll_36 ?_
  refine g_ws (ws' := mw κ ma (cst M 27 0 (0 + 1 + 1) (M 27) (mA (mA M 4 (fun _ => M0 4 0)) 5 (fun _ => M0 5 0)))) rfl ?_
  refine g_iconst F dX6_carryAll_39 ?_
  refine g_istore_n F (lv' := [(3, .int (iI 0)), (0, .ref (ma 100)), (1, .ref (ma 27)), (2, .int (iI 0))]) 3 dX6_carryAll_40 rfl (by decide) rfl ?_
  have L41 : ∀ (mz41 : Nat) (c : Int) (q : Int), (12 - c).toNat = mz41 → (0 ≤ c ∧ c ≤ 12) → (q = 2 + 4 * c) → G E (mw κ ma (cst M 27 0 q (M 27) (kst M M0 c 0))) [(3, .int (iI c)), (0, .ref (ma 100)), (1, .ref (ma 27)), (2, .int (iI 0))] 41 [] := by
    intro mz41
    induction mz41 using Nat.strongRecOn with
    | _ mz41 ih41 =>
    intro c q hmz41 hc hq
    refine g_iload_n F 0 dX6_carryAll_41 rfl ?_
    refine g_bipush F dX6_carryAll_42 (by decide +kernel) ?_
    refine g_icmp_ge F 117 (by omega) dX6_carryAll_44 (by decide) (fun c44 => ?_) (fun c44 => ?_)
    · skip
      refine g_iconst F dX6_carryAll_117 ?_
      refine g_istore_n F (lv' := [(3, .int (iI 0)), (0, .ref (ma 100)), (1, .ref (ma 27)), (2, .int (iI 0))]) 3 dX6_carryAll_118 rfl (by decide) rfl ?_
      have L119 : ∀ (mz119 : Nat) (p : Int) (q2 : Int), (6 - p).toNat = mz119 → (0 ≤ p ∧ p ≤ 6) → (q2 = 50 + 4 * p) → G E (mw κ ma (cst M 27 0 q2 (M 27) (kst M M0 12 p))) [(3, .int (iI p)), (0, .ref (ma 100)), (1, .ref (ma 27)), (2, .int (iI 0))] 119 [] := by
        intro mz119
        induction mz119 using Nat.strongRecOn with
        | _ mz119 ih119 =>
        intro p q2 hmz119 hp hq2
        refine g_iload_n F 0 dX6_carryAll_119 rfl ?_
        refine g_bipush F dX6_carryAll_120 (by decide +kernel) ?_
        refine g_icmp_ge F 195 (by omega) dX6_carryAll_122 (by decide) (fun c122 => ?_) (fun c122 => ?_)
        · skip
          refine g_ws (ws' := mw κ ma (mA (cst M 27 0 q2 (M 27) (kst M M0 12 p)) 0 (upTo (M 0) (M0 0) 12))) rfl ?_
          refine gm_weq_0 (g := M0 0) (fun j a b => upTo_in a b) ?_
          refine g_ws (ws' := mw κ ma (mA (mA (cst M 27 0 q2 (M 27) (kst M M0 12 p)) 0 (M0 0)) 1 (upTo (M 1) (M0 1) 12))) rfl ?_
          refine gm_weq_1 (g := M0 1) (fun j a b => upTo_in a b) ?_
          refine g_ws (ws' := mw κ ma (mA (mA (mA (cst M 27 0 q2 (M 27) (kst M M0 12 p)) 0 (M0 0)) 1 (M0 1)) 2 (upTo (M 2) (M0 2) 12))) rfl ?_
          refine gm_weq_2 (g := M0 2) (fun j a b => upTo_in a b) ?_
          refine g_ws (ws' := mw κ ma (mA (mA (mA (mA (cst M 27 0 q2 (M 27) (kst M M0 12 p)) 0 (M0 0)) 1 (M0 1)) 2 (M0 2)) 3 (upTo (M 3) (M0 3) 12))) rfl ?_
          refine gm_weq_3 (g := M0 3) (fun j a b => upTo_in a b) ?_
          refine g_ws (ws' := mw κ ma (mA (mA (mA (mA (mA (cst M 27 0 q2 (M 27) (kst M M0 12 p)) 0 (M0 0)) 1 (M0 1)) 2 (M0 2)) 3 (M0 3)) 6 (upTo (M 6) (M0 6) p))) rfl ?_
          refine gm_weq_6 (g := M0 6) (fun j a b => by rw [show p = 6 by omega]; exact upTo_in a b) ?_
          refine g_ws (ws' := mw κ ma (mA (mA (mA (mA (mA (mA (cst M 27 0 q2 (M 27) (kst M M0 12 p)) 0 (M0 0)) 1 (M0 1)) 2 (M0 2)) 3 (M0 3)) 6 (M0 6)) 7 (upTo (M 7) (M0 7) p))) rfl ?_
          refine gm_weq_7 (g := M0 7) (fun j a b => by rw [show p = 6 by omega]; exact upTo_in a b) ?_
          refine g_ws (ws' := mw κ ma (mA (mA (mA (mA (mA (mA (mA (cst M 27 0 q2 (M 27) (kst M M0 12 p)) 0 (M0 0)) 1 (M0 1)) 2 (M0 2)) 3 (M0 3)) 6 (M0 6)) 7 (M0 7)) 8 (upTo (M 8) (M0 8) p))) rfl ?_
          refine gm_weq_8 (g := M0 8) (fun j a b => by rw [show p = 6 by omega]; exact upTo_in a b) ?_
          refine g_ws (ws' := mw κ ma (mA (mA (mA (mA (mA (mA (mA (mA (cst M 27 0 q2 (M 27) (kst M M0 12 p)) 0 (M0 0)) 1 (M0 1)) 2 (M0 2)) 3 (M0 3)) 6 (M0 6)) 7 (M0 7)) 8 (M0 8)) 9 (upTo (M 9) (M0 9) p))) rfl ?_
          refine gm_weq_9 (g := M0 9) (fun j a b => by rw [show p = 6 by omega]; exact upTo_in a b) ?_
          exact K mw_same (by rw [hq2, show p = 6 by omega]; rfl) dX6_carryAll_195
        · skip
          refine g_aload_n F 1 dX6_carryAll_125 rfl ?_
          refine gm_get_6 F dX6_carryAll_126 ?_
          refine g_iload_n F 0 dX6_carryAll_129 rfl ?_
          refine g_aload_n F 1 dX6_carryAll_130 rfl ?_
          refine g_aload_n F 1 dX6_carryAll_131 rfl ?_
          refine gm_get_6 F dX6_carryAll_132 ?_
          refine g_iload_n F 0 dX6_carryAll_135 rfl ?_
          refine gm_ald_6 F (by omega) dX6_carryAll_136 ?_
          refine g_top (y := iI ((upTo (M 6) (M0 6) p) p)) rfl ?_
          refine g_callI F (stk := [.int (iI ((upTo (M 6) (M0 6) p) p)), .ref (ma 100), .int (iI p), .ref (ma 6)]) (st := [.int (iI p), .ref (ma 6)]) (k_X6_carry_f27 κ ma M (kst M M0 12 p) (M 27) q2 ((upTo (M 6) (M0 6) p) p) (by omega)) cal_X6_carry lm_X6_212 0 rfl rfl rfl rfl (by decide) rfl (Nat.le_of_ble_eq_true rfl) dX6_carryAll_137 (fun r137 ws137 _ hr137 => ?_)
          obtain ⟨rfl, rfl⟩ := hr137
          refine g_top (y := iI (M0 6 p)) (iIc ((hS _ (by omega) (by omega)).trans (snap_p M0 hp.1 (by omega) (by decide : (0 : Int) ≤ 0) (by decide) (by omega)))) ?_
          refine gm_ast_6 F (by omega) dX6_carryAll_140 ?_
          refine g_ws (ws' := mw κ ma (mA (cst M 27 0 (q2 + 1) (M 27) (kst M M0 12 p)) 6 (uI (upTo (M 6) (M0 6) p) p (M0 6 p)))) rfl ?_
          refine g_ws (ws' := mw κ ma (cst M 27 0 (q2 + 1) (M 27) (mA (kst M M0 12 p) 6 (uI (upTo (M 6) (M0 6) p) p (M0 6 p))))) rfl ?_
          refine g_aload_n F 1 dX6_carryAll_141 rfl ?_
          refine gm_get_7 F dX6_carryAll_142 ?_
          refine g_iload_n F 0 dX6_carryAll_145 rfl ?_
          refine g_aload_n F 1 dX6_carryAll_146 rfl ?_
          refine g_aload_n F 1 dX6_carryAll_147 rfl ?_
          refine gm_get_7 F dX6_carryAll_148 ?_
          refine g_iload_n F 0 dX6_carryAll_151 rfl ?_
          refine gm_ald_7 F (by omega) dX6_carryAll_152 ?_
          refine g_top (y := iI ((upTo (M 7) (M0 7) p) p)) rfl ?_
          refine g_callI F (stk := [.int (iI ((upTo (M 7) (M0 7) p) p)), .ref (ma 100), .int (iI p), .ref (ma 7)]) (st := [.int (iI p), .ref (ma 7)]) (k_X6_carry_f27 κ ma M (mA (kst M M0 12 p) 6 (uI (upTo (M 6) (M0 6) p) p (M0 6 p))) (M 27) (q2 + 1) ((upTo (M 7) (M0 7) p) p) (by omega)) cal_X6_carry lm_X6_212 0 rfl rfl rfl rfl (by decide) rfl (Nat.le_of_ble_eq_true rfl) dX6_carryAll_153 (fun r153 ws153 _ hr153 => ?_)
          obtain ⟨rfl, rfl⟩ := hr153
          refine g_top (y := iI (M0 7 p)) (iIc ((hS _ (by omega) (by omega)).trans (snap_p M0 hp.1 (by omega) (by decide : (0 : Int) ≤ 1) (by decide) (by omega)))) ?_
          refine gm_ast_7 F (by omega) dX6_carryAll_156 ?_
          refine g_ws (ws' := mw κ ma (mA (cst M 27 0 (q2 + 1 + 1) (M 27) (mA (kst M M0 12 p) 6 (uI (upTo (M 6) (M0 6) p) p (M0 6 p)))) 7 (uI (upTo (M 7) (M0 7) p) p (M0 7 p)))) rfl ?_
          refine g_ws (ws' := mw κ ma (cst M 27 0 (q2 + 1 + 1) (M 27) (mA (mA (kst M M0 12 p) 6 (uI (upTo (M 6) (M0 6) p) p (M0 6 p))) 7 (uI (upTo (M 7) (M0 7) p) p (M0 7 p))))) rfl ?_
          refine g_aload_n F 1 dX6_carryAll_157 rfl ?_
          refine gm_get_8 F dX6_carryAll_158 ?_
          refine g_iload_n F 0 dX6_carryAll_161 rfl ?_
          refine g_aload_n F 1 dX6_carryAll_162 rfl ?_
          refine g_aload_n F 1 dX6_carryAll_163 rfl ?_
          refine gm_get_8 F dX6_carryAll_164 ?_
          refine g_iload_n F 0 dX6_carryAll_167 rfl ?_
          refine gm_ald_8 F (by omega) dX6_carryAll_168 ?_
          refine g_top (y := iI ((upTo (M 8) (M0 8) p) p)) rfl ?_
          refine g_callI F (stk := [.int (iI ((upTo (M 8) (M0 8) p) p)), .ref (ma 100), .int (iI p), .ref (ma 8)]) (st := [.int (iI p), .ref (ma 8)]) (k_X6_carry_f27 κ ma M (mA (mA (kst M M0 12 p) 6 (uI (upTo (M 6) (M0 6) p) p (M0 6 p))) 7 (uI (upTo (M 7) (M0 7) p) p (M0 7 p))) (M 27) (q2 + 1 + 1) ((upTo (M 8) (M0 8) p) p) (by omega)) cal_X6_carry lm_X6_212 0 rfl rfl rfl rfl (by decide) rfl (Nat.le_of_ble_eq_true rfl) dX6_carryAll_169 (fun r169 ws169 _ hr169 => ?_)
          obtain ⟨rfl, rfl⟩ := hr169
          refine g_top (y := iI (M0 8 p)) (iIc ((hS _ (by omega) (by omega)).trans (snap_p M0 hp.1 (by omega) (by decide : (0 : Int) ≤ 2) (by decide) (by omega)))) ?_
          refine gm_ast_8 F (by omega) dX6_carryAll_172 ?_
          refine g_ws (ws' := mw κ ma (mA (cst M 27 0 (q2 + 1 + 1 + 1) (M 27) (mA (mA (kst M M0 12 p) 6 (uI (upTo (M 6) (M0 6) p) p (M0 6 p))) 7 (uI (upTo (M 7) (M0 7) p) p (M0 7 p)))) 8 (uI (upTo (M 8) (M0 8) p) p (M0 8 p)))) rfl ?_
          refine g_ws (ws' := mw κ ma (cst M 27 0 (q2 + 1 + 1 + 1) (M 27) (mA (mA (mA (kst M M0 12 p) 6 (uI (upTo (M 6) (M0 6) p) p (M0 6 p))) 7 (uI (upTo (M 7) (M0 7) p) p (M0 7 p))) 8 (uI (upTo (M 8) (M0 8) p) p (M0 8 p))))) rfl ?_
          refine g_aload_n F 1 dX6_carryAll_173 rfl ?_
          refine gm_get_9 F dX6_carryAll_174 ?_
          refine g_iload_n F 0 dX6_carryAll_177 rfl ?_
          refine g_aload_n F 1 dX6_carryAll_178 rfl ?_
          refine g_aload_n F 1 dX6_carryAll_179 rfl ?_
          refine gm_get_9 F dX6_carryAll_180 ?_
          refine g_iload_n F 0 dX6_carryAll_183 rfl ?_
          refine gm_ald_9 F (by omega) dX6_carryAll_184 ?_
          refine g_top (y := iI ((upTo (M 9) (M0 9) p) p)) rfl ?_
          refine g_callI F (stk := [.int (iI ((upTo (M 9) (M0 9) p) p)), .ref (ma 100), .int (iI p), .ref (ma 9)]) (st := [.int (iI p), .ref (ma 9)]) (k_X6_carry_f27 κ ma M (mA (mA (mA (kst M M0 12 p) 6 (uI (upTo (M 6) (M0 6) p) p (M0 6 p))) 7 (uI (upTo (M 7) (M0 7) p) p (M0 7 p))) 8 (uI (upTo (M 8) (M0 8) p) p (M0 8 p))) (M 27) (q2 + 1 + 1 + 1) ((upTo (M 9) (M0 9) p) p) (by omega)) cal_X6_carry lm_X6_212 0 rfl rfl rfl rfl (by decide) rfl (Nat.le_of_ble_eq_true rfl) dX6_carryAll_185 (fun r185 ws185 _ hr185 => ?_)
          obtain ⟨rfl, rfl⟩ := hr185
          refine g_top (y := iI (M0 9 p)) (iIc ((hS _ (by omega) (by omega)).trans (snap_p M0 hp.1 (by omega) (by decide : (0 : Int) ≤ 3) (by decide) (by omega)))) ?_
          refine gm_ast_9 F (by omega) dX6_carryAll_188 ?_
          refine g_ws (ws' := mw κ ma (mA (cst M 27 0 (q2 + 1 + 1 + 1 + 1) (M 27) (mA (mA (mA (kst M M0 12 p) 6 (uI (upTo (M 6) (M0 6) p) p (M0 6 p))) 7 (uI (upTo (M 7) (M0 7) p) p (M0 7 p))) 8 (uI (upTo (M 8) (M0 8) p) p (M0 8 p)))) 9 (uI (upTo (M 9) (M0 9) p) p (M0 9 p)))) rfl ?_
          refine g_ws (ws' := mw κ ma (cst M 27 0 (q2 + 1 + 1 + 1 + 1) (M 27) (mA (mA (mA (mA (kst M M0 12 p) 6 (uI (upTo (M 6) (M0 6) p) p (M0 6 p))) 7 (uI (upTo (M 7) (M0 7) p) p (M0 7 p))) 8 (uI (upTo (M 8) (M0 8) p) p (M0 8 p))) 9 (uI (upTo (M 9) (M0 9) p) p (M0 9 p))))) rfl ?_
          refine g_iinc F (lv' := [(3, .int (iI (p + 1))), (0, .ref (ma 100)), (1, .ref (ma 27)), (2, .int (iI 0))]) 0 dX6_carryAll_189 rfl (by decide) rfl ?_
          refine g_goto F 119 dX6_carryAll_192 (by decide) ?_
          refine g_sub F (lv' := [(3, .int (iI (p + 1))), (0, .ref (ma 100)), (1, .ref (ma 27)), (2, .int (iI 0))]) [0, 1, 2, 3] rfl ?_
          refine g_ws (ws' := mw κ ma (cst M 27 0 (q2 + 1 + 1 + 1 + 1) (M 27) (kst M M0 12 (p + 1)))) (by rw [upTo_s _ _ hp.1, upTo_s _ _ hp.1, upTo_s _ _ hp.1, upTo_s _ _ hp.1]; rfl) ?_
          exact ih119 _ (by omega) (p + 1) (q2 + 1 + 1 + 1 + 1) rfl (by omega) (by omega)
      refine g_sub F (lv' := [(3, .int (iI 0)), (0, .ref (ma 100)), (1, .ref (ma 27)), (2, .int (iI 0))]) [0, 1, 2, 3] rfl ?_
      refine g_ws (ws' := mw κ ma (cst M 27 0 q (M 27) (kst M M0 12 0))) (by rw [show c = 12 by omega]) ?_
      exact L119 _ 0 q rfl (by omega) (by omega)
    · skip
      refine g_aload_n F 1 dX6_carryAll_47 rfl ?_
      refine gm_get_0 F dX6_carryAll_48 ?_
      refine g_iload_n F 0 dX6_carryAll_51 rfl ?_
      refine g_aload_n F 1 dX6_carryAll_52 rfl ?_
      refine g_aload_n F 1 dX6_carryAll_53 rfl ?_
      refine gm_get_0 F dX6_carryAll_54 ?_
      refine g_iload_n F 0 dX6_carryAll_57 rfl ?_
      refine gm_ald_0 F (by omega) dX6_carryAll_58 ?_
      refine g_top (y := iI ((upTo (M 0) (M0 0) c) c)) rfl ?_
      refine g_callI F (stk := [.int (iI ((upTo (M 0) (M0 0) c) c)), .ref (ma 100), .int (iI c), .ref (ma 0)]) (st := [.int (iI c), .ref (ma 0)]) (k_X6_carry_f27 κ ma M (kst M M0 c 0) (M 27) q ((upTo (M 0) (M0 0) c) c) (by omega)) cal_X6_carry lm_X6_212 0 rfl rfl rfl rfl (by decide) rfl (Nat.le_of_ble_eq_true rfl) dX6_carryAll_59 (fun r59 ws59 _ hr59 => ?_)
      obtain ⟨rfl, rfl⟩ := hr59
      refine g_top (y := iI (M0 0 c)) (iIc ((hS _ (by omega) (by omega)).trans (snap_c M0 hc.1 (by omega) (by decide : (0 : Int) ≤ 0) (by decide) (by omega)))) ?_
      refine gm_ast_0 F (by omega) dX6_carryAll_62 ?_
      refine g_ws (ws' := mw κ ma (mA (cst M 27 0 (q + 1) (M 27) (kst M M0 c 0)) 0 (uI (upTo (M 0) (M0 0) c) c (M0 0 c)))) rfl ?_
      refine g_ws (ws' := mw κ ma (cst M 27 0 (q + 1) (M 27) (mA (kst M M0 c 0) 0 (uI (upTo (M 0) (M0 0) c) c (M0 0 c))))) rfl ?_
      refine g_aload_n F 1 dX6_carryAll_63 rfl ?_
      refine gm_get_1 F dX6_carryAll_64 ?_
      refine g_iload_n F 0 dX6_carryAll_67 rfl ?_
      refine g_aload_n F 1 dX6_carryAll_68 rfl ?_
      refine g_aload_n F 1 dX6_carryAll_69 rfl ?_
      refine gm_get_1 F dX6_carryAll_70 ?_
      refine g_iload_n F 0 dX6_carryAll_73 rfl ?_
      refine gm_ald_1 F (by omega) dX6_carryAll_74 ?_
      refine g_top (y := iI ((upTo (M 1) (M0 1) c) c)) rfl ?_
      refine g_callI F (stk := [.int (iI ((upTo (M 1) (M0 1) c) c)), .ref (ma 100), .int (iI c), .ref (ma 1)]) (st := [.int (iI c), .ref (ma 1)]) (k_X6_carry_f27 κ ma M (mA (kst M M0 c 0) 0 (uI (upTo (M 0) (M0 0) c) c (M0 0 c))) (M 27) (q + 1) ((upTo (M 1) (M0 1) c) c) (by omega)) cal_X6_carry lm_X6_212 0 rfl rfl rfl rfl (by decide) rfl (Nat.le_of_ble_eq_true rfl) dX6_carryAll_75 (fun r75 ws75 _ hr75 => ?_)
      obtain ⟨rfl, rfl⟩ := hr75
      refine g_top (y := iI (M0 1 c)) (iIc ((hS _ (by omega) (by omega)).trans (snap_c M0 hc.1 (by omega) (by decide : (0 : Int) ≤ 1) (by decide) (by omega)))) ?_
      refine gm_ast_1 F (by omega) dX6_carryAll_78 ?_
      refine g_ws (ws' := mw κ ma (mA (cst M 27 0 (q + 1 + 1) (M 27) (mA (kst M M0 c 0) 0 (uI (upTo (M 0) (M0 0) c) c (M0 0 c)))) 1 (uI (upTo (M 1) (M0 1) c) c (M0 1 c)))) rfl ?_
      refine g_ws (ws' := mw κ ma (cst M 27 0 (q + 1 + 1) (M 27) (mA (mA (kst M M0 c 0) 0 (uI (upTo (M 0) (M0 0) c) c (M0 0 c))) 1 (uI (upTo (M 1) (M0 1) c) c (M0 1 c))))) rfl ?_
      refine g_aload_n F 1 dX6_carryAll_79 rfl ?_
      refine gm_get_2 F dX6_carryAll_80 ?_
      refine g_iload_n F 0 dX6_carryAll_83 rfl ?_
      refine g_aload_n F 1 dX6_carryAll_84 rfl ?_
      refine g_aload_n F 1 dX6_carryAll_85 rfl ?_
      refine gm_get_2 F dX6_carryAll_86 ?_
      refine g_iload_n F 0 dX6_carryAll_89 rfl ?_
      refine gm_ald_2 F (by omega) dX6_carryAll_90 ?_
      refine g_top (y := iI ((upTo (M 2) (M0 2) c) c)) rfl ?_
      refine g_callI F (stk := [.int (iI ((upTo (M 2) (M0 2) c) c)), .ref (ma 100), .int (iI c), .ref (ma 2)]) (st := [.int (iI c), .ref (ma 2)]) (k_X6_carry_f27 κ ma M (mA (mA (kst M M0 c 0) 0 (uI (upTo (M 0) (M0 0) c) c (M0 0 c))) 1 (uI (upTo (M 1) (M0 1) c) c (M0 1 c))) (M 27) (q + 1 + 1) ((upTo (M 2) (M0 2) c) c) (by omega)) cal_X6_carry lm_X6_212 0 rfl rfl rfl rfl (by decide) rfl (Nat.le_of_ble_eq_true rfl) dX6_carryAll_91 (fun r91 ws91 _ hr91 => ?_)
      obtain ⟨rfl, rfl⟩ := hr91
      refine g_top (y := iI (M0 2 c)) (iIc ((hS _ (by omega) (by omega)).trans (snap_c M0 hc.1 (by omega) (by decide : (0 : Int) ≤ 2) (by decide) (by omega)))) ?_
      refine gm_ast_2 F (by omega) dX6_carryAll_94 ?_
      refine g_ws (ws' := mw κ ma (mA (cst M 27 0 (q + 1 + 1 + 1) (M 27) (mA (mA (kst M M0 c 0) 0 (uI (upTo (M 0) (M0 0) c) c (M0 0 c))) 1 (uI (upTo (M 1) (M0 1) c) c (M0 1 c)))) 2 (uI (upTo (M 2) (M0 2) c) c (M0 2 c)))) rfl ?_
      refine g_ws (ws' := mw κ ma (cst M 27 0 (q + 1 + 1 + 1) (M 27) (mA (mA (mA (kst M M0 c 0) 0 (uI (upTo (M 0) (M0 0) c) c (M0 0 c))) 1 (uI (upTo (M 1) (M0 1) c) c (M0 1 c))) 2 (uI (upTo (M 2) (M0 2) c) c (M0 2 c))))) rfl ?_
      refine g_aload_n F 1 dX6_carryAll_95 rfl ?_
      refine gm_get_3 F dX6_carryAll_96 ?_
      refine g_iload_n F 0 dX6_carryAll_99 rfl ?_
      refine g_aload_n F 1 dX6_carryAll_100 rfl ?_
      refine g_aload_n F 1 dX6_carryAll_101 rfl ?_
      refine gm_get_3 F dX6_carryAll_102 ?_
      refine g_iload_n F 0 dX6_carryAll_105 rfl ?_
      refine gm_ald_3 F (by omega) dX6_carryAll_106 ?_
      refine g_top (y := iI ((upTo (M 3) (M0 3) c) c)) rfl ?_
      refine g_callI F (stk := [.int (iI ((upTo (M 3) (M0 3) c) c)), .ref (ma 100), .int (iI c), .ref (ma 3)]) (st := [.int (iI c), .ref (ma 3)]) (k_X6_carry_f27 κ ma M (mA (mA (mA (kst M M0 c 0) 0 (uI (upTo (M 0) (M0 0) c) c (M0 0 c))) 1 (uI (upTo (M 1) (M0 1) c) c (M0 1 c))) 2 (uI (upTo (M 2) (M0 2) c) c (M0 2 c))) (M 27) (q + 1 + 1 + 1) ((upTo (M 3) (M0 3) c) c) (by omega)) cal_X6_carry lm_X6_212 0 rfl rfl rfl rfl (by decide) rfl (Nat.le_of_ble_eq_true rfl) dX6_carryAll_107 (fun r107 ws107 _ hr107 => ?_)
      obtain ⟨rfl, rfl⟩ := hr107
      refine g_top (y := iI (M0 3 c)) (iIc ((hS _ (by omega) (by omega)).trans (snap_c M0 hc.1 (by omega) (by decide : (0 : Int) ≤ 3) (by decide) (by omega)))) ?_
      refine gm_ast_3 F (by omega) dX6_carryAll_110 ?_
      refine g_ws (ws' := mw κ ma (mA (cst M 27 0 (q + 1 + 1 + 1 + 1) (M 27) (mA (mA (mA (kst M M0 c 0) 0 (uI (upTo (M 0) (M0 0) c) c (M0 0 c))) 1 (uI (upTo (M 1) (M0 1) c) c (M0 1 c))) 2 (uI (upTo (M 2) (M0 2) c) c (M0 2 c)))) 3 (uI (upTo (M 3) (M0 3) c) c (M0 3 c)))) rfl ?_
      refine g_ws (ws' := mw κ ma (cst M 27 0 (q + 1 + 1 + 1 + 1) (M 27) (mA (mA (mA (mA (kst M M0 c 0) 0 (uI (upTo (M 0) (M0 0) c) c (M0 0 c))) 1 (uI (upTo (M 1) (M0 1) c) c (M0 1 c))) 2 (uI (upTo (M 2) (M0 2) c) c (M0 2 c))) 3 (uI (upTo (M 3) (M0 3) c) c (M0 3 c))))) rfl ?_
      refine g_iinc F (lv' := [(3, .int (iI (c + 1))), (0, .ref (ma 100)), (1, .ref (ma 27)), (2, .int (iI 0))]) 0 dX6_carryAll_111 rfl (by decide) rfl ?_
      refine g_goto F 41 dX6_carryAll_114 (by decide) ?_
      refine g_sub F (lv' := [(3, .int (iI (c + 1))), (0, .ref (ma 100)), (1, .ref (ma 27)), (2, .int (iI 0))]) [0, 1, 2, 3] rfl ?_
      refine g_ws (ws' := mw κ ma (cst M 27 0 (q + 1 + 1 + 1 + 1) (M 27) (kst M M0 (c + 1) 0))) (by rw [upTo_s _ _ hc.1, upTo_s _ _ hc.1, upTo_s _ _ hc.1, upTo_s _ _ hc.1]; rfl) ?_
      exact ih41 _ (by omega) (c + 1) (q + 1 + 1 + 1 + 1) rfl (by omega) (by omega)
  refine g_sub F (lv' := [(3, .int (iI 0)), (0, .ref (ma 100)), (1, .ref (ma 27)), (2, .int (iI 0))]) [0, 1, 2, 3] rfl ?_
  refine g_ws (ws' := mw κ ma (cst M 27 0 (0 + 1 + 1) (M 27) (kst M M0 0 0))) (cst_kst_27 M M0) ?_
  exact L41 _ 0 (0 + 1 + 1) rfl (by omega) (by omega)
