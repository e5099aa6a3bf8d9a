/-- a call that may change something: the state behind is N's, refusals aside -/
def qMs (κ : Kp) (ma : Nat → Nat) (N M : MS) (q : Int) : Int32 → va_W → Prop := fun r w => ∃ M2, w = mw κ ma M2 ∧ r = iI q ∧ sameM N M2 ∧ M2 11 = rfa (M 11) q
def qXs (κ : Kp) (xa : Nat → Nat → Nat) (N X : XS) (q : Int) : Int32 → va_W → Prop := fun r w => ∃ X2, w = xw κ xa X2 ∧ r = iI q ∧ sameX N X2 ∧ X2 18 6 = rfa (X 18 6) q
/-- the past, one more laid by; the latest taken back -/
def noteX (X : XS) : XS := setO (setO X (4 + (X 15 2 0).toNat) (stC (X (4 + (X 15 2 0).toNat)) (cl (X 0)))) 15 (mA (mA (mA (X 15) 1 (uI (X 15 1) (X 15 2 0) (X 12 4 0))) 2 (fun _ => (X 15 2 0 + 1) % 8)) 3 (fun _ => min 8 (X 15 3 0 + 1)))
def takeX (X : XS) : XS := setO (setO (setO X 0 (stC (X 0) (cl (X (4 + ((X 15 2 0 + 8 - 1) % 8).toNat))))) 12 (mA (X 12) 4 (fun _ => X 15 1 ((X 15 2 0 + 8 - 1) % 8)))) 15 (mA (mA (X 15) 2 (fun _ => (X 15 2 0 + 8 - 1) % 8)) 3 (fun _ => X 15 3 0 - 1))
theorem noteX_o {X : XS} {o : Nat} (h : 0 ≤ X 15 2 0 ∧ X 15 2 0 < 8) (ho : o < 4 ∨ (12 ≤ o ∧ o ≠ 15)) : noteX X o = X o := by
  unfold noteX
  rw [setO_n (by omega), setO_n (by omega)]
theorem noteX_eq {κ : Kp} {xa : Nat → Nat → Nat} {X : XS} (h : 0 ≤ X 15 2 0 ∧ X 15 2 0 < 8) : xw κ xa (noteX X) = xw κ xa (setO (setO (noteX X) 12 (X 12)) 0 (X 0)) := by
  rw [← noteX_o (o := 12) h (by decide), setO_self, ← noteX_o (o := 0) h (by decide), setO_self]
theorem kpt_mA10 (M : MS) (f : Int → Int) : kpt (mA M 10 f) = mA (kpt M) 10 f := by
  have e : snapF (mA M 10 f) = snapF M := snapF_mA (by decide)
  funext a
  unfold kpt
  rw [e]
  by_cases h : a = 10
  · subst h; rfl
  · rw [mA_n h]
    show mA (mA (cst (mA M 10 f) 27 1 74 (snapF M) (mA M 10 f)) 26 (khs (M 26) (M 28 0) (snapF M))) 28 (fun _ => khn (M 28 0)) a = _
    have k : cst (mA M 10 f) 27 1 74 (snapF M) (mA M 10 f) a = cst M 27 1 74 (snapF M) M a := by
      unfold cst
      rw [mA_n h]
    by_cases h1 : a = 28
    · subst h1; rfl
    · rw [mA_n h1, mA_n h1]
      by_cases h2 : a = 26
      · subst h2; rfl
      · rw [mA_n h2, mA_n h2, k]
/-- what is carried, of M0, the rest of M -/
def ovl (M M0 : MS) : MS := fun a => if a ≤ 9 then M0 a else M a
def qFeed (n l : Int) : Int := if l < 0 then -4 else if 255 < l ∨ n = 96 then -6 else n + 1
def eFeedM (M : MS) (l : Int) : MS := if (0 ≤ l ∧ l ≤ 255) ∧ M 13 0 < 96 then mA (mA M 12 (uI (M 12) (M 13 0) l)) 13 (fun _ => M 13 0 + 1) else M
def eFeedX (X : XS) (l : Int) : XS := if (0 ≤ l ∧ l ≤ 255) ∧ X 16 1 0 < 96 then setO X 16 (mA (mA (X 16) 0 (uI (X 16 0) (X 16 1 0) l)) 1 (fun _ => X 16 1 0 + 1)) else X
def qRow (n v : Int) : Int := if v < 0 then -4 else if 99 < v ∨ n = 12 then -6 else n + 1
def eRowM (M : MS) (v : Int) : MS := if (0 ≤ v ∧ v ≤ 99) ∧ M 38 0 < 12 then mA (mA M 37 (uI (M 37) (M 38 0) v)) 38 (fun _ => M 38 0 + 1) else M
def eRowX (X : XS) (v : Int) : XS := if (0 ≤ v ∧ v ≤ 99) ∧ X 18 5 0 < 12 then setO X 18 (mA (mA (X 18) 4 (uI (X 18 4) (X 18 5 0) v)) 5 (fun _ => X 18 5 0 + 1)) else X
theorem dX6_feed_0 : decode cX6_feed 0 = .ok (.aload_n 0, 1) := by decide +kernel
theorem dX6_feed_1 : decode cX6_feed 1 = .ok (.iconst 0, 1) := by decide +kernel
theorem dX6_feed_2 : decode cX6_feed 2 = .ok (.putfield 91, 3) := by decide +kernel
theorem dX6_feed_5 : decode cX6_feed 5 = .ok (.iload_n 1, 1) := by decide +kernel
theorem dX6_feed_6 : decode cX6_feed 6 = .ok (.ifCond .ge 10, 3) := by decide +kernel
theorem dX6_feed_9 : decode cX6_feed 9 = .ok (.aload_n 0, 1) := by decide +kernel
theorem dX6_feed_10 : decode cX6_feed 10 = .ok (.bipush (-4), 2) := by decide +kernel
theorem dX6_feed_12 : decode cX6_feed 12 = .ok (.invokevirtual 138, 3) := by decide +kernel
theorem dX6_feed_15 : decode cX6_feed 15 = .ok (.ireturn, 1) := by decide +kernel
theorem dX6_feed_16 : decode cX6_feed 16 = .ok (.iload_n 1, 1) := by decide +kernel
theorem dX6_feed_17 : decode cX6_feed 17 = .ok (.sipush 255, 3) := by decide +kernel
theorem dX6_feed_20 : decode cX6_feed 20 = .ok (.if_icmp .gt 12, 3) := by decide +kernel
theorem dX6_feed_23 : decode cX6_feed 23 = .ok (.aload_n 0, 1) := by decide +kernel
theorem dX6_feed_24 : decode cX6_feed 24 = .ok (.getfield 141, 3) := by decide +kernel
theorem dX6_feed_27 : decode cX6_feed 27 = .ok (.bipush 96, 2) := by decide +kernel
theorem dX6_feed_29 : decode cX6_feed 29 = .ok (.if_icmp .ne 10, 3) := by decide +kernel
theorem dX6_feed_32 : decode cX6_feed 32 = .ok (.aload_n 0, 1) := by decide +kernel
theorem dX6_feed_33 : decode cX6_feed 33 = .ok (.bipush (-6), 2) := by decide +kernel
theorem dX6_feed_35 : decode cX6_feed 35 = .ok (.invokevirtual 138, 3) := by decide +kernel
theorem dX6_feed_38 : decode cX6_feed 38 = .ok (.ireturn, 1) := by decide +kernel
theorem dX6_feed_39 : decode cX6_feed 39 = .ok (.aload_n 0, 1) := by decide +kernel
theorem dX6_feed_40 : decode cX6_feed 40 = .ok (.getfield 37, 3) := by decide +kernel
theorem dX6_feed_43 : decode cX6_feed 43 = .ok (.aload_n 0, 1) := by decide +kernel
theorem dX6_feed_44 : decode cX6_feed 44 = .ok (.getfield 141, 3) := by decide +kernel
theorem dX6_feed_47 : decode cX6_feed 47 = .ok (.iload_n 1, 1) := by decide +kernel
theorem dX6_feed_48 : decode cX6_feed 48 = .ok (.iastore, 1) := by decide +kernel
theorem dX6_feed_49 : decode cX6_feed 49 = .ok (.aload_n 0, 1) := by decide +kernel
theorem dX6_feed_50 : decode cX6_feed 50 = .ok (.dup, 1) := by decide +kernel
theorem dX6_feed_51 : decode cX6_feed 51 = .ok (.getfield 141, 3) := by decide +kernel
theorem dX6_feed_54 : decode cX6_feed 54 = .ok (.iconst 1, 1) := by decide +kernel
theorem dX6_feed_55 : decode cX6_feed 55 = .ok (.iadd, 1) := by decide +kernel
theorem dX6_feed_56 : decode cX6_feed 56 = .ok (.putfield 141, 3) := by decide +kernel
theorem dX6_feed_59 : decode cX6_feed 59 = .ok (.aload_n 0, 1) := by decide +kernel
theorem dX6_feed_60 : decode cX6_feed 60 = .ok (.getfield 141, 3) := by decide +kernel
theorem dX6_feed_63 : decode cX6_feed 63 = .ok (.ireturn, 1) := by decide +kernel
set_option maxRecDepth 100000 in
set_option maxHeartbeats 4000000 in
theorem k_X6_feed (κ : Kp) (ma : Nat → Nat) (M : MS) (l : Int)  (ha_l : In32 l) (hl : 0 ≤ M 13 0 ∧ M 13 0 ≤ 96) : mI κ yX6_feed cX6_feed 2 .int 2 [.ref (ma 100), .int (iI l)] (mw κ ma M) (qMs κ ma (eFeedM M l) M (qFeed (M 13 0) l)) := by
  refine mI_of (by decide) (Nat.le_of_ble_eq_true rfl) (fun E F K => ?_)
  refine g_lv (lv' := [(0, .ref (ma 100)), (1, .int (iI l))]) rfl ?_
  refine g_aload_n F 0 dX6_feed_0 rfl ?_
  refine g_iconst F dX6_feed_1 ?_
  refine gm_put_10 F dX6_feed_2 ?_
  refine g_iload_n F 1 dX6_feed_5 rfl ?_
  refine g_if_ge F 16 (by omega) dX6_feed_6 (by decide) (fun c6 => ?_) (fun c6 => ?_)
  · skip
    refine g_iload_n F 1 dX6_feed_16 rfl ?_
    refine g_sipush F dX6_feed_17 (by decide +kernel) ?_
    refine g_icmp_gt F 32 (by omega) dX6_feed_20 (by decide) (fun c20 => ?_) (fun c20 => ?_)
    · skip
      refine g_aload_n F 0 dX6_feed_32 rfl ?_
      refine g_bipush F dX6_feed_33 (by decide +kernel) ?_
      refine g_callI F (stk := [.int (iI (-6)), .ref (ma 100)]) (st := []) (k_X6_refuse κ ma (mA M 10 (fun _ => 0)) (-6) (by omega)) cal_X6_refuse lm_X6_138 0 rfl rfl rfl rfl (by decide) rfl (Nat.le_of_ble_eq_true rfl) dX6_feed_35 (fun r35 ws35 _ hr35 => ?_)
      obtain ⟨rfl, rfl⟩ := hr35
      refine g_top (y := iI (-6)) rfl ?_
      refine g_ws (ws' := mw κ ma (mA (mA M 10 (fun _ => 0)) 11 (uI (M 11) (-(-6)) (M 11 (-(-6)) + 1)))) rfl ?_
      have hq : (-6) = qFeed (M 13 0) l := by unfold qFeed; (repeat' split) <;> omega
      exact K mw_same ⟨_, rfl, iIc hq, (by rw [show eFeedM M l = _ from if_neg (by omega)]; exact ⟨rfl, rfl, rfl, rfl, rfl, rfl, rfl, rfl, rfl, rfl, rfl, rfl, rfl, rfl, rfl, rfl, rfl, rfl⟩), (by rw [← hq]; exact (rfa_r (by omega)).symm)⟩ rfl dX6_feed_38
    · skip
      refine g_aload_n F 0 dX6_feed_23 rfl ?_
      refine gm_get_13 F dX6_feed_24 ?_
      refine g_top (y := iI (M 13 0)) rfl ?_
      refine g_bipush F dX6_feed_27 (by decide +kernel) ?_
      refine g_icmp_ne F 39 (by omega) dX6_feed_29 (by decide) (fun c29 => ?_) (fun c29 => ?_)
      · skip
        refine g_aload_n F 0 dX6_feed_39 rfl ?_
        refine gm_get_12 F dX6_feed_40 ?_
        refine g_aload_n F 0 dX6_feed_43 rfl ?_
        refine gm_get_13 F dX6_feed_44 ?_
        refine g_top (y := iI (M 13 0)) rfl ?_
        refine g_iload_n F 1 dX6_feed_47 rfl ?_
        refine gm_ast_12 F (by omega) dX6_feed_48 ?_
        refine g_ws (ws' := mw κ ma (mA (mA M 10 (fun _ => 0)) 12 (uI (M 12) (M 13 0) l))) rfl ?_
        refine g_aload_n F 0 dX6_feed_49 rfl ?_
        refine g_dup F dX6_feed_50 rfl ?_
        refine gm_get_13 F dX6_feed_51 ?_
        refine g_top (y := iI (M 13 0)) rfl ?_
        refine g_iconst F dX6_feed_54 ?_
        refine g_iadd F dX6_feed_55 ?_
        refine gm_put_13 F dX6_feed_56 ?_
        refine g_aload_n F 0 dX6_feed_59 rfl ?_
        refine gm_get_13 F dX6_feed_60 ?_
        refine g_top (y := iI ((M 13 0) + 1)) rfl ?_
        have hq : (M 13 0) + 1 = qFeed (M 13 0) l := by unfold qFeed; (repeat' split) <;> omega
        exact K mw_same ⟨_, rfl, iIc hq, (by rw [show eFeedM M l = _ from if_pos (by omega)]; exact ⟨rfl, rfl, rfl, rfl, rfl, rfl, rfl, rfl, rfl, rfl, rfl, rfl, rfl, rfl, rfl, rfl, rfl, rfl⟩), (by rw [← hq]; show M 11 = _; exact (rfa_n (by omega)).symm)⟩ rfl dX6_feed_63
      · skip
        refine g_aload_n F 0 dX6_feed_32 rfl ?_
        refine g_bipush F dX6_feed_33 (by decide +kernel) ?_
        refine g_callI F (stk := [.int (iI (-6)), .ref (ma 100)]) (st := []) (k_X6_refuse κ ma (mA M 10 (fun _ => 0)) (-6) (by omega)) cal_X6_refuse lm_X6_138 0 rfl rfl rfl rfl (by decide) rfl (Nat.le_of_ble_eq_true rfl) dX6_feed_35 (fun r35 ws35 _ hr35 => ?_)
        obtain ⟨rfl, rfl⟩ := hr35
        refine g_top (y := iI (-6)) rfl ?_
        refine g_ws (ws' := mw κ ma (mA (mA M 10 (fun _ => 0)) 11 (uI (M 11) (-(-6)) (M 11 (-(-6)) + 1)))) rfl ?_
        have hq : (-6) = qFeed (M 13 0) l := by unfold qFeed; (repeat' split) <;> omega
        exact K mw_same ⟨_, rfl, iIc hq, (by rw [show eFeedM M l = _ from if_neg (by omega)]; exact ⟨rfl, rfl, rfl, rfl, rfl, rfl, rfl, rfl, rfl, rfl, rfl, rfl, rfl, rfl, rfl, rfl, rfl, rfl⟩), (by rw [← hq]; exact (rfa_r (by omega)).symm)⟩ rfl dX6_feed_38
  · skip
    refine g_aload_n F 0 dX6_feed_9 rfl ?_
    refine g_bipush F dX6_feed_10 (by decide +kernel) ?_
    refine g_callI F (stk := [.int (iI (-4)), .ref (ma 100)]) (st := []) (k_X6_refuse κ ma (mA M 10 (fun _ => 0)) (-4) (by omega)) cal_X6_refuse lm_X6_138 0 rfl rfl rfl rfl (by decide) rfl (Nat.le_of_ble_eq_true rfl) dX6_feed_12 (fun r12 ws12 _ hr12 => ?_)
    obtain ⟨rfl, rfl⟩ := hr12
    refine g_top (y := iI (-4)) rfl ?_
    refine g_ws (ws' := mw κ ma (mA (mA M 10 (fun _ => 0)) 11 (uI (M 11) (-(-4)) (M 11 (-(-4)) + 1)))) rfl ?_
    have hq : (-4) = qFeed (M 13 0) l := by unfold qFeed; (repeat' split) <;> omega
    exact K mw_same ⟨_, rfl, iIc hq, (by rw [show eFeedM M l = _ from if_neg (by omega)]; exact ⟨rfl, rfl, rfl, rfl, rfl, rfl, rfl, rfl, rfl, rfl, rfl, rfl, rfl, rfl, rfl, rfl, rfl, rfl⟩), (by rw [← hq]; exact (rfa_r (by omega)).symm)⟩ rfl dX6_feed_15
theorem dX3_add_0 : decode cX3_add 0 = .ok (.aload_n 0, 1) := by decide +kernel
theorem dX3_add_1 : decode cX3_add 1 = .ok (.getfield 15, 3) := by decide +kernel
theorem dX3_add_4 : decode cX3_add 4 = .ok (.bipush 96, 2) := by decide +kernel
theorem dX3_add_6 : decode cX3_add 6 = .ok (.if_icmp .lt 4, 3) := by decide +kernel
theorem dX3_add_9 : decode cX3_add 9 = .ok (.return_, 1) := by decide +kernel
theorem dX3_add_10 : decode cX3_add 10 = .ok (.aload_n 0, 1) := by decide +kernel
theorem dX3_add_11 : decode cX3_add 11 = .ok (.getfield 9, 3) := by decide +kernel
theorem dX3_add_14 : decode cX3_add 14 = .ok (.aload_n 0, 1) := by decide +kernel
theorem dX3_add_15 : decode cX3_add 15 = .ok (.getfield 15, 3) := by decide +kernel
theorem dX3_add_18 : decode cX3_add 18 = .ok (.iload_n 1, 1) := by decide +kernel
theorem dX3_add_19 : decode cX3_add 19 = .ok (.iastore, 1) := by decide +kernel
theorem dX3_add_20 : decode cX3_add 20 = .ok (.aload_n 0, 1) := by decide +kernel
theorem dX3_add_21 : decode cX3_add 21 = .ok (.dup, 1) := by decide +kernel
theorem dX3_add_22 : decode cX3_add 22 = .ok (.getfield 15, 3) := by decide +kernel
theorem dX3_add_25 : decode cX3_add 25 = .ok (.iconst 1, 1) := by decide +kernel
theorem dX3_add_26 : decode cX3_add 26 = .ok (.iadd, 1) := by decide +kernel
theorem dX3_add_27 : decode cX3_add 27 = .ok (.putfield 15, 3) := by decide +kernel
theorem dX3_add_30 : decode cX3_add 30 = .ok (.return_, 1) := by decide +kernel
set_option maxRecDepth 100000 in
set_option maxHeartbeats 4000000 in
theorem k_X3_add (κ : Kp) (xa : Nat → Nat → Nat) (X : XS) (l : Int)  (hn : 0 ≤ X 16 1 0 ∧ X 16 1 0 < 96) : mV κ yX3_add cX3_add 2 0 [.ref (xa 16 100), .int (iI l)] (xw κ xa X) (is0 (xw κ xa (setO X 16 (mA (mA (X 16) 0 (uI ((X 16) 0) (X 16 1 0) l)) 1 (fun _ => X 16 1 0 + 1))))) := by
  refine mV_of (by decide) (Nat.le_of_ble_eq_true rfl) (fun E F K => ?_)
  refine g_lv (lv' := [(0, .ref (xa 16 100)), (1, .int (iI l))]) rfl ?_
  refine g_aload_n F 0 dX3_add_0 rfl ?_
  refine g16_get_1 F  lf_X3_15 dX3_add_1 ?_
  refine g_bipush F dX3_add_4 (by decide +kernel) ?_
  refine g_icmp_lt F 10 (by omega) dX3_add_6 (by decide) (fun c6 => ?_) (fun c6 => ?_)
  · skip
    refine g_aload_n F 0 dX3_add_10 rfl ?_
    refine g16_get_0 F  lf_X3_9 dX3_add_11 ?_
    refine g_aload_n F 0 dX3_add_14 rfl ?_
    refine g16_get_1 F  lf_X3_15 dX3_add_15 ?_
    refine g_iload_n F 1 dX3_add_18 rfl ?_
    refine g16_ast_0 F  (by omega) dX3_add_19 ?_
    refine g_aload_n F 0 dX3_add_20 rfl ?_
    refine g_dup F dX3_add_21 rfl ?_
    refine g16_get_1 F  lf_X3_15 dX3_add_22 ?_
    refine g_top (y := iI ((X 16) 1 0)) rfl ?_
    refine g_iconst F dX3_add_25 ?_
    refine g_iadd F dX3_add_26 ?_
    refine g16_put_1 F   lf_X3_15 dX3_add_27 ?_
    refine g_ws (ws' := xw κ xa (setO X 16 (mA (mA (X 16) 0 (uI ((X 16) 0) ((X 16) 1 0) l)) 1 (fun _ => ((X 16) 1 0) + 1)))) rfl ?_
    exact K xw_same rfl dX3_add_30
  · skip
    exact absurd trivial (by omega)
theorem dX5_feed_0 : decode cX5_feed 0 = .ok (.iload_n 1, 1) := by decide +kernel
theorem dX5_feed_1 : decode cX5_feed 1 = .ok (.ifCond .ge 10, 3) := by decide +kernel
theorem dX5_feed_4 : decode cX5_feed 4 = .ok (.aload_n 0, 1) := by decide +kernel
theorem dX5_feed_5 : decode cX5_feed 5 = .ok (.bipush (-4), 2) := by decide +kernel
theorem dX5_feed_7 : decode cX5_feed 7 = .ok (.invokevirtual 69, 3) := by decide +kernel
theorem dX5_feed_10 : decode cX5_feed 10 = .ok (.ireturn, 1) := by decide +kernel
theorem dX5_feed_11 : decode cX5_feed 11 = .ok (.iload_n 1, 1) := by decide +kernel
theorem dX5_feed_12 : decode cX5_feed 12 = .ok (.sipush 255, 3) := by decide +kernel
theorem dX5_feed_15 : decode cX5_feed 15 = .ok (.if_icmp .gt 15, 3) := by decide +kernel
theorem dX5_feed_18 : decode cX5_feed 18 = .ok (.aload_n 0, 1) := by decide +kernel
theorem dX5_feed_19 : decode cX5_feed 19 = .ok (.getfield 33, 3) := by decide +kernel
theorem dX5_feed_22 : decode cX5_feed 22 = .ok (.getfield 73, 3) := by decide +kernel
theorem dX5_feed_25 : decode cX5_feed 25 = .ok (.bipush 96, 2) := by decide +kernel
theorem dX5_feed_27 : decode cX5_feed 27 = .ok (.if_icmp .lt 10, 3) := by decide +kernel
theorem dX5_feed_30 : decode cX5_feed 30 = .ok (.aload_n 0, 1) := by decide +kernel
theorem dX5_feed_31 : decode cX5_feed 31 = .ok (.bipush (-6), 2) := by decide +kernel
theorem dX5_feed_33 : decode cX5_feed 33 = .ok (.invokevirtual 69, 3) := by decide +kernel
theorem dX5_feed_36 : decode cX5_feed 36 = .ok (.ireturn, 1) := by decide +kernel
theorem dX5_feed_37 : decode cX5_feed 37 = .ok (.aload_n 0, 1) := by decide +kernel
theorem dX5_feed_38 : decode cX5_feed 38 = .ok (.getfield 33, 3) := by decide +kernel
theorem dX5_feed_41 : decode cX5_feed 41 = .ok (.iload_n 1, 1) := by decide +kernel
theorem dX5_feed_42 : decode cX5_feed 42 = .ok (.invokevirtual 77, 3) := by decide +kernel
theorem dX5_feed_45 : decode cX5_feed 45 = .ok (.aload_n 0, 1) := by decide +kernel
theorem dX5_feed_46 : decode cX5_feed 46 = .ok (.getfield 33, 3) := by decide +kernel
theorem dX5_feed_49 : decode cX5_feed 49 = .ok (.getfield 73, 3) := by decide +kernel
theorem dX5_feed_52 : decode cX5_feed 52 = .ok (.ireturn, 1) := by decide +kernel
set_option maxRecDepth 100000 in
set_option maxHeartbeats 4000000 in
theorem k_X5_feed (κ : Kp) (xa : Nat → Nat → Nat) (X : XS) (l : Int)  (ha_l : In32 l) (hl : 0 ≤ X 16 1 0 ∧ X 16 1 0 ≤ 96) : mI κ yX5_feed cX5_feed 2 .int 2 [.ref (xa 18 100), .int (iI l)] (xw κ xa X) (qXs κ xa (eFeedX X l) X (qFeed (X 16 1 0) l)) := by
  refine mI_of (by decide) (Nat.le_of_ble_eq_true rfl) (fun E F K => ?_)
  refine g_lv (lv' := [(0, .ref (xa 18 100)), (1, .int (iI l))]) rfl ?_
  refine g_iload_n F 1 dX5_feed_0 rfl ?_
  refine g_if_ge F 11 (by omega) dX5_feed_1 (by decide) (fun c1 => ?_) (fun c1 => ?_)
  · skip
    refine g_iload_n F 1 dX5_feed_11 rfl ?_
    refine g_sipush F dX5_feed_12 (by decide +kernel) ?_
    refine g_icmp_gt F 30 (by omega) dX5_feed_15 (by decide) (fun c15 => ?_) (fun c15 => ?_)
    · skip
      refine g_aload_n F 0 dX5_feed_30 rfl ?_
      refine g_bipush F dX5_feed_31 (by decide +kernel) ?_
      refine g_callI F (stk := [.int (iI (-6)), .ref (xa 18 100)]) (st := []) (k_X5_refuse κ xa X (-6) (by omega)) cal_X5_refuse lm_X5_69 81 rfl rfl rfl rfl (by decide) rfl (Nat.le_of_ble_eq_true rfl) dX5_feed_33 (fun r33 ws33 _ hr33 => ?_)
      obtain ⟨rfl, rfl⟩ := hr33
      have hq : (-6) = qFeed (X 16 1 0) l := by unfold qFeed; (repeat' split) <;> omega
      exact K xw_same ⟨_, rfl, iIc hq, (by rw [show eFeedX X l = _ from if_neg (by omega)]; exact (sX_18 sX_0 rfl rfl rfl)), (by rw [← hq]; exact (rfa_r (by omega)).symm)⟩ rfl dX5_feed_36
    · skip
      refine g_aload_n F 0 dX5_feed_18 rfl ?_
      refine g18_get_3 F  lf_X5_33 dX5_feed_19 ?_
      refine g16_getN_1 F  nf_X5_73 dX5_feed_22 ?_
      refine g_bipush F dX5_feed_25 (by decide +kernel) ?_
      refine g_icmp_lt F 37 (by omega) dX5_feed_27 (by decide) (fun c27 => ?_) (fun c27 => ?_)
      · skip
        refine g_aload_n F 0 dX5_feed_37 rfl ?_
        refine g18_get_3 F  lf_X5_33 dX5_feed_38 ?_
        refine g_iload_n F 1 dX5_feed_41 rfl ?_
        refine g_callNV F (stk := [.int (iI l), .ref (xa 16 100)]) (st := []) (k_X3_add κ xa X l (show 0 ≤ ((X 16) 1 0) ∧ ((X 16) 1 0) < 96 from by omega)) cal_X3_add nm_X5_77 75 rfl rfl rfl rfl (by decide) rfl (Nat.le_of_ble_eq_true rfl) dX5_feed_42 (fun ws42 _ hr42 => ?_)
        obtain rfl := hr42
        refine g_aload_n F 0 dX5_feed_45 rfl ?_
        refine g18_get_3 F  lf_X5_33 dX5_feed_46 ?_
        refine g16_getN_1 F  nf_X5_73 dX5_feed_49 ?_
        refine g_top (y := iI (X 16 1 0 + 1)) rfl ?_
        have hq : X 16 1 0 + 1 = qFeed (X 16 1 0) l := by unfold qFeed; (repeat' split) <;> omega
        exact K xw_same ⟨_, rfl, iIc hq, (by rw [show eFeedX X l = _ from if_pos (by omega)]; exact sX_0), (by rw [← hq]; exact (rfa_n (by omega)).symm)⟩ rfl dX5_feed_52
      · skip
        refine g_aload_n F 0 dX5_feed_30 rfl ?_
        refine g_bipush F dX5_feed_31 (by decide +kernel) ?_
        refine g_callI F (stk := [.int (iI (-6)), .ref (xa 18 100)]) (st := []) (k_X5_refuse κ xa X (-6) (by omega)) cal_X5_refuse lm_X5_69 81 rfl rfl rfl rfl (by decide) rfl (Nat.le_of_ble_eq_true rfl) dX5_feed_33 (fun r33 ws33 _ hr33 => ?_)
        obtain ⟨rfl, rfl⟩ := hr33
        have hq : (-6) = qFeed (X 16 1 0) l := by unfold qFeed; (repeat' split) <;> omega
        exact K xw_same ⟨_, rfl, iIc hq, (by rw [show eFeedX X l = _ from if_neg (by omega)]; exact (sX_18 sX_0 rfl rfl rfl)), (by rw [← hq]; exact (rfa_r (by omega)).symm)⟩ rfl dX5_feed_36
  · skip
    refine g_aload_n F 0 dX5_feed_4 rfl ?_
    refine g_bipush F dX5_feed_5 (by decide +kernel) ?_
    refine g_callI F (stk := [.int (iI (-4)), .ref (xa 18 100)]) (st := []) (k_X5_refuse κ xa X (-4) (by omega)) cal_X5_refuse lm_X5_69 81 rfl rfl rfl rfl (by decide) rfl (Nat.le_of_ble_eq_true rfl) dX5_feed_7 (fun r7 ws7 _ hr7 => ?_)
    obtain ⟨rfl, rfl⟩ := hr7
    have hq : (-4) = qFeed (X 16 1 0) l := by unfold qFeed; (repeat' split) <;> omega
    exact K xw_same ⟨_, rfl, iIc hq, (by rw [show eFeedX X l = _ from if_neg (by omega)]; exact (sX_18 sX_0 rfl rfl rfl)), (by rw [← hq]; exact (rfa_r (by omega)).symm)⟩ rfl dX5_feed_10
theorem dX6_row_0 : decode cX6_row 0 = .ok (.aload_n 0, 1) := by decide +kernel
theorem dX6_row_1 : decode cX6_row 1 = .ok (.iconst 0, 1) := by decide +kernel
theorem dX6_row_2 : decode cX6_row 2 = .ok (.putfield 91, 3) := by decide +kernel
theorem dX6_row_5 : decode cX6_row 5 = .ok (.iload_n 1, 1) := by decide +kernel
theorem dX6_row_6 : decode cX6_row 6 = .ok (.ifCond .ge 10, 3) := by decide +kernel
theorem dX6_row_9 : decode cX6_row 9 = .ok (.aload_n 0, 1) := by decide +kernel
theorem dX6_row_10 : decode cX6_row 10 = .ok (.bipush (-4), 2) := by decide +kernel
theorem dX6_row_12 : decode cX6_row 12 = .ok (.invokevirtual 138, 3) := by decide +kernel
theorem dX6_row_15 : decode cX6_row 15 = .ok (.ireturn, 1) := by decide +kernel
theorem dX6_row_16 : decode cX6_row 16 = .ok (.iload_n 1, 1) := by decide +kernel
theorem dX6_row_17 : decode cX6_row 17 = .ok (.bipush 99, 2) := by decide +kernel
theorem dX6_row_19 : decode cX6_row 19 = .ok (.if_icmp .gt 12, 3) := by decide +kernel
theorem dX6_row_22 : decode cX6_row 22 = .ok (.aload_n 0, 1) := by decide +kernel
theorem dX6_row_23 : decode cX6_row 23 = .ok (.getfield 295, 3) := by decide +kernel
theorem dX6_row_26 : decode cX6_row 26 = .ok (.bipush 12, 2) := by decide +kernel
theorem dX6_row_28 : decode cX6_row 28 = .ok (.if_icmp .ne 10, 3) := by decide +kernel
theorem dX6_row_31 : decode cX6_row 31 = .ok (.aload_n 0, 1) := by decide +kernel
theorem dX6_row_32 : decode cX6_row 32 = .ok (.bipush (-6), 2) := by decide +kernel
theorem dX6_row_34 : decode cX6_row 34 = .ok (.invokevirtual 138, 3) := by decide +kernel
theorem dX6_row_37 : decode cX6_row 37 = .ok (.ireturn, 1) := by decide +kernel
theorem dX6_row_38 : decode cX6_row 38 = .ok (.aload_n 0, 1) := by decide +kernel
theorem dX6_row_39 : decode cX6_row 39 = .ok (.getfield 79, 3) := by decide +kernel
theorem dX6_row_42 : decode cX6_row 42 = .ok (.aload_n 0, 1) := by decide +kernel
theorem dX6_row_43 : decode cX6_row 43 = .ok (.getfield 295, 3) := by decide +kernel
theorem dX6_row_46 : decode cX6_row 46 = .ok (.iload_n 1, 1) := by decide +kernel
theorem dX6_row_47 : decode cX6_row 47 = .ok (.iastore, 1) := by decide +kernel
theorem dX6_row_48 : decode cX6_row 48 = .ok (.aload_n 0, 1) := by decide +kernel
theorem dX6_row_49 : decode cX6_row 49 = .ok (.dup, 1) := by decide +kernel
theorem dX6_row_50 : decode cX6_row 50 = .ok (.getfield 295, 3) := by decide +kernel
theorem dX6_row_53 : decode cX6_row 53 = .ok (.iconst 1, 1) := by decide +kernel
theorem dX6_row_54 : decode cX6_row 54 = .ok (.iadd, 1) := by decide +kernel
theorem dX6_row_55 : decode cX6_row 55 = .ok (.putfield 295, 3) := by decide +kernel
theorem dX6_row_58 : decode cX6_row 58 = .ok (.aload_n 0, 1) := by decide +kernel
theorem dX6_row_59 : decode cX6_row 59 = .ok (.getfield 295, 3) := by decide +kernel
theorem dX6_row_62 : decode cX6_row 62 = .ok (.ireturn, 1) := by decide +kernel
set_option maxRecDepth 100000 in
set_option maxHeartbeats 4000000 in
theorem k_X6_row (κ : Kp) (ma : Nat → Nat) (M : MS) (v : Int)  (ha_v : In32 v) (hn : 0 ≤ M 38 0 ∧ M 38 0 ≤ 12) : mI κ yX6_row cX6_row 2 .int 2 [.ref (ma 100), .int (iI v)] (mw κ ma M) (qMs κ ma (eRowM M v) M (qRow (M 38 0) v)) := by
  refine mI_of (by decide) (Nat.le_of_ble_eq_true rfl) (fun E F K => ?_)
  refine g_lv (lv' := [(0, .ref (ma 100)), (1, .int (iI v))]) rfl ?_
  refine g_aload_n F 0 dX6_row_0 rfl ?_
  refine g_iconst F dX6_row_1 ?_
  refine gm_put_10 F dX6_row_2 ?_
  refine g_iload_n F 1 dX6_row_5 rfl ?_
  refine g_if_ge F 16 (by omega) dX6_row_6 (by decide) (fun c6 => ?_) (fun c6 => ?_)
  · skip
    refine g_iload_n F 1 dX6_row_16 rfl ?_
    refine g_bipush F dX6_row_17 (by decide +kernel) ?_
    refine g_icmp_gt F 31 (by omega) dX6_row_19 (by decide) (fun c19 => ?_) (fun c19 => ?_)
    · skip
      refine g_aload_n F 0 dX6_row_31 rfl ?_
      refine g_bipush F dX6_row_32 (by decide +kernel) ?_
      refine g_callI F (stk := [.int (iI (-6)), .ref (ma 100)]) (st := []) (k_X6_refuse κ ma (mA M 10 (fun _ => 0)) (-6) (by omega)) cal_X6_refuse lm_X6_138 0 rfl rfl rfl rfl (by decide) rfl (Nat.le_of_ble_eq_true rfl) dX6_row_34 (fun r34 ws34 _ hr34 => ?_)
      obtain ⟨rfl, rfl⟩ := hr34
      refine g_top (y := iI (-6)) rfl ?_
      refine g_ws (ws' := mw κ ma (mA (mA M 10 (fun _ => 0)) 11 (uI (M 11) (-(-6)) (M 11 (-(-6)) + 1)))) rfl ?_
      have hq : (-6) = qRow (M 38 0) v := by unfold qRow; (repeat' split) <;> omega
      exact K mw_same ⟨_, rfl, iIc hq, (by rw [show eRowM M v = _ from if_neg (by omega)]; exact ⟨rfl, rfl, rfl, rfl, rfl, rfl, rfl, rfl, rfl, rfl, rfl, rfl, rfl, rfl, rfl, rfl, rfl, rfl⟩), (by rw [← hq]; exact (rfa_r (by omega)).symm)⟩ rfl dX6_row_37
    · skip
      refine g_aload_n F 0 dX6_row_22 rfl ?_
      refine gm_get_38 F dX6_row_23 ?_
      refine g_top (y := iI (M 38 0)) rfl ?_
      refine g_bipush F dX6_row_26 (by decide +kernel) ?_
      refine g_icmp_ne F 38 (by omega) dX6_row_28 (by decide) (fun c28 => ?_) (fun c28 => ?_)
      · skip
        refine g_aload_n F 0 dX6_row_38 rfl ?_
        refine gm_get_37 F dX6_row_39 ?_
        refine g_aload_n F 0 dX6_row_42 rfl ?_
        refine gm_get_38 F dX6_row_43 ?_
        refine g_top (y := iI (M 38 0)) rfl ?_
        refine g_iload_n F 1 dX6_row_46 rfl ?_
        refine gm_ast_37 F (by omega) dX6_row_47 ?_
        refine g_ws (ws' := mw κ ma (mA (mA M 10 (fun _ => 0)) 37 (uI (M 37) (M 38 0) v))) rfl ?_
        refine g_aload_n F 0 dX6_row_48 rfl ?_
        refine g_dup F dX6_row_49 rfl ?_
        refine gm_get_38 F dX6_row_50 ?_
        refine g_top (y := iI (M 38 0)) rfl ?_
        refine g_iconst F dX6_row_53 ?_
        refine g_iadd F dX6_row_54 ?_
        refine gm_put_38 F dX6_row_55 ?_
        refine g_aload_n F 0 dX6_row_58 rfl ?_
        refine gm_get_38 F dX6_row_59 ?_
        refine g_top (y := iI ((M 38 0) + 1)) rfl ?_
        have hq : (M 38 0) + 1 = qRow (M 38 0) v := by unfold qRow; (repeat' split) <;> omega
        exact K mw_same ⟨_, rfl, iIc hq, (by rw [show eRowM M v = _ from if_pos (by omega)]; exact ⟨rfl, rfl, rfl, rfl, rfl, rfl, rfl, rfl, rfl, rfl, rfl, rfl, rfl, rfl, rfl, rfl, rfl, rfl⟩), (by rw [← hq]; show M 11 = _; exact (rfa_n (by omega)).symm)⟩ rfl dX6_row_62
      · skip
        refine g_aload_n F 0 dX6_row_31 rfl ?_
        refine g_bipush F dX6_row_32 (by decide +kernel) ?_
        refine g_callI F (stk := [.int (iI (-6)), .ref (ma 100)]) (st := []) (k_X6_refuse κ ma (mA M 10 (fun _ => 0)) (-6) (by omega)) cal_X6_refuse lm_X6_138 0 rfl rfl rfl rfl (by decide) rfl (Nat.le_of_ble_eq_true rfl) dX6_row_34 (fun r34 ws34 _ hr34 => ?_)
        obtain ⟨rfl, rfl⟩ := hr34
        refine g_top (y := iI (-6)) rfl ?_
        refine g_ws (ws' := mw κ ma (mA (mA M 10 (fun _ => 0)) 11 (uI (M 11) (-(-6)) (M 11 (-(-6)) + 1)))) rfl ?_
        have hq : (-6) = qRow (M 38 0) v := by unfold qRow; (repeat' split) <;> omega
        exact K mw_same ⟨_, rfl, iIc hq, (by rw [show eRowM M v = _ from if_neg (by omega)]; exact ⟨rfl, rfl, rfl, rfl, rfl, rfl, rfl, rfl, rfl, rfl, rfl, rfl, rfl, rfl, rfl, rfl, rfl, rfl⟩), (by rw [← hq]; exact (rfa_r (by omega)).symm)⟩ rfl dX6_row_37
  · skip
    refine g_aload_n F 0 dX6_row_9 rfl ?_
    refine g_bipush F dX6_row_10 (by decide +kernel) ?_
    refine g_callI F (stk := [.int (iI (-4)), .ref (ma 100)]) (st := []) (k_X6_refuse κ ma (mA M 10 (fun _ => 0)) (-4) (by omega)) cal_X6_refuse lm_X6_138 0 rfl rfl rfl rfl (by decide) rfl (Nat.le_of_ble_eq_true rfl) dX6_row_12 (fun r12 ws12 _ hr12 => ?_)
    obtain ⟨rfl, rfl⟩ := hr12
    refine g_top (y := iI (-4)) rfl ?_
    refine g_ws (ws' := mw κ ma (mA (mA M 10 (fun _ => 0)) 11 (uI (M 11) (-(-4)) (M 11 (-(-4)) + 1)))) rfl ?_
    have hq : (-4) = qRow (M 38 0) v := by unfold qRow; (repeat' split) <;> omega
    exact K mw_same ⟨_, rfl, iIc hq, (by rw [show eRowM M v = _ from if_neg (by omega)]; exact ⟨rfl, rfl, rfl, rfl, rfl, rfl, rfl, rfl, rfl, rfl, rfl, rfl, rfl, rfl, rfl, rfl, rfl, rfl⟩), (by rw [← hq]; exact (rfa_r (by omega)).symm)⟩ rfl dX6_row_15
theorem dX5_row_0 : decode cX5_row 0 = .ok (.iload_n 1, 1) := by decide +kernel
theorem dX5_row_1 : decode cX5_row 1 = .ok (.ifCond .ge 10, 3) := by decide +kernel
theorem dX5_row_4 : decode cX5_row 4 = .ok (.aload_n 0, 1) := by decide +kernel
theorem dX5_row_5 : decode cX5_row 5 = .ok (.bipush (-4), 2) := by decide +kernel
theorem dX5_row_7 : decode cX5_row 7 = .ok (.invokevirtual 69, 3) := by decide +kernel
theorem dX5_row_10 : decode cX5_row 10 = .ok (.ireturn, 1) := by decide +kernel
theorem dX5_row_11 : decode cX5_row 11 = .ok (.iload_n 1, 1) := by decide +kernel
theorem dX5_row_12 : decode cX5_row 12 = .ok (.bipush 99, 2) := by decide +kernel
theorem dX5_row_14 : decode cX5_row 14 = .ok (.if_icmp .gt 12, 3) := by decide +kernel
theorem dX5_row_17 : decode cX5_row 17 = .ok (.aload_n 0, 1) := by decide +kernel
theorem dX5_row_18 : decode cX5_row 18 = .ok (.getfield 281, 3) := by decide +kernel
theorem dX5_row_21 : decode cX5_row 21 = .ok (.bipush 12, 2) := by decide +kernel
theorem dX5_row_23 : decode cX5_row 23 = .ok (.if_icmp .lt 10, 3) := by decide +kernel
theorem dX5_row_26 : decode cX5_row 26 = .ok (.aload_n 0, 1) := by decide +kernel
theorem dX5_row_27 : decode cX5_row 27 = .ok (.bipush (-6), 2) := by decide +kernel
theorem dX5_row_29 : decode cX5_row 29 = .ok (.invokevirtual 69, 3) := by decide +kernel
theorem dX5_row_32 : decode cX5_row 32 = .ok (.ireturn, 1) := by decide +kernel
theorem dX5_row_33 : decode cX5_row 33 = .ok (.aload_n 0, 1) := by decide +kernel
theorem dX5_row_34 : decode cX5_row 34 = .ok (.getfield 37, 3) := by decide +kernel
theorem dX5_row_37 : decode cX5_row 37 = .ok (.aload_n 0, 1) := by decide +kernel
theorem dX5_row_38 : decode cX5_row 38 = .ok (.getfield 281, 3) := by decide +kernel
theorem dX5_row_41 : decode cX5_row 41 = .ok (.iload_n 1, 1) := by decide +kernel
theorem dX5_row_42 : decode cX5_row 42 = .ok (.iastore, 1) := by decide +kernel
theorem dX5_row_43 : decode cX5_row 43 = .ok (.aload_n 0, 1) := by decide +kernel
theorem dX5_row_44 : decode cX5_row 44 = .ok (.dup, 1) := by decide +kernel
theorem dX5_row_45 : decode cX5_row 45 = .ok (.getfield 281, 3) := by decide +kernel
theorem dX5_row_48 : decode cX5_row 48 = .ok (.iconst 1, 1) := by decide +kernel
theorem dX5_row_49 : decode cX5_row 49 = .ok (.iadd, 1) := by decide +kernel
theorem dX5_row_50 : decode cX5_row 50 = .ok (.putfield 281, 3) := by decide +kernel
theorem dX5_row_53 : decode cX5_row 53 = .ok (.aload_n 0, 1) := by decide +kernel
theorem dX5_row_54 : decode cX5_row 54 = .ok (.getfield 281, 3) := by decide +kernel
theorem dX5_row_57 : decode cX5_row 57 = .ok (.ireturn, 1) := by decide +kernel
set_option maxRecDepth 100000 in
set_option maxHeartbeats 4000000 in
theorem k_X5_row (κ : Kp) (xa : Nat → Nat → Nat) (X : XS) (v : Int)  (ha_v : In32 v) (hn : 0 ≤ X 18 5 0 ∧ X 18 5 0 ≤ 12) : mI κ yX5_row cX5_row 2 .int 2 [.ref (xa 18 100), .int (iI v)] (xw κ xa X) (qXs κ xa (eRowX X v) X (qRow (X 18 5 0) v)) := by
  refine mI_of (by decide) (Nat.le_of_ble_eq_true rfl) (fun E F K => ?_)
  refine g_lv (lv' := [(0, .ref (xa 18 100)), (1, .int (iI v))]) rfl ?_
  refine g_iload_n F 1 dX5_row_0 rfl ?_
  refine g_if_ge F 11 (by omega) dX5_row_1 (by decide) (fun c1 => ?_) (fun c1 => ?_)
  · skip
    refine g_iload_n F 1 dX5_row_11 rfl ?_
    refine g_bipush F dX5_row_12 (by decide +kernel) ?_
    refine g_icmp_gt F 26 (by omega) dX5_row_14 (by decide) (fun c14 => ?_) (fun c14 => ?_)
    · skip
      refine g_aload_n F 0 dX5_row_26 rfl ?_
      refine g_bipush F dX5_row_27 (by decide +kernel) ?_
      refine g_callI F (stk := [.int (iI (-6)), .ref (xa 18 100)]) (st := []) (k_X5_refuse κ xa X (-6) (by omega)) cal_X5_refuse lm_X5_69 81 rfl rfl rfl rfl (by decide) rfl (Nat.le_of_ble_eq_true rfl) dX5_row_29 (fun r29 ws29 _ hr29 => ?_)
      obtain ⟨rfl, rfl⟩ := hr29
      have hq : (-6) = qRow (X 18 5 0) v := by unfold qRow; (repeat' split) <;> omega
      exact K xw_same ⟨_, rfl, iIc hq, (by rw [show eRowX X v = _ from if_neg (by omega)]; exact (sX_18 sX_0 rfl rfl rfl)), (by rw [← hq]; exact (rfa_r (by omega)).symm)⟩ rfl dX5_row_32
    · skip
      refine g_aload_n F 0 dX5_row_17 rfl ?_
      refine g18_get_5 F  lf_X5_281 dX5_row_18 ?_
      refine g_bipush F dX5_row_21 (by decide +kernel) ?_
      refine g_icmp_lt F 33 (by omega) dX5_row_23 (by decide) (fun c23 => ?_) (fun c23 => ?_)
      · skip
        refine g_aload_n F 0 dX5_row_33 rfl ?_
        refine g18_get_4 F  lf_X5_37 dX5_row_34 ?_
        refine g_aload_n F 0 dX5_row_37 rfl ?_
        refine g18_get_5 F  lf_X5_281 dX5_row_38 ?_
        refine g_iload_n F 1 dX5_row_41 rfl ?_
        refine g18_ast_4 F  (by omega) dX5_row_42 ?_
        refine g_aload_n F 0 dX5_row_43 rfl ?_
        refine g_dup F dX5_row_44 rfl ?_
        refine g18_get_5 F  lf_X5_281 dX5_row_45 ?_
        refine g_top (y := iI ((X 18) 5 0)) rfl ?_
        refine g_iconst F dX5_row_48 ?_
        refine g_iadd F dX5_row_49 ?_
        refine g18_put_5 F   lf_X5_281 dX5_row_50 ?_
        refine g_ws (ws' := xw κ xa (setO X 18 (mA (mA (X 18) 4 (uI ((X 18) 4) ((X 18) 5 0) v)) 5 (fun _ => ((X 18) 5 0) + 1)))) rfl ?_
        refine g_aload_n F 0 dX5_row_53 rfl ?_
        refine g18_get_5 F  lf_X5_281 dX5_row_54 ?_
        refine g_top (y := iI (((X 18) 5 0) + 1)) rfl ?_
        have hq : ((X 18) 5 0) + 1 = qRow (X 18 5 0) v := by unfold qRow; (repeat' split) <;> omega
        exact K xw_same ⟨_, rfl, iIc hq, (by rw [show eRowX X v = _ from if_pos (by omega)]; exact sX_0), (by rw [← hq]; exact (rfa_n (by omega)).symm)⟩ rfl dX5_row_57
      · skip
        refine g_aload_n F 0 dX5_row_26 rfl ?_
        refine g_bipush F dX5_row_27 (by decide +kernel) ?_
        refine g_callI F (stk := [.int (iI (-6)), .ref (xa 18 100)]) (st := []) (k_X5_refuse κ xa X (-6) (by omega)) cal_X5_refuse lm_X5_69 81 rfl rfl rfl rfl (by decide) rfl (Nat.le_of_ble_eq_true rfl) dX5_row_29 (fun r29 ws29 _ hr29 => ?_)
        obtain ⟨rfl, rfl⟩ := hr29
        have hq : (-6) = qRow (X 18 5 0) v := by unfold qRow; (repeat' split) <;> omega
        exact K xw_same ⟨_, rfl, iIc hq, (by rw [show eRowX X v = _ from if_neg (by omega)]; exact (sX_18 sX_0 rfl rfl rfl)), (by rw [← hq]; exact (rfa_r (by omega)).symm)⟩ rfl dX5_row_32
  · skip
    refine g_aload_n F 0 dX5_row_4 rfl ?_
    refine g_bipush F dX5_row_5 (by decide +kernel) ?_
    refine g_callI F (stk := [.int (iI (-4)), .ref (xa 18 100)]) (st := []) (k_X5_refuse κ xa X (-4) (by omega)) cal_X5_refuse lm_X5_69 81 rfl rfl rfl rfl (by decide) rfl (Nat.le_of_ble_eq_true rfl) dX5_row_7 (fun r7 ws7 _ hr7 => ?_)
    obtain ⟨rfl, rfl⟩ := hr7
    have hq : (-4) = qRow (X 18 5 0) v := by unfold qRow; (repeat' split) <;> omega
    exact K xw_same ⟨_, rfl, iIc hq, (by rw [show eRowX X v = _ from if_neg (by omega)]; exact (sX_18 sX_0 rfl rfl rfl)), (by rw [← hq]; exact (rfa_r (by omega)).symm)⟩ rfl dX5_row_10
def jdN (r a : Int → Int) : Nat → Int → Int
  | 0, _ => -9
  | k + 1, c => if r c = a c then jdN r a k (c + 1) else c
def jdI (r a : Int → Int) (n c : Int) : Int := jdN r a (n - c).toNat c
theorem jd_s (r a : Int → Int) {n c : Int} (h : c < n) : jdI r a n c = if r c = a c then jdI r a n (c + 1) else c := by
  unfold jdI
  rw [show (n - c).toNat = (n - (c + 1)).toNat + 1 by omega]
  rfl
theorem jd_n (r a : Int → Int) (n : Int) : jdI r a n n = -9 := by
  unfold jdI
  rw [show (n - n).toNat = 0 by omega]
  rfl
def qJudge (r a : Int → Int) (n : Int) : Int := jdI r a n 0
def eJudgeM (M : MS) : MS := if (0 : Int) = 0 then mA M 38 (fun _ => 0) else M
def eJudgeX (X : XS) : XS := if (0 : Int) = 0 then setO X 18 (mA (X 18) 5 (fun _ => 0)) else X
def qClear (n : Int) : Int := n
theorem jd_bd (r a : Int → Int) : ∀ (k : Nat) (c : Int), 0 ≤ c → jdN r a k c = -9 ∨ 0 ≤ jdN r a k c
  | 0, _, _ => Or.inl rfl
  | k + 1, c, h => by
    unfold jdN
    split
    · exact jd_bd r a k (c + 1) (by omega)
    · exact Or.inr h
theorem dX6_judge_0 : decode cX6_judge 0 = .ok (.aload_n 0, 1) := by decide +kernel
theorem dX6_judge_1 : decode cX6_judge 1 = .ok (.iconst 0, 1) := by decide +kernel
theorem dX6_judge_2 : decode cX6_judge 2 = .ok (.putfield 91, 3) := by decide +kernel
theorem dX6_judge_5 : decode cX6_judge 5 = .ok (.aload_n 0, 1) := by decide +kernel
theorem dX6_judge_6 : decode cX6_judge 6 = .ok (.getfield 295, 3) := by decide +kernel
theorem dX6_judge_9 : decode cX6_judge 9 = .ok (.istore_n 1, 1) := by decide +kernel
theorem dX6_judge_10 : decode cX6_judge 10 = .ok (.aload_n 0, 1) := by decide +kernel
theorem dX6_judge_11 : decode cX6_judge 11 = .ok (.iconst 0, 1) := by decide +kernel
theorem dX6_judge_12 : decode cX6_judge 12 = .ok (.putfield 295, 3) := by decide +kernel
theorem dX6_judge_15 : decode cX6_judge 15 = .ok (.iconst 0, 1) := by decide +kernel
theorem dX6_judge_16 : decode cX6_judge 16 = .ok (.istore_n 2, 1) := by decide +kernel
theorem dX6_judge_17 : decode cX6_judge 17 = .ok (.iload_n 2, 1) := by decide +kernel
theorem dX6_judge_18 : decode cX6_judge 18 = .ok (.iload_n 1, 1) := by decide +kernel
theorem dX6_judge_19 : decode cX6_judge 19 = .ok (.if_icmp .ge 26, 3) := by decide +kernel
theorem dX6_judge_22 : decode cX6_judge 22 = .ok (.aload_n 0, 1) := by decide +kernel
theorem dX6_judge_23 : decode cX6_judge 23 = .ok (.getfield 79, 3) := by decide +kernel
theorem dX6_judge_26 : decode cX6_judge 26 = .ok (.iload_n 2, 1) := by decide +kernel
theorem dX6_judge_27 : decode cX6_judge 27 = .ok (.iaload, 1) := by decide +kernel
theorem dX6_judge_28 : decode cX6_judge 28 = .ok (.aload_n 0, 1) := by decide +kernel
theorem dX6_judge_29 : decode cX6_judge 29 = .ok (.getfield 16, 3) := by decide +kernel
theorem dX6_judge_32 : decode cX6_judge 32 = .ok (.iload_n 2, 1) := by decide +kernel
theorem dX6_judge_33 : decode cX6_judge 33 = .ok (.iaload, 1) := by decide +kernel
theorem dX6_judge_34 : decode cX6_judge 34 = .ok (.if_icmp .eq 5, 3) := by decide +kernel
theorem dX6_judge_37 : decode cX6_judge 37 = .ok (.iload_n 2, 1) := by decide +kernel
theorem dX6_judge_38 : decode cX6_judge 38 = .ok (.ireturn, 1) := by decide +kernel
theorem dX6_judge_39 : decode cX6_judge 39 = .ok (.iinc 2 1, 3) := by decide +kernel
theorem dX6_judge_42 : decode cX6_judge 42 = .ok (.goto (-25), 3) := by decide +kernel
theorem dX6_judge_45 : decode cX6_judge 45 = .ok (.bipush (-9), 2) := by decide +kernel
theorem dX6_judge_47 : decode cX6_judge 47 = .ok (.ireturn, 1) := by decide +kernel
set_option maxRecDepth 100000 in
set_option maxHeartbeats 4000000 in
theorem k_X6_judge (κ : Kp) (ma : Nat → Nat) (M : MS)  (ok : okC (cl M)) (hn : 0 ≤ M 38 0 ∧ M 38 0 ≤ 12) (hro : ∀ j : Int, 0 ≤ j → j < 12 → 0 ≤ M 37 j ∧ M 37 j ≤ 99) : mI κ yX6_judge cX6_judge 3 .int 2 [.ref (ma 100)] (mw κ ma M) (qMs κ ma (eJudgeM M) M (qJudge (M 37) (M 2) (M 38 0))) := by
  refine mI_of (by decide) (Nat.le_of_ble_eq_true rfl) (fun E F K => ?_)
  refine g_lv (lv' := [(0, .ref (ma 100))]) rfl ?_
  refine g_aload_n F 0 dX6_judge_0 rfl ?_
  refine g_iconst F dX6_judge_1 ?_
  refine gm_put_10 F dX6_judge_2 ?_
  refine g_aload_n F 0 dX6_judge_5 rfl ?_
  refine gm_get_38 F dX6_judge_6 ?_
  refine g_top (y := iI (M 38 0)) rfl ?_
  refine g_istore_n F (lv' := [(1, .int (iI (M 38 0))), (0, .ref (ma 100))]) 1 dX6_judge_9 rfl (by decide) rfl ?_
  refine g_aload_n F 1 dX6_judge_10 rfl ?_
  refine g_iconst F dX6_judge_11 ?_
  refine gm_put_38 F dX6_judge_12 ?_
  refine g_iconst F dX6_judge_15 ?_
  refine g_istore_n F (lv' := [(2, .int (iI 0)), (1, .int (iI (M 38 0))), (0, .ref (ma 100))]) 2 dX6_judge_16 rfl (by decide) rfl ?_
  have L17 : ∀ (mz17 : Nat) (c : Int), (M 38 0 - c).toNat = mz17 → (0 ≤ c ∧ c ≤ M 38 0) → (jdI (M 37) (M 2) (M 38 0) c = jdI (M 37) (M 2) (M 38 0) 0) → G E (mw κ ma (mA (mA M 10 (fun _ => 0)) 38 (fun _ => 0))) [(2, .int (iI c)), (1, .int (iI (M 38 0))), (0, .ref (ma 100))] 17 [] := by
    intro mz17
    induction mz17 using Nat.strongRecOn with
    | _ mz17 ih17 =>
    intro c hmz17 hc hR
    refine g_iload_n F 0 dX6_judge_17 rfl ?_
    refine g_iload_n F 1 dX6_judge_18 rfl ?_
    refine g_icmp_ge F 45 (by omega) dX6_judge_19 (by decide) (fun c19 => ?_) (fun c19 => ?_)
    · skip
      refine g_bipush F dX6_judge_45 (by decide +kernel) ?_
      have hq : -9 = qJudge (M 37) (M 2) (M 38 0) := by unfold qJudge; rw [← hR, show c = M 38 0 by omega, jd_n]
      exact K mw_same ⟨_, rfl, iIc hq, (by rw [show eJudgeM M = _ from if_pos (by omega)]; exact ⟨rfl, rfl, rfl, rfl, rfl, rfl, rfl, rfl, rfl, rfl, rfl, rfl, rfl, rfl, rfl, rfl, rfl, rfl⟩), (by rw [← hq]; show M 11 = _; exact (rfa_n (by omega)).symm)⟩ rfl dX6_judge_47
    · skip
      have h1 := hro c (by omega) (by omega)
      have h2 : 0 ≤ M 2 c ∧ M 2 c ≤ 99 := ok.a c (by omega) (by omega)
      refine g_aload_n F 2 dX6_judge_22 rfl ?_
      refine gm_get_37 F dX6_judge_23 ?_
      refine g_iload_n F 0 dX6_judge_26 rfl ?_
      refine gm_ald_37 F (by omega) dX6_judge_27 ?_
      refine g_top (y := iI (M 37 c)) rfl ?_
      refine g_aload_n F 2 dX6_judge_28 rfl ?_
      refine gm_get_2 F dX6_judge_29 ?_
      refine g_iload_n F 0 dX6_judge_32 rfl ?_
      refine gm_ald_2 F (by omega) dX6_judge_33 ?_
      refine g_top (y := iI (M 2 c)) rfl ?_
      refine g_icmp_eq F 39 (by omega) dX6_judge_34 (by decide) (fun c34 => ?_) (fun c34 => ?_)
      · skip
        refine g_iinc F (lv' := [(2, .int (iI (c + 1))), (1, .int (iI (M 38 0))), (0, .ref (ma 100))]) 0 dX6_judge_39 rfl (by decide) rfl ?_
        refine g_goto F 17 dX6_judge_42 (by decide) ?_
        refine g_sub F (lv' := [(2, .int (iI (c + 1))), (1, .int (iI (M 38 0))), (0, .ref (ma 100))]) [0, 1, 2] rfl ?_
        exact ih17 _ (by omega) (c + 1) rfl (by omega) (by rw [← hR, jd_s _ _ (c := c) (by omega), if_pos c34])
      · skip
        refine g_iload_n F 0 dX6_judge_37 rfl ?_
        have hq : c = qJudge (M 37) (M 2) (M 38 0) := by unfold qJudge; rw [← hR, jd_s _ _ (c := c) (by omega), if_neg c34]
        exact K mw_same ⟨_, rfl, iIc hq, (by rw [show eJudgeM M = _ from if_pos (by omega)]; exact ⟨rfl, rfl, rfl, rfl, rfl, rfl, rfl, rfl, rfl, rfl, rfl, rfl, rfl, rfl, rfl, rfl, rfl, rfl⟩), (by rw [← hq]; show M 11 = _; exact (rfa_n (by omega)).symm)⟩ rfl dX6_judge_38
  refine g_sub F (lv' := [(2, .int (iI 0)), (1, .int (iI (M 38 0))), (0, .ref (ma 100))]) [0, 1, 2] rfl ?_
  exact L17 _ 0 rfl (by omega) rfl
theorem dX5_judge_0 : decode cX5_judge 0 = .ok (.bipush (-9), 2) := by decide +kernel
theorem dX5_judge_2 : decode cX5_judge 2 = .ok (.istore_n 1, 1) := by decide +kernel
theorem dX5_judge_3 : decode cX5_judge 3 = .ok (.iconst 0, 1) := by decide +kernel
theorem dX5_judge_4 : decode cX5_judge 4 = .ok (.istore_n 2, 1) := by decide +kernel
theorem dX5_judge_5 : decode cX5_judge 5 = .ok (.iload_n 2, 1) := by decide +kernel
theorem dX5_judge_6 : decode cX5_judge 6 = .ok (.aload_n 0, 1) := by decide +kernel
theorem dX5_judge_7 : decode cX5_judge 7 = .ok (.getfield 281, 3) := by decide +kernel
theorem dX5_judge_10 : decode cX5_judge 10 = .ok (.if_icmp .ge 35, 3) := by decide +kernel
theorem dX5_judge_13 : decode cX5_judge 13 = .ok (.iload_n 1, 1) := by decide +kernel
theorem dX5_judge_14 : decode cX5_judge 14 = .ok (.bipush (-9), 2) := by decide +kernel
theorem dX5_judge_16 : decode cX5_judge 16 = .ok (.if_icmp .ne 29, 3) := by decide +kernel
theorem dX5_judge_19 : decode cX5_judge 19 = .ok (.aload_n 0, 1) := by decide +kernel
theorem dX5_judge_20 : decode cX5_judge 20 = .ok (.getfield 10, 3) := by decide +kernel
theorem dX5_judge_23 : decode cX5_judge 23 = .ok (.getfield 175, 3) := by decide +kernel
theorem dX5_judge_26 : decode cX5_judge 26 = .ok (.iload_n 2, 1) := by decide +kernel
theorem dX5_judge_27 : decode cX5_judge 27 = .ok (.iaload, 1) := by decide +kernel
theorem dX5_judge_28 : decode cX5_judge 28 = .ok (.aload_n 0, 1) := by decide +kernel
theorem dX5_judge_29 : decode cX5_judge 29 = .ok (.getfield 37, 3) := by decide +kernel
theorem dX5_judge_32 : decode cX5_judge 32 = .ok (.iload_n 2, 1) := by decide +kernel
theorem dX5_judge_33 : decode cX5_judge 33 = .ok (.iaload, 1) := by decide +kernel
theorem dX5_judge_34 : decode cX5_judge 34 = .ok (.if_icmp .eq 5, 3) := by decide +kernel
theorem dX5_judge_37 : decode cX5_judge 37 = .ok (.iload_n 2, 1) := by decide +kernel
theorem dX5_judge_38 : decode cX5_judge 38 = .ok (.istore_n 1, 1) := by decide +kernel
theorem dX5_judge_39 : decode cX5_judge 39 = .ok (.iinc 2 1, 3) := by decide +kernel
theorem dX5_judge_42 : decode cX5_judge 42 = .ok (.goto (-37), 3) := by decide +kernel
theorem dX5_judge_45 : decode cX5_judge 45 = .ok (.aload_n 0, 1) := by decide +kernel
theorem dX5_judge_46 : decode cX5_judge 46 = .ok (.iconst 0, 1) := by decide +kernel
theorem dX5_judge_47 : decode cX5_judge 47 = .ok (.putfield 281, 3) := by decide +kernel
theorem dX5_judge_50 : decode cX5_judge 50 = .ok (.iload_n 1, 1) := by decide +kernel
theorem dX5_judge_51 : decode cX5_judge 51 = .ok (.ireturn, 1) := by decide +kernel
set_option maxRecDepth 100000 in
set_option maxHeartbeats 4000000 in
theorem k_X5_judge (κ : Kp) (xa : Nat → Nat → Nat) (X : XS)  (ok : okC (cl (X 0))) (hn : 0 ≤ X 18 5 0 ∧ X 18 5 0 ≤ 12) (hro : ∀ j : Int, 0 ≤ j → j < 12 → 0 ≤ X 18 4 j ∧ X 18 4 j ≤ 99) : mI κ yX5_judge cX5_judge 3 .int 1 [.ref (xa 18 100)] (xw κ xa X) (qXs κ xa (eJudgeX X) X (qJudge (X 18 4) (X 0 2) (X 18 5 0))) := by
  refine mI_of (by decide) (Nat.le_of_ble_eq_true rfl) (fun E F K => ?_)
  refine g_lv (lv' := [(0, .ref (xa 18 100))]) rfl ?_
  refine g_bipush F dX5_judge_0 (by decide +kernel) ?_
  refine g_istore_n F (lv' := [(1, .int (iI (-9))), (0, .ref (xa 18 100))]) 1 dX5_judge_2 rfl (by decide) rfl ?_
  refine g_iconst F dX5_judge_3 ?_
  refine g_istore_n F (lv' := [(2, .int (iI 0)), (1, .int (iI (-9))), (0, .ref (xa 18 100))]) 2 dX5_judge_4 rfl (by decide) rfl ?_
  have L5 : ∀ (mz5 : Nat) (c : Int) (g : Int), (X 18 5 0 - c).toNat = mz5 → (0 ≤ c ∧ c ≤ X 18 5 0) → (-9 ≤ g ∧ g < 12) → ((g = -9 ∧ jdI (X 18 4) (X 0 2) (X 18 5 0) c = jdI (X 18 4) (X 0 2) (X 18 5 0) 0) ∨ (0 ≤ g ∧ g = jdI (X 18 4) (X 0 2) (X 18 5 0) 0)) → G E (xw κ xa X) [(2, .int (iI c)), (1, .int (iI g)), (0, .ref (xa 18 100))] 5 [] := by
    intro mz5
    induction mz5 using Nat.strongRecOn with
    | _ mz5 ih5 =>
    intro c g hmz5 hc hg hR
    refine g_iload_n F 0 dX5_judge_5 rfl ?_
    refine g_aload_n F 2 dX5_judge_6 rfl ?_
    refine g18_get_5 F  lf_X5_281 dX5_judge_7 ?_
    refine g_icmp_ge F 45 (by omega) dX5_judge_10 (by decide) (fun c10 => ?_) (fun c10 => ?_)
    · skip
      refine g_aload_n F 2 dX5_judge_45 rfl ?_
      refine g_iconst F dX5_judge_46 ?_
      refine g18_put_5 F   lf_X5_281 dX5_judge_47 ?_
      refine g_iload_n F 1 dX5_judge_50 rfl ?_
      have hq : g = qJudge (X 18 4) (X 0 2) (X 18 5 0) := by unfold qJudge; first | omega | (rw [show c = X 18 5 0 by omega, jd_n] at hR; omega)
      exact K xw_same ⟨_, rfl, iIc hq, (by rw [show eJudgeX X = _ from if_pos (by omega)]; exact sX_0), (by rw [← hq]; exact (rfa_n (by omega)).symm)⟩ rfl dX5_judge_51
    · skip
      refine g_iload_n F 1 dX5_judge_13 rfl ?_
      refine g_bipush F dX5_judge_14 (by decide +kernel) ?_
      refine g_icmp_ne F 45 (by omega) dX5_judge_16 (by decide) (fun c16 => ?_) (fun c16 => ?_)
      · skip
        refine g_aload_n F 2 dX5_judge_45 rfl ?_
        refine g_iconst F dX5_judge_46 ?_
        refine g18_put_5 F   lf_X5_281 dX5_judge_47 ?_
        refine g_iload_n F 1 dX5_judge_50 rfl ?_
        have hq : g = qJudge (X 18 4) (X 0 2) (X 18 5 0) := by unfold qJudge; first | omega | (rw [show c = X 18 5 0 by omega, jd_n] at hR; omega)
        exact K xw_same ⟨_, rfl, iIc hq, (by rw [show eJudgeX X = _ from if_pos (by omega)]; exact sX_0), (by rw [← hq]; exact (rfa_n (by omega)).symm)⟩ rfl dX5_judge_51
      · skip
        have h1 := hro c (by omega) (by omega)
        have h2 : 0 ≤ X 0 2 c ∧ X 0 2 c ≤ 99 := ok.a c (by omega) (by omega)
        refine g_aload_n F 2 dX5_judge_19 rfl ?_
        refine g18_get_0 F  lf_X5_10 dX5_judge_20 ?_
        refine gc_getN_2 F (o := 0) (by decide) nf_X5_175 dX5_judge_23 ?_
        refine g_iload_n F 0 dX5_judge_26 rfl ?_
        refine gc_ald_2 F (o := 0) (by decide) (by omega) dX5_judge_27 ?_
        refine g_aload_n F 2 dX5_judge_28 rfl ?_
        refine g18_get_4 F  lf_X5_37 dX5_judge_29 ?_
        refine g_iload_n F 0 dX5_judge_32 rfl ?_
        refine g18_ald_4 F  (by omega) dX5_judge_33 ?_
        refine g_icmp_eq F 39 (by omega) dX5_judge_34 (by decide) (fun c34 => ?_) (fun c34 => ?_)
        · skip
          refine g_iinc F (lv' := [(2, .int (iI (c + 1))), (1, .int (iI g)), (0, .ref (xa 18 100))]) 0 dX5_judge_39 rfl (by decide) rfl ?_
          refine g_goto F 5 dX5_judge_42 (by decide) ?_
          refine g_sub F (lv' := [(2, .int (iI (c + 1))), (1, .int (iI g)), (0, .ref (xa 18 100))]) [0, 1, 2] rfl ?_
          exact ih5 _ (by omega) (c + 1) g rfl (by omega) (by omega) (by have e := jd_s (X 18 4) (X 0 2) (n := X 18 5 0) (c := c) (by omega); first | (rw [if_pos c34.symm] at e; omega) | (rw [if_neg (fun q => c34 q.symm)] at e; omega))
        · skip
          refine g_iload_n F 0 dX5_judge_37 rfl ?_
          refine g_istore_n F (lv' := [(1, .int (iI c)), (2, .int (iI c)), (0, .ref (xa 18 100))]) 1 dX5_judge_38 rfl (by decide) rfl ?_
          refine g_iinc F (lv' := [(2, .int (iI (c + 1))), (1, .int (iI c)), (0, .ref (xa 18 100))]) 1 dX5_judge_39 rfl (by decide) rfl ?_
          refine g_goto F 5 dX5_judge_42 (by decide) ?_
          refine g_sub F (lv' := [(2, .int (iI (c + 1))), (1, .int (iI c)), (0, .ref (xa 18 100))]) [0, 1, 2] rfl ?_
          exact ih5 _ (by omega) (c + 1) c rfl (by omega) (by omega) (by have e := jd_s (X 18 4) (X 0 2) (n := X 18 5 0) (c := c) (by omega); first | (rw [if_pos c34.symm] at e; omega) | (rw [if_neg (fun q => c34 q.symm)] at e; omega))
  refine g_sub F (lv' := [(2, .int (iI 0)), (1, .int (iI (-9))), (0, .ref (xa 18 100))]) [0, 1, 2] rfl ?_
  exact L5 _ 0 (-9) rfl (by omega) (by omega) (Or.inl ⟨rfl, rfl⟩)
theorem dX6_clear_0 : decode cX6_clear 0 = .ok (.aload_n 0, 1) := by decide +kernel
theorem dX6_clear_1 : decode cX6_clear 1 = .ok (.iconst 0, 1) := by decide +kernel
theorem dX6_clear_2 : decode cX6_clear 2 = .ok (.putfield 91, 3) := by decide +kernel
theorem dX6_clear_5 : decode cX6_clear 5 = .ok (.aload_n 0, 1) := by decide +kernel
theorem dX6_clear_6 : decode cX6_clear 6 = .ok (.getfield 295, 3) := by decide +kernel
theorem dX6_clear_9 : decode cX6_clear 9 = .ok (.istore_n 1, 1) := by decide +kernel
theorem dX6_clear_10 : decode cX6_clear 10 = .ok (.aload_n 0, 1) := by decide +kernel
theorem dX6_clear_11 : decode cX6_clear 11 = .ok (.iconst 0, 1) := by decide +kernel
theorem dX6_clear_12 : decode cX6_clear 12 = .ok (.putfield 295, 3) := by decide +kernel
theorem dX6_clear_15 : decode cX6_clear 15 = .ok (.iload_n 1, 1) := by decide +kernel
theorem dX6_clear_16 : decode cX6_clear 16 = .ok (.ireturn, 1) := by decide +kernel
set_option maxRecDepth 100000 in
set_option maxHeartbeats 4000000 in
theorem k_X6_clear (κ : Kp) (ma : Nat → Nat) (M : MS)  (hn : 0 ≤ M 38 0 ∧ M 38 0 ≤ 12) : mI κ yX6_clear cX6_clear 2 .int 2 [.ref (ma 100)] (mw κ ma M) (qMs κ ma (eJudgeM M) M (qClear (M 38 0))) := by
  refine mI_of (by decide) (Nat.le_of_ble_eq_true rfl) (fun E F K => ?_)
  refine g_lv (lv' := [(0, .ref (ma 100))]) rfl ?_
  refine g_aload_n F 0 dX6_clear_0 rfl ?_
  refine g_iconst F dX6_clear_1 ?_
  refine gm_put_10 F dX6_clear_2 ?_
  refine g_aload_n F 0 dX6_clear_5 rfl ?_
  refine gm_get_38 F dX6_clear_6 ?_
  refine g_top (y := iI (M 38 0)) rfl ?_
  refine g_istore_n F (lv' := [(1, .int (iI (M 38 0))), (0, .ref (ma 100))]) 1 dX6_clear_9 rfl (by decide) rfl ?_
  refine g_aload_n F 1 dX6_clear_10 rfl ?_
  refine g_iconst F dX6_clear_11 ?_
  refine gm_put_38 F dX6_clear_12 ?_
  refine g_iload_n F 0 dX6_clear_15 rfl ?_
  have hq : M 38 0 = qClear (M 38 0) := by unfold qClear; (repeat' split) <;> omega
  exact K mw_same ⟨_, rfl, iIc hq, (by rw [show eJudgeM M = _ from if_pos (by omega)]; exact ⟨rfl, rfl, rfl, rfl, rfl, rfl, rfl, rfl, rfl, rfl, rfl, rfl, rfl, rfl, rfl, rfl, rfl, rfl⟩), (by rw [← hq]; show M 11 = _; exact (rfa_n (by omega)).symm)⟩ rfl dX6_clear_16
theorem dX5_clear_0 : decode cX5_clear 0 = .ok (.aload_n 0, 1) := by decide +kernel
theorem dX5_clear_1 : decode cX5_clear 1 = .ok (.getfield 281, 3) := by decide +kernel
theorem dX5_clear_4 : decode cX5_clear 4 = .ok (.istore_n 1, 1) := by decide +kernel
theorem dX5_clear_5 : decode cX5_clear 5 = .ok (.aload_n 0, 1) := by decide +kernel
theorem dX5_clear_6 : decode cX5_clear 6 = .ok (.iconst 0, 1) := by decide +kernel
theorem dX5_clear_7 : decode cX5_clear 7 = .ok (.putfield 281, 3) := by decide +kernel
theorem dX5_clear_10 : decode cX5_clear 10 = .ok (.iload_n 1, 1) := by decide +kernel
theorem dX5_clear_11 : decode cX5_clear 11 = .ok (.ireturn, 1) := by decide +kernel
set_option maxRecDepth 100000 in
set_option maxHeartbeats 4000000 in
theorem k_X5_clear (κ : Kp) (xa : Nat → Nat → Nat) (X : XS)  (hn : 0 ≤ X 18 5 0 ∧ X 18 5 0 ≤ 12) : mI κ yX5_clear cX5_clear 2 .int 2 [.ref (xa 18 100)] (xw κ xa X) (qXs κ xa (eJudgeX X) X (qClear (X 18 5 0))) := by
  refine mI_of (by decide) (Nat.le_of_ble_eq_true rfl) (fun E F K => ?_)
  refine g_lv (lv' := [(0, .ref (xa 18 100))]) rfl ?_
  refine g_aload_n F 0 dX5_clear_0 rfl ?_
  refine g18_get_5 F  lf_X5_281 dX5_clear_1 ?_
  refine g_istore_n F (lv' := [(1, .int (iI ((X 18) 5 0))), (0, .ref (xa 18 100))]) 1 dX5_clear_4 rfl (by decide) rfl ?_
  refine g_aload_n F 1 dX5_clear_5 rfl ?_
  refine g_iconst F dX5_clear_6 ?_
  refine g18_put_5 F   lf_X5_281 dX5_clear_7 ?_
  refine g_iload_n F 0 dX5_clear_10 rfl ?_
  have hq : (X 18) 5 0 = qClear (X 18 5 0) := by unfold qClear; (repeat' split) <;> omega
  exact K xw_same ⟨_, rfl, iIc hq, (by rw [show eJudgeX X = _ from if_pos (by omega)]; exact sX_0), (by rw [← hq]; exact (rfa_n (by omega)).symm)⟩ rfl dX5_clear_11
def qPiece (n k f a : Int) : Int := if ¬ (0 ≤ k ∧ k < 6) then -2 else if f < 0 ∨ a < 0 then -4 else if 9 < f ∨ 99 < a ∨ n = 6 then -6 else n
abbrev okPiece (n k f a : Int) : Prop := ((0 ≤ k ∧ k < 6) ∧ (0 ≤ f ∧ f ≤ 9) ∧ 0 ≤ a ∧ a ≤ 99) ∧ n < 6
def ePieceM (M : MS) (k f a : Int) : MS := if okPiece (M 5 0) k f a then mA (mA (mA (mA (mA (mA M 6 (uI (M 6) (M 5 0) k)) 7 (uI (M 7) (M 5 0) f)) 8 (uI (M 8) (M 5 0) a)) 9 (uI (M 9) (M 5 0) 0)) 5 (fun _ => M 5 0 + 1)) 28 (fun _ => 0) else M
def ePieceX (X : XS) (k f a : Int) : XS := if okPiece (X 12 3 0) k f a then setO (setO X 12 (mA (mA (mA (mA (X 12) 0 (uI (X 12 0) (X 12 3 0) k)) 1 (uI (X 12 1) (X 12 3 0) f)) 2 (uI (X 12 2) (X 12 3 0) a)) 3 (fun _ => X 12 3 0 + 1))) 15 (mA (X 15) 3 (fun _ => 0)) else X
theorem dX6_piece_0 : decode cX6_piece 0 = .ok (.aload_n 0, 1) := by decide +kernel
theorem dX6_piece_1 : decode cX6_piece 1 = .ok (.iconst 0, 1) := by decide +kernel
theorem dX6_piece_2 : decode cX6_piece 2 = .ok (.putfield 91, 3) := by decide +kernel
theorem dX6_piece_5 : decode cX6_piece 5 = .ok (.iconst 0, 1) := by decide +kernel
theorem dX6_piece_6 : decode cX6_piece 6 = .ok (.istore 4, 2) := by decide +kernel
theorem dX6_piece_8 : decode cX6_piece 8 = .ok (.iload_n 1, 1) := by decide +kernel
theorem dX6_piece_9 : decode cX6_piece 9 = .ok (.i2l, 1) := by decide +kernel
theorem dX6_piece_10 : decode cX6_piece 10 = .ok (.lconst 0, 1) := by decide +kernel
theorem dX6_piece_11 : decode cX6_piece 11 = .ok (.ldc2_w 229, 3) := by decide +kernel
theorem dX6_piece_14 : decode cX6_piece 14 = .ok (.invokestatic 97, 3) := by decide +kernel
theorem dX6_piece_17 : decode cX6_piece 17 = .ok (.ifCond .ne 10, 3) := by decide +kernel
theorem dX6_piece_20 : decode cX6_piece 20 = .ok (.bipush (-2), 2) := by decide +kernel
theorem dX6_piece_22 : decode cX6_piece 22 = .ok (.istore 4, 2) := by decide +kernel
theorem dX6_piece_24 : decode cX6_piece 24 = .ok (.goto 43, 3) := by decide +kernel
theorem dX6_piece_27 : decode cX6_piece 27 = .ok (.iload_n 2, 1) := by decide +kernel
theorem dX6_piece_28 : decode cX6_piece 28 = .ok (.ifCond .lt 7, 3) := by decide +kernel
theorem dX6_piece_31 : decode cX6_piece 31 = .ok (.iload_n 3, 1) := by decide +kernel
theorem dX6_piece_32 : decode cX6_piece 32 = .ok (.ifCond .ge 10, 3) := by decide +kernel
theorem dX6_piece_35 : decode cX6_piece 35 = .ok (.bipush (-4), 2) := by decide +kernel
theorem dX6_piece_37 : decode cX6_piece 37 = .ok (.istore 4, 2) := by decide +kernel
theorem dX6_piece_39 : decode cX6_piece 39 = .ok (.goto 28, 3) := by decide +kernel
theorem dX6_piece_42 : decode cX6_piece 42 = .ok (.iload_n 2, 1) := by decide +kernel
theorem dX6_piece_43 : decode cX6_piece 43 = .ok (.bipush 9, 2) := by decide +kernel
theorem dX6_piece_45 : decode cX6_piece 45 = .ok (.if_icmp .gt 18, 3) := by decide +kernel
theorem dX6_piece_48 : decode cX6_piece 48 = .ok (.iload_n 3, 1) := by decide +kernel
theorem dX6_piece_49 : decode cX6_piece 49 = .ok (.bipush 99, 2) := by decide +kernel
theorem dX6_piece_51 : decode cX6_piece 51 = .ok (.if_icmp .gt 12, 3) := by decide +kernel
theorem dX6_piece_54 : decode cX6_piece 54 = .ok (.aload_n 0, 1) := by decide +kernel
theorem dX6_piece_55 : decode cX6_piece 55 = .ok (.getfield 101, 3) := by decide +kernel
theorem dX6_piece_58 : decode cX6_piece 58 = .ok (.bipush 6, 2) := by decide +kernel
theorem dX6_piece_60 : decode cX6_piece 60 = .ok (.if_icmp .ne 7, 3) := by decide +kernel
theorem dX6_piece_63 : decode cX6_piece 63 = .ok (.bipush (-6), 2) := by decide +kernel
theorem dX6_piece_65 : decode cX6_piece 65 = .ok (.istore 4, 2) := by decide +kernel
theorem dX6_piece_67 : decode cX6_piece 67 = .ok (.iload 4, 2) := by decide +kernel
theorem dX6_piece_69 : decode cX6_piece 69 = .ok (.ifCond .ge 10, 3) := by decide +kernel
theorem dX6_piece_72 : decode cX6_piece 72 = .ok (.aload_n 0, 1) := by decide +kernel
theorem dX6_piece_73 : decode cX6_piece 73 = .ok (.iload 4, 2) := by decide +kernel
theorem dX6_piece_75 : decode cX6_piece 75 = .ok (.invokevirtual 138, 3) := by decide +kernel
theorem dX6_piece_78 : decode cX6_piece 78 = .ok (.ireturn, 1) := by decide +kernel
theorem dX6_piece_79 : decode cX6_piece 79 = .ok (.aload_n 0, 1) := by decide +kernel
theorem dX6_piece_80 : decode cX6_piece 80 = .ok (.iload_n 1, 1) := by decide +kernel
theorem dX6_piece_81 : decode cX6_piece 81 = .ok (.iload_n 2, 1) := by decide +kernel
theorem dX6_piece_82 : decode cX6_piece 82 = .ok (.iload_n 3, 1) := by decide +kernel
theorem dX6_piece_83 : decode cX6_piece 83 = .ok (.invokevirtual 172, 3) := by decide +kernel
theorem dX6_piece_86 : decode cX6_piece 86 = .ok (.aload_n 0, 1) := by decide +kernel
theorem dX6_piece_87 : decode cX6_piece 87 = .ok (.iconst 0, 1) := by decide +kernel
theorem dX6_piece_88 : decode cX6_piece 88 = .ok (.putfield 200, 3) := by decide +kernel
theorem dX6_piece_91 : decode cX6_piece 91 = .ok (.aload_n 0, 1) := by decide +kernel
theorem dX6_piece_92 : decode cX6_piece 92 = .ok (.getfield 101, 3) := by decide +kernel
theorem dX6_piece_95 : decode cX6_piece 95 = .ok (.iconst 1, 1) := by decide +kernel
theorem dX6_piece_96 : decode cX6_piece 96 = .ok (.isub, 1) := by decide +kernel
theorem dX6_piece_97 : decode cX6_piece 97 = .ok (.ireturn, 1) := by decide +kernel
set_option maxRecDepth 100000 in
set_option maxHeartbeats 4000000 in
theorem k_X6_piece (κ : Kp) (ma : Nat → Nat) (M : MS) (k : Int) (f : Int) (a : Int)  (ha_k : In32 k) (ha_f : In32 f) (ha_a : In32 a) (hn : 0 ≤ M 5 0 ∧ M 5 0 ≤ 6) : mI κ yX6_piece cX6_piece 5 .int 3 [.ref (ma 100), .int (iI k), .int (iI f), .int (iI a)] (mw κ ma M) (qMs κ ma (ePieceM M k f a) M (qPiece (M 5 0) k f a)) := by
  refine mI_of (by decide) (Nat.le_of_ble_eq_true rfl) (fun E F K => ?_)
  refine g_lv (lv' := [(0, .ref (ma 100)), (1, .int (iI k)), (2, .int (iI f)), (3, .int (iI a))]) rfl ?_
  refine g_aload_n F 0 dX6_piece_0 rfl ?_
  refine g_iconst F dX6_piece_1 ?_
  refine gm_put_10 F dX6_piece_2 ?_
  refine g_iconst F dX6_piece_5 ?_
  refine g_istore F (lv' := [(4, .int (iI 0)), (0, .ref (ma 100)), (1, .int (iI k)), (2, .int (iI f)), (3, .int (iI a))]) dX6_piece_6 (by decide) rfl ?_
  refine g_iload_n F 2 dX6_piece_8 rfl ?_
  refine g_i2l F (by omega) dX6_piece_9 ?_
  refine g_lconst F (z := 0) dX6_piece_10 rfl ?_
  refine g_ldc2 F (z := 5) ll_X6_229 (by decide +kernel) dX6_piece_11 ?_
  refine g_callSI F (stk := [.long (iL 5), .long (iL 0), .long (iL k)]) (st := []) (k_X6_in κ (mw κ ma (mA M 10 (fun _ => 0))) k 0 5 (by omega)) cal_X6_in lm_X6_97 rfl (by decide) rfl (Nat.le_of_ble_eq_true rfl) dX6_piece_14 (fun r14 ws14 _ hr14 => ?_)
  obtain ⟨rfl, rfl⟩ := hr14
  refine g_if_ne F 27 (b2i_in _) dX6_piece_17 (by decide) (fun c17 => ?_) (fun c17 => ?_)
  · skip
    have c17 : 0 ≤ k ∧ k ≤ 5 := b2i_t c17
    refine g_iload_n F 3 dX6_piece_27 rfl ?_
    refine g_if_lt F 35 (by omega) dX6_piece_28 (by decide) (fun c28 => ?_) (fun c28 => ?_)
    · skip
      refine g_bipush F dX6_piece_35 (by decide +kernel) ?_
      refine g_istore F (lv' := [(4, .int (iI (-4))), (0, .ref (ma 100)), (1, .int (iI k)), (2, .int (iI f)), (3, .int (iI a))]) dX6_piece_37 (by decide) rfl ?_
      refine g_goto F 67 dX6_piece_39 (by decide) ?_
      refine g_iload F 0 dX6_piece_67 rfl ?_
      refine g_if_ge F 79 (by omega) dX6_piece_69 (by decide) (fun c69 => ?_) (fun c69 => ?_)
      · skip
        exact absurd trivial (by omega)
      · skip
        refine g_aload_n F 1 dX6_piece_72 rfl ?_
        refine g_iload F 0 dX6_piece_73 rfl ?_
        refine g_callI F (stk := [.int (iI (-4)), .ref (ma 100)]) (st := []) (k_X6_refuse κ ma (mA M 10 (fun _ => 0)) (-4) (by omega)) cal_X6_refuse lm_X6_138 0 rfl rfl rfl rfl (by decide) rfl (Nat.le_of_ble_eq_true rfl) dX6_piece_75 (fun r75 ws75 _ hr75 => ?_)
        obtain ⟨rfl, rfl⟩ := hr75
        refine g_top (y := iI (-4)) rfl ?_
        refine g_ws (ws' := mw κ ma (mA (mA M 10 (fun _ => 0)) 11 (uI (M 11) (-(-4)) (M 11 (-(-4)) + 1)))) rfl ?_
        have hq : (-4) = qPiece (M 5 0) k f a := by unfold qPiece; (repeat' split) <;> omega
        exact K mw_same ⟨_, rfl, iIc hq, (by rw [show ePieceM M k f a = _ from if_neg (by omega)]; exact ⟨rfl, rfl, rfl, rfl, rfl, rfl, rfl, rfl, rfl, rfl, rfl, rfl, rfl, rfl, rfl, rfl, rfl, rfl⟩), (by rw [← hq]; exact (rfa_r (by omega)).symm)⟩ rfl dX6_piece_78
    · skip
      refine g_iload_n F 4 dX6_piece_31 rfl ?_
      refine g_if_ge F 42 (by omega) dX6_piece_32 (by decide) (fun c32 => ?_) (fun c32 => ?_)
      · skip
        refine g_iload_n F 3 dX6_piece_42 rfl ?_
        refine g_bipush F dX6_piece_43 (by decide +kernel) ?_
        refine g_icmp_gt F 63 (by omega) dX6_piece_45 (by decide) (fun c45 => ?_) (fun c45 => ?_)
        · skip
          refine g_bipush F dX6_piece_63 (by decide +kernel) ?_
          refine g_istore F (lv' := [(4, .int (iI (-6))), (0, .ref (ma 100)), (1, .int (iI k)), (2, .int (iI f)), (3, .int (iI a))]) dX6_piece_65 (by decide) rfl ?_
          refine g_iload F 0 dX6_piece_67 rfl ?_
          refine g_if_ge F 79 (by omega) dX6_piece_69 (by decide) (fun c69 => ?_) (fun c69 => ?_)
          · skip
            exact absurd trivial (by omega)
          · skip
            refine g_aload_n F 1 dX6_piece_72 rfl ?_
            refine g_iload F 0 dX6_piece_73 rfl ?_
            refine g_callI F (stk := [.int (iI (-6)), .ref (ma 100)]) (st := []) (k_X6_refuse κ ma (mA M 10 (fun _ => 0)) (-6) (by omega)) cal_X6_refuse lm_X6_138 0 rfl rfl rfl rfl (by decide) rfl (Nat.le_of_ble_eq_true rfl) dX6_piece_75 (fun r75 ws75 _ hr75 => ?_)
            obtain ⟨rfl, rfl⟩ := hr75
            refine g_top (y := iI (-6)) rfl ?_
            refine g_ws (ws' := mw κ ma (mA (mA M 10 (fun _ => 0)) 11 (uI (M 11) (-(-6)) (M 11 (-(-6)) + 1)))) rfl ?_
            have hq : (-6) = qPiece (M 5 0) k f a := by unfold qPiece; (repeat' split) <;> omega
            exact K mw_same ⟨_, rfl, iIc hq, (by rw [show ePieceM M k f a = _ from if_neg (by omega)]; exact ⟨rfl, rfl, rfl, rfl, rfl, rfl, rfl, rfl, rfl, rfl, rfl, rfl, rfl, rfl, rfl, rfl, rfl, rfl⟩), (by rw [← hq]; exact (rfa_r (by omega)).symm)⟩ rfl dX6_piece_78
        · skip
          refine g_iload_n F 4 dX6_piece_48 rfl ?_
          refine g_bipush F dX6_piece_49 (by decide +kernel) ?_
          refine g_icmp_gt F 63 (by omega) dX6_piece_51 (by decide) (fun c51 => ?_) (fun c51 => ?_)
          · skip
            refine g_bipush F dX6_piece_63 (by decide +kernel) ?_
            refine g_istore F (lv' := [(4, .int (iI (-6))), (0, .ref (ma 100)), (1, .int (iI k)), (2, .int (iI f)), (3, .int (iI a))]) dX6_piece_65 (by decide) rfl ?_
            refine g_iload F 0 dX6_piece_67 rfl ?_
            refine g_if_ge F 79 (by omega) dX6_piece_69 (by decide) (fun c69 => ?_) (fun c69 => ?_)
            · skip
              exact absurd trivial (by omega)
            · skip
              refine g_aload_n F 1 dX6_piece_72 rfl ?_
              refine g_iload F 0 dX6_piece_73 rfl ?_
              refine g_callI F (stk := [.int (iI (-6)), .ref (ma 100)]) (st := []) (k_X6_refuse κ ma (mA M 10 (fun _ => 0)) (-6) (by omega)) cal_X6_refuse lm_X6_138 0 rfl rfl rfl rfl (by decide) rfl (Nat.le_of_ble_eq_true rfl) dX6_piece_75 (fun r75 ws75 _ hr75 => ?_)
              obtain ⟨rfl, rfl⟩ := hr75
              refine g_top (y := iI (-6)) rfl ?_
              refine g_ws (ws' := mw κ ma (mA (mA M 10 (fun _ => 0)) 11 (uI (M 11) (-(-6)) (M 11 (-(-6)) + 1)))) rfl ?_
              have hq : (-6) = qPiece (M 5 0) k f a := by unfold qPiece; (repeat' split) <;> omega
              exact K mw_same ⟨_, rfl, iIc hq, (by rw [show ePieceM M k f a = _ from if_neg (by omega)]; exact ⟨rfl, rfl, rfl, rfl, rfl, rfl, rfl, rfl, rfl, rfl, rfl, rfl, rfl, rfl, rfl, rfl, rfl, rfl⟩), (by rw [← hq]; exact (rfa_r (by omega)).symm)⟩ rfl dX6_piece_78
          · skip
            refine g_aload_n F 1 dX6_piece_54 rfl ?_
            refine gm_get_5 F dX6_piece_55 ?_
            refine g_top (y := iI (M 5 0)) rfl ?_
            refine g_bipush F dX6_piece_58 (by decide +kernel) ?_
            refine g_icmp_ne F 67 (by omega) dX6_piece_60 (by decide) (fun c60 => ?_) (fun c60 => ?_)
            · skip
              refine g_iload F 0 dX6_piece_67 rfl ?_
              refine g_if_ge F 79 (by omega) dX6_piece_69 (by decide) (fun c69 => ?_) (fun c69 => ?_)
              · skip
                refine g_aload_n F 1 dX6_piece_79 rfl ?_
                refine g_iload_n F 2 dX6_piece_80 rfl ?_
                refine g_iload_n F 3 dX6_piece_81 rfl ?_
                refine g_iload_n F 4 dX6_piece_82 rfl ?_
                refine g_callV F (stk := [.int (iI a), .int (iI f), .int (iI k), .ref (ma 100)]) (st := []) (k_X6_pieceComes κ ma (mA M 10 (fun _ => 0)) k f a (show 0 ≤ (M 5 0) ∧ (M 5 0) < 6 from by omega)) cal_X6_pieceComes lm_X6_172 0 rfl rfl rfl rfl (by decide) rfl (Nat.le_of_ble_eq_true rfl) dX6_piece_83 (fun ws83 _ hr83 => ?_)
                obtain rfl := hr83
                refine g_ws (ws' := mw κ ma (mA (mA (mA (mA (mA (mA M 10 (fun _ => 0)) 6 (uI (M 6) (M 5 0) k)) 7 (uI (M 7) (M 5 0) f)) 8 (uI (M 8) (M 5 0) a)) 9 (uI (M 9) (M 5 0) 0)) 5 (fun _ => M 5 0 + 1))) rfl ?_
                refine g_aload_n F 1 dX6_piece_86 rfl ?_
                refine g_iconst F dX6_piece_87 ?_
                refine gm_put_28 F dX6_piece_88 ?_
                refine g_aload_n F 1 dX6_piece_91 rfl ?_
                refine gm_get_5 F dX6_piece_92 ?_
                refine g_top (y := iI (M 5 0 + 1)) rfl ?_
                refine g_iconst F dX6_piece_95 ?_
                refine g_isub F dX6_piece_96 ?_
                have hq : (M 5 0 + 1) - 1 = qPiece (M 5 0) k f a := by unfold qPiece; (repeat' split) <;> omega
                exact K mw_same ⟨_, rfl, iIc hq, (by rw [show ePieceM M k f a = _ from if_pos (by omega)]; exact ⟨rfl, rfl, rfl, rfl, rfl, rfl, rfl, rfl, rfl, rfl, rfl, rfl, rfl, rfl, rfl, rfl, rfl, rfl⟩), (by rw [← hq]; show M 11 = _; exact (rfa_n (by omega)).symm)⟩ rfl dX6_piece_97
              · skip
                exact absurd trivial (by omega)
            · skip
              refine g_bipush F dX6_piece_63 (by decide +kernel) ?_
              refine g_istore F (lv' := [(4, .int (iI (-6))), (0, .ref (ma 100)), (1, .int (iI k)), (2, .int (iI f)), (3, .int (iI a))]) dX6_piece_65 (by decide) rfl ?_
              refine g_iload F 0 dX6_piece_67 rfl ?_
              refine g_if_ge F 79 (by omega) dX6_piece_69 (by decide) (fun c69 => ?_) (fun c69 => ?_)
              · skip
                exact absurd trivial (by omega)
              · skip
                refine g_aload_n F 1 dX6_piece_72 rfl ?_
                refine g_iload F 0 dX6_piece_73 rfl ?_
                refine g_callI F (stk := [.int (iI (-6)), .ref (ma 100)]) (st := []) (k_X6_refuse κ ma (mA M 10 (fun _ => 0)) (-6) (by omega)) cal_X6_refuse lm_X6_138 0 rfl rfl rfl rfl (by decide) rfl (Nat.le_of_ble_eq_true rfl) dX6_piece_75 (fun r75 ws75 _ hr75 => ?_)
                obtain ⟨rfl, rfl⟩ := hr75
                refine g_top (y := iI (-6)) rfl ?_
                refine g_ws (ws' := mw κ ma (mA (mA M 10 (fun _ => 0)) 11 (uI (M 11) (-(-6)) (M 11 (-(-6)) + 1)))) rfl ?_
                have hq : (-6) = qPiece (M 5 0) k f a := by unfold qPiece; (repeat' split) <;> omega
                exact K mw_same ⟨_, rfl, iIc hq, (by rw [show ePieceM M k f a = _ from if_neg (by omega)]; exact ⟨rfl, rfl, rfl, rfl, rfl, rfl, rfl, rfl, rfl, rfl, rfl, rfl, rfl, rfl, rfl, rfl, rfl, rfl⟩), (by rw [← hq]; exact (rfa_r (by omega)).symm)⟩ rfl dX6_piece_78
      · skip
        refine g_bipush F dX6_piece_35 (by decide +kernel) ?_
        refine g_istore F (lv' := [(4, .int (iI (-4))), (0, .ref (ma 100)), (1, .int (iI k)), (2, .int (iI f)), (3, .int (iI a))]) dX6_piece_37 (by decide) rfl ?_
        refine g_goto F 67 dX6_piece_39 (by decide) ?_
        refine g_iload F 0 dX6_piece_67 rfl ?_
        refine g_if_ge F 79 (by omega) dX6_piece_69 (by decide) (fun c69 => ?_) (fun c69 => ?_)
        · skip
          exact absurd trivial (by omega)
        · skip
          refine g_aload_n F 1 dX6_piece_72 rfl ?_
          refine g_iload F 0 dX6_piece_73 rfl ?_
          refine g_callI F (stk := [.int (iI (-4)), .ref (ma 100)]) (st := []) (k_X6_refuse κ ma (mA M 10 (fun _ => 0)) (-4) (by omega)) cal_X6_refuse lm_X6_138 0 rfl rfl rfl rfl (by decide) rfl (Nat.le_of_ble_eq_true rfl) dX6_piece_75 (fun r75 ws75 _ hr75 => ?_)
          obtain ⟨rfl, rfl⟩ := hr75
          refine g_top (y := iI (-4)) rfl ?_
          refine g_ws (ws' := mw κ ma (mA (mA M 10 (fun _ => 0)) 11 (uI (M 11) (-(-4)) (M 11 (-(-4)) + 1)))) rfl ?_
          have hq : (-4) = qPiece (M 5 0) k f a := by unfold qPiece; (repeat' split) <;> omega
          exact K mw_same ⟨_, rfl, iIc hq, (by rw [show ePieceM M k f a = _ from if_neg (by omega)]; exact ⟨rfl, rfl, rfl, rfl, rfl, rfl, rfl, rfl, rfl, rfl, rfl, rfl, rfl, rfl, rfl, rfl, rfl, rfl⟩), (by rw [← hq]; exact (rfa_r (by omega)).symm)⟩ rfl dX6_piece_78
  · skip
    have c17 : ¬ (0 ≤ k ∧ k ≤ 5) := b2i_f c17
    refine g_bipush F dX6_piece_20 (by decide +kernel) ?_
    refine g_istore F (lv' := [(4, .int (iI (-2))), (0, .ref (ma 100)), (1, .int (iI k)), (2, .int (iI f)), (3, .int (iI a))]) dX6_piece_22 (by decide) rfl ?_
    refine g_goto F 67 dX6_piece_24 (by decide) ?_
    refine g_iload F 0 dX6_piece_67 rfl ?_
    refine g_if_ge F 79 (by omega) dX6_piece_69 (by decide) (fun c69 => ?_) (fun c69 => ?_)
    · skip
      exact absurd trivial (by omega)
    · skip
      refine g_aload_n F 1 dX6_piece_72 rfl ?_
      refine g_iload F 0 dX6_piece_73 rfl ?_
      refine g_callI F (stk := [.int (iI (-2)), .ref (ma 100)]) (st := []) (k_X6_refuse κ ma (mA M 10 (fun _ => 0)) (-2) (by omega)) cal_X6_refuse lm_X6_138 0 rfl rfl rfl rfl (by decide) rfl (Nat.le_of_ble_eq_true rfl) dX6_piece_75 (fun r75 ws75 _ hr75 => ?_)
      obtain ⟨rfl, rfl⟩ := hr75
      refine g_top (y := iI (-2)) rfl ?_
      refine g_ws (ws' := mw κ ma (mA (mA M 10 (fun _ => 0)) 11 (uI (M 11) (-(-2)) (M 11 (-(-2)) + 1)))) rfl ?_
      have hq : (-2) = qPiece (M 5 0) k f a := by unfold qPiece; (repeat' split) <;> omega
      exact K mw_same ⟨_, rfl, iIc hq, (by rw [show ePieceM M k f a = _ from if_neg (by omega)]; exact ⟨rfl, rfl, rfl, rfl, rfl, rfl, rfl, rfl, rfl, rfl, rfl, rfl, rfl, rfl, rfl, rfl, rfl, rfl⟩), (by rw [← hq]; exact (rfa_r (by omega)).symm)⟩ rfl dX6_piece_78
theorem dX5_piece_0 : decode cX5_piece 0 = .ok (.iload_n 1, 1) := by decide +kernel
theorem dX5_piece_1 : decode cX5_piece 1 = .ok (.invokestatic 137, 3) := by decide +kernel
theorem dX5_piece_4 : decode cX5_piece 4 = .ok (.ifCond .ne 10, 3) := by decide +kernel
theorem dX5_piece_7 : decode cX5_piece 7 = .ok (.aload_n 0, 1) := by decide +kernel
theorem dX5_piece_8 : decode cX5_piece 8 = .ok (.bipush (-2), 2) := by decide +kernel
theorem dX5_piece_10 : decode cX5_piece 10 = .ok (.invokevirtual 69, 3) := by decide +kernel
theorem dX5_piece_13 : decode cX5_piece 13 = .ok (.ireturn, 1) := by decide +kernel
theorem dX5_piece_14 : decode cX5_piece 14 = .ok (.iload_n 2, 1) := by decide +kernel
theorem dX5_piece_15 : decode cX5_piece 15 = .ok (.ifCond .lt 7, 3) := by decide +kernel
theorem dX5_piece_18 : decode cX5_piece 18 = .ok (.iload_n 3, 1) := by decide +kernel
theorem dX5_piece_19 : decode cX5_piece 19 = .ok (.ifCond .ge 10, 3) := by decide +kernel
theorem dX5_piece_22 : decode cX5_piece 22 = .ok (.aload_n 0, 1) := by decide +kernel
theorem dX5_piece_23 : decode cX5_piece 23 = .ok (.bipush (-4), 2) := by decide +kernel
theorem dX5_piece_25 : decode cX5_piece 25 = .ok (.invokevirtual 69, 3) := by decide +kernel
theorem dX5_piece_28 : decode cX5_piece 28 = .ok (.ireturn, 1) := by decide +kernel
theorem dX5_piece_29 : decode cX5_piece 29 = .ok (.iload_n 2, 1) := by decide +kernel
theorem dX5_piece_30 : decode cX5_piece 30 = .ok (.bipush 10, 2) := by decide +kernel
theorem dX5_piece_32 : decode cX5_piece 32 = .ok (.if_icmp .ge 21, 3) := by decide +kernel
theorem dX5_piece_35 : decode cX5_piece 35 = .ok (.iload_n 3, 1) := by decide +kernel
theorem dX5_piece_36 : decode cX5_piece 36 = .ok (.bipush 100, 2) := by decide +kernel
theorem dX5_piece_38 : decode cX5_piece 38 = .ok (.if_icmp .ge 15, 3) := by decide +kernel
theorem dX5_piece_41 : decode cX5_piece 41 = .ok (.aload_n 0, 1) := by decide +kernel
theorem dX5_piece_42 : decode cX5_piece 42 = .ok (.getfield 19, 3) := by decide +kernel
theorem dX5_piece_45 : decode cX5_piece 45 = .ok (.getfield 144, 3) := by decide +kernel
theorem dX5_piece_48 : decode cX5_piece 48 = .ok (.bipush 6, 2) := by decide +kernel
theorem dX5_piece_50 : decode cX5_piece 50 = .ok (.if_icmp .lt 10, 3) := by decide +kernel
theorem dX5_piece_53 : decode cX5_piece 53 = .ok (.aload_n 0, 1) := by decide +kernel
theorem dX5_piece_54 : decode cX5_piece 54 = .ok (.bipush (-6), 2) := by decide +kernel
theorem dX5_piece_56 : decode cX5_piece 56 = .ok (.invokevirtual 69, 3) := by decide +kernel
theorem dX5_piece_59 : decode cX5_piece 59 = .ok (.ireturn, 1) := by decide +kernel
theorem dX5_piece_60 : decode cX5_piece 60 = .ok (.aload_n 0, 1) := by decide +kernel
theorem dX5_piece_61 : decode cX5_piece 61 = .ok (.getfield 19, 3) := by decide +kernel
theorem dX5_piece_64 : decode cX5_piece 64 = .ok (.iload_n 1, 1) := by decide +kernel
theorem dX5_piece_65 : decode cX5_piece 65 = .ok (.iload_n 2, 1) := by decide +kernel
theorem dX5_piece_66 : decode cX5_piece 66 = .ok (.iload_n 3, 1) := by decide +kernel
theorem dX5_piece_67 : decode cX5_piece 67 = .ok (.invokevirtual 147, 3) := by decide +kernel
theorem dX5_piece_70 : decode cX5_piece 70 = .ok (.aload_n 0, 1) := by decide +kernel
theorem dX5_piece_71 : decode cX5_piece 71 = .ok (.getfield 26, 3) := by decide +kernel
theorem dX5_piece_74 : decode cX5_piece 74 = .ok (.invokevirtual 108, 3) := by decide +kernel
theorem dX5_piece_77 : decode cX5_piece 77 = .ok (.aload_n 0, 1) := by decide +kernel
theorem dX5_piece_78 : decode cX5_piece 78 = .ok (.getfield 19, 3) := by decide +kernel
theorem dX5_piece_81 : decode cX5_piece 81 = .ok (.getfield 144, 3) := by decide +kernel
theorem dX5_piece_84 : decode cX5_piece 84 = .ok (.iconst 1, 1) := by decide +kernel
theorem dX5_piece_85 : decode cX5_piece 85 = .ok (.isub, 1) := by decide +kernel
theorem dX5_piece_86 : decode cX5_piece 86 = .ok (.ireturn, 1) := by decide +kernel
set_option maxRecDepth 100000 in
set_option maxHeartbeats 4000000 in
theorem k_X5_piece (κ : Kp) (xa : Nat → Nat → Nat) (X : XS) (k : Int) (f : Int) (a : Int)  (ha_k : In32 k) (ha_f : In32 f) (ha_a : In32 a) (hn : 0 ≤ X 12 3 0 ∧ X 12 3 0 ≤ 6) : mI κ yX5_piece cX5_piece 4 .int 3 [.ref (xa 18 100), .int (iI k), .int (iI f), .int (iI a)] (xw κ xa X) (qXs κ xa (ePieceX X k f a) X (qPiece (X 12 3 0) k f a)) := by
  refine mI_of (by decide) (Nat.le_of_ble_eq_true rfl) (fun E F K => ?_)
  refine g_lv (lv' := [(0, .ref (xa 18 100)), (1, .int (iI k)), (2, .int (iI f)), (3, .int (iI a))]) rfl ?_
  refine g_iload_n F 1 dX5_piece_0 rfl ?_
  refine g_callSI F (stk := [.int (iI k)]) (st := []) (k_X5_isKind κ (xw κ xa X) k (by omega)) cal_X5_isKind lm_X5_137 rfl (by decide) rfl (Nat.le_of_ble_eq_true rfl) dX5_piece_1 (fun r1 ws1 _ hr1 => ?_)
  obtain ⟨rfl, rfl⟩ := hr1
  refine g_if_ne F 14 (b2i_in _) dX5_piece_4 (by decide) (fun c4 => ?_) (fun c4 => ?_)
  · skip
    have c4 : 0 ≤ k ∧ k < 6 := b2i_t c4
    refine g_iload_n F 2 dX5_piece_14 rfl ?_
    refine g_if_lt F 22 (by omega) dX5_piece_15 (by decide) (fun c15 => ?_) (fun c15 => ?_)
    · skip
      refine g_aload_n F 0 dX5_piece_22 rfl ?_
      refine g_bipush F dX5_piece_23 (by decide +kernel) ?_
      refine g_callI F (stk := [.int (iI (-4)), .ref (xa 18 100)]) (st := []) (k_X5_refuse κ xa X (-4) (by omega)) cal_X5_refuse lm_X5_69 81 rfl rfl rfl rfl (by decide) rfl (Nat.le_of_ble_eq_true rfl) dX5_piece_25 (fun r25 ws25 _ hr25 => ?_)
      obtain ⟨rfl, rfl⟩ := hr25
      have hq : (-4) = qPiece (X 12 3 0) k f a := by unfold qPiece; (repeat' split) <;> omega
      exact K xw_same ⟨_, rfl, iIc hq, (by rw [show ePieceX X k f a = _ from if_neg (by omega)]; exact (sX_18 sX_0 rfl rfl rfl)), (by rw [← hq]; exact (rfa_r (by omega)).symm)⟩ rfl dX5_piece_28
    · skip
      refine g_iload_n F 3 dX5_piece_18 rfl ?_
      refine g_if_ge F 29 (by omega) dX5_piece_19 (by decide) (fun c19 => ?_) (fun c19 => ?_)
      · skip
        refine g_iload_n F 2 dX5_piece_29 rfl ?_
        refine g_bipush F dX5_piece_30 (by decide +kernel) ?_
        refine g_icmp_ge F 53 (by omega) dX5_piece_32 (by decide) (fun c32 => ?_) (fun c32 => ?_)
        · skip
          refine g_aload_n F 0 dX5_piece_53 rfl ?_
          refine g_bipush F dX5_piece_54 (by decide +kernel) ?_
          refine g_callI F (stk := [.int (iI (-6)), .ref (xa 18 100)]) (st := []) (k_X5_refuse κ xa X (-6) (by omega)) cal_X5_refuse lm_X5_69 81 rfl rfl rfl rfl (by decide) rfl (Nat.le_of_ble_eq_true rfl) dX5_piece_56 (fun r56 ws56 _ hr56 => ?_)
          obtain ⟨rfl, rfl⟩ := hr56
          have hq : (-6) = qPiece (X 12 3 0) k f a := by unfold qPiece; (repeat' split) <;> omega
          exact K xw_same ⟨_, rfl, iIc hq, (by rw [show ePieceX X k f a = _ from if_neg (by omega)]; exact (sX_18 sX_0 rfl rfl rfl)), (by rw [← hq]; exact (rfa_r (by omega)).symm)⟩ rfl dX5_piece_59
        · skip
          refine g_iload_n F 3 dX5_piece_35 rfl ?_
          refine g_bipush F dX5_piece_36 (by decide +kernel) ?_
          refine g_icmp_ge F 53 (by omega) dX5_piece_38 (by decide) (fun c38 => ?_) (fun c38 => ?_)
          · skip
            refine g_aload_n F 0 dX5_piece_53 rfl ?_
            refine g_bipush F dX5_piece_54 (by decide +kernel) ?_
            refine g_callI F (stk := [.int (iI (-6)), .ref (xa 18 100)]) (st := []) (k_X5_refuse κ xa X (-6) (by omega)) cal_X5_refuse lm_X5_69 81 rfl rfl rfl rfl (by decide) rfl (Nat.le_of_ble_eq_true rfl) dX5_piece_56 (fun r56 ws56 _ hr56 => ?_)
            obtain ⟨rfl, rfl⟩ := hr56
            have hq : (-6) = qPiece (X 12 3 0) k f a := by unfold qPiece; (repeat' split) <;> omega
            exact K xw_same ⟨_, rfl, iIc hq, (by rw [show ePieceX X k f a = _ from if_neg (by omega)]; exact (sX_18 sX_0 rfl rfl rfl)), (by rw [← hq]; exact (rfa_r (by omega)).symm)⟩ rfl dX5_piece_59
          · skip
            refine g_aload_n F 0 dX5_piece_41 rfl ?_
            refine g18_get_1 F  lf_X5_19 dX5_piece_42 ?_
            refine gr_getN_3 F (o := 0) (by decide) nf_X5_144 dX5_piece_45 ?_
            refine g_top (y := iI ((X 12) 3 0)) rfl ?_
            refine g_bipush F dX5_piece_48 (by decide +kernel) ?_
            refine g_icmp_lt F 60 (by omega) dX5_piece_50 (by decide) (fun c50 => ?_) (fun c50 => ?_)
            · skip
              refine g_aload_n F 0 dX5_piece_60 rfl ?_
              refine g18_get_1 F  lf_X5_19 dX5_piece_61 ?_
              refine g_iload_n F 1 dX5_piece_64 rfl ?_
              refine g_iload_n F 2 dX5_piece_65 rfl ?_
              refine g_iload_n F 3 dX5_piece_66 rfl ?_
              refine g_callNV F (stk := [.int (iI a), .int (iI f), .int (iI k), .ref (xa 12 100)]) (st := []) (k_X2_add κ xa X 0 (by decide) k f a (show 0 ≤ ((X 12) 3 0) ∧ ((X 12) 3 0) < 6 from by omega)) cal_X2_add nm_X5_147 60 rfl rfl rfl rfl (by decide) rfl (Nat.le_of_ble_eq_true rfl) dX5_piece_67 (fun ws67 _ hr67 => ?_)
              obtain rfl := hr67
              refine g_aload_n F 0 dX5_piece_70 rfl ?_
              refine g18_get_2 F  lf_X5_26 dX5_piece_71 ?_
              refine g_callNV F (stk := [.ref (xa 15 100)]) (st := []) (k_X1_forget κ xa (setO X 12 (mA (mA (mA (mA (X 12) 0 (uI ((X 12) 0) ((X 12) 3 0) k)) 1 (uI ((X 12) 1) ((X 12) 3 0) f)) 2 (uI ((X 12) 2) ((X 12) 3 0) a)) 3 (fun _ => (X 12) 3 0 + 1)))) cal_X1_forget nm_X5_108 72 rfl rfl rfl rfl (by decide) rfl (Nat.le_of_ble_eq_true rfl) dX5_piece_74 (fun ws74 _ hr74 => ?_)
              obtain rfl := hr74
              refine g_ws (ws' := xw κ xa (setO (setO X 12 (mA (mA (mA (mA (X 12) 0 (uI ((X 12) 0) ((X 12) 3 0) k)) 1 (uI ((X 12) 1) ((X 12) 3 0) f)) 2 (uI ((X 12) 2) ((X 12) 3 0) a)) 3 (fun _ => (X 12) 3 0 + 1))) 15 (mA (X 15) 3 (fun _ => 0)))) rfl ?_
              refine g_aload_n F 0 dX5_piece_77 rfl ?_
              refine g18_get_1 F  lf_X5_19 dX5_piece_78 ?_
              refine gr_getN_3 F (o := 0) (by decide) nf_X5_144 dX5_piece_81 ?_
              refine g_top (y := iI ((X 12) 3 0 + 1)) rfl ?_
              refine g_iconst F dX5_piece_84 ?_
              refine g_isub F dX5_piece_85 ?_
              have hq : ((X 12) 3 0 + 1) - 1 = qPiece (X 12 3 0) k f a := by unfold qPiece; (repeat' split) <;> omega
              exact K xw_same ⟨_, rfl, iIc hq, (by rw [show ePieceX X k f a = _ from if_pos (by omega)]; exact sX_0), (by rw [← hq]; exact (rfa_n (by omega)).symm)⟩ rfl dX5_piece_86
            · skip
              refine g_aload_n F 0 dX5_piece_53 rfl ?_
              refine g_bipush F dX5_piece_54 (by decide +kernel) ?_
              refine g_callI F (stk := [.int (iI (-6)), .ref (xa 18 100)]) (st := []) (k_X5_refuse κ xa X (-6) (by omega)) cal_X5_refuse lm_X5_69 81 rfl rfl rfl rfl (by decide) rfl (Nat.le_of_ble_eq_true rfl) dX5_piece_56 (fun r56 ws56 _ hr56 => ?_)
              obtain ⟨rfl, rfl⟩ := hr56
              have hq : (-6) = qPiece (X 12 3 0) k f a := by unfold qPiece; (repeat' split) <;> omega
              exact K xw_same ⟨_, rfl, iIc hq, (by rw [show ePieceX X k f a = _ from if_neg (by omega)]; exact (sX_18 sX_0 rfl rfl rfl)), (by rw [← hq]; exact (rfa_r (by omega)).symm)⟩ rfl dX5_piece_59
      · skip
        refine g_aload_n F 0 dX5_piece_22 rfl ?_
        refine g_bipush F dX5_piece_23 (by decide +kernel) ?_
        refine g_callI F (stk := [.int (iI (-4)), .ref (xa 18 100)]) (st := []) (k_X5_refuse κ xa X (-4) (by omega)) cal_X5_refuse lm_X5_69 81 rfl rfl rfl rfl (by decide) rfl (Nat.le_of_ble_eq_true rfl) dX5_piece_25 (fun r25 ws25 _ hr25 => ?_)
        obtain ⟨rfl, rfl⟩ := hr25
        have hq : (-4) = qPiece (X 12 3 0) k f a := by unfold qPiece; (repeat' split) <;> omega
        exact K xw_same ⟨_, rfl, iIc hq, (by rw [show ePieceX X k f a = _ from if_neg (by omega)]; exact (sX_18 sX_0 rfl rfl rfl)), (by rw [← hq]; exact (rfa_r (by omega)).symm)⟩ rfl dX5_piece_28
  · skip
    have c4 : ¬ (0 ≤ k ∧ k < 6) := b2i_f c4
    refine g_aload_n F 0 dX5_piece_7 rfl ?_
    refine g_bipush F dX5_piece_8 (by decide +kernel) ?_
    refine g_callI F (stk := [.int (iI (-2)), .ref (xa 18 100)]) (st := []) (k_X5_refuse κ xa X (-2) (by omega)) cal_X5_refuse lm_X5_69 81 rfl rfl rfl rfl (by decide) rfl (Nat.le_of_ble_eq_true rfl) dX5_piece_10 (fun r10 ws10 _ hr10 => ?_)
    obtain ⟨rfl, rfl⟩ := hr10
    have hq : (-2) = qPiece (X 12 3 0) k f a := by unfold qPiece; (repeat' split) <;> omega
    exact K xw_same ⟨_, rfl, iIc hq, (by rw [show ePieceX X k f a = _ from if_neg (by omega)]; exact (sX_18 sX_0 rfl rfl rfl)), (by rw [← hq]; exact (rfa_r (by omega)).symm)⟩ rfl dX5_piece_13
def qCell (ag : Int → Int) (c k f a : Int) : Int := if ¬ (0 ≤ c ∧ c < 12) then -1 else if ¬ (0 ≤ k ∧ k < 6) then -2 else if f < 0 ∨ a < 0 then -4 else if 9 < f ∨ 99 < a then -6 else ag c
abbrev okCell (c k f a : Int) : Prop := (0 ≤ c ∧ c < 12) ∧ (0 ≤ k ∧ k < 6) ∧ (0 ≤ f ∧ f ≤ 9) ∧ 0 ≤ a ∧ a ≤ 99
def eCellM (M : MS) (c k f a : Int) : MS := if okCell c k f a then stC (kpt M) (make (cl M) c k f a) else M
def eCellX (X : XS) (c k f a : Int) : XS := if okCell c k f a then setO (setO (noteX X) 12 (X 12)) 0 (stC (X 0) (make (cl (X 0)) c k f a)) else X
theorem dX6_cell_0 : decode cX6_cell 0 = .ok (.aload_n 0, 1) := by decide +kernel
theorem dX6_cell_1 : decode cX6_cell 1 = .ok (.iconst 0, 1) := by decide +kernel
theorem dX6_cell_2 : decode cX6_cell 2 = .ok (.putfield 91, 3) := by decide +kernel
theorem dX6_cell_5 : decode cX6_cell 5 = .ok (.iconst 0, 1) := by decide +kernel
theorem dX6_cell_6 : decode cX6_cell 6 = .ok (.istore 5, 2) := by decide +kernel
theorem dX6_cell_8 : decode cX6_cell 8 = .ok (.iload_n 1, 1) := by decide +kernel
theorem dX6_cell_9 : decode cX6_cell 9 = .ok (.invokestatic 222, 3) := by decide +kernel
theorem dX6_cell_12 : decode cX6_cell 12 = .ok (.ifCond .ne 9, 3) := by decide +kernel
theorem dX6_cell_15 : decode cX6_cell 15 = .ok (.iconst (-1), 1) := by decide +kernel
theorem dX6_cell_16 : decode cX6_cell 16 = .ok (.istore 5, 2) := by decide +kernel
theorem dX6_cell_18 : decode cX6_cell 18 = .ok (.goto 55, 3) := by decide +kernel
theorem dX6_cell_21 : decode cX6_cell 21 = .ok (.iload_n 2, 1) := by decide +kernel
theorem dX6_cell_22 : decode cX6_cell 22 = .ok (.i2l, 1) := by decide +kernel
theorem dX6_cell_23 : decode cX6_cell 23 = .ok (.lconst 0, 1) := by decide +kernel
theorem dX6_cell_24 : decode cX6_cell 24 = .ok (.ldc2_w 229, 3) := by decide +kernel
theorem dX6_cell_27 : decode cX6_cell 27 = .ok (.invokestatic 97, 3) := by decide +kernel
theorem dX6_cell_30 : decode cX6_cell 30 = .ok (.ifCond .ne 10, 3) := by decide +kernel
theorem dX6_cell_33 : decode cX6_cell 33 = .ok (.bipush (-2), 2) := by decide +kernel
theorem dX6_cell_35 : decode cX6_cell 35 = .ok (.istore 5, 2) := by decide +kernel
theorem dX6_cell_37 : decode cX6_cell 37 = .ok (.goto 36, 3) := by decide +kernel
theorem dX6_cell_40 : decode cX6_cell 40 = .ok (.iload_n 3, 1) := by decide +kernel
theorem dX6_cell_41 : decode cX6_cell 41 = .ok (.ifCond .lt 8, 3) := by decide +kernel
theorem dX6_cell_44 : decode cX6_cell 44 = .ok (.iload 4, 2) := by decide +kernel
theorem dX6_cell_46 : decode cX6_cell 46 = .ok (.ifCond .ge 10, 3) := by decide +kernel
theorem dX6_cell_49 : decode cX6_cell 49 = .ok (.bipush (-4), 2) := by decide +kernel
theorem dX6_cell_51 : decode cX6_cell 51 = .ok (.istore 5, 2) := by decide +kernel
theorem dX6_cell_53 : decode cX6_cell 53 = .ok (.goto 20, 3) := by decide +kernel
theorem dX6_cell_56 : decode cX6_cell 56 = .ok (.iload_n 3, 1) := by decide +kernel
theorem dX6_cell_57 : decode cX6_cell 57 = .ok (.bipush 9, 2) := by decide +kernel
theorem dX6_cell_59 : decode cX6_cell 59 = .ok (.if_icmp .gt 10, 3) := by decide +kernel
theorem dX6_cell_62 : decode cX6_cell 62 = .ok (.iload 4, 2) := by decide +kernel
theorem dX6_cell_64 : decode cX6_cell 64 = .ok (.bipush 99, 2) := by decide +kernel
theorem dX6_cell_66 : decode cX6_cell 66 = .ok (.if_icmp .le 7, 3) := by decide +kernel
theorem dX6_cell_69 : decode cX6_cell 69 = .ok (.bipush (-6), 2) := by decide +kernel
theorem dX6_cell_71 : decode cX6_cell 71 = .ok (.istore 5, 2) := by decide +kernel
theorem dX6_cell_73 : decode cX6_cell 73 = .ok (.iload 5, 2) := by decide +kernel
theorem dX6_cell_75 : decode cX6_cell 75 = .ok (.ifCond .ge 10, 3) := by decide +kernel
theorem dX6_cell_78 : decode cX6_cell 78 = .ok (.aload_n 0, 1) := by decide +kernel
theorem dX6_cell_79 : decode cX6_cell 79 = .ok (.iload 5, 2) := by decide +kernel
theorem dX6_cell_81 : decode cX6_cell 81 = .ok (.invokevirtual 138, 3) := by decide +kernel
theorem dX6_cell_84 : decode cX6_cell 84 = .ok (.ireturn, 1) := by decide +kernel
theorem dX6_cell_85 : decode cX6_cell 85 = .ok (.aload_n 0, 1) := by decide +kernel
theorem dX6_cell_86 : decode cX6_cell 86 = .ok (.invokevirtual 231, 3) := by decide +kernel
theorem dX6_cell_89 : decode cX6_cell 89 = .ok (.aload_n 0, 1) := by decide +kernel
theorem dX6_cell_90 : decode cX6_cell 90 = .ok (.getfield 16, 3) := by decide +kernel
theorem dX6_cell_93 : decode cX6_cell 93 = .ok (.iload_n 1, 1) := by decide +kernel
theorem dX6_cell_94 : decode cX6_cell 94 = .ok (.iaload, 1) := by decide +kernel
theorem dX6_cell_95 : decode cX6_cell 95 = .ok (.istore 6, 2) := by decide +kernel
theorem dX6_cell_97 : decode cX6_cell 97 = .ok (.aload_n 0, 1) := by decide +kernel
theorem dX6_cell_98 : decode cX6_cell 98 = .ok (.iload_n 1, 1) := by decide +kernel
theorem dX6_cell_99 : decode cX6_cell 99 = .ok (.iload_n 2, 1) := by decide +kernel
theorem dX6_cell_100 : decode cX6_cell 100 = .ok (.iload_n 3, 1) := by decide +kernel
theorem dX6_cell_101 : decode cX6_cell 101 = .ok (.iload 4, 2) := by decide +kernel
theorem dX6_cell_103 : decode cX6_cell 103 = .ok (.invokevirtual 134, 3) := by decide +kernel
theorem dX6_cell_106 : decode cX6_cell 106 = .ok (.iload 6, 2) := by decide +kernel
theorem dX6_cell_108 : decode cX6_cell 108 = .ok (.ireturn, 1) := by decide +kernel
set_option maxRecDepth 100000 in
set_option maxHeartbeats 4000000 in
theorem k_X6_cell (κ : Kp) (ma : Nat → Nat) (M : MS) (c : Int) (k : Int) (f : Int) (a : Int)  (ha_c : In32 c) (ha_k : In32 k) (ha_f : In32 f) (ha_a : In32 a) (ok : okC (cl M)) (h28 : 0 ≤ M 28 0 ∧ M 28 0 ≤ 8) : mI κ yX6_cell cX6_cell 7 .int 4 [.ref (ma 100), .int (iI c), .int (iI k), .int (iI f), .int (iI a)] (mw κ ma M) (qMs κ ma (eCellM M c k f a) M (qCell (M 2) c k f a)) := by
  refine mI_of (by decide) (Nat.le_of_ble_eq_true rfl) (fun E F K => ?_)
  refine g_lv (lv' := [(0, .ref (ma 100)), (1, .int (iI c)), (2, .int (iI k)), (3, .int (iI f)), (4, .int (iI a))]) rfl ?_
  refine g_aload_n F 0 dX6_cell_0 rfl ?_
  refine g_iconst F dX6_cell_1 ?_
  refine gm_put_10 F dX6_cell_2 ?_
  refine g_iconst F dX6_cell_5 ?_
  refine g_istore F (lv' := [(5, .int (iI 0)), (0, .ref (ma 100)), (1, .int (iI c)), (2, .int (iI k)), (3, .int (iI f)), (4, .int (iI a))]) dX6_cell_6 (by decide) rfl ?_
  refine g_iload_n F 2 dX6_cell_8 rfl ?_
  refine g_callSI F (stk := [.int (iI c)]) (st := []) (k_X6_isCell κ (mw κ ma (mA M 10 (fun _ => 0))) c (by omega)) cal_X6_isCell lm_X6_222 rfl (by decide) rfl (Nat.le_of_ble_eq_true rfl) dX6_cell_9 (fun r9 ws9 _ hr9 => ?_)
  obtain ⟨rfl, rfl⟩ := hr9
  refine g_if_ne F 21 (b2i_in _) dX6_cell_12 (by decide) (fun c12 => ?_) (fun c12 => ?_)
  · skip
    have c12 : 0 ≤ c ∧ c < 12 := b2i_t c12
    refine g_iload_n F 3 dX6_cell_21 rfl ?_
    refine g_i2l F (by omega) dX6_cell_22 ?_
    refine g_lconst F (z := 0) dX6_cell_23 rfl ?_
    refine g_ldc2 F (z := 5) ll_X6_229 (by decide +kernel) dX6_cell_24 ?_
    refine g_callSI F (stk := [.long (iL 5), .long (iL 0), .long (iL k)]) (st := []) (k_X6_in κ (mw κ ma (mA M 10 (fun _ => 0))) k 0 5 (by omega)) cal_X6_in lm_X6_97 rfl (by decide) rfl (Nat.le_of_ble_eq_true rfl) dX6_cell_27 (fun r27 ws27 _ hr27 => ?_)
    obtain ⟨rfl, rfl⟩ := hr27
    refine g_if_ne F 40 (b2i_in _) dX6_cell_30 (by decide) (fun c30 => ?_) (fun c30 => ?_)
    · skip
      have c30 : 0 ≤ k ∧ k ≤ 5 := b2i_t c30
      refine g_iload_n F 4 dX6_cell_40 rfl ?_
      refine g_if_lt F 49 (by omega) dX6_cell_41 (by decide) (fun c41 => ?_) (fun c41 => ?_)
      · skip
        refine g_bipush F dX6_cell_49 (by decide +kernel) ?_
        refine g_istore F (lv' := [(5, .int (iI (-4))), (0, .ref (ma 100)), (1, .int (iI c)), (2, .int (iI k)), (3, .int (iI f)), (4, .int (iI a))]) dX6_cell_51 (by decide) rfl ?_
        refine g_goto F 73 dX6_cell_53 (by decide) ?_
        refine g_iload F 0 dX6_cell_73 rfl ?_
        refine g_if_ge F 85 (by omega) dX6_cell_75 (by decide) (fun c75 => ?_) (fun c75 => ?_)
        · skip
          exact absurd trivial (by omega)
        · skip
          refine g_aload_n F 1 dX6_cell_78 rfl ?_
          refine g_iload F 0 dX6_cell_79 rfl ?_
          refine g_callI F (stk := [.int (iI (-4)), .ref (ma 100)]) (st := []) (k_X6_refuse κ ma (mA M 10 (fun _ => 0)) (-4) (by omega)) cal_X6_refuse lm_X6_138 0 rfl rfl rfl rfl (by decide) rfl (Nat.le_of_ble_eq_true rfl) dX6_cell_81 (fun r81 ws81 _ hr81 => ?_)
          obtain ⟨rfl, rfl⟩ := hr81
          refine g_top (y := iI (-4)) rfl ?_
          refine g_ws (ws' := mw κ ma (mA (mA M 10 (fun _ => 0)) 11 (uI (M 11) (-(-4)) (M 11 (-(-4)) + 1)))) rfl ?_
          have hq : (-4) = qCell (M 2) c k f a := by unfold qCell; (repeat' split) <;> omega
          exact K mw_same ⟨_, rfl, iIc hq, (by rw [show eCellM M c k f a = _ from if_neg (by omega)]; exact ⟨rfl, rfl, rfl, rfl, rfl, rfl, rfl, rfl, rfl, rfl, rfl, rfl, rfl, rfl, rfl, rfl, rfl, rfl⟩), (by rw [← hq]; exact (rfa_r (by omega)).symm)⟩ rfl dX6_cell_84
      · skip
        refine g_iload F 5 dX6_cell_44 rfl ?_
        refine g_if_ge F 56 (by omega) dX6_cell_46 (by decide) (fun c46 => ?_) (fun c46 => ?_)
        · skip
          refine g_iload_n F 4 dX6_cell_56 rfl ?_
          refine g_bipush F dX6_cell_57 (by decide +kernel) ?_
          refine g_icmp_gt F 69 (by omega) dX6_cell_59 (by decide) (fun c59 => ?_) (fun c59 => ?_)
          · skip
            refine g_bipush F dX6_cell_69 (by decide +kernel) ?_
            refine g_istore F (lv' := [(5, .int (iI (-6))), (0, .ref (ma 100)), (1, .int (iI c)), (2, .int (iI k)), (3, .int (iI f)), (4, .int (iI a))]) dX6_cell_71 (by decide) rfl ?_
            refine g_iload F 0 dX6_cell_73 rfl ?_
            refine g_if_ge F 85 (by omega) dX6_cell_75 (by decide) (fun c75 => ?_) (fun c75 => ?_)
            · skip
              exact absurd trivial (by omega)
            · skip
              refine g_aload_n F 1 dX6_cell_78 rfl ?_
              refine g_iload F 0 dX6_cell_79 rfl ?_
              refine g_callI F (stk := [.int (iI (-6)), .ref (ma 100)]) (st := []) (k_X6_refuse κ ma (mA M 10 (fun _ => 0)) (-6) (by omega)) cal_X6_refuse lm_X6_138 0 rfl rfl rfl rfl (by decide) rfl (Nat.le_of_ble_eq_true rfl) dX6_cell_81 (fun r81 ws81 _ hr81 => ?_)
              obtain ⟨rfl, rfl⟩ := hr81
              refine g_top (y := iI (-6)) rfl ?_
              refine g_ws (ws' := mw κ ma (mA (mA M 10 (fun _ => 0)) 11 (uI (M 11) (-(-6)) (M 11 (-(-6)) + 1)))) rfl ?_
              have hq : (-6) = qCell (M 2) c k f a := by unfold qCell; (repeat' split) <;> omega
              exact K mw_same ⟨_, rfl, iIc hq, (by rw [show eCellM M c k f a = _ from if_neg (by omega)]; exact ⟨rfl, rfl, rfl, rfl, rfl, rfl, rfl, rfl, rfl, rfl, rfl, rfl, rfl, rfl, rfl, rfl, rfl, rfl⟩), (by rw [← hq]; exact (rfa_r (by omega)).symm)⟩ rfl dX6_cell_84
          · skip
            refine g_iload F 5 dX6_cell_62 rfl ?_
            refine g_bipush F dX6_cell_64 (by decide +kernel) ?_
            refine g_icmp_le F 73 (by omega) dX6_cell_66 (by decide) (fun c66 => ?_) (fun c66 => ?_)
            · skip
              refine g_iload F 0 dX6_cell_73 rfl ?_
              refine g_if_ge F 85 (by omega) dX6_cell_75 (by decide) (fun c75 => ?_) (fun c75 => ?_)
              · skip
                refine g_aload_n F 1 dX6_cell_85 rfl ?_
                refine g_callV F (stk := [.ref (ma 100)]) (st := []) (k_X6_keepTurn κ ma (mA M 10 (fun _ => 0)) (show 0 ≤ (M 28 0) ∧ (M 28 0) ≤ 8 from by omega)) cal_X6_keepTurn lm_X6_231 0 rfl rfl rfl rfl (by decide) rfl (Nat.le_of_ble_eq_true rfl) dX6_cell_86 (fun ws86 _ hr86 => ?_)
                obtain rfl := hr86
                refine g_ws (ws' := mw κ ma (kpt (mA M 10 (fun _ => 0)))) rfl ?_
                refine g_ws (ws' := mw κ ma (mA (kpt M) 10 (fun _ => 0))) (by rw [kpt_mA10]) ?_
                refine g_aload_n F 1 dX6_cell_89 rfl ?_
                refine gm_get_2 F dX6_cell_90 ?_
                refine g_iload_n F 2 dX6_cell_93 rfl ?_
                have hkc : 0 ≤ M 2 c ∧ M 2 c ≤ 99 := ok.a c (by omega) (by omega)
                refine gm_ald_2 F (by omega) dX6_cell_94 ?_
                refine g_top (y := iI (M 2 c)) rfl ?_
                refine g_istore F (lv' := [(6, .int (iI (M 2 c))), (5, .int (iI 0)), (0, .ref (ma 100)), (1, .int (iI c)), (2, .int (iI k)), (3, .int (iI f)), (4, .int (iI a))]) dX6_cell_95 (by decide) rfl ?_
                refine g_aload_n F 2 dX6_cell_97 rfl ?_
                refine g_iload_n F 3 dX6_cell_98 rfl ?_
                refine g_iload_n F 4 dX6_cell_99 rfl ?_
                refine g_iload_n F 5 dX6_cell_100 rfl ?_
                refine g_iload F 6 dX6_cell_101 rfl ?_
                refine g_callV F (stk := [.int (iI a), .int (iI f), .int (iI k), .int (iI c), .ref (ma 100)]) (st := []) (k_X6_makeCell κ ma (mA (kpt M) 10 (fun _ => 0)) c k f a (by omega)) cal_X6_makeCell lm_X6_134 0 rfl rfl rfl rfl (by decide) rfl (Nat.le_of_ble_eq_true rfl) dX6_cell_103 (fun ws103 _ hr103 => ?_)
                obtain rfl := hr103
                refine g_ws (ws' := mw κ ma (stC (mA (kpt M) 10 (fun _ => 0)) (make (cl M) c k f a))) rfl ?_
                refine g_iload F 0 dX6_cell_106 rfl ?_
                have hq : M 2 c = qCell (M 2) c k f a := by unfold qCell; (repeat' split) <;> omega
                exact K mw_same ⟨_, rfl, iIc hq, (by rw [show eCellM M c k f a = _ from if_pos (by omega)]; exact ⟨rfl, rfl, rfl, rfl, rfl, rfl, rfl, rfl, rfl, rfl, rfl, rfl, rfl, rfl, rfl, rfl, rfl, rfl⟩), (by rw [← hq]; show M 11 = _; exact (rfa_n (by omega)).symm)⟩ rfl dX6_cell_108
              · skip
                exact absurd trivial (by omega)
            · skip
              refine g_bipush F dX6_cell_69 (by decide +kernel) ?_
              refine g_istore F (lv' := [(5, .int (iI (-6))), (0, .ref (ma 100)), (1, .int (iI c)), (2, .int (iI k)), (3, .int (iI f)), (4, .int (iI a))]) dX6_cell_71 (by decide) rfl ?_
              refine g_iload F 0 dX6_cell_73 rfl ?_
              refine g_if_ge F 85 (by omega) dX6_cell_75 (by decide) (fun c75 => ?_) (fun c75 => ?_)
              · skip
                exact absurd trivial (by omega)
              · skip
                refine g_aload_n F 1 dX6_cell_78 rfl ?_
                refine g_iload F 0 dX6_cell_79 rfl ?_
                refine g_callI F (stk := [.int (iI (-6)), .ref (ma 100)]) (st := []) (k_X6_refuse κ ma (mA M 10 (fun _ => 0)) (-6) (by omega)) cal_X6_refuse lm_X6_138 0 rfl rfl rfl rfl (by decide) rfl (Nat.le_of_ble_eq_true rfl) dX6_cell_81 (fun r81 ws81 _ hr81 => ?_)
                obtain ⟨rfl, rfl⟩ := hr81
                refine g_top (y := iI (-6)) rfl ?_
                refine g_ws (ws' := mw κ ma (mA (mA M 10 (fun _ => 0)) 11 (uI (M 11) (-(-6)) (M 11 (-(-6)) + 1)))) rfl ?_
                have hq : (-6) = qCell (M 2) c k f a := by unfold qCell; (repeat' split) <;> omega
                exact K mw_same ⟨_, rfl, iIc hq, (by rw [show eCellM M c k f a = _ from if_neg (by omega)]; exact ⟨rfl, rfl, rfl, rfl, rfl, rfl, rfl, rfl, rfl, rfl, rfl, rfl, rfl, rfl, rfl, rfl, rfl, rfl⟩), (by rw [← hq]; exact (rfa_r (by omega)).symm)⟩ rfl dX6_cell_84
        · skip
          refine g_bipush F dX6_cell_49 (by decide +kernel) ?_
          refine g_istore F (lv' := [(5, .int (iI (-4))), (0, .ref (ma 100)), (1, .int (iI c)), (2, .int (iI k)), (3, .int (iI f)), (4, .int (iI a))]) dX6_cell_51 (by decide) rfl ?_
          refine g_goto F 73 dX6_cell_53 (by decide) ?_
          refine g_iload F 0 dX6_cell_73 rfl ?_
          refine g_if_ge F 85 (by omega) dX6_cell_75 (by decide) (fun c75 => ?_) (fun c75 => ?_)
          · skip
            exact absurd trivial (by omega)
          · skip
            refine g_aload_n F 1 dX6_cell_78 rfl ?_
            refine g_iload F 0 dX6_cell_79 rfl ?_
            refine g_callI F (stk := [.int (iI (-4)), .ref (ma 100)]) (st := []) (k_X6_refuse κ ma (mA M 10 (fun _ => 0)) (-4) (by omega)) cal_X6_refuse lm_X6_138 0 rfl rfl rfl rfl (by decide) rfl (Nat.le_of_ble_eq_true rfl) dX6_cell_81 (fun r81 ws81 _ hr81 => ?_)
            obtain ⟨rfl, rfl⟩ := hr81
            refine g_top (y := iI (-4)) rfl ?_
            refine g_ws (ws' := mw κ ma (mA (mA M 10 (fun _ => 0)) 11 (uI (M 11) (-(-4)) (M 11 (-(-4)) + 1)))) rfl ?_
            have hq : (-4) = qCell (M 2) c k f a := by unfold qCell; (repeat' split) <;> omega
            exact K mw_same ⟨_, rfl, iIc hq, (by rw [show eCellM M c k f a = _ from if_neg (by omega)]; exact ⟨rfl, rfl, rfl, rfl, rfl, rfl, rfl, rfl, rfl, rfl, rfl, rfl, rfl, rfl, rfl, rfl, rfl, rfl⟩), (by rw [← hq]; exact (rfa_r (by omega)).symm)⟩ rfl dX6_cell_84
    · skip
      have c30 : ¬ (0 ≤ k ∧ k ≤ 5) := b2i_f c30
      refine g_bipush F dX6_cell_33 (by decide +kernel) ?_
      refine g_istore F (lv' := [(5, .int (iI (-2))), (0, .ref (ma 100)), (1, .int (iI c)), (2, .int (iI k)), (3, .int (iI f)), (4, .int (iI a))]) dX6_cell_35 (by decide) rfl ?_
      refine g_goto F 73 dX6_cell_37 (by decide) ?_
      refine g_iload F 0 dX6_cell_73 rfl ?_
      refine g_if_ge F 85 (by omega) dX6_cell_75 (by decide) (fun c75 => ?_) (fun c75 => ?_)
      · skip
        exact absurd trivial (by omega)
      · skip
        refine g_aload_n F 1 dX6_cell_78 rfl ?_
        refine g_iload F 0 dX6_cell_79 rfl ?_
        refine g_callI F (stk := [.int (iI (-2)), .ref (ma 100)]) (st := []) (k_X6_refuse κ ma (mA M 10 (fun _ => 0)) (-2) (by omega)) cal_X6_refuse lm_X6_138 0 rfl rfl rfl rfl (by decide) rfl (Nat.le_of_ble_eq_true rfl) dX6_cell_81 (fun r81 ws81 _ hr81 => ?_)
        obtain ⟨rfl, rfl⟩ := hr81
        refine g_top (y := iI (-2)) rfl ?_
        refine g_ws (ws' := mw κ ma (mA (mA M 10 (fun _ => 0)) 11 (uI (M 11) (-(-2)) (M 11 (-(-2)) + 1)))) rfl ?_
        have hq : (-2) = qCell (M 2) c k f a := by unfold qCell; (repeat' split) <;> omega
        exact K mw_same ⟨_, rfl, iIc hq, (by rw [show eCellM M c k f a = _ from if_neg (by omega)]; exact ⟨rfl, rfl, rfl, rfl, rfl, rfl, rfl, rfl, rfl, rfl, rfl, rfl, rfl, rfl, rfl, rfl, rfl, rfl⟩), (by rw [← hq]; exact (rfa_r (by omega)).symm)⟩ rfl dX6_cell_84
  · skip
    have c12 : ¬ (0 ≤ c ∧ c < 12) := b2i_f c12
    refine g_iconst F dX6_cell_15 ?_
    refine g_istore F (lv' := [(5, .int (iI (-1))), (0, .ref (ma 100)), (1, .int (iI c)), (2, .int (iI k)), (3, .int (iI f)), (4, .int (iI a))]) dX6_cell_16 (by decide) rfl ?_
    refine g_goto F 73 dX6_cell_18 (by decide) ?_
    refine g_iload F 0 dX6_cell_73 rfl ?_
    refine g_if_ge F 85 (by omega) dX6_cell_75 (by decide) (fun c75 => ?_) (fun c75 => ?_)
    · skip
      exact absurd trivial (by omega)
    · skip
      refine g_aload_n F 1 dX6_cell_78 rfl ?_
      refine g_iload F 0 dX6_cell_79 rfl ?_
      refine g_callI F (stk := [.int (iI (-1)), .ref (ma 100)]) (st := []) (k_X6_refuse κ ma (mA M 10 (fun _ => 0)) (-1) (by omega)) cal_X6_refuse lm_X6_138 0 rfl rfl rfl rfl (by decide) rfl (Nat.le_of_ble_eq_true rfl) dX6_cell_81 (fun r81 ws81 _ hr81 => ?_)
      obtain ⟨rfl, rfl⟩ := hr81
      refine g_top (y := iI (-1)) rfl ?_
      refine g_ws (ws' := mw κ ma (mA (mA M 10 (fun _ => 0)) 11 (uI (M 11) (-(-1)) (M 11 (-(-1)) + 1)))) rfl ?_
      have hq : (-1) = qCell (M 2) c k f a := by unfold qCell; (repeat' split) <;> omega
      exact K mw_same ⟨_, rfl, iIc hq, (by rw [show eCellM M c k f a = _ from if_neg (by omega)]; exact ⟨rfl, rfl, rfl, rfl, rfl, rfl, rfl, rfl, rfl, rfl, rfl, rfl, rfl, rfl, rfl, rfl, rfl, rfl⟩), (by rw [← hq]; exact (rfa_r (by omega)).symm)⟩ rfl dX6_cell_84
theorem dX5_cell_0 : decode cX5_cell 0 = .ok (.iload_n 1, 1) := by decide +kernel
theorem dX5_cell_1 : decode cX5_cell 1 = .ok (.invokestatic 134, 3) := by decide +kernel
theorem dX5_cell_4 : decode cX5_cell 4 = .ok (.ifCond .ne 9, 3) := by decide +kernel
theorem dX5_cell_7 : decode cX5_cell 7 = .ok (.aload_n 0, 1) := by decide +kernel
theorem dX5_cell_8 : decode cX5_cell 8 = .ok (.iconst (-1), 1) := by decide +kernel
theorem dX5_cell_9 : decode cX5_cell 9 = .ok (.invokevirtual 69, 3) := by decide +kernel
theorem dX5_cell_12 : decode cX5_cell 12 = .ok (.ireturn, 1) := by decide +kernel
theorem dX5_cell_13 : decode cX5_cell 13 = .ok (.iload_n 2, 1) := by decide +kernel
theorem dX5_cell_14 : decode cX5_cell 14 = .ok (.invokestatic 137, 3) := by decide +kernel
theorem dX5_cell_17 : decode cX5_cell 17 = .ok (.ifCond .ne 10, 3) := by decide +kernel
theorem dX5_cell_20 : decode cX5_cell 20 = .ok (.aload_n 0, 1) := by decide +kernel
theorem dX5_cell_21 : decode cX5_cell 21 = .ok (.bipush (-2), 2) := by decide +kernel
theorem dX5_cell_23 : decode cX5_cell 23 = .ok (.invokevirtual 69, 3) := by decide +kernel
theorem dX5_cell_26 : decode cX5_cell 26 = .ok (.ireturn, 1) := by decide +kernel
theorem dX5_cell_27 : decode cX5_cell 27 = .ok (.iload_n 3, 1) := by decide +kernel
theorem dX5_cell_28 : decode cX5_cell 28 = .ok (.ifCond .lt 8, 3) := by decide +kernel
theorem dX5_cell_31 : decode cX5_cell 31 = .ok (.iload 4, 2) := by decide +kernel
theorem dX5_cell_33 : decode cX5_cell 33 = .ok (.ifCond .ge 10, 3) := by decide +kernel
theorem dX5_cell_36 : decode cX5_cell 36 = .ok (.aload_n 0, 1) := by decide +kernel
theorem dX5_cell_37 : decode cX5_cell 37 = .ok (.bipush (-4), 2) := by decide +kernel
theorem dX5_cell_39 : decode cX5_cell 39 = .ok (.invokevirtual 69, 3) := by decide +kernel
theorem dX5_cell_42 : decode cX5_cell 42 = .ok (.ireturn, 1) := by decide +kernel
theorem dX5_cell_43 : decode cX5_cell 43 = .ok (.iload_n 3, 1) := by decide +kernel
theorem dX5_cell_44 : decode cX5_cell 44 = .ok (.bipush 10, 2) := by decide +kernel
theorem dX5_cell_46 : decode cX5_cell 46 = .ok (.if_icmp .ge 10, 3) := by decide +kernel
theorem dX5_cell_49 : decode cX5_cell 49 = .ok (.iload 4, 2) := by decide +kernel
theorem dX5_cell_51 : decode cX5_cell 51 = .ok (.bipush 100, 2) := by decide +kernel
theorem dX5_cell_53 : decode cX5_cell 53 = .ok (.if_icmp .lt 10, 3) := by decide +kernel
theorem dX5_cell_56 : decode cX5_cell 56 = .ok (.aload_n 0, 1) := by decide +kernel
theorem dX5_cell_57 : decode cX5_cell 57 = .ok (.bipush (-6), 2) := by decide +kernel
theorem dX5_cell_59 : decode cX5_cell 59 = .ok (.invokevirtual 69, 3) := by decide +kernel
theorem dX5_cell_62 : decode cX5_cell 62 = .ok (.ireturn, 1) := by decide +kernel
theorem dX5_cell_63 : decode cX5_cell 63 = .ok (.aload_n 0, 1) := by decide +kernel
theorem dX5_cell_64 : decode cX5_cell 64 = .ok (.getfield 26, 3) := by decide +kernel
theorem dX5_cell_67 : decode cX5_cell 67 = .ok (.aload_n 0, 1) := by decide +kernel
theorem dX5_cell_68 : decode cX5_cell 68 = .ok (.getfield 10, 3) := by decide +kernel
theorem dX5_cell_71 : decode cX5_cell 71 = .ok (.aload_n 0, 1) := by decide +kernel
theorem dX5_cell_72 : decode cX5_cell 72 = .ok (.getfield 19, 3) := by decide +kernel
theorem dX5_cell_75 : decode cX5_cell 75 = .ok (.invokevirtual 196, 3) := by decide +kernel
theorem dX5_cell_78 : decode cX5_cell 78 = .ok (.aload_n 0, 1) := by decide +kernel
theorem dX5_cell_79 : decode cX5_cell 79 = .ok (.getfield 10, 3) := by decide +kernel
theorem dX5_cell_82 : decode cX5_cell 82 = .ok (.getfield 175, 3) := by decide +kernel
theorem dX5_cell_85 : decode cX5_cell 85 = .ok (.iload_n 1, 1) := by decide +kernel
theorem dX5_cell_86 : decode cX5_cell 86 = .ok (.iaload, 1) := by decide +kernel
theorem dX5_cell_87 : decode cX5_cell 87 = .ok (.istore 5, 2) := by decide +kernel
theorem dX5_cell_89 : decode cX5_cell 89 = .ok (.aload_n 0, 1) := by decide +kernel
theorem dX5_cell_90 : decode cX5_cell 90 = .ok (.getfield 10, 3) := by decide +kernel
theorem dX5_cell_93 : decode cX5_cell 93 = .ok (.iload_n 1, 1) := by decide +kernel
theorem dX5_cell_94 : decode cX5_cell 94 = .ok (.iload_n 2, 1) := by decide +kernel
theorem dX5_cell_95 : decode cX5_cell 95 = .ok (.iload_n 3, 1) := by decide +kernel
theorem dX5_cell_96 : decode cX5_cell 96 = .ok (.iload 4, 2) := by decide +kernel
theorem dX5_cell_98 : decode cX5_cell 98 = .ok (.invokevirtual 140, 3) := by decide +kernel
theorem dX5_cell_101 : decode cX5_cell 101 = .ok (.iload 5, 2) := by decide +kernel
theorem dX5_cell_103 : decode cX5_cell 103 = .ok (.ireturn, 1) := by decide +kernel
set_option maxRecDepth 100000 in
set_option maxHeartbeats 4000000 in
theorem k_X5_cell (κ : Kp) (xa : Nat → Nat → Nat) (X : XS) (c : Int) (k : Int) (f : Int) (a : Int)  (ha_c : In32 c) (ha_k : In32 k) (ha_f : In32 f) (ha_a : In32 a) (ok : okC (cl (X 0))) (h15 : (0 ≤ X 15 2 0 ∧ X 15 2 0 < 8) ∧ 0 ≤ X 15 3 0 ∧ X 15 3 0 ≤ 8) : mI κ yX5_cell cX5_cell 6 .int 4 [.ref (xa 18 100), .int (iI c), .int (iI k), .int (iI f), .int (iI a)] (xw κ xa X) (qXs κ xa (eCellX X c k f a) X (qCell (X 0 2) c k f a)) := by
  refine mI_of (by decide) (Nat.le_of_ble_eq_true rfl) (fun E F K => ?_)
  refine g_lv (lv' := [(0, .ref (xa 18 100)), (1, .int (iI c)), (2, .int (iI k)), (3, .int (iI f)), (4, .int (iI a))]) rfl ?_
  refine g_iload_n F 1 dX5_cell_0 rfl ?_
  refine g_callSI F (stk := [.int (iI c)]) (st := []) (k_X5_isCell κ (xw κ xa X) c (by omega)) cal_X5_isCell lm_X5_134 rfl (by decide) rfl (Nat.le_of_ble_eq_true rfl) dX5_cell_1 (fun r1 ws1 _ hr1 => ?_)
  obtain ⟨rfl, rfl⟩ := hr1
  refine g_if_ne F 13 (b2i_in _) dX5_cell_4 (by decide) (fun c4 => ?_) (fun c4 => ?_)
  · skip
    have c4 : 0 ≤ c ∧ c < 12 := b2i_t c4
    refine g_iload_n F 2 dX5_cell_13 rfl ?_
    refine g_callSI F (stk := [.int (iI k)]) (st := []) (k_X5_isKind κ (xw κ xa X) k (by omega)) cal_X5_isKind lm_X5_137 rfl (by decide) rfl (Nat.le_of_ble_eq_true rfl) dX5_cell_14 (fun r14 ws14 _ hr14 => ?_)
    obtain ⟨rfl, rfl⟩ := hr14
    refine g_if_ne F 27 (b2i_in _) dX5_cell_17 (by decide) (fun c17 => ?_) (fun c17 => ?_)
    · skip
      have c17 : 0 ≤ k ∧ k < 6 := b2i_t c17
      refine g_iload_n F 3 dX5_cell_27 rfl ?_
      refine g_if_lt F 36 (by omega) dX5_cell_28 (by decide) (fun c28 => ?_) (fun c28 => ?_)
      · skip
        refine g_aload_n F 0 dX5_cell_36 rfl ?_
        refine g_bipush F dX5_cell_37 (by decide +kernel) ?_
        refine g_callI F (stk := [.int (iI (-4)), .ref (xa 18 100)]) (st := []) (k_X5_refuse κ xa X (-4) (by omega)) cal_X5_refuse lm_X5_69 81 rfl rfl rfl rfl (by decide) rfl (Nat.le_of_ble_eq_true rfl) dX5_cell_39 (fun r39 ws39 _ hr39 => ?_)
        obtain ⟨rfl, rfl⟩ := hr39
        have hq : (-4) = qCell (X 0 2) c k f a := by unfold qCell; (repeat' split) <;> omega
        exact K xw_same ⟨_, rfl, iIc hq, (by rw [show eCellX X c k f a = _ from if_neg (by omega)]; exact (sX_18 sX_0 rfl rfl rfl)), (by rw [← hq]; exact (rfa_r (by omega)).symm)⟩ rfl dX5_cell_42
      · skip
        refine g_iload F 4 dX5_cell_31 rfl ?_
        refine g_if_ge F 43 (by omega) dX5_cell_33 (by decide) (fun c33 => ?_) (fun c33 => ?_)
        · skip
          refine g_iload_n F 3 dX5_cell_43 rfl ?_
          refine g_bipush F dX5_cell_44 (by decide +kernel) ?_
          refine g_icmp_ge F 56 (by omega) dX5_cell_46 (by decide) (fun c46 => ?_) (fun c46 => ?_)
          · skip
            refine g_aload_n F 0 dX5_cell_56 rfl ?_
            refine g_bipush F dX5_cell_57 (by decide +kernel) ?_
            refine g_callI F (stk := [.int (iI (-6)), .ref (xa 18 100)]) (st := []) (k_X5_refuse κ xa X (-6) (by omega)) cal_X5_refuse lm_X5_69 81 rfl rfl rfl rfl (by decide) rfl (Nat.le_of_ble_eq_true rfl) dX5_cell_59 (fun r59 ws59 _ hr59 => ?_)
            obtain ⟨rfl, rfl⟩ := hr59
            have hq : (-6) = qCell (X 0 2) c k f a := by unfold qCell; (repeat' split) <;> omega
            exact K xw_same ⟨_, rfl, iIc hq, (by rw [show eCellX X c k f a = _ from if_neg (by omega)]; exact (sX_18 sX_0 rfl rfl rfl)), (by rw [← hq]; exact (rfa_r (by omega)).symm)⟩ rfl dX5_cell_62
          · skip
            refine g_iload F 4 dX5_cell_49 rfl ?_
            refine g_bipush F dX5_cell_51 (by decide +kernel) ?_
            refine g_icmp_lt F 63 (by omega) dX5_cell_53 (by decide) (fun c53 => ?_) (fun c53 => ?_)
            · skip
              refine g_aload_n F 0 dX5_cell_63 rfl ?_
              refine g18_get_2 F  lf_X5_26 dX5_cell_64 ?_
              refine g_aload_n F 0 dX5_cell_67 rfl ?_
              refine g18_get_0 F  lf_X5_10 dX5_cell_68 ?_
              refine g_aload_n F 0 dX5_cell_71 rfl ?_
              refine g18_get_1 F  lf_X5_19 dX5_cell_72 ?_
              refine g_callNV F (stk := [.ref (xa 12 100), .ref (xa 0 100), .ref (xa 15 100)]) (st := []) (k_X1_note κ xa X (X 15 2 0) (by omega) rfl (by omega)) cal_X1_note nm_X5_196 72 rfl rfl rfl rfl (by decide) rfl (Nat.le_of_ble_eq_true rfl) dX5_cell_75 (fun ws75 _ hr75 => ?_)
              obtain rfl := hr75
              refine g_ws (ws' := xw κ xa (setO (setO (noteX X) 12 (X 12)) 0 (X 0))) (noteX_eq (by omega)) ?_
              refine g_aload_n F 0 dX5_cell_78 rfl ?_
              refine g18_get_0 F  lf_X5_10 dX5_cell_79 ?_
              refine gcS_getN_2 F (o := 0) (by decide) nf_X5_175 dX5_cell_82 ?_
              refine g_iload_n F 1 dX5_cell_85 rfl ?_
              have hkc : 0 ≤ X 0 2 c ∧ X 0 2 c ≤ 99 := ok.a c (by omega) (by omega)
              refine gcS_ald_2 F (o := 0) (by decide) (by omega) dX5_cell_86 ?_
              refine g_top (y := iI ((X 0) 2 c)) rfl ?_
              refine g_istore F (lv' := [(5, .int (iI ((X 0) 2 c))), (0, .ref (xa 18 100)), (1, .int (iI c)), (2, .int (iI k)), (3, .int (iI f)), (4, .int (iI a))]) dX5_cell_87 (by decide) rfl ?_
              refine g_aload_n F 1 dX5_cell_89 rfl ?_
              refine g18_get_0 F  lf_X5_10 dX5_cell_90 ?_
              refine g_iload_n F 2 dX5_cell_93 rfl ?_
              refine g_iload_n F 3 dX5_cell_94 rfl ?_
              refine g_iload_n F 4 dX5_cell_95 rfl ?_
              refine g_iload F 5 dX5_cell_96 rfl ?_
              refine g_callNV F (stk := [.int (iI a), .int (iI f), .int (iI k), .int (iI c), .ref (xa 0 100)]) (st := []) (kS_X0_make κ xa (setO (noteX X) 12 (X 12)) 0 (by decide) (X 0) c k f a (by omega)) cal_X0_make nm_X5_140 0 rfl rfl rfl rfl (by decide) rfl (Nat.le_of_ble_eq_true rfl) dX5_cell_98 (fun ws98 _ hr98 => ?_)
              obtain rfl := hr98
              refine g_ws (ws' := xw κ xa (setO (setO (noteX X) 12 (X 12)) 0 (stC (X 0) (make (cl (X 0)) c k f a)))) rfl ?_
              refine g_iload F 0 dX5_cell_101 rfl ?_
              have hq : (X 0) 2 c = qCell (X 0 2) c k f a := by unfold qCell; (repeat' split) <;> omega
              exact K xw_same ⟨_, rfl, iIc hq, (by rw [show eCellX X c k f a = _ from if_pos (by omega)]; exact sX_0), (by rw [← hq]; show noteX X 18 6 = _; rw [noteX_o (o := 18) (by omega) (by decide)]; exact (rfa_n (by omega)).symm)⟩ rfl dX5_cell_103
            · skip
              refine g_aload_n F 0 dX5_cell_56 rfl ?_
              refine g_bipush F dX5_cell_57 (by decide +kernel) ?_
              refine g_callI F (stk := [.int (iI (-6)), .ref (xa 18 100)]) (st := []) (k_X5_refuse κ xa X (-6) (by omega)) cal_X5_refuse lm_X5_69 81 rfl rfl rfl rfl (by decide) rfl (Nat.le_of_ble_eq_true rfl) dX5_cell_59 (fun r59 ws59 _ hr59 => ?_)
              obtain ⟨rfl, rfl⟩ := hr59
              have hq : (-6) = qCell (X 0 2) c k f a := by unfold qCell; (repeat' split) <;> omega
              exact K xw_same ⟨_, rfl, iIc hq, (by rw [show eCellX X c k f a = _ from if_neg (by omega)]; exact (sX_18 sX_0 rfl rfl rfl)), (by rw [← hq]; exact (rfa_r (by omega)).symm)⟩ rfl dX5_cell_62
        · skip
          refine g_aload_n F 0 dX5_cell_36 rfl ?_
          refine g_bipush F dX5_cell_37 (by decide +kernel) ?_
          refine g_callI F (stk := [.int (iI (-4)), .ref (xa 18 100)]) (st := []) (k_X5_refuse κ xa X (-4) (by omega)) cal_X5_refuse lm_X5_69 81 rfl rfl rfl rfl (by decide) rfl (Nat.le_of_ble_eq_true rfl) dX5_cell_39 (fun r39 ws39 _ hr39 => ?_)
          obtain ⟨rfl, rfl⟩ := hr39
          have hq : (-4) = qCell (X 0 2) c k f a := by unfold qCell; (repeat' split) <;> omega
          exact K xw_same ⟨_, rfl, iIc hq, (by rw [show eCellX X c k f a = _ from if_neg (by omega)]; exact (sX_18 sX_0 rfl rfl rfl)), (by rw [← hq]; exact (rfa_r (by omega)).symm)⟩ rfl dX5_cell_42
    · skip
      have c17 : ¬ (0 ≤ k ∧ k < 6) := b2i_f c17
      refine g_aload_n F 0 dX5_cell_20 rfl ?_
      refine g_bipush F dX5_cell_21 (by decide +kernel) ?_
      refine g_callI F (stk := [.int (iI (-2)), .ref (xa 18 100)]) (st := []) (k_X5_refuse κ xa X (-2) (by omega)) cal_X5_refuse lm_X5_69 81 rfl rfl rfl rfl (by decide) rfl (Nat.le_of_ble_eq_true rfl) dX5_cell_23 (fun r23 ws23 _ hr23 => ?_)
      obtain ⟨rfl, rfl⟩ := hr23
      have hq : (-2) = qCell (X 0 2) c k f a := by unfold qCell; (repeat' split) <;> omega
      exact K xw_same ⟨_, rfl, iIc hq, (by rw [show eCellX X c k f a = _ from if_neg (by omega)]; exact (sX_18 sX_0 rfl rfl rfl)), (by rw [← hq]; exact (rfa_r (by omega)).symm)⟩ rfl dX5_cell_26
  · skip
    have c4 : ¬ (0 ≤ c ∧ c < 12) := b2i_f c4
    refine g_aload_n F 0 dX5_cell_7 rfl ?_
    refine g_iconst F dX5_cell_8 ?_
    refine g_callI F (stk := [.int (iI (-1)), .ref (xa 18 100)]) (st := []) (k_X5_refuse κ xa X (-1) (by omega)) cal_X5_refuse lm_X5_69 81 rfl rfl rfl rfl (by decide) rfl (Nat.le_of_ble_eq_true rfl) dX5_cell_9 (fun r9 ws9 _ hr9 => ?_)
    obtain ⟨rfl, rfl⟩ := hr9
    have hq : (-1) = qCell (X 0 2) c k f a := by unfold qCell; (repeat' split) <;> omega
    exact K xw_same ⟨_, rfl, iIc hq, (by rw [show eCellX X c k f a = _ from if_neg (by omega)]; exact (sX_18 sX_0 rfl rfl rfl)), (by rw [← hq]; exact (rfa_r (by omega)).symm)⟩ rfl dX5_cell_12
def qWears (we : Int → Int) (c v : Int) : Int := if ¬ (0 ≤ c ∧ c < 12) then -1 else if v < 0 then -4 else if 99 < v then -6 else we c
abbrev okWears (c v : Int) : Prop := (0 ≤ c ∧ c < 12) ∧ 0 ≤ v ∧ v ≤ 99
def eWearsM (M : MS) (c v : Int) : MS := if okWears c v then mA (kpt M) 3 (uI (M 3) c v) else M
def eWearsX (X : XS) (c v : Int) : XS := if okWears c v then setO (setO (noteX X) 12 (X 12)) 0 (mA (X 0) 3 (uI (X 0 3) c v)) else X
theorem dX6_wears_0 : decode cX6_wears 0 = .ok (.aload_n 0, 1) := by decide +kernel
theorem dX6_wears_1 : decode cX6_wears 1 = .ok (.iconst 0, 1) := by decide +kernel
theorem dX6_wears_2 : decode cX6_wears 2 = .ok (.putfield 91, 3) := by decide +kernel
theorem dX6_wears_5 : decode cX6_wears 5 = .ok (.iload_n 1, 1) := by decide +kernel
theorem dX6_wears_6 : decode cX6_wears 6 = .ok (.invokestatic 222, 3) := by decide +kernel
theorem dX6_wears_9 : decode cX6_wears 9 = .ok (.ifCond .eq 13, 3) := by decide +kernel
theorem dX6_wears_12 : decode cX6_wears 12 = .ok (.iload_n 2, 1) := by decide +kernel
theorem dX6_wears_13 : decode cX6_wears 13 = .ok (.iconst 0, 1) := by decide +kernel
theorem dX6_wears_14 : decode cX6_wears 14 = .ok (.bipush 99, 2) := by decide +kernel
theorem dX6_wears_16 : decode cX6_wears 16 = .ok (.invokestatic 237, 3) := by decide +kernel
theorem dX6_wears_19 : decode cX6_wears 19 = .ok (.goto 4, 3) := by decide +kernel
theorem dX6_wears_22 : decode cX6_wears 22 = .ok (.iconst (-1), 1) := by decide +kernel
theorem dX6_wears_23 : decode cX6_wears 23 = .ok (.istore_n 3, 1) := by decide +kernel
theorem dX6_wears_24 : decode cX6_wears 24 = .ok (.iload_n 3, 1) := by decide +kernel
theorem dX6_wears_25 : decode cX6_wears 25 = .ok (.ifCond .ge 9, 3) := by decide +kernel
theorem dX6_wears_28 : decode cX6_wears 28 = .ok (.aload_n 0, 1) := by decide +kernel
theorem dX6_wears_29 : decode cX6_wears 29 = .ok (.iload_n 3, 1) := by decide +kernel
theorem dX6_wears_30 : decode cX6_wears 30 = .ok (.invokevirtual 138, 3) := by decide +kernel
theorem dX6_wears_33 : decode cX6_wears 33 = .ok (.ireturn, 1) := by decide +kernel
theorem dX6_wears_34 : decode cX6_wears 34 = .ok (.aload_n 0, 1) := by decide +kernel
theorem dX6_wears_35 : decode cX6_wears 35 = .ok (.invokevirtual 231, 3) := by decide +kernel
theorem dX6_wears_38 : decode cX6_wears 38 = .ok (.aload_n 0, 1) := by decide +kernel
theorem dX6_wears_39 : decode cX6_wears 39 = .ok (.getfield 19, 3) := by decide +kernel
theorem dX6_wears_42 : decode cX6_wears 42 = .ok (.iload_n 1, 1) := by decide +kernel
theorem dX6_wears_43 : decode cX6_wears 43 = .ok (.iaload, 1) := by decide +kernel
theorem dX6_wears_44 : decode cX6_wears 44 = .ok (.istore 4, 2) := by decide +kernel
theorem dX6_wears_46 : decode cX6_wears 46 = .ok (.aload_n 0, 1) := by decide +kernel
theorem dX6_wears_47 : decode cX6_wears 47 = .ok (.getfield 19, 3) := by decide +kernel
theorem dX6_wears_50 : decode cX6_wears 50 = .ok (.iload_n 1, 1) := by decide +kernel
theorem dX6_wears_51 : decode cX6_wears 51 = .ok (.iload_n 2, 1) := by decide +kernel
theorem dX6_wears_52 : decode cX6_wears 52 = .ok (.iastore, 1) := by decide +kernel
theorem dX6_wears_53 : decode cX6_wears 53 = .ok (.iload 4, 2) := by decide +kernel
theorem dX6_wears_55 : decode cX6_wears 55 = .ok (.ireturn, 1) := by decide +kernel
set_option maxRecDepth 100000 in
set_option maxHeartbeats 4000000 in
theorem k_X6_wears (κ : Kp) (ma : Nat → Nat) (M : MS) (c : Int) (v : Int)  (ha_c : In32 c) (ha_v : In32 v) (ok : okC (cl M)) (h28 : 0 ≤ M 28 0 ∧ M 28 0 ≤ 8) : mI κ yX6_wears cX6_wears 5 .int 4 [.ref (ma 100), .int (iI c), .int (iI v)] (mw κ ma M) (qMs κ ma (eWearsM M c v) M (qWears (M 3) c v)) := by
  refine mI_of (by decide) (Nat.le_of_ble_eq_true rfl) (fun E F K => ?_)
  refine g_lv (lv' := [(0, .ref (ma 100)), (1, .int (iI c)), (2, .int (iI v))]) rfl ?_
  refine g_aload_n F 0 dX6_wears_0 rfl ?_
  refine g_iconst F dX6_wears_1 ?_
  refine gm_put_10 F dX6_wears_2 ?_
  refine g_iload_n F 1 dX6_wears_5 rfl ?_
  refine g_callSI F (stk := [.int (iI c)]) (st := []) (k_X6_isCell κ (mw κ ma (mA M 10 (fun _ => 0))) c (by omega)) cal_X6_isCell lm_X6_222 rfl (by decide) rfl (Nat.le_of_ble_eq_true rfl) dX6_wears_6 (fun r6 ws6 _ hr6 => ?_)
  obtain ⟨rfl, rfl⟩ := hr6
  refine g_if_eq F 22 (b2i_in _) dX6_wears_9 (by decide) (fun c9 => ?_) (fun c9 => ?_)
  · skip
    have c9 : ¬ (0 ≤ c ∧ c < 12) := b2i_f c9
    refine g_iconst F dX6_wears_22 ?_
    refine g_istore_n F (lv' := [(3, .int (iI (-1))), (0, .ref (ma 100)), (1, .int (iI c)), (2, .int (iI v))]) 3 dX6_wears_23 rfl (by decide) rfl ?_
    refine g_iload_n F 0 dX6_wears_24 rfl ?_
    refine g_if_ge F 34 (by omega) dX6_wears_25 (by decide) (fun c25 => ?_) (fun c25 => ?_)
    · skip
      exact absurd trivial (by omega)
    · skip
      refine g_aload_n F 1 dX6_wears_28 rfl ?_
      refine g_iload_n F 0 dX6_wears_29 rfl ?_
      refine g_callI F (stk := [.int (iI (-1)), .ref (ma 100)]) (st := []) (k_X6_refuse κ ma (mA M 10 (fun _ => 0)) (-1) (by omega)) cal_X6_refuse lm_X6_138 0 rfl rfl rfl rfl (by decide) rfl (Nat.le_of_ble_eq_true rfl) dX6_wears_30 (fun r30 ws30 _ hr30 => ?_)
      obtain ⟨rfl, rfl⟩ := hr30
      refine g_top (y := iI (-1)) rfl ?_
      refine g_ws (ws' := mw κ ma (mA (mA M 10 (fun _ => 0)) 11 (uI (M 11) (-(-1)) (M 11 (-(-1)) + 1)))) rfl ?_
      have hq : (-1) = qWears (M 3) c v := by unfold qWears; (repeat' split) <;> omega
      exact K mw_same ⟨_, rfl, iIc hq, (by rw [show eWearsM M c v = _ from if_neg (by omega)]; exact ⟨rfl, rfl, rfl, rfl, rfl, rfl, rfl, rfl, rfl, rfl, rfl, rfl, rfl, rfl, rfl, rfl, rfl, rfl⟩), (by rw [← hq]; exact (rfa_r (by omega)).symm)⟩ rfl dX6_wears_33
  · skip
    have c9 : 0 ≤ c ∧ c < 12 := b2i_t c9
    refine g_iload_n F 2 dX6_wears_12 rfl ?_
    refine g_iconst F dX6_wears_13 ?_
    refine g_bipush F dX6_wears_14 (by decide +kernel) ?_
    refine g_callSI F (stk := [.int (iI 99), .int (iI 0), .int (iI v)]) (st := []) (k_X6_wrongNumber κ (mw κ ma (mA M 10 (fun _ => 0))) v 0 99 (by omega)) cal_X6_wrongNumber lm_X6_237 rfl (by decide) rfl (Nat.le_of_ble_eq_true rfl) dX6_wears_16 (fun r16 ws16 _ hr16 => ?_)
    obtain ⟨rfl, rfl⟩ := hr16
    have hwn16 := wn_spec v 0 99
    refine g_goto F 23 dX6_wears_19 (by decide) ?_
    refine g_istore_n F (lv' := [(3, .int (iI (wnum v 0 99))), (0, .ref (ma 100)), (1, .int (iI c)), (2, .int (iI v))]) 3 dX6_wears_23 rfl (by decide) rfl ?_
    refine g_iload_n F 0 dX6_wears_24 rfl ?_
    refine g_if_ge F 34 (by omega) dX6_wears_25 (by decide) (fun c25 => ?_) (fun c25 => ?_)
    · skip
      refine g_aload_n F 1 dX6_wears_34 rfl ?_
      refine g_callV F (stk := [.ref (ma 100)]) (st := []) (k_X6_keepTurn κ ma (mA M 10 (fun _ => 0)) (show 0 ≤ (M 28 0) ∧ (M 28 0) ≤ 8 from by omega)) cal_X6_keepTurn lm_X6_231 0 rfl rfl rfl rfl (by decide) rfl (Nat.le_of_ble_eq_true rfl) dX6_wears_35 (fun ws35 _ hr35 => ?_)
      obtain rfl := hr35
      refine g_ws (ws' := mw κ ma (kpt (mA M 10 (fun _ => 0)))) rfl ?_
      refine g_ws (ws' := mw κ ma (mA (kpt M) 10 (fun _ => 0))) (by rw [kpt_mA10]) ?_
      refine g_aload_n F 1 dX6_wears_38 rfl ?_
      refine gm_get_3 F dX6_wears_39 ?_
      refine g_iload_n F 2 dX6_wears_42 rfl ?_
      have hkc : 0 ≤ M 3 c ∧ M 3 c ≤ 99 := ok.w c (by omega) (by omega)
      refine gm_ald_3 F (by omega) dX6_wears_43 ?_
      refine g_top (y := iI (M 3 c)) rfl ?_
      refine g_istore F (lv' := [(4, .int (iI (M 3 c))), (3, .int (iI (wnum v 0 99))), (0, .ref (ma 100)), (1, .int (iI c)), (2, .int (iI v))]) dX6_wears_44 (by decide) rfl ?_
      refine g_aload_n F 2 dX6_wears_46 rfl ?_
      refine gm_get_3 F dX6_wears_47 ?_
      refine g_iload_n F 3 dX6_wears_50 rfl ?_
      refine g_iload_n F 4 dX6_wears_51 rfl ?_
      refine gm_ast_3 F (by omega) dX6_wears_52 ?_
      refine g_ws (ws' := mw κ ma (mA (mA (kpt M) 10 (fun _ => 0)) 3 (uI (M 3) c v))) rfl ?_
      refine g_iload F 0 dX6_wears_53 rfl ?_
      have hq : M 3 c = qWears (M 3) c v := by unfold qWears; (repeat' split) <;> omega
      exact K mw_same ⟨_, rfl, iIc hq, (by rw [show eWearsM M c v = _ from if_pos (by omega)]; exact ⟨rfl, rfl, rfl, rfl, rfl, rfl, rfl, rfl, rfl, rfl, rfl, rfl, rfl, rfl, rfl, rfl, rfl, rfl⟩), (by rw [← hq]; show M 11 = _; exact (rfa_n (by omega)).symm)⟩ rfl dX6_wears_55
    · skip
      refine g_aload_n F 1 dX6_wears_28 rfl ?_
      refine g_iload_n F 0 dX6_wears_29 rfl ?_
      refine g_callI F (stk := [.int (iI (wnum v 0 99)), .ref (ma 100)]) (st := []) (k_X6_refuse κ ma (mA M 10 (fun _ => 0)) (wnum v 0 99) (by omega)) cal_X6_refuse lm_X6_138 0 rfl rfl rfl rfl (by decide) rfl (Nat.le_of_ble_eq_true rfl) dX6_wears_30 (fun r30 ws30 _ hr30 => ?_)
      obtain ⟨rfl, rfl⟩ := hr30
      refine g_top (y := iI (wnum v 0 99)) rfl ?_
      refine g_ws (ws' := mw κ ma (mA (mA M 10 (fun _ => 0)) 11 (uI (M 11) (-(wnum v 0 99)) (M 11 (-(wnum v 0 99)) + 1)))) rfl ?_
      have hq : (wnum v 0 99) = qWears (M 3) c v := by unfold qWears; (repeat' split) <;> omega
      exact K mw_same ⟨_, rfl, iIc hq, (by rw [show eWearsM M c v = _ from if_neg (by omega)]; exact ⟨rfl, rfl, rfl, rfl, rfl, rfl, rfl, rfl, rfl, rfl, rfl, rfl, rfl, rfl, rfl, rfl, rfl, rfl⟩), (by rw [← hq]; exact (rfa_r (by omega)).symm)⟩ rfl dX6_wears_33
theorem dX5_wears_0 : decode cX5_wears 0 = .ok (.iload_n 1, 1) := by decide +kernel
theorem dX5_wears_1 : decode cX5_wears 1 = .ok (.invokestatic 134, 3) := by decide +kernel
theorem dX5_wears_4 : decode cX5_wears 4 = .ok (.ifCond .ne 9, 3) := by decide +kernel
theorem dX5_wears_7 : decode cX5_wears 7 = .ok (.aload_n 0, 1) := by decide +kernel
theorem dX5_wears_8 : decode cX5_wears 8 = .ok (.iconst (-1), 1) := by decide +kernel
theorem dX5_wears_9 : decode cX5_wears 9 = .ok (.invokevirtual 69, 3) := by decide +kernel
theorem dX5_wears_12 : decode cX5_wears 12 = .ok (.ireturn, 1) := by decide +kernel
theorem dX5_wears_13 : decode cX5_wears 13 = .ok (.iload_n 2, 1) := by decide +kernel
theorem dX5_wears_14 : decode cX5_wears 14 = .ok (.ifCond .ge 10, 3) := by decide +kernel
theorem dX5_wears_17 : decode cX5_wears 17 = .ok (.aload_n 0, 1) := by decide +kernel
theorem dX5_wears_18 : decode cX5_wears 18 = .ok (.bipush (-4), 2) := by decide +kernel
theorem dX5_wears_20 : decode cX5_wears 20 = .ok (.invokevirtual 69, 3) := by decide +kernel
theorem dX5_wears_23 : decode cX5_wears 23 = .ok (.ireturn, 1) := by decide +kernel
theorem dX5_wears_24 : decode cX5_wears 24 = .ok (.iload_n 2, 1) := by decide +kernel
theorem dX5_wears_25 : decode cX5_wears 25 = .ok (.bipush 99, 2) := by decide +kernel
theorem dX5_wears_27 : decode cX5_wears 27 = .ok (.if_icmp .le 10, 3) := by decide +kernel
theorem dX5_wears_30 : decode cX5_wears 30 = .ok (.aload_n 0, 1) := by decide +kernel
theorem dX5_wears_31 : decode cX5_wears 31 = .ok (.bipush (-6), 2) := by decide +kernel
theorem dX5_wears_33 : decode cX5_wears 33 = .ok (.invokevirtual 69, 3) := by decide +kernel
theorem dX5_wears_36 : decode cX5_wears 36 = .ok (.ireturn, 1) := by decide +kernel
theorem dX5_wears_37 : decode cX5_wears 37 = .ok (.aload_n 0, 1) := by decide +kernel
theorem dX5_wears_38 : decode cX5_wears 38 = .ok (.getfield 26, 3) := by decide +kernel
theorem dX5_wears_41 : decode cX5_wears 41 = .ok (.aload_n 0, 1) := by decide +kernel
theorem dX5_wears_42 : decode cX5_wears 42 = .ok (.getfield 10, 3) := by decide +kernel
theorem dX5_wears_45 : decode cX5_wears 45 = .ok (.aload_n 0, 1) := by decide +kernel
theorem dX5_wears_46 : decode cX5_wears 46 = .ok (.getfield 19, 3) := by decide +kernel
theorem dX5_wears_49 : decode cX5_wears 49 = .ok (.invokevirtual 196, 3) := by decide +kernel
theorem dX5_wears_52 : decode cX5_wears 52 = .ok (.aload_n 0, 1) := by decide +kernel
theorem dX5_wears_53 : decode cX5_wears 53 = .ok (.getfield 10, 3) := by decide +kernel
theorem dX5_wears_56 : decode cX5_wears 56 = .ok (.getfield 160, 3) := by decide +kernel
theorem dX5_wears_59 : decode cX5_wears 59 = .ok (.iload_n 1, 1) := by decide +kernel
theorem dX5_wears_60 : decode cX5_wears 60 = .ok (.iaload, 1) := by decide +kernel
theorem dX5_wears_61 : decode cX5_wears 61 = .ok (.istore_n 3, 1) := by decide +kernel
theorem dX5_wears_62 : decode cX5_wears 62 = .ok (.aload_n 0, 1) := by decide +kernel
theorem dX5_wears_63 : decode cX5_wears 63 = .ok (.getfield 10, 3) := by decide +kernel
theorem dX5_wears_66 : decode cX5_wears 66 = .ok (.getfield 160, 3) := by decide +kernel
theorem dX5_wears_69 : decode cX5_wears 69 = .ok (.iload_n 1, 1) := by decide +kernel
theorem dX5_wears_70 : decode cX5_wears 70 = .ok (.iload_n 2, 1) := by decide +kernel
theorem dX5_wears_71 : decode cX5_wears 71 = .ok (.iastore, 1) := by decide +kernel
theorem dX5_wears_72 : decode cX5_wears 72 = .ok (.iload_n 3, 1) := by decide +kernel
theorem dX5_wears_73 : decode cX5_wears 73 = .ok (.ireturn, 1) := by decide +kernel
set_option maxRecDepth 100000 in
set_option maxHeartbeats 4000000 in
theorem k_X5_wears (κ : Kp) (xa : Nat → Nat → Nat) (X : XS) (c : Int) (v : Int)  (ha_c : In32 c) (ha_v : In32 v) (ok : okC (cl (X 0))) (h15 : (0 ≤ X 15 2 0 ∧ X 15 2 0 < 8) ∧ 0 ≤ X 15 3 0 ∧ X 15 3 0 ≤ 8) : mI κ yX5_wears cX5_wears 4 .int 4 [.ref (xa 18 100), .int (iI c), .int (iI v)] (xw κ xa X) (qXs κ xa (eWearsX X c v) X (qWears (X 0 3) c v)) := by
  refine mI_of (by decide) (Nat.le_of_ble_eq_true rfl) (fun E F K => ?_)
  refine g_lv (lv' := [(0, .ref (xa 18 100)), (1, .int (iI c)), (2, .int (iI v))]) rfl ?_
  refine g_iload_n F 1 dX5_wears_0 rfl ?_
  refine g_callSI F (stk := [.int (iI c)]) (st := []) (k_X5_isCell κ (xw κ xa X) c (by omega)) cal_X5_isCell lm_X5_134 rfl (by decide) rfl (Nat.le_of_ble_eq_true rfl) dX5_wears_1 (fun r1 ws1 _ hr1 => ?_)
  obtain ⟨rfl, rfl⟩ := hr1
  refine g_if_ne F 13 (b2i_in _) dX5_wears_4 (by decide) (fun c4 => ?_) (fun c4 => ?_)
  · skip
    have c4 : 0 ≤ c ∧ c < 12 := b2i_t c4
    refine g_iload_n F 2 dX5_wears_13 rfl ?_
    refine g_if_ge F 24 (by omega) dX5_wears_14 (by decide) (fun c14 => ?_) (fun c14 => ?_)
    · skip
      refine g_iload_n F 2 dX5_wears_24 rfl ?_
      refine g_bipush F dX5_wears_25 (by decide +kernel) ?_
      refine g_icmp_le F 37 (by omega) dX5_wears_27 (by decide) (fun c27 => ?_) (fun c27 => ?_)
      · skip
        refine g_aload_n F 0 dX5_wears_37 rfl ?_
        refine g18_get_2 F  lf_X5_26 dX5_wears_38 ?_
        refine g_aload_n F 0 dX5_wears_41 rfl ?_
        refine g18_get_0 F  lf_X5_10 dX5_wears_42 ?_
        refine g_aload_n F 0 dX5_wears_45 rfl ?_
        refine g18_get_1 F  lf_X5_19 dX5_wears_46 ?_
        refine g_callNV F (stk := [.ref (xa 12 100), .ref (xa 0 100), .ref (xa 15 100)]) (st := []) (k_X1_note κ xa X (X 15 2 0) (by omega) rfl (by omega)) cal_X1_note nm_X5_196 72 rfl rfl rfl rfl (by decide) rfl (Nat.le_of_ble_eq_true rfl) dX5_wears_49 (fun ws49 _ hr49 => ?_)
        obtain rfl := hr49
        refine g_ws (ws' := xw κ xa (setO (setO (noteX X) 12 (X 12)) 0 (X 0))) (noteX_eq (by omega)) ?_
        refine g_aload_n F 0 dX5_wears_52 rfl ?_
        refine g18_get_0 F  lf_X5_10 dX5_wears_53 ?_
        refine gcS_getN_3 F (o := 0) (by decide) nf_X5_160 dX5_wears_56 ?_
        refine g_iload_n F 1 dX5_wears_59 rfl ?_
        have hkc : 0 ≤ X 0 3 c ∧ X 0 3 c ≤ 99 := ok.w c (by omega) (by omega)
        refine gcS_ald_3 F (o := 0) (by decide) (by omega) dX5_wears_60 ?_
        refine g_top (y := iI ((X 0) 3 c)) rfl ?_
        refine g_istore_n F (lv' := [(3, .int (iI ((X 0) 3 c))), (0, .ref (xa 18 100)), (1, .int (iI c)), (2, .int (iI v))]) 3 dX5_wears_61 rfl (by decide) rfl ?_
        refine g_aload_n F 1 dX5_wears_62 rfl ?_
        refine g18_get_0 F  lf_X5_10 dX5_wears_63 ?_
        refine gcS_getN_3 F (o := 0) (by decide) nf_X5_160 dX5_wears_66 ?_
        refine g_iload_n F 2 dX5_wears_69 rfl ?_
        refine g_iload_n F 3 dX5_wears_70 rfl ?_
        refine gcS_ast_3 F (o := 0) (by decide) (by omega) dX5_wears_71 ?_
        refine g_iload_n F 0 dX5_wears_72 rfl ?_
        have hq : (X 0) 3 c = qWears (X 0 3) c v := by unfold qWears; (repeat' split) <;> omega
        exact K xw_same ⟨_, rfl, iIc hq, (by rw [show eWearsX X c v = _ from if_pos (by omega)]; exact sX_0), (by rw [← hq]; show noteX X 18 6 = _; rw [noteX_o (o := 18) (by omega) (by decide)]; exact (rfa_n (by omega)).symm)⟩ rfl dX5_wears_73
      · skip
        refine g_aload_n F 0 dX5_wears_30 rfl ?_
        refine g_bipush F dX5_wears_31 (by decide +kernel) ?_
        refine g_callI F (stk := [.int (iI (-6)), .ref (xa 18 100)]) (st := []) (k_X5_refuse κ xa X (-6) (by omega)) cal_X5_refuse lm_X5_69 81 rfl rfl rfl rfl (by decide) rfl (Nat.le_of_ble_eq_true rfl) dX5_wears_33 (fun r33 ws33 _ hr33 => ?_)
        obtain ⟨rfl, rfl⟩ := hr33
        have hq : (-6) = qWears (X 0 3) c v := by unfold qWears; (repeat' split) <;> omega
        exact K xw_same ⟨_, rfl, iIc hq, (by rw [show eWearsX X c v = _ from if_neg (by omega)]; exact (sX_18 sX_0 rfl rfl rfl)), (by rw [← hq]; exact (rfa_r (by omega)).symm)⟩ rfl dX5_wears_36
    · skip
      refine g_aload_n F 0 dX5_wears_17 rfl ?_
      refine g_bipush F dX5_wears_18 (by decide +kernel) ?_
      refine g_callI F (stk := [.int (iI (-4)), .ref (xa 18 100)]) (st := []) (k_X5_refuse κ xa X (-4) (by omega)) cal_X5_refuse lm_X5_69 81 rfl rfl rfl rfl (by decide) rfl (Nat.le_of_ble_eq_true rfl) dX5_wears_20 (fun r20 ws20 _ hr20 => ?_)
      obtain ⟨rfl, rfl⟩ := hr20
      have hq : (-4) = qWears (X 0 3) c v := by unfold qWears; (repeat' split) <;> omega
      exact K xw_same ⟨_, rfl, iIc hq, (by rw [show eWearsX X c v = _ from if_neg (by omega)]; exact (sX_18 sX_0 rfl rfl rfl)), (by rw [← hq]; exact (rfa_r (by omega)).symm)⟩ rfl dX5_wears_23
  · skip
    have c4 : ¬ (0 ≤ c ∧ c < 12) := b2i_f c4
    refine g_aload_n F 0 dX5_wears_7 rfl ?_
    refine g_iconst F dX5_wears_8 ?_
    refine g_callI F (stk := [.int (iI (-1)), .ref (xa 18 100)]) (st := []) (k_X5_refuse κ xa X (-1) (by omega)) cal_X5_refuse lm_X5_69 81 rfl rfl rfl rfl (by decide) rfl (Nat.le_of_ble_eq_true rfl) dX5_wears_9 (fun r9 ws9 _ hr9 => ?_)
    obtain ⟨rfl, rfl⟩ := hr9
    have hq : (-1) = qWears (X 0 3) c v := by unfold qWears; (repeat' split) <;> omega
    exact K xw_same ⟨_, rfl, iIc hq, (by rw [show eWearsX X c v = _ from if_neg (by omega)]; exact (sX_18 sX_0 rfl rfl rfl)), (by rw [← hq]; exact (rfa_r (by omega)).symm)⟩ rfl dX5_wears_12
def qYears (C : Cl) (n : Int) : Int := if n < 1 then -4 else if 60 < n ∨ 999 < yr C + n then -6 else pcnt (hbits (goI n C))
abbrev okYears (y n : Int) : Prop := (1 ≤ n ∧ n ≤ 60) ∧ y + n ≤ 999
def eYearsM (M : MS) (n : Int) : MS := if okYears (M 4 0) n then stC (kpt M) (goI n (cl M)) else M
def eYearsX (X : XS) (n : Int) : XS := if okYears (X 0 4 0) n then setO (setO (noteX X) 12 (X 12)) 0 (stC (X 0) (goI n (cl (X 0)))) else X
theorem dX6_years_0 : decode cX6_years 0 = .ok (.aload_n 0, 1) := by decide +kernel
theorem dX6_years_1 : decode cX6_years 1 = .ok (.iconst 0, 1) := by decide +kernel
theorem dX6_years_2 : decode cX6_years 2 = .ok (.putfield 91, 3) := by decide +kernel
theorem dX6_years_5 : decode cX6_years 5 = .ok (.iload_n 1, 1) := by decide +kernel
theorem dX6_years_6 : decode cX6_years 6 = .ok (.iconst 1, 1) := by decide +kernel
theorem dX6_years_7 : decode cX6_years 7 = .ok (.bipush 60, 2) := by decide +kernel
theorem dX6_years_9 : decode cX6_years 9 = .ok (.invokestatic 237, 3) := by decide +kernel
theorem dX6_years_12 : decode cX6_years 12 = .ok (.istore_n 2, 1) := by decide +kernel
theorem dX6_years_13 : decode cX6_years 13 = .ok (.iload_n 2, 1) := by decide +kernel
theorem dX6_years_14 : decode cX6_years 14 = .ok (.ifCond .ne 20, 3) := by decide +kernel
theorem dX6_years_17 : decode cX6_years 17 = .ok (.aload_n 0, 1) := by decide +kernel
theorem dX6_years_18 : decode cX6_years 18 = .ok (.getfield 125, 3) := by decide +kernel
theorem dX6_years_21 : decode cX6_years 21 = .ok (.iload_n 1, 1) := by decide +kernel
theorem dX6_years_22 : decode cX6_years 22 = .ok (.iadd, 1) := by decide +kernel
theorem dX6_years_23 : decode cX6_years 23 = .ok (.sipush 999, 3) := by decide +kernel
theorem dX6_years_26 : decode cX6_years 26 = .ok (.if_icmp .le 8, 3) := by decide +kernel
theorem dX6_years_29 : decode cX6_years 29 = .ok (.bipush (-6), 2) := by decide +kernel
theorem dX6_years_31 : decode cX6_years 31 = .ok (.goto 4, 3) := by decide +kernel
theorem dX6_years_34 : decode cX6_years 34 = .ok (.iload_n 2, 1) := by decide +kernel
theorem dX6_years_35 : decode cX6_years 35 = .ok (.istore_n 2, 1) := by decide +kernel
theorem dX6_years_36 : decode cX6_years 36 = .ok (.iload_n 2, 1) := by decide +kernel
theorem dX6_years_37 : decode cX6_years 37 = .ok (.ifCond .ge 9, 3) := by decide +kernel
theorem dX6_years_40 : decode cX6_years 40 = .ok (.aload_n 0, 1) := by decide +kernel
theorem dX6_years_41 : decode cX6_years 41 = .ok (.iload_n 2, 1) := by decide +kernel
theorem dX6_years_42 : decode cX6_years 42 = .ok (.invokevirtual 138, 3) := by decide +kernel
theorem dX6_years_45 : decode cX6_years 45 = .ok (.ireturn, 1) := by decide +kernel
theorem dX6_years_46 : decode cX6_years 46 = .ok (.aload_n 0, 1) := by decide +kernel
theorem dX6_years_47 : decode cX6_years 47 = .ok (.invokevirtual 231, 3) := by decide +kernel
theorem dX6_years_50 : decode cX6_years 50 = .ok (.aload_n 0, 1) := by decide +kernel
theorem dX6_years_51 : decode cX6_years 51 = .ok (.iload_n 1, 1) := by decide +kernel
theorem dX6_years_52 : decode cX6_years 52 = .ok (.invokevirtual 184, 3) := by decide +kernel
theorem dX6_years_55 : decode cX6_years 55 = .ok (.aload_n 0, 1) := by decide +kernel
theorem dX6_years_56 : decode cX6_years 56 = .ok (.invokevirtual 241, 3) := by decide +kernel
theorem dX6_years_59 : decode cX6_years 59 = .ok (.invokestatic 244, 3) := by decide +kernel
theorem dX6_years_62 : decode cX6_years 62 = .ok (.ireturn, 1) := by decide +kernel
set_option maxRecDepth 100000 in
set_option maxHeartbeats 4000000 in
theorem k_X6_years (κ : Kp) (ma : Nat → Nat) (M : MS) (n : Int)  (ha_n : In32 n) (ok : okC (cl M)) (hy : M 4 0 ≤ 999) (h28 : 0 ≤ M 28 0 ∧ M 28 0 ≤ 8) : mI κ yX6_years cX6_years 3 .int 5 [.ref (ma 100), .int (iI n)] (mw κ ma M) (qMs κ ma (eYearsM M n) M (qYears (cl M) n)) := by
  refine mI_of (by decide) (Nat.le_of_ble_eq_true rfl) (fun E F K => ?_)
  refine g_lv (lv' := [(0, .ref (ma 100)), (1, .int (iI n))]) rfl ?_
  refine g_aload_n F 0 dX6_years_0 rfl ?_
  refine g_iconst F dX6_years_1 ?_
  refine gm_put_10 F dX6_years_2 ?_
  have hy0 : 0 ≤ M 4 0 := ok.2
  have hye : yr (cl M) = M 4 0 := rfl
  have hpb := pcnt_bd (hbits (goI n (cl M)))
  refine g_iload_n F 1 dX6_years_5 rfl ?_
  refine g_iconst F dX6_years_6 ?_
  refine g_bipush F dX6_years_7 (by decide +kernel) ?_
  refine g_callSI F (stk := [.int (iI 60), .int (iI 1), .int (iI n)]) (st := []) (k_X6_wrongNumber κ (mw κ ma (mA M 10 (fun _ => 0))) n 1 60 (by omega)) cal_X6_wrongNumber lm_X6_237 rfl (by decide) rfl (Nat.le_of_ble_eq_true rfl) dX6_years_9 (fun r9 ws9 _ hr9 => ?_)
  obtain ⟨rfl, rfl⟩ := hr9
  have hwn9 := wn_spec n 1 60
  refine g_istore_n F (lv' := [(2, .int (iI (wnum n 1 60))), (0, .ref (ma 100)), (1, .int (iI n))]) 2 dX6_years_12 rfl (by decide) rfl ?_
  refine g_iload_n F 0 dX6_years_13 rfl ?_
  refine g_if_ne F 34 (by omega) dX6_years_14 (by decide) (fun c14 => ?_) (fun c14 => ?_)
  · skip
    refine g_iload_n F 0 dX6_years_34 rfl ?_
    refine g_istore_n F (lv' := [(2, .int (iI (wnum n 1 60))), (0, .ref (ma 100)), (1, .int (iI n))]) 2 dX6_years_35 rfl (by decide) rfl ?_
    refine g_iload_n F 0 dX6_years_36 rfl ?_
    refine g_if_ge F 46 (by omega) dX6_years_37 (by decide) (fun c37 => ?_) (fun c37 => ?_)
    · skip
      refine g_aload_n F 1 dX6_years_46 rfl ?_
      refine g_callV F (stk := [.ref (ma 100)]) (st := []) (k_X6_keepTurn κ ma (mA M 10 (fun _ => 0)) (show 0 ≤ (M 28 0) ∧ (M 28 0) ≤ 8 from by omega)) cal_X6_keepTurn lm_X6_231 0 rfl rfl rfl rfl (by decide) rfl (Nat.le_of_ble_eq_true rfl) dX6_years_47 (fun ws47 _ hr47 => ?_)
      obtain rfl := hr47
      refine g_ws (ws' := mw κ ma (kpt (mA M 10 (fun _ => 0)))) rfl ?_
      refine g_ws (ws' := mw κ ma (mA (kpt M) 10 (fun _ => 0))) (by rw [kpt_mA10]) ?_
      refine g_aload_n F 1 dX6_years_50 rfl ?_
      refine g_iload_n F 2 dX6_years_51 rfl ?_
      refine g_callV F (stk := [.int (iI n), .ref (ma 100)]) (st := []) (k_X6_goYears κ ma (mA (kpt M) 10 (fun _ => 0)) n (show (0 ≤ n ∧ n ≤ 1000) ∧ (M 4 0) + n ≤ 1000000 from by omega) ok) cal_X6_goYears lm_X6_184 0 rfl rfl rfl rfl (by decide) rfl (Nat.le_of_ble_eq_true rfl) dX6_years_52 (fun ws52 _ hr52 => ?_)
      obtain rfl := hr52
      refine g_ws (ws' := mw κ ma (stC (mA (kpt M) 10 (fun _ => 0)) (goI n (cl M)))) rfl ?_
      refine g_aload_n F 1 dX6_years_55 rfl ?_
      refine g_callI F (stk := [.ref (ma 100)]) (st := []) (k_X6_holeBits κ ma (stC (mA (kpt M) 10 (fun _ => 0)) (goI n (cl M))) (goI_ok ok n)) cal_X6_holeBits lm_X6_241 0 rfl rfl rfl rfl (by decide) rfl (Nat.le_of_ble_eq_true rfl) dX6_years_56 (fun r56 ws56 _ hr56 => ?_)
      obtain ⟨rfl, rfl⟩ := hr56
      refine g_top (y := iI (hbits (goI n (cl M)))) rfl ?_
      refine g_callSI F (stk := [.int (iI (hbits (goI n (cl M))))]) (st := []) (k_X6_onesOf κ (mw κ ma (stC (mA (kpt M) 10 (fun _ => 0)) (goI n (cl M)))) (hbits (goI n (cl M))) (hbits_in _)) cal_X6_onesOf lm_X6_244 rfl (by decide) rfl (Nat.le_of_ble_eq_true rfl) dX6_years_59 (fun r59 ws59 _ hr59 => ?_)
      obtain ⟨rfl, rfl⟩ := hr59
      have hq : pcnt (hbits (goI n (cl M))) = qYears (cl M) n := by unfold qYears; (repeat' split) <;> omega
      exact K mw_same ⟨_, rfl, iIc hq, (by rw [show eYearsM M n = _ from if_pos (by omega)]; exact ⟨rfl, rfl, rfl, rfl, rfl, rfl, rfl, rfl, rfl, rfl, rfl, rfl, rfl, rfl, rfl, rfl, rfl, rfl⟩), (by rw [← hq]; show M 11 = _; exact (rfa_n (by omega)).symm)⟩ rfl dX6_years_62
    · skip
      refine g_aload_n F 1 dX6_years_40 rfl ?_
      refine g_iload_n F 0 dX6_years_41 rfl ?_
      refine g_callI F (stk := [.int (iI (wnum n 1 60)), .ref (ma 100)]) (st := []) (k_X6_refuse κ ma (mA M 10 (fun _ => 0)) (wnum n 1 60) (by omega)) cal_X6_refuse lm_X6_138 0 rfl rfl rfl rfl (by decide) rfl (Nat.le_of_ble_eq_true rfl) dX6_years_42 (fun r42 ws42 _ hr42 => ?_)
      obtain ⟨rfl, rfl⟩ := hr42
      refine g_top (y := iI (wnum n 1 60)) rfl ?_
      refine g_ws (ws' := mw κ ma (mA (mA M 10 (fun _ => 0)) 11 (uI (M 11) (-(wnum n 1 60)) (M 11 (-(wnum n 1 60)) + 1)))) rfl ?_
      have hq : (wnum n 1 60) = qYears (cl M) n := by unfold qYears; (repeat' split) <;> omega
      exact K mw_same ⟨_, rfl, iIc hq, (by rw [show eYearsM M n = _ from if_neg (by omega)]; exact ⟨rfl, rfl, rfl, rfl, rfl, rfl, rfl, rfl, rfl, rfl, rfl, rfl, rfl, rfl, rfl, rfl, rfl, rfl⟩), (by rw [← hq]; exact (rfa_r (by omega)).symm)⟩ rfl dX6_years_45
  · skip
    refine g_aload_n F 1 dX6_years_17 rfl ?_
    refine gm_get_4 F dX6_years_18 ?_
    refine g_top (y := iI (M 4 0)) rfl ?_
    refine g_iload_n F 2 dX6_years_21 rfl ?_
    refine g_iadd F dX6_years_22 ?_
    refine g_sipush F dX6_years_23 (by decide +kernel) ?_
    refine g_icmp_le F 34 (by omega) dX6_years_26 (by decide) (fun c26 => ?_) (fun c26 => ?_)
    · skip
      refine g_iload_n F 0 dX6_years_34 rfl ?_
      refine g_istore_n F (lv' := [(2, .int (iI (wnum n 1 60))), (0, .ref (ma 100)), (1, .int (iI n))]) 2 dX6_years_35 rfl (by decide) rfl ?_
      refine g_iload_n F 0 dX6_years_36 rfl ?_
      refine g_if_ge F 46 (by omega) dX6_years_37 (by decide) (fun c37 => ?_) (fun c37 => ?_)
      · skip
        refine g_aload_n F 1 dX6_years_46 rfl ?_
        refine g_callV F (stk := [.ref (ma 100)]) (st := []) (k_X6_keepTurn κ ma (mA M 10 (fun _ => 0)) (show 0 ≤ (M 28 0) ∧ (M 28 0) ≤ 8 from by omega)) cal_X6_keepTurn lm_X6_231 0 rfl rfl rfl rfl (by decide) rfl (Nat.le_of_ble_eq_true rfl) dX6_years_47 (fun ws47 _ hr47 => ?_)
        obtain rfl := hr47
        refine g_ws (ws' := mw κ ma (kpt (mA M 10 (fun _ => 0)))) rfl ?_
        refine g_ws (ws' := mw κ ma (mA (kpt M) 10 (fun _ => 0))) (by rw [kpt_mA10]) ?_
        refine g_aload_n F 1 dX6_years_50 rfl ?_
        refine g_iload_n F 2 dX6_years_51 rfl ?_
        refine g_callV F (stk := [.int (iI n), .ref (ma 100)]) (st := []) (k_X6_goYears κ ma (mA (kpt M) 10 (fun _ => 0)) n (show (0 ≤ n ∧ n ≤ 1000) ∧ (M 4 0) + n ≤ 1000000 from by omega) ok) cal_X6_goYears lm_X6_184 0 rfl rfl rfl rfl (by decide) rfl (Nat.le_of_ble_eq_true rfl) dX6_years_52 (fun ws52 _ hr52 => ?_)
        obtain rfl := hr52
        refine g_ws (ws' := mw κ ma (stC (mA (kpt M) 10 (fun _ => 0)) (goI n (cl M)))) rfl ?_
        refine g_aload_n F 1 dX6_years_55 rfl ?_
        refine g_callI F (stk := [.ref (ma 100)]) (st := []) (k_X6_holeBits κ ma (stC (mA (kpt M) 10 (fun _ => 0)) (goI n (cl M))) (goI_ok ok n)) cal_X6_holeBits lm_X6_241 0 rfl rfl rfl rfl (by decide) rfl (Nat.le_of_ble_eq_true rfl) dX6_years_56 (fun r56 ws56 _ hr56 => ?_)
        obtain ⟨rfl, rfl⟩ := hr56
        refine g_top (y := iI (hbits (goI n (cl M)))) rfl ?_
        refine g_callSI F (stk := [.int (iI (hbits (goI n (cl M))))]) (st := []) (k_X6_onesOf κ (mw κ ma (stC (mA (kpt M) 10 (fun _ => 0)) (goI n (cl M)))) (hbits (goI n (cl M))) (hbits_in _)) cal_X6_onesOf lm_X6_244 rfl (by decide) rfl (Nat.le_of_ble_eq_true rfl) dX6_years_59 (fun r59 ws59 _ hr59 => ?_)
        obtain ⟨rfl, rfl⟩ := hr59
        have hq : pcnt (hbits (goI n (cl M))) = qYears (cl M) n := by unfold qYears; (repeat' split) <;> omega
        exact K mw_same ⟨_, rfl, iIc hq, (by rw [show eYearsM M n = _ from if_pos (by omega)]; exact ⟨rfl, rfl, rfl, rfl, rfl, rfl, rfl, rfl, rfl, rfl, rfl, rfl, rfl, rfl, rfl, rfl, rfl, rfl⟩), (by rw [← hq]; show M 11 = _; exact (rfa_n (by omega)).symm)⟩ rfl dX6_years_62
      · skip
        exact absurd trivial (by omega)
    · skip
      refine g_bipush F dX6_years_29 (by decide +kernel) ?_
      refine g_goto F 35 dX6_years_31 (by decide) ?_
      refine g_istore_n F (lv' := [(2, .int (iI (-6))), (0, .ref (ma 100)), (1, .int (iI n))]) 2 dX6_years_35 rfl (by decide) rfl ?_
      refine g_iload_n F 0 dX6_years_36 rfl ?_
      refine g_if_ge F 46 (by omega) dX6_years_37 (by decide) (fun c37 => ?_) (fun c37 => ?_)
      · skip
        exact absurd trivial (by omega)
      · skip
        refine g_aload_n F 1 dX6_years_40 rfl ?_
        refine g_iload_n F 0 dX6_years_41 rfl ?_
        refine g_callI F (stk := [.int (iI (-6)), .ref (ma 100)]) (st := []) (k_X6_refuse κ ma (mA M 10 (fun _ => 0)) (-6) (by omega)) cal_X6_refuse lm_X6_138 0 rfl rfl rfl rfl (by decide) rfl (Nat.le_of_ble_eq_true rfl) dX6_years_42 (fun r42 ws42 _ hr42 => ?_)
        obtain ⟨rfl, rfl⟩ := hr42
        refine g_top (y := iI (-6)) rfl ?_
        refine g_ws (ws' := mw κ ma (mA (mA M 10 (fun _ => 0)) 11 (uI (M 11) (-(-6)) (M 11 (-(-6)) + 1)))) rfl ?_
        have hq : (-6) = qYears (cl M) n := by unfold qYears; (repeat' split) <;> omega
        exact K mw_same ⟨_, rfl, iIc hq, (by rw [show eYearsM M n = _ from if_neg (by omega)]; exact ⟨rfl, rfl, rfl, rfl, rfl, rfl, rfl, rfl, rfl, rfl, rfl, rfl, rfl, rfl, rfl, rfl, rfl, rfl⟩), (by rw [← hq]; exact (rfa_r (by omega)).symm)⟩ rfl dX6_years_45
theorem dX5_years_0 : decode cX5_years 0 = .ok (.iload_n 1, 1) := by decide +kernel
theorem dX5_years_1 : decode cX5_years 1 = .ok (.iconst 1, 1) := by decide +kernel
theorem dX5_years_2 : decode cX5_years 2 = .ok (.if_icmp .ge 10, 3) := by decide +kernel
theorem dX5_years_5 : decode cX5_years 5 = .ok (.aload_n 0, 1) := by decide +kernel
theorem dX5_years_6 : decode cX5_years 6 = .ok (.bipush (-4), 2) := by decide +kernel
theorem dX5_years_8 : decode cX5_years 8 = .ok (.invokevirtual 69, 3) := by decide +kernel
theorem dX5_years_11 : decode cX5_years 11 = .ok (.ireturn, 1) := by decide +kernel
theorem dX5_years_12 : decode cX5_years 12 = .ok (.iload_n 1, 1) := by decide +kernel
theorem dX5_years_13 : decode cX5_years 13 = .ok (.bipush 60, 2) := by decide +kernel
theorem dX5_years_15 : decode cX5_years 15 = .ok (.if_icmp .gt 18, 3) := by decide +kernel
theorem dX5_years_18 : decode cX5_years 18 = .ok (.aload_n 0, 1) := by decide +kernel
theorem dX5_years_19 : decode cX5_years 19 = .ok (.getfield 10, 3) := by decide +kernel
theorem dX5_years_22 : decode cX5_years 22 = .ok (.getfield 163, 3) := by decide +kernel
theorem dX5_years_25 : decode cX5_years 25 = .ok (.iload_n 1, 1) := by decide +kernel
theorem dX5_years_26 : decode cX5_years 26 = .ok (.iadd, 1) := by decide +kernel
theorem dX5_years_27 : decode cX5_years 27 = .ok (.sipush 999, 3) := by decide +kernel
theorem dX5_years_30 : decode cX5_years 30 = .ok (.if_icmp .le 10, 3) := by decide +kernel
theorem dX5_years_33 : decode cX5_years 33 = .ok (.aload_n 0, 1) := by decide +kernel
theorem dX5_years_34 : decode cX5_years 34 = .ok (.bipush (-6), 2) := by decide +kernel
theorem dX5_years_36 : decode cX5_years 36 = .ok (.invokevirtual 69, 3) := by decide +kernel
theorem dX5_years_39 : decode cX5_years 39 = .ok (.ireturn, 1) := by decide +kernel
theorem dX5_years_40 : decode cX5_years 40 = .ok (.aload_n 0, 1) := by decide +kernel
theorem dX5_years_41 : decode cX5_years 41 = .ok (.getfield 26, 3) := by decide +kernel
theorem dX5_years_44 : decode cX5_years 44 = .ok (.aload_n 0, 1) := by decide +kernel
theorem dX5_years_45 : decode cX5_years 45 = .ok (.getfield 10, 3) := by decide +kernel
theorem dX5_years_48 : decode cX5_years 48 = .ok (.aload_n 0, 1) := by decide +kernel
theorem dX5_years_49 : decode cX5_years 49 = .ok (.getfield 19, 3) := by decide +kernel
theorem dX5_years_52 : decode cX5_years 52 = .ok (.invokevirtual 196, 3) := by decide +kernel
theorem dX5_years_55 : decode cX5_years 55 = .ok (.aload_n 0, 1) := by decide +kernel
theorem dX5_years_56 : decode cX5_years 56 = .ok (.getfield 10, 3) := by decide +kernel
theorem dX5_years_59 : decode cX5_years 59 = .ok (.iload_n 1, 1) := by decide +kernel
theorem dX5_years_60 : decode cX5_years 60 = .ok (.invokevirtual 166, 3) := by decide +kernel
theorem dX5_years_63 : decode cX5_years 63 = .ok (.aload_n 0, 1) := by decide +kernel
theorem dX5_years_64 : decode cX5_years 64 = .ok (.getfield 10, 3) := by decide +kernel
theorem dX5_years_67 : decode cX5_years 67 = .ok (.invokevirtual 203, 3) := by decide +kernel
theorem dX5_years_70 : decode cX5_years 70 = .ok (.invokestatic 206, 3) := by decide +kernel
theorem dX5_years_73 : decode cX5_years 73 = .ok (.ireturn, 1) := by decide +kernel
set_option maxRecDepth 100000 in
set_option maxHeartbeats 4000000 in
theorem k_X5_years (κ : Kp) (xa : Nat → Nat → Nat) (X : XS) (n : Int)  (ha_n : In32 n) (ok : okC (cl (X 0))) (hy : X 0 4 0 ≤ 999) (h15 : (0 ≤ X 15 2 0 ∧ X 15 2 0 < 8) ∧ 0 ≤ X 15 3 0 ∧ X 15 3 0 ≤ 8) : mI κ yX5_years cX5_years 2 .int 5 [.ref (xa 18 100), .int (iI n)] (xw κ xa X) (qXs κ xa (eYearsX X n) X (qYears (cl (X 0)) n)) := by
  refine mI_of (by decide) (Nat.le_of_ble_eq_true rfl) (fun E F K => ?_)
  refine g_lv (lv' := [(0, .ref (xa 18 100)), (1, .int (iI n))]) rfl ?_
  have hy0 : 0 ≤ X 0 4 0 := ok.2
  have hye : yr (cl (X 0)) = X 0 4 0 := rfl
  have hpb := pcnt_bd (hbits (goI n (cl (X 0))))
  refine g_iload_n F 1 dX5_years_0 rfl ?_
  refine g_iconst F dX5_years_1 ?_
  refine g_icmp_ge F 12 (by omega) dX5_years_2 (by decide) (fun c2 => ?_) (fun c2 => ?_)
  · skip
    refine g_iload_n F 1 dX5_years_12 rfl ?_
    refine g_bipush F dX5_years_13 (by decide +kernel) ?_
    refine g_icmp_gt F 33 (by omega) dX5_years_15 (by decide) (fun c15 => ?_) (fun c15 => ?_)
    · skip
      refine g_aload_n F 0 dX5_years_33 rfl ?_
      refine g_bipush F dX5_years_34 (by decide +kernel) ?_
      refine g_callI F (stk := [.int (iI (-6)), .ref (xa 18 100)]) (st := []) (k_X5_refuse κ xa X (-6) (by omega)) cal_X5_refuse lm_X5_69 81 rfl rfl rfl rfl (by decide) rfl (Nat.le_of_ble_eq_true rfl) dX5_years_36 (fun r36 ws36 _ hr36 => ?_)
      obtain ⟨rfl, rfl⟩ := hr36
      have hq : (-6) = qYears (cl (X 0)) n := by unfold qYears; (repeat' split) <;> omega
      exact K xw_same ⟨_, rfl, iIc hq, (by rw [show eYearsX X n = _ from if_neg (by omega)]; exact (sX_18 sX_0 rfl rfl rfl)), (by rw [← hq]; exact (rfa_r (by omega)).symm)⟩ rfl dX5_years_39
    · skip
      refine g_aload_n F 0 dX5_years_18 rfl ?_
      refine g18_get_0 F  lf_X5_10 dX5_years_19 ?_
      refine gc_getN_4 F (o := 0) (by decide) nf_X5_163 dX5_years_22 ?_
      refine g_iload_n F 1 dX5_years_25 rfl ?_
      refine g_iadd F dX5_years_26 ?_
      refine g_sipush F dX5_years_27 (by decide +kernel) ?_
      refine g_icmp_le F 40 (by omega) dX5_years_30 (by decide) (fun c30 => ?_) (fun c30 => ?_)
      · skip
        refine g_aload_n F 0 dX5_years_40 rfl ?_
        refine g18_get_2 F  lf_X5_26 dX5_years_41 ?_
        refine g_aload_n F 0 dX5_years_44 rfl ?_
        refine g18_get_0 F  lf_X5_10 dX5_years_45 ?_
        refine g_aload_n F 0 dX5_years_48 rfl ?_
        refine g18_get_1 F  lf_X5_19 dX5_years_49 ?_
        refine g_callNV F (stk := [.ref (xa 12 100), .ref (xa 0 100), .ref (xa 15 100)]) (st := []) (k_X1_note κ xa X (X 15 2 0) (by omega) rfl (by omega)) cal_X1_note nm_X5_196 72 rfl rfl rfl rfl (by decide) rfl (Nat.le_of_ble_eq_true rfl) dX5_years_52 (fun ws52 _ hr52 => ?_)
        obtain rfl := hr52
        refine g_ws (ws' := xw κ xa (setO (setO (noteX X) 12 (X 12)) 0 (X 0))) (noteX_eq (by omega)) ?_
        refine g_aload_n F 0 dX5_years_55 rfl ?_
        refine g18_get_0 F  lf_X5_10 dX5_years_56 ?_
        refine g_iload_n F 1 dX5_years_59 rfl ?_
        refine g_callNV F (stk := [.int (iI n), .ref (xa 0 100)]) (st := []) (kS_X0_goOn κ xa (setO (noteX X) 12 (X 12)) 0 (by decide) (X 0) n (show (0 ≤ n ∧ n ≤ 1000) ∧ ((X 0) 4 0) + n ≤ 1000000 from by omega) ok) cal_X0_goOn nm_X5_166 0 rfl rfl rfl rfl (by decide) rfl (Nat.le_of_ble_eq_true rfl) dX5_years_60 (fun ws60 _ hr60 => ?_)
        obtain rfl := hr60
        refine g_ws (ws' := xw κ xa (setO (setO (noteX X) 12 (X 12)) 0 (stC (X 0) (goI n (cl (X 0)))))) rfl ?_
        refine g_aload_n F 0 dX5_years_63 rfl ?_
        refine g18_get_0 F  lf_X5_10 dX5_years_64 ?_
        refine g_callNI F (stk := [.ref (xa 0 100)]) (st := []) (kS_X0_holeBits κ xa (setO (noteX X) 12 (X 12)) 0 (by decide) (stC (X 0) (goI n (cl (X 0)))) (goI_ok ok n)) cal_X0_holeBits nm_X5_203 0 rfl rfl rfl rfl (by decide) rfl (Nat.le_of_ble_eq_true rfl) dX5_years_67 (fun r67 ws67 _ hr67 => ?_)
        obtain ⟨rfl, rfl⟩ := hr67
        refine g_top (y := iI (hbits (goI n (cl (X 0))))) rfl ?_
        refine g_callSI F (stk := [.int (iI (hbits (goI n (cl (X 0)))))]) (st := []) (k_J6_bitCount_0f7a4 κ (xw κ xa (setO (setO (noteX X) 12 (X 12)) 0 (stC (X 0) (goI n (cl (X 0)))))) (hbits (goI n (cl (X 0)))) (hbits_in _)) cal_J6_bitCount_0f7a4 lm_X5_206 rfl (by decide) rfl (Nat.le_of_ble_eq_true rfl) dX5_years_70 (fun r70 ws70 _ hr70 => ?_)
        obtain ⟨rfl, rfl⟩ := hr70
        have hq : pcnt (hbits (goI n (cl (X 0)))) = qYears (cl (X 0)) n := by unfold qYears; (repeat' split) <;> omega
        exact K xw_same ⟨_, rfl, iIc hq, (by rw [show eYearsX X n = _ from if_pos (by omega)]; exact sX_0), (by rw [← hq]; show noteX X 18 6 = _; rw [noteX_o (o := 18) (by omega) (by decide)]; exact (rfa_n (by omega)).symm)⟩ rfl dX5_years_73
      · skip
        refine g_aload_n F 0 dX5_years_33 rfl ?_
        refine g_bipush F dX5_years_34 (by decide +kernel) ?_
        refine g_callI F (stk := [.int (iI (-6)), .ref (xa 18 100)]) (st := []) (k_X5_refuse κ xa X (-6) (by omega)) cal_X5_refuse lm_X5_69 81 rfl rfl rfl rfl (by decide) rfl (Nat.le_of_ble_eq_true rfl) dX5_years_36 (fun r36 ws36 _ hr36 => ?_)
        obtain ⟨rfl, rfl⟩ := hr36
        have hq : (-6) = qYears (cl (X 0)) n := by unfold qYears; (repeat' split) <;> omega
        exact K xw_same ⟨_, rfl, iIc hq, (by rw [show eYearsX X n = _ from if_neg (by omega)]; exact (sX_18 sX_0 rfl rfl rfl)), (by rw [← hq]; exact (rfa_r (by omega)).symm)⟩ rfl dX5_years_39
  · skip
    refine g_aload_n F 0 dX5_years_5 rfl ?_
    refine g_bipush F dX5_years_6 (by decide +kernel) ?_
    refine g_callI F (stk := [.int (iI (-4)), .ref (xa 18 100)]) (st := []) (k_X5_refuse κ xa X (-4) (by omega)) cal_X5_refuse lm_X5_69 81 rfl rfl rfl rfl (by decide) rfl (Nat.le_of_ble_eq_true rfl) dX5_years_8 (fun r8 ws8 _ hr8 => ?_)
    obtain ⟨rfl, rfl⟩ := hr8
    have hq : (-4) = qYears (cl (X 0)) n := by unfold qYears; (repeat' split) <;> omega
    exact K xw_same ⟨_, rfl, iIc hq, (by rw [show eYearsX X n = _ from if_neg (by omega)]; exact (sX_18 sX_0 rfl rfl rfl)), (by rw [← hq]; exact (rfa_r (by omega)).symm)⟩ rfl dX5_years_11
def qPuts (C : Cl) (pk pf pa u : Int → Int) (n p c : Int) : Int := if ¬ ((0 ≤ p ∧ p < n) ∧ 0 ≤ c ∧ c < 12) then -1 else if u p = 1 then -3 else allPull (mkp C pk pf pa p c)
abbrev okPuts (u : Int → Int) (n p c : Int) : Prop := ((0 ≤ p ∧ p < n) ∧ 0 ≤ c ∧ c < 12) ∧ u p = 0
def ePutsM (M : MS) (p c : Int) : MS := if okPuts (M 9) (M 5 0) p c then mA (stC (kpt M) (mkp (cl M) (M 6) (M 7) (M 8) p c)) 9 (uI (M 9) p 1) else M
def ePutsX (X : XS) (p c : Int) : XS := if okPuts (uR (X 12)) (X 12 3 0) p c then setO (setO (setO (noteX X) 12 (X 12)) 0 (stC (X 0) (mkp (cl (X 0)) (X 12 0) (X 12 1) (X 12 2) p c))) 12 (mA (X 12) 4 (fun _ => bor (X 12 4 0) (p2 p))) else X
theorem dX6_puts_0 : decode cX6_puts 0 = .ok (.aload_n 0, 1) := by decide +kernel
theorem dX6_puts_1 : decode cX6_puts 1 = .ok (.iconst 0, 1) := by decide +kernel
theorem dX6_puts_2 : decode cX6_puts 2 = .ok (.putfield 91, 3) := by decide +kernel
theorem dX6_puts_5 : decode cX6_puts 5 = .ok (.aload_n 0, 1) := by decide +kernel
theorem dX6_puts_6 : decode cX6_puts 6 = .ok (.iload_n 1, 1) := by decide +kernel
theorem dX6_puts_7 : decode cX6_puts 7 = .ok (.invokevirtual 176, 3) := by decide +kernel
theorem dX6_puts_10 : decode cX6_puts 10 = .ok (.ifCond .eq 10, 3) := by decide +kernel
theorem dX6_puts_13 : decode cX6_puts 13 = .ok (.iload_n 2, 1) := by decide +kernel
theorem dX6_puts_14 : decode cX6_puts 14 = .ok (.invokestatic 222, 3) := by decide +kernel
theorem dX6_puts_17 : decode cX6_puts 17 = .ok (.ifCond .ne 7, 3) := by decide +kernel
theorem dX6_puts_20 : decode cX6_puts 20 = .ok (.iconst (-1), 1) := by decide +kernel
theorem dX6_puts_21 : decode cX6_puts 21 = .ok (.goto 19, 3) := by decide +kernel
theorem dX6_puts_24 : decode cX6_puts 24 = .ok (.aload_n 0, 1) := by decide +kernel
theorem dX6_puts_25 : decode cX6_puts 25 = .ok (.getfield 31, 3) := by decide +kernel
theorem dX6_puts_28 : decode cX6_puts 28 = .ok (.iload_n 1, 1) := by decide +kernel
theorem dX6_puts_29 : decode cX6_puts 29 = .ok (.iaload, 1) := by decide +kernel
theorem dX6_puts_30 : decode cX6_puts 30 = .ok (.iconst 1, 1) := by decide +kernel
theorem dX6_puts_31 : decode cX6_puts 31 = .ok (.if_icmp .ne 8, 3) := by decide +kernel
theorem dX6_puts_34 : decode cX6_puts 34 = .ok (.bipush (-3), 2) := by decide +kernel
theorem dX6_puts_36 : decode cX6_puts 36 = .ok (.goto 4, 3) := by decide +kernel
theorem dX6_puts_39 : decode cX6_puts 39 = .ok (.iconst 0, 1) := by decide +kernel
theorem dX6_puts_40 : decode cX6_puts 40 = .ok (.istore_n 3, 1) := by decide +kernel
theorem dX6_puts_41 : decode cX6_puts 41 = .ok (.iload_n 3, 1) := by decide +kernel
theorem dX6_puts_42 : decode cX6_puts 42 = .ok (.ifCond .ge 9, 3) := by decide +kernel
theorem dX6_puts_45 : decode cX6_puts 45 = .ok (.aload_n 0, 1) := by decide +kernel
theorem dX6_puts_46 : decode cX6_puts 46 = .ok (.iload_n 3, 1) := by decide +kernel
theorem dX6_puts_47 : decode cX6_puts 47 = .ok (.invokevirtual 138, 3) := by decide +kernel
theorem dX6_puts_50 : decode cX6_puts 50 = .ok (.ireturn, 1) := by decide +kernel
theorem dX6_puts_51 : decode cX6_puts 51 = .ok (.aload_n 0, 1) := by decide +kernel
theorem dX6_puts_52 : decode cX6_puts 52 = .ok (.invokevirtual 231, 3) := by decide +kernel
theorem dX6_puts_55 : decode cX6_puts 55 = .ok (.aload_n 0, 1) := by decide +kernel
theorem dX6_puts_56 : decode cX6_puts 56 = .ok (.iload_n 1, 1) := by decide +kernel
theorem dX6_puts_57 : decode cX6_puts 57 = .ok (.iload_n 2, 1) := by decide +kernel
theorem dX6_puts_58 : decode cX6_puts 58 = .ok (.invokevirtual 179, 3) := by decide +kernel
theorem dX6_puts_61 : decode cX6_puts 61 = .ok (.aload_n 0, 1) := by decide +kernel
theorem dX6_puts_62 : decode cX6_puts 62 = .ok (.invokevirtual 234, 3) := by decide +kernel
theorem dX6_puts_65 : decode cX6_puts 65 = .ok (.ireturn, 1) := by decide +kernel
set_option maxRecDepth 100000 in
set_option maxHeartbeats 4000000 in
theorem k_X6_puts (κ : Kp) (ma : Nat → Nat) (M : MS) (p : Int) (c : Int)  (ha_p : In32 p) (ha_c : In32 c) (ok : okC (cl M)) (okr : okR M) (h28 : 0 ≤ M 28 0 ∧ M 28 0 ≤ 8) : mI κ yX6_puts cX6_puts 4 .int 3 [.ref (ma 100), .int (iI p), .int (iI c)] (mw κ ma M) (qMs κ ma (ePutsM M p c) M (qPuts (cl M) (M 6) (M 7) (M 8) (M 9) (M 5 0) p c)) := by
  refine mI_of (by decide) (Nat.le_of_ble_eq_true rfl) (fun E F K => ?_)
  refine g_lv (lv' := [(0, .ref (ma 100)), (1, .int (iI p)), (2, .int (iI c))]) rfl ?_
  refine g_aload_n F 0 dX6_puts_0 rfl ?_
  refine g_iconst F dX6_puts_1 ?_
  refine gm_put_10 F dX6_puts_2 ?_
  have hn := okr.1
  refine g_aload_n F 0 dX6_puts_5 rfl ?_
  refine g_iload_n F 1 dX6_puts_6 rfl ?_
  refine g_callI F (stk := [.int (iI p), .ref (ma 100)]) (st := []) (k_X6_isPiece κ ma (mA M 10 (fun _ => 0)) p (show In32 p ∧ 0 ≤ (M 5 0) ∧ (M 5 0) ≤ 6 from by omega)) cal_X6_isPiece lm_X6_176 0 rfl rfl rfl rfl (by decide) rfl (Nat.le_of_ble_eq_true rfl) dX6_puts_7 (fun r7 ws7 _ hr7 => ?_)
  obtain ⟨rfl, rfl⟩ := hr7
  refine g_top (y := iI (b2i (0 ≤ p ∧ p < (M 5 0)))) rfl ?_
  refine g_if_eq F 20 (b2i_in _) dX6_puts_10 (by decide) (fun c10 => ?_) (fun c10 => ?_)
  · skip
    have c10 : ¬ (0 ≤ p ∧ p < (M 5 0)) := b2i_f c10
    refine g_iconst F dX6_puts_20 ?_
    refine g_goto F 40 dX6_puts_21 (by decide) ?_
    refine g_istore_n F (lv' := [(3, .int (iI (-1))), (0, .ref (ma 100)), (1, .int (iI p)), (2, .int (iI c))]) 3 dX6_puts_40 rfl (by decide) rfl ?_
    refine g_iload_n F 0 dX6_puts_41 rfl ?_
    refine g_if_ge F 51 (by omega) dX6_puts_42 (by decide) (fun c42 => ?_) (fun c42 => ?_)
    · skip
      exact absurd trivial (by omega)
    · skip
      refine g_aload_n F 1 dX6_puts_45 rfl ?_
      refine g_iload_n F 0 dX6_puts_46 rfl ?_
      refine g_callI F (stk := [.int (iI (-1)), .ref (ma 100)]) (st := []) (k_X6_refuse κ ma (mA M 10 (fun _ => 0)) (-1) (by omega)) cal_X6_refuse lm_X6_138 0 rfl rfl rfl rfl (by decide) rfl (Nat.le_of_ble_eq_true rfl) dX6_puts_47 (fun r47 ws47 _ hr47 => ?_)
      obtain ⟨rfl, rfl⟩ := hr47
      refine g_top (y := iI (-1)) rfl ?_
      refine g_ws (ws' := mw κ ma (mA (mA M 10 (fun _ => 0)) 11 (uI (M 11) (-(-1)) (M 11 (-(-1)) + 1)))) rfl ?_
      have hq : (-1) = qPuts (cl M) (M 6) (M 7) (M 8) (M 9) (M 5 0) p c := by unfold qPuts; (repeat' split) <;> omega
      exact K mw_same ⟨_, rfl, iIc hq, (by rw [show ePutsM M p c = _ from if_neg (by omega)]; exact ⟨rfl, rfl, rfl, rfl, rfl, rfl, rfl, rfl, rfl, rfl, rfl, rfl, rfl, rfl, rfl, rfl, rfl, rfl⟩), (by rw [← hq]; exact (rfa_r (by omega)).symm)⟩ rfl dX6_puts_50
  · skip
    have c10 : 0 ≤ p ∧ p < (M 5 0) := b2i_t c10
    refine g_iload_n F 2 dX6_puts_13 rfl ?_
    refine g_callSI F (stk := [.int (iI c)]) (st := []) (k_X6_isCell κ (mw κ ma (mA M 10 (fun _ => 0))) c (by omega)) cal_X6_isCell lm_X6_222 rfl (by decide) rfl (Nat.le_of_ble_eq_true rfl) dX6_puts_14 (fun r14 ws14 _ hr14 => ?_)
    obtain ⟨rfl, rfl⟩ := hr14
    refine g_if_ne F 24 (b2i_in _) dX6_puts_17 (by decide) (fun c17 => ?_) (fun c17 => ?_)
    · skip
      have c17 : 0 ≤ c ∧ c < 12 := b2i_t c17
      have hrp : (0 ≤ M 6 p ∧ M 6 p ≤ 5) ∧ (0 ≤ M 7 p ∧ M 7 p ≤ 9) ∧ (0 ≤ M 8 p ∧ M 8 p ≤ 99) ∧ 0 ≤ M 9 p ∧ M 9 p ≤ 1 := okr.2 p (by omega) (by omega)
      have hpb := allPull_bd (make_ok (c := c) ok hrp.1 hrp.2.1 hrp.2.2.1).A
      have hpe : allPull (mkp (cl M) (M 6) (M 7) (M 8) p c) = allPull (make (cl M) c (M 6 p) (M 7 p) (M 8 p)) := rfl
      refine g_aload_n F 0 dX6_puts_24 rfl ?_
      refine gm_get_9 F dX6_puts_25 ?_
      refine g_iload_n F 1 dX6_puts_28 rfl ?_
      refine gm_ald_9 F (by omega) dX6_puts_29 ?_
      refine g_top (y := iI (M 9 p)) rfl ?_
      refine g_iconst F dX6_puts_30 ?_
      refine g_icmp_ne F 39 (by omega) dX6_puts_31 (by decide) (fun c31 => ?_) (fun c31 => ?_)
      · skip
        refine g_iconst F dX6_puts_39 ?_
        refine g_istore_n F (lv' := [(3, .int (iI 0)), (0, .ref (ma 100)), (1, .int (iI p)), (2, .int (iI c))]) 3 dX6_puts_40 rfl (by decide) rfl ?_
        refine g_iload_n F 0 dX6_puts_41 rfl ?_
        refine g_if_ge F 51 (by omega) dX6_puts_42 (by decide) (fun c42 => ?_) (fun c42 => ?_)
        · skip
          refine g_aload_n F 1 dX6_puts_51 rfl ?_
          refine g_callV F (stk := [.ref (ma 100)]) (st := []) (k_X6_keepTurn κ ma (mA M 10 (fun _ => 0)) (show 0 ≤ (M 28 0) ∧ (M 28 0) ≤ 8 from by omega)) cal_X6_keepTurn lm_X6_231 0 rfl rfl rfl rfl (by decide) rfl (Nat.le_of_ble_eq_true rfl) dX6_puts_52 (fun ws52 _ hr52 => ?_)
          obtain rfl := hr52
          refine g_ws (ws' := mw κ ma (kpt (mA M 10 (fun _ => 0)))) rfl ?_
          refine g_ws (ws' := mw κ ma (mA (kpt M) 10 (fun _ => 0))) (by rw [kpt_mA10]) ?_
          refine g_aload_n F 1 dX6_puts_55 rfl ?_
          refine g_iload_n F 2 dX6_puts_56 rfl ?_
          refine g_iload_n F 3 dX6_puts_57 rfl ?_
          refine g_callV F (stk := [.int (iI c), .int (iI p), .ref (ma 100)]) (st := []) (k_X6_putOn κ ma (mA (kpt M) 10 (fun _ => 0)) p c (by omega) (by omega)) cal_X6_putOn lm_X6_179 0 rfl rfl rfl rfl (by decide) rfl (Nat.le_of_ble_eq_true rfl) dX6_puts_58 (fun ws58 _ hr58 => ?_)
          obtain rfl := hr58
          refine g_ws (ws' := mw κ ma (mA (stC (mA (kpt M) 10 (fun _ => 0)) (make (cl M) c (M 6 p) (M 7 p) (M 8 p))) 9 (uI (M 9) p 1))) rfl ?_
          refine g_aload_n F 1 dX6_puts_61 rfl ?_
          refine g_callI F (stk := [.ref (ma 100)]) (st := []) (k_X6_allPull κ ma (mA (stC (mA (kpt M) 10 (fun _ => 0)) (make (cl M) c (M 6 p) (M 7 p) (M 8 p))) 9 (uI (M 9) p 1)) (make_ok (c := c) ok hrp.1 hrp.2.1 hrp.2.2.1).A) cal_X6_allPull lm_X6_234 0 rfl rfl rfl rfl (by decide) rfl (Nat.le_of_ble_eq_true rfl) dX6_puts_62 (fun r62 ws62 _ hr62 => ?_)
          obtain ⟨rfl, rfl⟩ := hr62
          refine g_top (y := iI (allPull (make (cl M) c (M 6 p) (M 7 p) (M 8 p)))) rfl ?_
          have hq : allPull (make (cl M) c (M 6 p) (M 7 p) (M 8 p)) = qPuts (cl M) (M 6) (M 7) (M 8) (M 9) (M 5 0) p c := by unfold qPuts; (repeat' split) <;> omega
          exact K mw_same ⟨_, rfl, iIc hq, (by rw [show ePutsM M p c = _ from if_pos (by omega)]; exact ⟨rfl, rfl, rfl, rfl, rfl, rfl, rfl, rfl, rfl, rfl, rfl, rfl, rfl, rfl, rfl, rfl, rfl, rfl⟩), (by rw [← hq]; show M 11 = _; exact (rfa_n (by omega)).symm)⟩ rfl dX6_puts_65
        · skip
          exact absurd trivial (by omega)
      · skip
        refine g_bipush F dX6_puts_34 (by decide +kernel) ?_
        refine g_goto F 40 dX6_puts_36 (by decide) ?_
        refine g_istore_n F (lv' := [(3, .int (iI (-3))), (0, .ref (ma 100)), (1, .int (iI p)), (2, .int (iI c))]) 3 dX6_puts_40 rfl (by decide) rfl ?_
        refine g_iload_n F 0 dX6_puts_41 rfl ?_
        refine g_if_ge F 51 (by omega) dX6_puts_42 (by decide) (fun c42 => ?_) (fun c42 => ?_)
        · skip
          exact absurd trivial (by omega)
        · skip
          refine g_aload_n F 1 dX6_puts_45 rfl ?_
          refine g_iload_n F 0 dX6_puts_46 rfl ?_
          refine g_callI F (stk := [.int (iI (-3)), .ref (ma 100)]) (st := []) (k_X6_refuse κ ma (mA M 10 (fun _ => 0)) (-3) (by omega)) cal_X6_refuse lm_X6_138 0 rfl rfl rfl rfl (by decide) rfl (Nat.le_of_ble_eq_true rfl) dX6_puts_47 (fun r47 ws47 _ hr47 => ?_)
          obtain ⟨rfl, rfl⟩ := hr47
          refine g_top (y := iI (-3)) rfl ?_
          refine g_ws (ws' := mw κ ma (mA (mA M 10 (fun _ => 0)) 11 (uI (M 11) (-(-3)) (M 11 (-(-3)) + 1)))) rfl ?_
          have hq : (-3) = qPuts (cl M) (M 6) (M 7) (M 8) (M 9) (M 5 0) p c := by unfold qPuts; (repeat' split) <;> omega
          exact K mw_same ⟨_, rfl, iIc hq, (by rw [show ePutsM M p c = _ from if_neg (by omega)]; exact ⟨rfl, rfl, rfl, rfl, rfl, rfl, rfl, rfl, rfl, rfl, rfl, rfl, rfl, rfl, rfl, rfl, rfl, rfl⟩), (by rw [← hq]; exact (rfa_r (by omega)).symm)⟩ rfl dX6_puts_50
    · skip
      have c17 : ¬ (0 ≤ c ∧ c < 12) := b2i_f c17
      refine g_iconst F dX6_puts_20 ?_
      refine g_goto F 40 dX6_puts_21 (by decide) ?_
      refine g_istore_n F (lv' := [(3, .int (iI (-1))), (0, .ref (ma 100)), (1, .int (iI p)), (2, .int (iI c))]) 3 dX6_puts_40 rfl (by decide) rfl ?_
      refine g_iload_n F 0 dX6_puts_41 rfl ?_
      refine g_if_ge F 51 (by omega) dX6_puts_42 (by decide) (fun c42 => ?_) (fun c42 => ?_)
      · skip
        exact absurd trivial (by omega)
      · skip
        refine g_aload_n F 1 dX6_puts_45 rfl ?_
        refine g_iload_n F 0 dX6_puts_46 rfl ?_
        refine g_callI F (stk := [.int (iI (-1)), .ref (ma 100)]) (st := []) (k_X6_refuse κ ma (mA M 10 (fun _ => 0)) (-1) (by omega)) cal_X6_refuse lm_X6_138 0 rfl rfl rfl rfl (by decide) rfl (Nat.le_of_ble_eq_true rfl) dX6_puts_47 (fun r47 ws47 _ hr47 => ?_)
        obtain ⟨rfl, rfl⟩ := hr47
        refine g_top (y := iI (-1)) rfl ?_
        refine g_ws (ws' := mw κ ma (mA (mA M 10 (fun _ => 0)) 11 (uI (M 11) (-(-1)) (M 11 (-(-1)) + 1)))) rfl ?_
        have hq : (-1) = qPuts (cl M) (M 6) (M 7) (M 8) (M 9) (M 5 0) p c := by unfold qPuts; (repeat' split) <;> omega
        exact K mw_same ⟨_, rfl, iIc hq, (by rw [show ePutsM M p c = _ from if_neg (by omega)]; exact ⟨rfl, rfl, rfl, rfl, rfl, rfl, rfl, rfl, rfl, rfl, rfl, rfl, rfl, rfl, rfl, rfl, rfl, rfl⟩), (by rw [← hq]; exact (rfa_r (by omega)).symm)⟩ rfl dX6_puts_50
theorem dX5_puts_0 : decode cX5_puts 0 = .ok (.aload_n 0, 1) := by decide +kernel
theorem dX5_puts_1 : decode cX5_puts 1 = .ok (.getfield 19, 3) := by decide +kernel
theorem dX5_puts_4 : decode cX5_puts 4 = .ok (.iload_n 1, 1) := by decide +kernel
theorem dX5_puts_5 : decode cX5_puts 5 = .ok (.invokevirtual 190, 3) := by decide +kernel
theorem dX5_puts_8 : decode cX5_puts 8 = .ok (.ifCond .eq 10, 3) := by decide +kernel
theorem dX5_puts_11 : decode cX5_puts 11 = .ok (.iload_n 2, 1) := by decide +kernel
theorem dX5_puts_12 : decode cX5_puts 12 = .ok (.invokestatic 134, 3) := by decide +kernel
theorem dX5_puts_15 : decode cX5_puts 15 = .ok (.ifCond .ne 9, 3) := by decide +kernel
theorem dX5_puts_18 : decode cX5_puts 18 = .ok (.aload_n 0, 1) := by decide +kernel
theorem dX5_puts_19 : decode cX5_puts 19 = .ok (.iconst (-1), 1) := by decide +kernel
theorem dX5_puts_20 : decode cX5_puts 20 = .ok (.invokevirtual 69, 3) := by decide +kernel
theorem dX5_puts_23 : decode cX5_puts 23 = .ok (.ireturn, 1) := by decide +kernel
theorem dX5_puts_24 : decode cX5_puts 24 = .ok (.aload_n 0, 1) := by decide +kernel
theorem dX5_puts_25 : decode cX5_puts 25 = .ok (.getfield 19, 3) := by decide +kernel
theorem dX5_puts_28 : decode cX5_puts 28 = .ok (.iload_n 1, 1) := by decide +kernel
theorem dX5_puts_29 : decode cX5_puts 29 = .ok (.invokevirtual 150, 3) := by decide +kernel
theorem dX5_puts_32 : decode cX5_puts 32 = .ok (.ifCond .ne 10, 3) := by decide +kernel
theorem dX5_puts_35 : decode cX5_puts 35 = .ok (.aload_n 0, 1) := by decide +kernel
theorem dX5_puts_36 : decode cX5_puts 36 = .ok (.bipush (-3), 2) := by decide +kernel
theorem dX5_puts_38 : decode cX5_puts 38 = .ok (.invokevirtual 69, 3) := by decide +kernel
theorem dX5_puts_41 : decode cX5_puts 41 = .ok (.ireturn, 1) := by decide +kernel
theorem dX5_puts_42 : decode cX5_puts 42 = .ok (.aload_n 0, 1) := by decide +kernel
theorem dX5_puts_43 : decode cX5_puts 43 = .ok (.getfield 26, 3) := by decide +kernel
theorem dX5_puts_46 : decode cX5_puts 46 = .ok (.aload_n 0, 1) := by decide +kernel
theorem dX5_puts_47 : decode cX5_puts 47 = .ok (.getfield 10, 3) := by decide +kernel
theorem dX5_puts_50 : decode cX5_puts 50 = .ok (.aload_n 0, 1) := by decide +kernel
theorem dX5_puts_51 : decode cX5_puts 51 = .ok (.getfield 19, 3) := by decide +kernel
theorem dX5_puts_54 : decode cX5_puts 54 = .ok (.invokevirtual 196, 3) := by decide +kernel
theorem dX5_puts_57 : decode cX5_puts 57 = .ok (.aload_n 0, 1) := by decide +kernel
theorem dX5_puts_58 : decode cX5_puts 58 = .ok (.getfield 10, 3) := by decide +kernel
theorem dX5_puts_61 : decode cX5_puts 61 = .ok (.aload_n 0, 1) := by decide +kernel
theorem dX5_puts_62 : decode cX5_puts 62 = .ok (.getfield 19, 3) := by decide +kernel
theorem dX5_puts_65 : decode cX5_puts 65 = .ok (.iload_n 1, 1) := by decide +kernel
theorem dX5_puts_66 : decode cX5_puts 66 = .ok (.iload_n 2, 1) := by decide +kernel
theorem dX5_puts_67 : decode cX5_puts 67 = .ok (.invokevirtual 153, 3) := by decide +kernel
theorem dX5_puts_70 : decode cX5_puts 70 = .ok (.aload_n 0, 1) := by decide +kernel
theorem dX5_puts_71 : decode cX5_puts 71 = .ok (.getfield 19, 3) := by decide +kernel
theorem dX5_puts_74 : decode cX5_puts 74 = .ok (.iload_n 1, 1) := by decide +kernel
theorem dX5_puts_75 : decode cX5_puts 75 = .ok (.invokevirtual 157, 3) := by decide +kernel
theorem dX5_puts_78 : decode cX5_puts 78 = .ok (.aload_n 0, 1) := by decide +kernel
theorem dX5_puts_79 : decode cX5_puts 79 = .ok (.getfield 10, 3) := by decide +kernel
theorem dX5_puts_82 : decode cX5_puts 82 = .ok (.invokevirtual 200, 3) := by decide +kernel
theorem dX5_puts_85 : decode cX5_puts 85 = .ok (.ireturn, 1) := by decide +kernel
set_option maxRecDepth 100000 in
set_option maxHeartbeats 4000000 in
theorem k_X5_puts (κ : Kp) (xa : Nat → Nat → Nat) (X : XS) (p : Int) (c : Int)  (ha_p : In32 p) (ha_c : In32 c) (ok : okC (cl (X 0))) (okr : okRl (X 12)) (h15 : (0 ≤ X 15 2 0 ∧ X 15 2 0 < 8) ∧ 0 ≤ X 15 3 0 ∧ X 15 3 0 ≤ 8) : mI κ yX5_puts cX5_puts 3 .int 3 [.ref (xa 18 100), .int (iI p), .int (iI c)] (xw κ xa X) (qXs κ xa (ePutsX X p c) X (qPuts (cl (X 0)) (X 12 0) (X 12 1) (X 12 2) (uR (X 12)) (X 12 3 0) p c)) := by
  refine mI_of (by decide) (Nat.le_of_ble_eq_true rfl) (fun E F K => ?_)
  refine g_lv (lv' := [(0, .ref (xa 18 100)), (1, .int (iI p)), (2, .int (iI c))]) rfl ?_
  have hn := okr.1
  have hu : uR (X 12) p = X 12 4 0 / p2 p % 2 := rfl
  refine g_aload_n F 0 dX5_puts_0 rfl ?_
  refine g18_get_1 F  lf_X5_19 dX5_puts_1 ?_
  refine g_iload_n F 1 dX5_puts_4 rfl ?_
  refine g_callNI F (stk := [.int (iI p), .ref (xa 12 100)]) (st := []) (k_X2_has κ xa X 0 (by decide) p (show In32 p ∧ 0 ≤ ((X 12) 3 0) ∧ ((X 12) 3 0) ≤ 6 from by omega)) cal_X2_has nm_X5_190 60 rfl rfl rfl rfl (by decide) rfl (Nat.le_of_ble_eq_true rfl) dX5_puts_5 (fun r5 ws5 _ hr5 => ?_)
  obtain ⟨rfl, rfl⟩ := hr5
  refine g_if_eq F 18 (b2i_in _) dX5_puts_8 (by decide) (fun c8 => ?_) (fun c8 => ?_)
  · skip
    have c8 : ¬ (0 ≤ p ∧ p < (X 12) 3 0) := b2i_f c8
    refine g_aload_n F 0 dX5_puts_18 rfl ?_
    refine g_iconst F dX5_puts_19 ?_
    refine g_callI F (stk := [.int (iI (-1)), .ref (xa 18 100)]) (st := []) (k_X5_refuse κ xa X (-1) (by omega)) cal_X5_refuse lm_X5_69 81 rfl rfl rfl rfl (by decide) rfl (Nat.le_of_ble_eq_true rfl) dX5_puts_20 (fun r20 ws20 _ hr20 => ?_)
    obtain ⟨rfl, rfl⟩ := hr20
    have hq : (-1) = qPuts (cl (X 0)) (X 12 0) (X 12 1) (X 12 2) (uR (X 12)) (X 12 3 0) p c := by unfold qPuts; (repeat' split) <;> omega
    exact K xw_same ⟨_, rfl, iIc hq, (by rw [show ePutsX X p c = _ from if_neg (by omega)]; exact (sX_18 sX_0 rfl rfl rfl)), (by rw [← hq]; exact (rfa_r (by omega)).symm)⟩ rfl dX5_puts_23
  · skip
    have c8 : 0 ≤ p ∧ p < (X 12) 3 0 := b2i_t c8
    refine g_iload_n F 2 dX5_puts_11 rfl ?_
    refine g_callSI F (stk := [.int (iI c)]) (st := []) (k_X5_isCell κ (xw κ xa X) c (by omega)) cal_X5_isCell lm_X5_134 rfl (by decide) rfl (Nat.le_of_ble_eq_true rfl) dX5_puts_12 (fun r12 ws12 _ hr12 => ?_)
    obtain ⟨rfl, rfl⟩ := hr12
    refine g_if_ne F 24 (b2i_in _) dX5_puts_15 (by decide) (fun c15 => ?_) (fun c15 => ?_)
    · skip
      have c15 : 0 ≤ c ∧ c < 12 := b2i_t c15
      have hrp := okr.p (p := p) (by omega) (by omega)
      have hpb := allPull_bd (make_ok (c := c) ok hrp.1 hrp.2.1 hrp.2.2).A
      have hpe : allPull (mkp (cl (X 0)) (X 12 0) (X 12 1) (X 12 2) p c) = allPull (make (cl (X 0)) c (X 12 0 p) (X 12 1 p) (X 12 2 p)) := rfl
      refine g_aload_n F 0 dX5_puts_24 rfl ?_
      refine g18_get_1 F  lf_X5_19 dX5_puts_25 ?_
      refine g_iload_n F 1 dX5_puts_28 rfl ?_
      refine g_callNI F (stk := [.int (iI p), .ref (xa 12 100)]) (st := []) (k_X2_isFree κ xa X 0 (by decide) p (show In32 p ∧ (0 ≤ ((X 12) 3 0) ∧ ((X 12) 3 0) ≤ 6) ∧ 0 ≤ ((X 12) 4 0) ∧ ((X 12) 4 0) < 64 from by omega)) cal_X2_isFree nm_X5_150 60 rfl rfl rfl rfl (by decide) rfl (Nat.le_of_ble_eq_true rfl) dX5_puts_29 (fun r29 ws29 _ hr29 => ?_)
      obtain ⟨rfl, rfl⟩ := hr29
      refine g_if_ne F 42 (b2i_in _) dX5_puts_32 (by decide) (fun c32 => ?_) (fun c32 => ?_)
      · skip
        have c32 : (0 ≤ p ∧ p < (X 12) 3 0) ∧ (X 12) 4 0 / p2 p % 2 = 0 := b2i_t c32
        refine g_aload_n F 0 dX5_puts_42 rfl ?_
        refine g18_get_2 F  lf_X5_26 dX5_puts_43 ?_
        refine g_aload_n F 0 dX5_puts_46 rfl ?_
        refine g18_get_0 F  lf_X5_10 dX5_puts_47 ?_
        refine g_aload_n F 0 dX5_puts_50 rfl ?_
        refine g18_get_1 F  lf_X5_19 dX5_puts_51 ?_
        refine g_callNV F (stk := [.ref (xa 12 100), .ref (xa 0 100), .ref (xa 15 100)]) (st := []) (k_X1_note κ xa X (X 15 2 0) (by omega) rfl (by omega)) cal_X1_note nm_X5_196 72 rfl rfl rfl rfl (by decide) rfl (Nat.le_of_ble_eq_true rfl) dX5_puts_54 (fun ws54 _ hr54 => ?_)
        obtain rfl := hr54
        refine g_ws (ws' := xw κ xa (setO (setO (noteX X) 12 (X 12)) 0 (X 0))) (noteX_eq (by omega)) ?_
        refine g_aload_n F 0 dX5_puts_57 rfl ?_
        refine g18_get_0 F  lf_X5_10 dX5_puts_58 ?_
        refine g_aload_n F 0 dX5_puts_61 rfl ?_
        refine g18_get_1 F  lf_X5_19 dX5_puts_62 ?_
        refine g_iload_n F 1 dX5_puts_65 rfl ?_
        refine g_iload_n F 2 dX5_puts_66 rfl ?_
        refine g_callNV F (stk := [.int (iI c), .int (iI p), .ref (xa 12 100), .ref (xa 0 100)]) (st := []) (k_X0_put κ xa (setO (setO (noteX X) 12 (X 12)) 0 (X 0)) 0 (by decide) 0 p c (by decide) (by omega) (by omega)) cal_X0_put nm_X5_153 0 rfl rfl rfl rfl (by decide) rfl (Nat.le_of_ble_eq_true rfl) dX5_puts_67 (fun ws67 _ hr67 => ?_)
        obtain rfl := hr67
        refine g_ws (ws' := xw κ xa (setO (setO (noteX X) 12 (X 12)) 0 (stC (X 0) (make (cl (X 0)) c ((X 12) 0 p) ((X 12) 1 p) ((X 12) 2 p))))) rfl ?_
        refine g_aload_n F 0 dX5_puts_70 rfl ?_
        refine g18_get_1 F  lf_X5_19 dX5_puts_71 ?_
        refine g_iload_n F 1 dX5_puts_74 rfl ?_
        refine g_callNV F (stk := [.int (iI p), .ref (xa 12 100)]) (st := []) (k_X2_use κ xa (setO (setO (noteX X) 12 (X 12)) 0 (stC (X 0) (make (cl (X 0)) c ((X 12) 0 p) ((X 12) 1 p) ((X 12) 2 p)))) 0 (by decide) p (show (0 ≤ p ∧ p < 6) ∧ 0 ≤ ((X 12) 4 0) from by omega)) cal_X2_use nm_X5_157 60 rfl rfl rfl rfl (by decide) rfl (Nat.le_of_ble_eq_true rfl) dX5_puts_75 (fun ws75 _ hr75 => ?_)
        obtain rfl := hr75
        refine g_ws (ws' := xw κ xa (setO (setO (setO (noteX X) 12 (X 12)) 0 (stC (X 0) (make (cl (X 0)) c ((X 12) 0 p) ((X 12) 1 p) ((X 12) 2 p)))) 12 (mA (X 12) 4 (fun _ => bor ((X 12) 4 0) (p2 p))))) rfl ?_
        refine g_aload_n F 0 dX5_puts_78 rfl ?_
        refine g18_get_0 F  lf_X5_10 dX5_puts_79 ?_
        refine g_callNI F (stk := [.ref (xa 0 100)]) (st := []) (k_X0_pullTogether κ xa (setO (setO (setO (noteX X) 12 (X 12)) 0 (stC (X 0) (make (cl (X 0)) c ((X 12) 0 p) ((X 12) 1 p) ((X 12) 2 p)))) 12 (mA (X 12) 4 (fun _ => bor ((X 12) 4 0) (p2 p)))) 0 (by decide) (make_ok (c := c) ok hrp.1 hrp.2.1 hrp.2.2).A) cal_X0_pullTogether nm_X5_200 0 rfl rfl rfl rfl (by decide) rfl (Nat.le_of_ble_eq_true rfl) dX5_puts_82 (fun r82 ws82 _ hr82 => ?_)
        obtain ⟨rfl, rfl⟩ := hr82
        refine g_top (y := iI (allPull (make (cl (X 0)) c ((X 12) 0 p) ((X 12) 1 p) ((X 12) 2 p)))) rfl ?_
        have hq : allPull (make (cl (X 0)) c ((X 12) 0 p) ((X 12) 1 p) ((X 12) 2 p)) = qPuts (cl (X 0)) (X 12 0) (X 12 1) (X 12 2) (uR (X 12)) (X 12 3 0) p c := by unfold qPuts; (repeat' split) <;> omega
        exact K xw_same ⟨_, rfl, iIc hq, (by rw [show ePutsX X p c = _ from if_pos (by omega)]; exact sX_0), (by rw [← hq]; show noteX X 18 6 = _; rw [noteX_o (o := 18) (by omega) (by decide)]; exact (rfa_n (by omega)).symm)⟩ rfl dX5_puts_85
      · skip
        have c32 : ¬ ((0 ≤ p ∧ p < (X 12) 3 0) ∧ (X 12) 4 0 / p2 p % 2 = 0) := b2i_f c32
        refine g_aload_n F 0 dX5_puts_35 rfl ?_
        refine g_bipush F dX5_puts_36 (by decide +kernel) ?_
        refine g_callI F (stk := [.int (iI (-3)), .ref (xa 18 100)]) (st := []) (k_X5_refuse κ xa X (-3) (by omega)) cal_X5_refuse lm_X5_69 81 rfl rfl rfl rfl (by decide) rfl (Nat.le_of_ble_eq_true rfl) dX5_puts_38 (fun r38 ws38 _ hr38 => ?_)
        obtain ⟨rfl, rfl⟩ := hr38
        have hq : (-3) = qPuts (cl (X 0)) (X 12 0) (X 12 1) (X 12 2) (uR (X 12)) (X 12 3 0) p c := by unfold qPuts; (repeat' split) <;> omega
        exact K xw_same ⟨_, rfl, iIc hq, (by rw [show ePutsX X p c = _ from if_neg (by omega)]; exact (sX_18 sX_0 rfl rfl rfl)), (by rw [← hq]; exact (rfa_r (by omega)).symm)⟩ rfl dX5_puts_41
    · skip
      have c15 : ¬ (0 ≤ c ∧ c < 12) := b2i_f c15
      refine g_aload_n F 0 dX5_puts_18 rfl ?_
      refine g_iconst F dX5_puts_19 ?_
      refine g_callI F (stk := [.int (iI (-1)), .ref (xa 18 100)]) (st := []) (k_X5_refuse κ xa X (-1) (by omega)) cal_X5_refuse lm_X5_69 81 rfl rfl rfl rfl (by decide) rfl (Nat.le_of_ble_eq_true rfl) dX5_puts_20 (fun r20 ws20 _ hr20 => ?_)
      obtain ⟨rfl, rfl⟩ := hr20
      have hq : (-1) = qPuts (cl (X 0)) (X 12 0) (X 12 1) (X 12 2) (uR (X 12)) (X 12 3 0) p c := by unfold qPuts; (repeat' split) <;> omega
      exact K xw_same ⟨_, rfl, iIc hq, (by rw [show ePutsX X p c = _ from if_neg (by omega)]; exact (sX_18 sX_0 rfl rfl rfl)), (by rw [← hq]; exact (rfa_r (by omega)).symm)⟩ rfl dX5_puts_23
def qBack (n : Int) : Int := if n = 0 then -3 else n - 1
def eBackM (M M0 : MS) : MS := if 0 < M 28 0 then mA (ovl M M0) 28 (fun _ => M 28 0 - 1) else M
def eBackX (X : XS) : XS := if 0 < X 15 3 0 then takeX X else X
def qImage (y : Int) : Int := y
def eImageM (M : MS) : MS := if (0 : Int) = 0 then mA (mA M 21 (snapF M)) 22 (fun _ => 1) else M
def eImageX (X : XS) : XS := if (0 : Int) = 0 then setO (setO (setO X 1 (stC (X 1) (cl (X 0)))) 13 (stR (X 13) (rl (X 12)))) 18 (mA (X 18) 9 (fun _ => 1)) else X
def qRestore (i y : Int) : Int := if i = 1 then y else -3
def eRestoreM (M M0 : MS) : MS := if M 22 0 = 1 then mA (ovl M M0) 28 (fun _ => 0) else M
def eRestoreX (X : XS) : XS := if X 18 9 0 = 1 then setO (setO (setO X 0 (stC (X 0) (cl (X 1)))) 12 (stR (X 12) (rl (X 13)))) 15 (mA (X 15) 3 (fun _ => 0)) else X
theorem dX6_back_0 : decode cX6_back 0 = .ok (.aload_n 0, 1) := by decide +kernel
theorem dX6_back_1 : decode cX6_back 1 = .ok (.iconst 0, 1) := by decide +kernel
theorem dX6_back_2 : decode cX6_back 2 = .ok (.putfield 91, 3) := by decide +kernel
theorem dX6_back_5 : decode cX6_back 5 = .ok (.aload_n 0, 1) := by decide +kernel
theorem dX6_back_6 : decode cX6_back 6 = .ok (.getfield 200, 3) := by decide +kernel
theorem dX6_back_9 : decode cX6_back 9 = .ok (.ifCond .ne 10, 3) := by decide +kernel
theorem dX6_back_12 : decode cX6_back 12 = .ok (.aload_n 0, 1) := by decide +kernel
theorem dX6_back_13 : decode cX6_back 13 = .ok (.bipush (-3), 2) := by decide +kernel
theorem dX6_back_15 : decode cX6_back 15 = .ok (.invokevirtual 138, 3) := by decide +kernel
theorem dX6_back_18 : decode cX6_back 18 = .ok (.ireturn, 1) := by decide +kernel
theorem dX6_back_19 : decode cX6_back 19 = .ok (.aload_n 0, 1) := by decide +kernel
theorem dX6_back_20 : decode cX6_back 20 = .ok (.dup, 1) := by decide +kernel
theorem dX6_back_21 : decode cX6_back 21 = .ok (.getfield 200, 3) := by decide +kernel
theorem dX6_back_24 : decode cX6_back 24 = .ok (.iconst 1, 1) := by decide +kernel
theorem dX6_back_25 : decode cX6_back 25 = .ok (.isub, 1) := by decide +kernel
theorem dX6_back_26 : decode cX6_back 26 = .ok (.putfield 200, 3) := by decide +kernel
theorem dX6_back_29 : decode cX6_back 29 = .ok (.iconst 0, 1) := by decide +kernel
theorem dX6_back_30 : decode cX6_back 30 = .ok (.istore_n 1, 1) := by decide +kernel
theorem dX6_back_31 : decode cX6_back 31 = .ok (.iload_n 1, 1) := by decide +kernel
theorem dX6_back_32 : decode cX6_back 32 = .ok (.bipush 74, 2) := by decide +kernel
theorem dX6_back_34 : decode cX6_back 34 = .ok (.if_icmp .ge 29, 3) := by decide +kernel
theorem dX6_back_37 : decode cX6_back 37 = .ok (.aload_n 0, 1) := by decide +kernel
theorem dX6_back_38 : decode cX6_back 38 = .ok (.getfield 58, 3) := by decide +kernel
theorem dX6_back_41 : decode cX6_back 41 = .ok (.iload_n 1, 1) := by decide +kernel
theorem dX6_back_42 : decode cX6_back 42 = .ok (.aload_n 0, 1) := by decide +kernel
theorem dX6_back_43 : decode cX6_back 43 = .ok (.getfield 55, 3) := by decide +kernel
theorem dX6_back_46 : decode cX6_back 46 = .ok (.bipush 74, 2) := by decide +kernel
theorem dX6_back_48 : decode cX6_back 48 = .ok (.aload_n 0, 1) := by decide +kernel
theorem dX6_back_49 : decode cX6_back 49 = .ok (.getfield 200, 3) := by decide +kernel
theorem dX6_back_52 : decode cX6_back 52 = .ok (.imul, 1) := by decide +kernel
theorem dX6_back_53 : decode cX6_back 53 = .ok (.iload_n 1, 1) := by decide +kernel
theorem dX6_back_54 : decode cX6_back 54 = .ok (.iadd, 1) := by decide +kernel
theorem dX6_back_55 : decode cX6_back 55 = .ok (.iaload, 1) := by decide +kernel
theorem dX6_back_56 : decode cX6_back 56 = .ok (.iastore, 1) := by decide +kernel
theorem dX6_back_57 : decode cX6_back 57 = .ok (.iinc 1 1, 3) := by decide +kernel
theorem dX6_back_60 : decode cX6_back 60 = .ok (.goto (-29), 3) := by decide +kernel
theorem dX6_back_63 : decode cX6_back 63 = .ok (.aload_n 0, 1) := by decide +kernel
theorem dX6_back_64 : decode cX6_back 64 = .ok (.aload_n 0, 1) := by decide +kernel
theorem dX6_back_65 : decode cX6_back 65 = .ok (.getfield 58, 3) := by decide +kernel
theorem dX6_back_68 : decode cX6_back 68 = .ok (.iconst 0, 1) := by decide +kernel
theorem dX6_back_69 : decode cX6_back 69 = .ok (.invokevirtual 215, 3) := by decide +kernel
theorem dX6_back_72 : decode cX6_back 72 = .ok (.aload_n 0, 1) := by decide +kernel
theorem dX6_back_73 : decode cX6_back 73 = .ok (.getfield 200, 3) := by decide +kernel
theorem dX6_back_76 : decode cX6_back 76 = .ok (.ireturn, 1) := by decide +kernel
set_option maxRecDepth 100000 in
set_option maxHeartbeats 4000000 in
theorem k_X6_back (κ : Kp) (ma : Nat → Nat) (M : MS) (M0 : MS)  (h28 : 0 ≤ M 28 0 ∧ M 28 0 ≤ 8) (hb : 0 < M 28 0 → ∀ z : Int, 0 ≤ z → z < 74 → M 26 (74 * (M 28 0 - 1) + z) = snapF M0 z) : mI κ yX6_back cX6_back 2 .int 2 [.ref (ma 100)] (mw κ ma M) (qMs κ ma (eBackM M M0) M (qBack (M 28 0))) := by
  refine mI_of (by decide) (Nat.le_of_ble_eq_true rfl) (fun E F K => ?_)
  refine g_lv (lv' := [(0, .ref (ma 100))]) rfl ?_
  refine g_aload_n F 0 dX6_back_0 rfl ?_
  refine g_iconst F dX6_back_1 ?_
  refine gm_put_10 F dX6_back_2 ?_
  refine g_aload_n F 0 dX6_back_5 rfl ?_
  refine gm_get_28 F dX6_back_6 ?_
  refine g_top (y := iI (M 28 0)) rfl ?_
  refine g_if_ne F 19 (by omega) dX6_back_9 (by decide) (fun c9 => ?_) (fun c9 => ?_)
  · skip
    refine g_aload_n F 0 dX6_back_19 rfl ?_
    refine g_dup F dX6_back_20 rfl ?_
    refine gm_get_28 F dX6_back_21 ?_
    refine g_top (y := iI (M 28 0)) rfl ?_
    refine g_iconst F dX6_back_24 ?_
    refine g_isub F dX6_back_25 ?_
    refine gm_put_28 F dX6_back_26 ?_
    refine g_iconst F dX6_back_29 ?_
    refine g_istore_n F (lv' := [(1, .int (iI 0)), (0, .ref (ma 100))]) 1 dX6_back_30 rfl (by decide) rfl ?_
    have L31 : ∀ (mz31 : Nat) (k : Int) (f : Int → Int), (74 - k).toNat = mz31 → (0 ≤ k ∧ k ≤ 74) → (f = upTo (M 27) (fun j => M 26 (74 * (M 28 0 - 1) + j)) k) → G E (mw κ ma (mA (mA (mA M 10 (fun _ => 0)) 28 (fun _ => M 28 0 - 1)) 27 f)) [(1, .int (iI k)), (0, .ref (ma 100))] 31 [] := by
      intro mz31
      induction mz31 using Nat.strongRecOn with
      | _ mz31 ih31 =>
      intro k f hmz31 hk hf
      refine g_iload_n F 0 dX6_back_31 rfl ?_
      refine g_bipush F dX6_back_32 (by decide +kernel) ?_
      refine g_icmp_ge F 63 (by omega) dX6_back_34 (by decide) (fun c34 => ?_) (fun c34 => ?_)
      · skip
        refine g_aload_n F 1 dX6_back_63 rfl ?_
        refine g_aload_n F 1 dX6_back_64 rfl ?_
        refine gm_get_27 F dX6_back_65 ?_
        refine g_iconst F dX6_back_68 ?_
        refine g_callV F (stk := [.int (iI 0), .ref (ma 27), .ref (ma 100)]) (st := []) (k_X6_carryAll_f27 κ ma (mA (mA (mA M 10 (fun _ => 0)) 28 (fun _ => M 28 0 - 1)) 27 f) M0 (fun z a b => by show f z = _; rw [hf, show k = 74 by omega, upTo_in a b]; exact hb (by omega) z a b)) cal_X6_carryAll lm_X6_215 0 rfl rfl rfl rfl (by decide) rfl (Nat.le_of_ble_eq_true rfl) dX6_back_69 (fun ws69 _ hr69 => ?_)
        obtain rfl := hr69
        refine g_aload_n F 1 dX6_back_72 rfl ?_
        refine gm_get_28 F dX6_back_73 ?_
        refine g_top (y := iI (M 28 0 - 1)) rfl ?_
        have hq : M 28 0 - 1 = qBack (M 28 0) := by unfold qBack; (repeat' split) <;> omega
        exact K mw_same ⟨_, rfl, iIc hq, (by rw [show eBackM M M0 = _ from if_pos (by omega)]; exact ⟨rfl, rfl, rfl, rfl, rfl, rfl, rfl, rfl, rfl, rfl, rfl, rfl, rfl, rfl, rfl, rfl, rfl, rfl⟩), (by rw [← hq]; show M 11 = _; exact (rfa_n (by omega)).symm)⟩ rfl dX6_back_76
      · skip
        refine g_aload_n F 1 dX6_back_37 rfl ?_
        refine gm_get_27 F dX6_back_38 ?_
        refine g_iload_n F 0 dX6_back_41 rfl ?_
        refine g_aload_n F 1 dX6_back_42 rfl ?_
        refine gm_get_26 F dX6_back_43 ?_
        refine g_bipush F dX6_back_46 (by decide +kernel) ?_
        refine g_aload_n F 1 dX6_back_48 rfl ?_
        refine gm_get_28 F dX6_back_49 ?_
        refine g_top (y := iI (M 28 0 - 1)) rfl ?_
        refine g_imul F dX6_back_52 ?_
        refine g_iload_n F 0 dX6_back_53 rfl ?_
        refine g_iadd F dX6_back_54 ?_
        refine gm_ald_26 F (by omega) dX6_back_55 ?_
        refine g_top (y := iI (M 26 ((74 * (M 28 0 - 1)) + k))) rfl ?_
        refine gm_astS_27 F (by omega) dX6_back_56 ?_
        refine g_iinc F (lv' := [(1, .int (iI (k + 1))), (0, .ref (ma 100))]) 0 dX6_back_57 rfl (by decide) rfl ?_
        refine g_goto F 31 dX6_back_60 (by decide) ?_
        refine g_sub F (lv' := [(1, .int (iI (k + 1))), (0, .ref (ma 100))]) [0, 1] rfl ?_
        exact ih31 _ (by omega) (k + 1) (uI f k (M 26 ((74 * (M 28 0 - 1)) + k))) rfl (by omega) (by rw [hf, ← upTo_s _ _ hk.1])
    refine g_sub F (lv' := [(1, .int (iI 0)), (0, .ref (ma 100))]) [0, 1] rfl ?_
    refine g_ws (ws' := mw κ ma (mA (mA (mA M 10 (fun _ => 0)) 28 (fun _ => M 28 0 - 1)) 27 (M 27))) (congrArg (mw κ ma) (mA_self (M := mA (mA M 10 (fun _ => 0)) 28 (fun _ => M 28 0 - 1)) (k := 27)).symm) ?_
    exact L31 _ 0 (M 27) rfl (by omega) (upTo_0 _ _).symm
  · skip
    refine g_aload_n F 0 dX6_back_12 rfl ?_
    refine g_bipush F dX6_back_13 (by decide +kernel) ?_
    refine g_callI F (stk := [.int (iI (-3)), .ref (ma 100)]) (st := []) (k_X6_refuse κ ma (mA M 10 (fun _ => 0)) (-3) (by omega)) cal_X6_refuse lm_X6_138 0 rfl rfl rfl rfl (by decide) rfl (Nat.le_of_ble_eq_true rfl) dX6_back_15 (fun r15 ws15 _ hr15 => ?_)
    obtain ⟨rfl, rfl⟩ := hr15
    refine g_top (y := iI (-3)) rfl ?_
    refine g_ws (ws' := mw κ ma (mA (mA M 10 (fun _ => 0)) 11 (uI (M 11) (-(-3)) (M 11 (-(-3)) + 1)))) rfl ?_
    have hq : (-3) = qBack (M 28 0) := by unfold qBack; (repeat' split) <;> omega
    exact K mw_same ⟨_, rfl, iIc hq, (by rw [show eBackM M M0 = _ from if_neg (by omega)]; exact ⟨rfl, rfl, rfl, rfl, rfl, rfl, rfl, rfl, rfl, rfl, rfl, rfl, rfl, rfl, rfl, rfl, rfl, rfl⟩), (by rw [← hq]; exact (rfa_r (by omega)).symm)⟩ rfl dX6_back_18
theorem dX5_back_0 : decode cX5_back 0 = .ok (.aload_n 0, 1) := by decide +kernel
theorem dX5_back_1 : decode cX5_back 1 = .ok (.getfield 26, 3) := by decide +kernel
theorem dX5_back_4 : decode cX5_back 4 = .ok (.getfield 211, 3) := by decide +kernel
theorem dX5_back_7 : decode cX5_back 7 = .ok (.ifCond .ne 10, 3) := by decide +kernel
theorem dX5_back_10 : decode cX5_back 10 = .ok (.aload_n 0, 1) := by decide +kernel
theorem dX5_back_11 : decode cX5_back 11 = .ok (.bipush (-3), 2) := by decide +kernel
theorem dX5_back_13 : decode cX5_back 13 = .ok (.invokevirtual 69, 3) := by decide +kernel
theorem dX5_back_16 : decode cX5_back 16 = .ok (.ireturn, 1) := by decide +kernel
theorem dX5_back_17 : decode cX5_back 17 = .ok (.aload_n 0, 1) := by decide +kernel
theorem dX5_back_18 : decode cX5_back 18 = .ok (.getfield 26, 3) := by decide +kernel
theorem dX5_back_21 : decode cX5_back 21 = .ok (.aload_n 0, 1) := by decide +kernel
theorem dX5_back_22 : decode cX5_back 22 = .ok (.getfield 10, 3) := by decide +kernel
theorem dX5_back_25 : decode cX5_back 25 = .ok (.aload_n 0, 1) := by decide +kernel
theorem dX5_back_26 : decode cX5_back 26 = .ok (.getfield 19, 3) := by decide +kernel
theorem dX5_back_29 : decode cX5_back 29 = .ok (.invokevirtual 212, 3) := by decide +kernel
theorem dX5_back_32 : decode cX5_back 32 = .ok (.aload_n 0, 1) := by decide +kernel
theorem dX5_back_33 : decode cX5_back 33 = .ok (.getfield 26, 3) := by decide +kernel
theorem dX5_back_36 : decode cX5_back 36 = .ok (.getfield 211, 3) := by decide +kernel
theorem dX5_back_39 : decode cX5_back 39 = .ok (.ireturn, 1) := by decide +kernel
set_option maxRecDepth 100000 in
set_option maxHeartbeats 4000000 in
theorem k_X5_back (κ : Kp) (xa : Nat → Nat → Nat) (X : XS)  (h15 : (0 ≤ X 15 2 0 ∧ X 15 2 0 < 8) ∧ 0 ≤ X 15 3 0 ∧ X 15 3 0 ≤ 8) : mI κ yX5_back cX5_back 1 .int 3 [.ref (xa 18 100)] (xw κ xa X) (qXs κ xa (eBackX X) X (qBack (X 15 3 0))) := by
  refine mI_of (by decide) (Nat.le_of_ble_eq_true rfl) (fun E F K => ?_)
  refine g_lv (lv' := [(0, .ref (xa 18 100))]) rfl ?_
  refine g_aload_n F 0 dX5_back_0 rfl ?_
  refine g18_get_2 F  lf_X5_26 dX5_back_1 ?_
  refine g15_getN_3 F  nf_X5_211 dX5_back_4 ?_
  refine g_if_ne F 17 (by omega) dX5_back_7 (by decide) (fun c7 => ?_) (fun c7 => ?_)
  · skip
    refine g_aload_n F 0 dX5_back_17 rfl ?_
    refine g18_get_2 F  lf_X5_26 dX5_back_18 ?_
    refine g_aload_n F 0 dX5_back_21 rfl ?_
    refine g18_get_0 F  lf_X5_10 dX5_back_22 ?_
    refine g_aload_n F 0 dX5_back_25 rfl ?_
    refine g18_get_1 F  lf_X5_19 dX5_back_26 ?_
    refine g_callNV F (stk := [.ref (xa 12 100), .ref (xa 0 100), .ref (xa 15 100)]) (st := []) (k_X1_takeBack κ xa X (X 15 2 0) ((X 15 2 0 + 8 - 1) % 8) (by omega) rfl rfl (by omega)) cal_X1_takeBack nm_X5_212 72 rfl rfl rfl rfl (by decide) rfl (Nat.le_of_ble_eq_true rfl) dX5_back_29 (fun ws29 _ hr29 => ?_)
    obtain rfl := hr29
    refine g_ws (ws' := xw κ xa (takeX X)) rfl ?_
    refine g_aload_n F 0 dX5_back_32 rfl ?_
    refine g18_get_2 F  lf_X5_26 dX5_back_33 ?_
    refine g15_getN_3 F  nf_X5_211 dX5_back_36 ?_
    refine g_top (y := iI (X 15 3 0 - 1)) rfl ?_
    have hq : X 15 3 0 - 1 = qBack (X 15 3 0) := by unfold qBack; (repeat' split) <;> omega
    exact K xw_same ⟨_, rfl, iIc hq, (by rw [show eBackX X = _ from if_pos (by omega)]; exact sX_0), (by rw [← hq]; exact (rfa_n (by omega)).symm)⟩ rfl dX5_back_39
  · skip
    refine g_aload_n F 0 dX5_back_10 rfl ?_
    refine g_bipush F dX5_back_11 (by decide +kernel) ?_
    refine g_callI F (stk := [.int (iI (-3)), .ref (xa 18 100)]) (st := []) (k_X5_refuse κ xa X (-3) (by omega)) cal_X5_refuse lm_X5_69 81 rfl rfl rfl rfl (by decide) rfl (Nat.le_of_ble_eq_true rfl) dX5_back_13 (fun r13 ws13 _ hr13 => ?_)
    obtain ⟨rfl, rfl⟩ := hr13
    have hq : (-3) = qBack (X 15 3 0) := by unfold qBack; (repeat' split) <;> omega
    exact K xw_same ⟨_, rfl, iIc hq, (by rw [show eBackX X = _ from if_neg (by omega)]; exact (sX_18 sX_0 rfl rfl rfl)), (by rw [← hq]; exact (rfa_r (by omega)).symm)⟩ rfl dX5_back_16
theorem dX6_image_0 : decode cX6_image 0 = .ok (.aload_n 0, 1) := by decide +kernel
theorem dX6_image_1 : decode cX6_image 1 = .ok (.iconst 0, 1) := by decide +kernel
theorem dX6_image_2 : decode cX6_image 2 = .ok (.putfield 91, 3) := by decide +kernel
theorem dX6_image_5 : decode cX6_image 5 = .ok (.aload_n 0, 1) := by decide +kernel
theorem dX6_image_6 : decode cX6_image 6 = .ok (.iconst 1, 1) := by decide +kernel
theorem dX6_image_7 : decode cX6_image 7 = .ok (.putfield 219, 3) := by decide +kernel
theorem dX6_image_10 : decode cX6_image 10 = .ok (.aload_n 0, 1) := by decide +kernel
theorem dX6_image_11 : decode cX6_image 11 = .ok (.aload_n 0, 1) := by decide +kernel
theorem dX6_image_12 : decode cX6_image 12 = .ok (.getfield 52, 3) := by decide +kernel
theorem dX6_image_15 : decode cX6_image 15 = .ok (.iconst 1, 1) := by decide +kernel
theorem dX6_image_16 : decode cX6_image 16 = .ok (.invokevirtual 215, 3) := by decide +kernel
theorem dX6_image_19 : decode cX6_image 19 = .ok (.aload_n 0, 1) := by decide +kernel
theorem dX6_image_20 : decode cX6_image 20 = .ok (.getfield 125, 3) := by decide +kernel
theorem dX6_image_23 : decode cX6_image 23 = .ok (.ireturn, 1) := by decide +kernel
set_option maxRecDepth 100000 in
set_option maxHeartbeats 4000000 in
theorem k_X6_image (κ : Kp) (ma : Nat → Nat) (M : MS)  (ok : okC (cl M)) : mI κ yX6_image cX6_image 1 .int 3 [.ref (ma 100)] (mw κ ma M) (qMs κ ma (eImageM M) M (qImage (M 4 0))) := by
  refine mI_of (by decide) (Nat.le_of_ble_eq_true rfl) (fun E F K => ?_)
  refine g_lv (lv' := [(0, .ref (ma 100))]) rfl ?_
  refine g_aload_n F 0 dX6_image_0 rfl ?_
  refine g_iconst F dX6_image_1 ?_
  refine gm_put_10 F dX6_image_2 ?_
  have hy0 : 0 ≤ M 4 0 := ok.2
  refine g_aload_n F 0 dX6_image_5 rfl ?_
  refine g_iconst F dX6_image_6 ?_
  refine gm_put_22 F (by omega) dX6_image_7 ?_
  refine g_aload_n F 0 dX6_image_10 rfl ?_
  refine g_aload_n F 0 dX6_image_11 rfl ?_
  refine gm_get_21 F dX6_image_12 ?_
  refine g_iconst F dX6_image_15 ?_
  refine g_callV F (stk := [.int (iI 1), .ref (ma 21), .ref (ma 100)]) (st := []) (k_X6_carryAll_t21 κ ma (mA (mA M 10 (fun _ => 0)) 22 (fun _ => 1))) cal_X6_carryAll lm_X6_215 0 rfl rfl rfl rfl (by decide) rfl (Nat.le_of_ble_eq_true rfl) dX6_image_16 (fun ws16 _ hr16 => ?_)
  obtain rfl := hr16
  refine g_ws (ws' := mw κ ma (cst (mA (mA M 10 (fun _ => 0)) 22 (fun _ => 1)) 21 1 74 (snapF M) (mA (mA M 10 (fun _ => 0)) 22 (fun _ => 1)))) (by rw [snapF_mA (by decide), snapF_mA (by decide)]) ?_
  refine g_aload_n F 0 dX6_image_19 rfl ?_
  refine gm_get_4 F dX6_image_20 ?_
  refine g_top (y := iI (M 4 0)) rfl ?_
  have hq : M 4 0 = qImage (M 4 0) := by unfold qImage; (repeat' split) <;> omega
  exact K mw_same ⟨_, rfl, iIc hq, (by rw [show eImageM M = _ from if_pos (by omega)]; exact ⟨rfl, rfl, rfl, rfl, rfl, rfl, rfl, rfl, rfl, rfl, rfl, rfl, rfl, rfl, rfl, rfl, rfl, rfl⟩), (by rw [← hq]; show M 11 = _; exact (rfa_n (by omega)).symm)⟩ rfl dX6_image_23
theorem dX5_image_0 : decode cX5_image 0 = .ok (.aload_n 0, 1) := by decide +kernel
theorem dX5_image_1 : decode cX5_image 1 = .ok (.getfield 44, 3) := by decide +kernel
theorem dX5_image_4 : decode cX5_image 4 = .ok (.aload_n 0, 1) := by decide +kernel
theorem dX5_image_5 : decode cX5_image 5 = .ok (.getfield 10, 3) := by decide +kernel
theorem dX5_image_8 : decode cX5_image 8 = .ok (.invokevirtual 88, 3) := by decide +kernel
theorem dX5_image_11 : decode cX5_image 11 = .ok (.aload_n 0, 1) := by decide +kernel
theorem dX5_image_12 : decode cX5_image 12 = .ok (.getfield 47, 3) := by decide +kernel
theorem dX5_image_15 : decode cX5_image 15 = .ok (.aload_n 0, 1) := by decide +kernel
theorem dX5_image_16 : decode cX5_image 16 = .ok (.getfield 19, 3) := by decide +kernel
theorem dX5_image_19 : decode cX5_image 19 = .ok (.invokevirtual 92, 3) := by decide +kernel
theorem dX5_image_22 : decode cX5_image 22 = .ok (.aload_n 0, 1) := by decide +kernel
theorem dX5_image_23 : decode cX5_image 23 = .ok (.iconst 1, 1) := by decide +kernel
theorem dX5_image_24 : decode cX5_image 24 = .ok (.putfield 336, 3) := by decide +kernel
theorem dX5_image_27 : decode cX5_image 27 = .ok (.aload_n 0, 1) := by decide +kernel
theorem dX5_image_28 : decode cX5_image 28 = .ok (.getfield 10, 3) := by decide +kernel
theorem dX5_image_31 : decode cX5_image 31 = .ok (.getfield 163, 3) := by decide +kernel
theorem dX5_image_34 : decode cX5_image 34 = .ok (.ireturn, 1) := by decide +kernel
set_option maxRecDepth 100000 in
set_option maxHeartbeats 4000000 in
theorem k_X5_image (κ : Kp) (xa : Nat → Nat → Nat) (X : XS)  (ok : okC (cl (X 0))) : mI κ yX5_image cX5_image 1 .int 3 [.ref (xa 18 100)] (xw κ xa X) (qXs κ xa (eImageX X) X (qImage (X 0 4 0))) := by
  refine mI_of (by decide) (Nat.le_of_ble_eq_true rfl) (fun E F K => ?_)
  refine g_lv (lv' := [(0, .ref (xa 18 100))]) rfl ?_
  have hy0 : 0 ≤ X 0 4 0 := ok.2
  refine g_aload_n F 0 dX5_image_0 rfl ?_
  refine g18_get_7 F  lf_X5_44 dX5_image_1 ?_
  refine g_aload_n F 0 dX5_image_4 rfl ?_
  refine g18_get_0 F  lf_X5_10 dX5_image_5 ?_
  refine g_callNV F (stk := [.ref (xa 0 100), .ref (xa 1 100)]) (st := []) (k_X0_become κ xa X 1 (by decide) 0 (by decide) (by decide)) cal_X0_become nm_X5_88 5 rfl rfl rfl rfl (by decide) rfl (Nat.le_of_ble_eq_true rfl) dX5_image_8 (fun ws8 _ hr8 => ?_)
  obtain rfl := hr8
  refine g_aload_n F 0 dX5_image_11 rfl ?_
  refine g18_get_8 F  lf_X5_47 dX5_image_12 ?_
  refine g_aload_n F 0 dX5_image_15 rfl ?_
  refine g18_get_1 F  lf_X5_19 dX5_image_16 ?_
  refine g_callNV F (stk := [.ref (xa 12 100), .ref (xa 13 100)]) (st := []) (k_X2_become κ xa (setO X 1 (stC (X 1) (cl (X 0)))) 1 (by decide) 0 (by decide) (by decide)) cal_X2_become nm_X5_92 64 rfl rfl rfl rfl (by decide) rfl (Nat.le_of_ble_eq_true rfl) dX5_image_19 (fun ws19 _ hr19 => ?_)
  obtain rfl := hr19
  refine g_ws (ws' := xw κ xa (setO (setO X 1 (stC (X 1) (cl (X 0)))) 13 (stR (X 13) (rl (X 12))))) rfl ?_
  refine g_aload_n F 0 dX5_image_22 rfl ?_
  refine g_iconst F dX5_image_23 ?_
  refine g18_put_9 F (by omega)  lf_X5_336 dX5_image_24 ?_
  refine g_ws (ws' := xw κ xa (setO (setO (setO X 1 (stC (X 1) (cl (X 0)))) 13 (stR (X 13) (rl (X 12)))) 18 (mA (X 18) 9 (fun _ => 1)))) rfl ?_
  refine g_aload_n F 0 dX5_image_27 rfl ?_
  refine g18_get_0 F  lf_X5_10 dX5_image_28 ?_
  refine gc_getN_4 F (o := 0) (by decide) nf_X5_163 dX5_image_31 ?_
  refine g_top (y := iI ((X 0) 4 0)) rfl ?_
  have hq : (X 0) 4 0 = qImage (X 0 4 0) := by unfold qImage; (repeat' split) <;> omega
  exact K xw_same ⟨_, rfl, iIc hq, (by rw [show eImageX X = _ from if_pos (by omega)]; exact sX_0), (by rw [← hq]; exact (rfa_n (by omega)).symm)⟩ rfl dX5_image_34
theorem dX6_restore_0 : decode cX6_restore 0 = .ok (.aload_n 0, 1) := by decide +kernel
theorem dX6_restore_1 : decode cX6_restore 1 = .ok (.iconst 0, 1) := by decide +kernel
theorem dX6_restore_2 : decode cX6_restore 2 = .ok (.putfield 91, 3) := by decide +kernel
theorem dX6_restore_5 : decode cX6_restore 5 = .ok (.aload_n 0, 1) := by decide +kernel
theorem dX6_restore_6 : decode cX6_restore 6 = .ok (.getfield 219, 3) := by decide +kernel
theorem dX6_restore_9 : decode cX6_restore 9 = .ok (.ifCond .ne 10, 3) := by decide +kernel
theorem dX6_restore_12 : decode cX6_restore 12 = .ok (.aload_n 0, 1) := by decide +kernel
theorem dX6_restore_13 : decode cX6_restore 13 = .ok (.bipush (-3), 2) := by decide +kernel
theorem dX6_restore_15 : decode cX6_restore 15 = .ok (.invokevirtual 138, 3) := by decide +kernel
theorem dX6_restore_18 : decode cX6_restore 18 = .ok (.ireturn, 1) := by decide +kernel
theorem dX6_restore_19 : decode cX6_restore 19 = .ok (.aload_n 0, 1) := by decide +kernel
theorem dX6_restore_20 : decode cX6_restore 20 = .ok (.aload_n 0, 1) := by decide +kernel
theorem dX6_restore_21 : decode cX6_restore 21 = .ok (.getfield 52, 3) := by decide +kernel
theorem dX6_restore_24 : decode cX6_restore 24 = .ok (.iconst 0, 1) := by decide +kernel
theorem dX6_restore_25 : decode cX6_restore 25 = .ok (.invokevirtual 215, 3) := by decide +kernel
theorem dX6_restore_28 : decode cX6_restore 28 = .ok (.aload_n 0, 1) := by decide +kernel
theorem dX6_restore_29 : decode cX6_restore 29 = .ok (.iconst 0, 1) := by decide +kernel
theorem dX6_restore_30 : decode cX6_restore 30 = .ok (.putfield 200, 3) := by decide +kernel
theorem dX6_restore_33 : decode cX6_restore 33 = .ok (.aload_n 0, 1) := by decide +kernel
theorem dX6_restore_34 : decode cX6_restore 34 = .ok (.getfield 125, 3) := by decide +kernel
theorem dX6_restore_37 : decode cX6_restore 37 = .ok (.ireturn, 1) := by decide +kernel
set_option maxRecDepth 100000 in
set_option maxHeartbeats 4000000 in
theorem k_X6_restore (κ : Kp) (ma : Nat → Nat) (M : MS) (M0 : MS)  (hi : M 22 0 = 0 ∨ M 22 0 = 1) (hS : M 22 0 = 1 → ∀ z : Int, 0 ≤ z → z < 74 → M 21 z = snapF M0 z) (hy : 0 ≤ M0 4 0) : mI κ yX6_restore cX6_restore 1 .int 3 [.ref (ma 100)] (mw κ ma M) (qMs κ ma (eRestoreM M M0) M (qRestore (M 22 0) (M0 4 0))) := by
  refine mI_of (by decide) (Nat.le_of_ble_eq_true rfl) (fun E F K => ?_)
  refine g_lv (lv' := [(0, .ref (ma 100))]) rfl ?_
  refine g_aload_n F 0 dX6_restore_0 rfl ?_
  refine g_iconst F dX6_restore_1 ?_
  refine gm_put_10 F dX6_restore_2 ?_
  refine g_aload_n F 0 dX6_restore_5 rfl ?_
  refine gm_get_22 F dX6_restore_6 ?_
  refine g_top (y := iI (M 22 0)) rfl ?_
  refine g_if_ne F 19 (by omega) dX6_restore_9 (by decide) (fun c9 => ?_) (fun c9 => ?_)
  · skip
    refine g_aload_n F 0 dX6_restore_19 rfl ?_
    refine g_aload_n F 0 dX6_restore_20 rfl ?_
    refine gm_get_21 F dX6_restore_21 ?_
    refine g_iconst F dX6_restore_24 ?_
    refine g_callV F (stk := [.int (iI 0), .ref (ma 21), .ref (ma 100)]) (st := []) (k_X6_carryAll_f21 κ ma (mA M 10 (fun _ => 0)) M0 (hS (by omega))) cal_X6_carryAll lm_X6_215 0 rfl rfl rfl rfl (by decide) rfl (Nat.le_of_ble_eq_true rfl) dX6_restore_25 (fun ws25 _ hr25 => ?_)
    obtain rfl := hr25
    refine g_aload_n F 0 dX6_restore_28 rfl ?_
    refine g_iconst F dX6_restore_29 ?_
    refine gm_put_28 F dX6_restore_30 ?_
    refine g_aload_n F 0 dX6_restore_33 rfl ?_
    refine gm_get_4 F dX6_restore_34 ?_
    refine g_top (y := iI (M0 4 0)) rfl ?_
    have hq : M0 4 0 = qRestore (M 22 0) (M0 4 0) := by unfold qRestore; (repeat' split) <;> omega
    exact K mw_same ⟨_, rfl, iIc hq, (by rw [show eRestoreM M M0 = _ from if_pos (by omega)]; exact ⟨rfl, rfl, rfl, rfl, rfl, rfl, rfl, rfl, rfl, rfl, rfl, rfl, rfl, rfl, rfl, rfl, rfl, rfl⟩), (by rw [← hq]; show M 11 = _; exact (rfa_n (by omega)).symm)⟩ rfl dX6_restore_37
  · skip
    refine g_aload_n F 0 dX6_restore_12 rfl ?_
    refine g_bipush F dX6_restore_13 (by decide +kernel) ?_
    refine g_callI F (stk := [.int (iI (-3)), .ref (ma 100)]) (st := []) (k_X6_refuse κ ma (mA M 10 (fun _ => 0)) (-3) (by omega)) cal_X6_refuse lm_X6_138 0 rfl rfl rfl rfl (by decide) rfl (Nat.le_of_ble_eq_true rfl) dX6_restore_15 (fun r15 ws15 _ hr15 => ?_)
    obtain ⟨rfl, rfl⟩ := hr15
    refine g_top (y := iI (-3)) rfl ?_
    refine g_ws (ws' := mw κ ma (mA (mA M 10 (fun _ => 0)) 11 (uI (M 11) (-(-3)) (M 11 (-(-3)) + 1)))) rfl ?_
    have hq : (-3) = qRestore (M 22 0) (M0 4 0) := by unfold qRestore; (repeat' split) <;> omega
    exact K mw_same ⟨_, rfl, iIc hq, (by rw [show eRestoreM M M0 = _ from if_neg (by omega)]; exact ⟨rfl, rfl, rfl, rfl, rfl, rfl, rfl, rfl, rfl, rfl, rfl, rfl, rfl, rfl, rfl, rfl, rfl, rfl⟩), (by rw [← hq]; exact (rfa_r (by omega)).symm)⟩ rfl dX6_restore_18
theorem dX5_restore_0 : decode cX5_restore 0 = .ok (.aload_n 0, 1) := by decide +kernel
theorem dX5_restore_1 : decode cX5_restore 1 = .ok (.getfield 336, 3) := by decide +kernel
theorem dX5_restore_4 : decode cX5_restore 4 = .ok (.ifCond .ne 10, 3) := by decide +kernel
theorem dX5_restore_7 : decode cX5_restore 7 = .ok (.aload_n 0, 1) := by decide +kernel
theorem dX5_restore_8 : decode cX5_restore 8 = .ok (.bipush (-3), 2) := by decide +kernel
theorem dX5_restore_10 : decode cX5_restore 10 = .ok (.invokevirtual 69, 3) := by decide +kernel
theorem dX5_restore_13 : decode cX5_restore 13 = .ok (.ireturn, 1) := by decide +kernel
theorem dX5_restore_14 : decode cX5_restore 14 = .ok (.aload_n 0, 1) := by decide +kernel
theorem dX5_restore_15 : decode cX5_restore 15 = .ok (.getfield 10, 3) := by decide +kernel
theorem dX5_restore_18 : decode cX5_restore 18 = .ok (.aload_n 0, 1) := by decide +kernel
theorem dX5_restore_19 : decode cX5_restore 19 = .ok (.getfield 44, 3) := by decide +kernel
theorem dX5_restore_22 : decode cX5_restore 22 = .ok (.invokevirtual 88, 3) := by decide +kernel
theorem dX5_restore_25 : decode cX5_restore 25 = .ok (.aload_n 0, 1) := by decide +kernel
theorem dX5_restore_26 : decode cX5_restore 26 = .ok (.getfield 19, 3) := by decide +kernel
theorem dX5_restore_29 : decode cX5_restore 29 = .ok (.aload_n 0, 1) := by decide +kernel
theorem dX5_restore_30 : decode cX5_restore 30 = .ok (.getfield 47, 3) := by decide +kernel
theorem dX5_restore_33 : decode cX5_restore 33 = .ok (.invokevirtual 92, 3) := by decide +kernel
theorem dX5_restore_36 : decode cX5_restore 36 = .ok (.aload_n 0, 1) := by decide +kernel
theorem dX5_restore_37 : decode cX5_restore 37 = .ok (.getfield 26, 3) := by decide +kernel
theorem dX5_restore_40 : decode cX5_restore 40 = .ok (.invokevirtual 108, 3) := by decide +kernel
theorem dX5_restore_43 : decode cX5_restore 43 = .ok (.aload_n 0, 1) := by decide +kernel
theorem dX5_restore_44 : decode cX5_restore 44 = .ok (.getfield 10, 3) := by decide +kernel
theorem dX5_restore_47 : decode cX5_restore 47 = .ok (.getfield 163, 3) := by decide +kernel
theorem dX5_restore_50 : decode cX5_restore 50 = .ok (.ireturn, 1) := by decide +kernel
set_option maxRecDepth 100000 in
set_option maxHeartbeats 4000000 in
theorem k_X5_restore (κ : Kp) (xa : Nat → Nat → Nat) (X : XS)  (hi : X 18 9 0 = 0 ∨ X 18 9 0 = 1) (hy : 0 ≤ X 1 4 0) : mI κ yX5_restore cX5_restore 1 .int 3 [.ref (xa 18 100)] (xw κ xa X) (qXs κ xa (eRestoreX X) X (qRestore (X 18 9 0) (X 1 4 0))) := by
  refine mI_of (by decide) (Nat.le_of_ble_eq_true rfl) (fun E F K => ?_)
  refine g_lv (lv' := [(0, .ref (xa 18 100))]) rfl ?_
  refine g_aload_n F 0 dX5_restore_0 rfl ?_
  refine g18_get_9 F  lf_X5_336 dX5_restore_1 ?_
  refine g_if_ne F 14 (by omega) dX5_restore_4 (by decide) (fun c4 => ?_) (fun c4 => ?_)
  · skip
    refine g_aload_n F 0 dX5_restore_14 rfl ?_
    refine g18_get_0 F  lf_X5_10 dX5_restore_15 ?_
    refine g_aload_n F 0 dX5_restore_18 rfl ?_
    refine g18_get_7 F  lf_X5_44 dX5_restore_19 ?_
    refine g_callNV F (stk := [.ref (xa 1 100), .ref (xa 0 100)]) (st := []) (k_X0_become κ xa X 0 (by decide) 1 (by decide) (by decide)) cal_X0_become nm_X5_88 0 rfl rfl rfl rfl (by decide) rfl (Nat.le_of_ble_eq_true rfl) dX5_restore_22 (fun ws22 _ hr22 => ?_)
    obtain rfl := hr22
    refine g_aload_n F 0 dX5_restore_25 rfl ?_
    refine g18_get_1 F  lf_X5_19 dX5_restore_26 ?_
    refine g_aload_n F 0 dX5_restore_29 rfl ?_
    refine g18_get_8 F  lf_X5_47 dX5_restore_30 ?_
    refine g_callNV F (stk := [.ref (xa 13 100), .ref (xa 12 100)]) (st := []) (k_X2_become κ xa (setO X 0 (stC (X 0) (cl (X 1)))) 0 (by decide) 1 (by decide) (by decide)) cal_X2_become nm_X5_92 60 rfl rfl rfl rfl (by decide) rfl (Nat.le_of_ble_eq_true rfl) dX5_restore_33 (fun ws33 _ hr33 => ?_)
    obtain rfl := hr33
    refine g_ws (ws' := xw κ xa (setO (setO X 0 (stC (X 0) (cl (X 1)))) 12 (stR (X 12) (rl (X 13))))) rfl ?_
    refine g_aload_n F 0 dX5_restore_36 rfl ?_
    refine g18_get_2 F  lf_X5_26 dX5_restore_37 ?_
    refine g_callNV F (stk := [.ref (xa 15 100)]) (st := []) (k_X1_forget κ xa (setO (setO X 0 (stC (X 0) (cl (X 1)))) 12 (stR (X 12) (rl (X 13))))) cal_X1_forget nm_X5_108 72 rfl rfl rfl rfl (by decide) rfl (Nat.le_of_ble_eq_true rfl) dX5_restore_40 (fun ws40 _ hr40 => ?_)
    obtain rfl := hr40
    refine g_ws (ws' := xw κ xa (setO (setO (setO X 0 (stC (X 0) (cl (X 1)))) 12 (stR (X 12) (rl (X 13)))) 15 (mA (X 15) 3 (fun _ => 0)))) rfl ?_
    refine g_aload_n F 0 dX5_restore_43 rfl ?_
    refine g18_get_0 F  lf_X5_10 dX5_restore_44 ?_
    refine gc_getN_4 F (o := 0) (by decide) nf_X5_163 dX5_restore_47 ?_
    refine g_top (y := iI (yr (cl (X 1)))) rfl ?_
    refine g_top (y := iI (X 1 4 0)) rfl ?_
    have hq : X 1 4 0 = qRestore (X 18 9 0) (X 1 4 0) := by unfold qRestore; (repeat' split) <;> omega
    exact K xw_same ⟨_, rfl, iIc hq, (by rw [show eRestoreX X = _ from if_pos (by omega)]; exact sX_0), (by rw [← hq]; exact (rfa_n (by omega)).symm)⟩ rfl dX5_restore_50
  · skip
    refine g_aload_n F 0 dX5_restore_7 rfl ?_
    refine g_bipush F dX5_restore_8 (by decide +kernel) ?_
    refine g_callI F (stk := [.int (iI (-3)), .ref (xa 18 100)]) (st := []) (k_X5_refuse κ xa X (-3) (by omega)) cal_X5_refuse lm_X5_69 81 rfl rfl rfl rfl (by decide) rfl (Nat.le_of_ble_eq_true rfl) dX5_restore_10 (fun r10 ws10 _ hr10 => ?_)
    obtain ⟨rfl, rfl⟩ := hr10
    have hq : (-3) = qRestore (X 18 9 0) (X 1 4 0) := by unfold qRestore; (repeat' split) <;> omega
    exact K xw_same ⟨_, rfl, iIc hq, (by rw [show eRestoreX X = _ from if_neg (by omega)]; exact (sX_18 sX_0 rfl rfl rfl)), (by rw [← hq]; exact (rfa_r (by omega)).symm)⟩ rfl dX5_restore_13
def s0 : Int := 0
def qCount (n : Int) (C : Cl) (fr ln rn pn : Int) (rf : Int → Int) (w : Int) : Int := if w = 0 then n else if w = 1 then yr C else if w = 2 then hbits C else if w = 3 then allAge C else if w = 4 then allWear C else if w = 5 then fr else if w = 6 then ln else if w = 7 then rn else if w = 8 then pn else if 11 ≤ w ∧ w ≤ 16 then rf (w - 10) else -9
theorem p2_6 {u : Int → Int} {n : Int} (h0 : 0 ≤ n) (h : n ≤ 6) : 0 ≤ fbits u n ∧ fbits u n < 64 := by
  have k := fbits_bd u h0
  have k2 := p2_le (n := 6) h
  have e : p2 6 = 64 := by decide
  omega
theorem dX6_count_0 : decode cX6_count 0 = .ok (.aload_n 0, 1) := by decide +kernel
theorem dX6_count_1 : decode cX6_count 1 = .ok (.iconst 0, 1) := by decide +kernel
theorem dX6_count_2 : decode cX6_count 2 = .ok (.putfield 91, 3) := by decide +kernel
theorem dX6_count_5 : decode cX6_count 5 = .ok (.iload_n 1, 1) := by decide +kernel
theorem dX6_count_6 : decode cX6_count 6 = .ok (.tableswitch 98 0 8 #[50, 55, 60, 65, 70, 75, 83, 88, 93], 50) := by decide +kernel
theorem dX6_count_56 : decode cX6_count 56 = .ok (.aload_n 0, 1) := by decide +kernel
theorem dX6_count_57 : decode cX6_count 57 = .ok (.getfield 101, 3) := by decide +kernel
theorem dX6_count_60 : decode cX6_count 60 = .ok (.ireturn, 1) := by decide +kernel
theorem dX6_count_61 : decode cX6_count 61 = .ok (.aload_n 0, 1) := by decide +kernel
theorem dX6_count_62 : decode cX6_count 62 = .ok (.getfield 125, 3) := by decide +kernel
theorem dX6_count_65 : decode cX6_count 65 = .ok (.ireturn, 1) := by decide +kernel
theorem dX6_count_66 : decode cX6_count 66 = .ok (.aload_n 0, 1) := by decide +kernel
theorem dX6_count_67 : decode cX6_count 67 = .ok (.invokevirtual 241, 3) := by decide +kernel
theorem dX6_count_70 : decode cX6_count 70 = .ok (.ireturn, 1) := by decide +kernel
theorem dX6_count_71 : decode cX6_count 71 = .ok (.aload_n 0, 1) := by decide +kernel
theorem dX6_count_72 : decode cX6_count 72 = .ok (.invokevirtual 329, 3) := by decide +kernel
theorem dX6_count_75 : decode cX6_count 75 = .ok (.ireturn, 1) := by decide +kernel
theorem dX6_count_76 : decode cX6_count 76 = .ok (.aload_n 0, 1) := by decide +kernel
theorem dX6_count_77 : decode cX6_count 77 = .ok (.invokevirtual 250, 3) := by decide +kernel
theorem dX6_count_80 : decode cX6_count 80 = .ok (.ireturn, 1) := by decide +kernel
theorem dX6_count_81 : decode cX6_count 81 = .ok (.aload_n 0, 1) := by decide +kernel
theorem dX6_count_82 : decode cX6_count 82 = .ok (.invokevirtual 261, 3) := by decide +kernel
theorem dX6_count_85 : decode cX6_count 85 = .ok (.invokestatic 244, 3) := by decide +kernel
theorem dX6_count_88 : decode cX6_count 88 = .ok (.ireturn, 1) := by decide +kernel
theorem dX6_count_89 : decode cX6_count 89 = .ok (.aload_n 0, 1) := by decide +kernel
theorem dX6_count_90 : decode cX6_count 90 = .ok (.getfield 141, 3) := by decide +kernel
theorem dX6_count_93 : decode cX6_count 93 = .ok (.ireturn, 1) := by decide +kernel
theorem dX6_count_94 : decode cX6_count 94 = .ok (.aload_n 0, 1) := by decide +kernel
theorem dX6_count_95 : decode cX6_count 95 = .ok (.getfield 295, 3) := by decide +kernel
theorem dX6_count_98 : decode cX6_count 98 = .ok (.ireturn, 1) := by decide +kernel
theorem dX6_count_99 : decode cX6_count 99 = .ok (.aload_n 0, 1) := by decide +kernel
theorem dX6_count_100 : decode cX6_count 100 = .ok (.getfield 200, 3) := by decide +kernel
theorem dX6_count_103 : decode cX6_count 103 = .ok (.ireturn, 1) := by decide +kernel
theorem dX6_count_104 : decode cX6_count 104 = .ok (.iload_n 1, 1) := by decide +kernel
theorem dX6_count_105 : decode cX6_count 105 = .ok (.i2l, 1) := by decide +kernel
theorem dX6_count_106 : decode cX6_count 106 = .ok (.ldc2_w 95, 3) := by decide +kernel
theorem dX6_count_109 : decode cX6_count 109 = .ok (.ldc2_w 343, 3) := by decide +kernel
theorem dX6_count_112 : decode cX6_count 112 = .ok (.invokestatic 97, 3) := by decide +kernel
theorem dX6_count_115 : decode cX6_count 115 = .ok (.ifCond .eq 15, 3) := by decide +kernel
theorem dX6_count_118 : decode cX6_count 118 = .ok (.aload_n 0, 1) := by decide +kernel
theorem dX6_count_119 : decode cX6_count 119 = .ok (.getfield 34, 3) := by decide +kernel
theorem dX6_count_122 : decode cX6_count 122 = .ok (.iload_n 1, 1) := by decide +kernel
theorem dX6_count_123 : decode cX6_count 123 = .ok (.bipush 10, 2) := by decide +kernel
theorem dX6_count_125 : decode cX6_count 125 = .ok (.isub, 1) := by decide +kernel
theorem dX6_count_126 : decode cX6_count 126 = .ok (.iaload, 1) := by decide +kernel
theorem dX6_count_127 : decode cX6_count 127 = .ok (.goto 5, 3) := by decide +kernel
theorem dX6_count_130 : decode cX6_count 130 = .ok (.bipush (-9), 2) := by decide +kernel
theorem dX6_count_132 : decode cX6_count 132 = .ok (.ireturn, 1) := by decide +kernel
set_option maxRecDepth 100000 in
set_option maxHeartbeats 4000000 in
theorem k_X6_count (κ : Kp) (ma : Nat → Nat) (M : MS) (w : Int)  (ha_w : In32 w) (ok : okC (cl M)) (okr : okR M) : mI κ yX6_count cX6_count 2 .int 3 [.ref (ma 100), .int (iI w)] (mw κ ma M) (qM2 κ ma M (qCount (M 5 0) (cl M) (pcnt (fbits (M 9) (M 5 0))) (M 13 0) (M 38 0) (M 28 0) (M 11) w) (s0)) := by
  refine mI_of (by decide) (Nat.le_of_ble_eq_true rfl) (fun E F K => ?_)
  refine g_lv (lv' := [(0, .ref (ma 100)), (1, .int (iI w))]) rfl ?_
  refine g_aload_n F 0 dX6_count_0 rfl ?_
  refine g_iconst F dX6_count_1 ?_
  refine gm_put_10 F dX6_count_2 ?_
  have hn := okr.1
  have hyr : yr (cl M) = M 4 0 := rfl
  have hfb := p2_6 (u := M 9) hn.1 hn.2
  refine g_iload_n F 1 dX6_count_5 rfl ?_
  by_cases c6_0 : w = 0
  · skip
    refine g_tsw_in F 56 (by omega) dX6_count_6 (by omega) (by omega) (by rw [c6_0]; rfl) (by decide) ?_
    refine g_aload_n F 0 dX6_count_56 rfl ?_
    refine gm_get_5 F dX6_count_57 ?_
    refine g_top (y := iI (M 5 0)) rfl ?_
    have hq : M 5 0 = qCount (M 5 0) (cl M) (pcnt (fbits (M 9) (M 5 0))) (M 13 0) (M 38 0) (M 28 0) (M 11) w := by unfold qCount; (repeat' split) <;> omega
    have hsr : ¬ (-6 ≤ s0 ∧ s0 ≤ -1) := by unfold s0; (repeat' split) <;> omega
    exact K mw_same ⟨_, rfl, iIc hq, ⟨rfl, rfl, rfl, rfl, rfl, rfl, rfl, rfl, rfl, rfl, rfl, rfl, rfl, rfl, rfl, rfl, rfl, rfl⟩, (by show M 11 = _; exact (rfa_n hsr).symm)⟩ rfl dX6_count_60
  by_cases c6_1 : w = 1
  · skip
    refine g_tsw_in F 61 (by omega) dX6_count_6 (by omega) (by omega) (by rw [c6_1]; rfl) (by decide) ?_
    refine g_aload_n F 0 dX6_count_61 rfl ?_
    refine gm_get_4 F dX6_count_62 ?_
    refine g_top (y := iI (M 4 0)) rfl ?_
    have hq : M 4 0 = qCount (M 5 0) (cl M) (pcnt (fbits (M 9) (M 5 0))) (M 13 0) (M 38 0) (M 28 0) (M 11) w := by unfold qCount; (repeat' split) <;> omega
    have hsr : ¬ (-6 ≤ s0 ∧ s0 ≤ -1) := by unfold s0; (repeat' split) <;> omega
    exact K mw_same ⟨_, rfl, iIc hq, ⟨rfl, rfl, rfl, rfl, rfl, rfl, rfl, rfl, rfl, rfl, rfl, rfl, rfl, rfl, rfl, rfl, rfl, rfl⟩, (by show M 11 = _; exact (rfa_n hsr).symm)⟩ rfl dX6_count_65
  by_cases c6_2 : w = 2
  · skip
    refine g_tsw_in F 66 (by omega) dX6_count_6 (by omega) (by omega) (by rw [c6_2]; rfl) (by decide) ?_
    refine g_aload_n F 0 dX6_count_66 rfl ?_
    refine g_callI F (stk := [.ref (ma 100)]) (st := []) (k_X6_holeBits κ ma (mA M 10 (fun _ => 0)) ok) cal_X6_holeBits lm_X6_241 0 rfl rfl rfl rfl (by decide) rfl (Nat.le_of_ble_eq_true rfl) dX6_count_67 (fun r67 ws67 _ hr67 => ?_)
    obtain ⟨rfl, rfl⟩ := hr67
    refine g_top (y := iI (hbits (cl M))) rfl ?_
    have hq : hbits (cl M) = qCount (M 5 0) (cl M) (pcnt (fbits (M 9) (M 5 0))) (M 13 0) (M 38 0) (M 28 0) (M 11) w := by unfold qCount; (repeat' split) <;> omega
    have hsr : ¬ (-6 ≤ s0 ∧ s0 ≤ -1) := by unfold s0; (repeat' split) <;> omega
    exact K mw_same ⟨_, rfl, iIc hq, ⟨rfl, rfl, rfl, rfl, rfl, rfl, rfl, rfl, rfl, rfl, rfl, rfl, rfl, rfl, rfl, rfl, rfl, rfl⟩, (by show M 11 = _; exact (rfa_n hsr).symm)⟩ rfl dX6_count_70
  by_cases c6_3 : w = 3
  · skip
    refine g_tsw_in F 71 (by omega) dX6_count_6 (by omega) (by omega) (by rw [c6_3]; rfl) (by decide) ?_
    refine g_aload_n F 0 dX6_count_71 rfl ?_
    refine g_callI F (stk := [.ref (ma 100)]) (st := []) (k_X6_allAges κ ma (mA M 10 (fun _ => 0))) cal_X6_allAges lm_X6_329 0 rfl rfl rfl rfl (by decide) rfl (Nat.le_of_ble_eq_true rfl) dX6_count_72 (fun r72 ws72 _ hr72 => ?_)
    obtain ⟨rfl, rfl⟩ := hr72
    refine g_top (y := iI (allAge (cl M))) rfl ?_
    have hq : allAge (cl M) = qCount (M 5 0) (cl M) (pcnt (fbits (M 9) (M 5 0))) (M 13 0) (M 38 0) (M 28 0) (M 11) w := by unfold qCount; (repeat' split) <;> omega
    have hsr : ¬ (-6 ≤ s0 ∧ s0 ≤ -1) := by unfold s0; (repeat' split) <;> omega
    exact K mw_same ⟨_, rfl, iIc hq, ⟨rfl, rfl, rfl, rfl, rfl, rfl, rfl, rfl, rfl, rfl, rfl, rfl, rfl, rfl, rfl, rfl, rfl, rfl⟩, (by show M 11 = _; exact (rfa_n hsr).symm)⟩ rfl dX6_count_75
  by_cases c6_4 : w = 4
  · skip
    refine g_tsw_in F 76 (by omega) dX6_count_6 (by omega) (by omega) (by rw [c6_4]; rfl) (by decide) ?_
    refine g_aload_n F 0 dX6_count_76 rfl ?_
    refine g_callI F (stk := [.ref (ma 100)]) (st := []) (k_X6_allWear κ ma (mA M 10 (fun _ => 0))) cal_X6_allWear lm_X6_250 0 rfl rfl rfl rfl (by decide) rfl (Nat.le_of_ble_eq_true rfl) dX6_count_77 (fun r77 ws77 _ hr77 => ?_)
    obtain ⟨rfl, rfl⟩ := hr77
    refine g_top (y := iI (allWear (cl M))) rfl ?_
    have hq : allWear (cl M) = qCount (M 5 0) (cl M) (pcnt (fbits (M 9) (M 5 0))) (M 13 0) (M 38 0) (M 28 0) (M 11) w := by unfold qCount; (repeat' split) <;> omega
    have hsr : ¬ (-6 ≤ s0 ∧ s0 ≤ -1) := by unfold s0; (repeat' split) <;> omega
    exact K mw_same ⟨_, rfl, iIc hq, ⟨rfl, rfl, rfl, rfl, rfl, rfl, rfl, rfl, rfl, rfl, rfl, rfl, rfl, rfl, rfl, rfl, rfl, rfl⟩, (by show M 11 = _; exact (rfa_n hsr).symm)⟩ rfl dX6_count_80
  by_cases c6_5 : w = 5
  · skip
    refine g_tsw_in F 81 (by omega) dX6_count_6 (by omega) (by omega) (by rw [c6_5]; rfl) (by decide) ?_
    refine g_aload_n F 0 dX6_count_81 rfl ?_
    refine g_callI F (stk := [.ref (ma 100)]) (st := []) (k_X6_freeBits κ ma (mA M 10 (fun _ => 0)) okr) cal_X6_freeBits lm_X6_261 0 rfl rfl rfl rfl (by decide) rfl (Nat.le_of_ble_eq_true rfl) dX6_count_82 (fun r82 ws82 _ hr82 => ?_)
    obtain ⟨rfl, rfl⟩ := hr82
    refine g_top (y := iI (fbits (M 9) ((M 5 0)))) rfl ?_
    refine g_callSI F (stk := [.int (iI (fbits (M 9) ((M 5 0))))]) (st := []) (k_X6_onesOf κ (mw κ ma (mA M 10 (fun _ => 0))) (fbits (M 9) ((M 5 0))) (by omega)) cal_X6_onesOf lm_X6_244 rfl (by decide) rfl (Nat.le_of_ble_eq_true rfl) dX6_count_85 (fun r85 ws85 _ hr85 => ?_)
    obtain ⟨rfl, rfl⟩ := hr85
    have hq : pcnt (fbits (M 9) ((M 5 0))) = qCount (M 5 0) (cl M) (pcnt (fbits (M 9) (M 5 0))) (M 13 0) (M 38 0) (M 28 0) (M 11) w := by unfold qCount; (repeat' split) <;> omega
    have hsr : ¬ (-6 ≤ s0 ∧ s0 ≤ -1) := by unfold s0; (repeat' split) <;> omega
    exact K mw_same ⟨_, rfl, iIc hq, ⟨rfl, rfl, rfl, rfl, rfl, rfl, rfl, rfl, rfl, rfl, rfl, rfl, rfl, rfl, rfl, rfl, rfl, rfl⟩, (by show M 11 = _; exact (rfa_n hsr).symm)⟩ rfl dX6_count_88
  by_cases c6_6 : w = 6
  · skip
    refine g_tsw_in F 89 (by omega) dX6_count_6 (by omega) (by omega) (by rw [c6_6]; rfl) (by decide) ?_
    refine g_aload_n F 0 dX6_count_89 rfl ?_
    refine gm_get_13 F dX6_count_90 ?_
    refine g_top (y := iI (M 13 0)) rfl ?_
    have hq : M 13 0 = qCount (M 5 0) (cl M) (pcnt (fbits (M 9) (M 5 0))) (M 13 0) (M 38 0) (M 28 0) (M 11) w := by unfold qCount; (repeat' split) <;> omega
    have hsr : ¬ (-6 ≤ s0 ∧ s0 ≤ -1) := by unfold s0; (repeat' split) <;> omega
    exact K mw_same ⟨_, rfl, iIc hq, ⟨rfl, rfl, rfl, rfl, rfl, rfl, rfl, rfl, rfl, rfl, rfl, rfl, rfl, rfl, rfl, rfl, rfl, rfl⟩, (by show M 11 = _; exact (rfa_n hsr).symm)⟩ rfl dX6_count_93
  by_cases c6_7 : w = 7
  · skip
    refine g_tsw_in F 94 (by omega) dX6_count_6 (by omega) (by omega) (by rw [c6_7]; rfl) (by decide) ?_
    refine g_aload_n F 0 dX6_count_94 rfl ?_
    refine gm_get_38 F dX6_count_95 ?_
    refine g_top (y := iI (M 38 0)) rfl ?_
    have hq : M 38 0 = qCount (M 5 0) (cl M) (pcnt (fbits (M 9) (M 5 0))) (M 13 0) (M 38 0) (M 28 0) (M 11) w := by unfold qCount; (repeat' split) <;> omega
    have hsr : ¬ (-6 ≤ s0 ∧ s0 ≤ -1) := by unfold s0; (repeat' split) <;> omega
    exact K mw_same ⟨_, rfl, iIc hq, ⟨rfl, rfl, rfl, rfl, rfl, rfl, rfl, rfl, rfl, rfl, rfl, rfl, rfl, rfl, rfl, rfl, rfl, rfl⟩, (by show M 11 = _; exact (rfa_n hsr).symm)⟩ rfl dX6_count_98
  by_cases c6_8 : w = 8
  · skip
    refine g_tsw_in F 99 (by omega) dX6_count_6 (by omega) (by omega) (by rw [c6_8]; rfl) (by decide) ?_
    refine g_aload_n F 0 dX6_count_99 rfl ?_
    refine gm_get_28 F dX6_count_100 ?_
    refine g_top (y := iI (M 28 0)) rfl ?_
    have hq : M 28 0 = qCount (M 5 0) (cl M) (pcnt (fbits (M 9) (M 5 0))) (M 13 0) (M 38 0) (M 28 0) (M 11) w := by unfold qCount; (repeat' split) <;> omega
    have hsr : ¬ (-6 ≤ s0 ∧ s0 ≤ -1) := by unfold s0; (repeat' split) <;> omega
    exact K mw_same ⟨_, rfl, iIc hq, ⟨rfl, rfl, rfl, rfl, rfl, rfl, rfl, rfl, rfl, rfl, rfl, rfl, rfl, rfl, rfl, rfl, rfl, rfl⟩, (by show M 11 = _; exact (rfa_n hsr).symm)⟩ rfl dX6_count_103
  refine g_tsw_out F 104 (by omega) dX6_count_6 (by omega) (by decide) ?_
  refine g_iload_n F 1 dX6_count_104 rfl ?_
  refine g_i2l F (by omega) dX6_count_105 ?_
  refine g_ldc2 F (z := 11) ll_X6_95 (by decide +kernel) dX6_count_106 ?_
  refine g_ldc2 F (z := 16) ll_X6_343 (by decide +kernel) dX6_count_109 ?_
  refine g_callSI F (stk := [.long (iL 16), .long (iL 11), .long (iL w)]) (st := []) (k_X6_in κ (mw κ ma (mA M 10 (fun _ => 0))) w 11 16 (by omega)) cal_X6_in lm_X6_97 rfl (by decide) rfl (Nat.le_of_ble_eq_true rfl) dX6_count_112 (fun r112 ws112 _ hr112 => ?_)
  obtain ⟨rfl, rfl⟩ := hr112
  refine g_if_eq F 130 (b2i_in _) dX6_count_115 (by decide) (fun c115 => ?_) (fun c115 => ?_)
  · skip
    have c115 : ¬ (11 ≤ w ∧ w ≤ 16) := b2i_f c115
    refine g_bipush F dX6_count_130 (by decide +kernel) ?_
    have hq : -9 = qCount (M 5 0) (cl M) (pcnt (fbits (M 9) (M 5 0))) (M 13 0) (M 38 0) (M 28 0) (M 11) w := by unfold qCount; (repeat' split) <;> omega
    have hsr : ¬ (-6 ≤ s0 ∧ s0 ≤ -1) := by unfold s0; (repeat' split) <;> omega
    exact K mw_same ⟨_, rfl, iIc hq, ⟨rfl, rfl, rfl, rfl, rfl, rfl, rfl, rfl, rfl, rfl, rfl, rfl, rfl, rfl, rfl, rfl, rfl, rfl⟩, (by show M 11 = _; exact (rfa_n hsr).symm)⟩ rfl dX6_count_132
  · skip
    have c115 : 11 ≤ w ∧ w ≤ 16 := b2i_t c115
    refine g_aload_n F 0 dX6_count_118 rfl ?_
    refine gm_get_11 F dX6_count_119 ?_
    refine g_iload_n F 1 dX6_count_122 rfl ?_
    refine g_bipush F dX6_count_123 (by decide +kernel) ?_
    refine g_isub F dX6_count_125 ?_
    refine gm_ald_11 F (by omega) dX6_count_126 ?_
    refine g_top (y := iI (M 11 (w - 10))) rfl ?_
    refine g_goto F 132 dX6_count_127 (by decide) ?_
    have hq : M 11 (w - 10) = qCount (M 5 0) (cl M) (pcnt (fbits (M 9) (M 5 0))) (M 13 0) (M 38 0) (M 28 0) (M 11) w := by unfold qCount; (repeat' split) <;> omega
    have hsr : ¬ (-6 ≤ s0 ∧ s0 ≤ -1) := by unfold s0; (repeat' split) <;> omega
    exact K mw_same ⟨_, rfl, iIc hq, ⟨rfl, rfl, rfl, rfl, rfl, rfl, rfl, rfl, rfl, rfl, rfl, rfl, rfl, rfl, rfl, rfl, rfl, rfl⟩, (by show M 11 = _; exact (rfa_n hsr).symm)⟩ rfl dX6_count_132
theorem dX5_count_0 : decode cX5_count 0 = .ok (.iload_n 1, 1) := by decide +kernel
theorem dX5_count_1 : decode cX5_count 1 = .ok (.bipush 11, 2) := by decide +kernel
theorem dX5_count_3 : decode cX5_count 3 = .ok (.if_icmp .lt 19, 3) := by decide +kernel
theorem dX5_count_6 : decode cX5_count 6 = .ok (.iload_n 1, 1) := by decide +kernel
theorem dX5_count_7 : decode cX5_count 7 = .ok (.bipush 16, 2) := by decide +kernel
theorem dX5_count_9 : decode cX5_count 9 = .ok (.if_icmp .gt 13, 3) := by decide +kernel
theorem dX5_count_12 : decode cX5_count 12 = .ok (.aload_n 0, 1) := by decide +kernel
theorem dX5_count_13 : decode cX5_count 13 = .ok (.getfield 41, 3) := by decide +kernel
theorem dX5_count_16 : decode cX5_count 16 = .ok (.iload_n 1, 1) := by decide +kernel
theorem dX5_count_17 : decode cX5_count 17 = .ok (.bipush 10, 2) := by decide +kernel
theorem dX5_count_19 : decode cX5_count 19 = .ok (.isub, 1) := by decide +kernel
theorem dX5_count_20 : decode cX5_count 20 = .ok (.iaload, 1) := by decide +kernel
theorem dX5_count_21 : decode cX5_count 21 = .ok (.ireturn, 1) := by decide +kernel
theorem dX5_count_22 : decode cX5_count 22 = .ok (.iload_n 1, 1) := by decide +kernel
theorem dX5_count_23 : decode cX5_count 23 = .ok (.tableswitch 118 0 8 #[49, 57, 65, 73, 81, 89, 97, 105, 110], 49) := by decide +kernel
theorem dX5_count_72 : decode cX5_count 72 = .ok (.aload_n 0, 1) := by decide +kernel
theorem dX5_count_73 : decode cX5_count 73 = .ok (.getfield 19, 3) := by decide +kernel
theorem dX5_count_76 : decode cX5_count 76 = .ok (.getfield 144, 3) := by decide +kernel
theorem dX5_count_79 : decode cX5_count 79 = .ok (.ireturn, 1) := by decide +kernel
theorem dX5_count_80 : decode cX5_count 80 = .ok (.aload_n 0, 1) := by decide +kernel
theorem dX5_count_81 : decode cX5_count 81 = .ok (.getfield 10, 3) := by decide +kernel
theorem dX5_count_84 : decode cX5_count 84 = .ok (.getfield 163, 3) := by decide +kernel
theorem dX5_count_87 : decode cX5_count 87 = .ok (.ireturn, 1) := by decide +kernel
theorem dX5_count_88 : decode cX5_count 88 = .ok (.aload_n 0, 1) := by decide +kernel
theorem dX5_count_89 : decode cX5_count 89 = .ok (.getfield 10, 3) := by decide +kernel
theorem dX5_count_92 : decode cX5_count 92 = .ok (.invokevirtual 203, 3) := by decide +kernel
theorem dX5_count_95 : decode cX5_count 95 = .ok (.ireturn, 1) := by decide +kernel
theorem dX5_count_96 : decode cX5_count 96 = .ok (.aload_n 0, 1) := by decide +kernel
theorem dX5_count_97 : decode cX5_count 97 = .ok (.getfield 10, 3) := by decide +kernel
theorem dX5_count_100 : decode cX5_count 100 = .ok (.invokevirtual 329, 3) := by decide +kernel
theorem dX5_count_103 : decode cX5_count 103 = .ok (.ireturn, 1) := by decide +kernel
theorem dX5_count_104 : decode cX5_count 104 = .ok (.aload_n 0, 1) := by decide +kernel
theorem dX5_count_105 : decode cX5_count 105 = .ok (.getfield 10, 3) := by decide +kernel
theorem dX5_count_108 : decode cX5_count 108 = .ok (.invokevirtual 218, 3) := by decide +kernel
theorem dX5_count_111 : decode cX5_count 111 = .ok (.ireturn, 1) := by decide +kernel
theorem dX5_count_112 : decode cX5_count 112 = .ok (.aload_n 0, 1) := by decide +kernel
theorem dX5_count_113 : decode cX5_count 113 = .ok (.getfield 19, 3) := by decide +kernel
theorem dX5_count_116 : decode cX5_count 116 = .ok (.invokevirtual 235, 3) := by decide +kernel
theorem dX5_count_119 : decode cX5_count 119 = .ok (.ireturn, 1) := by decide +kernel
theorem dX5_count_120 : decode cX5_count 120 = .ok (.aload_n 0, 1) := by decide +kernel
theorem dX5_count_121 : decode cX5_count 121 = .ok (.getfield 33, 3) := by decide +kernel
theorem dX5_count_124 : decode cX5_count 124 = .ok (.getfield 73, 3) := by decide +kernel
theorem dX5_count_127 : decode cX5_count 127 = .ok (.ireturn, 1) := by decide +kernel
theorem dX5_count_128 : decode cX5_count 128 = .ok (.aload_n 0, 1) := by decide +kernel
theorem dX5_count_129 : decode cX5_count 129 = .ok (.getfield 281, 3) := by decide +kernel
theorem dX5_count_132 : decode cX5_count 132 = .ok (.ireturn, 1) := by decide +kernel
theorem dX5_count_133 : decode cX5_count 133 = .ok (.aload_n 0, 1) := by decide +kernel
theorem dX5_count_134 : decode cX5_count 134 = .ok (.getfield 26, 3) := by decide +kernel
theorem dX5_count_137 : decode cX5_count 137 = .ok (.getfield 211, 3) := by decide +kernel
theorem dX5_count_140 : decode cX5_count 140 = .ok (.ireturn, 1) := by decide +kernel
theorem dX5_count_141 : decode cX5_count 141 = .ok (.bipush (-9), 2) := by decide +kernel
theorem dX5_count_143 : decode cX5_count 143 = .ok (.ireturn, 1) := by decide +kernel
set_option maxRecDepth 100000 in
set_option maxHeartbeats 4000000 in
theorem k_X5_count (κ : Kp) (xa : Nat → Nat → Nat) (X : XS) (w : Int)  (ha_w : In32 w) (ok : okC (cl (X 0))) (okr : okRl (X 12)) : mI κ yX5_count cX5_count 2 .int 3 [.ref (xa 18 100), .int (iI w)] (xw κ xa X) (qX2 κ xa X (qCount (X 12 3 0) (cl (X 0)) (X 12 3 0 - pcnt (X 12 4 0)) (X 16 1 0) (X 18 5 0) (X 15 3 0) (X 18 6) w) (s0)) := by
  refine mI_of (by decide) (Nat.le_of_ble_eq_true rfl) (fun E F K => ?_)
  refine g_lv (lv' := [(0, .ref (xa 18 100)), (1, .int (iI w))]) rfl ?_
  have hn := okr.1
  have hyr : yr (cl (X 0)) = X 0 4 0 := rfl
  refine g_iload_n F 1 dX5_count_0 rfl ?_
  refine g_bipush F dX5_count_1 (by decide +kernel) ?_
  refine g_icmp_lt F 22 (by omega) dX5_count_3 (by decide) (fun c3 => ?_) (fun c3 => ?_)
  · skip
    refine g_iload_n F 1 dX5_count_22 rfl ?_
    by_cases c23_0 : w = 0
    · skip
      refine g_tsw_in F 72 (by omega) dX5_count_23 (by omega) (by omega) (by rw [c23_0]; rfl) (by decide) ?_
      refine g_aload_n F 0 dX5_count_72 rfl ?_
      refine g18_get_1 F  lf_X5_19 dX5_count_73 ?_
      refine gr_getN_3 F (o := 0) (by decide) nf_X5_144 dX5_count_76 ?_
      refine g_top (y := iI ((X 12) 3 0)) rfl ?_
      have hq : (X 12) 3 0 = qCount (X 12 3 0) (cl (X 0)) (X 12 3 0 - pcnt (X 12 4 0)) (X 16 1 0) (X 18 5 0) (X 15 3 0) (X 18 6) w := by unfold qCount; (repeat' split) <;> omega
      have hsr : ¬ (-6 ≤ s0 ∧ s0 ≤ -1) := by unfold s0; (repeat' split) <;> omega
      exact K xw_same ⟨_, rfl, iIc hq, sX_0, (by exact (rfa_n hsr).symm)⟩ rfl dX5_count_79
    by_cases c23_1 : w = 1
    · skip
      refine g_tsw_in F 80 (by omega) dX5_count_23 (by omega) (by omega) (by rw [c23_1]; rfl) (by decide) ?_
      refine g_aload_n F 0 dX5_count_80 rfl ?_
      refine g18_get_0 F  lf_X5_10 dX5_count_81 ?_
      refine gc_getN_4 F (o := 0) (by decide) nf_X5_163 dX5_count_84 ?_
      have hq : (X 0) 4 0 = qCount (X 12 3 0) (cl (X 0)) (X 12 3 0 - pcnt (X 12 4 0)) (X 16 1 0) (X 18 5 0) (X 15 3 0) (X 18 6) w := by unfold qCount; (repeat' split) <;> omega
      have hsr : ¬ (-6 ≤ s0 ∧ s0 ≤ -1) := by unfold s0; (repeat' split) <;> omega
      exact K xw_same ⟨_, rfl, iIc hq, sX_0, (by exact (rfa_n hsr).symm)⟩ rfl dX5_count_87
    by_cases c23_2 : w = 2
    · skip
      refine g_tsw_in F 88 (by omega) dX5_count_23 (by omega) (by omega) (by rw [c23_2]; rfl) (by decide) ?_
      refine g_aload_n F 0 dX5_count_88 rfl ?_
      refine g18_get_0 F  lf_X5_10 dX5_count_89 ?_
      refine g_callNI F (stk := [.ref (xa 0 100)]) (st := []) (k_X0_holeBits κ xa X 0 (by decide) ok) cal_X0_holeBits nm_X5_203 0 rfl rfl rfl rfl (by decide) rfl (Nat.le_of_ble_eq_true rfl) dX5_count_92 (fun r92 ws92 _ hr92 => ?_)
      obtain ⟨rfl, rfl⟩ := hr92
      have hq : hbits (cl (X 0)) = qCount (X 12 3 0) (cl (X 0)) (X 12 3 0 - pcnt (X 12 4 0)) (X 16 1 0) (X 18 5 0) (X 15 3 0) (X 18 6) w := by unfold qCount; (repeat' split) <;> omega
      have hsr : ¬ (-6 ≤ s0 ∧ s0 ≤ -1) := by unfold s0; (repeat' split) <;> omega
      exact K xw_same ⟨_, rfl, iIc hq, sX_0, (by exact (rfa_n hsr).symm)⟩ rfl dX5_count_95
    by_cases c23_3 : w = 3
    · skip
      refine g_tsw_in F 96 (by omega) dX5_count_23 (by omega) (by omega) (by rw [c23_3]; rfl) (by decide) ?_
      refine g_aload_n F 0 dX5_count_96 rfl ?_
      refine g18_get_0 F  lf_X5_10 dX5_count_97 ?_
      refine g_callNI F (stk := [.ref (xa 0 100)]) (st := []) (k_X0_ageTogether κ xa X 0 (by decide)) cal_X0_ageTogether nm_X5_329 0 rfl rfl rfl rfl (by decide) rfl (Nat.le_of_ble_eq_true rfl) dX5_count_100 (fun r100 ws100 _ hr100 => ?_)
      obtain ⟨rfl, rfl⟩ := hr100
      have hq : allAge (cl (X 0)) = qCount (X 12 3 0) (cl (X 0)) (X 12 3 0 - pcnt (X 12 4 0)) (X 16 1 0) (X 18 5 0) (X 15 3 0) (X 18 6) w := by unfold qCount; (repeat' split) <;> omega
      have hsr : ¬ (-6 ≤ s0 ∧ s0 ≤ -1) := by unfold s0; (repeat' split) <;> omega
      exact K xw_same ⟨_, rfl, iIc hq, sX_0, (by exact (rfa_n hsr).symm)⟩ rfl dX5_count_103
    by_cases c23_4 : w = 4
    · skip
      refine g_tsw_in F 104 (by omega) dX5_count_23 (by omega) (by omega) (by rw [c23_4]; rfl) (by decide) ?_
      refine g_aload_n F 0 dX5_count_104 rfl ?_
      refine g18_get_0 F  lf_X5_10 dX5_count_105 ?_
      refine g_callNI F (stk := [.ref (xa 0 100)]) (st := []) (k_X0_wearTogether κ xa X 0 (by decide)) cal_X0_wearTogether nm_X5_218 0 rfl rfl rfl rfl (by decide) rfl (Nat.le_of_ble_eq_true rfl) dX5_count_108 (fun r108 ws108 _ hr108 => ?_)
      obtain ⟨rfl, rfl⟩ := hr108
      have hq : allWear (cl (X 0)) = qCount (X 12 3 0) (cl (X 0)) (X 12 3 0 - pcnt (X 12 4 0)) (X 16 1 0) (X 18 5 0) (X 15 3 0) (X 18 6) w := by unfold qCount; (repeat' split) <;> omega
      have hsr : ¬ (-6 ≤ s0 ∧ s0 ≤ -1) := by unfold s0; (repeat' split) <;> omega
      exact K xw_same ⟨_, rfl, iIc hq, sX_0, (by exact (rfa_n hsr).symm)⟩ rfl dX5_count_111
    by_cases c23_5 : w = 5
    · skip
      refine g_tsw_in F 112 (by omega) dX5_count_23 (by omega) (by omega) (by rw [c23_5]; rfl) (by decide) ?_
      refine g_aload_n F 0 dX5_count_112 rfl ?_
      refine g18_get_1 F  lf_X5_19 dX5_count_113 ?_
      refine g_callNI F (stk := [.ref (xa 12 100)]) (st := []) (k_X2_free κ xa X 0 (by decide) (show (0 ≤ ((X 12) 3 0) ∧ ((X 12) 3 0) ≤ 6) ∧ 0 ≤ ((X 12) 4 0) ∧ ((X 12) 4 0) < 64 from by omega)) cal_X2_free nm_X5_235 60 rfl rfl rfl rfl (by decide) rfl (Nat.le_of_ble_eq_true rfl) dX5_count_116 (fun r116 ws116 _ hr116 => ?_)
      obtain ⟨rfl, rfl⟩ := hr116
      have hq : (X 12) 3 0 - pcnt ((X 12) 4 0) = qCount (X 12 3 0) (cl (X 0)) (X 12 3 0 - pcnt (X 12 4 0)) (X 16 1 0) (X 18 5 0) (X 15 3 0) (X 18 6) w := by unfold qCount; (repeat' split) <;> omega
      have hsr : ¬ (-6 ≤ s0 ∧ s0 ≤ -1) := by unfold s0; (repeat' split) <;> omega
      exact K xw_same ⟨_, rfl, iIc hq, sX_0, (by exact (rfa_n hsr).symm)⟩ rfl dX5_count_119
    by_cases c23_6 : w = 6
    · skip
      refine g_tsw_in F 120 (by omega) dX5_count_23 (by omega) (by omega) (by rw [c23_6]; rfl) (by decide) ?_
      refine g_aload_n F 0 dX5_count_120 rfl ?_
      refine g18_get_3 F  lf_X5_33 dX5_count_121 ?_
      refine g16_getN_1 F  nf_X5_73 dX5_count_124 ?_
      have hq : (X 16) 1 0 = qCount (X 12 3 0) (cl (X 0)) (X 12 3 0 - pcnt (X 12 4 0)) (X 16 1 0) (X 18 5 0) (X 15 3 0) (X 18 6) w := by unfold qCount; (repeat' split) <;> omega
      have hsr : ¬ (-6 ≤ s0 ∧ s0 ≤ -1) := by unfold s0; (repeat' split) <;> omega
      exact K xw_same ⟨_, rfl, iIc hq, sX_0, (by exact (rfa_n hsr).symm)⟩ rfl dX5_count_127
    by_cases c23_7 : w = 7
    · skip
      refine g_tsw_in F 128 (by omega) dX5_count_23 (by omega) (by omega) (by rw [c23_7]; rfl) (by decide) ?_
      refine g_aload_n F 0 dX5_count_128 rfl ?_
      refine g18_get_5 F  lf_X5_281 dX5_count_129 ?_
      have hq : (X 18) 5 0 = qCount (X 12 3 0) (cl (X 0)) (X 12 3 0 - pcnt (X 12 4 0)) (X 16 1 0) (X 18 5 0) (X 15 3 0) (X 18 6) w := by unfold qCount; (repeat' split) <;> omega
      have hsr : ¬ (-6 ≤ s0 ∧ s0 ≤ -1) := by unfold s0; (repeat' split) <;> omega
      exact K xw_same ⟨_, rfl, iIc hq, sX_0, (by exact (rfa_n hsr).symm)⟩ rfl dX5_count_132
    by_cases c23_8 : w = 8
    · skip
      refine g_tsw_in F 133 (by omega) dX5_count_23 (by omega) (by omega) (by rw [c23_8]; rfl) (by decide) ?_
      refine g_aload_n F 0 dX5_count_133 rfl ?_
      refine g18_get_2 F  lf_X5_26 dX5_count_134 ?_
      refine g15_getN_3 F  nf_X5_211 dX5_count_137 ?_
      have hq : (X 15) 3 0 = qCount (X 12 3 0) (cl (X 0)) (X 12 3 0 - pcnt (X 12 4 0)) (X 16 1 0) (X 18 5 0) (X 15 3 0) (X 18 6) w := by unfold qCount; (repeat' split) <;> omega
      have hsr : ¬ (-6 ≤ s0 ∧ s0 ≤ -1) := by unfold s0; (repeat' split) <;> omega
      exact K xw_same ⟨_, rfl, iIc hq, sX_0, (by exact (rfa_n hsr).symm)⟩ rfl dX5_count_140
    refine g_tsw_out F 141 (by omega) dX5_count_23 (by omega) (by decide) ?_
    refine g_bipush F dX5_count_141 (by decide +kernel) ?_
    have hq : -9 = qCount (X 12 3 0) (cl (X 0)) (X 12 3 0 - pcnt (X 12 4 0)) (X 16 1 0) (X 18 5 0) (X 15 3 0) (X 18 6) w := by unfold qCount; (repeat' split) <;> omega
    have hsr : ¬ (-6 ≤ s0 ∧ s0 ≤ -1) := by unfold s0; (repeat' split) <;> omega
    exact K xw_same ⟨_, rfl, iIc hq, sX_0, (by exact (rfa_n hsr).symm)⟩ rfl dX5_count_143
  · skip
    refine g_iload_n F 1 dX5_count_6 rfl ?_
    refine g_bipush F dX5_count_7 (by decide +kernel) ?_
    refine g_icmp_gt F 22 (by omega) dX5_count_9 (by decide) (fun c9 => ?_) (fun c9 => ?_)
    · skip
      refine g_iload_n F 1 dX5_count_22 rfl ?_
      by_cases c23_0 : w = 0
      · skip
        refine g_tsw_in F 72 (by omega) dX5_count_23 (by omega) (by omega) (by rw [c23_0]; rfl) (by decide) ?_
        refine g_aload_n F 0 dX5_count_72 rfl ?_
        refine g18_get_1 F  lf_X5_19 dX5_count_73 ?_
        refine gr_getN_3 F (o := 0) (by decide) nf_X5_144 dX5_count_76 ?_
        refine g_top (y := iI ((X 12) 3 0)) rfl ?_
        have hq : (X 12) 3 0 = qCount (X 12 3 0) (cl (X 0)) (X 12 3 0 - pcnt (X 12 4 0)) (X 16 1 0) (X 18 5 0) (X 15 3 0) (X 18 6) w := by unfold qCount; (repeat' split) <;> omega
        have hsr : ¬ (-6 ≤ s0 ∧ s0 ≤ -1) := by unfold s0; (repeat' split) <;> omega
        exact K xw_same ⟨_, rfl, iIc hq, sX_0, (by exact (rfa_n hsr).symm)⟩ rfl dX5_count_79
      by_cases c23_1 : w = 1
      · skip
        refine g_tsw_in F 80 (by omega) dX5_count_23 (by omega) (by omega) (by rw [c23_1]; rfl) (by decide) ?_
        refine g_aload_n F 0 dX5_count_80 rfl ?_
        refine g18_get_0 F  lf_X5_10 dX5_count_81 ?_
        refine gc_getN_4 F (o := 0) (by decide) nf_X5_163 dX5_count_84 ?_
        have hq : (X 0) 4 0 = qCount (X 12 3 0) (cl (X 0)) (X 12 3 0 - pcnt (X 12 4 0)) (X 16 1 0) (X 18 5 0) (X 15 3 0) (X 18 6) w := by unfold qCount; (repeat' split) <;> omega
        have hsr : ¬ (-6 ≤ s0 ∧ s0 ≤ -1) := by unfold s0; (repeat' split) <;> omega
        exact K xw_same ⟨_, rfl, iIc hq, sX_0, (by exact (rfa_n hsr).symm)⟩ rfl dX5_count_87
      by_cases c23_2 : w = 2
      · skip
        refine g_tsw_in F 88 (by omega) dX5_count_23 (by omega) (by omega) (by rw [c23_2]; rfl) (by decide) ?_
        refine g_aload_n F 0 dX5_count_88 rfl ?_
        refine g18_get_0 F  lf_X5_10 dX5_count_89 ?_
        refine g_callNI F (stk := [.ref (xa 0 100)]) (st := []) (k_X0_holeBits κ xa X 0 (by decide) ok) cal_X0_holeBits nm_X5_203 0 rfl rfl rfl rfl (by decide) rfl (Nat.le_of_ble_eq_true rfl) dX5_count_92 (fun r92 ws92 _ hr92 => ?_)
        obtain ⟨rfl, rfl⟩ := hr92
        have hq : hbits (cl (X 0)) = qCount (X 12 3 0) (cl (X 0)) (X 12 3 0 - pcnt (X 12 4 0)) (X 16 1 0) (X 18 5 0) (X 15 3 0) (X 18 6) w := by unfold qCount; (repeat' split) <;> omega
        have hsr : ¬ (-6 ≤ s0 ∧ s0 ≤ -1) := by unfold s0; (repeat' split) <;> omega
        exact K xw_same ⟨_, rfl, iIc hq, sX_0, (by exact (rfa_n hsr).symm)⟩ rfl dX5_count_95
      by_cases c23_3 : w = 3
      · skip
        refine g_tsw_in F 96 (by omega) dX5_count_23 (by omega) (by omega) (by rw [c23_3]; rfl) (by decide) ?_
        refine g_aload_n F 0 dX5_count_96 rfl ?_
        refine g18_get_0 F  lf_X5_10 dX5_count_97 ?_
        refine g_callNI F (stk := [.ref (xa 0 100)]) (st := []) (k_X0_ageTogether κ xa X 0 (by decide)) cal_X0_ageTogether nm_X5_329 0 rfl rfl rfl rfl (by decide) rfl (Nat.le_of_ble_eq_true rfl) dX5_count_100 (fun r100 ws100 _ hr100 => ?_)
        obtain ⟨rfl, rfl⟩ := hr100
        have hq : allAge (cl (X 0)) = qCount (X 12 3 0) (cl (X 0)) (X 12 3 0 - pcnt (X 12 4 0)) (X 16 1 0) (X 18 5 0) (X 15 3 0) (X 18 6) w := by unfold qCount; (repeat' split) <;> omega
        have hsr : ¬ (-6 ≤ s0 ∧ s0 ≤ -1) := by unfold s0; (repeat' split) <;> omega
        exact K xw_same ⟨_, rfl, iIc hq, sX_0, (by exact (rfa_n hsr).symm)⟩ rfl dX5_count_103
      by_cases c23_4 : w = 4
      · skip
        refine g_tsw_in F 104 (by omega) dX5_count_23 (by omega) (by omega) (by rw [c23_4]; rfl) (by decide) ?_
        refine g_aload_n F 0 dX5_count_104 rfl ?_
        refine g18_get_0 F  lf_X5_10 dX5_count_105 ?_
        refine g_callNI F (stk := [.ref (xa 0 100)]) (st := []) (k_X0_wearTogether κ xa X 0 (by decide)) cal_X0_wearTogether nm_X5_218 0 rfl rfl rfl rfl (by decide) rfl (Nat.le_of_ble_eq_true rfl) dX5_count_108 (fun r108 ws108 _ hr108 => ?_)
        obtain ⟨rfl, rfl⟩ := hr108
        have hq : allWear (cl (X 0)) = qCount (X 12 3 0) (cl (X 0)) (X 12 3 0 - pcnt (X 12 4 0)) (X 16 1 0) (X 18 5 0) (X 15 3 0) (X 18 6) w := by unfold qCount; (repeat' split) <;> omega
        have hsr : ¬ (-6 ≤ s0 ∧ s0 ≤ -1) := by unfold s0; (repeat' split) <;> omega
        exact K xw_same ⟨_, rfl, iIc hq, sX_0, (by exact (rfa_n hsr).symm)⟩ rfl dX5_count_111
      by_cases c23_5 : w = 5
      · skip
        refine g_tsw_in F 112 (by omega) dX5_count_23 (by omega) (by omega) (by rw [c23_5]; rfl) (by decide) ?_
        refine g_aload_n F 0 dX5_count_112 rfl ?_
        refine g18_get_1 F  lf_X5_19 dX5_count_113 ?_
        refine g_callNI F (stk := [.ref (xa 12 100)]) (st := []) (k_X2_free κ xa X 0 (by decide) (show (0 ≤ ((X 12) 3 0) ∧ ((X 12) 3 0) ≤ 6) ∧ 0 ≤ ((X 12) 4 0) ∧ ((X 12) 4 0) < 64 from by omega)) cal_X2_free nm_X5_235 60 rfl rfl rfl rfl (by decide) rfl (Nat.le_of_ble_eq_true rfl) dX5_count_116 (fun r116 ws116 _ hr116 => ?_)
        obtain ⟨rfl, rfl⟩ := hr116
        have hq : (X 12) 3 0 - pcnt ((X 12) 4 0) = qCount (X 12 3 0) (cl (X 0)) (X 12 3 0 - pcnt (X 12 4 0)) (X 16 1 0) (X 18 5 0) (X 15 3 0) (X 18 6) w := by unfold qCount; (repeat' split) <;> omega
        have hsr : ¬ (-6 ≤ s0 ∧ s0 ≤ -1) := by unfold s0; (repeat' split) <;> omega
        exact K xw_same ⟨_, rfl, iIc hq, sX_0, (by exact (rfa_n hsr).symm)⟩ rfl dX5_count_119
      by_cases c23_6 : w = 6
      · skip
        refine g_tsw_in F 120 (by omega) dX5_count_23 (by omega) (by omega) (by rw [c23_6]; rfl) (by decide) ?_
        refine g_aload_n F 0 dX5_count_120 rfl ?_
        refine g18_get_3 F  lf_X5_33 dX5_count_121 ?_
        refine g16_getN_1 F  nf_X5_73 dX5_count_124 ?_
        have hq : (X 16) 1 0 = qCount (X 12 3 0) (cl (X 0)) (X 12 3 0 - pcnt (X 12 4 0)) (X 16 1 0) (X 18 5 0) (X 15 3 0) (X 18 6) w := by unfold qCount; (repeat' split) <;> omega
        have hsr : ¬ (-6 ≤ s0 ∧ s0 ≤ -1) := by unfold s0; (repeat' split) <;> omega
        exact K xw_same ⟨_, rfl, iIc hq, sX_0, (by exact (rfa_n hsr).symm)⟩ rfl dX5_count_127
      by_cases c23_7 : w = 7
      · skip
        refine g_tsw_in F 128 (by omega) dX5_count_23 (by omega) (by omega) (by rw [c23_7]; rfl) (by decide) ?_
        refine g_aload_n F 0 dX5_count_128 rfl ?_
        refine g18_get_5 F  lf_X5_281 dX5_count_129 ?_
        have hq : (X 18) 5 0 = qCount (X 12 3 0) (cl (X 0)) (X 12 3 0 - pcnt (X 12 4 0)) (X 16 1 0) (X 18 5 0) (X 15 3 0) (X 18 6) w := by unfold qCount; (repeat' split) <;> omega
        have hsr : ¬ (-6 ≤ s0 ∧ s0 ≤ -1) := by unfold s0; (repeat' split) <;> omega
        exact K xw_same ⟨_, rfl, iIc hq, sX_0, (by exact (rfa_n hsr).symm)⟩ rfl dX5_count_132
      by_cases c23_8 : w = 8
      · skip
        refine g_tsw_in F 133 (by omega) dX5_count_23 (by omega) (by omega) (by rw [c23_8]; rfl) (by decide) ?_
        refine g_aload_n F 0 dX5_count_133 rfl ?_
        refine g18_get_2 F  lf_X5_26 dX5_count_134 ?_
        refine g15_getN_3 F  nf_X5_211 dX5_count_137 ?_
        have hq : (X 15) 3 0 = qCount (X 12 3 0) (cl (X 0)) (X 12 3 0 - pcnt (X 12 4 0)) (X 16 1 0) (X 18 5 0) (X 15 3 0) (X 18 6) w := by unfold qCount; (repeat' split) <;> omega
        have hsr : ¬ (-6 ≤ s0 ∧ s0 ≤ -1) := by unfold s0; (repeat' split) <;> omega
        exact K xw_same ⟨_, rfl, iIc hq, sX_0, (by exact (rfa_n hsr).symm)⟩ rfl dX5_count_140
      refine g_tsw_out F 141 (by omega) dX5_count_23 (by omega) (by decide) ?_
      refine g_bipush F dX5_count_141 (by decide +kernel) ?_
      have hq : -9 = qCount (X 12 3 0) (cl (X 0)) (X 12 3 0 - pcnt (X 12 4 0)) (X 16 1 0) (X 18 5 0) (X 15 3 0) (X 18 6) w := by unfold qCount; (repeat' split) <;> omega
      have hsr : ¬ (-6 ≤ s0 ∧ s0 ≤ -1) := by unfold s0; (repeat' split) <;> omega
      exact K xw_same ⟨_, rfl, iIc hq, sX_0, (by exact (rfa_n hsr).symm)⟩ rfl dX5_count_143
    · skip
      refine g_aload_n F 0 dX5_count_12 rfl ?_
      refine g18_get_6 F  lf_X5_41 dX5_count_13 ?_
      refine g_iload_n F 1 dX5_count_16 rfl ?_
      refine g_bipush F dX5_count_17 (by decide +kernel) ?_
      refine g_isub F dX5_count_19 ?_
      refine g18_ald_6 F  (by omega) dX5_count_20 ?_
      have hq : (X 18) 6 (w - 10) = qCount (X 12 3 0) (cl (X 0)) (X 12 3 0 - pcnt (X 12 4 0)) (X 16 1 0) (X 18 5 0) (X 15 3 0) (X 18 6) w := by unfold qCount; (repeat' split) <;> omega
      have hsr : ¬ (-6 ≤ s0 ∧ s0 ≤ -1) := by unfold s0; (repeat' split) <;> omega
      exact K xw_same ⟨_, rfl, iIc hq, sX_0, (by exact (rfa_n hsr).symm)⟩ rfl dX5_count_21
