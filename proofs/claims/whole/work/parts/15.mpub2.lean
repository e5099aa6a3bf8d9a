theorem smn_tx {ok : Int → Bool} {f v : Int → Int} {s : Int × Int} {n b l x y : Int} (h : smn ok f v s n = (b, l)) (hv : v n = y) (hx : f n = x) (h0 : 0 ≤ n) (h1 : ok n = true) (h2 : x < l) : smn ok f v s (n + 1) = (y, x) := by
  rw [← hv, ← hx]; exact smn_t h h0 h1 (by rw [hx]; exact h2)
theorem smn_fx {ok : Int → Bool} {f v : Int → Int} {s : Int × Int} {n b l x : Int} (h : smn ok f v s n = (b, l)) (hx : f n = x) (h0 : 0 ≤ n) (h1 : ok n = false ∨ l ≤ x) : smn ok f v s (n + 1) = (b, l) :=
  smn_f h h0 (by rw [hx]; exact h1)
theorem smx_tx {ok : Int → Bool} {f v : Int → Int} {s : Int × Int} {n b l x y : Int} (h : smx ok f v s n = (b, l)) (hv : v n = y) (hx : f n = x) (h0 : 0 ≤ n) (h1 : ok n = true) (h2 : l < x) : smx ok f v s (n + 1) = (y, x) := by
  rw [← hv, ← hx]; exact smx_t h h0 h1 (by rw [hx]; exact h2)
theorem smx_fx {ok : Int → Bool} {f v : Int → Int} {s : Int × Int} {n b l x : Int} (h : smx ok f v s n = (b, l)) (hx : f n = x) (h0 : 0 ≤ n) (h1 : ok n = false ∨ x ≤ l) : smx ok f v s (n + 1) = (b, l) :=
  smx_f h h0 (by rw [hx]; exact h1)
theorem smx_fk {ok : Int → Bool} {f v : Int → Int} {s : Int × Int} {n b l : Int} (h : smx ok f v s n = (b, l)) (h0 : 0 ≤ n) (h1 : ok n = false) : smx ok f v s (n + 1) = (b, l) := smx_f h h0 (Or.inl h1)
/-- the least so far, told with -1 as long as there is none -/
theorem smn_tS {f v : Int → Int} {z n b l x y : Int} (h : smn yes f v (z, MAXI) n = (b, if n = 0 then MAXI else l)) (hv : v n = y) (hx : f n = x) (h0 : 0 ≤ n) (h1 : n = 0 ∨ x < l) (hm : x < 2147483647) : smn yes f v (z, MAXI) (n + 1) = (y, if n + 1 = 0 then MAXI else x) := by
  rw [if_neg (show ¬ (n + 1 = 0) by omega)]
  refine smn_tx h hv hx h0 rfl ?_
  unfold MAXI
  split <;> omega
theorem smn_fS {f v : Int → Int} {z n b l x : Int} (h : smn yes f v (z, MAXI) n = (b, if n = 0 then MAXI else l)) (hx : f n = x) (h0 : 0 < n) (h1 : l ≤ x) : smn yes f v (z, MAXI) (n + 1) = (b, if n + 1 = 0 then MAXI else l) := by
  rw [if_neg (show ¬ (n + 1 = 0) by omega)]
  rw [if_neg (show ¬ (n = 0) by omega)] at h
  exact smn_fx h hx (by omega) (Or.inr h1)
/-- while thought in mind: what stays is M's, what was thought from is laid by, all else is G's -/
def relB (a : Nat) : Bool := a == 0 || a == 1 || a == 2 || a == 3 || a == 4 || a == 5 || a == 6 || a == 7 || a == 8 || a == 9 || a == 12 || a == 13 || a == 21 || a == 22 || a == 26 || a == 28 || a == 37 || a == 38 || a == 11
def tst (M G : MS) : MS := fun a => if a = 20 then snapF M else if relB a = true then M a else G a
theorem dX6_lasts_0 : decode cX6_lasts 0 = .ok (.aload_n 0, 1) := by decide +kernel
theorem dX6_lasts_1 : decode cX6_lasts 1 = .ok (.iconst 0, 1) := by decide +kernel
theorem dX6_lasts_2 : decode cX6_lasts 2 = .ok (.putfield 91, 3) := by decide +kernel
theorem dX6_lasts_5 : decode cX6_lasts 5 = .ok (.iload_n 1, 1) := by decide +kernel
theorem dX6_lasts_6 : decode cX6_lasts 6 = .ok (.invokestatic 222, 3) := by decide +kernel
theorem dX6_lasts_9 : decode cX6_lasts 9 = .ok (.ifCond .ne 9, 3) := by decide +kernel
theorem dX6_lasts_12 : decode cX6_lasts 12 = .ok (.aload_n 0, 1) := by decide +kernel
theorem dX6_lasts_13 : decode cX6_lasts 13 = .ok (.iconst (-1), 1) := by decide +kernel
theorem dX6_lasts_14 : decode cX6_lasts 14 = .ok (.invokevirtual 138, 3) := by decide +kernel
theorem dX6_lasts_17 : decode cX6_lasts 17 = .ok (.ireturn, 1) := by decide +kernel
theorem dX6_lasts_18 : decode cX6_lasts 18 = .ok (.aload_n 0, 1) := by decide +kernel
theorem dX6_lasts_19 : decode cX6_lasts 19 = .ok (.invokevirtual 191, 3) := by decide +kernel
theorem dX6_lasts_22 : decode cX6_lasts 22 = .ok (.aload_n 0, 1) := by decide +kernel
theorem dX6_lasts_23 : decode cX6_lasts 23 = .ok (.invokevirtual 255, 3) := by decide +kernel
theorem dX6_lasts_26 : decode cX6_lasts 26 = .ok (.aload_n 0, 1) := by decide +kernel
theorem dX6_lasts_27 : decode cX6_lasts 27 = .ok (.invokevirtual 197, 3) := by decide +kernel
theorem dX6_lasts_30 : decode cX6_lasts 30 = .ok (.aload_n 0, 1) := by decide +kernel
theorem dX6_lasts_31 : decode cX6_lasts 31 = .ok (.getfield 61, 3) := by decide +kernel
theorem dX6_lasts_34 : decode cX6_lasts 34 = .ok (.iload_n 1, 1) := by decide +kernel
theorem dX6_lasts_35 : decode cX6_lasts 35 = .ok (.iaload, 1) := by decide +kernel
theorem dX6_lasts_36 : decode cX6_lasts 36 = .ok (.bipush 61, 2) := by decide +kernel
theorem dX6_lasts_38 : decode cX6_lasts 38 = .ok (.if_icmp .ne 8, 3) := by decide +kernel
theorem dX6_lasts_41 : decode cX6_lasts 41 = .ok (.bipush (-9), 2) := by decide +kernel
theorem dX6_lasts_43 : decode cX6_lasts 43 = .ok (.goto 9, 3) := by decide +kernel
theorem dX6_lasts_46 : decode cX6_lasts 46 = .ok (.aload_n 0, 1) := by decide +kernel
theorem dX6_lasts_47 : decode cX6_lasts 47 = .ok (.getfield 61, 3) := by decide +kernel
theorem dX6_lasts_50 : decode cX6_lasts 50 = .ok (.iload_n 1, 1) := by decide +kernel
theorem dX6_lasts_51 : decode cX6_lasts 51 = .ok (.iaload, 1) := by decide +kernel
theorem dX6_lasts_52 : decode cX6_lasts 52 = .ok (.ireturn, 1) := by decide +kernel
set_option maxRecDepth 100000 in
set_option maxHeartbeats 4000000 in
theorem k_X6_lasts (κ : Kp) (ma : Nat → Nat) (M : MS) (c : Int)  (ha_c : In32 c) (ok : okC (cl M)) (hy : M 4 0 ≤ 999) : mI κ yX6_lasts cX6_lasts 2 .int 5 [.ref (ma 100), .int (iI c)] (mw κ ma M) (qM κ ma M (qLasts (cl M) c)) := by
  refine mI_of (by decide) (Nat.le_of_ble_eq_true rfl) (fun E F K => ?_)
  refine g_lv (lv' := [(0, .ref (ma 100)), (1, .int (iI c))]) rfl ?_
  refine g_aload_n F 0 dX6_lasts_0 rfl ?_
  refine g_iconst F dX6_lasts_1 ?_
  refine gm_put_10 F dX6_lasts_2 ?_
  refine g_iload_n F 1 dX6_lasts_5 rfl ?_
  refine g_callSI F (stk := [.int (iI c)]) (st := []) (k_X6_isCell κ (mw κ ma (mA M 10 (fun _ => 0))) c (by omega)) cal_X6_isCell lm_X6_222 rfl (by decide) rfl (Nat.le_of_ble_eq_true rfl) dX6_lasts_6 (fun r6 ws6 _ hr6 => ?_)
  obtain ⟨rfl, rfl⟩ := hr6
  refine g_if_ne F 18 (b2i_in _) dX6_lasts_9 (by decide) (fun c9 => ?_) (fun c9 => ?_)
  · skip
    have c9 : 0 ≤ c ∧ c < 12 := b2i_t c9
    refine g_aload_n F 0 dX6_lasts_18 rfl ?_
    refine g_callV F (stk := [.ref (ma 100)]) (st := []) (k_X6_think κ ma (mA M 10 (fun _ => 0))) cal_X6_think lm_X6_191 0 rfl rfl rfl rfl (by decide) rfl (Nat.le_of_ble_eq_true rfl) dX6_lasts_19 (fun ws19 _ hr19 => ?_)
    obtain rfl := hr19
    refine g_ws (ws' := mw κ ma (thk (mA M 10 (fun _ => 0)))) rfl ?_
    refine g_aload_n F 0 dX6_lasts_22 rfl ?_
    refine g_callV F (stk := [.ref (ma 100)]) (st := []) (k_X6_layLasts κ ma (thk (mA M 10 (fun _ => 0))) (show (M 4 0) ≤ 990000 from by omega) ok) cal_X6_layLasts lm_X6_255 0 rfl rfl rfl rfl (by decide) rfl (Nat.le_of_ble_eq_true rfl) dX6_lasts_23 (fun ws23 _ hr23 => ?_)
    obtain rfl := hr23
    refine g_ws (ws' := mw κ ma (mA (stC (thk (mA M 10 (fun _ => 0))) (goI 61 (cl M))) 29 (lasts (cl M)))) rfl ?_
    refine g_aload_n F 0 dX6_lasts_26 rfl ?_
    refine g_callV F (stk := [.ref (ma 100)]) (st := []) (k_X6_again κ ma (mA (stC (thk (mA M 10 (fun _ => 0))) (goI 61 (cl M))) 29 (lasts (cl M))) (mA M 10 (fun _ => 0)) (fun _ _ _ => rfl)) cal_X6_again lm_X6_197 0 rfl rfl rfl rfl (by decide) rfl (Nat.le_of_ble_eq_true rfl) dX6_lasts_27 (fun ws27 _ hr27 => ?_)
    obtain rfl := hr27
    refine g_aload_n F 0 dX6_lasts_30 rfl ?_
    refine gm_get_29 F dX6_lasts_31 ?_
    refine g_iload_n F 1 dX6_lasts_34 rfl ?_
    refine gm_ald_29 F (by omega) dX6_lasts_35 ?_
    refine g_top (y := iI ((lasts (cl M)) c)) rfl ?_
    refine g_bipush F dX6_lasts_36 (by decide +kernel) ?_
    have h1 := lasts_bd (cl M) c
    refine g_icmp_ne F 46 (by omega) dX6_lasts_38 (by decide) (fun c38 => ?_) (fun c38 => ?_)
    · skip
      refine g_aload_n F 0 dX6_lasts_46 rfl ?_
      refine gm_get_29 F dX6_lasts_47 ?_
      refine g_iload_n F 1 dX6_lasts_50 rfl ?_
      refine gm_ald_29 F (by omega) dX6_lasts_51 ?_
      refine g_top (y := iI ((lasts (cl M)) c)) rfl ?_
      have h1 := lasts_bd (cl M) c
      have hq : (lasts (cl M)) c = qLasts (cl M) c := by unfold qLasts; (repeat' split) <;> omega
      exact K mw_same ⟨_, rfl, iIc hq, ⟨rfl, rfl, rfl, rfl, rfl, rfl, rfl, rfl, rfl, rfl, rfl, rfl, rfl, rfl, rfl, rfl, rfl, rfl⟩, (by rw [← hq]; show M 11 = _; exact (rfa_n (by omega)).symm)⟩ rfl dX6_lasts_52
    · skip
      refine g_bipush F dX6_lasts_41 (by decide +kernel) ?_
      refine g_goto F 52 dX6_lasts_43 (by decide) ?_
      have h1 := lasts_bd (cl M) c
      have hq : -9 = qLasts (cl M) c := by unfold qLasts; (repeat' split) <;> omega
      exact K mw_same ⟨_, rfl, iIc hq, ⟨rfl, rfl, rfl, rfl, rfl, rfl, rfl, rfl, rfl, rfl, rfl, rfl, rfl, rfl, rfl, rfl, rfl, rfl⟩, (by rw [← hq]; show M 11 = _; exact (rfa_n (by omega)).symm)⟩ rfl dX6_lasts_52
  · skip
    have c9 : ¬ (0 ≤ c ∧ c < 12) := b2i_f c9
    refine g_aload_n F 0 dX6_lasts_12 rfl ?_
    refine g_iconst F dX6_lasts_13 ?_
    refine g_callI F (stk := [.int (iI (-1)), .ref (ma 100)]) (st := []) (k_X6_refuse κ ma (mA M 10 (fun _ => 0)) (-1) (by omega)) cal_X6_refuse lm_X6_138 0 rfl rfl rfl rfl (by decide) rfl (Nat.le_of_ble_eq_true rfl) dX6_lasts_14 (fun r14 ws14 _ hr14 => ?_)
    obtain ⟨rfl, rfl⟩ := hr14
    refine g_top (y := iI (-1)) rfl ?_
    refine g_ws (ws' := mw κ ma (mA (mA M 10 (fun _ => 0)) 11 (uI (M 11) (-(-1)) (M 11 (-(-1)) + 1)))) rfl ?_
    have hq : (-1) = qLasts (cl M) c := by unfold qLasts; (repeat' split) <;> omega
    exact K mw_same ⟨_, rfl, iIc hq, ⟨rfl, rfl, rfl, rfl, rfl, rfl, rfl, rfl, rfl, rfl, rfl, rfl, rfl, rfl, rfl, rfl, rfl, rfl⟩, (by rw [← hq]; exact (rfa_r (by omega)).symm)⟩ rfl dX6_lasts_17
theorem dX6_holes_0 : decode cX6_holes 0 = .ok (.aload_n 0, 1) := by decide +kernel
theorem dX6_holes_1 : decode cX6_holes 1 = .ok (.iconst 0, 1) := by decide +kernel
theorem dX6_holes_2 : decode cX6_holes 2 = .ok (.putfield 91, 3) := by decide +kernel
theorem dX6_holes_5 : decode cX6_holes 5 = .ok (.iload_n 1, 1) := by decide +kernel
theorem dX6_holes_6 : decode cX6_holes 6 = .ok (.i2l, 1) := by decide +kernel
theorem dX6_holes_7 : decode cX6_holes 7 = .ok (.lconst 0, 1) := by decide +kernel
theorem dX6_holes_8 : decode cX6_holes 8 = .ok (.ldc2_w 253, 3) := by decide +kernel
theorem dX6_holes_11 : decode cX6_holes 11 = .ok (.invokestatic 97, 3) := by decide +kernel
theorem dX6_holes_14 : decode cX6_holes 14 = .ok (.ifCond .ne 10, 3) := by decide +kernel
theorem dX6_holes_17 : decode cX6_holes 17 = .ok (.aload_n 0, 1) := by decide +kernel
theorem dX6_holes_18 : decode cX6_holes 18 = .ok (.bipush (-2), 2) := by decide +kernel
theorem dX6_holes_20 : decode cX6_holes 20 = .ok (.invokevirtual 138, 3) := by decide +kernel
theorem dX6_holes_23 : decode cX6_holes 23 = .ok (.ireturn, 1) := by decide +kernel
theorem dX6_holes_24 : decode cX6_holes 24 = .ok (.aload_n 0, 1) := by decide +kernel
theorem dX6_holes_25 : decode cX6_holes 25 = .ok (.invokevirtual 191, 3) := by decide +kernel
theorem dX6_holes_28 : decode cX6_holes 28 = .ok (.aload_n 0, 1) := by decide +kernel
theorem dX6_holes_29 : decode cX6_holes 29 = .ok (.invokevirtual 255, 3) := by decide +kernel
theorem dX6_holes_32 : decode cX6_holes 32 = .ok (.aload_n 0, 1) := by decide +kernel
theorem dX6_holes_33 : decode cX6_holes 33 = .ok (.invokevirtual 197, 3) := by decide +kernel
theorem dX6_holes_36 : decode cX6_holes 36 = .ok (.aload_n 0, 1) := by decide +kernel
theorem dX6_holes_37 : decode cX6_holes 37 = .ok (.invokevirtual 258, 3) := by decide +kernel
theorem dX6_holes_40 : decode cX6_holes 40 = .ok (.istore_n 2, 1) := by decide +kernel
theorem dX6_holes_41 : decode cX6_holes 41 = .ok (.iconst 0, 1) := by decide +kernel
theorem dX6_holes_42 : decode cX6_holes 42 = .ok (.istore_n 3, 1) := by decide +kernel
theorem dX6_holes_43 : decode cX6_holes 43 = .ok (.iconst 1, 1) := by decide +kernel
theorem dX6_holes_44 : decode cX6_holes 44 = .ok (.istore 4, 2) := by decide +kernel
theorem dX6_holes_46 : decode cX6_holes 46 = .ok (.iload 4, 2) := by decide +kernel
theorem dX6_holes_48 : decode cX6_holes 48 = .ok (.bipush 12, 2) := by decide +kernel
theorem dX6_holes_50 : decode cX6_holes 50 = .ok (.if_icmp .ge 32, 3) := by decide +kernel
theorem dX6_holes_53 : decode cX6_holes 53 = .ok (.aload_n 0, 1) := by decide +kernel
theorem dX6_holes_54 : decode cX6_holes 54 = .ok (.getfield 61, 3) := by decide +kernel
theorem dX6_holes_57 : decode cX6_holes 57 = .ok (.iload 4, 2) := by decide +kernel
theorem dX6_holes_59 : decode cX6_holes 59 = .ok (.iaload, 1) := by decide +kernel
theorem dX6_holes_60 : decode cX6_holes 60 = .ok (.aload_n 0, 1) := by decide +kernel
theorem dX6_holes_61 : decode cX6_holes 61 = .ok (.getfield 61, 3) := by decide +kernel
theorem dX6_holes_64 : decode cX6_holes 64 = .ok (.iload_n 3, 1) := by decide +kernel
theorem dX6_holes_65 : decode cX6_holes 65 = .ok (.iaload, 1) := by decide +kernel
theorem dX6_holes_66 : decode cX6_holes 66 = .ok (.if_icmp .le 8, 3) := by decide +kernel
theorem dX6_holes_69 : decode cX6_holes 69 = .ok (.iload 4, 2) := by decide +kernel
theorem dX6_holes_71 : decode cX6_holes 71 = .ok (.goto 4, 3) := by decide +kernel
theorem dX6_holes_74 : decode cX6_holes 74 = .ok (.iload_n 3, 1) := by decide +kernel
theorem dX6_holes_75 : decode cX6_holes 75 = .ok (.istore_n 3, 1) := by decide +kernel
theorem dX6_holes_76 : decode cX6_holes 76 = .ok (.iinc 4 1, 3) := by decide +kernel
theorem dX6_holes_79 : decode cX6_holes 79 = .ok (.goto (-33), 3) := by decide +kernel
theorem dX6_holes_82 : decode cX6_holes 82 = .ok (.aload_n 0, 1) := by decide +kernel
theorem dX6_holes_83 : decode cX6_holes 83 = .ok (.getfield 61, 3) := by decide +kernel
theorem dX6_holes_86 : decode cX6_holes 86 = .ok (.iload_n 2, 1) := by decide +kernel
theorem dX6_holes_87 : decode cX6_holes 87 = .ok (.iaload, 1) := by decide +kernel
theorem dX6_holes_88 : decode cX6_holes 88 = .ok (.bipush 61, 2) := by decide +kernel
theorem dX6_holes_90 : decode cX6_holes 90 = .ok (.if_icmp .ne 7, 3) := by decide +kernel
theorem dX6_holes_93 : decode cX6_holes 93 = .ok (.iconst 1, 1) := by decide +kernel
theorem dX6_holes_94 : decode cX6_holes 94 = .ok (.goto 4, 3) := by decide +kernel
theorem dX6_holes_97 : decode cX6_holes 97 = .ok (.iconst 0, 1) := by decide +kernel
theorem dX6_holes_98 : decode cX6_holes 98 = .ok (.istore 4, 2) := by decide +kernel
theorem dX6_holes_100 : decode cX6_holes 100 = .ok (.iload_n 1, 1) := by decide +kernel
theorem dX6_holes_101 : decode cX6_holes 101 = .ok (.iconst 2, 1) := by decide +kernel
theorem dX6_holes_102 : decode cX6_holes 102 = .ok (.if_icmp .ne 7, 3) := by decide +kernel
theorem dX6_holes_105 : decode cX6_holes 105 = .ok (.iload_n 3, 1) := by decide +kernel
theorem dX6_holes_106 : decode cX6_holes 106 = .ok (.goto 27, 3) := by decide +kernel
theorem dX6_holes_109 : decode cX6_holes 109 = .ok (.iload 4, 2) := by decide +kernel
theorem dX6_holes_111 : decode cX6_holes 111 = .ok (.ifCond .eq 8, 3) := by decide +kernel
theorem dX6_holes_114 : decode cX6_holes 114 = .ok (.bipush (-9), 2) := by decide +kernel
theorem dX6_holes_116 : decode cX6_holes 116 = .ok (.goto 17, 3) := by decide +kernel
theorem dX6_holes_119 : decode cX6_holes 119 = .ok (.iload_n 1, 1) := by decide +kernel
theorem dX6_holes_120 : decode cX6_holes 120 = .ok (.ifCond .ne 12, 3) := by decide +kernel
theorem dX6_holes_123 : decode cX6_holes 123 = .ok (.aload_n 0, 1) := by decide +kernel
theorem dX6_holes_124 : decode cX6_holes 124 = .ok (.getfield 61, 3) := by decide +kernel
theorem dX6_holes_127 : decode cX6_holes 127 = .ok (.iload_n 2, 1) := by decide +kernel
theorem dX6_holes_128 : decode cX6_holes 128 = .ok (.iaload, 1) := by decide +kernel
theorem dX6_holes_129 : decode cX6_holes 129 = .ok (.goto 4, 3) := by decide +kernel
theorem dX6_holes_132 : decode cX6_holes 132 = .ok (.iload_n 2, 1) := by decide +kernel
theorem dX6_holes_133 : decode cX6_holes 133 = .ok (.ireturn, 1) := by decide +kernel
set_option maxRecDepth 100000 in
set_option maxHeartbeats 4000000 in
theorem k_X6_holes (κ : Kp) (ma : Nat → Nat) (M : MS) (w : Int)  (ha_w : In32 w) (ok : okC (cl M)) (hy : M 4 0 ≤ 999) : mI κ yX6_holes cX6_holes 5 .int 5 [.ref (ma 100), .int (iI w)] (mw κ ma M) (qM κ ma M (qHoles (cl M) w)) := by
  refine mI_of (by decide) (Nat.le_of_ble_eq_true rfl) (fun E F K => ?_)
  refine g_lv (lv' := [(0, .ref (ma 100)), (1, .int (iI w))]) rfl ?_
  refine g_aload_n F 0 dX6_holes_0 rfl ?_
  refine g_iconst F dX6_holes_1 ?_
  refine gm_put_10 F dX6_holes_2 ?_
  refine g_iload_n F 1 dX6_holes_5 rfl ?_
  refine g_i2l F (by omega) dX6_holes_6 ?_
  refine g_lconst F (z := 0) dX6_holes_7 rfl ?_
  refine g_ldc2 F (z := 2) ll_X6_253 (by decide +kernel) dX6_holes_8 ?_
  refine g_callSI F (stk := [.long (iL 2), .long (iL 0), .long (iL w)]) (st := []) (k_X6_in κ (mw κ ma (mA M 10 (fun _ => 0))) w 0 2 (by omega)) cal_X6_in lm_X6_97 rfl (by decide) rfl (Nat.le_of_ble_eq_true rfl) dX6_holes_11 (fun r11 ws11 _ hr11 => ?_)
  obtain ⟨rfl, rfl⟩ := hr11
  refine g_if_ne F 24 (b2i_in _) dX6_holes_14 (by decide) (fun c14 => ?_) (fun c14 => ?_)
  · skip
    have c14 : 0 ≤ w ∧ w ≤ 2 := b2i_t c14
    refine g_aload_n F 0 dX6_holes_24 rfl ?_
    refine g_callV F (stk := [.ref (ma 100)]) (st := []) (k_X6_think κ ma (mA M 10 (fun _ => 0))) cal_X6_think lm_X6_191 0 rfl rfl rfl rfl (by decide) rfl (Nat.le_of_ble_eq_true rfl) dX6_holes_25 (fun ws25 _ hr25 => ?_)
    obtain rfl := hr25
    refine g_ws (ws' := mw κ ma (thk (mA M 10 (fun _ => 0)))) rfl ?_
    refine g_aload_n F 0 dX6_holes_28 rfl ?_
    refine g_callV F (stk := [.ref (ma 100)]) (st := []) (k_X6_layLasts κ ma (thk (mA M 10 (fun _ => 0))) (show (M 4 0) ≤ 990000 from by omega) ok) cal_X6_layLasts lm_X6_255 0 rfl rfl rfl rfl (by decide) rfl (Nat.le_of_ble_eq_true rfl) dX6_holes_29 (fun ws29 _ hr29 => ?_)
    obtain rfl := hr29
    refine g_ws (ws' := mw κ ma (mA (stC (thk (mA M 10 (fun _ => 0))) (goI 61 (cl M))) 29 (lasts (cl M)))) rfl ?_
    refine g_aload_n F 0 dX6_holes_32 rfl ?_
    refine g_callV F (stk := [.ref (ma 100)]) (st := []) (k_X6_again κ ma (mA (stC (thk (mA M 10 (fun _ => 0))) (goI 61 (cl M))) 29 (lasts (cl M))) (mA M 10 (fun _ => 0)) (fun _ _ _ => rfl)) cal_X6_again lm_X6_197 0 rfl rfl rfl rfl (by decide) rfl (Nat.le_of_ble_eq_true rfl) dX6_holes_33 (fun ws33 _ hr33 => ?_)
    obtain rfl := hr33
    refine g_aload_n F 0 dX6_holes_36 rfl ?_
    refine g_callI F (stk := [.ref (ma 100)]) (st := []) (k_X6_firstOf κ ma (agn (mA (stC (thk (mA M 10 (fun _ => 0))) (goI 61 (cl M))) 29 (lasts (cl M))) (mA M 10 (fun _ => 0))) (fun j _ _ => lasts_bd _ j)) cal_X6_firstOf lm_X6_258 0 rfl rfl rfl rfl (by decide) rfl (Nat.le_of_ble_eq_true rfl) dX6_holes_37 (fun r37 ws37 _ hr37 => ?_)
    obtain ⟨rfl, rfl⟩ := hr37
    refine g_top (y := iI (amin (lasts (cl M)) 12)) rfl ?_
    have hf := amin_in (lasts (cl M)) (n := 12) (by decide)
    have hfl := lasts_bd (cl M) (amin (lasts (cl M)) 12)
    refine g_istore_n F (lv' := [(2, .int (iI (amin (lasts (cl M)) 12))), (0, .ref (ma 100)), (1, .int (iI w))]) 2 dX6_holes_40 rfl (by decide) rfl ?_
    refine g_iconst F dX6_holes_41 ?_
    refine g_istore_n F (lv' := [(3, .int (iI 0)), (2, .int (iI (amin (lasts (cl M)) 12))), (0, .ref (ma 100)), (1, .int (iI w))]) 3 dX6_holes_42 rfl (by decide) rfl ?_
    refine g_iconst F dX6_holes_43 ?_
    refine g_istore F (lv' := [(4, .int (iI 1)), (3, .int (iI 0)), (2, .int (iI (amin (lasts (cl M)) 12))), (0, .ref (ma 100)), (1, .int (iI w))]) dX6_holes_44 (by decide) rfl ?_
    have L46 : ∀ (mz46 : Nat) (c : Int) (b : Int), (12 - c).toNat = mz46 → (1 ≤ c ∧ c ≤ 12) → (b = amax (lasts (cl M)) c) → G E (mw κ ma (agn (mA (stC (thk (mA M 10 (fun _ => 0))) (goI 61 (cl M))) 29 (lasts (cl M))) (mA M 10 (fun _ => 0)))) [(4, .int (iI c)), (3, .int (iI b)), (2, .int (iI (amin (lasts (cl M)) 12))), (0, .ref (ma 100)), (1, .int (iI w))] 46 [] := by
      intro mz46
      induction mz46 using Nat.strongRecOn with
      | _ mz46 ih46 =>
      intro c b hmz46 hc hb
      refine g_iload F 0 dX6_holes_46 rfl ?_
      refine g_bipush F dX6_holes_48 (by decide +kernel) ?_
      refine g_icmp_ge F 82 (by omega) dX6_holes_50 (by decide) (fun c50 => ?_) (fun c50 => ?_)
      · skip
        have hbe : b = amax (lasts (cl M)) 12 := by rw [hb, show c = 12 by omega]
        have hbi := amax_in (lasts (cl M)) (n := 12) (by decide)
        refine g_aload_n F 3 dX6_holes_82 rfl ?_
        refine gm_get_29 F dX6_holes_83 ?_
        refine g_iload_n F 2 dX6_holes_86 rfl ?_
        refine gm_ald_29 F (by omega) dX6_holes_87 ?_
        refine g_top (y := iI ((lasts (cl M)) (amin (lasts (cl M)) 12))) rfl ?_
        refine g_bipush F dX6_holes_88 (by decide +kernel) ?_
        refine g_icmp_ne F 97 (by omega) dX6_holes_90 (by decide) (fun c90 => ?_) (fun c90 => ?_)
        · skip
          refine g_iconst F dX6_holes_97 ?_
          refine g_istore F (lv' := [(4, .int (iI 0)), (3, .int (iI b)), (2, .int (iI (amin (lasts (cl M)) 12))), (0, .ref (ma 100)), (1, .int (iI w))]) dX6_holes_98 (by decide) rfl ?_
          refine g_iload_n F 4 dX6_holes_100 rfl ?_
          refine g_iconst F dX6_holes_101 ?_
          refine g_icmp_ne F 109 (by omega) dX6_holes_102 (by decide) (fun c102 => ?_) (fun c102 => ?_)
          · skip
            refine g_iload F 0 dX6_holes_109 rfl ?_
            refine g_if_eq F 119 (by omega) dX6_holes_111 (by decide) (fun c111 => ?_) (fun c111 => ?_)
            · skip
              refine g_iload_n F 4 dX6_holes_119 rfl ?_
              refine g_if_ne F 132 (by omega) dX6_holes_120 (by decide) (fun c120 => ?_) (fun c120 => ?_)
              · skip
                refine g_iload_n F 2 dX6_holes_132 rfl ?_
                have hq : amin (lasts (cl M)) 12 = qHoles (cl M) w := by unfold qHoles mn; (repeat' split) <;> omega
                exact K mw_same ⟨_, rfl, iIc hq, ⟨rfl, rfl, rfl, rfl, rfl, rfl, rfl, rfl, rfl, rfl, rfl, rfl, rfl, rfl, rfl, rfl, rfl, rfl⟩, (by rw [← hq]; show M 11 = _; exact (rfa_n (by omega)).symm)⟩ rfl dX6_holes_133
              · skip
                refine g_aload_n F 3 dX6_holes_123 rfl ?_
                refine gm_get_29 F dX6_holes_124 ?_
                refine g_iload_n F 2 dX6_holes_127 rfl ?_
                refine gm_ald_29 F (by omega) dX6_holes_128 ?_
                refine g_top (y := iI ((lasts (cl M)) (amin (lasts (cl M)) 12))) rfl ?_
                refine g_goto F 133 dX6_holes_129 (by decide) ?_
                have hq : (lasts (cl M)) (amin (lasts (cl M)) 12) = qHoles (cl M) w := by unfold qHoles mn; (repeat' split) <;> omega
                exact K mw_same ⟨_, rfl, iIc hq, ⟨rfl, rfl, rfl, rfl, rfl, rfl, rfl, rfl, rfl, rfl, rfl, rfl, rfl, rfl, rfl, rfl, rfl, rfl⟩, (by rw [← hq]; show M 11 = _; exact (rfa_n (by omega)).symm)⟩ rfl dX6_holes_133
            · skip
              refine g_bipush F dX6_holes_114 (by decide +kernel) ?_
              refine g_goto F 133 dX6_holes_116 (by decide) ?_
              have hq : -9 = qHoles (cl M) w := by unfold qHoles mn; (repeat' split) <;> omega
              exact K mw_same ⟨_, rfl, iIc hq, ⟨rfl, rfl, rfl, rfl, rfl, rfl, rfl, rfl, rfl, rfl, rfl, rfl, rfl, rfl, rfl, rfl, rfl, rfl⟩, (by rw [← hq]; show M 11 = _; exact (rfa_n (by omega)).symm)⟩ rfl dX6_holes_133
          · skip
            refine g_iload_n F 1 dX6_holes_105 rfl ?_
            refine g_goto F 133 dX6_holes_106 (by decide) ?_
            have hq : b = qHoles (cl M) w := by unfold qHoles mn; (repeat' split) <;> omega
            exact K mw_same ⟨_, rfl, iIc hq, ⟨rfl, rfl, rfl, rfl, rfl, rfl, rfl, rfl, rfl, rfl, rfl, rfl, rfl, rfl, rfl, rfl, rfl, rfl⟩, (by rw [← hq]; show M 11 = _; exact (rfa_n (by omega)).symm)⟩ rfl dX6_holes_133
        · skip
          refine g_iconst F dX6_holes_93 ?_
          refine g_goto F 98 dX6_holes_94 (by decide) ?_
          refine g_istore F (lv' := [(4, .int (iI 1)), (3, .int (iI b)), (2, .int (iI (amin (lasts (cl M)) 12))), (0, .ref (ma 100)), (1, .int (iI w))]) dX6_holes_98 (by decide) rfl ?_
          refine g_iload_n F 4 dX6_holes_100 rfl ?_
          refine g_iconst F dX6_holes_101 ?_
          refine g_icmp_ne F 109 (by omega) dX6_holes_102 (by decide) (fun c102 => ?_) (fun c102 => ?_)
          · skip
            refine g_iload F 0 dX6_holes_109 rfl ?_
            refine g_if_eq F 119 (by omega) dX6_holes_111 (by decide) (fun c111 => ?_) (fun c111 => ?_)
            · skip
              refine g_iload_n F 4 dX6_holes_119 rfl ?_
              refine g_if_ne F 132 (by omega) dX6_holes_120 (by decide) (fun c120 => ?_) (fun c120 => ?_)
              · skip
                refine g_iload_n F 2 dX6_holes_132 rfl ?_
                have hq : amin (lasts (cl M)) 12 = qHoles (cl M) w := by unfold qHoles mn; (repeat' split) <;> omega
                exact K mw_same ⟨_, rfl, iIc hq, ⟨rfl, rfl, rfl, rfl, rfl, rfl, rfl, rfl, rfl, rfl, rfl, rfl, rfl, rfl, rfl, rfl, rfl, rfl⟩, (by rw [← hq]; show M 11 = _; exact (rfa_n (by omega)).symm)⟩ rfl dX6_holes_133
              · skip
                refine g_aload_n F 3 dX6_holes_123 rfl ?_
                refine gm_get_29 F dX6_holes_124 ?_
                refine g_iload_n F 2 dX6_holes_127 rfl ?_
                refine gm_ald_29 F (by omega) dX6_holes_128 ?_
                refine g_top (y := iI ((lasts (cl M)) (amin (lasts (cl M)) 12))) rfl ?_
                refine g_goto F 133 dX6_holes_129 (by decide) ?_
                have hq : (lasts (cl M)) (amin (lasts (cl M)) 12) = qHoles (cl M) w := by unfold qHoles mn; (repeat' split) <;> omega
                exact K mw_same ⟨_, rfl, iIc hq, ⟨rfl, rfl, rfl, rfl, rfl, rfl, rfl, rfl, rfl, rfl, rfl, rfl, rfl, rfl, rfl, rfl, rfl, rfl⟩, (by rw [← hq]; show M 11 = _; exact (rfa_n (by omega)).symm)⟩ rfl dX6_holes_133
            · skip
              refine g_bipush F dX6_holes_114 (by decide +kernel) ?_
              refine g_goto F 133 dX6_holes_116 (by decide) ?_
              have hq : -9 = qHoles (cl M) w := by unfold qHoles mn; (repeat' split) <;> omega
              exact K mw_same ⟨_, rfl, iIc hq, ⟨rfl, rfl, rfl, rfl, rfl, rfl, rfl, rfl, rfl, rfl, rfl, rfl, rfl, rfl, rfl, rfl, rfl, rfl⟩, (by rw [← hq]; show M 11 = _; exact (rfa_n (by omega)).symm)⟩ rfl dX6_holes_133
          · skip
            refine g_iload_n F 1 dX6_holes_105 rfl ?_
            refine g_goto F 133 dX6_holes_106 (by decide) ?_
            have hq : b = qHoles (cl M) w := by unfold qHoles mn; (repeat' split) <;> omega
            exact K mw_same ⟨_, rfl, iIc hq, ⟨rfl, rfl, rfl, rfl, rfl, rfl, rfl, rfl, rfl, rfl, rfl, rfl, rfl, rfl, rfl, rfl, rfl, rfl⟩, (by rw [← hq]; show M 11 = _; exact (rfa_n (by omega)).symm)⟩ rfl dX6_holes_133
      · skip
        have hbi : 0 ≤ b ∧ b < c := by rw [hb]; exact amax_in _ hc.1
        have h1 := lasts_bd (cl M) c
        have h2 := lasts_bd (cl M) b
        refine g_aload_n F 3 dX6_holes_53 rfl ?_
        refine gm_get_29 F dX6_holes_54 ?_
        refine g_iload F 0 dX6_holes_57 rfl ?_
        refine gm_ald_29 F (by omega) dX6_holes_59 ?_
        refine g_top (y := iI ((lasts (cl M)) c)) rfl ?_
        refine g_aload_n F 3 dX6_holes_60 rfl ?_
        refine gm_get_29 F dX6_holes_61 ?_
        refine g_iload_n F 1 dX6_holes_64 rfl ?_
        refine gm_ald_29 F (by omega) dX6_holes_65 ?_
        refine g_top (y := iI ((lasts (cl M)) b)) rfl ?_
        refine g_icmp_le F 74 (by omega) dX6_holes_66 (by decide) (fun c66 => ?_) (fun c66 => ?_)
        · skip
          refine g_iload_n F 1 dX6_holes_74 rfl ?_
          refine g_istore_n F (lv' := [(3, .int (iI b)), (4, .int (iI c)), (2, .int (iI (amin (lasts (cl M)) 12))), (0, .ref (ma 100)), (1, .int (iI w))]) 3 dX6_holes_75 rfl (by decide) rfl ?_
          refine g_iinc F (lv' := [(4, .int (iI (c + 1))), (3, .int (iI b)), (2, .int (iI (amin (lasts (cl M)) 12))), (0, .ref (ma 100)), (1, .int (iI w))]) 1 dX6_holes_76 rfl (by decide) rfl ?_
          refine g_goto F 46 dX6_holes_79 (by decide) ?_
          refine g_sub F (lv' := [(4, .int (iI (c + 1))), (3, .int (iI b)), (2, .int (iI (amin (lasts (cl M)) 12))), (0, .ref (ma 100)), (1, .int (iI w))]) [0, 1, 2, 3, 4] rfl ?_
          exact ih46 _ (by omega) (c + 1) b rfl (by omega) (by rw [amax_s _ (by omega), ← hb]; split <;> omega)
        · skip
          refine g_iload F 0 dX6_holes_69 rfl ?_
          refine g_goto F 75 dX6_holes_71 (by decide) ?_
          refine g_istore_n F (lv' := [(3, .int (iI c)), (4, .int (iI c)), (2, .int (iI (amin (lasts (cl M)) 12))), (0, .ref (ma 100)), (1, .int (iI w))]) 3 dX6_holes_75 rfl (by decide) rfl ?_
          refine g_iinc F (lv' := [(4, .int (iI (c + 1))), (3, .int (iI c)), (2, .int (iI (amin (lasts (cl M)) 12))), (0, .ref (ma 100)), (1, .int (iI w))]) 1 dX6_holes_76 rfl (by decide) rfl ?_
          refine g_goto F 46 dX6_holes_79 (by decide) ?_
          refine g_sub F (lv' := [(4, .int (iI (c + 1))), (3, .int (iI c)), (2, .int (iI (amin (lasts (cl M)) 12))), (0, .ref (ma 100)), (1, .int (iI w))]) [0, 1, 2, 3, 4] rfl ?_
          exact ih46 _ (by omega) (c + 1) c rfl (by omega) (by rw [amax_s _ (by omega), ← hb]; split <;> omega)
    refine g_sub F (lv' := [(4, .int (iI 1)), (3, .int (iI 0)), (2, .int (iI (amin (lasts (cl M)) 12))), (0, .ref (ma 100)), (1, .int (iI w))]) [0, 1, 2, 3, 4] rfl ?_
    exact L46 _ 1 0 rfl (by omega) (amax_1 _).symm
  · skip
    have c14 : ¬ (0 ≤ w ∧ w ≤ 2) := b2i_f c14
    refine g_aload_n F 0 dX6_holes_17 rfl ?_
    refine g_bipush F dX6_holes_18 (by decide +kernel) ?_
    refine g_callI F (stk := [.int (iI (-2)), .ref (ma 100)]) (st := []) (k_X6_refuse κ ma (mA M 10 (fun _ => 0)) (-2) (by omega)) cal_X6_refuse lm_X6_138 0 rfl rfl rfl rfl (by decide) rfl (Nat.le_of_ble_eq_true rfl) dX6_holes_20 (fun r20 ws20 _ hr20 => ?_)
    obtain ⟨rfl, rfl⟩ := hr20
    refine g_top (y := iI (-2)) rfl ?_
    refine g_ws (ws' := mw κ ma (mA (mA M 10 (fun _ => 0)) 11 (uI (M 11) (-(-2)) (M 11 (-(-2)) + 1)))) rfl ?_
    have hq : (-2) = qHoles (cl M) w := by unfold qHoles mn; (repeat' split) <;> omega
    exact K mw_same ⟨_, rfl, iIc hq, ⟨rfl, rfl, rfl, rfl, rfl, rfl, rfl, rfl, rfl, rfl, rfl, rfl, rfl, rfl, rfl, rfl, rfl, rfl⟩, (by rw [← hq]; exact (rfa_r (by omega)).symm)⟩ rfl dX6_holes_23
theorem dX6_fits_0 : decode cX6_fits 0 = .ok (.aload_n 0, 1) := by decide +kernel
theorem dX6_fits_1 : decode cX6_fits 1 = .ok (.iconst 0, 1) := by decide +kernel
theorem dX6_fits_2 : decode cX6_fits 2 = .ok (.putfield 91, 3) := by decide +kernel
theorem dX6_fits_5 : decode cX6_fits 5 = .ok (.aload_n 0, 1) := by decide +kernel
theorem dX6_fits_6 : decode cX6_fits 6 = .ok (.iload_n 1, 1) := by decide +kernel
theorem dX6_fits_7 : decode cX6_fits 7 = .ok (.invokevirtual 176, 3) := by decide +kernel
theorem dX6_fits_10 : decode cX6_fits 10 = .ok (.ifCond .eq 7, 3) := by decide +kernel
theorem dX6_fits_13 : decode cX6_fits 13 = .ok (.iconst 0, 1) := by decide +kernel
theorem dX6_fits_14 : decode cX6_fits 14 = .ok (.goto 4, 3) := by decide +kernel
theorem dX6_fits_17 : decode cX6_fits 17 = .ok (.iconst (-1), 1) := by decide +kernel
theorem dX6_fits_18 : decode cX6_fits 18 = .ok (.iload_n 2, 1) := by decide +kernel
theorem dX6_fits_19 : decode cX6_fits 19 = .ok (.iconst 1, 1) := by decide +kernel
theorem dX6_fits_20 : decode cX6_fits 20 = .ok (.invokestatic 247, 3) := by decide +kernel
theorem dX6_fits_23 : decode cX6_fits 23 = .ok (.istore_n 3, 1) := by decide +kernel
theorem dX6_fits_24 : decode cX6_fits 24 = .ok (.iload_n 3, 1) := by decide +kernel
theorem dX6_fits_25 : decode cX6_fits 25 = .ok (.ifCond .ne 18, 3) := by decide +kernel
theorem dX6_fits_28 : decode cX6_fits 28 = .ok (.aload_n 0, 1) := by decide +kernel
theorem dX6_fits_29 : decode cX6_fits 29 = .ok (.getfield 31, 3) := by decide +kernel
theorem dX6_fits_32 : decode cX6_fits 32 = .ok (.iload_n 1, 1) := by decide +kernel
theorem dX6_fits_33 : decode cX6_fits 33 = .ok (.iaload, 1) := by decide +kernel
theorem dX6_fits_34 : decode cX6_fits 34 = .ok (.iconst 1, 1) := by decide +kernel
theorem dX6_fits_35 : decode cX6_fits 35 = .ok (.if_icmp .ne 8, 3) := by decide +kernel
theorem dX6_fits_38 : decode cX6_fits 38 = .ok (.bipush (-3), 2) := by decide +kernel
theorem dX6_fits_40 : decode cX6_fits 40 = .ok (.goto 4, 3) := by decide +kernel
theorem dX6_fits_43 : decode cX6_fits 43 = .ok (.iload_n 3, 1) := by decide +kernel
theorem dX6_fits_44 : decode cX6_fits 44 = .ok (.istore_n 3, 1) := by decide +kernel
theorem dX6_fits_45 : decode cX6_fits 45 = .ok (.iload_n 3, 1) := by decide +kernel
theorem dX6_fits_46 : decode cX6_fits 46 = .ok (.ifCond .ge 9, 3) := by decide +kernel
theorem dX6_fits_49 : decode cX6_fits 49 = .ok (.aload_n 0, 1) := by decide +kernel
theorem dX6_fits_50 : decode cX6_fits 50 = .ok (.iload_n 3, 1) := by decide +kernel
theorem dX6_fits_51 : decode cX6_fits 51 = .ok (.invokevirtual 138, 3) := by decide +kernel
theorem dX6_fits_54 : decode cX6_fits 54 = .ok (.ireturn, 1) := by decide +kernel
theorem dX6_fits_55 : decode cX6_fits 55 = .ok (.iconst 0, 1) := by decide +kernel
theorem dX6_fits_56 : decode cX6_fits 56 = .ok (.istore 4, 2) := by decide +kernel
theorem dX6_fits_58 : decode cX6_fits 58 = .ok (.iconst (-1), 1) := by decide +kernel
theorem dX6_fits_59 : decode cX6_fits 59 = .ok (.istore 5, 2) := by decide +kernel
theorem dX6_fits_61 : decode cX6_fits 61 = .ok (.aload_n 0, 1) := by decide +kernel
theorem dX6_fits_62 : decode cX6_fits 62 = .ok (.invokevirtual 191, 3) := by decide +kernel
theorem dX6_fits_65 : decode cX6_fits 65 = .ok (.iconst 0, 1) := by decide +kernel
theorem dX6_fits_66 : decode cX6_fits 66 = .ok (.istore 6, 2) := by decide +kernel
theorem dX6_fits_68 : decode cX6_fits 68 = .ok (.iload 6, 2) := by decide +kernel
theorem dX6_fits_70 : decode cX6_fits 70 = .ok (.bipush 12, 2) := by decide +kernel
theorem dX6_fits_72 : decode cX6_fits 72 = .ok (.if_icmp .ge 68, 3) := by decide +kernel
theorem dX6_fits_75 : decode cX6_fits 75 = .ok (.aload_n 0, 1) := by decide +kernel
theorem dX6_fits_76 : decode cX6_fits 76 = .ok (.iload_n 1, 1) := by decide +kernel
theorem dX6_fits_77 : decode cX6_fits 77 = .ok (.iload 6, 2) := by decide +kernel
theorem dX6_fits_79 : decode cX6_fits 79 = .ok (.invokevirtual 179, 3) := by decide +kernel
theorem dX6_fits_82 : decode cX6_fits 82 = .ok (.aload_n 0, 1) := by decide +kernel
theorem dX6_fits_83 : decode cX6_fits 83 = .ok (.invokevirtual 234, 3) := by decide +kernel
theorem dX6_fits_86 : decode cX6_fits 86 = .ok (.istore 7, 2) := by decide +kernel
theorem dX6_fits_88 : decode cX6_fits 88 = .ok (.aload_n 0, 1) := by decide +kernel
theorem dX6_fits_89 : decode cX6_fits 89 = .ok (.invokevirtual 197, 3) := by decide +kernel
theorem dX6_fits_92 : decode cX6_fits 92 = .ok (.iload 5, 2) := by decide +kernel
theorem dX6_fits_94 : decode cX6_fits 94 = .ok (.ifCond .lt 10, 3) := by decide +kernel
theorem dX6_fits_97 : decode cX6_fits 97 = .ok (.iload 7, 2) := by decide +kernel
theorem dX6_fits_99 : decode cX6_fits 99 = .ok (.iload 5, 2) := by decide +kernel
theorem dX6_fits_101 : decode cX6_fits 101 = .ok (.if_icmp .ge 8, 3) := by decide +kernel
theorem dX6_fits_104 : decode cX6_fits 104 = .ok (.iload 6, 2) := by decide +kernel
theorem dX6_fits_106 : decode cX6_fits 106 = .ok (.goto 5, 3) := by decide +kernel
theorem dX6_fits_109 : decode cX6_fits 109 = .ok (.iload 4, 2) := by decide +kernel
theorem dX6_fits_111 : decode cX6_fits 111 = .ok (.istore 4, 2) := by decide +kernel
theorem dX6_fits_113 : decode cX6_fits 113 = .ok (.iload 5, 2) := by decide +kernel
theorem dX6_fits_115 : decode cX6_fits 115 = .ok (.ifCond .lt 10, 3) := by decide +kernel
theorem dX6_fits_118 : decode cX6_fits 118 = .ok (.iload 7, 2) := by decide +kernel
theorem dX6_fits_120 : decode cX6_fits 120 = .ok (.iload 5, 2) := by decide +kernel
theorem dX6_fits_122 : decode cX6_fits 122 = .ok (.if_icmp .ge 8, 3) := by decide +kernel
theorem dX6_fits_125 : decode cX6_fits 125 = .ok (.iload 7, 2) := by decide +kernel
theorem dX6_fits_127 : decode cX6_fits 127 = .ok (.goto 5, 3) := by decide +kernel
theorem dX6_fits_130 : decode cX6_fits 130 = .ok (.iload 5, 2) := by decide +kernel
theorem dX6_fits_132 : decode cX6_fits 132 = .ok (.istore 5, 2) := by decide +kernel
theorem dX6_fits_134 : decode cX6_fits 134 = .ok (.iinc 6 1, 3) := by decide +kernel
theorem dX6_fits_137 : decode cX6_fits 137 = .ok (.goto (-69), 3) := by decide +kernel
theorem dX6_fits_140 : decode cX6_fits 140 = .ok (.iload_n 2, 1) := by decide +kernel
theorem dX6_fits_141 : decode cX6_fits 141 = .ok (.ifCond .ne 8, 3) := by decide +kernel
theorem dX6_fits_144 : decode cX6_fits 144 = .ok (.iload 4, 2) := by decide +kernel
theorem dX6_fits_146 : decode cX6_fits 146 = .ok (.goto 5, 3) := by decide +kernel
theorem dX6_fits_149 : decode cX6_fits 149 = .ok (.iload 5, 2) := by decide +kernel
theorem dX6_fits_151 : decode cX6_fits 151 = .ok (.ireturn, 1) := by decide +kernel
set_option maxRecDepth 100000 in
set_option maxHeartbeats 4000000 in
theorem k_X6_fits (κ : Kp) (ma : Nat → Nat) (M : MS) (p : Int) (w : Int)  (ha_p : In32 p) (ha_w : In32 w) (ok : okC (cl M)) (hy : M 4 0 ≤ 999) (okr : okR M) : mI κ yX6_fits cX6_fits 8 .int 5 [.ref (ma 100), .int (iI p), .int (iI w)] (mw κ ma M) (qM κ ma M (qFits (cl M) (M 6) (M 7) (M 8) (M 9) (M 5 0) p w)) := by
  refine mI_of (by decide) (Nat.le_of_ble_eq_true rfl) (fun E F K => ?_)
  refine g_lv (lv' := [(0, .ref (ma 100)), (1, .int (iI p)), (2, .int (iI w))]) rfl ?_
  refine g_aload_n F 0 dX6_fits_0 rfl ?_
  refine g_iconst F dX6_fits_1 ?_
  refine gm_put_10 F dX6_fits_2 ?_
  have hn := okr.1
  refine g_aload_n F 0 dX6_fits_5 rfl ?_
  refine g_iload_n F 1 dX6_fits_6 rfl ?_
  refine g_callI F (stk := [.int (iI p), .ref (ma 100)]) (st := []) (k_X6_isPiece κ ma (mA M 10 (fun _ => 0)) p (show In32 p ∧ 0 ≤ (M 5 0) ∧ (M 5 0) ≤ 6 from by omega)) cal_X6_isPiece lm_X6_176 0 rfl rfl rfl rfl (by decide) rfl (Nat.le_of_ble_eq_true rfl) dX6_fits_7 (fun r7 ws7 _ hr7 => ?_)
  obtain ⟨rfl, rfl⟩ := hr7
  refine g_top (y := iI (b2i (0 ≤ p ∧ p < (M 5 0)))) rfl ?_
  refine g_if_eq F 17 (b2i_in _) dX6_fits_10 (by decide) (fun c10 => ?_) (fun c10 => ?_)
  · skip
    have c10 : ¬ (0 ≤ p ∧ p < (M 5 0)) := b2i_f c10
    refine g_iconst F dX6_fits_17 ?_
    refine g_iload_n F 2 dX6_fits_18 rfl ?_
    refine g_iconst F dX6_fits_19 ?_
    refine g_callSI F (stk := [.int (iI 1), .int (iI w), .int (iI (-1))]) (st := []) (k_X6_wrongBit κ (mw κ ma (mA M 10 (fun _ => 0))) (-1) w 1 (by omega)) cal_X6_wrongBit lm_X6_247 rfl (by decide) rfl (Nat.le_of_ble_eq_true rfl) dX6_fits_20 (fun r20 ws20 _ hr20 => ?_)
    obtain ⟨rfl, rfl⟩ := hr20
    have hwb20 := wb_spec (-1) w 1
    refine g_istore_n F (lv' := [(3, .int (iI (wbit (-1) w 1))), (0, .ref (ma 100)), (1, .int (iI p)), (2, .int (iI w))]) 3 dX6_fits_23 rfl (by decide) rfl ?_
    refine g_iload_n F 0 dX6_fits_24 rfl ?_
    refine g_if_ne F 43 (by omega) dX6_fits_25 (by decide) (fun c25 => ?_) (fun c25 => ?_)
    · skip
      refine g_iload_n F 0 dX6_fits_43 rfl ?_
      refine g_istore_n F (lv' := [(3, .int (iI (wbit (-1) w 1))), (0, .ref (ma 100)), (1, .int (iI p)), (2, .int (iI w))]) 3 dX6_fits_44 rfl (by decide) rfl ?_
      refine g_iload_n F 0 dX6_fits_45 rfl ?_
      refine g_if_ge F 55 (by omega) dX6_fits_46 (by decide) (fun c46 => ?_) (fun c46 => ?_)
      · skip
        refine g_iconst F dX6_fits_55 ?_
        refine g_istore F (lv' := [(4, .int (iI 0)), (3, .int (iI (wbit (-1) w 1))), (0, .ref (ma 100)), (1, .int (iI p)), (2, .int (iI w))]) dX6_fits_56 (by decide) rfl ?_
        refine g_iconst F dX6_fits_58 ?_
        refine g_istore F (lv' := [(5, .int (iI (-1))), (4, .int (iI 0)), (3, .int (iI (wbit (-1) w 1))), (0, .ref (ma 100)), (1, .int (iI p)), (2, .int (iI w))]) dX6_fits_59 (by decide) rfl ?_
        refine g_aload_n F 3 dX6_fits_61 rfl ?_
        refine g_callV F (stk := [.ref (ma 100)]) (st := []) (k_X6_think κ ma (mA M 10 (fun _ => 0))) cal_X6_think lm_X6_191 0 rfl rfl rfl rfl (by decide) rfl (Nat.le_of_ble_eq_true rfl) dX6_fits_62 (fun ws62 _ hr62 => ?_)
        obtain rfl := hr62
        refine g_ws (ws' := mw κ ma (thk (mA M 10 (fun _ => 0)))) rfl ?_
        refine g_iconst F dX6_fits_65 ?_
        refine g_istore F (lv' := [(6, .int (iI 0)), (5, .int (iI (-1))), (4, .int (iI 0)), (3, .int (iI (wbit (-1) w 1))), (0, .ref (ma 100)), (1, .int (iI p)), (2, .int (iI w))]) dX6_fits_66 (by decide) rfl ?_
        have L68 : ∀ (mz68 : Nat) (c : Int) (b : Int) (l : Int) (Gm : MS), (12 - c).toNat = mz68 → (0 ≤ c ∧ c ≤ 12) → (smn yes (fun c => allPull (mkp (cl M) (M 6) (M 7) (M 8) p c)) (fun c => c) (0, MAXI) c = (b, if c = 0 then MAXI else l)) → ((c = 0 → l = -1) ∧ (0 < c → 0 ≤ l ∧ l ≤ 3000) ∧ 0 ≤ b ∧ b ≤ c) → G E (mw κ ma (tst M Gm)) [(6, .int (iI c)), (5, .int (iI l)), (4, .int (iI b)), (0, .ref (ma 100)), (1, .int (iI p)), (2, .int (iI w))] 68 [] := by
          intro mz68
          induction mz68 using Nat.strongRecOn with
          | _ mz68 ih68 =>
          intro c b l Gm hmz68 hc hs hl
          refine g_iload F 0 dX6_fits_68 rfl ?_
          refine g_bipush F dX6_fits_70 (by decide +kernel) ?_
          refine g_icmp_ge F 140 (by omega) dX6_fits_72 (by decide) (fun c72 => ?_) (fun c72 => ?_)
          · skip
            refine g_iload_n F 5 dX6_fits_140 rfl ?_
            refine g_if_ne F 149 (by omega) dX6_fits_141 (by decide) (fun c141 => ?_) (fun c141 => ?_)
            · skip
              refine g_iload F 1 dX6_fits_149 rfl ?_
              have e : sFits (cl M) (M 6) (M 7) (M 8) p = (b, l) := by rw [show c = 12 by omega] at hs; exact hs
              have e1 : (sFits (cl M) (M 6) (M 7) (M 8) p).1 = b := by rw [e]
              have e2 : (sFits (cl M) (M 6) (M 7) (M 8) p).2 = l := by rw [e]
              have hq : l = qFits (cl M) (M 6) (M 7) (M 8) (M 9) (M 5 0) p w := by unfold qFits; (repeat' split) <;> omega
              exact K mw_same ⟨_, rfl, iIc hq, ⟨rfl, rfl, rfl, rfl, rfl, rfl, rfl, rfl, rfl, rfl, rfl, rfl, rfl, rfl, rfl, rfl, rfl, rfl⟩, (by rw [← hq]; show M 11 = _; exact (rfa_n (by omega)).symm)⟩ rfl dX6_fits_151
            · skip
              refine g_iload F 2 dX6_fits_144 rfl ?_
              refine g_goto F 151 dX6_fits_146 (by decide) ?_
              have e : sFits (cl M) (M 6) (M 7) (M 8) p = (b, l) := by rw [show c = 12 by omega] at hs; exact hs
              have e1 : (sFits (cl M) (M 6) (M 7) (M 8) p).1 = b := by rw [e]
              have e2 : (sFits (cl M) (M 6) (M 7) (M 8) p).2 = l := by rw [e]
              have hq : b = qFits (cl M) (M 6) (M 7) (M 8) (M 9) (M 5 0) p w := by unfold qFits; (repeat' split) <;> omega
              exact K mw_same ⟨_, rfl, iIc hq, ⟨rfl, rfl, rfl, rfl, rfl, rfl, rfl, rfl, rfl, rfl, rfl, rfl, rfl, rfl, rfl, rfl, rfl, rfl⟩, (by rw [← hq]; show M 11 = _; exact (rfa_n (by omega)).symm)⟩ rfl dX6_fits_151
          · skip
            have hrp : (0 ≤ M 6 p ∧ M 6 p ≤ 5) ∧ (0 ≤ M 7 p ∧ M 7 p ≤ 9) ∧ (0 ≤ M 8 p ∧ M 8 p ≤ 99) ∧ 0 ≤ M 9 p ∧ M 9 p ≤ 1 := okr.2 p (by omega) (by omega)
            have hpb := allPull_bd (make_ok (c := c) ok hrp.1 hrp.2.1 hrp.2.2.1).A
            refine g_aload_n F 3 dX6_fits_75 rfl ?_
            refine g_iload_n F 4 dX6_fits_76 rfl ?_
            refine g_iload F 0 dX6_fits_77 rfl ?_
            refine g_callV F (stk := [.int (iI c), .int (iI p), .ref (ma 100)]) (st := []) (k_X6_putOn κ ma (tst M Gm) p c (by omega) (by omega)) cal_X6_putOn lm_X6_179 0 rfl rfl rfl rfl (by decide) rfl (Nat.le_of_ble_eq_true rfl) dX6_fits_79 (fun ws79 _ hr79 => ?_)
            obtain rfl := hr79
            refine g_ws (ws' := mw κ ma (mA (stC (tst M Gm) (make (cl M) c (M 6 p) (M 7 p) (M 8 p))) 9 (uI (M 9) p 1))) rfl ?_
            refine g_aload_n F 3 dX6_fits_82 rfl ?_
            refine g_callI F (stk := [.ref (ma 100)]) (st := []) (k_X6_allPull κ ma (mA (stC (tst M Gm) (make (cl M) c (M 6 p) (M 7 p) (M 8 p))) 9 (uI (M 9) p 1)) (make_ok ok hrp.1 hrp.2.1 hrp.2.2.1).A) cal_X6_allPull lm_X6_234 0 rfl rfl rfl rfl (by decide) rfl (Nat.le_of_ble_eq_true rfl) dX6_fits_83 (fun r83 ws83 _ hr83 => ?_)
            obtain ⟨rfl, rfl⟩ := hr83
            refine g_top (y := iI (allPull (make (cl M) c (M 6 p) (M 7 p) (M 8 p)))) rfl ?_
            refine g_istore F (lv' := [(7, .int (iI (allPull (make (cl M) c (M 6 p) (M 7 p) (M 8 p))))), (6, .int (iI c)), (5, .int (iI l)), (4, .int (iI b)), (0, .ref (ma 100)), (1, .int (iI p)), (2, .int (iI w))]) dX6_fits_86 (by decide) rfl ?_
            refine g_aload_n F 4 dX6_fits_88 rfl ?_
            refine g_callV F (stk := [.ref (ma 100)]) (st := []) (k_X6_again κ ma (mA (stC (tst M Gm) (make (cl M) c (M 6 p) (M 7 p) (M 8 p))) 9 (uI (M 9) p 1)) M (fun _ _ _ => rfl)) cal_X6_again lm_X6_197 0 rfl rfl rfl rfl (by decide) rfl (Nat.le_of_ble_eq_true rfl) dX6_fits_89 (fun ws89 _ hr89 => ?_)
            obtain rfl := hr89
            refine g_iload F 2 dX6_fits_92 rfl ?_
            refine g_if_lt F 104 (by omega) dX6_fits_94 (by decide) (fun c94 => ?_) (fun c94 => ?_)
            · skip
              refine g_iload F 1 dX6_fits_104 rfl ?_
              refine g_goto F 111 dX6_fits_106 (by decide) ?_
              refine g_istore F (lv' := [(4, .int (iI c)), (7, .int (iI (allPull (make (cl M) c (M 6 p) (M 7 p) (M 8 p))))), (6, .int (iI c)), (5, .int (iI l)), (0, .ref (ma 100)), (1, .int (iI p)), (2, .int (iI w))]) dX6_fits_111 (by decide) rfl ?_
              refine g_iload F 3 dX6_fits_113 rfl ?_
              refine g_if_lt F 125 (by omega) dX6_fits_115 (by decide) (fun c115 => ?_) (fun c115 => ?_)
              · skip
                refine g_iload F 1 dX6_fits_125 rfl ?_
                refine g_goto F 132 dX6_fits_127 (by decide) ?_
                refine g_istore F (lv' := [(5, .int (iI (allPull (make (cl M) c (M 6 p) (M 7 p) (M 8 p))))), (4, .int (iI c)), (7, .int (iI (allPull (make (cl M) c (M 6 p) (M 7 p) (M 8 p))))), (6, .int (iI c)), (0, .ref (ma 100)), (1, .int (iI p)), (2, .int (iI w))]) dX6_fits_132 (by decide) rfl ?_
                refine g_iinc F (lv' := [(6, .int (iI (c + 1))), (5, .int (iI (allPull (make (cl M) c (M 6 p) (M 7 p) (M 8 p))))), (4, .int (iI c)), (7, .int (iI (allPull (make (cl M) c (M 6 p) (M 7 p) (M 8 p))))), (0, .ref (ma 100)), (1, .int (iI p)), (2, .int (iI w))]) 3 dX6_fits_134 rfl (by decide) rfl ?_
                refine g_goto F 68 dX6_fits_137 (by decide) ?_
                refine g_sub F (lv' := [(6, .int (iI (c + 1))), (5, .int (iI (allPull (make (cl M) c (M 6 p) (M 7 p) (M 8 p))))), (4, .int (iI c)), (0, .ref (ma 100)), (1, .int (iI p)), (2, .int (iI w))]) [0, 1, 2, 4, 5, 6] rfl ?_
                refine g_ws (ws' := mw κ ma (tst M (agn (mA (stC (tst M Gm) (make (cl M) c (M 6 p) (M 7 p) (M 8 p))) 9 (uI (M 9) p 1)) M))) rfl ?_
                exact ih68 _ (by omega) (c + 1) c (allPull (make (cl M) c (M 6 p) (M 7 p) (M 8 p))) (agn (mA (stC (tst M Gm) (make (cl M) c (M 6 p) (M 7 p) (M 8 p))) 9 (uI (M 9) p 1)) M) rfl (by omega) (by first | (exfalso; omega) | exact smn_tS hs rfl rfl hc.1 (by omega) (by omega) | exact smn_fS (x := allPull (make (cl M) c (M 6 p) (M 7 p) (M 8 p))) hs rfl (by omega) (by omega)) (by omega)
              · skip
                refine g_iload F 1 dX6_fits_118 rfl ?_
                refine g_iload F 3 dX6_fits_120 rfl ?_
                refine g_icmp_ge F 130 (by omega) dX6_fits_122 (by decide) (fun c122 => ?_) (fun c122 => ?_)
                · skip
                  refine g_iload F 3 dX6_fits_130 rfl ?_
                  refine g_istore F (lv' := [(5, .int (iI l)), (4, .int (iI c)), (7, .int (iI (allPull (make (cl M) c (M 6 p) (M 7 p) (M 8 p))))), (6, .int (iI c)), (0, .ref (ma 100)), (1, .int (iI p)), (2, .int (iI w))]) dX6_fits_132 (by decide) rfl ?_
                  refine g_iinc F (lv' := [(6, .int (iI (c + 1))), (5, .int (iI l)), (4, .int (iI c)), (7, .int (iI (allPull (make (cl M) c (M 6 p) (M 7 p) (M 8 p))))), (0, .ref (ma 100)), (1, .int (iI p)), (2, .int (iI w))]) 3 dX6_fits_134 rfl (by decide) rfl ?_
                  refine g_goto F 68 dX6_fits_137 (by decide) ?_
                  refine g_sub F (lv' := [(6, .int (iI (c + 1))), (5, .int (iI l)), (4, .int (iI c)), (0, .ref (ma 100)), (1, .int (iI p)), (2, .int (iI w))]) [0, 1, 2, 4, 5, 6] rfl ?_
                  refine g_ws (ws' := mw κ ma (tst M (agn (mA (stC (tst M Gm) (make (cl M) c (M 6 p) (M 7 p) (M 8 p))) 9 (uI (M 9) p 1)) M))) rfl ?_
                  exact ih68 _ (by omega) (c + 1) c l (agn (mA (stC (tst M Gm) (make (cl M) c (M 6 p) (M 7 p) (M 8 p))) 9 (uI (M 9) p 1)) M) rfl (by omega) (by first | (exfalso; omega) | exact smn_tS hs rfl rfl hc.1 (by omega) (by omega) | exact smn_fS (x := allPull (make (cl M) c (M 6 p) (M 7 p) (M 8 p))) hs rfl (by omega) (by omega)) (by omega)
                · skip
                  refine g_iload F 1 dX6_fits_125 rfl ?_
                  refine g_goto F 132 dX6_fits_127 (by decide) ?_
                  refine g_istore F (lv' := [(5, .int (iI (allPull (make (cl M) c (M 6 p) (M 7 p) (M 8 p))))), (4, .int (iI c)), (7, .int (iI (allPull (make (cl M) c (M 6 p) (M 7 p) (M 8 p))))), (6, .int (iI c)), (0, .ref (ma 100)), (1, .int (iI p)), (2, .int (iI w))]) dX6_fits_132 (by decide) rfl ?_
                  refine g_iinc F (lv' := [(6, .int (iI (c + 1))), (5, .int (iI (allPull (make (cl M) c (M 6 p) (M 7 p) (M 8 p))))), (4, .int (iI c)), (7, .int (iI (allPull (make (cl M) c (M 6 p) (M 7 p) (M 8 p))))), (0, .ref (ma 100)), (1, .int (iI p)), (2, .int (iI w))]) 3 dX6_fits_134 rfl (by decide) rfl ?_
                  refine g_goto F 68 dX6_fits_137 (by decide) ?_
                  refine g_sub F (lv' := [(6, .int (iI (c + 1))), (5, .int (iI (allPull (make (cl M) c (M 6 p) (M 7 p) (M 8 p))))), (4, .int (iI c)), (0, .ref (ma 100)), (1, .int (iI p)), (2, .int (iI w))]) [0, 1, 2, 4, 5, 6] rfl ?_
                  refine g_ws (ws' := mw κ ma (tst M (agn (mA (stC (tst M Gm) (make (cl M) c (M 6 p) (M 7 p) (M 8 p))) 9 (uI (M 9) p 1)) M))) rfl ?_
                  exact ih68 _ (by omega) (c + 1) c (allPull (make (cl M) c (M 6 p) (M 7 p) (M 8 p))) (agn (mA (stC (tst M Gm) (make (cl M) c (M 6 p) (M 7 p) (M 8 p))) 9 (uI (M 9) p 1)) M) rfl (by omega) (by first | (exfalso; omega) | exact smn_tS hs rfl rfl hc.1 (by omega) (by omega) | exact smn_fS (x := allPull (make (cl M) c (M 6 p) (M 7 p) (M 8 p))) hs rfl (by omega) (by omega)) (by omega)
            · skip
              refine g_iload F 0 dX6_fits_97 rfl ?_
              refine g_iload F 2 dX6_fits_99 rfl ?_
              refine g_icmp_ge F 109 (by omega) dX6_fits_101 (by decide) (fun c101 => ?_) (fun c101 => ?_)
              · skip
                refine g_iload F 3 dX6_fits_109 rfl ?_
                refine g_istore F (lv' := [(4, .int (iI b)), (7, .int (iI (allPull (make (cl M) c (M 6 p) (M 7 p) (M 8 p))))), (6, .int (iI c)), (5, .int (iI l)), (0, .ref (ma 100)), (1, .int (iI p)), (2, .int (iI w))]) dX6_fits_111 (by decide) rfl ?_
                refine g_iload F 3 dX6_fits_113 rfl ?_
                refine g_if_lt F 125 (by omega) dX6_fits_115 (by decide) (fun c115 => ?_) (fun c115 => ?_)
                · skip
                  refine g_iload F 1 dX6_fits_125 rfl ?_
                  refine g_goto F 132 dX6_fits_127 (by decide) ?_
                  refine g_istore F (lv' := [(5, .int (iI (allPull (make (cl M) c (M 6 p) (M 7 p) (M 8 p))))), (4, .int (iI b)), (7, .int (iI (allPull (make (cl M) c (M 6 p) (M 7 p) (M 8 p))))), (6, .int (iI c)), (0, .ref (ma 100)), (1, .int (iI p)), (2, .int (iI w))]) dX6_fits_132 (by decide) rfl ?_
                  refine g_iinc F (lv' := [(6, .int (iI (c + 1))), (5, .int (iI (allPull (make (cl M) c (M 6 p) (M 7 p) (M 8 p))))), (4, .int (iI b)), (7, .int (iI (allPull (make (cl M) c (M 6 p) (M 7 p) (M 8 p))))), (0, .ref (ma 100)), (1, .int (iI p)), (2, .int (iI w))]) 3 dX6_fits_134 rfl (by decide) rfl ?_
                  refine g_goto F 68 dX6_fits_137 (by decide) ?_
                  refine g_sub F (lv' := [(6, .int (iI (c + 1))), (5, .int (iI (allPull (make (cl M) c (M 6 p) (M 7 p) (M 8 p))))), (4, .int (iI b)), (0, .ref (ma 100)), (1, .int (iI p)), (2, .int (iI w))]) [0, 1, 2, 4, 5, 6] rfl ?_
                  refine g_ws (ws' := mw κ ma (tst M (agn (mA (stC (tst M Gm) (make (cl M) c (M 6 p) (M 7 p) (M 8 p))) 9 (uI (M 9) p 1)) M))) rfl ?_
                  exact ih68 _ (by omega) (c + 1) b (allPull (make (cl M) c (M 6 p) (M 7 p) (M 8 p))) (agn (mA (stC (tst M Gm) (make (cl M) c (M 6 p) (M 7 p) (M 8 p))) 9 (uI (M 9) p 1)) M) rfl (by omega) (by first | (exfalso; omega) | exact smn_tS hs rfl rfl hc.1 (by omega) (by omega) | exact smn_fS (x := allPull (make (cl M) c (M 6 p) (M 7 p) (M 8 p))) hs rfl (by omega) (by omega)) (by omega)
                · skip
                  refine g_iload F 1 dX6_fits_118 rfl ?_
                  refine g_iload F 3 dX6_fits_120 rfl ?_
                  refine g_icmp_ge F 130 (by omega) dX6_fits_122 (by decide) (fun c122 => ?_) (fun c122 => ?_)
                  · skip
                    refine g_iload F 3 dX6_fits_130 rfl ?_
                    refine g_istore F (lv' := [(5, .int (iI l)), (4, .int (iI b)), (7, .int (iI (allPull (make (cl M) c (M 6 p) (M 7 p) (M 8 p))))), (6, .int (iI c)), (0, .ref (ma 100)), (1, .int (iI p)), (2, .int (iI w))]) dX6_fits_132 (by decide) rfl ?_
                    refine g_iinc F (lv' := [(6, .int (iI (c + 1))), (5, .int (iI l)), (4, .int (iI b)), (7, .int (iI (allPull (make (cl M) c (M 6 p) (M 7 p) (M 8 p))))), (0, .ref (ma 100)), (1, .int (iI p)), (2, .int (iI w))]) 3 dX6_fits_134 rfl (by decide) rfl ?_
                    refine g_goto F 68 dX6_fits_137 (by decide) ?_
                    refine g_sub F (lv' := [(6, .int (iI (c + 1))), (5, .int (iI l)), (4, .int (iI b)), (0, .ref (ma 100)), (1, .int (iI p)), (2, .int (iI w))]) [0, 1, 2, 4, 5, 6] rfl ?_
                    refine g_ws (ws' := mw κ ma (tst M (agn (mA (stC (tst M Gm) (make (cl M) c (M 6 p) (M 7 p) (M 8 p))) 9 (uI (M 9) p 1)) M))) rfl ?_
                    exact ih68 _ (by omega) (c + 1) b l (agn (mA (stC (tst M Gm) (make (cl M) c (M 6 p) (M 7 p) (M 8 p))) 9 (uI (M 9) p 1)) M) rfl (by omega) (by first | (exfalso; omega) | exact smn_tS hs rfl rfl hc.1 (by omega) (by omega) | exact smn_fS (x := allPull (make (cl M) c (M 6 p) (M 7 p) (M 8 p))) hs rfl (by omega) (by omega)) (by omega)
                  · skip
                    refine g_iload F 1 dX6_fits_125 rfl ?_
                    refine g_goto F 132 dX6_fits_127 (by decide) ?_
                    refine g_istore F (lv' := [(5, .int (iI (allPull (make (cl M) c (M 6 p) (M 7 p) (M 8 p))))), (4, .int (iI b)), (7, .int (iI (allPull (make (cl M) c (M 6 p) (M 7 p) (M 8 p))))), (6, .int (iI c)), (0, .ref (ma 100)), (1, .int (iI p)), (2, .int (iI w))]) dX6_fits_132 (by decide) rfl ?_
                    refine g_iinc F (lv' := [(6, .int (iI (c + 1))), (5, .int (iI (allPull (make (cl M) c (M 6 p) (M 7 p) (M 8 p))))), (4, .int (iI b)), (7, .int (iI (allPull (make (cl M) c (M 6 p) (M 7 p) (M 8 p))))), (0, .ref (ma 100)), (1, .int (iI p)), (2, .int (iI w))]) 3 dX6_fits_134 rfl (by decide) rfl ?_
                    refine g_goto F 68 dX6_fits_137 (by decide) ?_
                    refine g_sub F (lv' := [(6, .int (iI (c + 1))), (5, .int (iI (allPull (make (cl M) c (M 6 p) (M 7 p) (M 8 p))))), (4, .int (iI b)), (0, .ref (ma 100)), (1, .int (iI p)), (2, .int (iI w))]) [0, 1, 2, 4, 5, 6] rfl ?_
                    refine g_ws (ws' := mw κ ma (tst M (agn (mA (stC (tst M Gm) (make (cl M) c (M 6 p) (M 7 p) (M 8 p))) 9 (uI (M 9) p 1)) M))) rfl ?_
                    exact ih68 _ (by omega) (c + 1) b (allPull (make (cl M) c (M 6 p) (M 7 p) (M 8 p))) (agn (mA (stC (tst M Gm) (make (cl M) c (M 6 p) (M 7 p) (M 8 p))) 9 (uI (M 9) p 1)) M) rfl (by omega) (by first | (exfalso; omega) | exact smn_tS hs rfl rfl hc.1 (by omega) (by omega) | exact smn_fS (x := allPull (make (cl M) c (M 6 p) (M 7 p) (M 8 p))) hs rfl (by omega) (by omega)) (by omega)
              · skip
                refine g_iload F 1 dX6_fits_104 rfl ?_
                refine g_goto F 111 dX6_fits_106 (by decide) ?_
                refine g_istore F (lv' := [(4, .int (iI c)), (7, .int (iI (allPull (make (cl M) c (M 6 p) (M 7 p) (M 8 p))))), (6, .int (iI c)), (5, .int (iI l)), (0, .ref (ma 100)), (1, .int (iI p)), (2, .int (iI w))]) dX6_fits_111 (by decide) rfl ?_
                refine g_iload F 3 dX6_fits_113 rfl ?_
                refine g_if_lt F 125 (by omega) dX6_fits_115 (by decide) (fun c115 => ?_) (fun c115 => ?_)
                · skip
                  refine g_iload F 1 dX6_fits_125 rfl ?_
                  refine g_goto F 132 dX6_fits_127 (by decide) ?_
                  refine g_istore F (lv' := [(5, .int (iI (allPull (make (cl M) c (M 6 p) (M 7 p) (M 8 p))))), (4, .int (iI c)), (7, .int (iI (allPull (make (cl M) c (M 6 p) (M 7 p) (M 8 p))))), (6, .int (iI c)), (0, .ref (ma 100)), (1, .int (iI p)), (2, .int (iI w))]) dX6_fits_132 (by decide) rfl ?_
                  refine g_iinc F (lv' := [(6, .int (iI (c + 1))), (5, .int (iI (allPull (make (cl M) c (M 6 p) (M 7 p) (M 8 p))))), (4, .int (iI c)), (7, .int (iI (allPull (make (cl M) c (M 6 p) (M 7 p) (M 8 p))))), (0, .ref (ma 100)), (1, .int (iI p)), (2, .int (iI w))]) 3 dX6_fits_134 rfl (by decide) rfl ?_
                  refine g_goto F 68 dX6_fits_137 (by decide) ?_
                  refine g_sub F (lv' := [(6, .int (iI (c + 1))), (5, .int (iI (allPull (make (cl M) c (M 6 p) (M 7 p) (M 8 p))))), (4, .int (iI c)), (0, .ref (ma 100)), (1, .int (iI p)), (2, .int (iI w))]) [0, 1, 2, 4, 5, 6] rfl ?_
                  refine g_ws (ws' := mw κ ma (tst M (agn (mA (stC (tst M Gm) (make (cl M) c (M 6 p) (M 7 p) (M 8 p))) 9 (uI (M 9) p 1)) M))) rfl ?_
                  exact ih68 _ (by omega) (c + 1) c (allPull (make (cl M) c (M 6 p) (M 7 p) (M 8 p))) (agn (mA (stC (tst M Gm) (make (cl M) c (M 6 p) (M 7 p) (M 8 p))) 9 (uI (M 9) p 1)) M) rfl (by omega) (by first | (exfalso; omega) | exact smn_tS hs rfl rfl hc.1 (by omega) (by omega) | exact smn_fS (x := allPull (make (cl M) c (M 6 p) (M 7 p) (M 8 p))) hs rfl (by omega) (by omega)) (by omega)
                · skip
                  refine g_iload F 1 dX6_fits_118 rfl ?_
                  refine g_iload F 3 dX6_fits_120 rfl ?_
                  refine g_icmp_ge F 130 (by omega) dX6_fits_122 (by decide) (fun c122 => ?_) (fun c122 => ?_)
                  · skip
                    refine g_iload F 3 dX6_fits_130 rfl ?_
                    refine g_istore F (lv' := [(5, .int (iI l)), (4, .int (iI c)), (7, .int (iI (allPull (make (cl M) c (M 6 p) (M 7 p) (M 8 p))))), (6, .int (iI c)), (0, .ref (ma 100)), (1, .int (iI p)), (2, .int (iI w))]) dX6_fits_132 (by decide) rfl ?_
                    refine g_iinc F (lv' := [(6, .int (iI (c + 1))), (5, .int (iI l)), (4, .int (iI c)), (7, .int (iI (allPull (make (cl M) c (M 6 p) (M 7 p) (M 8 p))))), (0, .ref (ma 100)), (1, .int (iI p)), (2, .int (iI w))]) 3 dX6_fits_134 rfl (by decide) rfl ?_
                    refine g_goto F 68 dX6_fits_137 (by decide) ?_
                    refine g_sub F (lv' := [(6, .int (iI (c + 1))), (5, .int (iI l)), (4, .int (iI c)), (0, .ref (ma 100)), (1, .int (iI p)), (2, .int (iI w))]) [0, 1, 2, 4, 5, 6] rfl ?_
                    refine g_ws (ws' := mw κ ma (tst M (agn (mA (stC (tst M Gm) (make (cl M) c (M 6 p) (M 7 p) (M 8 p))) 9 (uI (M 9) p 1)) M))) rfl ?_
                    exact ih68 _ (by omega) (c + 1) c l (agn (mA (stC (tst M Gm) (make (cl M) c (M 6 p) (M 7 p) (M 8 p))) 9 (uI (M 9) p 1)) M) rfl (by omega) (by first | (exfalso; omega) | exact smn_tS hs rfl rfl hc.1 (by omega) (by omega) | exact smn_fS (x := allPull (make (cl M) c (M 6 p) (M 7 p) (M 8 p))) hs rfl (by omega) (by omega)) (by omega)
                  · skip
                    refine g_iload F 1 dX6_fits_125 rfl ?_
                    refine g_goto F 132 dX6_fits_127 (by decide) ?_
                    refine g_istore F (lv' := [(5, .int (iI (allPull (make (cl M) c (M 6 p) (M 7 p) (M 8 p))))), (4, .int (iI c)), (7, .int (iI (allPull (make (cl M) c (M 6 p) (M 7 p) (M 8 p))))), (6, .int (iI c)), (0, .ref (ma 100)), (1, .int (iI p)), (2, .int (iI w))]) dX6_fits_132 (by decide) rfl ?_
                    refine g_iinc F (lv' := [(6, .int (iI (c + 1))), (5, .int (iI (allPull (make (cl M) c (M 6 p) (M 7 p) (M 8 p))))), (4, .int (iI c)), (7, .int (iI (allPull (make (cl M) c (M 6 p) (M 7 p) (M 8 p))))), (0, .ref (ma 100)), (1, .int (iI p)), (2, .int (iI w))]) 3 dX6_fits_134 rfl (by decide) rfl ?_
                    refine g_goto F 68 dX6_fits_137 (by decide) ?_
                    refine g_sub F (lv' := [(6, .int (iI (c + 1))), (5, .int (iI (allPull (make (cl M) c (M 6 p) (M 7 p) (M 8 p))))), (4, .int (iI c)), (0, .ref (ma 100)), (1, .int (iI p)), (2, .int (iI w))]) [0, 1, 2, 4, 5, 6] rfl ?_
                    refine g_ws (ws' := mw κ ma (tst M (agn (mA (stC (tst M Gm) (make (cl M) c (M 6 p) (M 7 p) (M 8 p))) 9 (uI (M 9) p 1)) M))) rfl ?_
                    exact ih68 _ (by omega) (c + 1) c (allPull (make (cl M) c (M 6 p) (M 7 p) (M 8 p))) (agn (mA (stC (tst M Gm) (make (cl M) c (M 6 p) (M 7 p) (M 8 p))) 9 (uI (M 9) p 1)) M) rfl (by omega) (by first | (exfalso; omega) | exact smn_tS hs rfl rfl hc.1 (by omega) (by omega) | exact smn_fS (x := allPull (make (cl M) c (M 6 p) (M 7 p) (M 8 p))) hs rfl (by omega) (by omega)) (by omega)
        refine g_sub F (lv' := [(6, .int (iI 0)), (5, .int (iI (-1))), (4, .int (iI 0)), (0, .ref (ma 100)), (1, .int (iI p)), (2, .int (iI w))]) [0, 1, 2, 4, 5, 6] rfl ?_
        refine g_ws (ws' := mw κ ma (tst M (thk (mA M 10 (fun _ => 0))))) (by unfold thk; rw [snapF_mA (by decide)]; rfl) ?_
        exact L68 _ 0 0 (-1) (thk (mA M 10 (fun _ => 0))) rfl (by omega) rfl (by omega)
      · skip
        refine g_aload_n F 1 dX6_fits_49 rfl ?_
        refine g_iload_n F 0 dX6_fits_50 rfl ?_
        refine g_callI F (stk := [.int (iI (wbit (-1) w 1)), .ref (ma 100)]) (st := []) (k_X6_refuse κ ma (mA M 10 (fun _ => 0)) (wbit (-1) w 1) (by omega)) cal_X6_refuse lm_X6_138 0 rfl rfl rfl rfl (by decide) rfl (Nat.le_of_ble_eq_true rfl) dX6_fits_51 (fun r51 ws51 _ hr51 => ?_)
        obtain ⟨rfl, rfl⟩ := hr51
        refine g_top (y := iI (wbit (-1) w 1)) rfl ?_
        refine g_ws (ws' := mw κ ma (mA (mA M 10 (fun _ => 0)) 11 (uI (M 11) (-(wbit (-1) w 1)) (M 11 (-(wbit (-1) w 1)) + 1)))) rfl ?_
        have hq : (wbit (-1) w 1) = qFits (cl M) (M 6) (M 7) (M 8) (M 9) (M 5 0) p w := by unfold qFits; (repeat' split) <;> omega
        exact K mw_same ⟨_, rfl, iIc hq, ⟨rfl, rfl, rfl, rfl, rfl, rfl, rfl, rfl, rfl, rfl, rfl, rfl, rfl, rfl, rfl, rfl, rfl, rfl⟩, (by rw [← hq]; exact (rfa_r (by omega)).symm)⟩ rfl dX6_fits_54
    · skip
      refine g_aload_n F 1 dX6_fits_28 rfl ?_
      have hrp : (0 ≤ M 6 p ∧ M 6 p ≤ 5) ∧ (0 ≤ M 7 p ∧ M 7 p ≤ 9) ∧ (0 ≤ M 8 p ∧ M 8 p ≤ 99) ∧ 0 ≤ M 9 p ∧ M 9 p ≤ 1 := okr.2 p (by omega) (by omega)
      refine gm_get_9 F dX6_fits_29 ?_
      refine g_iload_n F 2 dX6_fits_32 rfl ?_
      refine gm_ald_9 F (by omega) dX6_fits_33 ?_
      refine g_top (y := iI (M 9 p)) rfl ?_
      refine g_iconst F dX6_fits_34 ?_
      refine g_icmp_ne F 43 (by omega) dX6_fits_35 (by decide) (fun c35 => ?_) (fun c35 => ?_)
      · skip
        refine g_iload_n F 0 dX6_fits_43 rfl ?_
        refine g_istore_n F (lv' := [(3, .int (iI (wbit (-1) w 1))), (0, .ref (ma 100)), (1, .int (iI p)), (2, .int (iI w))]) 3 dX6_fits_44 rfl (by decide) rfl ?_
        refine g_iload_n F 0 dX6_fits_45 rfl ?_
        refine g_if_ge F 55 (by omega) dX6_fits_46 (by decide) (fun c46 => ?_) (fun c46 => ?_)
        · skip
          refine g_iconst F dX6_fits_55 ?_
          refine g_istore F (lv' := [(4, .int (iI 0)), (3, .int (iI (wbit (-1) w 1))), (0, .ref (ma 100)), (1, .int (iI p)), (2, .int (iI w))]) dX6_fits_56 (by decide) rfl ?_
          refine g_iconst F dX6_fits_58 ?_
          refine g_istore F (lv' := [(5, .int (iI (-1))), (4, .int (iI 0)), (3, .int (iI (wbit (-1) w 1))), (0, .ref (ma 100)), (1, .int (iI p)), (2, .int (iI w))]) dX6_fits_59 (by decide) rfl ?_
          refine g_aload_n F 3 dX6_fits_61 rfl ?_
          refine g_callV F (stk := [.ref (ma 100)]) (st := []) (k_X6_think κ ma (mA M 10 (fun _ => 0))) cal_X6_think lm_X6_191 0 rfl rfl rfl rfl (by decide) rfl (Nat.le_of_ble_eq_true rfl) dX6_fits_62 (fun ws62 _ hr62 => ?_)
          obtain rfl := hr62
          refine g_ws (ws' := mw κ ma (thk (mA M 10 (fun _ => 0)))) rfl ?_
          refine g_iconst F dX6_fits_65 ?_
          refine g_istore F (lv' := [(6, .int (iI 0)), (5, .int (iI (-1))), (4, .int (iI 0)), (3, .int (iI (wbit (-1) w 1))), (0, .ref (ma 100)), (1, .int (iI p)), (2, .int (iI w))]) dX6_fits_66 (by decide) rfl ?_
          have L68 : ∀ (mz68 : Nat) (c : Int) (b : Int) (l : Int) (Gm : MS), (12 - c).toNat = mz68 → (0 ≤ c ∧ c ≤ 12) → (smn yes (fun c => allPull (mkp (cl M) (M 6) (M 7) (M 8) p c)) (fun c => c) (0, MAXI) c = (b, if c = 0 then MAXI else l)) → ((c = 0 → l = -1) ∧ (0 < c → 0 ≤ l ∧ l ≤ 3000) ∧ 0 ≤ b ∧ b ≤ c) → G E (mw κ ma (tst M Gm)) [(6, .int (iI c)), (5, .int (iI l)), (4, .int (iI b)), (0, .ref (ma 100)), (1, .int (iI p)), (2, .int (iI w))] 68 [] := by
            intro mz68
            induction mz68 using Nat.strongRecOn with
            | _ mz68 ih68 =>
            intro c b l Gm hmz68 hc hs hl
            refine g_iload F 0 dX6_fits_68 rfl ?_
            refine g_bipush F dX6_fits_70 (by decide +kernel) ?_
            refine g_icmp_ge F 140 (by omega) dX6_fits_72 (by decide) (fun c72 => ?_) (fun c72 => ?_)
            · skip
              refine g_iload_n F 5 dX6_fits_140 rfl ?_
              refine g_if_ne F 149 (by omega) dX6_fits_141 (by decide) (fun c141 => ?_) (fun c141 => ?_)
              · skip
                refine g_iload F 1 dX6_fits_149 rfl ?_
                have e : sFits (cl M) (M 6) (M 7) (M 8) p = (b, l) := by rw [show c = 12 by omega] at hs; exact hs
                have e1 : (sFits (cl M) (M 6) (M 7) (M 8) p).1 = b := by rw [e]
                have e2 : (sFits (cl M) (M 6) (M 7) (M 8) p).2 = l := by rw [e]
                have hq : l = qFits (cl M) (M 6) (M 7) (M 8) (M 9) (M 5 0) p w := by unfold qFits; (repeat' split) <;> omega
                exact K mw_same ⟨_, rfl, iIc hq, ⟨rfl, rfl, rfl, rfl, rfl, rfl, rfl, rfl, rfl, rfl, rfl, rfl, rfl, rfl, rfl, rfl, rfl, rfl⟩, (by rw [← hq]; show M 11 = _; exact (rfa_n (by omega)).symm)⟩ rfl dX6_fits_151
              · skip
                refine g_iload F 2 dX6_fits_144 rfl ?_
                refine g_goto F 151 dX6_fits_146 (by decide) ?_
                have e : sFits (cl M) (M 6) (M 7) (M 8) p = (b, l) := by rw [show c = 12 by omega] at hs; exact hs
                have e1 : (sFits (cl M) (M 6) (M 7) (M 8) p).1 = b := by rw [e]
                have e2 : (sFits (cl M) (M 6) (M 7) (M 8) p).2 = l := by rw [e]
                have hq : b = qFits (cl M) (M 6) (M 7) (M 8) (M 9) (M 5 0) p w := by unfold qFits; (repeat' split) <;> omega
                exact K mw_same ⟨_, rfl, iIc hq, ⟨rfl, rfl, rfl, rfl, rfl, rfl, rfl, rfl, rfl, rfl, rfl, rfl, rfl, rfl, rfl, rfl, rfl, rfl⟩, (by rw [← hq]; show M 11 = _; exact (rfa_n (by omega)).symm)⟩ rfl dX6_fits_151
            · skip
              have hrp : (0 ≤ M 6 p ∧ M 6 p ≤ 5) ∧ (0 ≤ M 7 p ∧ M 7 p ≤ 9) ∧ (0 ≤ M 8 p ∧ M 8 p ≤ 99) ∧ 0 ≤ M 9 p ∧ M 9 p ≤ 1 := okr.2 p (by omega) (by omega)
              have hpb := allPull_bd (make_ok (c := c) ok hrp.1 hrp.2.1 hrp.2.2.1).A
              refine g_aload_n F 3 dX6_fits_75 rfl ?_
              refine g_iload_n F 4 dX6_fits_76 rfl ?_
              refine g_iload F 0 dX6_fits_77 rfl ?_
              refine g_callV F (stk := [.int (iI c), .int (iI p), .ref (ma 100)]) (st := []) (k_X6_putOn κ ma (tst M Gm) p c (by omega) (by omega)) cal_X6_putOn lm_X6_179 0 rfl rfl rfl rfl (by decide) rfl (Nat.le_of_ble_eq_true rfl) dX6_fits_79 (fun ws79 _ hr79 => ?_)
              obtain rfl := hr79
              refine g_ws (ws' := mw κ ma (mA (stC (tst M Gm) (make (cl M) c (M 6 p) (M 7 p) (M 8 p))) 9 (uI (M 9) p 1))) rfl ?_
              refine g_aload_n F 3 dX6_fits_82 rfl ?_
              refine g_callI F (stk := [.ref (ma 100)]) (st := []) (k_X6_allPull κ ma (mA (stC (tst M Gm) (make (cl M) c (M 6 p) (M 7 p) (M 8 p))) 9 (uI (M 9) p 1)) (make_ok ok hrp.1 hrp.2.1 hrp.2.2.1).A) cal_X6_allPull lm_X6_234 0 rfl rfl rfl rfl (by decide) rfl (Nat.le_of_ble_eq_true rfl) dX6_fits_83 (fun r83 ws83 _ hr83 => ?_)
              obtain ⟨rfl, rfl⟩ := hr83
              refine g_top (y := iI (allPull (make (cl M) c (M 6 p) (M 7 p) (M 8 p)))) rfl ?_
              refine g_istore F (lv' := [(7, .int (iI (allPull (make (cl M) c (M 6 p) (M 7 p) (M 8 p))))), (6, .int (iI c)), (5, .int (iI l)), (4, .int (iI b)), (0, .ref (ma 100)), (1, .int (iI p)), (2, .int (iI w))]) dX6_fits_86 (by decide) rfl ?_
              refine g_aload_n F 4 dX6_fits_88 rfl ?_
              refine g_callV F (stk := [.ref (ma 100)]) (st := []) (k_X6_again κ ma (mA (stC (tst M Gm) (make (cl M) c (M 6 p) (M 7 p) (M 8 p))) 9 (uI (M 9) p 1)) M (fun _ _ _ => rfl)) cal_X6_again lm_X6_197 0 rfl rfl rfl rfl (by decide) rfl (Nat.le_of_ble_eq_true rfl) dX6_fits_89 (fun ws89 _ hr89 => ?_)
              obtain rfl := hr89
              refine g_iload F 2 dX6_fits_92 rfl ?_
              refine g_if_lt F 104 (by omega) dX6_fits_94 (by decide) (fun c94 => ?_) (fun c94 => ?_)
              · skip
                refine g_iload F 1 dX6_fits_104 rfl ?_
                refine g_goto F 111 dX6_fits_106 (by decide) ?_
                refine g_istore F (lv' := [(4, .int (iI c)), (7, .int (iI (allPull (make (cl M) c (M 6 p) (M 7 p) (M 8 p))))), (6, .int (iI c)), (5, .int (iI l)), (0, .ref (ma 100)), (1, .int (iI p)), (2, .int (iI w))]) dX6_fits_111 (by decide) rfl ?_
                refine g_iload F 3 dX6_fits_113 rfl ?_
                refine g_if_lt F 125 (by omega) dX6_fits_115 (by decide) (fun c115 => ?_) (fun c115 => ?_)
                · skip
                  refine g_iload F 1 dX6_fits_125 rfl ?_
                  refine g_goto F 132 dX6_fits_127 (by decide) ?_
                  refine g_istore F (lv' := [(5, .int (iI (allPull (make (cl M) c (M 6 p) (M 7 p) (M 8 p))))), (4, .int (iI c)), (7, .int (iI (allPull (make (cl M) c (M 6 p) (M 7 p) (M 8 p))))), (6, .int (iI c)), (0, .ref (ma 100)), (1, .int (iI p)), (2, .int (iI w))]) dX6_fits_132 (by decide) rfl ?_
                  refine g_iinc F (lv' := [(6, .int (iI (c + 1))), (5, .int (iI (allPull (make (cl M) c (M 6 p) (M 7 p) (M 8 p))))), (4, .int (iI c)), (7, .int (iI (allPull (make (cl M) c (M 6 p) (M 7 p) (M 8 p))))), (0, .ref (ma 100)), (1, .int (iI p)), (2, .int (iI w))]) 3 dX6_fits_134 rfl (by decide) rfl ?_
                  refine g_goto F 68 dX6_fits_137 (by decide) ?_
                  refine g_sub F (lv' := [(6, .int (iI (c + 1))), (5, .int (iI (allPull (make (cl M) c (M 6 p) (M 7 p) (M 8 p))))), (4, .int (iI c)), (0, .ref (ma 100)), (1, .int (iI p)), (2, .int (iI w))]) [0, 1, 2, 4, 5, 6] rfl ?_
                  refine g_ws (ws' := mw κ ma (tst M (agn (mA (stC (tst M Gm) (make (cl M) c (M 6 p) (M 7 p) (M 8 p))) 9 (uI (M 9) p 1)) M))) rfl ?_
                  exact ih68 _ (by omega) (c + 1) c (allPull (make (cl M) c (M 6 p) (M 7 p) (M 8 p))) (agn (mA (stC (tst M Gm) (make (cl M) c (M 6 p) (M 7 p) (M 8 p))) 9 (uI (M 9) p 1)) M) rfl (by omega) (by first | (exfalso; omega) | exact smn_tS hs rfl rfl hc.1 (by omega) (by omega) | exact smn_fS (x := allPull (make (cl M) c (M 6 p) (M 7 p) (M 8 p))) hs rfl (by omega) (by omega)) (by omega)
                · skip
                  refine g_iload F 1 dX6_fits_118 rfl ?_
                  refine g_iload F 3 dX6_fits_120 rfl ?_
                  refine g_icmp_ge F 130 (by omega) dX6_fits_122 (by decide) (fun c122 => ?_) (fun c122 => ?_)
                  · skip
                    refine g_iload F 3 dX6_fits_130 rfl ?_
                    refine g_istore F (lv' := [(5, .int (iI l)), (4, .int (iI c)), (7, .int (iI (allPull (make (cl M) c (M 6 p) (M 7 p) (M 8 p))))), (6, .int (iI c)), (0, .ref (ma 100)), (1, .int (iI p)), (2, .int (iI w))]) dX6_fits_132 (by decide) rfl ?_
                    refine g_iinc F (lv' := [(6, .int (iI (c + 1))), (5, .int (iI l)), (4, .int (iI c)), (7, .int (iI (allPull (make (cl M) c (M 6 p) (M 7 p) (M 8 p))))), (0, .ref (ma 100)), (1, .int (iI p)), (2, .int (iI w))]) 3 dX6_fits_134 rfl (by decide) rfl ?_
                    refine g_goto F 68 dX6_fits_137 (by decide) ?_
                    refine g_sub F (lv' := [(6, .int (iI (c + 1))), (5, .int (iI l)), (4, .int (iI c)), (0, .ref (ma 100)), (1, .int (iI p)), (2, .int (iI w))]) [0, 1, 2, 4, 5, 6] rfl ?_
                    refine g_ws (ws' := mw κ ma (tst M (agn (mA (stC (tst M Gm) (make (cl M) c (M 6 p) (M 7 p) (M 8 p))) 9 (uI (M 9) p 1)) M))) rfl ?_
                    exact ih68 _ (by omega) (c + 1) c l (agn (mA (stC (tst M Gm) (make (cl M) c (M 6 p) (M 7 p) (M 8 p))) 9 (uI (M 9) p 1)) M) rfl (by omega) (by first | (exfalso; omega) | exact smn_tS hs rfl rfl hc.1 (by omega) (by omega) | exact smn_fS (x := allPull (make (cl M) c (M 6 p) (M 7 p) (M 8 p))) hs rfl (by omega) (by omega)) (by omega)
                  · skip
                    refine g_iload F 1 dX6_fits_125 rfl ?_
                    refine g_goto F 132 dX6_fits_127 (by decide) ?_
                    refine g_istore F (lv' := [(5, .int (iI (allPull (make (cl M) c (M 6 p) (M 7 p) (M 8 p))))), (4, .int (iI c)), (7, .int (iI (allPull (make (cl M) c (M 6 p) (M 7 p) (M 8 p))))), (6, .int (iI c)), (0, .ref (ma 100)), (1, .int (iI p)), (2, .int (iI w))]) dX6_fits_132 (by decide) rfl ?_
                    refine g_iinc F (lv' := [(6, .int (iI (c + 1))), (5, .int (iI (allPull (make (cl M) c (M 6 p) (M 7 p) (M 8 p))))), (4, .int (iI c)), (7, .int (iI (allPull (make (cl M) c (M 6 p) (M 7 p) (M 8 p))))), (0, .ref (ma 100)), (1, .int (iI p)), (2, .int (iI w))]) 3 dX6_fits_134 rfl (by decide) rfl ?_
                    refine g_goto F 68 dX6_fits_137 (by decide) ?_
                    refine g_sub F (lv' := [(6, .int (iI (c + 1))), (5, .int (iI (allPull (make (cl M) c (M 6 p) (M 7 p) (M 8 p))))), (4, .int (iI c)), (0, .ref (ma 100)), (1, .int (iI p)), (2, .int (iI w))]) [0, 1, 2, 4, 5, 6] rfl ?_
                    refine g_ws (ws' := mw κ ma (tst M (agn (mA (stC (tst M Gm) (make (cl M) c (M 6 p) (M 7 p) (M 8 p))) 9 (uI (M 9) p 1)) M))) rfl ?_
                    exact ih68 _ (by omega) (c + 1) c (allPull (make (cl M) c (M 6 p) (M 7 p) (M 8 p))) (agn (mA (stC (tst M Gm) (make (cl M) c (M 6 p) (M 7 p) (M 8 p))) 9 (uI (M 9) p 1)) M) rfl (by omega) (by first | (exfalso; omega) | exact smn_tS hs rfl rfl hc.1 (by omega) (by omega) | exact smn_fS (x := allPull (make (cl M) c (M 6 p) (M 7 p) (M 8 p))) hs rfl (by omega) (by omega)) (by omega)
              · skip
                refine g_iload F 0 dX6_fits_97 rfl ?_
                refine g_iload F 2 dX6_fits_99 rfl ?_
                refine g_icmp_ge F 109 (by omega) dX6_fits_101 (by decide) (fun c101 => ?_) (fun c101 => ?_)
                · skip
                  refine g_iload F 3 dX6_fits_109 rfl ?_
                  refine g_istore F (lv' := [(4, .int (iI b)), (7, .int (iI (allPull (make (cl M) c (M 6 p) (M 7 p) (M 8 p))))), (6, .int (iI c)), (5, .int (iI l)), (0, .ref (ma 100)), (1, .int (iI p)), (2, .int (iI w))]) dX6_fits_111 (by decide) rfl ?_
                  refine g_iload F 3 dX6_fits_113 rfl ?_
                  refine g_if_lt F 125 (by omega) dX6_fits_115 (by decide) (fun c115 => ?_) (fun c115 => ?_)
                  · skip
                    refine g_iload F 1 dX6_fits_125 rfl ?_
                    refine g_goto F 132 dX6_fits_127 (by decide) ?_
                    refine g_istore F (lv' := [(5, .int (iI (allPull (make (cl M) c (M 6 p) (M 7 p) (M 8 p))))), (4, .int (iI b)), (7, .int (iI (allPull (make (cl M) c (M 6 p) (M 7 p) (M 8 p))))), (6, .int (iI c)), (0, .ref (ma 100)), (1, .int (iI p)), (2, .int (iI w))]) dX6_fits_132 (by decide) rfl ?_
                    refine g_iinc F (lv' := [(6, .int (iI (c + 1))), (5, .int (iI (allPull (make (cl M) c (M 6 p) (M 7 p) (M 8 p))))), (4, .int (iI b)), (7, .int (iI (allPull (make (cl M) c (M 6 p) (M 7 p) (M 8 p))))), (0, .ref (ma 100)), (1, .int (iI p)), (2, .int (iI w))]) 3 dX6_fits_134 rfl (by decide) rfl ?_
                    refine g_goto F 68 dX6_fits_137 (by decide) ?_
                    refine g_sub F (lv' := [(6, .int (iI (c + 1))), (5, .int (iI (allPull (make (cl M) c (M 6 p) (M 7 p) (M 8 p))))), (4, .int (iI b)), (0, .ref (ma 100)), (1, .int (iI p)), (2, .int (iI w))]) [0, 1, 2, 4, 5, 6] rfl ?_
                    refine g_ws (ws' := mw κ ma (tst M (agn (mA (stC (tst M Gm) (make (cl M) c (M 6 p) (M 7 p) (M 8 p))) 9 (uI (M 9) p 1)) M))) rfl ?_
                    exact ih68 _ (by omega) (c + 1) b (allPull (make (cl M) c (M 6 p) (M 7 p) (M 8 p))) (agn (mA (stC (tst M Gm) (make (cl M) c (M 6 p) (M 7 p) (M 8 p))) 9 (uI (M 9) p 1)) M) rfl (by omega) (by first | (exfalso; omega) | exact smn_tS hs rfl rfl hc.1 (by omega) (by omega) | exact smn_fS (x := allPull (make (cl M) c (M 6 p) (M 7 p) (M 8 p))) hs rfl (by omega) (by omega)) (by omega)
                  · skip
                    refine g_iload F 1 dX6_fits_118 rfl ?_
                    refine g_iload F 3 dX6_fits_120 rfl ?_
                    refine g_icmp_ge F 130 (by omega) dX6_fits_122 (by decide) (fun c122 => ?_) (fun c122 => ?_)
                    · skip
                      refine g_iload F 3 dX6_fits_130 rfl ?_
                      refine g_istore F (lv' := [(5, .int (iI l)), (4, .int (iI b)), (7, .int (iI (allPull (make (cl M) c (M 6 p) (M 7 p) (M 8 p))))), (6, .int (iI c)), (0, .ref (ma 100)), (1, .int (iI p)), (2, .int (iI w))]) dX6_fits_132 (by decide) rfl ?_
                      refine g_iinc F (lv' := [(6, .int (iI (c + 1))), (5, .int (iI l)), (4, .int (iI b)), (7, .int (iI (allPull (make (cl M) c (M 6 p) (M 7 p) (M 8 p))))), (0, .ref (ma 100)), (1, .int (iI p)), (2, .int (iI w))]) 3 dX6_fits_134 rfl (by decide) rfl ?_
                      refine g_goto F 68 dX6_fits_137 (by decide) ?_
                      refine g_sub F (lv' := [(6, .int (iI (c + 1))), (5, .int (iI l)), (4, .int (iI b)), (0, .ref (ma 100)), (1, .int (iI p)), (2, .int (iI w))]) [0, 1, 2, 4, 5, 6] rfl ?_
                      refine g_ws (ws' := mw κ ma (tst M (agn (mA (stC (tst M Gm) (make (cl M) c (M 6 p) (M 7 p) (M 8 p))) 9 (uI (M 9) p 1)) M))) rfl ?_
                      exact ih68 _ (by omega) (c + 1) b l (agn (mA (stC (tst M Gm) (make (cl M) c (M 6 p) (M 7 p) (M 8 p))) 9 (uI (M 9) p 1)) M) rfl (by omega) (by first | (exfalso; omega) | exact smn_tS hs rfl rfl hc.1 (by omega) (by omega) | exact smn_fS (x := allPull (make (cl M) c (M 6 p) (M 7 p) (M 8 p))) hs rfl (by omega) (by omega)) (by omega)
                    · skip
                      refine g_iload F 1 dX6_fits_125 rfl ?_
                      refine g_goto F 132 dX6_fits_127 (by decide) ?_
                      refine g_istore F (lv' := [(5, .int (iI (allPull (make (cl M) c (M 6 p) (M 7 p) (M 8 p))))), (4, .int (iI b)), (7, .int (iI (allPull (make (cl M) c (M 6 p) (M 7 p) (M 8 p))))), (6, .int (iI c)), (0, .ref (ma 100)), (1, .int (iI p)), (2, .int (iI w))]) dX6_fits_132 (by decide) rfl ?_
                      refine g_iinc F (lv' := [(6, .int (iI (c + 1))), (5, .int (iI (allPull (make (cl M) c (M 6 p) (M 7 p) (M 8 p))))), (4, .int (iI b)), (7, .int (iI (allPull (make (cl M) c (M 6 p) (M 7 p) (M 8 p))))), (0, .ref (ma 100)), (1, .int (iI p)), (2, .int (iI w))]) 3 dX6_fits_134 rfl (by decide) rfl ?_
                      refine g_goto F 68 dX6_fits_137 (by decide) ?_
                      refine g_sub F (lv' := [(6, .int (iI (c + 1))), (5, .int (iI (allPull (make (cl M) c (M 6 p) (M 7 p) (M 8 p))))), (4, .int (iI b)), (0, .ref (ma 100)), (1, .int (iI p)), (2, .int (iI w))]) [0, 1, 2, 4, 5, 6] rfl ?_
                      refine g_ws (ws' := mw κ ma (tst M (agn (mA (stC (tst M Gm) (make (cl M) c (M 6 p) (M 7 p) (M 8 p))) 9 (uI (M 9) p 1)) M))) rfl ?_
                      exact ih68 _ (by omega) (c + 1) b (allPull (make (cl M) c (M 6 p) (M 7 p) (M 8 p))) (agn (mA (stC (tst M Gm) (make (cl M) c (M 6 p) (M 7 p) (M 8 p))) 9 (uI (M 9) p 1)) M) rfl (by omega) (by first | (exfalso; omega) | exact smn_tS hs rfl rfl hc.1 (by omega) (by omega) | exact smn_fS (x := allPull (make (cl M) c (M 6 p) (M 7 p) (M 8 p))) hs rfl (by omega) (by omega)) (by omega)
                · skip
                  refine g_iload F 1 dX6_fits_104 rfl ?_
                  refine g_goto F 111 dX6_fits_106 (by decide) ?_
                  refine g_istore F (lv' := [(4, .int (iI c)), (7, .int (iI (allPull (make (cl M) c (M 6 p) (M 7 p) (M 8 p))))), (6, .int (iI c)), (5, .int (iI l)), (0, .ref (ma 100)), (1, .int (iI p)), (2, .int (iI w))]) dX6_fits_111 (by decide) rfl ?_
                  refine g_iload F 3 dX6_fits_113 rfl ?_
                  refine g_if_lt F 125 (by omega) dX6_fits_115 (by decide) (fun c115 => ?_) (fun c115 => ?_)
                  · skip
                    refine g_iload F 1 dX6_fits_125 rfl ?_
                    refine g_goto F 132 dX6_fits_127 (by decide) ?_
                    refine g_istore F (lv' := [(5, .int (iI (allPull (make (cl M) c (M 6 p) (M 7 p) (M 8 p))))), (4, .int (iI c)), (7, .int (iI (allPull (make (cl M) c (M 6 p) (M 7 p) (M 8 p))))), (6, .int (iI c)), (0, .ref (ma 100)), (1, .int (iI p)), (2, .int (iI w))]) dX6_fits_132 (by decide) rfl ?_
                    refine g_iinc F (lv' := [(6, .int (iI (c + 1))), (5, .int (iI (allPull (make (cl M) c (M 6 p) (M 7 p) (M 8 p))))), (4, .int (iI c)), (7, .int (iI (allPull (make (cl M) c (M 6 p) (M 7 p) (M 8 p))))), (0, .ref (ma 100)), (1, .int (iI p)), (2, .int (iI w))]) 3 dX6_fits_134 rfl (by decide) rfl ?_
                    refine g_goto F 68 dX6_fits_137 (by decide) ?_
                    refine g_sub F (lv' := [(6, .int (iI (c + 1))), (5, .int (iI (allPull (make (cl M) c (M 6 p) (M 7 p) (M 8 p))))), (4, .int (iI c)), (0, .ref (ma 100)), (1, .int (iI p)), (2, .int (iI w))]) [0, 1, 2, 4, 5, 6] rfl ?_
                    refine g_ws (ws' := mw κ ma (tst M (agn (mA (stC (tst M Gm) (make (cl M) c (M 6 p) (M 7 p) (M 8 p))) 9 (uI (M 9) p 1)) M))) rfl ?_
                    exact ih68 _ (by omega) (c + 1) c (allPull (make (cl M) c (M 6 p) (M 7 p) (M 8 p))) (agn (mA (stC (tst M Gm) (make (cl M) c (M 6 p) (M 7 p) (M 8 p))) 9 (uI (M 9) p 1)) M) rfl (by omega) (by first | (exfalso; omega) | exact smn_tS hs rfl rfl hc.1 (by omega) (by omega) | exact smn_fS (x := allPull (make (cl M) c (M 6 p) (M 7 p) (M 8 p))) hs rfl (by omega) (by omega)) (by omega)
                  · skip
                    refine g_iload F 1 dX6_fits_118 rfl ?_
                    refine g_iload F 3 dX6_fits_120 rfl ?_
                    refine g_icmp_ge F 130 (by omega) dX6_fits_122 (by decide) (fun c122 => ?_) (fun c122 => ?_)
                    · skip
                      refine g_iload F 3 dX6_fits_130 rfl ?_
                      refine g_istore F (lv' := [(5, .int (iI l)), (4, .int (iI c)), (7, .int (iI (allPull (make (cl M) c (M 6 p) (M 7 p) (M 8 p))))), (6, .int (iI c)), (0, .ref (ma 100)), (1, .int (iI p)), (2, .int (iI w))]) dX6_fits_132 (by decide) rfl ?_
                      refine g_iinc F (lv' := [(6, .int (iI (c + 1))), (5, .int (iI l)), (4, .int (iI c)), (7, .int (iI (allPull (make (cl M) c (M 6 p) (M 7 p) (M 8 p))))), (0, .ref (ma 100)), (1, .int (iI p)), (2, .int (iI w))]) 3 dX6_fits_134 rfl (by decide) rfl ?_
                      refine g_goto F 68 dX6_fits_137 (by decide) ?_
                      refine g_sub F (lv' := [(6, .int (iI (c + 1))), (5, .int (iI l)), (4, .int (iI c)), (0, .ref (ma 100)), (1, .int (iI p)), (2, .int (iI w))]) [0, 1, 2, 4, 5, 6] rfl ?_
                      refine g_ws (ws' := mw κ ma (tst M (agn (mA (stC (tst M Gm) (make (cl M) c (M 6 p) (M 7 p) (M 8 p))) 9 (uI (M 9) p 1)) M))) rfl ?_
                      exact ih68 _ (by omega) (c + 1) c l (agn (mA (stC (tst M Gm) (make (cl M) c (M 6 p) (M 7 p) (M 8 p))) 9 (uI (M 9) p 1)) M) rfl (by omega) (by first | (exfalso; omega) | exact smn_tS hs rfl rfl hc.1 (by omega) (by omega) | exact smn_fS (x := allPull (make (cl M) c (M 6 p) (M 7 p) (M 8 p))) hs rfl (by omega) (by omega)) (by omega)
                    · skip
                      refine g_iload F 1 dX6_fits_125 rfl ?_
                      refine g_goto F 132 dX6_fits_127 (by decide) ?_
                      refine g_istore F (lv' := [(5, .int (iI (allPull (make (cl M) c (M 6 p) (M 7 p) (M 8 p))))), (4, .int (iI c)), (7, .int (iI (allPull (make (cl M) c (M 6 p) (M 7 p) (M 8 p))))), (6, .int (iI c)), (0, .ref (ma 100)), (1, .int (iI p)), (2, .int (iI w))]) dX6_fits_132 (by decide) rfl ?_
                      refine g_iinc F (lv' := [(6, .int (iI (c + 1))), (5, .int (iI (allPull (make (cl M) c (M 6 p) (M 7 p) (M 8 p))))), (4, .int (iI c)), (7, .int (iI (allPull (make (cl M) c (M 6 p) (M 7 p) (M 8 p))))), (0, .ref (ma 100)), (1, .int (iI p)), (2, .int (iI w))]) 3 dX6_fits_134 rfl (by decide) rfl ?_
                      refine g_goto F 68 dX6_fits_137 (by decide) ?_
                      refine g_sub F (lv' := [(6, .int (iI (c + 1))), (5, .int (iI (allPull (make (cl M) c (M 6 p) (M 7 p) (M 8 p))))), (4, .int (iI c)), (0, .ref (ma 100)), (1, .int (iI p)), (2, .int (iI w))]) [0, 1, 2, 4, 5, 6] rfl ?_
                      refine g_ws (ws' := mw κ ma (tst M (agn (mA (stC (tst M Gm) (make (cl M) c (M 6 p) (M 7 p) (M 8 p))) 9 (uI (M 9) p 1)) M))) rfl ?_
                      exact ih68 _ (by omega) (c + 1) c (allPull (make (cl M) c (M 6 p) (M 7 p) (M 8 p))) (agn (mA (stC (tst M Gm) (make (cl M) c (M 6 p) (M 7 p) (M 8 p))) 9 (uI (M 9) p 1)) M) rfl (by omega) (by first | (exfalso; omega) | exact smn_tS hs rfl rfl hc.1 (by omega) (by omega) | exact smn_fS (x := allPull (make (cl M) c (M 6 p) (M 7 p) (M 8 p))) hs rfl (by omega) (by omega)) (by omega)
          refine g_sub F (lv' := [(6, .int (iI 0)), (5, .int (iI (-1))), (4, .int (iI 0)), (0, .ref (ma 100)), (1, .int (iI p)), (2, .int (iI w))]) [0, 1, 2, 4, 5, 6] rfl ?_
          refine g_ws (ws' := mw κ ma (tst M (thk (mA M 10 (fun _ => 0))))) (by unfold thk; rw [snapF_mA (by decide)]; rfl) ?_
          exact L68 _ 0 0 (-1) (thk (mA M 10 (fun _ => 0))) rfl (by omega) rfl (by omega)
        · skip
          refine g_aload_n F 1 dX6_fits_49 rfl ?_
          refine g_iload_n F 0 dX6_fits_50 rfl ?_
          refine g_callI F (stk := [.int (iI (wbit (-1) w 1)), .ref (ma 100)]) (st := []) (k_X6_refuse κ ma (mA M 10 (fun _ => 0)) (wbit (-1) w 1) (by omega)) cal_X6_refuse lm_X6_138 0 rfl rfl rfl rfl (by decide) rfl (Nat.le_of_ble_eq_true rfl) dX6_fits_51 (fun r51 ws51 _ hr51 => ?_)
          obtain ⟨rfl, rfl⟩ := hr51
          refine g_top (y := iI (wbit (-1) w 1)) rfl ?_
          refine g_ws (ws' := mw κ ma (mA (mA M 10 (fun _ => 0)) 11 (uI (M 11) (-(wbit (-1) w 1)) (M 11 (-(wbit (-1) w 1)) + 1)))) rfl ?_
          have hq : (wbit (-1) w 1) = qFits (cl M) (M 6) (M 7) (M 8) (M 9) (M 5 0) p w := by unfold qFits; (repeat' split) <;> omega
          exact K mw_same ⟨_, rfl, iIc hq, ⟨rfl, rfl, rfl, rfl, rfl, rfl, rfl, rfl, rfl, rfl, rfl, rfl, rfl, rfl, rfl, rfl, rfl, rfl⟩, (by rw [← hq]; exact (rfa_r (by omega)).symm)⟩ rfl dX6_fits_54
      · skip
        refine g_bipush F dX6_fits_38 (by decide +kernel) ?_
        refine g_goto F 44 dX6_fits_40 (by decide) ?_
        refine g_istore_n F (lv' := [(3, .int (iI (-3))), (0, .ref (ma 100)), (1, .int (iI p)), (2, .int (iI w))]) 3 dX6_fits_44 rfl (by decide) rfl ?_
        refine g_iload_n F 0 dX6_fits_45 rfl ?_
        refine g_if_ge F 55 (by omega) dX6_fits_46 (by decide) (fun c46 => ?_) (fun c46 => ?_)
        · skip
          refine g_iconst F dX6_fits_55 ?_
          refine g_istore F (lv' := [(4, .int (iI 0)), (3, .int (iI (-3))), (0, .ref (ma 100)), (1, .int (iI p)), (2, .int (iI w))]) dX6_fits_56 (by decide) rfl ?_
          refine g_iconst F dX6_fits_58 ?_
          refine g_istore F (lv' := [(5, .int (iI (-1))), (4, .int (iI 0)), (3, .int (iI (-3))), (0, .ref (ma 100)), (1, .int (iI p)), (2, .int (iI w))]) dX6_fits_59 (by decide) rfl ?_
          refine g_aload_n F 3 dX6_fits_61 rfl ?_
          refine g_callV F (stk := [.ref (ma 100)]) (st := []) (k_X6_think κ ma (mA M 10 (fun _ => 0))) cal_X6_think lm_X6_191 0 rfl rfl rfl rfl (by decide) rfl (Nat.le_of_ble_eq_true rfl) dX6_fits_62 (fun ws62 _ hr62 => ?_)
          obtain rfl := hr62
          refine g_ws (ws' := mw κ ma (thk (mA M 10 (fun _ => 0)))) rfl ?_
          refine g_iconst F dX6_fits_65 ?_
          refine g_istore F (lv' := [(6, .int (iI 0)), (5, .int (iI (-1))), (4, .int (iI 0)), (3, .int (iI (-3))), (0, .ref (ma 100)), (1, .int (iI p)), (2, .int (iI w))]) dX6_fits_66 (by decide) rfl ?_
          have L68 : ∀ (mz68 : Nat) (c : Int) (b : Int) (l : Int) (Gm : MS), (12 - c).toNat = mz68 → (0 ≤ c ∧ c ≤ 12) → (smn yes (fun c => allPull (mkp (cl M) (M 6) (M 7) (M 8) p c)) (fun c => c) (0, MAXI) c = (b, if c = 0 then MAXI else l)) → ((c = 0 → l = -1) ∧ (0 < c → 0 ≤ l ∧ l ≤ 3000) ∧ 0 ≤ b ∧ b ≤ c) → G E (mw κ ma (tst M Gm)) [(6, .int (iI c)), (5, .int (iI l)), (4, .int (iI b)), (0, .ref (ma 100)), (1, .int (iI p)), (2, .int (iI w))] 68 [] := by
            intro mz68
            induction mz68 using Nat.strongRecOn with
            | _ mz68 ih68 =>
            intro c b l Gm hmz68 hc hs hl
            refine g_iload F 0 dX6_fits_68 rfl ?_
            refine g_bipush F dX6_fits_70 (by decide +kernel) ?_
            refine g_icmp_ge F 140 (by omega) dX6_fits_72 (by decide) (fun c72 => ?_) (fun c72 => ?_)
            · skip
              refine g_iload_n F 5 dX6_fits_140 rfl ?_
              refine g_if_ne F 149 (by omega) dX6_fits_141 (by decide) (fun c141 => ?_) (fun c141 => ?_)
              · skip
                refine g_iload F 1 dX6_fits_149 rfl ?_
                have e : sFits (cl M) (M 6) (M 7) (M 8) p = (b, l) := by rw [show c = 12 by omega] at hs; exact hs
                have e1 : (sFits (cl M) (M 6) (M 7) (M 8) p).1 = b := by rw [e]
                have e2 : (sFits (cl M) (M 6) (M 7) (M 8) p).2 = l := by rw [e]
                have hq : l = qFits (cl M) (M 6) (M 7) (M 8) (M 9) (M 5 0) p w := by unfold qFits; (repeat' split) <;> omega
                exact K mw_same ⟨_, rfl, iIc hq, ⟨rfl, rfl, rfl, rfl, rfl, rfl, rfl, rfl, rfl, rfl, rfl, rfl, rfl, rfl, rfl, rfl, rfl, rfl⟩, (by rw [← hq]; show M 11 = _; exact (rfa_n (by omega)).symm)⟩ rfl dX6_fits_151
              · skip
                refine g_iload F 2 dX6_fits_144 rfl ?_
                refine g_goto F 151 dX6_fits_146 (by decide) ?_
                have e : sFits (cl M) (M 6) (M 7) (M 8) p = (b, l) := by rw [show c = 12 by omega] at hs; exact hs
                have e1 : (sFits (cl M) (M 6) (M 7) (M 8) p).1 = b := by rw [e]
                have e2 : (sFits (cl M) (M 6) (M 7) (M 8) p).2 = l := by rw [e]
                have hq : b = qFits (cl M) (M 6) (M 7) (M 8) (M 9) (M 5 0) p w := by unfold qFits; (repeat' split) <;> omega
                exact K mw_same ⟨_, rfl, iIc hq, ⟨rfl, rfl, rfl, rfl, rfl, rfl, rfl, rfl, rfl, rfl, rfl, rfl, rfl, rfl, rfl, rfl, rfl, rfl⟩, (by rw [← hq]; show M 11 = _; exact (rfa_n (by omega)).symm)⟩ rfl dX6_fits_151
            · skip
              have hrp : (0 ≤ M 6 p ∧ M 6 p ≤ 5) ∧ (0 ≤ M 7 p ∧ M 7 p ≤ 9) ∧ (0 ≤ M 8 p ∧ M 8 p ≤ 99) ∧ 0 ≤ M 9 p ∧ M 9 p ≤ 1 := okr.2 p (by omega) (by omega)
              have hpb := allPull_bd (make_ok (c := c) ok hrp.1 hrp.2.1 hrp.2.2.1).A
              refine g_aload_n F 3 dX6_fits_75 rfl ?_
              refine g_iload_n F 4 dX6_fits_76 rfl ?_
              refine g_iload F 0 dX6_fits_77 rfl ?_
              refine g_callV F (stk := [.int (iI c), .int (iI p), .ref (ma 100)]) (st := []) (k_X6_putOn κ ma (tst M Gm) p c (by omega) (by omega)) cal_X6_putOn lm_X6_179 0 rfl rfl rfl rfl (by decide) rfl (Nat.le_of_ble_eq_true rfl) dX6_fits_79 (fun ws79 _ hr79 => ?_)
              obtain rfl := hr79
              refine g_ws (ws' := mw κ ma (mA (stC (tst M Gm) (make (cl M) c (M 6 p) (M 7 p) (M 8 p))) 9 (uI (M 9) p 1))) rfl ?_
              refine g_aload_n F 3 dX6_fits_82 rfl ?_
              refine g_callI F (stk := [.ref (ma 100)]) (st := []) (k_X6_allPull κ ma (mA (stC (tst M Gm) (make (cl M) c (M 6 p) (M 7 p) (M 8 p))) 9 (uI (M 9) p 1)) (make_ok ok hrp.1 hrp.2.1 hrp.2.2.1).A) cal_X6_allPull lm_X6_234 0 rfl rfl rfl rfl (by decide) rfl (Nat.le_of_ble_eq_true rfl) dX6_fits_83 (fun r83 ws83 _ hr83 => ?_)
              obtain ⟨rfl, rfl⟩ := hr83
              refine g_top (y := iI (allPull (make (cl M) c (M 6 p) (M 7 p) (M 8 p)))) rfl ?_
              refine g_istore F (lv' := [(7, .int (iI (allPull (make (cl M) c (M 6 p) (M 7 p) (M 8 p))))), (6, .int (iI c)), (5, .int (iI l)), (4, .int (iI b)), (0, .ref (ma 100)), (1, .int (iI p)), (2, .int (iI w))]) dX6_fits_86 (by decide) rfl ?_
              refine g_aload_n F 4 dX6_fits_88 rfl ?_
              refine g_callV F (stk := [.ref (ma 100)]) (st := []) (k_X6_again κ ma (mA (stC (tst M Gm) (make (cl M) c (M 6 p) (M 7 p) (M 8 p))) 9 (uI (M 9) p 1)) M (fun _ _ _ => rfl)) cal_X6_again lm_X6_197 0 rfl rfl rfl rfl (by decide) rfl (Nat.le_of_ble_eq_true rfl) dX6_fits_89 (fun ws89 _ hr89 => ?_)
              obtain rfl := hr89
              refine g_iload F 2 dX6_fits_92 rfl ?_
              refine g_if_lt F 104 (by omega) dX6_fits_94 (by decide) (fun c94 => ?_) (fun c94 => ?_)
              · skip
                refine g_iload F 1 dX6_fits_104 rfl ?_
                refine g_goto F 111 dX6_fits_106 (by decide) ?_
                refine g_istore F (lv' := [(4, .int (iI c)), (7, .int (iI (allPull (make (cl M) c (M 6 p) (M 7 p) (M 8 p))))), (6, .int (iI c)), (5, .int (iI l)), (0, .ref (ma 100)), (1, .int (iI p)), (2, .int (iI w))]) dX6_fits_111 (by decide) rfl ?_
                refine g_iload F 3 dX6_fits_113 rfl ?_
                refine g_if_lt F 125 (by omega) dX6_fits_115 (by decide) (fun c115 => ?_) (fun c115 => ?_)
                · skip
                  refine g_iload F 1 dX6_fits_125 rfl ?_
                  refine g_goto F 132 dX6_fits_127 (by decide) ?_
                  refine g_istore F (lv' := [(5, .int (iI (allPull (make (cl M) c (M 6 p) (M 7 p) (M 8 p))))), (4, .int (iI c)), (7, .int (iI (allPull (make (cl M) c (M 6 p) (M 7 p) (M 8 p))))), (6, .int (iI c)), (0, .ref (ma 100)), (1, .int (iI p)), (2, .int (iI w))]) dX6_fits_132 (by decide) rfl ?_
                  refine g_iinc F (lv' := [(6, .int (iI (c + 1))), (5, .int (iI (allPull (make (cl M) c (M 6 p) (M 7 p) (M 8 p))))), (4, .int (iI c)), (7, .int (iI (allPull (make (cl M) c (M 6 p) (M 7 p) (M 8 p))))), (0, .ref (ma 100)), (1, .int (iI p)), (2, .int (iI w))]) 3 dX6_fits_134 rfl (by decide) rfl ?_
                  refine g_goto F 68 dX6_fits_137 (by decide) ?_
                  refine g_sub F (lv' := [(6, .int (iI (c + 1))), (5, .int (iI (allPull (make (cl M) c (M 6 p) (M 7 p) (M 8 p))))), (4, .int (iI c)), (0, .ref (ma 100)), (1, .int (iI p)), (2, .int (iI w))]) [0, 1, 2, 4, 5, 6] rfl ?_
                  refine g_ws (ws' := mw κ ma (tst M (agn (mA (stC (tst M Gm) (make (cl M) c (M 6 p) (M 7 p) (M 8 p))) 9 (uI (M 9) p 1)) M))) rfl ?_
                  exact ih68 _ (by omega) (c + 1) c (allPull (make (cl M) c (M 6 p) (M 7 p) (M 8 p))) (agn (mA (stC (tst M Gm) (make (cl M) c (M 6 p) (M 7 p) (M 8 p))) 9 (uI (M 9) p 1)) M) rfl (by omega) (by first | (exfalso; omega) | exact smn_tS hs rfl rfl hc.1 (by omega) (by omega) | exact smn_fS (x := allPull (make (cl M) c (M 6 p) (M 7 p) (M 8 p))) hs rfl (by omega) (by omega)) (by omega)
                · skip
                  refine g_iload F 1 dX6_fits_118 rfl ?_
                  refine g_iload F 3 dX6_fits_120 rfl ?_
                  refine g_icmp_ge F 130 (by omega) dX6_fits_122 (by decide) (fun c122 => ?_) (fun c122 => ?_)
                  · skip
                    refine g_iload F 3 dX6_fits_130 rfl ?_
                    refine g_istore F (lv' := [(5, .int (iI l)), (4, .int (iI c)), (7, .int (iI (allPull (make (cl M) c (M 6 p) (M 7 p) (M 8 p))))), (6, .int (iI c)), (0, .ref (ma 100)), (1, .int (iI p)), (2, .int (iI w))]) dX6_fits_132 (by decide) rfl ?_
                    refine g_iinc F (lv' := [(6, .int (iI (c + 1))), (5, .int (iI l)), (4, .int (iI c)), (7, .int (iI (allPull (make (cl M) c (M 6 p) (M 7 p) (M 8 p))))), (0, .ref (ma 100)), (1, .int (iI p)), (2, .int (iI w))]) 3 dX6_fits_134 rfl (by decide) rfl ?_
                    refine g_goto F 68 dX6_fits_137 (by decide) ?_
                    refine g_sub F (lv' := [(6, .int (iI (c + 1))), (5, .int (iI l)), (4, .int (iI c)), (0, .ref (ma 100)), (1, .int (iI p)), (2, .int (iI w))]) [0, 1, 2, 4, 5, 6] rfl ?_
                    refine g_ws (ws' := mw κ ma (tst M (agn (mA (stC (tst M Gm) (make (cl M) c (M 6 p) (M 7 p) (M 8 p))) 9 (uI (M 9) p 1)) M))) rfl ?_
                    exact ih68 _ (by omega) (c + 1) c l (agn (mA (stC (tst M Gm) (make (cl M) c (M 6 p) (M 7 p) (M 8 p))) 9 (uI (M 9) p 1)) M) rfl (by omega) (by first | (exfalso; omega) | exact smn_tS hs rfl rfl hc.1 (by omega) (by omega) | exact smn_fS (x := allPull (make (cl M) c (M 6 p) (M 7 p) (M 8 p))) hs rfl (by omega) (by omega)) (by omega)
                  · skip
                    refine g_iload F 1 dX6_fits_125 rfl ?_
                    refine g_goto F 132 dX6_fits_127 (by decide) ?_
                    refine g_istore F (lv' := [(5, .int (iI (allPull (make (cl M) c (M 6 p) (M 7 p) (M 8 p))))), (4, .int (iI c)), (7, .int (iI (allPull (make (cl M) c (M 6 p) (M 7 p) (M 8 p))))), (6, .int (iI c)), (0, .ref (ma 100)), (1, .int (iI p)), (2, .int (iI w))]) dX6_fits_132 (by decide) rfl ?_
                    refine g_iinc F (lv' := [(6, .int (iI (c + 1))), (5, .int (iI (allPull (make (cl M) c (M 6 p) (M 7 p) (M 8 p))))), (4, .int (iI c)), (7, .int (iI (allPull (make (cl M) c (M 6 p) (M 7 p) (M 8 p))))), (0, .ref (ma 100)), (1, .int (iI p)), (2, .int (iI w))]) 3 dX6_fits_134 rfl (by decide) rfl ?_
                    refine g_goto F 68 dX6_fits_137 (by decide) ?_
                    refine g_sub F (lv' := [(6, .int (iI (c + 1))), (5, .int (iI (allPull (make (cl M) c (M 6 p) (M 7 p) (M 8 p))))), (4, .int (iI c)), (0, .ref (ma 100)), (1, .int (iI p)), (2, .int (iI w))]) [0, 1, 2, 4, 5, 6] rfl ?_
                    refine g_ws (ws' := mw κ ma (tst M (agn (mA (stC (tst M Gm) (make (cl M) c (M 6 p) (M 7 p) (M 8 p))) 9 (uI (M 9) p 1)) M))) rfl ?_
                    exact ih68 _ (by omega) (c + 1) c (allPull (make (cl M) c (M 6 p) (M 7 p) (M 8 p))) (agn (mA (stC (tst M Gm) (make (cl M) c (M 6 p) (M 7 p) (M 8 p))) 9 (uI (M 9) p 1)) M) rfl (by omega) (by first | (exfalso; omega) | exact smn_tS hs rfl rfl hc.1 (by omega) (by omega) | exact smn_fS (x := allPull (make (cl M) c (M 6 p) (M 7 p) (M 8 p))) hs rfl (by omega) (by omega)) (by omega)
              · skip
                refine g_iload F 0 dX6_fits_97 rfl ?_
                refine g_iload F 2 dX6_fits_99 rfl ?_
                refine g_icmp_ge F 109 (by omega) dX6_fits_101 (by decide) (fun c101 => ?_) (fun c101 => ?_)
                · skip
                  refine g_iload F 3 dX6_fits_109 rfl ?_
                  refine g_istore F (lv' := [(4, .int (iI b)), (7, .int (iI (allPull (make (cl M) c (M 6 p) (M 7 p) (M 8 p))))), (6, .int (iI c)), (5, .int (iI l)), (0, .ref (ma 100)), (1, .int (iI p)), (2, .int (iI w))]) dX6_fits_111 (by decide) rfl ?_
                  refine g_iload F 3 dX6_fits_113 rfl ?_
                  refine g_if_lt F 125 (by omega) dX6_fits_115 (by decide) (fun c115 => ?_) (fun c115 => ?_)
                  · skip
                    refine g_iload F 1 dX6_fits_125 rfl ?_
                    refine g_goto F 132 dX6_fits_127 (by decide) ?_
                    refine g_istore F (lv' := [(5, .int (iI (allPull (make (cl M) c (M 6 p) (M 7 p) (M 8 p))))), (4, .int (iI b)), (7, .int (iI (allPull (make (cl M) c (M 6 p) (M 7 p) (M 8 p))))), (6, .int (iI c)), (0, .ref (ma 100)), (1, .int (iI p)), (2, .int (iI w))]) dX6_fits_132 (by decide) rfl ?_
                    refine g_iinc F (lv' := [(6, .int (iI (c + 1))), (5, .int (iI (allPull (make (cl M) c (M 6 p) (M 7 p) (M 8 p))))), (4, .int (iI b)), (7, .int (iI (allPull (make (cl M) c (M 6 p) (M 7 p) (M 8 p))))), (0, .ref (ma 100)), (1, .int (iI p)), (2, .int (iI w))]) 3 dX6_fits_134 rfl (by decide) rfl ?_
                    refine g_goto F 68 dX6_fits_137 (by decide) ?_
                    refine g_sub F (lv' := [(6, .int (iI (c + 1))), (5, .int (iI (allPull (make (cl M) c (M 6 p) (M 7 p) (M 8 p))))), (4, .int (iI b)), (0, .ref (ma 100)), (1, .int (iI p)), (2, .int (iI w))]) [0, 1, 2, 4, 5, 6] rfl ?_
                    refine g_ws (ws' := mw κ ma (tst M (agn (mA (stC (tst M Gm) (make (cl M) c (M 6 p) (M 7 p) (M 8 p))) 9 (uI (M 9) p 1)) M))) rfl ?_
                    exact ih68 _ (by omega) (c + 1) b (allPull (make (cl M) c (M 6 p) (M 7 p) (M 8 p))) (agn (mA (stC (tst M Gm) (make (cl M) c (M 6 p) (M 7 p) (M 8 p))) 9 (uI (M 9) p 1)) M) rfl (by omega) (by first | (exfalso; omega) | exact smn_tS hs rfl rfl hc.1 (by omega) (by omega) | exact smn_fS (x := allPull (make (cl M) c (M 6 p) (M 7 p) (M 8 p))) hs rfl (by omega) (by omega)) (by omega)
                  · skip
                    refine g_iload F 1 dX6_fits_118 rfl ?_
                    refine g_iload F 3 dX6_fits_120 rfl ?_
                    refine g_icmp_ge F 130 (by omega) dX6_fits_122 (by decide) (fun c122 => ?_) (fun c122 => ?_)
                    · skip
                      refine g_iload F 3 dX6_fits_130 rfl ?_
                      refine g_istore F (lv' := [(5, .int (iI l)), (4, .int (iI b)), (7, .int (iI (allPull (make (cl M) c (M 6 p) (M 7 p) (M 8 p))))), (6, .int (iI c)), (0, .ref (ma 100)), (1, .int (iI p)), (2, .int (iI w))]) dX6_fits_132 (by decide) rfl ?_
                      refine g_iinc F (lv' := [(6, .int (iI (c + 1))), (5, .int (iI l)), (4, .int (iI b)), (7, .int (iI (allPull (make (cl M) c (M 6 p) (M 7 p) (M 8 p))))), (0, .ref (ma 100)), (1, .int (iI p)), (2, .int (iI w))]) 3 dX6_fits_134 rfl (by decide) rfl ?_
                      refine g_goto F 68 dX6_fits_137 (by decide) ?_
                      refine g_sub F (lv' := [(6, .int (iI (c + 1))), (5, .int (iI l)), (4, .int (iI b)), (0, .ref (ma 100)), (1, .int (iI p)), (2, .int (iI w))]) [0, 1, 2, 4, 5, 6] rfl ?_
                      refine g_ws (ws' := mw κ ma (tst M (agn (mA (stC (tst M Gm) (make (cl M) c (M 6 p) (M 7 p) (M 8 p))) 9 (uI (M 9) p 1)) M))) rfl ?_
                      exact ih68 _ (by omega) (c + 1) b l (agn (mA (stC (tst M Gm) (make (cl M) c (M 6 p) (M 7 p) (M 8 p))) 9 (uI (M 9) p 1)) M) rfl (by omega) (by first | (exfalso; omega) | exact smn_tS hs rfl rfl hc.1 (by omega) (by omega) | exact smn_fS (x := allPull (make (cl M) c (M 6 p) (M 7 p) (M 8 p))) hs rfl (by omega) (by omega)) (by omega)
                    · skip
                      refine g_iload F 1 dX6_fits_125 rfl ?_
                      refine g_goto F 132 dX6_fits_127 (by decide) ?_
                      refine g_istore F (lv' := [(5, .int (iI (allPull (make (cl M) c (M 6 p) (M 7 p) (M 8 p))))), (4, .int (iI b)), (7, .int (iI (allPull (make (cl M) c (M 6 p) (M 7 p) (M 8 p))))), (6, .int (iI c)), (0, .ref (ma 100)), (1, .int (iI p)), (2, .int (iI w))]) dX6_fits_132 (by decide) rfl ?_
                      refine g_iinc F (lv' := [(6, .int (iI (c + 1))), (5, .int (iI (allPull (make (cl M) c (M 6 p) (M 7 p) (M 8 p))))), (4, .int (iI b)), (7, .int (iI (allPull (make (cl M) c (M 6 p) (M 7 p) (M 8 p))))), (0, .ref (ma 100)), (1, .int (iI p)), (2, .int (iI w))]) 3 dX6_fits_134 rfl (by decide) rfl ?_
                      refine g_goto F 68 dX6_fits_137 (by decide) ?_
                      refine g_sub F (lv' := [(6, .int (iI (c + 1))), (5, .int (iI (allPull (make (cl M) c (M 6 p) (M 7 p) (M 8 p))))), (4, .int (iI b)), (0, .ref (ma 100)), (1, .int (iI p)), (2, .int (iI w))]) [0, 1, 2, 4, 5, 6] rfl ?_
                      refine g_ws (ws' := mw κ ma (tst M (agn (mA (stC (tst M Gm) (make (cl M) c (M 6 p) (M 7 p) (M 8 p))) 9 (uI (M 9) p 1)) M))) rfl ?_
                      exact ih68 _ (by omega) (c + 1) b (allPull (make (cl M) c (M 6 p) (M 7 p) (M 8 p))) (agn (mA (stC (tst M Gm) (make (cl M) c (M 6 p) (M 7 p) (M 8 p))) 9 (uI (M 9) p 1)) M) rfl (by omega) (by first | (exfalso; omega) | exact smn_tS hs rfl rfl hc.1 (by omega) (by omega) | exact smn_fS (x := allPull (make (cl M) c (M 6 p) (M 7 p) (M 8 p))) hs rfl (by omega) (by omega)) (by omega)
                · skip
                  refine g_iload F 1 dX6_fits_104 rfl ?_
                  refine g_goto F 111 dX6_fits_106 (by decide) ?_
                  refine g_istore F (lv' := [(4, .int (iI c)), (7, .int (iI (allPull (make (cl M) c (M 6 p) (M 7 p) (M 8 p))))), (6, .int (iI c)), (5, .int (iI l)), (0, .ref (ma 100)), (1, .int (iI p)), (2, .int (iI w))]) dX6_fits_111 (by decide) rfl ?_
                  refine g_iload F 3 dX6_fits_113 rfl ?_
                  refine g_if_lt F 125 (by omega) dX6_fits_115 (by decide) (fun c115 => ?_) (fun c115 => ?_)
                  · skip
                    refine g_iload F 1 dX6_fits_125 rfl ?_
                    refine g_goto F 132 dX6_fits_127 (by decide) ?_
                    refine g_istore F (lv' := [(5, .int (iI (allPull (make (cl M) c (M 6 p) (M 7 p) (M 8 p))))), (4, .int (iI c)), (7, .int (iI (allPull (make (cl M) c (M 6 p) (M 7 p) (M 8 p))))), (6, .int (iI c)), (0, .ref (ma 100)), (1, .int (iI p)), (2, .int (iI w))]) dX6_fits_132 (by decide) rfl ?_
                    refine g_iinc F (lv' := [(6, .int (iI (c + 1))), (5, .int (iI (allPull (make (cl M) c (M 6 p) (M 7 p) (M 8 p))))), (4, .int (iI c)), (7, .int (iI (allPull (make (cl M) c (M 6 p) (M 7 p) (M 8 p))))), (0, .ref (ma 100)), (1, .int (iI p)), (2, .int (iI w))]) 3 dX6_fits_134 rfl (by decide) rfl ?_
                    refine g_goto F 68 dX6_fits_137 (by decide) ?_
                    refine g_sub F (lv' := [(6, .int (iI (c + 1))), (5, .int (iI (allPull (make (cl M) c (M 6 p) (M 7 p) (M 8 p))))), (4, .int (iI c)), (0, .ref (ma 100)), (1, .int (iI p)), (2, .int (iI w))]) [0, 1, 2, 4, 5, 6] rfl ?_
                    refine g_ws (ws' := mw κ ma (tst M (agn (mA (stC (tst M Gm) (make (cl M) c (M 6 p) (M 7 p) (M 8 p))) 9 (uI (M 9) p 1)) M))) rfl ?_
                    exact ih68 _ (by omega) (c + 1) c (allPull (make (cl M) c (M 6 p) (M 7 p) (M 8 p))) (agn (mA (stC (tst M Gm) (make (cl M) c (M 6 p) (M 7 p) (M 8 p))) 9 (uI (M 9) p 1)) M) rfl (by omega) (by first | (exfalso; omega) | exact smn_tS hs rfl rfl hc.1 (by omega) (by omega) | exact smn_fS (x := allPull (make (cl M) c (M 6 p) (M 7 p) (M 8 p))) hs rfl (by omega) (by omega)) (by omega)
                  · skip
                    refine g_iload F 1 dX6_fits_118 rfl ?_
                    refine g_iload F 3 dX6_fits_120 rfl ?_
                    refine g_icmp_ge F 130 (by omega) dX6_fits_122 (by decide) (fun c122 => ?_) (fun c122 => ?_)
                    · skip
                      refine g_iload F 3 dX6_fits_130 rfl ?_
                      refine g_istore F (lv' := [(5, .int (iI l)), (4, .int (iI c)), (7, .int (iI (allPull (make (cl M) c (M 6 p) (M 7 p) (M 8 p))))), (6, .int (iI c)), (0, .ref (ma 100)), (1, .int (iI p)), (2, .int (iI w))]) dX6_fits_132 (by decide) rfl ?_
                      refine g_iinc F (lv' := [(6, .int (iI (c + 1))), (5, .int (iI l)), (4, .int (iI c)), (7, .int (iI (allPull (make (cl M) c (M 6 p) (M 7 p) (M 8 p))))), (0, .ref (ma 100)), (1, .int (iI p)), (2, .int (iI w))]) 3 dX6_fits_134 rfl (by decide) rfl ?_
                      refine g_goto F 68 dX6_fits_137 (by decide) ?_
                      refine g_sub F (lv' := [(6, .int (iI (c + 1))), (5, .int (iI l)), (4, .int (iI c)), (0, .ref (ma 100)), (1, .int (iI p)), (2, .int (iI w))]) [0, 1, 2, 4, 5, 6] rfl ?_
                      refine g_ws (ws' := mw κ ma (tst M (agn (mA (stC (tst M Gm) (make (cl M) c (M 6 p) (M 7 p) (M 8 p))) 9 (uI (M 9) p 1)) M))) rfl ?_
                      exact ih68 _ (by omega) (c + 1) c l (agn (mA (stC (tst M Gm) (make (cl M) c (M 6 p) (M 7 p) (M 8 p))) 9 (uI (M 9) p 1)) M) rfl (by omega) (by first | (exfalso; omega) | exact smn_tS hs rfl rfl hc.1 (by omega) (by omega) | exact smn_fS (x := allPull (make (cl M) c (M 6 p) (M 7 p) (M 8 p))) hs rfl (by omega) (by omega)) (by omega)
                    · skip
                      refine g_iload F 1 dX6_fits_125 rfl ?_
                      refine g_goto F 132 dX6_fits_127 (by decide) ?_
                      refine g_istore F (lv' := [(5, .int (iI (allPull (make (cl M) c (M 6 p) (M 7 p) (M 8 p))))), (4, .int (iI c)), (7, .int (iI (allPull (make (cl M) c (M 6 p) (M 7 p) (M 8 p))))), (6, .int (iI c)), (0, .ref (ma 100)), (1, .int (iI p)), (2, .int (iI w))]) dX6_fits_132 (by decide) rfl ?_
                      refine g_iinc F (lv' := [(6, .int (iI (c + 1))), (5, .int (iI (allPull (make (cl M) c (M 6 p) (M 7 p) (M 8 p))))), (4, .int (iI c)), (7, .int (iI (allPull (make (cl M) c (M 6 p) (M 7 p) (M 8 p))))), (0, .ref (ma 100)), (1, .int (iI p)), (2, .int (iI w))]) 3 dX6_fits_134 rfl (by decide) rfl ?_
                      refine g_goto F 68 dX6_fits_137 (by decide) ?_
                      refine g_sub F (lv' := [(6, .int (iI (c + 1))), (5, .int (iI (allPull (make (cl M) c (M 6 p) (M 7 p) (M 8 p))))), (4, .int (iI c)), (0, .ref (ma 100)), (1, .int (iI p)), (2, .int (iI w))]) [0, 1, 2, 4, 5, 6] rfl ?_
                      refine g_ws (ws' := mw κ ma (tst M (agn (mA (stC (tst M Gm) (make (cl M) c (M 6 p) (M 7 p) (M 8 p))) 9 (uI (M 9) p 1)) M))) rfl ?_
                      exact ih68 _ (by omega) (c + 1) c (allPull (make (cl M) c (M 6 p) (M 7 p) (M 8 p))) (agn (mA (stC (tst M Gm) (make (cl M) c (M 6 p) (M 7 p) (M 8 p))) 9 (uI (M 9) p 1)) M) rfl (by omega) (by first | (exfalso; omega) | exact smn_tS hs rfl rfl hc.1 (by omega) (by omega) | exact smn_fS (x := allPull (make (cl M) c (M 6 p) (M 7 p) (M 8 p))) hs rfl (by omega) (by omega)) (by omega)
          refine g_sub F (lv' := [(6, .int (iI 0)), (5, .int (iI (-1))), (4, .int (iI 0)), (0, .ref (ma 100)), (1, .int (iI p)), (2, .int (iI w))]) [0, 1, 2, 4, 5, 6] rfl ?_
          refine g_ws (ws' := mw κ ma (tst M (thk (mA M 10 (fun _ => 0))))) (by unfold thk; rw [snapF_mA (by decide)]; rfl) ?_
          exact L68 _ 0 0 (-1) (thk (mA M 10 (fun _ => 0))) rfl (by omega) rfl (by omega)
        · skip
          refine g_aload_n F 1 dX6_fits_49 rfl ?_
          refine g_iload_n F 0 dX6_fits_50 rfl ?_
          refine g_callI F (stk := [.int (iI (-3)), .ref (ma 100)]) (st := []) (k_X6_refuse κ ma (mA M 10 (fun _ => 0)) (-3) (by omega)) cal_X6_refuse lm_X6_138 0 rfl rfl rfl rfl (by decide) rfl (Nat.le_of_ble_eq_true rfl) dX6_fits_51 (fun r51 ws51 _ hr51 => ?_)
          obtain ⟨rfl, rfl⟩ := hr51
          refine g_top (y := iI (-3)) rfl ?_
          refine g_ws (ws' := mw κ ma (mA (mA M 10 (fun _ => 0)) 11 (uI (M 11) (-(-3)) (M 11 (-(-3)) + 1)))) rfl ?_
          have hq : (-3) = qFits (cl M) (M 6) (M 7) (M 8) (M 9) (M 5 0) p w := by unfold qFits; (repeat' split) <;> omega
          exact K mw_same ⟨_, rfl, iIc hq, ⟨rfl, rfl, rfl, rfl, rfl, rfl, rfl, rfl, rfl, rfl, rfl, rfl, rfl, rfl, rfl, rfl, rfl, rfl⟩, (by rw [← hq]; exact (rfa_r (by omega)).symm)⟩ rfl dX6_fits_54
  · skip
    have c10 : 0 ≤ p ∧ p < (M 5 0) := b2i_t c10
    refine g_iconst F dX6_fits_13 ?_
    refine g_goto F 18 dX6_fits_14 (by decide) ?_
    refine g_iload_n F 2 dX6_fits_18 rfl ?_
    refine g_iconst F dX6_fits_19 ?_
    refine g_callSI F (stk := [.int (iI 1), .int (iI w), .int (iI 0)]) (st := []) (k_X6_wrongBit κ (mw κ ma (mA M 10 (fun _ => 0))) 0 w 1 (by omega)) cal_X6_wrongBit lm_X6_247 rfl (by decide) rfl (Nat.le_of_ble_eq_true rfl) dX6_fits_20 (fun r20 ws20 _ hr20 => ?_)
    obtain ⟨rfl, rfl⟩ := hr20
    have hwb20 := wb_spec 0 w 1
    refine g_istore_n F (lv' := [(3, .int (iI (wbit 0 w 1))), (0, .ref (ma 100)), (1, .int (iI p)), (2, .int (iI w))]) 3 dX6_fits_23 rfl (by decide) rfl ?_
    refine g_iload_n F 0 dX6_fits_24 rfl ?_
    refine g_if_ne F 43 (by omega) dX6_fits_25 (by decide) (fun c25 => ?_) (fun c25 => ?_)
    · skip
      refine g_iload_n F 0 dX6_fits_43 rfl ?_
      refine g_istore_n F (lv' := [(3, .int (iI (wbit 0 w 1))), (0, .ref (ma 100)), (1, .int (iI p)), (2, .int (iI w))]) 3 dX6_fits_44 rfl (by decide) rfl ?_
      refine g_iload_n F 0 dX6_fits_45 rfl ?_
      refine g_if_ge F 55 (by omega) dX6_fits_46 (by decide) (fun c46 => ?_) (fun c46 => ?_)
      · skip
        refine g_iconst F dX6_fits_55 ?_
        refine g_istore F (lv' := [(4, .int (iI 0)), (3, .int (iI (wbit 0 w 1))), (0, .ref (ma 100)), (1, .int (iI p)), (2, .int (iI w))]) dX6_fits_56 (by decide) rfl ?_
        refine g_iconst F dX6_fits_58 ?_
        refine g_istore F (lv' := [(5, .int (iI (-1))), (4, .int (iI 0)), (3, .int (iI (wbit 0 w 1))), (0, .ref (ma 100)), (1, .int (iI p)), (2, .int (iI w))]) dX6_fits_59 (by decide) rfl ?_
        refine g_aload_n F 3 dX6_fits_61 rfl ?_
        refine g_callV F (stk := [.ref (ma 100)]) (st := []) (k_X6_think κ ma (mA M 10 (fun _ => 0))) cal_X6_think lm_X6_191 0 rfl rfl rfl rfl (by decide) rfl (Nat.le_of_ble_eq_true rfl) dX6_fits_62 (fun ws62 _ hr62 => ?_)
        obtain rfl := hr62
        refine g_ws (ws' := mw κ ma (thk (mA M 10 (fun _ => 0)))) rfl ?_
        refine g_iconst F dX6_fits_65 ?_
        refine g_istore F (lv' := [(6, .int (iI 0)), (5, .int (iI (-1))), (4, .int (iI 0)), (3, .int (iI (wbit 0 w 1))), (0, .ref (ma 100)), (1, .int (iI p)), (2, .int (iI w))]) dX6_fits_66 (by decide) rfl ?_
        have L68 : ∀ (mz68 : Nat) (c : Int) (b : Int) (l : Int) (Gm : MS), (12 - c).toNat = mz68 → (0 ≤ c ∧ c ≤ 12) → (smn yes (fun c => allPull (mkp (cl M) (M 6) (M 7) (M 8) p c)) (fun c => c) (0, MAXI) c = (b, if c = 0 then MAXI else l)) → ((c = 0 → l = -1) ∧ (0 < c → 0 ≤ l ∧ l ≤ 3000) ∧ 0 ≤ b ∧ b ≤ c) → G E (mw κ ma (tst M Gm)) [(6, .int (iI c)), (5, .int (iI l)), (4, .int (iI b)), (0, .ref (ma 100)), (1, .int (iI p)), (2, .int (iI w))] 68 [] := by
          intro mz68
          induction mz68 using Nat.strongRecOn with
          | _ mz68 ih68 =>
          intro c b l Gm hmz68 hc hs hl
          refine g_iload F 0 dX6_fits_68 rfl ?_
          refine g_bipush F dX6_fits_70 (by decide +kernel) ?_
          refine g_icmp_ge F 140 (by omega) dX6_fits_72 (by decide) (fun c72 => ?_) (fun c72 => ?_)
          · skip
            refine g_iload_n F 5 dX6_fits_140 rfl ?_
            refine g_if_ne F 149 (by omega) dX6_fits_141 (by decide) (fun c141 => ?_) (fun c141 => ?_)
            · skip
              refine g_iload F 1 dX6_fits_149 rfl ?_
              have e : sFits (cl M) (M 6) (M 7) (M 8) p = (b, l) := by rw [show c = 12 by omega] at hs; exact hs
              have e1 : (sFits (cl M) (M 6) (M 7) (M 8) p).1 = b := by rw [e]
              have e2 : (sFits (cl M) (M 6) (M 7) (M 8) p).2 = l := by rw [e]
              have hq : l = qFits (cl M) (M 6) (M 7) (M 8) (M 9) (M 5 0) p w := by unfold qFits; (repeat' split) <;> omega
              exact K mw_same ⟨_, rfl, iIc hq, ⟨rfl, rfl, rfl, rfl, rfl, rfl, rfl, rfl, rfl, rfl, rfl, rfl, rfl, rfl, rfl, rfl, rfl, rfl⟩, (by rw [← hq]; show M 11 = _; exact (rfa_n (by omega)).symm)⟩ rfl dX6_fits_151
            · skip
              refine g_iload F 2 dX6_fits_144 rfl ?_
              refine g_goto F 151 dX6_fits_146 (by decide) ?_
              have e : sFits (cl M) (M 6) (M 7) (M 8) p = (b, l) := by rw [show c = 12 by omega] at hs; exact hs
              have e1 : (sFits (cl M) (M 6) (M 7) (M 8) p).1 = b := by rw [e]
              have e2 : (sFits (cl M) (M 6) (M 7) (M 8) p).2 = l := by rw [e]
              have hq : b = qFits (cl M) (M 6) (M 7) (M 8) (M 9) (M 5 0) p w := by unfold qFits; (repeat' split) <;> omega
              exact K mw_same ⟨_, rfl, iIc hq, ⟨rfl, rfl, rfl, rfl, rfl, rfl, rfl, rfl, rfl, rfl, rfl, rfl, rfl, rfl, rfl, rfl, rfl, rfl⟩, (by rw [← hq]; show M 11 = _; exact (rfa_n (by omega)).symm)⟩ rfl dX6_fits_151
          · skip
            have hrp : (0 ≤ M 6 p ∧ M 6 p ≤ 5) ∧ (0 ≤ M 7 p ∧ M 7 p ≤ 9) ∧ (0 ≤ M 8 p ∧ M 8 p ≤ 99) ∧ 0 ≤ M 9 p ∧ M 9 p ≤ 1 := okr.2 p (by omega) (by omega)
            have hpb := allPull_bd (make_ok (c := c) ok hrp.1 hrp.2.1 hrp.2.2.1).A
            refine g_aload_n F 3 dX6_fits_75 rfl ?_
            refine g_iload_n F 4 dX6_fits_76 rfl ?_
            refine g_iload F 0 dX6_fits_77 rfl ?_
            refine g_callV F (stk := [.int (iI c), .int (iI p), .ref (ma 100)]) (st := []) (k_X6_putOn κ ma (tst M Gm) p c (by omega) (by omega)) cal_X6_putOn lm_X6_179 0 rfl rfl rfl rfl (by decide) rfl (Nat.le_of_ble_eq_true rfl) dX6_fits_79 (fun ws79 _ hr79 => ?_)
            obtain rfl := hr79
            refine g_ws (ws' := mw κ ma (mA (stC (tst M Gm) (make (cl M) c (M 6 p) (M 7 p) (M 8 p))) 9 (uI (M 9) p 1))) rfl ?_
            refine g_aload_n F 3 dX6_fits_82 rfl ?_
            refine g_callI F (stk := [.ref (ma 100)]) (st := []) (k_X6_allPull κ ma (mA (stC (tst M Gm) (make (cl M) c (M 6 p) (M 7 p) (M 8 p))) 9 (uI (M 9) p 1)) (make_ok ok hrp.1 hrp.2.1 hrp.2.2.1).A) cal_X6_allPull lm_X6_234 0 rfl rfl rfl rfl (by decide) rfl (Nat.le_of_ble_eq_true rfl) dX6_fits_83 (fun r83 ws83 _ hr83 => ?_)
            obtain ⟨rfl, rfl⟩ := hr83
            refine g_top (y := iI (allPull (make (cl M) c (M 6 p) (M 7 p) (M 8 p)))) rfl ?_
            refine g_istore F (lv' := [(7, .int (iI (allPull (make (cl M) c (M 6 p) (M 7 p) (M 8 p))))), (6, .int (iI c)), (5, .int (iI l)), (4, .int (iI b)), (0, .ref (ma 100)), (1, .int (iI p)), (2, .int (iI w))]) dX6_fits_86 (by decide) rfl ?_
            refine g_aload_n F 4 dX6_fits_88 rfl ?_
            refine g_callV F (stk := [.ref (ma 100)]) (st := []) (k_X6_again κ ma (mA (stC (tst M Gm) (make (cl M) c (M 6 p) (M 7 p) (M 8 p))) 9 (uI (M 9) p 1)) M (fun _ _ _ => rfl)) cal_X6_again lm_X6_197 0 rfl rfl rfl rfl (by decide) rfl (Nat.le_of_ble_eq_true rfl) dX6_fits_89 (fun ws89 _ hr89 => ?_)
            obtain rfl := hr89
            refine g_iload F 2 dX6_fits_92 rfl ?_
            refine g_if_lt F 104 (by omega) dX6_fits_94 (by decide) (fun c94 => ?_) (fun c94 => ?_)
            · skip
              refine g_iload F 1 dX6_fits_104 rfl ?_
              refine g_goto F 111 dX6_fits_106 (by decide) ?_
              refine g_istore F (lv' := [(4, .int (iI c)), (7, .int (iI (allPull (make (cl M) c (M 6 p) (M 7 p) (M 8 p))))), (6, .int (iI c)), (5, .int (iI l)), (0, .ref (ma 100)), (1, .int (iI p)), (2, .int (iI w))]) dX6_fits_111 (by decide) rfl ?_
              refine g_iload F 3 dX6_fits_113 rfl ?_
              refine g_if_lt F 125 (by omega) dX6_fits_115 (by decide) (fun c115 => ?_) (fun c115 => ?_)
              · skip
                refine g_iload F 1 dX6_fits_125 rfl ?_
                refine g_goto F 132 dX6_fits_127 (by decide) ?_
                refine g_istore F (lv' := [(5, .int (iI (allPull (make (cl M) c (M 6 p) (M 7 p) (M 8 p))))), (4, .int (iI c)), (7, .int (iI (allPull (make (cl M) c (M 6 p) (M 7 p) (M 8 p))))), (6, .int (iI c)), (0, .ref (ma 100)), (1, .int (iI p)), (2, .int (iI w))]) dX6_fits_132 (by decide) rfl ?_
                refine g_iinc F (lv' := [(6, .int (iI (c + 1))), (5, .int (iI (allPull (make (cl M) c (M 6 p) (M 7 p) (M 8 p))))), (4, .int (iI c)), (7, .int (iI (allPull (make (cl M) c (M 6 p) (M 7 p) (M 8 p))))), (0, .ref (ma 100)), (1, .int (iI p)), (2, .int (iI w))]) 3 dX6_fits_134 rfl (by decide) rfl ?_
                refine g_goto F 68 dX6_fits_137 (by decide) ?_
                refine g_sub F (lv' := [(6, .int (iI (c + 1))), (5, .int (iI (allPull (make (cl M) c (M 6 p) (M 7 p) (M 8 p))))), (4, .int (iI c)), (0, .ref (ma 100)), (1, .int (iI p)), (2, .int (iI w))]) [0, 1, 2, 4, 5, 6] rfl ?_
                refine g_ws (ws' := mw κ ma (tst M (agn (mA (stC (tst M Gm) (make (cl M) c (M 6 p) (M 7 p) (M 8 p))) 9 (uI (M 9) p 1)) M))) rfl ?_
                exact ih68 _ (by omega) (c + 1) c (allPull (make (cl M) c (M 6 p) (M 7 p) (M 8 p))) (agn (mA (stC (tst M Gm) (make (cl M) c (M 6 p) (M 7 p) (M 8 p))) 9 (uI (M 9) p 1)) M) rfl (by omega) (by first | (exfalso; omega) | exact smn_tS hs rfl rfl hc.1 (by omega) (by omega) | exact smn_fS (x := allPull (make (cl M) c (M 6 p) (M 7 p) (M 8 p))) hs rfl (by omega) (by omega)) (by omega)
              · skip
                refine g_iload F 1 dX6_fits_118 rfl ?_
                refine g_iload F 3 dX6_fits_120 rfl ?_
                refine g_icmp_ge F 130 (by omega) dX6_fits_122 (by decide) (fun c122 => ?_) (fun c122 => ?_)
                · skip
                  refine g_iload F 3 dX6_fits_130 rfl ?_
                  refine g_istore F (lv' := [(5, .int (iI l)), (4, .int (iI c)), (7, .int (iI (allPull (make (cl M) c (M 6 p) (M 7 p) (M 8 p))))), (6, .int (iI c)), (0, .ref (ma 100)), (1, .int (iI p)), (2, .int (iI w))]) dX6_fits_132 (by decide) rfl ?_
                  refine g_iinc F (lv' := [(6, .int (iI (c + 1))), (5, .int (iI l)), (4, .int (iI c)), (7, .int (iI (allPull (make (cl M) c (M 6 p) (M 7 p) (M 8 p))))), (0, .ref (ma 100)), (1, .int (iI p)), (2, .int (iI w))]) 3 dX6_fits_134 rfl (by decide) rfl ?_
                  refine g_goto F 68 dX6_fits_137 (by decide) ?_
                  refine g_sub F (lv' := [(6, .int (iI (c + 1))), (5, .int (iI l)), (4, .int (iI c)), (0, .ref (ma 100)), (1, .int (iI p)), (2, .int (iI w))]) [0, 1, 2, 4, 5, 6] rfl ?_
                  refine g_ws (ws' := mw κ ma (tst M (agn (mA (stC (tst M Gm) (make (cl M) c (M 6 p) (M 7 p) (M 8 p))) 9 (uI (M 9) p 1)) M))) rfl ?_
                  exact ih68 _ (by omega) (c + 1) c l (agn (mA (stC (tst M Gm) (make (cl M) c (M 6 p) (M 7 p) (M 8 p))) 9 (uI (M 9) p 1)) M) rfl (by omega) (by first | (exfalso; omega) | exact smn_tS hs rfl rfl hc.1 (by omega) (by omega) | exact smn_fS (x := allPull (make (cl M) c (M 6 p) (M 7 p) (M 8 p))) hs rfl (by omega) (by omega)) (by omega)
                · skip
                  refine g_iload F 1 dX6_fits_125 rfl ?_
                  refine g_goto F 132 dX6_fits_127 (by decide) ?_
                  refine g_istore F (lv' := [(5, .int (iI (allPull (make (cl M) c (M 6 p) (M 7 p) (M 8 p))))), (4, .int (iI c)), (7, .int (iI (allPull (make (cl M) c (M 6 p) (M 7 p) (M 8 p))))), (6, .int (iI c)), (0, .ref (ma 100)), (1, .int (iI p)), (2, .int (iI w))]) dX6_fits_132 (by decide) rfl ?_
                  refine g_iinc F (lv' := [(6, .int (iI (c + 1))), (5, .int (iI (allPull (make (cl M) c (M 6 p) (M 7 p) (M 8 p))))), (4, .int (iI c)), (7, .int (iI (allPull (make (cl M) c (M 6 p) (M 7 p) (M 8 p))))), (0, .ref (ma 100)), (1, .int (iI p)), (2, .int (iI w))]) 3 dX6_fits_134 rfl (by decide) rfl ?_
                  refine g_goto F 68 dX6_fits_137 (by decide) ?_
                  refine g_sub F (lv' := [(6, .int (iI (c + 1))), (5, .int (iI (allPull (make (cl M) c (M 6 p) (M 7 p) (M 8 p))))), (4, .int (iI c)), (0, .ref (ma 100)), (1, .int (iI p)), (2, .int (iI w))]) [0, 1, 2, 4, 5, 6] rfl ?_
                  refine g_ws (ws' := mw κ ma (tst M (agn (mA (stC (tst M Gm) (make (cl M) c (M 6 p) (M 7 p) (M 8 p))) 9 (uI (M 9) p 1)) M))) rfl ?_
                  exact ih68 _ (by omega) (c + 1) c (allPull (make (cl M) c (M 6 p) (M 7 p) (M 8 p))) (agn (mA (stC (tst M Gm) (make (cl M) c (M 6 p) (M 7 p) (M 8 p))) 9 (uI (M 9) p 1)) M) rfl (by omega) (by first | (exfalso; omega) | exact smn_tS hs rfl rfl hc.1 (by omega) (by omega) | exact smn_fS (x := allPull (make (cl M) c (M 6 p) (M 7 p) (M 8 p))) hs rfl (by omega) (by omega)) (by omega)
            · skip
              refine g_iload F 0 dX6_fits_97 rfl ?_
              refine g_iload F 2 dX6_fits_99 rfl ?_
              refine g_icmp_ge F 109 (by omega) dX6_fits_101 (by decide) (fun c101 => ?_) (fun c101 => ?_)
              · skip
                refine g_iload F 3 dX6_fits_109 rfl ?_
                refine g_istore F (lv' := [(4, .int (iI b)), (7, .int (iI (allPull (make (cl M) c (M 6 p) (M 7 p) (M 8 p))))), (6, .int (iI c)), (5, .int (iI l)), (0, .ref (ma 100)), (1, .int (iI p)), (2, .int (iI w))]) dX6_fits_111 (by decide) rfl ?_
                refine g_iload F 3 dX6_fits_113 rfl ?_
                refine g_if_lt F 125 (by omega) dX6_fits_115 (by decide) (fun c115 => ?_) (fun c115 => ?_)
                · skip
                  refine g_iload F 1 dX6_fits_125 rfl ?_
                  refine g_goto F 132 dX6_fits_127 (by decide) ?_
                  refine g_istore F (lv' := [(5, .int (iI (allPull (make (cl M) c (M 6 p) (M 7 p) (M 8 p))))), (4, .int (iI b)), (7, .int (iI (allPull (make (cl M) c (M 6 p) (M 7 p) (M 8 p))))), (6, .int (iI c)), (0, .ref (ma 100)), (1, .int (iI p)), (2, .int (iI w))]) dX6_fits_132 (by decide) rfl ?_
                  refine g_iinc F (lv' := [(6, .int (iI (c + 1))), (5, .int (iI (allPull (make (cl M) c (M 6 p) (M 7 p) (M 8 p))))), (4, .int (iI b)), (7, .int (iI (allPull (make (cl M) c (M 6 p) (M 7 p) (M 8 p))))), (0, .ref (ma 100)), (1, .int (iI p)), (2, .int (iI w))]) 3 dX6_fits_134 rfl (by decide) rfl ?_
                  refine g_goto F 68 dX6_fits_137 (by decide) ?_
                  refine g_sub F (lv' := [(6, .int (iI (c + 1))), (5, .int (iI (allPull (make (cl M) c (M 6 p) (M 7 p) (M 8 p))))), (4, .int (iI b)), (0, .ref (ma 100)), (1, .int (iI p)), (2, .int (iI w))]) [0, 1, 2, 4, 5, 6] rfl ?_
                  refine g_ws (ws' := mw κ ma (tst M (agn (mA (stC (tst M Gm) (make (cl M) c (M 6 p) (M 7 p) (M 8 p))) 9 (uI (M 9) p 1)) M))) rfl ?_
                  exact ih68 _ (by omega) (c + 1) b (allPull (make (cl M) c (M 6 p) (M 7 p) (M 8 p))) (agn (mA (stC (tst M Gm) (make (cl M) c (M 6 p) (M 7 p) (M 8 p))) 9 (uI (M 9) p 1)) M) rfl (by omega) (by first | (exfalso; omega) | exact smn_tS hs rfl rfl hc.1 (by omega) (by omega) | exact smn_fS (x := allPull (make (cl M) c (M 6 p) (M 7 p) (M 8 p))) hs rfl (by omega) (by omega)) (by omega)
                · skip
                  refine g_iload F 1 dX6_fits_118 rfl ?_
                  refine g_iload F 3 dX6_fits_120 rfl ?_
                  refine g_icmp_ge F 130 (by omega) dX6_fits_122 (by decide) (fun c122 => ?_) (fun c122 => ?_)
                  · skip
                    refine g_iload F 3 dX6_fits_130 rfl ?_
                    refine g_istore F (lv' := [(5, .int (iI l)), (4, .int (iI b)), (7, .int (iI (allPull (make (cl M) c (M 6 p) (M 7 p) (M 8 p))))), (6, .int (iI c)), (0, .ref (ma 100)), (1, .int (iI p)), (2, .int (iI w))]) dX6_fits_132 (by decide) rfl ?_
                    refine g_iinc F (lv' := [(6, .int (iI (c + 1))), (5, .int (iI l)), (4, .int (iI b)), (7, .int (iI (allPull (make (cl M) c (M 6 p) (M 7 p) (M 8 p))))), (0, .ref (ma 100)), (1, .int (iI p)), (2, .int (iI w))]) 3 dX6_fits_134 rfl (by decide) rfl ?_
                    refine g_goto F 68 dX6_fits_137 (by decide) ?_
                    refine g_sub F (lv' := [(6, .int (iI (c + 1))), (5, .int (iI l)), (4, .int (iI b)), (0, .ref (ma 100)), (1, .int (iI p)), (2, .int (iI w))]) [0, 1, 2, 4, 5, 6] rfl ?_
                    refine g_ws (ws' := mw κ ma (tst M (agn (mA (stC (tst M Gm) (make (cl M) c (M 6 p) (M 7 p) (M 8 p))) 9 (uI (M 9) p 1)) M))) rfl ?_
                    exact ih68 _ (by omega) (c + 1) b l (agn (mA (stC (tst M Gm) (make (cl M) c (M 6 p) (M 7 p) (M 8 p))) 9 (uI (M 9) p 1)) M) rfl (by omega) (by first | (exfalso; omega) | exact smn_tS hs rfl rfl hc.1 (by omega) (by omega) | exact smn_fS (x := allPull (make (cl M) c (M 6 p) (M 7 p) (M 8 p))) hs rfl (by omega) (by omega)) (by omega)
                  · skip
                    refine g_iload F 1 dX6_fits_125 rfl ?_
                    refine g_goto F 132 dX6_fits_127 (by decide) ?_
                    refine g_istore F (lv' := [(5, .int (iI (allPull (make (cl M) c (M 6 p) (M 7 p) (M 8 p))))), (4, .int (iI b)), (7, .int (iI (allPull (make (cl M) c (M 6 p) (M 7 p) (M 8 p))))), (6, .int (iI c)), (0, .ref (ma 100)), (1, .int (iI p)), (2, .int (iI w))]) dX6_fits_132 (by decide) rfl ?_
                    refine g_iinc F (lv' := [(6, .int (iI (c + 1))), (5, .int (iI (allPull (make (cl M) c (M 6 p) (M 7 p) (M 8 p))))), (4, .int (iI b)), (7, .int (iI (allPull (make (cl M) c (M 6 p) (M 7 p) (M 8 p))))), (0, .ref (ma 100)), (1, .int (iI p)), (2, .int (iI w))]) 3 dX6_fits_134 rfl (by decide) rfl ?_
                    refine g_goto F 68 dX6_fits_137 (by decide) ?_
                    refine g_sub F (lv' := [(6, .int (iI (c + 1))), (5, .int (iI (allPull (make (cl M) c (M 6 p) (M 7 p) (M 8 p))))), (4, .int (iI b)), (0, .ref (ma 100)), (1, .int (iI p)), (2, .int (iI w))]) [0, 1, 2, 4, 5, 6] rfl ?_
                    refine g_ws (ws' := mw κ ma (tst M (agn (mA (stC (tst M Gm) (make (cl M) c (M 6 p) (M 7 p) (M 8 p))) 9 (uI (M 9) p 1)) M))) rfl ?_
                    exact ih68 _ (by omega) (c + 1) b (allPull (make (cl M) c (M 6 p) (M 7 p) (M 8 p))) (agn (mA (stC (tst M Gm) (make (cl M) c (M 6 p) (M 7 p) (M 8 p))) 9 (uI (M 9) p 1)) M) rfl (by omega) (by first | (exfalso; omega) | exact smn_tS hs rfl rfl hc.1 (by omega) (by omega) | exact smn_fS (x := allPull (make (cl M) c (M 6 p) (M 7 p) (M 8 p))) hs rfl (by omega) (by omega)) (by omega)
              · skip
                refine g_iload F 1 dX6_fits_104 rfl ?_
                refine g_goto F 111 dX6_fits_106 (by decide) ?_
                refine g_istore F (lv' := [(4, .int (iI c)), (7, .int (iI (allPull (make (cl M) c (M 6 p) (M 7 p) (M 8 p))))), (6, .int (iI c)), (5, .int (iI l)), (0, .ref (ma 100)), (1, .int (iI p)), (2, .int (iI w))]) dX6_fits_111 (by decide) rfl ?_
                refine g_iload F 3 dX6_fits_113 rfl ?_
                refine g_if_lt F 125 (by omega) dX6_fits_115 (by decide) (fun c115 => ?_) (fun c115 => ?_)
                · skip
                  refine g_iload F 1 dX6_fits_125 rfl ?_
                  refine g_goto F 132 dX6_fits_127 (by decide) ?_
                  refine g_istore F (lv' := [(5, .int (iI (allPull (make (cl M) c (M 6 p) (M 7 p) (M 8 p))))), (4, .int (iI c)), (7, .int (iI (allPull (make (cl M) c (M 6 p) (M 7 p) (M 8 p))))), (6, .int (iI c)), (0, .ref (ma 100)), (1, .int (iI p)), (2, .int (iI w))]) dX6_fits_132 (by decide) rfl ?_
                  refine g_iinc F (lv' := [(6, .int (iI (c + 1))), (5, .int (iI (allPull (make (cl M) c (M 6 p) (M 7 p) (M 8 p))))), (4, .int (iI c)), (7, .int (iI (allPull (make (cl M) c (M 6 p) (M 7 p) (M 8 p))))), (0, .ref (ma 100)), (1, .int (iI p)), (2, .int (iI w))]) 3 dX6_fits_134 rfl (by decide) rfl ?_
                  refine g_goto F 68 dX6_fits_137 (by decide) ?_
                  refine g_sub F (lv' := [(6, .int (iI (c + 1))), (5, .int (iI (allPull (make (cl M) c (M 6 p) (M 7 p) (M 8 p))))), (4, .int (iI c)), (0, .ref (ma 100)), (1, .int (iI p)), (2, .int (iI w))]) [0, 1, 2, 4, 5, 6] rfl ?_
                  refine g_ws (ws' := mw κ ma (tst M (agn (mA (stC (tst M Gm) (make (cl M) c (M 6 p) (M 7 p) (M 8 p))) 9 (uI (M 9) p 1)) M))) rfl ?_
                  exact ih68 _ (by omega) (c + 1) c (allPull (make (cl M) c (M 6 p) (M 7 p) (M 8 p))) (agn (mA (stC (tst M Gm) (make (cl M) c (M 6 p) (M 7 p) (M 8 p))) 9 (uI (M 9) p 1)) M) rfl (by omega) (by first | (exfalso; omega) | exact smn_tS hs rfl rfl hc.1 (by omega) (by omega) | exact smn_fS (x := allPull (make (cl M) c (M 6 p) (M 7 p) (M 8 p))) hs rfl (by omega) (by omega)) (by omega)
                · skip
                  refine g_iload F 1 dX6_fits_118 rfl ?_
                  refine g_iload F 3 dX6_fits_120 rfl ?_
                  refine g_icmp_ge F 130 (by omega) dX6_fits_122 (by decide) (fun c122 => ?_) (fun c122 => ?_)
                  · skip
                    refine g_iload F 3 dX6_fits_130 rfl ?_
                    refine g_istore F (lv' := [(5, .int (iI l)), (4, .int (iI c)), (7, .int (iI (allPull (make (cl M) c (M 6 p) (M 7 p) (M 8 p))))), (6, .int (iI c)), (0, .ref (ma 100)), (1, .int (iI p)), (2, .int (iI w))]) dX6_fits_132 (by decide) rfl ?_
                    refine g_iinc F (lv' := [(6, .int (iI (c + 1))), (5, .int (iI l)), (4, .int (iI c)), (7, .int (iI (allPull (make (cl M) c (M 6 p) (M 7 p) (M 8 p))))), (0, .ref (ma 100)), (1, .int (iI p)), (2, .int (iI w))]) 3 dX6_fits_134 rfl (by decide) rfl ?_
                    refine g_goto F 68 dX6_fits_137 (by decide) ?_
                    refine g_sub F (lv' := [(6, .int (iI (c + 1))), (5, .int (iI l)), (4, .int (iI c)), (0, .ref (ma 100)), (1, .int (iI p)), (2, .int (iI w))]) [0, 1, 2, 4, 5, 6] rfl ?_
                    refine g_ws (ws' := mw κ ma (tst M (agn (mA (stC (tst M Gm) (make (cl M) c (M 6 p) (M 7 p) (M 8 p))) 9 (uI (M 9) p 1)) M))) rfl ?_
                    exact ih68 _ (by omega) (c + 1) c l (agn (mA (stC (tst M Gm) (make (cl M) c (M 6 p) (M 7 p) (M 8 p))) 9 (uI (M 9) p 1)) M) rfl (by omega) (by first | (exfalso; omega) | exact smn_tS hs rfl rfl hc.1 (by omega) (by omega) | exact smn_fS (x := allPull (make (cl M) c (M 6 p) (M 7 p) (M 8 p))) hs rfl (by omega) (by omega)) (by omega)
                  · skip
                    refine g_iload F 1 dX6_fits_125 rfl ?_
                    refine g_goto F 132 dX6_fits_127 (by decide) ?_
                    refine g_istore F (lv' := [(5, .int (iI (allPull (make (cl M) c (M 6 p) (M 7 p) (M 8 p))))), (4, .int (iI c)), (7, .int (iI (allPull (make (cl M) c (M 6 p) (M 7 p) (M 8 p))))), (6, .int (iI c)), (0, .ref (ma 100)), (1, .int (iI p)), (2, .int (iI w))]) dX6_fits_132 (by decide) rfl ?_
                    refine g_iinc F (lv' := [(6, .int (iI (c + 1))), (5, .int (iI (allPull (make (cl M) c (M 6 p) (M 7 p) (M 8 p))))), (4, .int (iI c)), (7, .int (iI (allPull (make (cl M) c (M 6 p) (M 7 p) (M 8 p))))), (0, .ref (ma 100)), (1, .int (iI p)), (2, .int (iI w))]) 3 dX6_fits_134 rfl (by decide) rfl ?_
                    refine g_goto F 68 dX6_fits_137 (by decide) ?_
                    refine g_sub F (lv' := [(6, .int (iI (c + 1))), (5, .int (iI (allPull (make (cl M) c (M 6 p) (M 7 p) (M 8 p))))), (4, .int (iI c)), (0, .ref (ma 100)), (1, .int (iI p)), (2, .int (iI w))]) [0, 1, 2, 4, 5, 6] rfl ?_
                    refine g_ws (ws' := mw κ ma (tst M (agn (mA (stC (tst M Gm) (make (cl M) c (M 6 p) (M 7 p) (M 8 p))) 9 (uI (M 9) p 1)) M))) rfl ?_
                    exact ih68 _ (by omega) (c + 1) c (allPull (make (cl M) c (M 6 p) (M 7 p) (M 8 p))) (agn (mA (stC (tst M Gm) (make (cl M) c (M 6 p) (M 7 p) (M 8 p))) 9 (uI (M 9) p 1)) M) rfl (by omega) (by first | (exfalso; omega) | exact smn_tS hs rfl rfl hc.1 (by omega) (by omega) | exact smn_fS (x := allPull (make (cl M) c (M 6 p) (M 7 p) (M 8 p))) hs rfl (by omega) (by omega)) (by omega)
        refine g_sub F (lv' := [(6, .int (iI 0)), (5, .int (iI (-1))), (4, .int (iI 0)), (0, .ref (ma 100)), (1, .int (iI p)), (2, .int (iI w))]) [0, 1, 2, 4, 5, 6] rfl ?_
        refine g_ws (ws' := mw κ ma (tst M (thk (mA M 10 (fun _ => 0))))) (by unfold thk; rw [snapF_mA (by decide)]; rfl) ?_
        exact L68 _ 0 0 (-1) (thk (mA M 10 (fun _ => 0))) rfl (by omega) rfl (by omega)
      · skip
        refine g_aload_n F 1 dX6_fits_49 rfl ?_
        refine g_iload_n F 0 dX6_fits_50 rfl ?_
        refine g_callI F (stk := [.int (iI (wbit 0 w 1)), .ref (ma 100)]) (st := []) (k_X6_refuse κ ma (mA M 10 (fun _ => 0)) (wbit 0 w 1) (by omega)) cal_X6_refuse lm_X6_138 0 rfl rfl rfl rfl (by decide) rfl (Nat.le_of_ble_eq_true rfl) dX6_fits_51 (fun r51 ws51 _ hr51 => ?_)
        obtain ⟨rfl, rfl⟩ := hr51
        refine g_top (y := iI (wbit 0 w 1)) rfl ?_
        refine g_ws (ws' := mw κ ma (mA (mA M 10 (fun _ => 0)) 11 (uI (M 11) (-(wbit 0 w 1)) (M 11 (-(wbit 0 w 1)) + 1)))) rfl ?_
        have hq : (wbit 0 w 1) = qFits (cl M) (M 6) (M 7) (M 8) (M 9) (M 5 0) p w := by unfold qFits; (repeat' split) <;> omega
        exact K mw_same ⟨_, rfl, iIc hq, ⟨rfl, rfl, rfl, rfl, rfl, rfl, rfl, rfl, rfl, rfl, rfl, rfl, rfl, rfl, rfl, rfl, rfl, rfl⟩, (by rw [← hq]; exact (rfa_r (by omega)).symm)⟩ rfl dX6_fits_54
    · skip
      refine g_aload_n F 1 dX6_fits_28 rfl ?_
      have hrp : (0 ≤ M 6 p ∧ M 6 p ≤ 5) ∧ (0 ≤ M 7 p ∧ M 7 p ≤ 9) ∧ (0 ≤ M 8 p ∧ M 8 p ≤ 99) ∧ 0 ≤ M 9 p ∧ M 9 p ≤ 1 := okr.2 p (by omega) (by omega)
      refine gm_get_9 F dX6_fits_29 ?_
      refine g_iload_n F 2 dX6_fits_32 rfl ?_
      refine gm_ald_9 F (by omega) dX6_fits_33 ?_
      refine g_top (y := iI (M 9 p)) rfl ?_
      refine g_iconst F dX6_fits_34 ?_
      refine g_icmp_ne F 43 (by omega) dX6_fits_35 (by decide) (fun c35 => ?_) (fun c35 => ?_)
      · skip
        refine g_iload_n F 0 dX6_fits_43 rfl ?_
        refine g_istore_n F (lv' := [(3, .int (iI (wbit 0 w 1))), (0, .ref (ma 100)), (1, .int (iI p)), (2, .int (iI w))]) 3 dX6_fits_44 rfl (by decide) rfl ?_
        refine g_iload_n F 0 dX6_fits_45 rfl ?_
        refine g_if_ge F 55 (by omega) dX6_fits_46 (by decide) (fun c46 => ?_) (fun c46 => ?_)
        · skip
          refine g_iconst F dX6_fits_55 ?_
          refine g_istore F (lv' := [(4, .int (iI 0)), (3, .int (iI (wbit 0 w 1))), (0, .ref (ma 100)), (1, .int (iI p)), (2, .int (iI w))]) dX6_fits_56 (by decide) rfl ?_
          refine g_iconst F dX6_fits_58 ?_
          refine g_istore F (lv' := [(5, .int (iI (-1))), (4, .int (iI 0)), (3, .int (iI (wbit 0 w 1))), (0, .ref (ma 100)), (1, .int (iI p)), (2, .int (iI w))]) dX6_fits_59 (by decide) rfl ?_
          refine g_aload_n F 3 dX6_fits_61 rfl ?_
          refine g_callV F (stk := [.ref (ma 100)]) (st := []) (k_X6_think κ ma (mA M 10 (fun _ => 0))) cal_X6_think lm_X6_191 0 rfl rfl rfl rfl (by decide) rfl (Nat.le_of_ble_eq_true rfl) dX6_fits_62 (fun ws62 _ hr62 => ?_)
          obtain rfl := hr62
          refine g_ws (ws' := mw κ ma (thk (mA M 10 (fun _ => 0)))) rfl ?_
          refine g_iconst F dX6_fits_65 ?_
          refine g_istore F (lv' := [(6, .int (iI 0)), (5, .int (iI (-1))), (4, .int (iI 0)), (3, .int (iI (wbit 0 w 1))), (0, .ref (ma 100)), (1, .int (iI p)), (2, .int (iI w))]) dX6_fits_66 (by decide) rfl ?_
          have L68 : ∀ (mz68 : Nat) (c : Int) (b : Int) (l : Int) (Gm : MS), (12 - c).toNat = mz68 → (0 ≤ c ∧ c ≤ 12) → (smn yes (fun c => allPull (mkp (cl M) (M 6) (M 7) (M 8) p c)) (fun c => c) (0, MAXI) c = (b, if c = 0 then MAXI else l)) → ((c = 0 → l = -1) ∧ (0 < c → 0 ≤ l ∧ l ≤ 3000) ∧ 0 ≤ b ∧ b ≤ c) → G E (mw κ ma (tst M Gm)) [(6, .int (iI c)), (5, .int (iI l)), (4, .int (iI b)), (0, .ref (ma 100)), (1, .int (iI p)), (2, .int (iI w))] 68 [] := by
            intro mz68
            induction mz68 using Nat.strongRecOn with
            | _ mz68 ih68 =>
            intro c b l Gm hmz68 hc hs hl
            refine g_iload F 0 dX6_fits_68 rfl ?_
            refine g_bipush F dX6_fits_70 (by decide +kernel) ?_
            refine g_icmp_ge F 140 (by omega) dX6_fits_72 (by decide) (fun c72 => ?_) (fun c72 => ?_)
            · skip
              refine g_iload_n F 5 dX6_fits_140 rfl ?_
              refine g_if_ne F 149 (by omega) dX6_fits_141 (by decide) (fun c141 => ?_) (fun c141 => ?_)
              · skip
                refine g_iload F 1 dX6_fits_149 rfl ?_
                have e : sFits (cl M) (M 6) (M 7) (M 8) p = (b, l) := by rw [show c = 12 by omega] at hs; exact hs
                have e1 : (sFits (cl M) (M 6) (M 7) (M 8) p).1 = b := by rw [e]
                have e2 : (sFits (cl M) (M 6) (M 7) (M 8) p).2 = l := by rw [e]
                have hq : l = qFits (cl M) (M 6) (M 7) (M 8) (M 9) (M 5 0) p w := by unfold qFits; (repeat' split) <;> omega
                exact K mw_same ⟨_, rfl, iIc hq, ⟨rfl, rfl, rfl, rfl, rfl, rfl, rfl, rfl, rfl, rfl, rfl, rfl, rfl, rfl, rfl, rfl, rfl, rfl⟩, (by rw [← hq]; show M 11 = _; exact (rfa_n (by omega)).symm)⟩ rfl dX6_fits_151
              · skip
                refine g_iload F 2 dX6_fits_144 rfl ?_
                refine g_goto F 151 dX6_fits_146 (by decide) ?_
                have e : sFits (cl M) (M 6) (M 7) (M 8) p = (b, l) := by rw [show c = 12 by omega] at hs; exact hs
                have e1 : (sFits (cl M) (M 6) (M 7) (M 8) p).1 = b := by rw [e]
                have e2 : (sFits (cl M) (M 6) (M 7) (M 8) p).2 = l := by rw [e]
                have hq : b = qFits (cl M) (M 6) (M 7) (M 8) (M 9) (M 5 0) p w := by unfold qFits; (repeat' split) <;> omega
                exact K mw_same ⟨_, rfl, iIc hq, ⟨rfl, rfl, rfl, rfl, rfl, rfl, rfl, rfl, rfl, rfl, rfl, rfl, rfl, rfl, rfl, rfl, rfl, rfl⟩, (by rw [← hq]; show M 11 = _; exact (rfa_n (by omega)).symm)⟩ rfl dX6_fits_151
            · skip
              have hrp : (0 ≤ M 6 p ∧ M 6 p ≤ 5) ∧ (0 ≤ M 7 p ∧ M 7 p ≤ 9) ∧ (0 ≤ M 8 p ∧ M 8 p ≤ 99) ∧ 0 ≤ M 9 p ∧ M 9 p ≤ 1 := okr.2 p (by omega) (by omega)
              have hpb := allPull_bd (make_ok (c := c) ok hrp.1 hrp.2.1 hrp.2.2.1).A
              refine g_aload_n F 3 dX6_fits_75 rfl ?_
              refine g_iload_n F 4 dX6_fits_76 rfl ?_
              refine g_iload F 0 dX6_fits_77 rfl ?_
              refine g_callV F (stk := [.int (iI c), .int (iI p), .ref (ma 100)]) (st := []) (k_X6_putOn κ ma (tst M Gm) p c (by omega) (by omega)) cal_X6_putOn lm_X6_179 0 rfl rfl rfl rfl (by decide) rfl (Nat.le_of_ble_eq_true rfl) dX6_fits_79 (fun ws79 _ hr79 => ?_)
              obtain rfl := hr79
              refine g_ws (ws' := mw κ ma (mA (stC (tst M Gm) (make (cl M) c (M 6 p) (M 7 p) (M 8 p))) 9 (uI (M 9) p 1))) rfl ?_
              refine g_aload_n F 3 dX6_fits_82 rfl ?_
              refine g_callI F (stk := [.ref (ma 100)]) (st := []) (k_X6_allPull κ ma (mA (stC (tst M Gm) (make (cl M) c (M 6 p) (M 7 p) (M 8 p))) 9 (uI (M 9) p 1)) (make_ok ok hrp.1 hrp.2.1 hrp.2.2.1).A) cal_X6_allPull lm_X6_234 0 rfl rfl rfl rfl (by decide) rfl (Nat.le_of_ble_eq_true rfl) dX6_fits_83 (fun r83 ws83 _ hr83 => ?_)
              obtain ⟨rfl, rfl⟩ := hr83
              refine g_top (y := iI (allPull (make (cl M) c (M 6 p) (M 7 p) (M 8 p)))) rfl ?_
              refine g_istore F (lv' := [(7, .int (iI (allPull (make (cl M) c (M 6 p) (M 7 p) (M 8 p))))), (6, .int (iI c)), (5, .int (iI l)), (4, .int (iI b)), (0, .ref (ma 100)), (1, .int (iI p)), (2, .int (iI w))]) dX6_fits_86 (by decide) rfl ?_
              refine g_aload_n F 4 dX6_fits_88 rfl ?_
              refine g_callV F (stk := [.ref (ma 100)]) (st := []) (k_X6_again κ ma (mA (stC (tst M Gm) (make (cl M) c (M 6 p) (M 7 p) (M 8 p))) 9 (uI (M 9) p 1)) M (fun _ _ _ => rfl)) cal_X6_again lm_X6_197 0 rfl rfl rfl rfl (by decide) rfl (Nat.le_of_ble_eq_true rfl) dX6_fits_89 (fun ws89 _ hr89 => ?_)
              obtain rfl := hr89
              refine g_iload F 2 dX6_fits_92 rfl ?_
              refine g_if_lt F 104 (by omega) dX6_fits_94 (by decide) (fun c94 => ?_) (fun c94 => ?_)
              · skip
                refine g_iload F 1 dX6_fits_104 rfl ?_
                refine g_goto F 111 dX6_fits_106 (by decide) ?_
                refine g_istore F (lv' := [(4, .int (iI c)), (7, .int (iI (allPull (make (cl M) c (M 6 p) (M 7 p) (M 8 p))))), (6, .int (iI c)), (5, .int (iI l)), (0, .ref (ma 100)), (1, .int (iI p)), (2, .int (iI w))]) dX6_fits_111 (by decide) rfl ?_
                refine g_iload F 3 dX6_fits_113 rfl ?_
                refine g_if_lt F 125 (by omega) dX6_fits_115 (by decide) (fun c115 => ?_) (fun c115 => ?_)
                · skip
                  refine g_iload F 1 dX6_fits_125 rfl ?_
                  refine g_goto F 132 dX6_fits_127 (by decide) ?_
                  refine g_istore F (lv' := [(5, .int (iI (allPull (make (cl M) c (M 6 p) (M 7 p) (M 8 p))))), (4, .int (iI c)), (7, .int (iI (allPull (make (cl M) c (M 6 p) (M 7 p) (M 8 p))))), (6, .int (iI c)), (0, .ref (ma 100)), (1, .int (iI p)), (2, .int (iI w))]) dX6_fits_132 (by decide) rfl ?_
                  refine g_iinc F (lv' := [(6, .int (iI (c + 1))), (5, .int (iI (allPull (make (cl M) c (M 6 p) (M 7 p) (M 8 p))))), (4, .int (iI c)), (7, .int (iI (allPull (make (cl M) c (M 6 p) (M 7 p) (M 8 p))))), (0, .ref (ma 100)), (1, .int (iI p)), (2, .int (iI w))]) 3 dX6_fits_134 rfl (by decide) rfl ?_
                  refine g_goto F 68 dX6_fits_137 (by decide) ?_
                  refine g_sub F (lv' := [(6, .int (iI (c + 1))), (5, .int (iI (allPull (make (cl M) c (M 6 p) (M 7 p) (M 8 p))))), (4, .int (iI c)), (0, .ref (ma 100)), (1, .int (iI p)), (2, .int (iI w))]) [0, 1, 2, 4, 5, 6] rfl ?_
                  refine g_ws (ws' := mw κ ma (tst M (agn (mA (stC (tst M Gm) (make (cl M) c (M 6 p) (M 7 p) (M 8 p))) 9 (uI (M 9) p 1)) M))) rfl ?_
                  exact ih68 _ (by omega) (c + 1) c (allPull (make (cl M) c (M 6 p) (M 7 p) (M 8 p))) (agn (mA (stC (tst M Gm) (make (cl M) c (M 6 p) (M 7 p) (M 8 p))) 9 (uI (M 9) p 1)) M) rfl (by omega) (by first | (exfalso; omega) | exact smn_tS hs rfl rfl hc.1 (by omega) (by omega) | exact smn_fS (x := allPull (make (cl M) c (M 6 p) (M 7 p) (M 8 p))) hs rfl (by omega) (by omega)) (by omega)
                · skip
                  refine g_iload F 1 dX6_fits_118 rfl ?_
                  refine g_iload F 3 dX6_fits_120 rfl ?_
                  refine g_icmp_ge F 130 (by omega) dX6_fits_122 (by decide) (fun c122 => ?_) (fun c122 => ?_)
                  · skip
                    refine g_iload F 3 dX6_fits_130 rfl ?_
                    refine g_istore F (lv' := [(5, .int (iI l)), (4, .int (iI c)), (7, .int (iI (allPull (make (cl M) c (M 6 p) (M 7 p) (M 8 p))))), (6, .int (iI c)), (0, .ref (ma 100)), (1, .int (iI p)), (2, .int (iI w))]) dX6_fits_132 (by decide) rfl ?_
                    refine g_iinc F (lv' := [(6, .int (iI (c + 1))), (5, .int (iI l)), (4, .int (iI c)), (7, .int (iI (allPull (make (cl M) c (M 6 p) (M 7 p) (M 8 p))))), (0, .ref (ma 100)), (1, .int (iI p)), (2, .int (iI w))]) 3 dX6_fits_134 rfl (by decide) rfl ?_
                    refine g_goto F 68 dX6_fits_137 (by decide) ?_
                    refine g_sub F (lv' := [(6, .int (iI (c + 1))), (5, .int (iI l)), (4, .int (iI c)), (0, .ref (ma 100)), (1, .int (iI p)), (2, .int (iI w))]) [0, 1, 2, 4, 5, 6] rfl ?_
                    refine g_ws (ws' := mw κ ma (tst M (agn (mA (stC (tst M Gm) (make (cl M) c (M 6 p) (M 7 p) (M 8 p))) 9 (uI (M 9) p 1)) M))) rfl ?_
                    exact ih68 _ (by omega) (c + 1) c l (agn (mA (stC (tst M Gm) (make (cl M) c (M 6 p) (M 7 p) (M 8 p))) 9 (uI (M 9) p 1)) M) rfl (by omega) (by first | (exfalso; omega) | exact smn_tS hs rfl rfl hc.1 (by omega) (by omega) | exact smn_fS (x := allPull (make (cl M) c (M 6 p) (M 7 p) (M 8 p))) hs rfl (by omega) (by omega)) (by omega)
                  · skip
                    refine g_iload F 1 dX6_fits_125 rfl ?_
                    refine g_goto F 132 dX6_fits_127 (by decide) ?_
                    refine g_istore F (lv' := [(5, .int (iI (allPull (make (cl M) c (M 6 p) (M 7 p) (M 8 p))))), (4, .int (iI c)), (7, .int (iI (allPull (make (cl M) c (M 6 p) (M 7 p) (M 8 p))))), (6, .int (iI c)), (0, .ref (ma 100)), (1, .int (iI p)), (2, .int (iI w))]) dX6_fits_132 (by decide) rfl ?_
                    refine g_iinc F (lv' := [(6, .int (iI (c + 1))), (5, .int (iI (allPull (make (cl M) c (M 6 p) (M 7 p) (M 8 p))))), (4, .int (iI c)), (7, .int (iI (allPull (make (cl M) c (M 6 p) (M 7 p) (M 8 p))))), (0, .ref (ma 100)), (1, .int (iI p)), (2, .int (iI w))]) 3 dX6_fits_134 rfl (by decide) rfl ?_
                    refine g_goto F 68 dX6_fits_137 (by decide) ?_
                    refine g_sub F (lv' := [(6, .int (iI (c + 1))), (5, .int (iI (allPull (make (cl M) c (M 6 p) (M 7 p) (M 8 p))))), (4, .int (iI c)), (0, .ref (ma 100)), (1, .int (iI p)), (2, .int (iI w))]) [0, 1, 2, 4, 5, 6] rfl ?_
                    refine g_ws (ws' := mw κ ma (tst M (agn (mA (stC (tst M Gm) (make (cl M) c (M 6 p) (M 7 p) (M 8 p))) 9 (uI (M 9) p 1)) M))) rfl ?_
                    exact ih68 _ (by omega) (c + 1) c (allPull (make (cl M) c (M 6 p) (M 7 p) (M 8 p))) (agn (mA (stC (tst M Gm) (make (cl M) c (M 6 p) (M 7 p) (M 8 p))) 9 (uI (M 9) p 1)) M) rfl (by omega) (by first | (exfalso; omega) | exact smn_tS hs rfl rfl hc.1 (by omega) (by omega) | exact smn_fS (x := allPull (make (cl M) c (M 6 p) (M 7 p) (M 8 p))) hs rfl (by omega) (by omega)) (by omega)
              · skip
                refine g_iload F 0 dX6_fits_97 rfl ?_
                refine g_iload F 2 dX6_fits_99 rfl ?_
                refine g_icmp_ge F 109 (by omega) dX6_fits_101 (by decide) (fun c101 => ?_) (fun c101 => ?_)
                · skip
                  refine g_iload F 3 dX6_fits_109 rfl ?_
                  refine g_istore F (lv' := [(4, .int (iI b)), (7, .int (iI (allPull (make (cl M) c (M 6 p) (M 7 p) (M 8 p))))), (6, .int (iI c)), (5, .int (iI l)), (0, .ref (ma 100)), (1, .int (iI p)), (2, .int (iI w))]) dX6_fits_111 (by decide) rfl ?_
                  refine g_iload F 3 dX6_fits_113 rfl ?_
                  refine g_if_lt F 125 (by omega) dX6_fits_115 (by decide) (fun c115 => ?_) (fun c115 => ?_)
                  · skip
                    refine g_iload F 1 dX6_fits_125 rfl ?_
                    refine g_goto F 132 dX6_fits_127 (by decide) ?_
                    refine g_istore F (lv' := [(5, .int (iI (allPull (make (cl M) c (M 6 p) (M 7 p) (M 8 p))))), (4, .int (iI b)), (7, .int (iI (allPull (make (cl M) c (M 6 p) (M 7 p) (M 8 p))))), (6, .int (iI c)), (0, .ref (ma 100)), (1, .int (iI p)), (2, .int (iI w))]) dX6_fits_132 (by decide) rfl ?_
                    refine g_iinc F (lv' := [(6, .int (iI (c + 1))), (5, .int (iI (allPull (make (cl M) c (M 6 p) (M 7 p) (M 8 p))))), (4, .int (iI b)), (7, .int (iI (allPull (make (cl M) c (M 6 p) (M 7 p) (M 8 p))))), (0, .ref (ma 100)), (1, .int (iI p)), (2, .int (iI w))]) 3 dX6_fits_134 rfl (by decide) rfl ?_
                    refine g_goto F 68 dX6_fits_137 (by decide) ?_
                    refine g_sub F (lv' := [(6, .int (iI (c + 1))), (5, .int (iI (allPull (make (cl M) c (M 6 p) (M 7 p) (M 8 p))))), (4, .int (iI b)), (0, .ref (ma 100)), (1, .int (iI p)), (2, .int (iI w))]) [0, 1, 2, 4, 5, 6] rfl ?_
                    refine g_ws (ws' := mw κ ma (tst M (agn (mA (stC (tst M Gm) (make (cl M) c (M 6 p) (M 7 p) (M 8 p))) 9 (uI (M 9) p 1)) M))) rfl ?_
                    exact ih68 _ (by omega) (c + 1) b (allPull (make (cl M) c (M 6 p) (M 7 p) (M 8 p))) (agn (mA (stC (tst M Gm) (make (cl M) c (M 6 p) (M 7 p) (M 8 p))) 9 (uI (M 9) p 1)) M) rfl (by omega) (by first | (exfalso; omega) | exact smn_tS hs rfl rfl hc.1 (by omega) (by omega) | exact smn_fS (x := allPull (make (cl M) c (M 6 p) (M 7 p) (M 8 p))) hs rfl (by omega) (by omega)) (by omega)
                  · skip
                    refine g_iload F 1 dX6_fits_118 rfl ?_
                    refine g_iload F 3 dX6_fits_120 rfl ?_
                    refine g_icmp_ge F 130 (by omega) dX6_fits_122 (by decide) (fun c122 => ?_) (fun c122 => ?_)
                    · skip
                      refine g_iload F 3 dX6_fits_130 rfl ?_
                      refine g_istore F (lv' := [(5, .int (iI l)), (4, .int (iI b)), (7, .int (iI (allPull (make (cl M) c (M 6 p) (M 7 p) (M 8 p))))), (6, .int (iI c)), (0, .ref (ma 100)), (1, .int (iI p)), (2, .int (iI w))]) dX6_fits_132 (by decide) rfl ?_
                      refine g_iinc F (lv' := [(6, .int (iI (c + 1))), (5, .int (iI l)), (4, .int (iI b)), (7, .int (iI (allPull (make (cl M) c (M 6 p) (M 7 p) (M 8 p))))), (0, .ref (ma 100)), (1, .int (iI p)), (2, .int (iI w))]) 3 dX6_fits_134 rfl (by decide) rfl ?_
                      refine g_goto F 68 dX6_fits_137 (by decide) ?_
                      refine g_sub F (lv' := [(6, .int (iI (c + 1))), (5, .int (iI l)), (4, .int (iI b)), (0, .ref (ma 100)), (1, .int (iI p)), (2, .int (iI w))]) [0, 1, 2, 4, 5, 6] rfl ?_
                      refine g_ws (ws' := mw κ ma (tst M (agn (mA (stC (tst M Gm) (make (cl M) c (M 6 p) (M 7 p) (M 8 p))) 9 (uI (M 9) p 1)) M))) rfl ?_
                      exact ih68 _ (by omega) (c + 1) b l (agn (mA (stC (tst M Gm) (make (cl M) c (M 6 p) (M 7 p) (M 8 p))) 9 (uI (M 9) p 1)) M) rfl (by omega) (by first | (exfalso; omega) | exact smn_tS hs rfl rfl hc.1 (by omega) (by omega) | exact smn_fS (x := allPull (make (cl M) c (M 6 p) (M 7 p) (M 8 p))) hs rfl (by omega) (by omega)) (by omega)
                    · skip
                      refine g_iload F 1 dX6_fits_125 rfl ?_
                      refine g_goto F 132 dX6_fits_127 (by decide) ?_
                      refine g_istore F (lv' := [(5, .int (iI (allPull (make (cl M) c (M 6 p) (M 7 p) (M 8 p))))), (4, .int (iI b)), (7, .int (iI (allPull (make (cl M) c (M 6 p) (M 7 p) (M 8 p))))), (6, .int (iI c)), (0, .ref (ma 100)), (1, .int (iI p)), (2, .int (iI w))]) dX6_fits_132 (by decide) rfl ?_
                      refine g_iinc F (lv' := [(6, .int (iI (c + 1))), (5, .int (iI (allPull (make (cl M) c (M 6 p) (M 7 p) (M 8 p))))), (4, .int (iI b)), (7, .int (iI (allPull (make (cl M) c (M 6 p) (M 7 p) (M 8 p))))), (0, .ref (ma 100)), (1, .int (iI p)), (2, .int (iI w))]) 3 dX6_fits_134 rfl (by decide) rfl ?_
                      refine g_goto F 68 dX6_fits_137 (by decide) ?_
                      refine g_sub F (lv' := [(6, .int (iI (c + 1))), (5, .int (iI (allPull (make (cl M) c (M 6 p) (M 7 p) (M 8 p))))), (4, .int (iI b)), (0, .ref (ma 100)), (1, .int (iI p)), (2, .int (iI w))]) [0, 1, 2, 4, 5, 6] rfl ?_
                      refine g_ws (ws' := mw κ ma (tst M (agn (mA (stC (tst M Gm) (make (cl M) c (M 6 p) (M 7 p) (M 8 p))) 9 (uI (M 9) p 1)) M))) rfl ?_
                      exact ih68 _ (by omega) (c + 1) b (allPull (make (cl M) c (M 6 p) (M 7 p) (M 8 p))) (agn (mA (stC (tst M Gm) (make (cl M) c (M 6 p) (M 7 p) (M 8 p))) 9 (uI (M 9) p 1)) M) rfl (by omega) (by first | (exfalso; omega) | exact smn_tS hs rfl rfl hc.1 (by omega) (by omega) | exact smn_fS (x := allPull (make (cl M) c (M 6 p) (M 7 p) (M 8 p))) hs rfl (by omega) (by omega)) (by omega)
                · skip
                  refine g_iload F 1 dX6_fits_104 rfl ?_
                  refine g_goto F 111 dX6_fits_106 (by decide) ?_
                  refine g_istore F (lv' := [(4, .int (iI c)), (7, .int (iI (allPull (make (cl M) c (M 6 p) (M 7 p) (M 8 p))))), (6, .int (iI c)), (5, .int (iI l)), (0, .ref (ma 100)), (1, .int (iI p)), (2, .int (iI w))]) dX6_fits_111 (by decide) rfl ?_
                  refine g_iload F 3 dX6_fits_113 rfl ?_
                  refine g_if_lt F 125 (by omega) dX6_fits_115 (by decide) (fun c115 => ?_) (fun c115 => ?_)
                  · skip
                    refine g_iload F 1 dX6_fits_125 rfl ?_
                    refine g_goto F 132 dX6_fits_127 (by decide) ?_
                    refine g_istore F (lv' := [(5, .int (iI (allPull (make (cl M) c (M 6 p) (M 7 p) (M 8 p))))), (4, .int (iI c)), (7, .int (iI (allPull (make (cl M) c (M 6 p) (M 7 p) (M 8 p))))), (6, .int (iI c)), (0, .ref (ma 100)), (1, .int (iI p)), (2, .int (iI w))]) dX6_fits_132 (by decide) rfl ?_
                    refine g_iinc F (lv' := [(6, .int (iI (c + 1))), (5, .int (iI (allPull (make (cl M) c (M 6 p) (M 7 p) (M 8 p))))), (4, .int (iI c)), (7, .int (iI (allPull (make (cl M) c (M 6 p) (M 7 p) (M 8 p))))), (0, .ref (ma 100)), (1, .int (iI p)), (2, .int (iI w))]) 3 dX6_fits_134 rfl (by decide) rfl ?_
                    refine g_goto F 68 dX6_fits_137 (by decide) ?_
                    refine g_sub F (lv' := [(6, .int (iI (c + 1))), (5, .int (iI (allPull (make (cl M) c (M 6 p) (M 7 p) (M 8 p))))), (4, .int (iI c)), (0, .ref (ma 100)), (1, .int (iI p)), (2, .int (iI w))]) [0, 1, 2, 4, 5, 6] rfl ?_
                    refine g_ws (ws' := mw κ ma (tst M (agn (mA (stC (tst M Gm) (make (cl M) c (M 6 p) (M 7 p) (M 8 p))) 9 (uI (M 9) p 1)) M))) rfl ?_
                    exact ih68 _ (by omega) (c + 1) c (allPull (make (cl M) c (M 6 p) (M 7 p) (M 8 p))) (agn (mA (stC (tst M Gm) (make (cl M) c (M 6 p) (M 7 p) (M 8 p))) 9 (uI (M 9) p 1)) M) rfl (by omega) (by first | (exfalso; omega) | exact smn_tS hs rfl rfl hc.1 (by omega) (by omega) | exact smn_fS (x := allPull (make (cl M) c (M 6 p) (M 7 p) (M 8 p))) hs rfl (by omega) (by omega)) (by omega)
                  · skip
                    refine g_iload F 1 dX6_fits_118 rfl ?_
                    refine g_iload F 3 dX6_fits_120 rfl ?_
                    refine g_icmp_ge F 130 (by omega) dX6_fits_122 (by decide) (fun c122 => ?_) (fun c122 => ?_)
                    · skip
                      refine g_iload F 3 dX6_fits_130 rfl ?_
                      refine g_istore F (lv' := [(5, .int (iI l)), (4, .int (iI c)), (7, .int (iI (allPull (make (cl M) c (M 6 p) (M 7 p) (M 8 p))))), (6, .int (iI c)), (0, .ref (ma 100)), (1, .int (iI p)), (2, .int (iI w))]) dX6_fits_132 (by decide) rfl ?_
                      refine g_iinc F (lv' := [(6, .int (iI (c + 1))), (5, .int (iI l)), (4, .int (iI c)), (7, .int (iI (allPull (make (cl M) c (M 6 p) (M 7 p) (M 8 p))))), (0, .ref (ma 100)), (1, .int (iI p)), (2, .int (iI w))]) 3 dX6_fits_134 rfl (by decide) rfl ?_
                      refine g_goto F 68 dX6_fits_137 (by decide) ?_
                      refine g_sub F (lv' := [(6, .int (iI (c + 1))), (5, .int (iI l)), (4, .int (iI c)), (0, .ref (ma 100)), (1, .int (iI p)), (2, .int (iI w))]) [0, 1, 2, 4, 5, 6] rfl ?_
                      refine g_ws (ws' := mw κ ma (tst M (agn (mA (stC (tst M Gm) (make (cl M) c (M 6 p) (M 7 p) (M 8 p))) 9 (uI (M 9) p 1)) M))) rfl ?_
                      exact ih68 _ (by omega) (c + 1) c l (agn (mA (stC (tst M Gm) (make (cl M) c (M 6 p) (M 7 p) (M 8 p))) 9 (uI (M 9) p 1)) M) rfl (by omega) (by first | (exfalso; omega) | exact smn_tS hs rfl rfl hc.1 (by omega) (by omega) | exact smn_fS (x := allPull (make (cl M) c (M 6 p) (M 7 p) (M 8 p))) hs rfl (by omega) (by omega)) (by omega)
                    · skip
                      refine g_iload F 1 dX6_fits_125 rfl ?_
                      refine g_goto F 132 dX6_fits_127 (by decide) ?_
                      refine g_istore F (lv' := [(5, .int (iI (allPull (make (cl M) c (M 6 p) (M 7 p) (M 8 p))))), (4, .int (iI c)), (7, .int (iI (allPull (make (cl M) c (M 6 p) (M 7 p) (M 8 p))))), (6, .int (iI c)), (0, .ref (ma 100)), (1, .int (iI p)), (2, .int (iI w))]) dX6_fits_132 (by decide) rfl ?_
                      refine g_iinc F (lv' := [(6, .int (iI (c + 1))), (5, .int (iI (allPull (make (cl M) c (M 6 p) (M 7 p) (M 8 p))))), (4, .int (iI c)), (7, .int (iI (allPull (make (cl M) c (M 6 p) (M 7 p) (M 8 p))))), (0, .ref (ma 100)), (1, .int (iI p)), (2, .int (iI w))]) 3 dX6_fits_134 rfl (by decide) rfl ?_
                      refine g_goto F 68 dX6_fits_137 (by decide) ?_
                      refine g_sub F (lv' := [(6, .int (iI (c + 1))), (5, .int (iI (allPull (make (cl M) c (M 6 p) (M 7 p) (M 8 p))))), (4, .int (iI c)), (0, .ref (ma 100)), (1, .int (iI p)), (2, .int (iI w))]) [0, 1, 2, 4, 5, 6] rfl ?_
                      refine g_ws (ws' := mw κ ma (tst M (agn (mA (stC (tst M Gm) (make (cl M) c (M 6 p) (M 7 p) (M 8 p))) 9 (uI (M 9) p 1)) M))) rfl ?_
                      exact ih68 _ (by omega) (c + 1) c (allPull (make (cl M) c (M 6 p) (M 7 p) (M 8 p))) (agn (mA (stC (tst M Gm) (make (cl M) c (M 6 p) (M 7 p) (M 8 p))) 9 (uI (M 9) p 1)) M) rfl (by omega) (by first | (exfalso; omega) | exact smn_tS hs rfl rfl hc.1 (by omega) (by omega) | exact smn_fS (x := allPull (make (cl M) c (M 6 p) (M 7 p) (M 8 p))) hs rfl (by omega) (by omega)) (by omega)
          refine g_sub F (lv' := [(6, .int (iI 0)), (5, .int (iI (-1))), (4, .int (iI 0)), (0, .ref (ma 100)), (1, .int (iI p)), (2, .int (iI w))]) [0, 1, 2, 4, 5, 6] rfl ?_
          refine g_ws (ws' := mw κ ma (tst M (thk (mA M 10 (fun _ => 0))))) (by unfold thk; rw [snapF_mA (by decide)]; rfl) ?_
          exact L68 _ 0 0 (-1) (thk (mA M 10 (fun _ => 0))) rfl (by omega) rfl (by omega)
        · skip
          refine g_aload_n F 1 dX6_fits_49 rfl ?_
          refine g_iload_n F 0 dX6_fits_50 rfl ?_
          refine g_callI F (stk := [.int (iI (wbit 0 w 1)), .ref (ma 100)]) (st := []) (k_X6_refuse κ ma (mA M 10 (fun _ => 0)) (wbit 0 w 1) (by omega)) cal_X6_refuse lm_X6_138 0 rfl rfl rfl rfl (by decide) rfl (Nat.le_of_ble_eq_true rfl) dX6_fits_51 (fun r51 ws51 _ hr51 => ?_)
          obtain ⟨rfl, rfl⟩ := hr51
          refine g_top (y := iI (wbit 0 w 1)) rfl ?_
          refine g_ws (ws' := mw κ ma (mA (mA M 10 (fun _ => 0)) 11 (uI (M 11) (-(wbit 0 w 1)) (M 11 (-(wbit 0 w 1)) + 1)))) rfl ?_
          have hq : (wbit 0 w 1) = qFits (cl M) (M 6) (M 7) (M 8) (M 9) (M 5 0) p w := by unfold qFits; (repeat' split) <;> omega
          exact K mw_same ⟨_, rfl, iIc hq, ⟨rfl, rfl, rfl, rfl, rfl, rfl, rfl, rfl, rfl, rfl, rfl, rfl, rfl, rfl, rfl, rfl, rfl, rfl⟩, (by rw [← hq]; exact (rfa_r (by omega)).symm)⟩ rfl dX6_fits_54
      · skip
        refine g_bipush F dX6_fits_38 (by decide +kernel) ?_
        refine g_goto F 44 dX6_fits_40 (by decide) ?_
        refine g_istore_n F (lv' := [(3, .int (iI (-3))), (0, .ref (ma 100)), (1, .int (iI p)), (2, .int (iI w))]) 3 dX6_fits_44 rfl (by decide) rfl ?_
        refine g_iload_n F 0 dX6_fits_45 rfl ?_
        refine g_if_ge F 55 (by omega) dX6_fits_46 (by decide) (fun c46 => ?_) (fun c46 => ?_)
        · skip
          refine g_iconst F dX6_fits_55 ?_
          refine g_istore F (lv' := [(4, .int (iI 0)), (3, .int (iI (-3))), (0, .ref (ma 100)), (1, .int (iI p)), (2, .int (iI w))]) dX6_fits_56 (by decide) rfl ?_
          refine g_iconst F dX6_fits_58 ?_
          refine g_istore F (lv' := [(5, .int (iI (-1))), (4, .int (iI 0)), (3, .int (iI (-3))), (0, .ref (ma 100)), (1, .int (iI p)), (2, .int (iI w))]) dX6_fits_59 (by decide) rfl ?_
          refine g_aload_n F 3 dX6_fits_61 rfl ?_
          refine g_callV F (stk := [.ref (ma 100)]) (st := []) (k_X6_think κ ma (mA M 10 (fun _ => 0))) cal_X6_think lm_X6_191 0 rfl rfl rfl rfl (by decide) rfl (Nat.le_of_ble_eq_true rfl) dX6_fits_62 (fun ws62 _ hr62 => ?_)
          obtain rfl := hr62
          refine g_ws (ws' := mw κ ma (thk (mA M 10 (fun _ => 0)))) rfl ?_
          refine g_iconst F dX6_fits_65 ?_
          refine g_istore F (lv' := [(6, .int (iI 0)), (5, .int (iI (-1))), (4, .int (iI 0)), (3, .int (iI (-3))), (0, .ref (ma 100)), (1, .int (iI p)), (2, .int (iI w))]) dX6_fits_66 (by decide) rfl ?_
          have L68 : ∀ (mz68 : Nat) (c : Int) (b : Int) (l : Int) (Gm : MS), (12 - c).toNat = mz68 → (0 ≤ c ∧ c ≤ 12) → (smn yes (fun c => allPull (mkp (cl M) (M 6) (M 7) (M 8) p c)) (fun c => c) (0, MAXI) c = (b, if c = 0 then MAXI else l)) → ((c = 0 → l = -1) ∧ (0 < c → 0 ≤ l ∧ l ≤ 3000) ∧ 0 ≤ b ∧ b ≤ c) → G E (mw κ ma (tst M Gm)) [(6, .int (iI c)), (5, .int (iI l)), (4, .int (iI b)), (0, .ref (ma 100)), (1, .int (iI p)), (2, .int (iI w))] 68 [] := by
            intro mz68
            induction mz68 using Nat.strongRecOn with
            | _ mz68 ih68 =>
            intro c b l Gm hmz68 hc hs hl
            refine g_iload F 0 dX6_fits_68 rfl ?_
            refine g_bipush F dX6_fits_70 (by decide +kernel) ?_
            refine g_icmp_ge F 140 (by omega) dX6_fits_72 (by decide) (fun c72 => ?_) (fun c72 => ?_)
            · skip
              refine g_iload_n F 5 dX6_fits_140 rfl ?_
              refine g_if_ne F 149 (by omega) dX6_fits_141 (by decide) (fun c141 => ?_) (fun c141 => ?_)
              · skip
                refine g_iload F 1 dX6_fits_149 rfl ?_
                have e : sFits (cl M) (M 6) (M 7) (M 8) p = (b, l) := by rw [show c = 12 by omega] at hs; exact hs
                have e1 : (sFits (cl M) (M 6) (M 7) (M 8) p).1 = b := by rw [e]
                have e2 : (sFits (cl M) (M 6) (M 7) (M 8) p).2 = l := by rw [e]
                have hq : l = qFits (cl M) (M 6) (M 7) (M 8) (M 9) (M 5 0) p w := by unfold qFits; (repeat' split) <;> omega
                exact K mw_same ⟨_, rfl, iIc hq, ⟨rfl, rfl, rfl, rfl, rfl, rfl, rfl, rfl, rfl, rfl, rfl, rfl, rfl, rfl, rfl, rfl, rfl, rfl⟩, (by rw [← hq]; show M 11 = _; exact (rfa_n (by omega)).symm)⟩ rfl dX6_fits_151
              · skip
                refine g_iload F 2 dX6_fits_144 rfl ?_
                refine g_goto F 151 dX6_fits_146 (by decide) ?_
                have e : sFits (cl M) (M 6) (M 7) (M 8) p = (b, l) := by rw [show c = 12 by omega] at hs; exact hs
                have e1 : (sFits (cl M) (M 6) (M 7) (M 8) p).1 = b := by rw [e]
                have e2 : (sFits (cl M) (M 6) (M 7) (M 8) p).2 = l := by rw [e]
                have hq : b = qFits (cl M) (M 6) (M 7) (M 8) (M 9) (M 5 0) p w := by unfold qFits; (repeat' split) <;> omega
                exact K mw_same ⟨_, rfl, iIc hq, ⟨rfl, rfl, rfl, rfl, rfl, rfl, rfl, rfl, rfl, rfl, rfl, rfl, rfl, rfl, rfl, rfl, rfl, rfl⟩, (by rw [← hq]; show M 11 = _; exact (rfa_n (by omega)).symm)⟩ rfl dX6_fits_151
            · skip
              have hrp : (0 ≤ M 6 p ∧ M 6 p ≤ 5) ∧ (0 ≤ M 7 p ∧ M 7 p ≤ 9) ∧ (0 ≤ M 8 p ∧ M 8 p ≤ 99) ∧ 0 ≤ M 9 p ∧ M 9 p ≤ 1 := okr.2 p (by omega) (by omega)
              have hpb := allPull_bd (make_ok (c := c) ok hrp.1 hrp.2.1 hrp.2.2.1).A
              refine g_aload_n F 3 dX6_fits_75 rfl ?_
              refine g_iload_n F 4 dX6_fits_76 rfl ?_
              refine g_iload F 0 dX6_fits_77 rfl ?_
              refine g_callV F (stk := [.int (iI c), .int (iI p), .ref (ma 100)]) (st := []) (k_X6_putOn κ ma (tst M Gm) p c (by omega) (by omega)) cal_X6_putOn lm_X6_179 0 rfl rfl rfl rfl (by decide) rfl (Nat.le_of_ble_eq_true rfl) dX6_fits_79 (fun ws79 _ hr79 => ?_)
              obtain rfl := hr79
              refine g_ws (ws' := mw κ ma (mA (stC (tst M Gm) (make (cl M) c (M 6 p) (M 7 p) (M 8 p))) 9 (uI (M 9) p 1))) rfl ?_
              refine g_aload_n F 3 dX6_fits_82 rfl ?_
              refine g_callI F (stk := [.ref (ma 100)]) (st := []) (k_X6_allPull κ ma (mA (stC (tst M Gm) (make (cl M) c (M 6 p) (M 7 p) (M 8 p))) 9 (uI (M 9) p 1)) (make_ok ok hrp.1 hrp.2.1 hrp.2.2.1).A) cal_X6_allPull lm_X6_234 0 rfl rfl rfl rfl (by decide) rfl (Nat.le_of_ble_eq_true rfl) dX6_fits_83 (fun r83 ws83 _ hr83 => ?_)
              obtain ⟨rfl, rfl⟩ := hr83
              refine g_top (y := iI (allPull (make (cl M) c (M 6 p) (M 7 p) (M 8 p)))) rfl ?_
              refine g_istore F (lv' := [(7, .int (iI (allPull (make (cl M) c (M 6 p) (M 7 p) (M 8 p))))), (6, .int (iI c)), (5, .int (iI l)), (4, .int (iI b)), (0, .ref (ma 100)), (1, .int (iI p)), (2, .int (iI w))]) dX6_fits_86 (by decide) rfl ?_
              refine g_aload_n F 4 dX6_fits_88 rfl ?_
              refine g_callV F (stk := [.ref (ma 100)]) (st := []) (k_X6_again κ ma (mA (stC (tst M Gm) (make (cl M) c (M 6 p) (M 7 p) (M 8 p))) 9 (uI (M 9) p 1)) M (fun _ _ _ => rfl)) cal_X6_again lm_X6_197 0 rfl rfl rfl rfl (by decide) rfl (Nat.le_of_ble_eq_true rfl) dX6_fits_89 (fun ws89 _ hr89 => ?_)
              obtain rfl := hr89
              refine g_iload F 2 dX6_fits_92 rfl ?_
              refine g_if_lt F 104 (by omega) dX6_fits_94 (by decide) (fun c94 => ?_) (fun c94 => ?_)
              · skip
                refine g_iload F 1 dX6_fits_104 rfl ?_
                refine g_goto F 111 dX6_fits_106 (by decide) ?_
                refine g_istore F (lv' := [(4, .int (iI c)), (7, .int (iI (allPull (make (cl M) c (M 6 p) (M 7 p) (M 8 p))))), (6, .int (iI c)), (5, .int (iI l)), (0, .ref (ma 100)), (1, .int (iI p)), (2, .int (iI w))]) dX6_fits_111 (by decide) rfl ?_
                refine g_iload F 3 dX6_fits_113 rfl ?_
                refine g_if_lt F 125 (by omega) dX6_fits_115 (by decide) (fun c115 => ?_) (fun c115 => ?_)
                · skip
                  refine g_iload F 1 dX6_fits_125 rfl ?_
                  refine g_goto F 132 dX6_fits_127 (by decide) ?_
                  refine g_istore F (lv' := [(5, .int (iI (allPull (make (cl M) c (M 6 p) (M 7 p) (M 8 p))))), (4, .int (iI c)), (7, .int (iI (allPull (make (cl M) c (M 6 p) (M 7 p) (M 8 p))))), (6, .int (iI c)), (0, .ref (ma 100)), (1, .int (iI p)), (2, .int (iI w))]) dX6_fits_132 (by decide) rfl ?_
                  refine g_iinc F (lv' := [(6, .int (iI (c + 1))), (5, .int (iI (allPull (make (cl M) c (M 6 p) (M 7 p) (M 8 p))))), (4, .int (iI c)), (7, .int (iI (allPull (make (cl M) c (M 6 p) (M 7 p) (M 8 p))))), (0, .ref (ma 100)), (1, .int (iI p)), (2, .int (iI w))]) 3 dX6_fits_134 rfl (by decide) rfl ?_
                  refine g_goto F 68 dX6_fits_137 (by decide) ?_
                  refine g_sub F (lv' := [(6, .int (iI (c + 1))), (5, .int (iI (allPull (make (cl M) c (M 6 p) (M 7 p) (M 8 p))))), (4, .int (iI c)), (0, .ref (ma 100)), (1, .int (iI p)), (2, .int (iI w))]) [0, 1, 2, 4, 5, 6] rfl ?_
                  refine g_ws (ws' := mw κ ma (tst M (agn (mA (stC (tst M Gm) (make (cl M) c (M 6 p) (M 7 p) (M 8 p))) 9 (uI (M 9) p 1)) M))) rfl ?_
                  exact ih68 _ (by omega) (c + 1) c (allPull (make (cl M) c (M 6 p) (M 7 p) (M 8 p))) (agn (mA (stC (tst M Gm) (make (cl M) c (M 6 p) (M 7 p) (M 8 p))) 9 (uI (M 9) p 1)) M) rfl (by omega) (by first | (exfalso; omega) | exact smn_tS hs rfl rfl hc.1 (by omega) (by omega) | exact smn_fS (x := allPull (make (cl M) c (M 6 p) (M 7 p) (M 8 p))) hs rfl (by omega) (by omega)) (by omega)
                · skip
                  refine g_iload F 1 dX6_fits_118 rfl ?_
                  refine g_iload F 3 dX6_fits_120 rfl ?_
                  refine g_icmp_ge F 130 (by omega) dX6_fits_122 (by decide) (fun c122 => ?_) (fun c122 => ?_)
                  · skip
                    refine g_iload F 3 dX6_fits_130 rfl ?_
                    refine g_istore F (lv' := [(5, .int (iI l)), (4, .int (iI c)), (7, .int (iI (allPull (make (cl M) c (M 6 p) (M 7 p) (M 8 p))))), (6, .int (iI c)), (0, .ref (ma 100)), (1, .int (iI p)), (2, .int (iI w))]) dX6_fits_132 (by decide) rfl ?_
                    refine g_iinc F (lv' := [(6, .int (iI (c + 1))), (5, .int (iI l)), (4, .int (iI c)), (7, .int (iI (allPull (make (cl M) c (M 6 p) (M 7 p) (M 8 p))))), (0, .ref (ma 100)), (1, .int (iI p)), (2, .int (iI w))]) 3 dX6_fits_134 rfl (by decide) rfl ?_
                    refine g_goto F 68 dX6_fits_137 (by decide) ?_
                    refine g_sub F (lv' := [(6, .int (iI (c + 1))), (5, .int (iI l)), (4, .int (iI c)), (0, .ref (ma 100)), (1, .int (iI p)), (2, .int (iI w))]) [0, 1, 2, 4, 5, 6] rfl ?_
                    refine g_ws (ws' := mw κ ma (tst M (agn (mA (stC (tst M Gm) (make (cl M) c (M 6 p) (M 7 p) (M 8 p))) 9 (uI (M 9) p 1)) M))) rfl ?_
                    exact ih68 _ (by omega) (c + 1) c l (agn (mA (stC (tst M Gm) (make (cl M) c (M 6 p) (M 7 p) (M 8 p))) 9 (uI (M 9) p 1)) M) rfl (by omega) (by first | (exfalso; omega) | exact smn_tS hs rfl rfl hc.1 (by omega) (by omega) | exact smn_fS (x := allPull (make (cl M) c (M 6 p) (M 7 p) (M 8 p))) hs rfl (by omega) (by omega)) (by omega)
                  · skip
                    refine g_iload F 1 dX6_fits_125 rfl ?_
                    refine g_goto F 132 dX6_fits_127 (by decide) ?_
                    refine g_istore F (lv' := [(5, .int (iI (allPull (make (cl M) c (M 6 p) (M 7 p) (M 8 p))))), (4, .int (iI c)), (7, .int (iI (allPull (make (cl M) c (M 6 p) (M 7 p) (M 8 p))))), (6, .int (iI c)), (0, .ref (ma 100)), (1, .int (iI p)), (2, .int (iI w))]) dX6_fits_132 (by decide) rfl ?_
                    refine g_iinc F (lv' := [(6, .int (iI (c + 1))), (5, .int (iI (allPull (make (cl M) c (M 6 p) (M 7 p) (M 8 p))))), (4, .int (iI c)), (7, .int (iI (allPull (make (cl M) c (M 6 p) (M 7 p) (M 8 p))))), (0, .ref (ma 100)), (1, .int (iI p)), (2, .int (iI w))]) 3 dX6_fits_134 rfl (by decide) rfl ?_
                    refine g_goto F 68 dX6_fits_137 (by decide) ?_
                    refine g_sub F (lv' := [(6, .int (iI (c + 1))), (5, .int (iI (allPull (make (cl M) c (M 6 p) (M 7 p) (M 8 p))))), (4, .int (iI c)), (0, .ref (ma 100)), (1, .int (iI p)), (2, .int (iI w))]) [0, 1, 2, 4, 5, 6] rfl ?_
                    refine g_ws (ws' := mw κ ma (tst M (agn (mA (stC (tst M Gm) (make (cl M) c (M 6 p) (M 7 p) (M 8 p))) 9 (uI (M 9) p 1)) M))) rfl ?_
                    exact ih68 _ (by omega) (c + 1) c (allPull (make (cl M) c (M 6 p) (M 7 p) (M 8 p))) (agn (mA (stC (tst M Gm) (make (cl M) c (M 6 p) (M 7 p) (M 8 p))) 9 (uI (M 9) p 1)) M) rfl (by omega) (by first | (exfalso; omega) | exact smn_tS hs rfl rfl hc.1 (by omega) (by omega) | exact smn_fS (x := allPull (make (cl M) c (M 6 p) (M 7 p) (M 8 p))) hs rfl (by omega) (by omega)) (by omega)
              · skip
                refine g_iload F 0 dX6_fits_97 rfl ?_
                refine g_iload F 2 dX6_fits_99 rfl ?_
                refine g_icmp_ge F 109 (by omega) dX6_fits_101 (by decide) (fun c101 => ?_) (fun c101 => ?_)
                · skip
                  refine g_iload F 3 dX6_fits_109 rfl ?_
                  refine g_istore F (lv' := [(4, .int (iI b)), (7, .int (iI (allPull (make (cl M) c (M 6 p) (M 7 p) (M 8 p))))), (6, .int (iI c)), (5, .int (iI l)), (0, .ref (ma 100)), (1, .int (iI p)), (2, .int (iI w))]) dX6_fits_111 (by decide) rfl ?_
                  refine g_iload F 3 dX6_fits_113 rfl ?_
                  refine g_if_lt F 125 (by omega) dX6_fits_115 (by decide) (fun c115 => ?_) (fun c115 => ?_)
                  · skip
                    refine g_iload F 1 dX6_fits_125 rfl ?_
                    refine g_goto F 132 dX6_fits_127 (by decide) ?_
                    refine g_istore F (lv' := [(5, .int (iI (allPull (make (cl M) c (M 6 p) (M 7 p) (M 8 p))))), (4, .int (iI b)), (7, .int (iI (allPull (make (cl M) c (M 6 p) (M 7 p) (M 8 p))))), (6, .int (iI c)), (0, .ref (ma 100)), (1, .int (iI p)), (2, .int (iI w))]) dX6_fits_132 (by decide) rfl ?_
                    refine g_iinc F (lv' := [(6, .int (iI (c + 1))), (5, .int (iI (allPull (make (cl M) c (M 6 p) (M 7 p) (M 8 p))))), (4, .int (iI b)), (7, .int (iI (allPull (make (cl M) c (M 6 p) (M 7 p) (M 8 p))))), (0, .ref (ma 100)), (1, .int (iI p)), (2, .int (iI w))]) 3 dX6_fits_134 rfl (by decide) rfl ?_
                    refine g_goto F 68 dX6_fits_137 (by decide) ?_
                    refine g_sub F (lv' := [(6, .int (iI (c + 1))), (5, .int (iI (allPull (make (cl M) c (M 6 p) (M 7 p) (M 8 p))))), (4, .int (iI b)), (0, .ref (ma 100)), (1, .int (iI p)), (2, .int (iI w))]) [0, 1, 2, 4, 5, 6] rfl ?_
                    refine g_ws (ws' := mw κ ma (tst M (agn (mA (stC (tst M Gm) (make (cl M) c (M 6 p) (M 7 p) (M 8 p))) 9 (uI (M 9) p 1)) M))) rfl ?_
                    exact ih68 _ (by omega) (c + 1) b (allPull (make (cl M) c (M 6 p) (M 7 p) (M 8 p))) (agn (mA (stC (tst M Gm) (make (cl M) c (M 6 p) (M 7 p) (M 8 p))) 9 (uI (M 9) p 1)) M) rfl (by omega) (by first | (exfalso; omega) | exact smn_tS hs rfl rfl hc.1 (by omega) (by omega) | exact smn_fS (x := allPull (make (cl M) c (M 6 p) (M 7 p) (M 8 p))) hs rfl (by omega) (by omega)) (by omega)
                  · skip
                    refine g_iload F 1 dX6_fits_118 rfl ?_
                    refine g_iload F 3 dX6_fits_120 rfl ?_
                    refine g_icmp_ge F 130 (by omega) dX6_fits_122 (by decide) (fun c122 => ?_) (fun c122 => ?_)
                    · skip
                      refine g_iload F 3 dX6_fits_130 rfl ?_
                      refine g_istore F (lv' := [(5, .int (iI l)), (4, .int (iI b)), (7, .int (iI (allPull (make (cl M) c (M 6 p) (M 7 p) (M 8 p))))), (6, .int (iI c)), (0, .ref (ma 100)), (1, .int (iI p)), (2, .int (iI w))]) dX6_fits_132 (by decide) rfl ?_
                      refine g_iinc F (lv' := [(6, .int (iI (c + 1))), (5, .int (iI l)), (4, .int (iI b)), (7, .int (iI (allPull (make (cl M) c (M 6 p) (M 7 p) (M 8 p))))), (0, .ref (ma 100)), (1, .int (iI p)), (2, .int (iI w))]) 3 dX6_fits_134 rfl (by decide) rfl ?_
                      refine g_goto F 68 dX6_fits_137 (by decide) ?_
                      refine g_sub F (lv' := [(6, .int (iI (c + 1))), (5, .int (iI l)), (4, .int (iI b)), (0, .ref (ma 100)), (1, .int (iI p)), (2, .int (iI w))]) [0, 1, 2, 4, 5, 6] rfl ?_
                      refine g_ws (ws' := mw κ ma (tst M (agn (mA (stC (tst M Gm) (make (cl M) c (M 6 p) (M 7 p) (M 8 p))) 9 (uI (M 9) p 1)) M))) rfl ?_
                      exact ih68 _ (by omega) (c + 1) b l (agn (mA (stC (tst M Gm) (make (cl M) c (M 6 p) (M 7 p) (M 8 p))) 9 (uI (M 9) p 1)) M) rfl (by omega) (by first | (exfalso; omega) | exact smn_tS hs rfl rfl hc.1 (by omega) (by omega) | exact smn_fS (x := allPull (make (cl M) c (M 6 p) (M 7 p) (M 8 p))) hs rfl (by omega) (by omega)) (by omega)
                    · skip
                      refine g_iload F 1 dX6_fits_125 rfl ?_
                      refine g_goto F 132 dX6_fits_127 (by decide) ?_
                      refine g_istore F (lv' := [(5, .int (iI (allPull (make (cl M) c (M 6 p) (M 7 p) (M 8 p))))), (4, .int (iI b)), (7, .int (iI (allPull (make (cl M) c (M 6 p) (M 7 p) (M 8 p))))), (6, .int (iI c)), (0, .ref (ma 100)), (1, .int (iI p)), (2, .int (iI w))]) dX6_fits_132 (by decide) rfl ?_
                      refine g_iinc F (lv' := [(6, .int (iI (c + 1))), (5, .int (iI (allPull (make (cl M) c (M 6 p) (M 7 p) (M 8 p))))), (4, .int (iI b)), (7, .int (iI (allPull (make (cl M) c (M 6 p) (M 7 p) (M 8 p))))), (0, .ref (ma 100)), (1, .int (iI p)), (2, .int (iI w))]) 3 dX6_fits_134 rfl (by decide) rfl ?_
                      refine g_goto F 68 dX6_fits_137 (by decide) ?_
                      refine g_sub F (lv' := [(6, .int (iI (c + 1))), (5, .int (iI (allPull (make (cl M) c (M 6 p) (M 7 p) (M 8 p))))), (4, .int (iI b)), (0, .ref (ma 100)), (1, .int (iI p)), (2, .int (iI w))]) [0, 1, 2, 4, 5, 6] rfl ?_
                      refine g_ws (ws' := mw κ ma (tst M (agn (mA (stC (tst M Gm) (make (cl M) c (M 6 p) (M 7 p) (M 8 p))) 9 (uI (M 9) p 1)) M))) rfl ?_
                      exact ih68 _ (by omega) (c + 1) b (allPull (make (cl M) c (M 6 p) (M 7 p) (M 8 p))) (agn (mA (stC (tst M Gm) (make (cl M) c (M 6 p) (M 7 p) (M 8 p))) 9 (uI (M 9) p 1)) M) rfl (by omega) (by first | (exfalso; omega) | exact smn_tS hs rfl rfl hc.1 (by omega) (by omega) | exact smn_fS (x := allPull (make (cl M) c (M 6 p) (M 7 p) (M 8 p))) hs rfl (by omega) (by omega)) (by omega)
                · skip
                  refine g_iload F 1 dX6_fits_104 rfl ?_
                  refine g_goto F 111 dX6_fits_106 (by decide) ?_
                  refine g_istore F (lv' := [(4, .int (iI c)), (7, .int (iI (allPull (make (cl M) c (M 6 p) (M 7 p) (M 8 p))))), (6, .int (iI c)), (5, .int (iI l)), (0, .ref (ma 100)), (1, .int (iI p)), (2, .int (iI w))]) dX6_fits_111 (by decide) rfl ?_
                  refine g_iload F 3 dX6_fits_113 rfl ?_
                  refine g_if_lt F 125 (by omega) dX6_fits_115 (by decide) (fun c115 => ?_) (fun c115 => ?_)
                  · skip
                    refine g_iload F 1 dX6_fits_125 rfl ?_
                    refine g_goto F 132 dX6_fits_127 (by decide) ?_
                    refine g_istore F (lv' := [(5, .int (iI (allPull (make (cl M) c (M 6 p) (M 7 p) (M 8 p))))), (4, .int (iI c)), (7, .int (iI (allPull (make (cl M) c (M 6 p) (M 7 p) (M 8 p))))), (6, .int (iI c)), (0, .ref (ma 100)), (1, .int (iI p)), (2, .int (iI w))]) dX6_fits_132 (by decide) rfl ?_
                    refine g_iinc F (lv' := [(6, .int (iI (c + 1))), (5, .int (iI (allPull (make (cl M) c (M 6 p) (M 7 p) (M 8 p))))), (4, .int (iI c)), (7, .int (iI (allPull (make (cl M) c (M 6 p) (M 7 p) (M 8 p))))), (0, .ref (ma 100)), (1, .int (iI p)), (2, .int (iI w))]) 3 dX6_fits_134 rfl (by decide) rfl ?_
                    refine g_goto F 68 dX6_fits_137 (by decide) ?_
                    refine g_sub F (lv' := [(6, .int (iI (c + 1))), (5, .int (iI (allPull (make (cl M) c (M 6 p) (M 7 p) (M 8 p))))), (4, .int (iI c)), (0, .ref (ma 100)), (1, .int (iI p)), (2, .int (iI w))]) [0, 1, 2, 4, 5, 6] rfl ?_
                    refine g_ws (ws' := mw κ ma (tst M (agn (mA (stC (tst M Gm) (make (cl M) c (M 6 p) (M 7 p) (M 8 p))) 9 (uI (M 9) p 1)) M))) rfl ?_
                    exact ih68 _ (by omega) (c + 1) c (allPull (make (cl M) c (M 6 p) (M 7 p) (M 8 p))) (agn (mA (stC (tst M Gm) (make (cl M) c (M 6 p) (M 7 p) (M 8 p))) 9 (uI (M 9) p 1)) M) rfl (by omega) (by first | (exfalso; omega) | exact smn_tS hs rfl rfl hc.1 (by omega) (by omega) | exact smn_fS (x := allPull (make (cl M) c (M 6 p) (M 7 p) (M 8 p))) hs rfl (by omega) (by omega)) (by omega)
                  · skip
                    refine g_iload F 1 dX6_fits_118 rfl ?_
                    refine g_iload F 3 dX6_fits_120 rfl ?_
                    refine g_icmp_ge F 130 (by omega) dX6_fits_122 (by decide) (fun c122 => ?_) (fun c122 => ?_)
                    · skip
                      refine g_iload F 3 dX6_fits_130 rfl ?_
                      refine g_istore F (lv' := [(5, .int (iI l)), (4, .int (iI c)), (7, .int (iI (allPull (make (cl M) c (M 6 p) (M 7 p) (M 8 p))))), (6, .int (iI c)), (0, .ref (ma 100)), (1, .int (iI p)), (2, .int (iI w))]) dX6_fits_132 (by decide) rfl ?_
                      refine g_iinc F (lv' := [(6, .int (iI (c + 1))), (5, .int (iI l)), (4, .int (iI c)), (7, .int (iI (allPull (make (cl M) c (M 6 p) (M 7 p) (M 8 p))))), (0, .ref (ma 100)), (1, .int (iI p)), (2, .int (iI w))]) 3 dX6_fits_134 rfl (by decide) rfl ?_
                      refine g_goto F 68 dX6_fits_137 (by decide) ?_
                      refine g_sub F (lv' := [(6, .int (iI (c + 1))), (5, .int (iI l)), (4, .int (iI c)), (0, .ref (ma 100)), (1, .int (iI p)), (2, .int (iI w))]) [0, 1, 2, 4, 5, 6] rfl ?_
                      refine g_ws (ws' := mw κ ma (tst M (agn (mA (stC (tst M Gm) (make (cl M) c (M 6 p) (M 7 p) (M 8 p))) 9 (uI (M 9) p 1)) M))) rfl ?_
                      exact ih68 _ (by omega) (c + 1) c l (agn (mA (stC (tst M Gm) (make (cl M) c (M 6 p) (M 7 p) (M 8 p))) 9 (uI (M 9) p 1)) M) rfl (by omega) (by first | (exfalso; omega) | exact smn_tS hs rfl rfl hc.1 (by omega) (by omega) | exact smn_fS (x := allPull (make (cl M) c (M 6 p) (M 7 p) (M 8 p))) hs rfl (by omega) (by omega)) (by omega)
                    · skip
                      refine g_iload F 1 dX6_fits_125 rfl ?_
                      refine g_goto F 132 dX6_fits_127 (by decide) ?_
                      refine g_istore F (lv' := [(5, .int (iI (allPull (make (cl M) c (M 6 p) (M 7 p) (M 8 p))))), (4, .int (iI c)), (7, .int (iI (allPull (make (cl M) c (M 6 p) (M 7 p) (M 8 p))))), (6, .int (iI c)), (0, .ref (ma 100)), (1, .int (iI p)), (2, .int (iI w))]) dX6_fits_132 (by decide) rfl ?_
                      refine g_iinc F (lv' := [(6, .int (iI (c + 1))), (5, .int (iI (allPull (make (cl M) c (M 6 p) (M 7 p) (M 8 p))))), (4, .int (iI c)), (7, .int (iI (allPull (make (cl M) c (M 6 p) (M 7 p) (M 8 p))))), (0, .ref (ma 100)), (1, .int (iI p)), (2, .int (iI w))]) 3 dX6_fits_134 rfl (by decide) rfl ?_
                      refine g_goto F 68 dX6_fits_137 (by decide) ?_
                      refine g_sub F (lv' := [(6, .int (iI (c + 1))), (5, .int (iI (allPull (make (cl M) c (M 6 p) (M 7 p) (M 8 p))))), (4, .int (iI c)), (0, .ref (ma 100)), (1, .int (iI p)), (2, .int (iI w))]) [0, 1, 2, 4, 5, 6] rfl ?_
                      refine g_ws (ws' := mw κ ma (tst M (agn (mA (stC (tst M Gm) (make (cl M) c (M 6 p) (M 7 p) (M 8 p))) 9 (uI (M 9) p 1)) M))) rfl ?_
                      exact ih68 _ (by omega) (c + 1) c (allPull (make (cl M) c (M 6 p) (M 7 p) (M 8 p))) (agn (mA (stC (tst M Gm) (make (cl M) c (M 6 p) (M 7 p) (M 8 p))) 9 (uI (M 9) p 1)) M) rfl (by omega) (by first | (exfalso; omega) | exact smn_tS hs rfl rfl hc.1 (by omega) (by omega) | exact smn_fS (x := allPull (make (cl M) c (M 6 p) (M 7 p) (M 8 p))) hs rfl (by omega) (by omega)) (by omega)
          refine g_sub F (lv' := [(6, .int (iI 0)), (5, .int (iI (-1))), (4, .int (iI 0)), (0, .ref (ma 100)), (1, .int (iI p)), (2, .int (iI w))]) [0, 1, 2, 4, 5, 6] rfl ?_
          refine g_ws (ws' := mw κ ma (tst M (thk (mA M 10 (fun _ => 0))))) (by unfold thk; rw [snapF_mA (by decide)]; rfl) ?_
          exact L68 _ 0 0 (-1) (thk (mA M 10 (fun _ => 0))) rfl (by omega) rfl (by omega)
        · skip
          refine g_aload_n F 1 dX6_fits_49 rfl ?_
          refine g_iload_n F 0 dX6_fits_50 rfl ?_
          refine g_callI F (stk := [.int (iI (-3)), .ref (ma 100)]) (st := []) (k_X6_refuse κ ma (mA M 10 (fun _ => 0)) (-3) (by omega)) cal_X6_refuse lm_X6_138 0 rfl rfl rfl rfl (by decide) rfl (Nat.le_of_ble_eq_true rfl) dX6_fits_51 (fun r51 ws51 _ hr51 => ?_)
          obtain ⟨rfl, rfl⟩ := hr51
          refine g_top (y := iI (-3)) rfl ?_
          refine g_ws (ws' := mw κ ma (mA (mA M 10 (fun _ => 0)) 11 (uI (M 11) (-(-3)) (M 11 (-(-3)) + 1)))) rfl ?_
          have hq : (-3) = qFits (cl M) (M 6) (M 7) (M 8) (M 9) (M 5 0) p w := by unfold qFits; (repeat' split) <;> omega
          exact K mw_same ⟨_, rfl, iIc hq, ⟨rfl, rfl, rfl, rfl, rfl, rfl, rfl, rfl, rfl, rfl, rfl, rfl, rfl, rfl, rfl, rfl, rfl, rfl⟩, (by rw [← hq]; exact (rfa_r (by omega)).symm)⟩ rfl dX6_fits_54
theorem dX6_bestPiece_0 : decode cX6_bestPiece 0 = .ok (.aload_n 0, 1) := by decide +kernel
theorem dX6_bestPiece_1 : decode cX6_bestPiece 1 = .ok (.iconst 0, 1) := by decide +kernel
theorem dX6_bestPiece_2 : decode cX6_bestPiece 2 = .ok (.putfield 91, 3) := by decide +kernel
theorem dX6_bestPiece_5 : decode cX6_bestPiece 5 = .ok (.iload_n 1, 1) := by decide +kernel
theorem dX6_bestPiece_6 : decode cX6_bestPiece 6 = .ok (.invokestatic 222, 3) := by decide +kernel
theorem dX6_bestPiece_9 : decode cX6_bestPiece 9 = .ok (.ifCond .ne 9, 3) := by decide +kernel
theorem dX6_bestPiece_12 : decode cX6_bestPiece 12 = .ok (.aload_n 0, 1) := by decide +kernel
theorem dX6_bestPiece_13 : decode cX6_bestPiece 13 = .ok (.iconst (-1), 1) := by decide +kernel
theorem dX6_bestPiece_14 : decode cX6_bestPiece 14 = .ok (.invokevirtual 138, 3) := by decide +kernel
theorem dX6_bestPiece_17 : decode cX6_bestPiece 17 = .ok (.ireturn, 1) := by decide +kernel
theorem dX6_bestPiece_18 : decode cX6_bestPiece 18 = .ok (.bipush (-9), 2) := by decide +kernel
theorem dX6_bestPiece_20 : decode cX6_bestPiece 20 = .ok (.istore_n 2, 1) := by decide +kernel
theorem dX6_bestPiece_21 : decode cX6_bestPiece 21 = .ok (.iconst (-1), 1) := by decide +kernel
theorem dX6_bestPiece_22 : decode cX6_bestPiece 22 = .ok (.istore_n 3, 1) := by decide +kernel
theorem dX6_bestPiece_23 : decode cX6_bestPiece 23 = .ok (.aload_n 0, 1) := by decide +kernel
theorem dX6_bestPiece_24 : decode cX6_bestPiece 24 = .ok (.invokevirtual 191, 3) := by decide +kernel
theorem dX6_bestPiece_27 : decode cX6_bestPiece 27 = .ok (.iconst 0, 1) := by decide +kernel
theorem dX6_bestPiece_28 : decode cX6_bestPiece 28 = .ok (.istore 4, 2) := by decide +kernel
theorem dX6_bestPiece_30 : decode cX6_bestPiece 30 = .ok (.iload 4, 2) := by decide +kernel
theorem dX6_bestPiece_32 : decode cX6_bestPiece 32 = .ok (.aload_n 0, 1) := by decide +kernel
theorem dX6_bestPiece_33 : decode cX6_bestPiece 33 = .ok (.getfield 101, 3) := by decide +kernel
theorem dX6_bestPiece_36 : decode cX6_bestPiece 36 = .ok (.if_icmp .ge 72, 3) := by decide +kernel
theorem dX6_bestPiece_39 : decode cX6_bestPiece 39 = .ok (.aload_n 0, 1) := by decide +kernel
theorem dX6_bestPiece_40 : decode cX6_bestPiece 40 = .ok (.getfield 31, 3) := by decide +kernel
theorem dX6_bestPiece_43 : decode cX6_bestPiece 43 = .ok (.iload 4, 2) := by decide +kernel
theorem dX6_bestPiece_45 : decode cX6_bestPiece 45 = .ok (.iaload, 1) := by decide +kernel
theorem dX6_bestPiece_46 : decode cX6_bestPiece 46 = .ok (.ifCond .ne 56, 3) := by decide +kernel
theorem dX6_bestPiece_49 : decode cX6_bestPiece 49 = .ok (.aload_n 0, 1) := by decide +kernel
theorem dX6_bestPiece_50 : decode cX6_bestPiece 50 = .ok (.iload 4, 2) := by decide +kernel
theorem dX6_bestPiece_52 : decode cX6_bestPiece 52 = .ok (.iload_n 1, 1) := by decide +kernel
theorem dX6_bestPiece_53 : decode cX6_bestPiece 53 = .ok (.invokevirtual 179, 3) := by decide +kernel
theorem dX6_bestPiece_56 : decode cX6_bestPiece 56 = .ok (.aload_n 0, 1) := by decide +kernel
theorem dX6_bestPiece_57 : decode cX6_bestPiece 57 = .ok (.invokevirtual 255, 3) := by decide +kernel
theorem dX6_bestPiece_60 : decode cX6_bestPiece 60 = .ok (.aload_n 0, 1) := by decide +kernel
theorem dX6_bestPiece_61 : decode cX6_bestPiece 61 = .ok (.invokevirtual 197, 3) := by decide +kernel
theorem dX6_bestPiece_64 : decode cX6_bestPiece 64 = .ok (.aload_n 0, 1) := by decide +kernel
theorem dX6_bestPiece_65 : decode cX6_bestPiece 65 = .ok (.getfield 61, 3) := by decide +kernel
theorem dX6_bestPiece_68 : decode cX6_bestPiece 68 = .ok (.iload_n 1, 1) := by decide +kernel
theorem dX6_bestPiece_69 : decode cX6_bestPiece 69 = .ok (.iaload, 1) := by decide +kernel
theorem dX6_bestPiece_70 : decode cX6_bestPiece 70 = .ok (.iload_n 3, 1) := by decide +kernel
theorem dX6_bestPiece_71 : decode cX6_bestPiece 71 = .ok (.if_icmp .le 8, 3) := by decide +kernel
theorem dX6_bestPiece_74 : decode cX6_bestPiece 74 = .ok (.iload 4, 2) := by decide +kernel
theorem dX6_bestPiece_76 : decode cX6_bestPiece 76 = .ok (.goto 4, 3) := by decide +kernel
theorem dX6_bestPiece_79 : decode cX6_bestPiece 79 = .ok (.iload_n 2, 1) := by decide +kernel
theorem dX6_bestPiece_80 : decode cX6_bestPiece 80 = .ok (.istore_n 2, 1) := by decide +kernel
theorem dX6_bestPiece_81 : decode cX6_bestPiece 81 = .ok (.aload_n 0, 1) := by decide +kernel
theorem dX6_bestPiece_82 : decode cX6_bestPiece 82 = .ok (.getfield 61, 3) := by decide +kernel
theorem dX6_bestPiece_85 : decode cX6_bestPiece 85 = .ok (.iload_n 1, 1) := by decide +kernel
theorem dX6_bestPiece_86 : decode cX6_bestPiece 86 = .ok (.iaload, 1) := by decide +kernel
theorem dX6_bestPiece_87 : decode cX6_bestPiece 87 = .ok (.iload_n 3, 1) := by decide +kernel
theorem dX6_bestPiece_88 : decode cX6_bestPiece 88 = .ok (.if_icmp .le 12, 3) := by decide +kernel
theorem dX6_bestPiece_91 : decode cX6_bestPiece 91 = .ok (.aload_n 0, 1) := by decide +kernel
theorem dX6_bestPiece_92 : decode cX6_bestPiece 92 = .ok (.getfield 61, 3) := by decide +kernel
theorem dX6_bestPiece_95 : decode cX6_bestPiece 95 = .ok (.iload_n 1, 1) := by decide +kernel
theorem dX6_bestPiece_96 : decode cX6_bestPiece 96 = .ok (.iaload, 1) := by decide +kernel
theorem dX6_bestPiece_97 : decode cX6_bestPiece 97 = .ok (.goto 4, 3) := by decide +kernel
theorem dX6_bestPiece_100 : decode cX6_bestPiece 100 = .ok (.iload_n 3, 1) := by decide +kernel
theorem dX6_bestPiece_101 : decode cX6_bestPiece 101 = .ok (.istore_n 3, 1) := by decide +kernel
theorem dX6_bestPiece_102 : decode cX6_bestPiece 102 = .ok (.iinc 4 1, 3) := by decide +kernel
theorem dX6_bestPiece_105 : decode cX6_bestPiece 105 = .ok (.goto (-75), 3) := by decide +kernel
theorem dX6_bestPiece_108 : decode cX6_bestPiece 108 = .ok (.iload_n 2, 1) := by decide +kernel
theorem dX6_bestPiece_109 : decode cX6_bestPiece 109 = .ok (.ireturn, 1) := by decide +kernel
set_option maxRecDepth 100000 in
set_option maxHeartbeats 4000000 in
theorem k_X6_bestPiece (κ : Kp) (ma : Nat → Nat) (M : MS) (c : Int)  (ha_c : In32 c) (ok : okC (cl M)) (hy : M 4 0 ≤ 999) (okr : okR M) : mI κ yX6_bestPiece cX6_bestPiece 5 .int 5 [.ref (ma 100), .int (iI c)] (mw κ ma M) (qM κ ma M (qBestPiece (cl M) (M 6) (M 7) (M 8) (M 9) (M 5 0) c)) := by
  refine mI_of (by decide) (Nat.le_of_ble_eq_true rfl) (fun E F K => ?_)
  refine g_lv (lv' := [(0, .ref (ma 100)), (1, .int (iI c))]) rfl ?_
  refine g_aload_n F 0 dX6_bestPiece_0 rfl ?_
  refine g_iconst F dX6_bestPiece_1 ?_
  refine gm_put_10 F dX6_bestPiece_2 ?_
  have hn := okr.1
  refine g_iload_n F 1 dX6_bestPiece_5 rfl ?_
  refine g_callSI F (stk := [.int (iI c)]) (st := []) (k_X6_isCell κ (mw κ ma (mA M 10 (fun _ => 0))) c (by omega)) cal_X6_isCell lm_X6_222 rfl (by decide) rfl (Nat.le_of_ble_eq_true rfl) dX6_bestPiece_6 (fun r6 ws6 _ hr6 => ?_)
  obtain ⟨rfl, rfl⟩ := hr6
  refine g_if_ne F 18 (b2i_in _) dX6_bestPiece_9 (by decide) (fun c9 => ?_) (fun c9 => ?_)
  · skip
    have c9 : 0 ≤ c ∧ c < 12 := b2i_t c9
    refine g_bipush F dX6_bestPiece_18 (by decide +kernel) ?_
    refine g_istore_n F (lv' := [(2, .int (iI (-9))), (0, .ref (ma 100)), (1, .int (iI c))]) 2 dX6_bestPiece_20 rfl (by decide) rfl ?_
    refine g_iconst F dX6_bestPiece_21 ?_
    refine g_istore_n F (lv' := [(3, .int (iI (-1))), (2, .int (iI (-9))), (0, .ref (ma 100)), (1, .int (iI c))]) 3 dX6_bestPiece_22 rfl (by decide) rfl ?_
    refine g_aload_n F 2 dX6_bestPiece_23 rfl ?_
    refine g_callV F (stk := [.ref (ma 100)]) (st := []) (k_X6_think κ ma (mA M 10 (fun _ => 0))) cal_X6_think lm_X6_191 0 rfl rfl rfl rfl (by decide) rfl (Nat.le_of_ble_eq_true rfl) dX6_bestPiece_24 (fun ws24 _ hr24 => ?_)
    obtain rfl := hr24
    refine g_ws (ws' := mw κ ma (thk (mA M 10 (fun _ => 0)))) rfl ?_
    refine g_iconst F dX6_bestPiece_27 ?_
    refine g_istore F (lv' := [(4, .int (iI 0)), (3, .int (iI (-1))), (2, .int (iI (-9))), (0, .ref (ma 100)), (1, .int (iI c))]) dX6_bestPiece_28 (by decide) rfl ?_
    have L30 : ∀ (mz30 : Nat) (p : Int) (b : Int) (l : Int) (Gm : MS), (M 5 0 - p).toNat = mz30 → (0 ≤ p ∧ p ≤ M 5 0) → (smx (frB (M 9)) (fun p => lasts (mkp (cl M) (M 6) (M 7) (M 8) p c) c) (fun p => p) (-9, -1) p = (b, l)) → ((-1 ≤ l ∧ l ≤ 61) ∧ (b = -9 ∨ 0 ≤ b ∧ b < 6)) → G E (mw κ ma (tst M Gm)) [(4, .int (iI p)), (3, .int (iI l)), (2, .int (iI b)), (0, .ref (ma 100)), (1, .int (iI c))] 30 [] := by
      intro mz30
      induction mz30 using Nat.strongRecOn with
      | _ mz30 ih30 =>
      intro p b l Gm hmz30 hp hs hl
      refine g_iload F 0 dX6_bestPiece_30 rfl ?_
      refine g_aload_n F 3 dX6_bestPiece_32 rfl ?_
      refine gm_get_5 F dX6_bestPiece_33 ?_
      refine g_top (y := iI (M 5 0)) rfl ?_
      refine g_icmp_ge F 108 (by omega) dX6_bestPiece_36 (by decide) (fun c36 => ?_) (fun c36 => ?_)
      · skip
        refine g_iload_n F 2 dX6_bestPiece_108 rfl ?_
        have e : sBest (cl M) (M 6) (M 7) (M 8) (M 9) (M 5 0) c = (b, l) := by rw [show p = M 5 0 by omega] at hs; exact hs
        have e1 : (sBest (cl M) (M 6) (M 7) (M 8) (M 9) (M 5 0) c).1 = b := by rw [e]
        have hq : b = qBestPiece (cl M) (M 6) (M 7) (M 8) (M 9) (M 5 0) c := by unfold qBestPiece; (repeat' split) <;> omega
        exact K mw_same ⟨_, rfl, iIc hq, ⟨rfl, rfl, rfl, rfl, rfl, rfl, rfl, rfl, rfl, rfl, rfl, rfl, rfl, rfl, rfl, rfl, rfl, rfl⟩, (by rw [← hq]; show M 11 = _; exact (rfa_n (by omega)).symm)⟩ rfl dX6_bestPiece_109
      · skip
        have hrp : (0 ≤ M 6 p ∧ M 6 p ≤ 5) ∧ (0 ≤ M 7 p ∧ M 7 p ≤ 9) ∧ (0 ≤ M 8 p ∧ M 8 p ≤ 99) ∧ 0 ≤ M 9 p ∧ M 9 p ≤ 1 := okr.2 p (by omega) (by omega)
        refine g_aload_n F 3 dX6_bestPiece_39 rfl ?_
        refine gm_get_9 F dX6_bestPiece_40 ?_
        refine g_iload F 0 dX6_bestPiece_43 rfl ?_
        refine gm_ald_9 F (by omega) dX6_bestPiece_45 ?_
        refine g_top (y := iI (M 9 p)) rfl ?_
        refine g_if_ne F 102 (by omega) dX6_bestPiece_46 (by decide) (fun c46 => ?_) (fun c46 => ?_)
        · skip
          refine g_iinc F (lv' := [(4, .int (iI (p + 1))), (3, .int (iI l)), (2, .int (iI b)), (0, .ref (ma 100)), (1, .int (iI c))]) 0 dX6_bestPiece_102 rfl (by decide) rfl ?_
          refine g_goto F 30 dX6_bestPiece_105 (by decide) ?_
          refine g_sub F (lv' := [(4, .int (iI (p + 1))), (3, .int (iI l)), (2, .int (iI b)), (0, .ref (ma 100)), (1, .int (iI c))]) [0, 1, 2, 3, 4] rfl ?_
          refine g_ws (ws' := mw κ ma (tst M (tst M Gm))) rfl ?_
          exact ih30 _ (by omega) (p + 1) b l (tst M Gm) rfl (by omega) (by first | (exfalso; omega) | exact smx_tx hs rfl rfl hp.1 (decide_eq_true c46) (by omega) | exact smx_fx (x := lasts (make (cl M) c (M 6 p) (M 7 p) (M 8 p)) c) hs rfl hp.1 (Or.inr (by omega)) | exact smx_fk hs hp.1 (decide_eq_false c46)) (by omega)
        · skip
          have hpb := lasts_bd (make (cl M) c (M 6 p) (M 7 p) (M 8 p)) c
          refine g_aload_n F 3 dX6_bestPiece_49 rfl ?_
          refine g_iload F 0 dX6_bestPiece_50 rfl ?_
          refine g_iload_n F 4 dX6_bestPiece_52 rfl ?_
          refine g_callV F (stk := [.int (iI c), .int (iI p), .ref (ma 100)]) (st := []) (k_X6_putOn κ ma (tst M Gm) p c (by omega) (by omega)) cal_X6_putOn lm_X6_179 0 rfl rfl rfl rfl (by decide) rfl (Nat.le_of_ble_eq_true rfl) dX6_bestPiece_53 (fun ws53 _ hr53 => ?_)
          obtain rfl := hr53
          refine g_ws (ws' := mw κ ma (mA (stC (tst M Gm) (make (cl M) c (M 6 p) (M 7 p) (M 8 p))) 9 (uI (M 9) p 1))) rfl ?_
          refine g_aload_n F 3 dX6_bestPiece_56 rfl ?_
          refine g_callV F (stk := [.ref (ma 100)]) (st := []) (k_X6_layLasts κ ma (mA (stC (tst M Gm) (make (cl M) c (M 6 p) (M 7 p) (M 8 p))) 9 (uI (M 9) p 1)) (show M 4 0 ≤ 990000 by omega) (make_ok ok hrp.1 hrp.2.1 hrp.2.2.1)) cal_X6_layLasts lm_X6_255 0 rfl rfl rfl rfl (by decide) rfl (Nat.le_of_ble_eq_true rfl) dX6_bestPiece_57 (fun ws57 _ hr57 => ?_)
          obtain rfl := hr57
          refine g_ws (ws' := mw κ ma (mA (stC (mA (stC (tst M Gm) (make (cl M) c (M 6 p) (M 7 p) (M 8 p))) 9 (uI (M 9) p 1)) (goI 61 (make (cl M) c (M 6 p) (M 7 p) (M 8 p)))) 29 (lasts (make (cl M) c (M 6 p) (M 7 p) (M 8 p))))) rfl ?_
          refine g_aload_n F 3 dX6_bestPiece_60 rfl ?_
          refine g_callV F (stk := [.ref (ma 100)]) (st := []) (k_X6_again κ ma (mA (stC (mA (stC (tst M Gm) (make (cl M) c (M 6 p) (M 7 p) (M 8 p))) 9 (uI (M 9) p 1)) (goI 61 (make (cl M) c (M 6 p) (M 7 p) (M 8 p)))) 29 (lasts (make (cl M) c (M 6 p) (M 7 p) (M 8 p)))) M (fun _ _ _ => rfl)) cal_X6_again lm_X6_197 0 rfl rfl rfl rfl (by decide) rfl (Nat.le_of_ble_eq_true rfl) dX6_bestPiece_61 (fun ws61 _ hr61 => ?_)
          obtain rfl := hr61
          refine g_aload_n F 3 dX6_bestPiece_64 rfl ?_
          refine gm_get_29 F dX6_bestPiece_65 ?_
          refine g_iload_n F 4 dX6_bestPiece_68 rfl ?_
          refine gm_ald_29 F (by omega) dX6_bestPiece_69 ?_
          refine g_top (y := iI ((lasts (make (cl M) c (M 6 p) (M 7 p) (M 8 p))) c)) rfl ?_
          refine g_iload_n F 1 dX6_bestPiece_70 rfl ?_
          refine g_icmp_le F 79 (by omega) dX6_bestPiece_71 (by decide) (fun c71 => ?_) (fun c71 => ?_)
          · skip
            refine g_iload_n F 2 dX6_bestPiece_79 rfl ?_
            refine g_istore_n F (lv' := [(2, .int (iI b)), (4, .int (iI p)), (3, .int (iI l)), (0, .ref (ma 100)), (1, .int (iI c))]) 2 dX6_bestPiece_80 rfl (by decide) rfl ?_
            refine g_aload_n F 3 dX6_bestPiece_81 rfl ?_
            refine gm_get_29 F dX6_bestPiece_82 ?_
            refine g_iload_n F 4 dX6_bestPiece_85 rfl ?_
            refine gm_ald_29 F (by omega) dX6_bestPiece_86 ?_
            refine g_top (y := iI ((lasts (make (cl M) c (M 6 p) (M 7 p) (M 8 p))) c)) rfl ?_
            refine g_iload_n F 2 dX6_bestPiece_87 rfl ?_
            refine g_icmp_le F 100 (by omega) dX6_bestPiece_88 (by decide) (fun c88 => ?_) (fun c88 => ?_)
            · skip
              refine g_iload_n F 2 dX6_bestPiece_100 rfl ?_
              refine g_istore_n F (lv' := [(3, .int (iI l)), (2, .int (iI b)), (4, .int (iI p)), (0, .ref (ma 100)), (1, .int (iI c))]) 3 dX6_bestPiece_101 rfl (by decide) rfl ?_
              refine g_iinc F (lv' := [(4, .int (iI (p + 1))), (3, .int (iI l)), (2, .int (iI b)), (0, .ref (ma 100)), (1, .int (iI c))]) 2 dX6_bestPiece_102 rfl (by decide) rfl ?_
              refine g_goto F 30 dX6_bestPiece_105 (by decide) ?_
              refine g_sub F (lv' := [(4, .int (iI (p + 1))), (3, .int (iI l)), (2, .int (iI b)), (0, .ref (ma 100)), (1, .int (iI c))]) [0, 1, 2, 3, 4] rfl ?_
              refine g_ws (ws' := mw κ ma (tst M (agn (mA (stC (mA (stC (tst M Gm) (make (cl M) c (M 6 p) (M 7 p) (M 8 p))) 9 (uI (M 9) p 1)) (goI 61 (make (cl M) c (M 6 p) (M 7 p) (M 8 p)))) 29 (lasts (make (cl M) c (M 6 p) (M 7 p) (M 8 p)))) M))) rfl ?_
              exact ih30 _ (by omega) (p + 1) b l (agn (mA (stC (mA (stC (tst M Gm) (make (cl M) c (M 6 p) (M 7 p) (M 8 p))) 9 (uI (M 9) p 1)) (goI 61 (make (cl M) c (M 6 p) (M 7 p) (M 8 p)))) 29 (lasts (make (cl M) c (M 6 p) (M 7 p) (M 8 p)))) M) rfl (by omega) (by first | (exfalso; omega) | exact smx_tx hs rfl rfl hp.1 (decide_eq_true c46) (by omega) | exact smx_fx (x := lasts (make (cl M) c (M 6 p) (M 7 p) (M 8 p)) c) hs rfl hp.1 (Or.inr (by omega)) | exact smx_fk hs hp.1 (decide_eq_false c46)) (by omega)
            · skip
              refine g_aload_n F 3 dX6_bestPiece_91 rfl ?_
              refine gm_get_29 F dX6_bestPiece_92 ?_
              refine g_iload_n F 4 dX6_bestPiece_95 rfl ?_
              refine gm_ald_29 F (by omega) dX6_bestPiece_96 ?_
              refine g_top (y := iI ((lasts (make (cl M) c (M 6 p) (M 7 p) (M 8 p))) c)) rfl ?_
              refine g_goto F 101 dX6_bestPiece_97 (by decide) ?_
              refine g_istore_n F (lv' := [(3, .int (iI ((lasts (make (cl M) c (M 6 p) (M 7 p) (M 8 p))) c))), (2, .int (iI b)), (4, .int (iI p)), (0, .ref (ma 100)), (1, .int (iI c))]) 3 dX6_bestPiece_101 rfl (by decide) rfl ?_
              refine g_iinc F (lv' := [(4, .int (iI (p + 1))), (3, .int (iI ((lasts (make (cl M) c (M 6 p) (M 7 p) (M 8 p))) c))), (2, .int (iI b)), (0, .ref (ma 100)), (1, .int (iI c))]) 2 dX6_bestPiece_102 rfl (by decide) rfl ?_
              refine g_goto F 30 dX6_bestPiece_105 (by decide) ?_
              refine g_sub F (lv' := [(4, .int (iI (p + 1))), (3, .int (iI ((lasts (make (cl M) c (M 6 p) (M 7 p) (M 8 p))) c))), (2, .int (iI b)), (0, .ref (ma 100)), (1, .int (iI c))]) [0, 1, 2, 3, 4] rfl ?_
              refine g_ws (ws' := mw κ ma (tst M (agn (mA (stC (mA (stC (tst M Gm) (make (cl M) c (M 6 p) (M 7 p) (M 8 p))) 9 (uI (M 9) p 1)) (goI 61 (make (cl M) c (M 6 p) (M 7 p) (M 8 p)))) 29 (lasts (make (cl M) c (M 6 p) (M 7 p) (M 8 p)))) M))) rfl ?_
              exact ih30 _ (by omega) (p + 1) b ((lasts (make (cl M) c (M 6 p) (M 7 p) (M 8 p))) c) (agn (mA (stC (mA (stC (tst M Gm) (make (cl M) c (M 6 p) (M 7 p) (M 8 p))) 9 (uI (M 9) p 1)) (goI 61 (make (cl M) c (M 6 p) (M 7 p) (M 8 p)))) 29 (lasts (make (cl M) c (M 6 p) (M 7 p) (M 8 p)))) M) rfl (by omega) (by first | (exfalso; omega) | exact smx_tx hs rfl rfl hp.1 (decide_eq_true c46) (by omega) | exact smx_fx (x := lasts (make (cl M) c (M 6 p) (M 7 p) (M 8 p)) c) hs rfl hp.1 (Or.inr (by omega)) | exact smx_fk hs hp.1 (decide_eq_false c46)) (by omega)
          · skip
            refine g_iload F 0 dX6_bestPiece_74 rfl ?_
            refine g_goto F 80 dX6_bestPiece_76 (by decide) ?_
            refine g_istore_n F (lv' := [(2, .int (iI p)), (4, .int (iI p)), (3, .int (iI l)), (0, .ref (ma 100)), (1, .int (iI c))]) 2 dX6_bestPiece_80 rfl (by decide) rfl ?_
            refine g_aload_n F 3 dX6_bestPiece_81 rfl ?_
            refine gm_get_29 F dX6_bestPiece_82 ?_
            refine g_iload_n F 4 dX6_bestPiece_85 rfl ?_
            refine gm_ald_29 F (by omega) dX6_bestPiece_86 ?_
            refine g_top (y := iI ((lasts (make (cl M) c (M 6 p) (M 7 p) (M 8 p))) c)) rfl ?_
            refine g_iload_n F 2 dX6_bestPiece_87 rfl ?_
            refine g_icmp_le F 100 (by omega) dX6_bestPiece_88 (by decide) (fun c88 => ?_) (fun c88 => ?_)
            · skip
              refine g_iload_n F 2 dX6_bestPiece_100 rfl ?_
              refine g_istore_n F (lv' := [(3, .int (iI l)), (2, .int (iI p)), (4, .int (iI p)), (0, .ref (ma 100)), (1, .int (iI c))]) 3 dX6_bestPiece_101 rfl (by decide) rfl ?_
              refine g_iinc F (lv' := [(4, .int (iI (p + 1))), (3, .int (iI l)), (2, .int (iI p)), (0, .ref (ma 100)), (1, .int (iI c))]) 2 dX6_bestPiece_102 rfl (by decide) rfl ?_
              refine g_goto F 30 dX6_bestPiece_105 (by decide) ?_
              refine g_sub F (lv' := [(4, .int (iI (p + 1))), (3, .int (iI l)), (2, .int (iI p)), (0, .ref (ma 100)), (1, .int (iI c))]) [0, 1, 2, 3, 4] rfl ?_
              refine g_ws (ws' := mw κ ma (tst M (agn (mA (stC (mA (stC (tst M Gm) (make (cl M) c (M 6 p) (M 7 p) (M 8 p))) 9 (uI (M 9) p 1)) (goI 61 (make (cl M) c (M 6 p) (M 7 p) (M 8 p)))) 29 (lasts (make (cl M) c (M 6 p) (M 7 p) (M 8 p)))) M))) rfl ?_
              exact ih30 _ (by omega) (p + 1) p l (agn (mA (stC (mA (stC (tst M Gm) (make (cl M) c (M 6 p) (M 7 p) (M 8 p))) 9 (uI (M 9) p 1)) (goI 61 (make (cl M) c (M 6 p) (M 7 p) (M 8 p)))) 29 (lasts (make (cl M) c (M 6 p) (M 7 p) (M 8 p)))) M) rfl (by omega) (by first | (exfalso; omega) | exact smx_tx hs rfl rfl hp.1 (decide_eq_true c46) (by omega) | exact smx_fx (x := lasts (make (cl M) c (M 6 p) (M 7 p) (M 8 p)) c) hs rfl hp.1 (Or.inr (by omega)) | exact smx_fk hs hp.1 (decide_eq_false c46)) (by omega)
            · skip
              refine g_aload_n F 3 dX6_bestPiece_91 rfl ?_
              refine gm_get_29 F dX6_bestPiece_92 ?_
              refine g_iload_n F 4 dX6_bestPiece_95 rfl ?_
              refine gm_ald_29 F (by omega) dX6_bestPiece_96 ?_
              refine g_top (y := iI ((lasts (make (cl M) c (M 6 p) (M 7 p) (M 8 p))) c)) rfl ?_
              refine g_goto F 101 dX6_bestPiece_97 (by decide) ?_
              refine g_istore_n F (lv' := [(3, .int (iI ((lasts (make (cl M) c (M 6 p) (M 7 p) (M 8 p))) c))), (2, .int (iI p)), (4, .int (iI p)), (0, .ref (ma 100)), (1, .int (iI c))]) 3 dX6_bestPiece_101 rfl (by decide) rfl ?_
              refine g_iinc F (lv' := [(4, .int (iI (p + 1))), (3, .int (iI ((lasts (make (cl M) c (M 6 p) (M 7 p) (M 8 p))) c))), (2, .int (iI p)), (0, .ref (ma 100)), (1, .int (iI c))]) 2 dX6_bestPiece_102 rfl (by decide) rfl ?_
              refine g_goto F 30 dX6_bestPiece_105 (by decide) ?_
              refine g_sub F (lv' := [(4, .int (iI (p + 1))), (3, .int (iI ((lasts (make (cl M) c (M 6 p) (M 7 p) (M 8 p))) c))), (2, .int (iI p)), (0, .ref (ma 100)), (1, .int (iI c))]) [0, 1, 2, 3, 4] rfl ?_
              refine g_ws (ws' := mw κ ma (tst M (agn (mA (stC (mA (stC (tst M Gm) (make (cl M) c (M 6 p) (M 7 p) (M 8 p))) 9 (uI (M 9) p 1)) (goI 61 (make (cl M) c (M 6 p) (M 7 p) (M 8 p)))) 29 (lasts (make (cl M) c (M 6 p) (M 7 p) (M 8 p)))) M))) rfl ?_
              exact ih30 _ (by omega) (p + 1) p ((lasts (make (cl M) c (M 6 p) (M 7 p) (M 8 p))) c) (agn (mA (stC (mA (stC (tst M Gm) (make (cl M) c (M 6 p) (M 7 p) (M 8 p))) 9 (uI (M 9) p 1)) (goI 61 (make (cl M) c (M 6 p) (M 7 p) (M 8 p)))) 29 (lasts (make (cl M) c (M 6 p) (M 7 p) (M 8 p)))) M) rfl (by omega) (by first | (exfalso; omega) | exact smx_tx hs rfl rfl hp.1 (decide_eq_true c46) (by omega) | exact smx_fx (x := lasts (make (cl M) c (M 6 p) (M 7 p) (M 8 p)) c) hs rfl hp.1 (Or.inr (by omega)) | exact smx_fk hs hp.1 (decide_eq_false c46)) (by omega)
    refine g_sub F (lv' := [(4, .int (iI 0)), (3, .int (iI (-1))), (2, .int (iI (-9))), (0, .ref (ma 100)), (1, .int (iI c))]) [0, 1, 2, 3, 4] rfl ?_
    refine g_ws (ws' := mw κ ma (tst M (thk (mA M 10 (fun _ => 0))))) (by unfold thk; rw [snapF_mA (by decide)]; rfl) ?_
    exact L30 _ 0 (-9) (-1) (thk (mA M 10 (fun _ => 0))) rfl (by omega) rfl (by omega)
  · skip
    have c9 : ¬ (0 ≤ c ∧ c < 12) := b2i_f c9
    refine g_aload_n F 0 dX6_bestPiece_12 rfl ?_
    refine g_iconst F dX6_bestPiece_13 ?_
    refine g_callI F (stk := [.int (iI (-1)), .ref (ma 100)]) (st := []) (k_X6_refuse κ ma (mA M 10 (fun _ => 0)) (-1) (by omega)) cal_X6_refuse lm_X6_138 0 rfl rfl rfl rfl (by decide) rfl (Nat.le_of_ble_eq_true rfl) dX6_bestPiece_14 (fun r14 ws14 _ hr14 => ?_)
    obtain ⟨rfl, rfl⟩ := hr14
    refine g_top (y := iI (-1)) rfl ?_
    refine g_ws (ws' := mw κ ma (mA (mA M 10 (fun _ => 0)) 11 (uI (M 11) (-(-1)) (M 11 (-(-1)) + 1)))) rfl ?_
    have hq : (-1) = qBestPiece (cl M) (M 6) (M 7) (M 8) (M 9) (M 5 0) c := by unfold qBestPiece; (repeat' split) <;> omega
    exact K mw_same ⟨_, rfl, iIc hq, ⟨rfl, rfl, rfl, rfl, rfl, rfl, rfl, rfl, rfl, rfl, rfl, rfl, rfl, rfl, rfl, rfl, rfl, rfl⟩, (by rw [← hq]; exact (rfa_r (by omega)).symm)⟩ rfl dX6_bestPiece_17
theorem dX6_keep_0 : decode cX6_keep 0 = .ok (.aload_n 0, 1) := by decide +kernel
theorem dX6_keep_1 : decode cX6_keep 1 = .ok (.iconst 0, 1) := by decide +kernel
theorem dX6_keep_2 : decode cX6_keep 2 = .ok (.putfield 91, 3) := by decide +kernel
theorem dX6_keep_5 : decode cX6_keep 5 = .ok (.aload_n 0, 1) := by decide +kernel
theorem dX6_keep_6 : decode cX6_keep 6 = .ok (.invokevirtual 191, 3) := by decide +kernel
theorem dX6_keep_9 : decode cX6_keep 9 = .ok (.aload_n 0, 1) := by decide +kernel
theorem dX6_keep_10 : decode cX6_keep 10 = .ok (.invokevirtual 255, 3) := by decide +kernel
theorem dX6_keep_13 : decode cX6_keep 13 = .ok (.aload_n 0, 1) := by decide +kernel
theorem dX6_keep_14 : decode cX6_keep 14 = .ok (.invokevirtual 197, 3) := by decide +kernel
theorem dX6_keep_17 : decode cX6_keep 17 = .ok (.aload_n 0, 1) := by decide +kernel
theorem dX6_keep_18 : decode cX6_keep 18 = .ok (.getfield 61, 3) := by decide +kernel
theorem dX6_keep_21 : decode cX6_keep 21 = .ok (.aload_n 0, 1) := by decide +kernel
theorem dX6_keep_22 : decode cX6_keep 22 = .ok (.invokevirtual 258, 3) := by decide +kernel
theorem dX6_keep_25 : decode cX6_keep 25 = .ok (.iaload, 1) := by decide +kernel
theorem dX6_keep_26 : decode cX6_keep 26 = .ok (.istore_n 1, 1) := by decide +kernel
theorem dX6_keep_27 : decode cX6_keep 27 = .ok (.bipush (-9), 2) := by decide +kernel
theorem dX6_keep_29 : decode cX6_keep 29 = .ok (.istore_n 2, 1) := by decide +kernel
theorem dX6_keep_30 : decode cX6_keep 30 = .ok (.iconst 0, 1) := by decide +kernel
theorem dX6_keep_31 : decode cX6_keep 31 = .ok (.istore_n 3, 1) := by decide +kernel
theorem dX6_keep_32 : decode cX6_keep 32 = .ok (.iload_n 3, 1) := by decide +kernel
theorem dX6_keep_33 : decode cX6_keep 33 = .ok (.bipush 12, 2) := by decide +kernel
theorem dX6_keep_35 : decode cX6_keep 35 = .ok (.aload_n 0, 1) := by decide +kernel
theorem dX6_keep_36 : decode cX6_keep 36 = .ok (.getfield 101, 3) := by decide +kernel
theorem dX6_keep_39 : decode cX6_keep 39 = .ok (.imul, 1) := by decide +kernel
theorem dX6_keep_40 : decode cX6_keep 40 = .ok (.if_icmp .ge 88, 3) := by decide +kernel
theorem dX6_keep_43 : decode cX6_keep 43 = .ok (.iload_n 3, 1) := by decide +kernel
theorem dX6_keep_44 : decode cX6_keep 44 = .ok (.bipush 12, 2) := by decide +kernel
theorem dX6_keep_46 : decode cX6_keep 46 = .ok (.idiv, 1) := by decide +kernel
theorem dX6_keep_47 : decode cX6_keep 47 = .ok (.istore 4, 2) := by decide +kernel
theorem dX6_keep_49 : decode cX6_keep 49 = .ok (.aload_n 0, 1) := by decide +kernel
theorem dX6_keep_50 : decode cX6_keep 50 = .ok (.getfield 31, 3) := by decide +kernel
theorem dX6_keep_53 : decode cX6_keep 53 = .ok (.iload 4, 2) := by decide +kernel
theorem dX6_keep_55 : decode cX6_keep 55 = .ok (.iaload, 1) := by decide +kernel
theorem dX6_keep_56 : decode cX6_keep 56 = .ok (.ifCond .ne 66, 3) := by decide +kernel
theorem dX6_keep_59 : decode cX6_keep 59 = .ok (.aload_n 0, 1) := by decide +kernel
theorem dX6_keep_60 : decode cX6_keep 60 = .ok (.iload 4, 2) := by decide +kernel
theorem dX6_keep_62 : decode cX6_keep 62 = .ok (.iload_n 3, 1) := by decide +kernel
theorem dX6_keep_63 : decode cX6_keep 63 = .ok (.bipush 12, 2) := by decide +kernel
theorem dX6_keep_65 : decode cX6_keep 65 = .ok (.irem, 1) := by decide +kernel
theorem dX6_keep_66 : decode cX6_keep 66 = .ok (.invokevirtual 179, 3) := by decide +kernel
theorem dX6_keep_69 : decode cX6_keep 69 = .ok (.aload_n 0, 1) := by decide +kernel
theorem dX6_keep_70 : decode cX6_keep 70 = .ok (.invokevirtual 255, 3) := by decide +kernel
theorem dX6_keep_73 : decode cX6_keep 73 = .ok (.aload_n 0, 1) := by decide +kernel
theorem dX6_keep_74 : decode cX6_keep 74 = .ok (.invokevirtual 197, 3) := by decide +kernel
theorem dX6_keep_77 : decode cX6_keep 77 = .ok (.aload_n 0, 1) := by decide +kernel
theorem dX6_keep_78 : decode cX6_keep 78 = .ok (.getfield 61, 3) := by decide +kernel
theorem dX6_keep_81 : decode cX6_keep 81 = .ok (.aload_n 0, 1) := by decide +kernel
theorem dX6_keep_82 : decode cX6_keep 82 = .ok (.invokevirtual 258, 3) := by decide +kernel
theorem dX6_keep_85 : decode cX6_keep 85 = .ok (.iaload, 1) := by decide +kernel
theorem dX6_keep_86 : decode cX6_keep 86 = .ok (.istore 5, 2) := by decide +kernel
theorem dX6_keep_88 : decode cX6_keep 88 = .ok (.iload 5, 2) := by decide +kernel
theorem dX6_keep_90 : decode cX6_keep 90 = .ok (.iload_n 1, 1) := by decide +kernel
theorem dX6_keep_91 : decode cX6_keep 91 = .ok (.if_icmp .le 16, 3) := by decide +kernel
theorem dX6_keep_94 : decode cX6_keep 94 = .ok (.bipush 100, 2) := by decide +kernel
theorem dX6_keep_96 : decode cX6_keep 96 = .ok (.iload 4, 2) := by decide +kernel
theorem dX6_keep_98 : decode cX6_keep 98 = .ok (.imul, 1) := by decide +kernel
theorem dX6_keep_99 : decode cX6_keep 99 = .ok (.iload_n 3, 1) := by decide +kernel
theorem dX6_keep_100 : decode cX6_keep 100 = .ok (.bipush 12, 2) := by decide +kernel
theorem dX6_keep_102 : decode cX6_keep 102 = .ok (.irem, 1) := by decide +kernel
theorem dX6_keep_103 : decode cX6_keep 103 = .ok (.iadd, 1) := by decide +kernel
theorem dX6_keep_104 : decode cX6_keep 104 = .ok (.goto 4, 3) := by decide +kernel
theorem dX6_keep_107 : decode cX6_keep 107 = .ok (.iload_n 2, 1) := by decide +kernel
theorem dX6_keep_108 : decode cX6_keep 108 = .ok (.istore_n 2, 1) := by decide +kernel
theorem dX6_keep_109 : decode cX6_keep 109 = .ok (.iload 5, 2) := by decide +kernel
theorem dX6_keep_111 : decode cX6_keep 111 = .ok (.iload_n 1, 1) := by decide +kernel
theorem dX6_keep_112 : decode cX6_keep 112 = .ok (.if_icmp .le 8, 3) := by decide +kernel
theorem dX6_keep_115 : decode cX6_keep 115 = .ok (.iload 5, 2) := by decide +kernel
theorem dX6_keep_117 : decode cX6_keep 117 = .ok (.goto 4, 3) := by decide +kernel
theorem dX6_keep_120 : decode cX6_keep 120 = .ok (.iload_n 1, 1) := by decide +kernel
theorem dX6_keep_121 : decode cX6_keep 121 = .ok (.istore_n 1, 1) := by decide +kernel
theorem dX6_keep_122 : decode cX6_keep 122 = .ok (.iinc 3 1, 3) := by decide +kernel
theorem dX6_keep_125 : decode cX6_keep 125 = .ok (.goto (-93), 3) := by decide +kernel
theorem dX6_keep_128 : decode cX6_keep 128 = .ok (.iload_n 2, 1) := by decide +kernel
theorem dX6_keep_129 : decode cX6_keep 129 = .ok (.ireturn, 1) := by decide +kernel
set_option maxRecDepth 100000 in
set_option maxHeartbeats 4000000 in
theorem k_X6_keep (κ : Kp) (ma : Nat → Nat) (M : MS)  (ok : okC (cl M)) (hy : M 4 0 ≤ 999) (okr : okR M) : mI κ yX6_keep cX6_keep 6 .int 5 [.ref (ma 100)] (mw κ ma M) (qM κ ma M (qKeep (cl M) (M 6) (M 7) (M 8) (M 9) (M 5 0))) := by
  refine mI_of (by decide) (Nat.le_of_ble_eq_true rfl) (fun E F K => ?_)
  refine g_lv (lv' := [(0, .ref (ma 100))]) rfl ?_
  refine g_aload_n F 0 dX6_keep_0 rfl ?_
  refine g_iconst F dX6_keep_1 ?_
  refine gm_put_10 F dX6_keep_2 ?_
  have hn := okr.1
  refine g_aload_n F 0 dX6_keep_5 rfl ?_
  refine g_callV F (stk := [.ref (ma 100)]) (st := []) (k_X6_think κ ma (mA M 10 (fun _ => 0))) cal_X6_think lm_X6_191 0 rfl rfl rfl rfl (by decide) rfl (Nat.le_of_ble_eq_true rfl) dX6_keep_6 (fun ws6 _ hr6 => ?_)
  obtain rfl := hr6
  refine g_ws (ws' := mw κ ma (thk (mA M 10 (fun _ => 0)))) rfl ?_
  refine g_aload_n F 0 dX6_keep_9 rfl ?_
  refine g_callV F (stk := [.ref (ma 100)]) (st := []) (k_X6_layLasts κ ma (thk (mA M 10 (fun _ => 0))) (show (M 4 0) ≤ 990000 from by omega) ok) cal_X6_layLasts lm_X6_255 0 rfl rfl rfl rfl (by decide) rfl (Nat.le_of_ble_eq_true rfl) dX6_keep_10 (fun ws10 _ hr10 => ?_)
  obtain rfl := hr10
  refine g_ws (ws' := mw κ ma (mA (stC (thk (mA M 10 (fun _ => 0))) (goI 61 (cl M))) 29 (lasts (cl M)))) rfl ?_
  refine g_aload_n F 0 dX6_keep_13 rfl ?_
  refine g_callV F (stk := [.ref (ma 100)]) (st := []) (k_X6_again κ ma (mA (stC (thk (mA M 10 (fun _ => 0))) (goI 61 (cl M))) 29 (lasts (cl M))) (mA M 10 (fun _ => 0)) (fun _ _ _ => rfl)) cal_X6_again lm_X6_197 0 rfl rfl rfl rfl (by decide) rfl (Nat.le_of_ble_eq_true rfl) dX6_keep_14 (fun ws14 _ hr14 => ?_)
  obtain rfl := hr14
  refine g_aload_n F 0 dX6_keep_17 rfl ?_
  refine gm_get_29 F dX6_keep_18 ?_
  refine g_aload_n F 0 dX6_keep_21 rfl ?_
  refine g_callI F (stk := [.ref (ma 100), .ref (ma 29)]) (st := [.ref (ma 29)]) (k_X6_firstOf κ ma (agn (mA (stC (thk (mA M 10 (fun _ => 0))) (goI 61 (cl M))) 29 (lasts (cl M))) (mA M 10 (fun _ => 0))) (fun j _ _ => lasts_bd _ j)) cal_X6_firstOf lm_X6_258 0 rfl rfl rfl rfl (by decide) rfl (Nat.le_of_ble_eq_true rfl) dX6_keep_22 (fun r22 ws22 _ hr22 => ?_)
  obtain ⟨rfl, rfl⟩ := hr22
  refine g_top (y := iI (amin (lasts (cl M)) 12)) rfl ?_
  have hf := amin_in (lasts (cl M)) (n := 12) (by decide)
  have hfl := lasts_bd (cl M) (amin (lasts (cl M)) 12)
  refine gm_ald_29 F (by omega) dX6_keep_25 ?_
  refine g_top (y := iI ((lasts (cl M)) (amin (lasts (cl M)) 12))) rfl ?_
  refine g_istore_n F (lv' := [(1, .int (iI ((lasts (cl M)) (amin (lasts (cl M)) 12)))), (0, .ref (ma 100))]) 1 dX6_keep_26 rfl (by decide) rfl ?_
  refine g_bipush F dX6_keep_27 (by decide +kernel) ?_
  refine g_istore_n F (lv' := [(2, .int (iI (-9))), (1, .int (iI ((lasts (cl M)) (amin (lasts (cl M)) 12)))), (0, .ref (ma 100))]) 2 dX6_keep_29 rfl (by decide) rfl ?_
  refine g_iconst F dX6_keep_30 ?_
  refine g_istore_n F (lv' := [(3, .int (iI 0)), (2, .int (iI (-9))), (1, .int (iI ((lasts (cl M)) (amin (lasts (cl M)) 12)))), (0, .ref (ma 100))]) 3 dX6_keep_31 rfl (by decide) rfl ?_
  have L32 : ∀ (mz32 : Nat) (k : Int) (b : Int) (l : Int) (Gm : MS), (12 * M 5 0 - k).toNat = mz32 → (0 ≤ k ∧ k ≤ 12 * M 5 0) → (smx (fun k => frB (M 9) (k / 12)) (fun k => mn (mkp (cl M) (M 6) (M 7) (M 8) (k / 12) (k % 12))) (fun k => 100 * (k / 12) + k % 12) (-9, mn (cl M)) k = (b, l)) → ((0 ≤ l ∧ l ≤ 61) ∧ (b = -9 ∨ 0 ≤ b ∧ b < 1000)) → G E (mw κ ma (tst M Gm)) [(3, .int (iI k)), (2, .int (iI b)), (1, .int (iI l)), (0, .ref (ma 100))] 32 [] := by
    intro mz32
    induction mz32 using Nat.strongRecOn with
    | _ mz32 ih32 =>
    intro k b l Gm hmz32 hk hs hl
    refine g_iload_n F 0 dX6_keep_32 rfl ?_
    refine g_bipush F dX6_keep_33 (by decide +kernel) ?_
    refine g_aload_n F 3 dX6_keep_35 rfl ?_
    refine gm_get_5 F dX6_keep_36 ?_
    refine g_top (y := iI (M 5 0)) rfl ?_
    refine g_imul F dX6_keep_39 ?_
    refine g_icmp_ge F 128 (by omega) dX6_keep_40 (by decide) (fun c40 => ?_) (fun c40 => ?_)
    · skip
      refine g_iload_n F 1 dX6_keep_128 rfl ?_
      have e : sKeep (cl M) (M 6) (M 7) (M 8) (M 9) (M 5 0) = (b, l) := by rw [show k = 12 * M 5 0 by omega] at hs; exact hs
      have hq : b = qKeep (cl M) (M 6) (M 7) (M 8) (M 9) (M 5 0) := by unfold qKeep; rw [e]
      exact K mw_same ⟨_, rfl, iIc hq, ⟨rfl, rfl, rfl, rfl, rfl, rfl, rfl, rfl, rfl, rfl, rfl, rfl, rfl, rfl, rfl, rfl, rfl, rfl⟩, (by rw [← hq]; show M 11 = _; exact (rfa_n (by omega)).symm)⟩ rfl dX6_keep_129
    · skip
      refine g_iload_n F 0 dX6_keep_43 rfl ?_
      refine g_bipush F dX6_keep_44 (by decide +kernel) ?_
      refine g_idiv F dX6_keep_46 (by omega) ?_
      refine g_istore F (lv' := [(4, .int (iI (k / 12))), (3, .int (iI k)), (2, .int (iI b)), (1, .int (iI l)), (0, .ref (ma 100))]) dX6_keep_47 (by decide) rfl ?_
      have hrp : (0 ≤ M 6 (k / 12) ∧ M 6 (k / 12) ≤ 5) ∧ (0 ≤ M 7 (k / 12) ∧ M 7 (k / 12) ≤ 9) ∧ (0 ≤ M 8 (k / 12) ∧ M 8 (k / 12) ≤ 99) ∧ 0 ≤ M 9 (k / 12) ∧ M 9 (k / 12) ≤ 1 := okr.2 (k / 12) (by omega) (by omega)
      refine g_aload_n F 4 dX6_keep_49 rfl ?_
      refine gm_get_9 F dX6_keep_50 ?_
      refine g_iload F 0 dX6_keep_53 rfl ?_
      refine gm_ald_9 F (by omega) dX6_keep_55 ?_
      refine g_top (y := iI (M 9 (k / 12))) rfl ?_
      refine g_if_ne F 122 (by omega) dX6_keep_56 (by decide) (fun c56 => ?_) (fun c56 => ?_)
      · skip
        refine g_iinc F (lv' := [(3, .int (iI (k + 1))), (4, .int (iI (k / 12))), (2, .int (iI b)), (1, .int (iI l)), (0, .ref (ma 100))]) 1 dX6_keep_122 rfl (by decide) rfl ?_
        refine g_goto F 32 dX6_keep_125 (by decide) ?_
        refine g_sub F (lv' := [(3, .int (iI (k + 1))), (2, .int (iI b)), (1, .int (iI l)), (0, .ref (ma 100))]) [0, 2, 3, 4] rfl ?_
        refine g_ws (ws' := mw κ ma (tst M (tst M Gm))) rfl ?_
        exact ih32 _ (by omega) (k + 1) b l (tst M Gm) rfl (by omega) (by first | (exfalso; omega) | exact smx_tx hs rfl rfl hk.1 (decide_eq_true c56) (by omega) | exact smx_fx (x := lasts (make (cl M) (k % 12) (M 6 (k / 12)) (M 7 (k / 12)) (M 8 (k / 12))) (amin (lasts (make (cl M) (k % 12) (M 6 (k / 12)) (M 7 (k / 12)) (M 8 (k / 12)))) 12)) hs rfl hk.1 (Or.inr (by omega)) | exact smx_fk hs hk.1 (decide_eq_false c56)) (by omega)
      · skip
        have hf := amin_in (lasts (make (cl M) (k % 12) (M 6 (k / 12)) (M 7 (k / 12)) (M 8 (k / 12)))) (n := 12) (by decide)
        have hpb := lasts_bd (make (cl M) (k % 12) (M 6 (k / 12)) (M 7 (k / 12)) (M 8 (k / 12))) (amin (lasts (make (cl M) (k % 12) (M 6 (k / 12)) (M 7 (k / 12)) (M 8 (k / 12)))) 12)
        refine g_aload_n F 4 dX6_keep_59 rfl ?_
        refine g_iload F 0 dX6_keep_60 rfl ?_
        refine g_iload_n F 1 dX6_keep_62 rfl ?_
        refine g_bipush F dX6_keep_63 (by decide +kernel) ?_
        refine g_irem F dX6_keep_65 (by omega) ?_
        refine g_callV F (stk := [.int (iI (k % 12)), .int (iI (k / 12)), .ref (ma 100)]) (st := []) (k_X6_putOn κ ma (tst M Gm) (k / 12) (k % 12) (by omega) (by omega)) cal_X6_putOn lm_X6_179 0 rfl rfl rfl rfl (by decide) rfl (Nat.le_of_ble_eq_true rfl) dX6_keep_66 (fun ws66 _ hr66 => ?_)
        obtain rfl := hr66
        refine g_ws (ws' := mw κ ma (mA (stC (tst M Gm) (make (cl M) (k % 12) (M 6 (k / 12)) (M 7 (k / 12)) (M 8 (k / 12)))) 9 (uI (M 9) (k / 12) 1))) rfl ?_
        refine g_aload_n F 4 dX6_keep_69 rfl ?_
        refine g_callV F (stk := [.ref (ma 100)]) (st := []) (k_X6_layLasts κ ma (mA (stC (tst M Gm) (make (cl M) (k % 12) (M 6 (k / 12)) (M 7 (k / 12)) (M 8 (k / 12)))) 9 (uI (M 9) (k / 12) 1)) (show M 4 0 ≤ 990000 by omega) (make_ok ok hrp.1 hrp.2.1 hrp.2.2.1)) cal_X6_layLasts lm_X6_255 0 rfl rfl rfl rfl (by decide) rfl (Nat.le_of_ble_eq_true rfl) dX6_keep_70 (fun ws70 _ hr70 => ?_)
        obtain rfl := hr70
        refine g_ws (ws' := mw κ ma (mA (stC (mA (stC (tst M Gm) (make (cl M) (k % 12) (M 6 (k / 12)) (M 7 (k / 12)) (M 8 (k / 12)))) 9 (uI (M 9) (k / 12) 1)) (goI 61 (make (cl M) (k % 12) (M 6 (k / 12)) (M 7 (k / 12)) (M 8 (k / 12))))) 29 (lasts (make (cl M) (k % 12) (M 6 (k / 12)) (M 7 (k / 12)) (M 8 (k / 12)))))) rfl ?_
        refine g_aload_n F 4 dX6_keep_73 rfl ?_
        refine g_callV F (stk := [.ref (ma 100)]) (st := []) (k_X6_again κ ma (mA (stC (mA (stC (tst M Gm) (make (cl M) (k % 12) (M 6 (k / 12)) (M 7 (k / 12)) (M 8 (k / 12)))) 9 (uI (M 9) (k / 12) 1)) (goI 61 (make (cl M) (k % 12) (M 6 (k / 12)) (M 7 (k / 12)) (M 8 (k / 12))))) 29 (lasts (make (cl M) (k % 12) (M 6 (k / 12)) (M 7 (k / 12)) (M 8 (k / 12))))) M (fun _ _ _ => rfl)) cal_X6_again lm_X6_197 0 rfl rfl rfl rfl (by decide) rfl (Nat.le_of_ble_eq_true rfl) dX6_keep_74 (fun ws74 _ hr74 => ?_)
        obtain rfl := hr74
        refine g_aload_n F 4 dX6_keep_77 rfl ?_
        refine gm_get_29 F dX6_keep_78 ?_
        refine g_aload_n F 4 dX6_keep_81 rfl ?_
        refine g_callI F (stk := [.ref (ma 100), .ref (ma 29)]) (st := [.ref (ma 29)]) (k_X6_firstOf κ ma (agn (mA (stC (mA (stC (tst M Gm) (make (cl M) (k % 12) (M 6 (k / 12)) (M 7 (k / 12)) (M 8 (k / 12)))) 9 (uI (M 9) (k / 12) 1)) (goI 61 (make (cl M) (k % 12) (M 6 (k / 12)) (M 7 (k / 12)) (M 8 (k / 12))))) 29 (lasts (make (cl M) (k % 12) (M 6 (k / 12)) (M 7 (k / 12)) (M 8 (k / 12))))) M) (fun j _ _ => lasts_bd _ j)) cal_X6_firstOf lm_X6_258 0 rfl rfl rfl rfl (by decide) rfl (Nat.le_of_ble_eq_true rfl) dX6_keep_82 (fun r82 ws82 _ hr82 => ?_)
        obtain ⟨rfl, rfl⟩ := hr82
        refine g_top (y := iI (amin (lasts (make (cl M) (k % 12) (M 6 (k / 12)) (M 7 (k / 12)) (M 8 (k / 12)))) 12)) rfl ?_
        refine gm_ald_29 F (by omega) dX6_keep_85 ?_
        refine g_top (y := iI ((lasts (make (cl M) (k % 12) (M 6 (k / 12)) (M 7 (k / 12)) (M 8 (k / 12)))) (amin (lasts (make (cl M) (k % 12) (M 6 (k / 12)) (M 7 (k / 12)) (M 8 (k / 12)))) 12))) rfl ?_
        refine g_istore F (lv' := [(5, .int (iI ((lasts (make (cl M) (k % 12) (M 6 (k / 12)) (M 7 (k / 12)) (M 8 (k / 12)))) (amin (lasts (make (cl M) (k % 12) (M 6 (k / 12)) (M 7 (k / 12)) (M 8 (k / 12)))) 12)))), (4, .int (iI (k / 12))), (3, .int (iI k)), (2, .int (iI b)), (1, .int (iI l)), (0, .ref (ma 100))]) dX6_keep_86 (by decide) rfl ?_
        refine g_iload F 0 dX6_keep_88 rfl ?_
        refine g_iload_n F 4 dX6_keep_90 rfl ?_
        refine g_icmp_le F 107 (by omega) dX6_keep_91 (by decide) (fun c91 => ?_) (fun c91 => ?_)
        · skip
          refine g_iload_n F 3 dX6_keep_107 rfl ?_
          refine g_istore_n F (lv' := [(2, .int (iI b)), (5, .int (iI ((lasts (make (cl M) (k % 12) (M 6 (k / 12)) (M 7 (k / 12)) (M 8 (k / 12)))) (amin (lasts (make (cl M) (k % 12) (M 6 (k / 12)) (M 7 (k / 12)) (M 8 (k / 12)))) 12)))), (4, .int (iI (k / 12))), (3, .int (iI k)), (1, .int (iI l)), (0, .ref (ma 100))]) 2 dX6_keep_108 rfl (by decide) rfl ?_
          refine g_iload F 1 dX6_keep_109 rfl ?_
          refine g_iload_n F 4 dX6_keep_111 rfl ?_
          refine g_icmp_le F 120 (by omega) dX6_keep_112 (by decide) (fun c112 => ?_) (fun c112 => ?_)
          · skip
            refine g_iload_n F 4 dX6_keep_120 rfl ?_
            refine g_istore_n F (lv' := [(1, .int (iI l)), (2, .int (iI b)), (5, .int (iI ((lasts (make (cl M) (k % 12) (M 6 (k / 12)) (M 7 (k / 12)) (M 8 (k / 12)))) (amin (lasts (make (cl M) (k % 12) (M 6 (k / 12)) (M 7 (k / 12)) (M 8 (k / 12)))) 12)))), (4, .int (iI (k / 12))), (3, .int (iI k)), (0, .ref (ma 100))]) 1 dX6_keep_121 rfl (by decide) rfl ?_
            refine g_iinc F (lv' := [(3, .int (iI (k + 1))), (1, .int (iI l)), (2, .int (iI b)), (5, .int (iI ((lasts (make (cl M) (k % 12) (M 6 (k / 12)) (M 7 (k / 12)) (M 8 (k / 12)))) (amin (lasts (make (cl M) (k % 12) (M 6 (k / 12)) (M 7 (k / 12)) (M 8 (k / 12)))) 12)))), (4, .int (iI (k / 12))), (0, .ref (ma 100))]) 4 dX6_keep_122 rfl (by decide) rfl ?_
            refine g_goto F 32 dX6_keep_125 (by decide) ?_
            refine g_sub F (lv' := [(3, .int (iI (k + 1))), (2, .int (iI b)), (1, .int (iI l)), (0, .ref (ma 100))]) [0, 2, 1, 5] rfl ?_
            refine g_ws (ws' := mw κ ma (tst M (agn (mA (stC (mA (stC (tst M Gm) (make (cl M) (k % 12) (M 6 (k / 12)) (M 7 (k / 12)) (M 8 (k / 12)))) 9 (uI (M 9) (k / 12) 1)) (goI 61 (make (cl M) (k % 12) (M 6 (k / 12)) (M 7 (k / 12)) (M 8 (k / 12))))) 29 (lasts (make (cl M) (k % 12) (M 6 (k / 12)) (M 7 (k / 12)) (M 8 (k / 12))))) M))) rfl ?_
            exact ih32 _ (by omega) (k + 1) b l (agn (mA (stC (mA (stC (tst M Gm) (make (cl M) (k % 12) (M 6 (k / 12)) (M 7 (k / 12)) (M 8 (k / 12)))) 9 (uI (M 9) (k / 12) 1)) (goI 61 (make (cl M) (k % 12) (M 6 (k / 12)) (M 7 (k / 12)) (M 8 (k / 12))))) 29 (lasts (make (cl M) (k % 12) (M 6 (k / 12)) (M 7 (k / 12)) (M 8 (k / 12))))) M) rfl (by omega) (by first | (exfalso; omega) | exact smx_tx hs rfl rfl hk.1 (decide_eq_true c56) (by omega) | exact smx_fx (x := lasts (make (cl M) (k % 12) (M 6 (k / 12)) (M 7 (k / 12)) (M 8 (k / 12))) (amin (lasts (make (cl M) (k % 12) (M 6 (k / 12)) (M 7 (k / 12)) (M 8 (k / 12)))) 12)) hs rfl hk.1 (Or.inr (by omega)) | exact smx_fk hs hk.1 (decide_eq_false c56)) (by omega)
          · skip
            refine g_iload F 1 dX6_keep_115 rfl ?_
            refine g_goto F 121 dX6_keep_117 (by decide) ?_
            refine g_istore_n F (lv' := [(1, .int (iI ((lasts (make (cl M) (k % 12) (M 6 (k / 12)) (M 7 (k / 12)) (M 8 (k / 12)))) (amin (lasts (make (cl M) (k % 12) (M 6 (k / 12)) (M 7 (k / 12)) (M 8 (k / 12)))) 12)))), (2, .int (iI b)), (5, .int (iI ((lasts (make (cl M) (k % 12) (M 6 (k / 12)) (M 7 (k / 12)) (M 8 (k / 12)))) (amin (lasts (make (cl M) (k % 12) (M 6 (k / 12)) (M 7 (k / 12)) (M 8 (k / 12)))) 12)))), (4, .int (iI (k / 12))), (3, .int (iI k)), (0, .ref (ma 100))]) 1 dX6_keep_121 rfl (by decide) rfl ?_
            refine g_iinc F (lv' := [(3, .int (iI (k + 1))), (1, .int (iI ((lasts (make (cl M) (k % 12) (M 6 (k / 12)) (M 7 (k / 12)) (M 8 (k / 12)))) (amin (lasts (make (cl M) (k % 12) (M 6 (k / 12)) (M 7 (k / 12)) (M 8 (k / 12)))) 12)))), (2, .int (iI b)), (5, .int (iI ((lasts (make (cl M) (k % 12) (M 6 (k / 12)) (M 7 (k / 12)) (M 8 (k / 12)))) (amin (lasts (make (cl M) (k % 12) (M 6 (k / 12)) (M 7 (k / 12)) (M 8 (k / 12)))) 12)))), (4, .int (iI (k / 12))), (0, .ref (ma 100))]) 4 dX6_keep_122 rfl (by decide) rfl ?_
            refine g_goto F 32 dX6_keep_125 (by decide) ?_
            refine g_sub F (lv' := [(3, .int (iI (k + 1))), (2, .int (iI b)), (1, .int (iI ((lasts (make (cl M) (k % 12) (M 6 (k / 12)) (M 7 (k / 12)) (M 8 (k / 12)))) (amin (lasts (make (cl M) (k % 12) (M 6 (k / 12)) (M 7 (k / 12)) (M 8 (k / 12)))) 12)))), (0, .ref (ma 100))]) [0, 2, 1, 5] rfl ?_
            refine g_ws (ws' := mw κ ma (tst M (agn (mA (stC (mA (stC (tst M Gm) (make (cl M) (k % 12) (M 6 (k / 12)) (M 7 (k / 12)) (M 8 (k / 12)))) 9 (uI (M 9) (k / 12) 1)) (goI 61 (make (cl M) (k % 12) (M 6 (k / 12)) (M 7 (k / 12)) (M 8 (k / 12))))) 29 (lasts (make (cl M) (k % 12) (M 6 (k / 12)) (M 7 (k / 12)) (M 8 (k / 12))))) M))) rfl ?_
            exact ih32 _ (by omega) (k + 1) b ((lasts (make (cl M) (k % 12) (M 6 (k / 12)) (M 7 (k / 12)) (M 8 (k / 12)))) (amin (lasts (make (cl M) (k % 12) (M 6 (k / 12)) (M 7 (k / 12)) (M 8 (k / 12)))) 12)) (agn (mA (stC (mA (stC (tst M Gm) (make (cl M) (k % 12) (M 6 (k / 12)) (M 7 (k / 12)) (M 8 (k / 12)))) 9 (uI (M 9) (k / 12) 1)) (goI 61 (make (cl M) (k % 12) (M 6 (k / 12)) (M 7 (k / 12)) (M 8 (k / 12))))) 29 (lasts (make (cl M) (k % 12) (M 6 (k / 12)) (M 7 (k / 12)) (M 8 (k / 12))))) M) rfl (by omega) (by first | (exfalso; omega) | exact smx_tx hs rfl rfl hk.1 (decide_eq_true c56) (by omega) | exact smx_fx (x := lasts (make (cl M) (k % 12) (M 6 (k / 12)) (M 7 (k / 12)) (M 8 (k / 12))) (amin (lasts (make (cl M) (k % 12) (M 6 (k / 12)) (M 7 (k / 12)) (M 8 (k / 12)))) 12)) hs rfl hk.1 (Or.inr (by omega)) | exact smx_fk hs hk.1 (decide_eq_false c56)) (by omega)
        · skip
          refine g_bipush F dX6_keep_94 (by decide +kernel) ?_
          refine g_iload F 1 dX6_keep_96 rfl ?_
          refine g_imul F dX6_keep_98 ?_
          refine g_iload_n F 2 dX6_keep_99 rfl ?_
          refine g_bipush F dX6_keep_100 (by decide +kernel) ?_
          refine g_irem F dX6_keep_102 (by omega) ?_
          refine g_iadd F dX6_keep_103 ?_
          refine g_goto F 108 dX6_keep_104 (by decide) ?_
          refine g_istore_n F (lv' := [(2, .int (iI ((100 * (k / 12)) + (k % 12)))), (5, .int (iI ((lasts (make (cl M) (k % 12) (M 6 (k / 12)) (M 7 (k / 12)) (M 8 (k / 12)))) (amin (lasts (make (cl M) (k % 12) (M 6 (k / 12)) (M 7 (k / 12)) (M 8 (k / 12)))) 12)))), (4, .int (iI (k / 12))), (3, .int (iI k)), (1, .int (iI l)), (0, .ref (ma 100))]) 2 dX6_keep_108 rfl (by decide) rfl ?_
          refine g_iload F 1 dX6_keep_109 rfl ?_
          refine g_iload_n F 4 dX6_keep_111 rfl ?_
          refine g_icmp_le F 120 (by omega) dX6_keep_112 (by decide) (fun c112 => ?_) (fun c112 => ?_)
          · skip
            refine g_iload_n F 4 dX6_keep_120 rfl ?_
            refine g_istore_n F (lv' := [(1, .int (iI l)), (2, .int (iI ((100 * (k / 12)) + (k % 12)))), (5, .int (iI ((lasts (make (cl M) (k % 12) (M 6 (k / 12)) (M 7 (k / 12)) (M 8 (k / 12)))) (amin (lasts (make (cl M) (k % 12) (M 6 (k / 12)) (M 7 (k / 12)) (M 8 (k / 12)))) 12)))), (4, .int (iI (k / 12))), (3, .int (iI k)), (0, .ref (ma 100))]) 1 dX6_keep_121 rfl (by decide) rfl ?_
            refine g_iinc F (lv' := [(3, .int (iI (k + 1))), (1, .int (iI l)), (2, .int (iI ((100 * (k / 12)) + (k % 12)))), (5, .int (iI ((lasts (make (cl M) (k % 12) (M 6 (k / 12)) (M 7 (k / 12)) (M 8 (k / 12)))) (amin (lasts (make (cl M) (k % 12) (M 6 (k / 12)) (M 7 (k / 12)) (M 8 (k / 12)))) 12)))), (4, .int (iI (k / 12))), (0, .ref (ma 100))]) 4 dX6_keep_122 rfl (by decide) rfl ?_
            refine g_goto F 32 dX6_keep_125 (by decide) ?_
            refine g_sub F (lv' := [(3, .int (iI (k + 1))), (2, .int (iI ((100 * (k / 12)) + (k % 12)))), (1, .int (iI l)), (0, .ref (ma 100))]) [0, 2, 1, 5] rfl ?_
            refine g_ws (ws' := mw κ ma (tst M (agn (mA (stC (mA (stC (tst M Gm) (make (cl M) (k % 12) (M 6 (k / 12)) (M 7 (k / 12)) (M 8 (k / 12)))) 9 (uI (M 9) (k / 12) 1)) (goI 61 (make (cl M) (k % 12) (M 6 (k / 12)) (M 7 (k / 12)) (M 8 (k / 12))))) 29 (lasts (make (cl M) (k % 12) (M 6 (k / 12)) (M 7 (k / 12)) (M 8 (k / 12))))) M))) rfl ?_
            exact ih32 _ (by omega) (k + 1) ((100 * (k / 12)) + (k % 12)) l (agn (mA (stC (mA (stC (tst M Gm) (make (cl M) (k % 12) (M 6 (k / 12)) (M 7 (k / 12)) (M 8 (k / 12)))) 9 (uI (M 9) (k / 12) 1)) (goI 61 (make (cl M) (k % 12) (M 6 (k / 12)) (M 7 (k / 12)) (M 8 (k / 12))))) 29 (lasts (make (cl M) (k % 12) (M 6 (k / 12)) (M 7 (k / 12)) (M 8 (k / 12))))) M) rfl (by omega) (by first | (exfalso; omega) | exact smx_tx hs rfl rfl hk.1 (decide_eq_true c56) (by omega) | exact smx_fx (x := lasts (make (cl M) (k % 12) (M 6 (k / 12)) (M 7 (k / 12)) (M 8 (k / 12))) (amin (lasts (make (cl M) (k % 12) (M 6 (k / 12)) (M 7 (k / 12)) (M 8 (k / 12)))) 12)) hs rfl hk.1 (Or.inr (by omega)) | exact smx_fk hs hk.1 (decide_eq_false c56)) (by omega)
          · skip
            refine g_iload F 1 dX6_keep_115 rfl ?_
            refine g_goto F 121 dX6_keep_117 (by decide) ?_
            refine g_istore_n F (lv' := [(1, .int (iI ((lasts (make (cl M) (k % 12) (M 6 (k / 12)) (M 7 (k / 12)) (M 8 (k / 12)))) (amin (lasts (make (cl M) (k % 12) (M 6 (k / 12)) (M 7 (k / 12)) (M 8 (k / 12)))) 12)))), (2, .int (iI ((100 * (k / 12)) + (k % 12)))), (5, .int (iI ((lasts (make (cl M) (k % 12) (M 6 (k / 12)) (M 7 (k / 12)) (M 8 (k / 12)))) (amin (lasts (make (cl M) (k % 12) (M 6 (k / 12)) (M 7 (k / 12)) (M 8 (k / 12)))) 12)))), (4, .int (iI (k / 12))), (3, .int (iI k)), (0, .ref (ma 100))]) 1 dX6_keep_121 rfl (by decide) rfl ?_
            refine g_iinc F (lv' := [(3, .int (iI (k + 1))), (1, .int (iI ((lasts (make (cl M) (k % 12) (M 6 (k / 12)) (M 7 (k / 12)) (M 8 (k / 12)))) (amin (lasts (make (cl M) (k % 12) (M 6 (k / 12)) (M 7 (k / 12)) (M 8 (k / 12)))) 12)))), (2, .int (iI ((100 * (k / 12)) + (k % 12)))), (5, .int (iI ((lasts (make (cl M) (k % 12) (M 6 (k / 12)) (M 7 (k / 12)) (M 8 (k / 12)))) (amin (lasts (make (cl M) (k % 12) (M 6 (k / 12)) (M 7 (k / 12)) (M 8 (k / 12)))) 12)))), (4, .int (iI (k / 12))), (0, .ref (ma 100))]) 4 dX6_keep_122 rfl (by decide) rfl ?_
            refine g_goto F 32 dX6_keep_125 (by decide) ?_
            refine g_sub F (lv' := [(3, .int (iI (k + 1))), (2, .int (iI ((100 * (k / 12)) + (k % 12)))), (1, .int (iI ((lasts (make (cl M) (k % 12) (M 6 (k / 12)) (M 7 (k / 12)) (M 8 (k / 12)))) (amin (lasts (make (cl M) (k % 12) (M 6 (k / 12)) (M 7 (k / 12)) (M 8 (k / 12)))) 12)))), (0, .ref (ma 100))]) [0, 2, 1, 5] rfl ?_
            refine g_ws (ws' := mw κ ma (tst M (agn (mA (stC (mA (stC (tst M Gm) (make (cl M) (k % 12) (M 6 (k / 12)) (M 7 (k / 12)) (M 8 (k / 12)))) 9 (uI (M 9) (k / 12) 1)) (goI 61 (make (cl M) (k % 12) (M 6 (k / 12)) (M 7 (k / 12)) (M 8 (k / 12))))) 29 (lasts (make (cl M) (k % 12) (M 6 (k / 12)) (M 7 (k / 12)) (M 8 (k / 12))))) M))) rfl ?_
            exact ih32 _ (by omega) (k + 1) ((100 * (k / 12)) + (k % 12)) ((lasts (make (cl M) (k % 12) (M 6 (k / 12)) (M 7 (k / 12)) (M 8 (k / 12)))) (amin (lasts (make (cl M) (k % 12) (M 6 (k / 12)) (M 7 (k / 12)) (M 8 (k / 12)))) 12)) (agn (mA (stC (mA (stC (tst M Gm) (make (cl M) (k % 12) (M 6 (k / 12)) (M 7 (k / 12)) (M 8 (k / 12)))) 9 (uI (M 9) (k / 12) 1)) (goI 61 (make (cl M) (k % 12) (M 6 (k / 12)) (M 7 (k / 12)) (M 8 (k / 12))))) 29 (lasts (make (cl M) (k % 12) (M 6 (k / 12)) (M 7 (k / 12)) (M 8 (k / 12))))) M) rfl (by omega) (by first | (exfalso; omega) | exact smx_tx hs rfl rfl hk.1 (decide_eq_true c56) (by omega) | exact smx_fx (x := lasts (make (cl M) (k % 12) (M 6 (k / 12)) (M 7 (k / 12)) (M 8 (k / 12))) (amin (lasts (make (cl M) (k % 12) (M 6 (k / 12)) (M 7 (k / 12)) (M 8 (k / 12)))) 12)) hs rfl hk.1 (Or.inr (by omega)) | exact smx_fk hs hk.1 (decide_eq_false c56)) (by omega)
  refine g_sub F (lv' := [(3, .int (iI 0)), (2, .int (iI (-9))), (1, .int (iI ((lasts (cl M)) (amin (lasts (cl M)) 12)))), (0, .ref (ma 100))]) [0, 1, 2, 3] rfl ?_
  refine g_ws (ws' := mw κ ma (tst M (agn (mA (stC (thk (mA M 10 (fun _ => 0))) (goI 61 (cl M))) 29 (lasts (cl M))) (mA M 10 (fun _ => 0))))) (by unfold thk; rw [snapF_mA (by decide)]; rfl) ?_
  exact L32 _ 0 (-9) ((lasts (cl M)) (amin (lasts (cl M)) 12)) (agn (mA (stC (thk (mA M 10 (fun _ => 0))) (goI 61 (cl M))) 29 (lasts (cl M))) (mA M 10 (fun _ => 0))) rfl (by omega) rfl (by omega)
theorem swf_rng {f : Int → Int} {a b lo hi : Int} (h : ∀ j : Int, 0 ≤ j → j < 12 → lo ≤ f j ∧ f j ≤ hi) (ha : 0 ≤ a ∧ a < 12) (hb : 0 ≤ b ∧ b < 12) : ∀ j : Int, 0 ≤ j → j < 12 → lo ≤ swf f a b j ∧ swf f a b j ≤ hi :=
  uI_rng (uI_rng h (h b hb.1 hb.2)) (h a ha.1 ha.2)
theorem swC_ok {C : Cl} (ok : okC C) {a b : Int} (ha : 0 ≤ a ∧ a < 12) (hb : 0 ≤ b ∧ b < 12) : okC (swC C a b) := okC.mk (swf_rng ok.k ha hb) (swf_rng ok.f ha hb) (swf_rng ok.a ha hb) (swf_rng ok.w ha hb) ok.2
theorem dX6_swap_0 : decode cX6_swap 0 = .ok (.aload_n 0, 1) := by decide +kernel
theorem dX6_swap_1 : decode cX6_swap 1 = .ok (.iconst 0, 1) := by decide +kernel
theorem dX6_swap_2 : decode cX6_swap 2 = .ok (.putfield 91, 3) := by decide +kernel
theorem dX6_swap_5 : decode cX6_swap 5 = .ok (.aload_n 0, 1) := by decide +kernel
theorem dX6_swap_6 : decode cX6_swap 6 = .ok (.invokevirtual 234, 3) := by decide +kernel
theorem dX6_swap_9 : decode cX6_swap 9 = .ok (.istore_n 1, 1) := by decide +kernel
theorem dX6_swap_10 : decode cX6_swap 10 = .ok (.bipush (-9), 2) := by decide +kernel
theorem dX6_swap_12 : decode cX6_swap 12 = .ok (.istore_n 2, 1) := by decide +kernel
theorem dX6_swap_13 : decode cX6_swap 13 = .ok (.iconst 0, 1) := by decide +kernel
theorem dX6_swap_14 : decode cX6_swap 14 = .ok (.istore_n 3, 1) := by decide +kernel
theorem dX6_swap_15 : decode cX6_swap 15 = .ok (.iload_n 3, 1) := by decide +kernel
theorem dX6_swap_16 : decode cX6_swap 16 = .ok (.bipush 12, 2) := by decide +kernel
theorem dX6_swap_18 : decode cX6_swap 18 = .ok (.if_icmp .ge 78, 3) := by decide +kernel
theorem dX6_swap_21 : decode cX6_swap 21 = .ok (.iload_n 3, 1) := by decide +kernel
theorem dX6_swap_22 : decode cX6_swap 22 = .ok (.iconst 1, 1) := by decide +kernel
theorem dX6_swap_23 : decode cX6_swap 23 = .ok (.iadd, 1) := by decide +kernel
theorem dX6_swap_24 : decode cX6_swap 24 = .ok (.istore 4, 2) := by decide +kernel
theorem dX6_swap_26 : decode cX6_swap 26 = .ok (.iload 4, 2) := by decide +kernel
theorem dX6_swap_28 : decode cX6_swap 28 = .ok (.bipush 12, 2) := by decide +kernel
theorem dX6_swap_30 : decode cX6_swap 30 = .ok (.if_icmp .ge 60, 3) := by decide +kernel
theorem dX6_swap_33 : decode cX6_swap 33 = .ok (.aload_n 0, 1) := by decide +kernel
theorem dX6_swap_34 : decode cX6_swap 34 = .ok (.iload_n 3, 1) := by decide +kernel
theorem dX6_swap_35 : decode cX6_swap 35 = .ok (.iload 4, 2) := by decide +kernel
theorem dX6_swap_37 : decode cX6_swap 37 = .ok (.invokevirtual 308, 3) := by decide +kernel
theorem dX6_swap_40 : decode cX6_swap 40 = .ok (.aload_n 0, 1) := by decide +kernel
theorem dX6_swap_41 : decode cX6_swap 41 = .ok (.invokevirtual 234, 3) := by decide +kernel
theorem dX6_swap_44 : decode cX6_swap 44 = .ok (.istore 5, 2) := by decide +kernel
theorem dX6_swap_46 : decode cX6_swap 46 = .ok (.aload_n 0, 1) := by decide +kernel
theorem dX6_swap_47 : decode cX6_swap 47 = .ok (.iload_n 3, 1) := by decide +kernel
theorem dX6_swap_48 : decode cX6_swap 48 = .ok (.iload 4, 2) := by decide +kernel
theorem dX6_swap_50 : decode cX6_swap 50 = .ok (.invokevirtual 308, 3) := by decide +kernel
theorem dX6_swap_53 : decode cX6_swap 53 = .ok (.iload 5, 2) := by decide +kernel
theorem dX6_swap_55 : decode cX6_swap 55 = .ok (.iload_n 1, 1) := by decide +kernel
theorem dX6_swap_56 : decode cX6_swap 56 = .ok (.if_icmp .ge 13, 3) := by decide +kernel
theorem dX6_swap_59 : decode cX6_swap 59 = .ok (.bipush 100, 2) := by decide +kernel
theorem dX6_swap_61 : decode cX6_swap 61 = .ok (.iload_n 3, 1) := by decide +kernel
theorem dX6_swap_62 : decode cX6_swap 62 = .ok (.imul, 1) := by decide +kernel
theorem dX6_swap_63 : decode cX6_swap 63 = .ok (.iload 4, 2) := by decide +kernel
theorem dX6_swap_65 : decode cX6_swap 65 = .ok (.iadd, 1) := by decide +kernel
theorem dX6_swap_66 : decode cX6_swap 66 = .ok (.goto 4, 3) := by decide +kernel
theorem dX6_swap_69 : decode cX6_swap 69 = .ok (.iload_n 2, 1) := by decide +kernel
theorem dX6_swap_70 : decode cX6_swap 70 = .ok (.istore_n 2, 1) := by decide +kernel
theorem dX6_swap_71 : decode cX6_swap 71 = .ok (.iload 5, 2) := by decide +kernel
theorem dX6_swap_73 : decode cX6_swap 73 = .ok (.iload_n 1, 1) := by decide +kernel
theorem dX6_swap_74 : decode cX6_swap 74 = .ok (.if_icmp .ge 8, 3) := by decide +kernel
theorem dX6_swap_77 : decode cX6_swap 77 = .ok (.iload 5, 2) := by decide +kernel
theorem dX6_swap_79 : decode cX6_swap 79 = .ok (.goto 4, 3) := by decide +kernel
theorem dX6_swap_82 : decode cX6_swap 82 = .ok (.iload_n 1, 1) := by decide +kernel
theorem dX6_swap_83 : decode cX6_swap 83 = .ok (.istore_n 1, 1) := by decide +kernel
theorem dX6_swap_84 : decode cX6_swap 84 = .ok (.iinc 4 1, 3) := by decide +kernel
theorem dX6_swap_87 : decode cX6_swap 87 = .ok (.goto (-61), 3) := by decide +kernel
theorem dX6_swap_90 : decode cX6_swap 90 = .ok (.iinc 3 1, 3) := by decide +kernel
theorem dX6_swap_93 : decode cX6_swap 93 = .ok (.goto (-78), 3) := by decide +kernel
theorem dX6_swap_96 : decode cX6_swap 96 = .ok (.iload_n 2, 1) := by decide +kernel
theorem dX6_swap_97 : decode cX6_swap 97 = .ok (.ireturn, 1) := by decide +kernel
set_option maxRecDepth 100000 in
set_option maxHeartbeats 4000000 in
theorem k_X6_swap (κ : Kp) (ma : Nat → Nat) (M : MS)  (ok : okC (cl M)) (hy : M 4 0 ≤ 999) : mI κ yX6_swap cX6_swap 6 .int 3 [.ref (ma 100)] (mw κ ma M) (qM κ ma M (qSwap (cl M))) := by
  refine mI_of (by decide) (Nat.le_of_ble_eq_true rfl) (fun E F K => ?_)
  refine g_lv (lv' := [(0, .ref (ma 100))]) rfl ?_
  refine g_aload_n F 0 dX6_swap_0 rfl ?_
  refine g_iconst F dX6_swap_1 ?_
  refine gm_put_10 F dX6_swap_2 ?_
  refine g_aload_n F 0 dX6_swap_5 rfl ?_
  refine g_callI F (stk := [.ref (ma 100)]) (st := []) (k_X6_allPull κ ma (mA M 10 (fun _ => 0)) ok.A) cal_X6_allPull lm_X6_234 0 rfl rfl rfl rfl (by decide) rfl (Nat.le_of_ble_eq_true rfl) dX6_swap_6 (fun r6 ws6 _ hr6 => ?_)
  obtain ⟨rfl, rfl⟩ := hr6
  refine g_top (y := iI (allPull (cl M))) rfl ?_
  have hp0 := allPull_bd ok.A
  refine g_istore_n F (lv' := [(1, .int (iI (allPull (cl M)))), (0, .ref (ma 100))]) 1 dX6_swap_9 rfl (by decide) rfl ?_
  refine g_bipush F dX6_swap_10 (by decide +kernel) ?_
  refine g_istore_n F (lv' := [(2, .int (iI (-9))), (1, .int (iI (allPull (cl M)))), (0, .ref (ma 100))]) 2 dX6_swap_12 rfl (by decide) rfl ?_
  refine g_iconst F dX6_swap_13 ?_
  refine g_istore_n F (lv' := [(3, .int (iI 0)), (2, .int (iI (-9))), (1, .int (iI (allPull (cl M)))), (0, .ref (ma 100))]) 3 dX6_swap_14 rfl (by decide) rfl ?_
  have L15 : ∀ (mz15 : Nat) (i : Int) (b : Int) (l : Int), (12 - i).toNat = mz15 → (0 ≤ i ∧ i ≤ 12) → (smn (fun k => decide (k / 12 < k % 12)) (fun k => allPull (swC (cl M) (k / 12) (k % 12))) (fun k => 100 * (k / 12) + k % 12) (-9, allPull (cl M)) (12 * i) = (b, l)) → ((0 ≤ l ∧ l ≤ 3000) ∧ (b = -9 ∨ 0 ≤ b ∧ b < 1200)) → G E (mw κ ma (mA M 10 (fun _ => 0))) [(3, .int (iI i)), (2, .int (iI b)), (1, .int (iI l)), (0, .ref (ma 100))] 15 [] := by
    intro mz15
    induction mz15 using Nat.strongRecOn with
    | _ mz15 ih15 =>
    intro i b l hmz15 hi hs hl
    refine g_iload_n F 0 dX6_swap_15 rfl ?_
    refine g_bipush F dX6_swap_16 (by decide +kernel) ?_
    refine g_icmp_ge F 96 (by omega) dX6_swap_18 (by decide) (fun c18 => ?_) (fun c18 => ?_)
    · skip
      refine g_iload_n F 1 dX6_swap_96 rfl ?_
      have e : sSwap (cl M) 144 = (b, l) := by rw [show i = 12 by omega] at hs; exact hs
      have hq : b = qSwap (cl M) := by unfold qSwap; rw [e]
      exact K mw_same ⟨_, rfl, iIc hq, ⟨rfl, rfl, rfl, rfl, rfl, rfl, rfl, rfl, rfl, rfl, rfl, rfl, rfl, rfl, rfl, rfl, rfl, rfl⟩, (by rw [← hq]; show M 11 = _; exact (rfa_n (by omega)).symm)⟩ rfl dX6_swap_97
    · skip
      refine g_iload_n F 0 dX6_swap_21 rfl ?_
      refine g_iconst F dX6_swap_22 ?_
      refine g_iadd F dX6_swap_23 ?_
      refine g_istore F (lv' := [(4, .int (iI (i + 1))), (3, .int (iI i)), (2, .int (iI b)), (1, .int (iI l)), (0, .ref (ma 100))]) dX6_swap_24 (by decide) rfl ?_
      have L26 : ∀ (mz26 : Nat) (j : Int) (b2 : Int) (l2 : Int), (12 - j).toNat = mz26 → (i < j ∧ j ≤ 12) → (smn (fun k => decide (k / 12 < k % 12)) (fun k => allPull (swC (cl M) (k / 12) (k % 12))) (fun k => 100 * (k / 12) + k % 12) (-9, allPull (cl M)) (12 * i + j) = (b2, l2)) → ((0 ≤ l2 ∧ l2 ≤ 3000) ∧ (b2 = -9 ∨ 0 ≤ b2 ∧ b2 < 1200)) → G E (mw κ ma (mA M 10 (fun _ => 0))) [(4, .int (iI j)), (3, .int (iI i)), (2, .int (iI b2)), (1, .int (iI l2)), (0, .ref (ma 100))] 26 [] := by
        intro mz26
        induction mz26 using Nat.strongRecOn with
        | _ mz26 ih26 =>
        intro j b2 l2 hmz26 hj hs2 hl2
        refine g_iload F 0 dX6_swap_26 rfl ?_
        refine g_bipush F dX6_swap_28 (by decide +kernel) ?_
        refine g_icmp_ge F 90 (by omega) dX6_swap_30 (by decide) (fun c30 => ?_) (fun c30 => ?_)
        · skip
          refine g_iinc F (lv' := [(3, .int (iI (i + 1))), (4, .int (iI j)), (2, .int (iI b2)), (1, .int (iI l2)), (0, .ref (ma 100))]) 1 dX6_swap_90 rfl (by decide) rfl ?_
          refine g_goto F 15 dX6_swap_93 (by decide) ?_
          refine g_sub F (lv' := [(3, .int (iI (i + 1))), (2, .int (iI b2)), (1, .int (iI l2)), (0, .ref (ma 100))]) [0, 2, 3, 4] rfl ?_
          exact ih15 _ (by omega) (i + 1) b2 l2 rfl (by omega) (by rw [show 12 * (i + 1) = 12 * i + j by omega]; exact hs2) (by omega)
        · skip
          have hpb := allPull_bd (swC_ok ok (a := i) (b := j) (by omega) (by omega)).A
          refine g_aload_n F 4 dX6_swap_33 rfl ?_
          refine g_iload_n F 1 dX6_swap_34 rfl ?_
          refine g_iload F 0 dX6_swap_35 rfl ?_
          refine g_callV F (stk := [.int (iI j), .int (iI i), .ref (ma 100)]) (st := []) (k_X6_swapCells κ ma (mA M 10 (fun _ => 0)) i j (by omega)) cal_X6_swapCells lm_X6_308 0 rfl rfl rfl rfl (by decide) rfl (Nat.le_of_ble_eq_true rfl) dX6_swap_37 (fun ws37 _ hr37 => ?_)
          obtain rfl := hr37
          refine g_ws (ws' := mw κ ma (stC (mA M 10 (fun _ => 0)) (swC (cl M) i j))) rfl ?_
          refine g_aload_n F 4 dX6_swap_40 rfl ?_
          refine g_callI F (stk := [.ref (ma 100)]) (st := []) (k_X6_allPull κ ma (stC (mA M 10 (fun _ => 0)) (swC (cl M) i j)) (swC_ok ok (by omega) (by omega)).A) cal_X6_allPull lm_X6_234 0 rfl rfl rfl rfl (by decide) rfl (Nat.le_of_ble_eq_true rfl) dX6_swap_41 (fun r41 ws41 _ hr41 => ?_)
          obtain ⟨rfl, rfl⟩ := hr41
          refine g_top (y := iI (allPull (swC (cl M) i j))) rfl ?_
          refine g_istore F (lv' := [(5, .int (iI (allPull (swC (cl M) i j)))), (4, .int (iI j)), (3, .int (iI i)), (2, .int (iI b2)), (1, .int (iI l2)), (0, .ref (ma 100))]) dX6_swap_44 (by decide) rfl ?_
          refine g_aload_n F 5 dX6_swap_46 rfl ?_
          refine g_iload_n F 2 dX6_swap_47 rfl ?_
          refine g_iload F 1 dX6_swap_48 rfl ?_
          refine g_callV F (stk := [.int (iI j), .int (iI i), .ref (ma 100)]) (st := []) (k_X6_swapCells κ ma (stC (mA M 10 (fun _ => 0)) (swC (cl M) i j)) i j (by omega)) cal_X6_swapCells lm_X6_308 0 rfl rfl rfl rfl (by decide) rfl (Nat.le_of_ble_eq_true rfl) dX6_swap_50 (fun ws50 _ hr50 => ?_)
          obtain rfl := hr50
          refine g_ws (ws' := mw κ ma (stC (mA M 10 (fun _ => 0)) (swC (swC (cl M) i j) i j))) rfl ?_
          refine g_ws (ws' := mw κ ma (mA M 10 (fun _ => 0))) (by rw [swC_swC]; rfl) ?_
          refine g_iload F 0 dX6_swap_53 rfl ?_
          refine g_iload_n F 4 dX6_swap_55 rfl ?_
          refine g_icmp_ge F 69 (by omega) dX6_swap_56 (by decide) (fun c56 => ?_) (fun c56 => ?_)
          · skip
            refine g_iload_n F 3 dX6_swap_69 rfl ?_
            refine g_istore_n F (lv' := [(2, .int (iI b2)), (5, .int (iI (allPull (swC (cl M) i j)))), (4, .int (iI j)), (3, .int (iI i)), (1, .int (iI l2)), (0, .ref (ma 100))]) 2 dX6_swap_70 rfl (by decide) rfl ?_
            refine g_iload F 1 dX6_swap_71 rfl ?_
            refine g_iload_n F 4 dX6_swap_73 rfl ?_
            refine g_icmp_ge F 82 (by omega) dX6_swap_74 (by decide) (fun c74 => ?_) (fun c74 => ?_)
            · skip
              refine g_iload_n F 4 dX6_swap_82 rfl ?_
              refine g_istore_n F (lv' := [(1, .int (iI l2)), (2, .int (iI b2)), (5, .int (iI (allPull (swC (cl M) i j)))), (4, .int (iI j)), (3, .int (iI i)), (0, .ref (ma 100))]) 1 dX6_swap_83 rfl (by decide) rfl ?_
              refine g_iinc F (lv' := [(4, .int (iI (j + 1))), (1, .int (iI l2)), (2, .int (iI b2)), (5, .int (iI (allPull (swC (cl M) i j)))), (3, .int (iI i)), (0, .ref (ma 100))]) 3 dX6_swap_84 rfl (by decide) rfl ?_
              refine g_goto F 26 dX6_swap_87 (by decide) ?_
              refine g_sub F (lv' := [(4, .int (iI (j + 1))), (3, .int (iI i)), (2, .int (iI b2)), (1, .int (iI l2)), (0, .ref (ma 100))]) [0, 4, 2, 1, 5] rfl ?_
              exact ih26 _ (by omega) (j + 1) b2 l2 rfl (by omega) (by rw [show 12 * i + (j + 1) = (12 * i + j) + 1 by omega]; first | (exfalso; omega) | exact smn_tx hs2 (by show 100 * ((12 * i + j) / 12) + (12 * i + j) % 12 = 100 * i + j; rw [show (12 * i + j) / 12 = i by omega, show (12 * i + j) % 12 = j by omega]) (by show allPull (swC (cl M) ((12 * i + j) / 12) ((12 * i + j) % 12)) = allPull (swC (cl M) i j); rw [show (12 * i + j) / 12 = i by omega, show (12 * i + j) % 12 = j by omega]) (by omega) (decide_eq_true (by omega)) (by omega) | exact smn_fx hs2 (by show allPull (swC (cl M) ((12 * i + j) / 12) ((12 * i + j) % 12)) = allPull (swC (cl M) i j); rw [show (12 * i + j) / 12 = i by omega, show (12 * i + j) % 12 = j by omega]) (by omega) (Or.inr (by omega))) (by omega)
            · skip
              refine g_iload F 1 dX6_swap_77 rfl ?_
              refine g_goto F 83 dX6_swap_79 (by decide) ?_
              refine g_istore_n F (lv' := [(1, .int (iI (allPull (swC (cl M) i j)))), (2, .int (iI b2)), (5, .int (iI (allPull (swC (cl M) i j)))), (4, .int (iI j)), (3, .int (iI i)), (0, .ref (ma 100))]) 1 dX6_swap_83 rfl (by decide) rfl ?_
              refine g_iinc F (lv' := [(4, .int (iI (j + 1))), (1, .int (iI (allPull (swC (cl M) i j)))), (2, .int (iI b2)), (5, .int (iI (allPull (swC (cl M) i j)))), (3, .int (iI i)), (0, .ref (ma 100))]) 3 dX6_swap_84 rfl (by decide) rfl ?_
              refine g_goto F 26 dX6_swap_87 (by decide) ?_
              refine g_sub F (lv' := [(4, .int (iI (j + 1))), (3, .int (iI i)), (2, .int (iI b2)), (1, .int (iI (allPull (swC (cl M) i j)))), (0, .ref (ma 100))]) [0, 4, 2, 1, 5] rfl ?_
              exact ih26 _ (by omega) (j + 1) b2 (allPull (swC (cl M) i j)) rfl (by omega) (by rw [show 12 * i + (j + 1) = (12 * i + j) + 1 by omega]; first | (exfalso; omega) | exact smn_tx hs2 (by show 100 * ((12 * i + j) / 12) + (12 * i + j) % 12 = 100 * i + j; rw [show (12 * i + j) / 12 = i by omega, show (12 * i + j) % 12 = j by omega]) (by show allPull (swC (cl M) ((12 * i + j) / 12) ((12 * i + j) % 12)) = allPull (swC (cl M) i j); rw [show (12 * i + j) / 12 = i by omega, show (12 * i + j) % 12 = j by omega]) (by omega) (decide_eq_true (by omega)) (by omega) | exact smn_fx hs2 (by show allPull (swC (cl M) ((12 * i + j) / 12) ((12 * i + j) % 12)) = allPull (swC (cl M) i j); rw [show (12 * i + j) / 12 = i by omega, show (12 * i + j) % 12 = j by omega]) (by omega) (Or.inr (by omega))) (by omega)
          · skip
            refine g_bipush F dX6_swap_59 (by decide +kernel) ?_
            refine g_iload_n F 2 dX6_swap_61 rfl ?_
            refine g_imul F dX6_swap_62 ?_
            refine g_iload F 1 dX6_swap_63 rfl ?_
            refine g_iadd F dX6_swap_65 ?_
            refine g_goto F 70 dX6_swap_66 (by decide) ?_
            refine g_istore_n F (lv' := [(2, .int (iI ((100 * i) + j))), (5, .int (iI (allPull (swC (cl M) i j)))), (4, .int (iI j)), (3, .int (iI i)), (1, .int (iI l2)), (0, .ref (ma 100))]) 2 dX6_swap_70 rfl (by decide) rfl ?_
            refine g_iload F 1 dX6_swap_71 rfl ?_
            refine g_iload_n F 4 dX6_swap_73 rfl ?_
            refine g_icmp_ge F 82 (by omega) dX6_swap_74 (by decide) (fun c74 => ?_) (fun c74 => ?_)
            · skip
              refine g_iload_n F 4 dX6_swap_82 rfl ?_
              refine g_istore_n F (lv' := [(1, .int (iI l2)), (2, .int (iI ((100 * i) + j))), (5, .int (iI (allPull (swC (cl M) i j)))), (4, .int (iI j)), (3, .int (iI i)), (0, .ref (ma 100))]) 1 dX6_swap_83 rfl (by decide) rfl ?_
              refine g_iinc F (lv' := [(4, .int (iI (j + 1))), (1, .int (iI l2)), (2, .int (iI ((100 * i) + j))), (5, .int (iI (allPull (swC (cl M) i j)))), (3, .int (iI i)), (0, .ref (ma 100))]) 3 dX6_swap_84 rfl (by decide) rfl ?_
              refine g_goto F 26 dX6_swap_87 (by decide) ?_
              refine g_sub F (lv' := [(4, .int (iI (j + 1))), (3, .int (iI i)), (2, .int (iI ((100 * i) + j))), (1, .int (iI l2)), (0, .ref (ma 100))]) [0, 4, 2, 1, 5] rfl ?_
              exact ih26 _ (by omega) (j + 1) ((100 * i) + j) l2 rfl (by omega) (by rw [show 12 * i + (j + 1) = (12 * i + j) + 1 by omega]; first | (exfalso; omega) | exact smn_tx hs2 (by show 100 * ((12 * i + j) / 12) + (12 * i + j) % 12 = 100 * i + j; rw [show (12 * i + j) / 12 = i by omega, show (12 * i + j) % 12 = j by omega]) (by show allPull (swC (cl M) ((12 * i + j) / 12) ((12 * i + j) % 12)) = allPull (swC (cl M) i j); rw [show (12 * i + j) / 12 = i by omega, show (12 * i + j) % 12 = j by omega]) (by omega) (decide_eq_true (by omega)) (by omega) | exact smn_fx hs2 (by show allPull (swC (cl M) ((12 * i + j) / 12) ((12 * i + j) % 12)) = allPull (swC (cl M) i j); rw [show (12 * i + j) / 12 = i by omega, show (12 * i + j) % 12 = j by omega]) (by omega) (Or.inr (by omega))) (by omega)
            · skip
              refine g_iload F 1 dX6_swap_77 rfl ?_
              refine g_goto F 83 dX6_swap_79 (by decide) ?_
              refine g_istore_n F (lv' := [(1, .int (iI (allPull (swC (cl M) i j)))), (2, .int (iI ((100 * i) + j))), (5, .int (iI (allPull (swC (cl M) i j)))), (4, .int (iI j)), (3, .int (iI i)), (0, .ref (ma 100))]) 1 dX6_swap_83 rfl (by decide) rfl ?_
              refine g_iinc F (lv' := [(4, .int (iI (j + 1))), (1, .int (iI (allPull (swC (cl M) i j)))), (2, .int (iI ((100 * i) + j))), (5, .int (iI (allPull (swC (cl M) i j)))), (3, .int (iI i)), (0, .ref (ma 100))]) 3 dX6_swap_84 rfl (by decide) rfl ?_
              refine g_goto F 26 dX6_swap_87 (by decide) ?_
              refine g_sub F (lv' := [(4, .int (iI (j + 1))), (3, .int (iI i)), (2, .int (iI ((100 * i) + j))), (1, .int (iI (allPull (swC (cl M) i j)))), (0, .ref (ma 100))]) [0, 4, 2, 1, 5] rfl ?_
              exact ih26 _ (by omega) (j + 1) ((100 * i) + j) (allPull (swC (cl M) i j)) rfl (by omega) (by rw [show 12 * i + (j + 1) = (12 * i + j) + 1 by omega]; first | (exfalso; omega) | exact smn_tx hs2 (by show 100 * ((12 * i + j) / 12) + (12 * i + j) % 12 = 100 * i + j; rw [show (12 * i + j) / 12 = i by omega, show (12 * i + j) % 12 = j by omega]) (by show allPull (swC (cl M) ((12 * i + j) / 12) ((12 * i + j) % 12)) = allPull (swC (cl M) i j); rw [show (12 * i + j) / 12 = i by omega, show (12 * i + j) % 12 = j by omega]) (by omega) (decide_eq_true (by omega)) (by omega) | exact smn_fx hs2 (by show allPull (swC (cl M) ((12 * i + j) / 12) ((12 * i + j) % 12)) = allPull (swC (cl M) i j); rw [show (12 * i + j) / 12 = i by omega, show (12 * i + j) % 12 = j by omega]) (by omega) (Or.inr (by omega))) (by omega)
      refine g_sub F (lv' := [(4, .int (iI (i + 1))), (3, .int (iI i)), (2, .int (iI b)), (1, .int (iI l)), (0, .ref (ma 100))]) [0, 1, 2, 3, 4] rfl ?_
      exact L26 _ (i + 1) b l rfl (by omega) (smn_to (by omega) hs (by omega) (fun k _ _ => decide_eq_false (by omega))) (by omega)
  refine g_sub F (lv' := [(3, .int (iI 0)), (2, .int (iI (-9))), (1, .int (iI (allPull (cl M)))), (0, .ref (ma 100))]) [0, 1, 2, 3] rfl ?_
  exact L15 _ 0 (-9) (allPull (cl M)) rfl (by omega) rfl (by omega)
theorem dX6_ageFor_0 : decode cX6_ageFor 0 = .ok (.aload_n 0, 1) := by decide +kernel
theorem dX6_ageFor_1 : decode cX6_ageFor 1 = .ok (.iconst 0, 1) := by decide +kernel
theorem dX6_ageFor_2 : decode cX6_ageFor 2 = .ok (.putfield 91, 3) := by decide +kernel
theorem dX6_ageFor_5 : decode cX6_ageFor 5 = .ok (.iload_n 1, 1) := by decide +kernel
theorem dX6_ageFor_6 : decode cX6_ageFor 6 = .ok (.invokestatic 222, 3) := by decide +kernel
theorem dX6_ageFor_9 : decode cX6_ageFor 9 = .ok (.ifCond .ne 9, 3) := by decide +kernel
theorem dX6_ageFor_12 : decode cX6_ageFor 12 = .ok (.aload_n 0, 1) := by decide +kernel
theorem dX6_ageFor_13 : decode cX6_ageFor 13 = .ok (.iconst (-1), 1) := by decide +kernel
theorem dX6_ageFor_14 : decode cX6_ageFor 14 = .ok (.invokevirtual 138, 3) := by decide +kernel
theorem dX6_ageFor_17 : decode cX6_ageFor 17 = .ok (.ireturn, 1) := by decide +kernel
theorem dX6_ageFor_18 : decode cX6_ageFor 18 = .ok (.aload_n 0, 1) := by decide +kernel
theorem dX6_ageFor_19 : decode cX6_ageFor 19 = .ok (.getfield 16, 3) := by decide +kernel
theorem dX6_ageFor_22 : decode cX6_ageFor 22 = .ok (.iload_n 1, 1) := by decide +kernel
theorem dX6_ageFor_23 : decode cX6_ageFor 23 = .ok (.iaload, 1) := by decide +kernel
theorem dX6_ageFor_24 : decode cX6_ageFor 24 = .ok (.istore_n 2, 1) := by decide +kernel
theorem dX6_ageFor_25 : decode cX6_ageFor 25 = .ok (.iconst 0, 1) := by decide +kernel
theorem dX6_ageFor_26 : decode cX6_ageFor 26 = .ok (.istore_n 3, 1) := by decide +kernel
theorem dX6_ageFor_27 : decode cX6_ageFor 27 = .ok (.iconst (-1), 1) := by decide +kernel
theorem dX6_ageFor_28 : decode cX6_ageFor 28 = .ok (.istore 4, 2) := by decide +kernel
theorem dX6_ageFor_30 : decode cX6_ageFor 30 = .ok (.iconst 0, 1) := by decide +kernel
theorem dX6_ageFor_31 : decode cX6_ageFor 31 = .ok (.istore 5, 2) := by decide +kernel
theorem dX6_ageFor_33 : decode cX6_ageFor 33 = .ok (.iload 5, 2) := by decide +kernel
theorem dX6_ageFor_35 : decode cX6_ageFor 35 = .ok (.bipush 99, 2) := by decide +kernel
theorem dX6_ageFor_37 : decode cX6_ageFor 37 = .ok (.if_icmp .gt 63, 3) := by decide +kernel
theorem dX6_ageFor_40 : decode cX6_ageFor 40 = .ok (.aload_n 0, 1) := by decide +kernel
theorem dX6_ageFor_41 : decode cX6_ageFor 41 = .ok (.getfield 16, 3) := by decide +kernel
theorem dX6_ageFor_44 : decode cX6_ageFor 44 = .ok (.iload_n 1, 1) := by decide +kernel
theorem dX6_ageFor_45 : decode cX6_ageFor 45 = .ok (.iload 5, 2) := by decide +kernel
theorem dX6_ageFor_47 : decode cX6_ageFor 47 = .ok (.iastore, 1) := by decide +kernel
theorem dX6_ageFor_48 : decode cX6_ageFor 48 = .ok (.aload_n 0, 1) := by decide +kernel
theorem dX6_ageFor_49 : decode cX6_ageFor 49 = .ok (.invokevirtual 234, 3) := by decide +kernel
theorem dX6_ageFor_52 : decode cX6_ageFor 52 = .ok (.istore 6, 2) := by decide +kernel
theorem dX6_ageFor_54 : decode cX6_ageFor 54 = .ok (.iload 4, 2) := by decide +kernel
theorem dX6_ageFor_56 : decode cX6_ageFor 56 = .ok (.ifCond .lt 10, 3) := by decide +kernel
theorem dX6_ageFor_59 : decode cX6_ageFor 59 = .ok (.iload 6, 2) := by decide +kernel
theorem dX6_ageFor_61 : decode cX6_ageFor 61 = .ok (.iload 4, 2) := by decide +kernel
theorem dX6_ageFor_63 : decode cX6_ageFor 63 = .ok (.if_icmp .ge 8, 3) := by decide +kernel
theorem dX6_ageFor_66 : decode cX6_ageFor 66 = .ok (.iload 5, 2) := by decide +kernel
theorem dX6_ageFor_68 : decode cX6_ageFor 68 = .ok (.goto 4, 3) := by decide +kernel
theorem dX6_ageFor_71 : decode cX6_ageFor 71 = .ok (.iload_n 3, 1) := by decide +kernel
theorem dX6_ageFor_72 : decode cX6_ageFor 72 = .ok (.istore_n 3, 1) := by decide +kernel
theorem dX6_ageFor_73 : decode cX6_ageFor 73 = .ok (.iload 4, 2) := by decide +kernel
theorem dX6_ageFor_75 : decode cX6_ageFor 75 = .ok (.ifCond .lt 10, 3) := by decide +kernel
theorem dX6_ageFor_78 : decode cX6_ageFor 78 = .ok (.iload 6, 2) := by decide +kernel
theorem dX6_ageFor_80 : decode cX6_ageFor 80 = .ok (.iload 4, 2) := by decide +kernel
theorem dX6_ageFor_82 : decode cX6_ageFor 82 = .ok (.if_icmp .ge 8, 3) := by decide +kernel
theorem dX6_ageFor_85 : decode cX6_ageFor 85 = .ok (.iload 6, 2) := by decide +kernel
theorem dX6_ageFor_87 : decode cX6_ageFor 87 = .ok (.goto 5, 3) := by decide +kernel
theorem dX6_ageFor_90 : decode cX6_ageFor 90 = .ok (.iload 4, 2) := by decide +kernel
theorem dX6_ageFor_92 : decode cX6_ageFor 92 = .ok (.istore 4, 2) := by decide +kernel
theorem dX6_ageFor_94 : decode cX6_ageFor 94 = .ok (.iinc 5 1, 3) := by decide +kernel
theorem dX6_ageFor_97 : decode cX6_ageFor 97 = .ok (.goto (-64), 3) := by decide +kernel
theorem dX6_ageFor_100 : decode cX6_ageFor 100 = .ok (.aload_n 0, 1) := by decide +kernel
theorem dX6_ageFor_101 : decode cX6_ageFor 101 = .ok (.getfield 16, 3) := by decide +kernel
theorem dX6_ageFor_104 : decode cX6_ageFor 104 = .ok (.iload_n 1, 1) := by decide +kernel
theorem dX6_ageFor_105 : decode cX6_ageFor 105 = .ok (.iload_n 2, 1) := by decide +kernel
theorem dX6_ageFor_106 : decode cX6_ageFor 106 = .ok (.iastore, 1) := by decide +kernel
theorem dX6_ageFor_107 : decode cX6_ageFor 107 = .ok (.iload_n 3, 1) := by decide +kernel
theorem dX6_ageFor_108 : decode cX6_ageFor 108 = .ok (.ireturn, 1) := by decide +kernel
set_option maxRecDepth 100000 in
set_option maxHeartbeats 4000000 in
theorem k_X6_ageFor (κ : Kp) (ma : Nat → Nat) (M : MS) (c : Int)  (ha_c : In32 c) (ok : okC (cl M)) (hy : M 4 0 ≤ 999) : mI κ yX6_ageFor cX6_ageFor 7 .int 3 [.ref (ma 100), .int (iI c)] (mw κ ma M) (qM κ ma M (qAgeFor (cl M) c)) := by
  refine mI_of (by decide) (Nat.le_of_ble_eq_true rfl) (fun E F K => ?_)
  refine g_lv (lv' := [(0, .ref (ma 100)), (1, .int (iI c))]) rfl ?_
  refine g_aload_n F 0 dX6_ageFor_0 rfl ?_
  refine g_iconst F dX6_ageFor_1 ?_
  refine gm_put_10 F dX6_ageFor_2 ?_
  refine g_iload_n F 1 dX6_ageFor_5 rfl ?_
  refine g_callSI F (stk := [.int (iI c)]) (st := []) (k_X6_isCell κ (mw κ ma (mA M 10 (fun _ => 0))) c (by omega)) cal_X6_isCell lm_X6_222 rfl (by decide) rfl (Nat.le_of_ble_eq_true rfl) dX6_ageFor_6 (fun r6 ws6 _ hr6 => ?_)
  obtain ⟨rfl, rfl⟩ := hr6
  refine g_if_ne F 18 (b2i_in _) dX6_ageFor_9 (by decide) (fun c9 => ?_) (fun c9 => ?_)
  · skip
    have c9 : 0 ≤ c ∧ c < 12 := b2i_t c9
    refine g_aload_n F 0 dX6_ageFor_18 rfl ?_
    have hk : (0 ≤ M 0 c ∧ M 0 c ≤ 5) ∧ (0 ≤ M 1 c ∧ M 1 c ≤ 9) ∧ (0 ≤ M 2 c ∧ M 2 c ≤ 99) ∧ 0 ≤ M 3 c ∧ M 3 c ≤ 99 := ok.r (by omega) (by omega)
    refine gm_get_2 F dX6_ageFor_19 ?_
    refine g_iload_n F 1 dX6_ageFor_22 rfl ?_
    refine gm_ald_2 F (by omega) dX6_ageFor_23 ?_
    refine g_top (y := iI (M 2 c)) rfl ?_
    refine g_istore_n F (lv' := [(2, .int (iI (M 2 c))), (0, .ref (ma 100)), (1, .int (iI c))]) 2 dX6_ageFor_24 rfl (by decide) rfl ?_
    refine g_iconst F dX6_ageFor_25 ?_
    refine g_istore_n F (lv' := [(3, .int (iI 0)), (2, .int (iI (M 2 c))), (0, .ref (ma 100)), (1, .int (iI c))]) 3 dX6_ageFor_26 rfl (by decide) rfl ?_
    refine g_iconst F dX6_ageFor_27 ?_
    refine g_istore F (lv' := [(4, .int (iI (-1))), (3, .int (iI 0)), (2, .int (iI (M 2 c))), (0, .ref (ma 100)), (1, .int (iI c))]) dX6_ageFor_28 (by decide) rfl ?_
    refine g_iconst F dX6_ageFor_30 ?_
    refine g_istore F (lv' := [(5, .int (iI 0)), (4, .int (iI (-1))), (3, .int (iI 0)), (2, .int (iI (M 2 c))), (0, .ref (ma 100)), (1, .int (iI c))]) dX6_ageFor_31 (by decide) rfl ?_
    have L33 : ∀ (mz33 : Nat) (v : Int) (b : Int) (l : Int) (x : Int), (100 - v).toNat = mz33 → (0 ≤ v ∧ v ≤ 100) → (smn yes (fun v => allPull (oth (cl M) 2 c v)) (fun v => v) (0, MAXI) v = (b, if v = 0 then MAXI else l)) → ((v = 0 → l = -1) ∧ (0 < v → 0 ≤ l ∧ l ≤ 3000) ∧ 0 ≤ b ∧ b ≤ v) → G E (mw κ ma (mA (mA M 10 (fun _ => 0)) 2 (uI (M 2) c x))) [(5, .int (iI v)), (4, .int (iI l)), (3, .int (iI b)), (2, .int (iI (M 2 c))), (0, .ref (ma 100)), (1, .int (iI c))] 33 [] := by
      intro mz33
      induction mz33 using Nat.strongRecOn with
      | _ mz33 ih33 =>
      intro v b l x hmz33 hv hs hl
      refine g_iload F 0 dX6_ageFor_33 rfl ?_
      refine g_bipush F dX6_ageFor_35 (by decide +kernel) ?_
      refine g_icmp_gt F 100 (by omega) dX6_ageFor_37 (by decide) (fun c37 => ?_) (fun c37 => ?_)
      · skip
        refine g_aload_n F 4 dX6_ageFor_100 rfl ?_
        refine gm_get_2 F dX6_ageFor_101 ?_
        refine g_iload_n F 5 dX6_ageFor_104 rfl ?_
        refine g_iload_n F 3 dX6_ageFor_105 rfl ?_
        refine gm_astS_2 F (by omega) dX6_ageFor_106 ?_
        refine g_ws (ws' := mw κ ma (mA M 10 (fun _ => 0))) (by rw [uI_back]; rfl) ?_
        refine g_iload_n F 2 dX6_ageFor_107 rfl ?_
        have e : sAge (cl M) c 100 = (b, if v = 0 then MAXI else l) := by rw [show v = 100 by omega] at hs ⊢; exact hs
        have e1 : (sAge (cl M) c 100).1 = b := by rw [e]
        have hq : b = qAgeFor (cl M) c := by unfold qAgeFor; (repeat' split) <;> omega
        exact K mw_same ⟨_, rfl, iIc hq, ⟨rfl, rfl, rfl, rfl, rfl, rfl, rfl, rfl, rfl, rfl, rfl, rfl, rfl, rfl, rfl, rfl, rfl, rfl⟩, (by rw [← hq]; show M 11 = _; exact (rfa_n (by omega)).symm)⟩ rfl dX6_ageFor_108
      · skip
        have okv := oth_ok (w := 2) (c := c) (v := v) ok (by omega)
        have hpb : 0 ≤ allPull (cl (mA (mA M 10 (fun _ => 0)) 2 (uI (M 2) c v))) ∧ allPull (cl (mA (mA M 10 (fun _ => 0)) 2 (uI (M 2) c v))) ≤ 3000 := allPull_bd okv.A
        refine g_aload_n F 4 dX6_ageFor_40 rfl ?_
        refine gm_get_2 F dX6_ageFor_41 ?_
        refine g_iload_n F 5 dX6_ageFor_44 rfl ?_
        refine g_iload F 0 dX6_ageFor_45 rfl ?_
        refine gm_astS_2 F (by omega) dX6_ageFor_47 ?_
        refine g_ws (ws' := mw κ ma (mA (mA M 10 (fun _ => 0)) 2 (uI (M 2) c v))) (by rw [uI_uI]) ?_
        refine g_aload_n F 4 dX6_ageFor_48 rfl ?_
        refine g_callI F (stk := [.ref (ma 100)]) (st := []) (k_X6_allPull κ ma (mA (mA M 10 (fun _ => 0)) 2 (uI (M 2) c v)) (show okA (oth (cl M) 2 c v) from okv.A)) cal_X6_allPull lm_X6_234 0 rfl rfl rfl rfl (by decide) rfl (Nat.le_of_ble_eq_true rfl) dX6_ageFor_49 (fun r49 ws49 _ hr49 => ?_)
        obtain ⟨rfl, rfl⟩ := hr49
        refine g_top (y := iI (allPull (cl (mA (mA M 10 (fun _ => 0)) 2 (uI (M 2) c v))))) rfl ?_
        refine g_istore F (lv' := [(6, .int (iI (allPull (cl (mA (mA M 10 (fun _ => 0)) 2 (uI (M 2) c v)))))), (5, .int (iI v)), (4, .int (iI l)), (3, .int (iI b)), (2, .int (iI (M 2 c))), (0, .ref (ma 100)), (1, .int (iI c))]) dX6_ageFor_52 (by decide) rfl ?_
        refine g_iload F 2 dX6_ageFor_54 rfl ?_
        refine g_if_lt F 66 (by omega) dX6_ageFor_56 (by decide) (fun c56 => ?_) (fun c56 => ?_)
        · skip
          refine g_iload F 1 dX6_ageFor_66 rfl ?_
          refine g_goto F 72 dX6_ageFor_68 (by decide) ?_
          refine g_istore_n F (lv' := [(3, .int (iI v)), (6, .int (iI (allPull (cl (mA (mA M 10 (fun _ => 0)) 2 (uI (M 2) c v)))))), (5, .int (iI v)), (4, .int (iI l)), (2, .int (iI (M 2 c))), (0, .ref (ma 100)), (1, .int (iI c))]) 3 dX6_ageFor_72 rfl (by decide) rfl ?_
          refine g_iload F 3 dX6_ageFor_73 rfl ?_
          refine g_if_lt F 85 (by omega) dX6_ageFor_75 (by decide) (fun c75 => ?_) (fun c75 => ?_)
          · skip
            refine g_iload F 1 dX6_ageFor_85 rfl ?_
            refine g_goto F 92 dX6_ageFor_87 (by decide) ?_
            refine g_istore F (lv' := [(4, .int (iI (allPull (cl (mA (mA M 10 (fun _ => 0)) 2 (uI (M 2) c v)))))), (3, .int (iI v)), (6, .int (iI (allPull (cl (mA (mA M 10 (fun _ => 0)) 2 (uI (M 2) c v)))))), (5, .int (iI v)), (2, .int (iI (M 2 c))), (0, .ref (ma 100)), (1, .int (iI c))]) dX6_ageFor_92 (by decide) rfl ?_
            refine g_iinc F (lv' := [(5, .int (iI (v + 1))), (4, .int (iI (allPull (cl (mA (mA M 10 (fun _ => 0)) 2 (uI (M 2) c v)))))), (3, .int (iI v)), (6, .int (iI (allPull (cl (mA (mA M 10 (fun _ => 0)) 2 (uI (M 2) c v)))))), (2, .int (iI (M 2 c))), (0, .ref (ma 100)), (1, .int (iI c))]) 3 dX6_ageFor_94 rfl (by decide) rfl ?_
            refine g_goto F 33 dX6_ageFor_97 (by decide) ?_
            refine g_sub F (lv' := [(5, .int (iI (v + 1))), (4, .int (iI (allPull (cl (mA (mA M 10 (fun _ => 0)) 2 (uI (M 2) c v)))))), (3, .int (iI v)), (2, .int (iI (M 2 c))), (0, .ref (ma 100)), (1, .int (iI c))]) [0, 1, 2, 4, 5, 6] rfl ?_
            exact ih33 _ (by omega) (v + 1) v (allPull (cl (mA (mA M 10 (fun _ => 0)) 2 (uI (M 2) c v)))) v rfl (by omega) (by first | (exfalso; omega) | exact smn_tS hs rfl rfl hv.1 (by omega) (by omega) | exact smn_fS (x := allPull (cl (mA (mA M 10 (fun _ => 0)) 2 (uI (M 2) c v)))) hs rfl (by omega) (by omega)) (by omega)
          · skip
            refine g_iload F 1 dX6_ageFor_78 rfl ?_
            refine g_iload F 3 dX6_ageFor_80 rfl ?_
            refine g_icmp_ge F 90 (by omega) dX6_ageFor_82 (by decide) (fun c82 => ?_) (fun c82 => ?_)
            · skip
              refine g_iload F 3 dX6_ageFor_90 rfl ?_
              refine g_istore F (lv' := [(4, .int (iI l)), (3, .int (iI v)), (6, .int (iI (allPull (cl (mA (mA M 10 (fun _ => 0)) 2 (uI (M 2) c v)))))), (5, .int (iI v)), (2, .int (iI (M 2 c))), (0, .ref (ma 100)), (1, .int (iI c))]) dX6_ageFor_92 (by decide) rfl ?_
              refine g_iinc F (lv' := [(5, .int (iI (v + 1))), (4, .int (iI l)), (3, .int (iI v)), (6, .int (iI (allPull (cl (mA (mA M 10 (fun _ => 0)) 2 (uI (M 2) c v)))))), (2, .int (iI (M 2 c))), (0, .ref (ma 100)), (1, .int (iI c))]) 3 dX6_ageFor_94 rfl (by decide) rfl ?_
              refine g_goto F 33 dX6_ageFor_97 (by decide) ?_
              refine g_sub F (lv' := [(5, .int (iI (v + 1))), (4, .int (iI l)), (3, .int (iI v)), (2, .int (iI (M 2 c))), (0, .ref (ma 100)), (1, .int (iI c))]) [0, 1, 2, 4, 5, 6] rfl ?_
              exact ih33 _ (by omega) (v + 1) v l v rfl (by omega) (by first | (exfalso; omega) | exact smn_tS hs rfl rfl hv.1 (by omega) (by omega) | exact smn_fS (x := allPull (cl (mA (mA M 10 (fun _ => 0)) 2 (uI (M 2) c v)))) hs rfl (by omega) (by omega)) (by omega)
            · skip
              refine g_iload F 1 dX6_ageFor_85 rfl ?_
              refine g_goto F 92 dX6_ageFor_87 (by decide) ?_
              refine g_istore F (lv' := [(4, .int (iI (allPull (cl (mA (mA M 10 (fun _ => 0)) 2 (uI (M 2) c v)))))), (3, .int (iI v)), (6, .int (iI (allPull (cl (mA (mA M 10 (fun _ => 0)) 2 (uI (M 2) c v)))))), (5, .int (iI v)), (2, .int (iI (M 2 c))), (0, .ref (ma 100)), (1, .int (iI c))]) dX6_ageFor_92 (by decide) rfl ?_
              refine g_iinc F (lv' := [(5, .int (iI (v + 1))), (4, .int (iI (allPull (cl (mA (mA M 10 (fun _ => 0)) 2 (uI (M 2) c v)))))), (3, .int (iI v)), (6, .int (iI (allPull (cl (mA (mA M 10 (fun _ => 0)) 2 (uI (M 2) c v)))))), (2, .int (iI (M 2 c))), (0, .ref (ma 100)), (1, .int (iI c))]) 3 dX6_ageFor_94 rfl (by decide) rfl ?_
              refine g_goto F 33 dX6_ageFor_97 (by decide) ?_
              refine g_sub F (lv' := [(5, .int (iI (v + 1))), (4, .int (iI (allPull (cl (mA (mA M 10 (fun _ => 0)) 2 (uI (M 2) c v)))))), (3, .int (iI v)), (2, .int (iI (M 2 c))), (0, .ref (ma 100)), (1, .int (iI c))]) [0, 1, 2, 4, 5, 6] rfl ?_
              exact ih33 _ (by omega) (v + 1) v (allPull (cl (mA (mA M 10 (fun _ => 0)) 2 (uI (M 2) c v)))) v rfl (by omega) (by first | (exfalso; omega) | exact smn_tS hs rfl rfl hv.1 (by omega) (by omega) | exact smn_fS (x := allPull (cl (mA (mA M 10 (fun _ => 0)) 2 (uI (M 2) c v)))) hs rfl (by omega) (by omega)) (by omega)
        · skip
          refine g_iload F 0 dX6_ageFor_59 rfl ?_
          refine g_iload F 2 dX6_ageFor_61 rfl ?_
          refine g_icmp_ge F 71 (by omega) dX6_ageFor_63 (by decide) (fun c63 => ?_) (fun c63 => ?_)
          · skip
            refine g_iload_n F 3 dX6_ageFor_71 rfl ?_
            refine g_istore_n F (lv' := [(3, .int (iI b)), (6, .int (iI (allPull (cl (mA (mA M 10 (fun _ => 0)) 2 (uI (M 2) c v)))))), (5, .int (iI v)), (4, .int (iI l)), (2, .int (iI (M 2 c))), (0, .ref (ma 100)), (1, .int (iI c))]) 3 dX6_ageFor_72 rfl (by decide) rfl ?_
            refine g_iload F 3 dX6_ageFor_73 rfl ?_
            refine g_if_lt F 85 (by omega) dX6_ageFor_75 (by decide) (fun c75 => ?_) (fun c75 => ?_)
            · skip
              refine g_iload F 1 dX6_ageFor_85 rfl ?_
              refine g_goto F 92 dX6_ageFor_87 (by decide) ?_
              refine g_istore F (lv' := [(4, .int (iI (allPull (cl (mA (mA M 10 (fun _ => 0)) 2 (uI (M 2) c v)))))), (3, .int (iI b)), (6, .int (iI (allPull (cl (mA (mA M 10 (fun _ => 0)) 2 (uI (M 2) c v)))))), (5, .int (iI v)), (2, .int (iI (M 2 c))), (0, .ref (ma 100)), (1, .int (iI c))]) dX6_ageFor_92 (by decide) rfl ?_
              refine g_iinc F (lv' := [(5, .int (iI (v + 1))), (4, .int (iI (allPull (cl (mA (mA M 10 (fun _ => 0)) 2 (uI (M 2) c v)))))), (3, .int (iI b)), (6, .int (iI (allPull (cl (mA (mA M 10 (fun _ => 0)) 2 (uI (M 2) c v)))))), (2, .int (iI (M 2 c))), (0, .ref (ma 100)), (1, .int (iI c))]) 3 dX6_ageFor_94 rfl (by decide) rfl ?_
              refine g_goto F 33 dX6_ageFor_97 (by decide) ?_
              refine g_sub F (lv' := [(5, .int (iI (v + 1))), (4, .int (iI (allPull (cl (mA (mA M 10 (fun _ => 0)) 2 (uI (M 2) c v)))))), (3, .int (iI b)), (2, .int (iI (M 2 c))), (0, .ref (ma 100)), (1, .int (iI c))]) [0, 1, 2, 4, 5, 6] rfl ?_
              exact ih33 _ (by omega) (v + 1) b (allPull (cl (mA (mA M 10 (fun _ => 0)) 2 (uI (M 2) c v)))) v rfl (by omega) (by first | (exfalso; omega) | exact smn_tS hs rfl rfl hv.1 (by omega) (by omega) | exact smn_fS (x := allPull (cl (mA (mA M 10 (fun _ => 0)) 2 (uI (M 2) c v)))) hs rfl (by omega) (by omega)) (by omega)
            · skip
              refine g_iload F 1 dX6_ageFor_78 rfl ?_
              refine g_iload F 3 dX6_ageFor_80 rfl ?_
              refine g_icmp_ge F 90 (by omega) dX6_ageFor_82 (by decide) (fun c82 => ?_) (fun c82 => ?_)
              · skip
                refine g_iload F 3 dX6_ageFor_90 rfl ?_
                refine g_istore F (lv' := [(4, .int (iI l)), (3, .int (iI b)), (6, .int (iI (allPull (cl (mA (mA M 10 (fun _ => 0)) 2 (uI (M 2) c v)))))), (5, .int (iI v)), (2, .int (iI (M 2 c))), (0, .ref (ma 100)), (1, .int (iI c))]) dX6_ageFor_92 (by decide) rfl ?_
                refine g_iinc F (lv' := [(5, .int (iI (v + 1))), (4, .int (iI l)), (3, .int (iI b)), (6, .int (iI (allPull (cl (mA (mA M 10 (fun _ => 0)) 2 (uI (M 2) c v)))))), (2, .int (iI (M 2 c))), (0, .ref (ma 100)), (1, .int (iI c))]) 3 dX6_ageFor_94 rfl (by decide) rfl ?_
                refine g_goto F 33 dX6_ageFor_97 (by decide) ?_
                refine g_sub F (lv' := [(5, .int (iI (v + 1))), (4, .int (iI l)), (3, .int (iI b)), (2, .int (iI (M 2 c))), (0, .ref (ma 100)), (1, .int (iI c))]) [0, 1, 2, 4, 5, 6] rfl ?_
                exact ih33 _ (by omega) (v + 1) b l v rfl (by omega) (by first | (exfalso; omega) | exact smn_tS hs rfl rfl hv.1 (by omega) (by omega) | exact smn_fS (x := allPull (cl (mA (mA M 10 (fun _ => 0)) 2 (uI (M 2) c v)))) hs rfl (by omega) (by omega)) (by omega)
              · skip
                refine g_iload F 1 dX6_ageFor_85 rfl ?_
                refine g_goto F 92 dX6_ageFor_87 (by decide) ?_
                refine g_istore F (lv' := [(4, .int (iI (allPull (cl (mA (mA M 10 (fun _ => 0)) 2 (uI (M 2) c v)))))), (3, .int (iI b)), (6, .int (iI (allPull (cl (mA (mA M 10 (fun _ => 0)) 2 (uI (M 2) c v)))))), (5, .int (iI v)), (2, .int (iI (M 2 c))), (0, .ref (ma 100)), (1, .int (iI c))]) dX6_ageFor_92 (by decide) rfl ?_
                refine g_iinc F (lv' := [(5, .int (iI (v + 1))), (4, .int (iI (allPull (cl (mA (mA M 10 (fun _ => 0)) 2 (uI (M 2) c v)))))), (3, .int (iI b)), (6, .int (iI (allPull (cl (mA (mA M 10 (fun _ => 0)) 2 (uI (M 2) c v)))))), (2, .int (iI (M 2 c))), (0, .ref (ma 100)), (1, .int (iI c))]) 3 dX6_ageFor_94 rfl (by decide) rfl ?_
                refine g_goto F 33 dX6_ageFor_97 (by decide) ?_
                refine g_sub F (lv' := [(5, .int (iI (v + 1))), (4, .int (iI (allPull (cl (mA (mA M 10 (fun _ => 0)) 2 (uI (M 2) c v)))))), (3, .int (iI b)), (2, .int (iI (M 2 c))), (0, .ref (ma 100)), (1, .int (iI c))]) [0, 1, 2, 4, 5, 6] rfl ?_
                exact ih33 _ (by omega) (v + 1) b (allPull (cl (mA (mA M 10 (fun _ => 0)) 2 (uI (M 2) c v)))) v rfl (by omega) (by first | (exfalso; omega) | exact smn_tS hs rfl rfl hv.1 (by omega) (by omega) | exact smn_fS (x := allPull (cl (mA (mA M 10 (fun _ => 0)) 2 (uI (M 2) c v)))) hs rfl (by omega) (by omega)) (by omega)
          · skip
            refine g_iload F 1 dX6_ageFor_66 rfl ?_
            refine g_goto F 72 dX6_ageFor_68 (by decide) ?_
            refine g_istore_n F (lv' := [(3, .int (iI v)), (6, .int (iI (allPull (cl (mA (mA M 10 (fun _ => 0)) 2 (uI (M 2) c v)))))), (5, .int (iI v)), (4, .int (iI l)), (2, .int (iI (M 2 c))), (0, .ref (ma 100)), (1, .int (iI c))]) 3 dX6_ageFor_72 rfl (by decide) rfl ?_
            refine g_iload F 3 dX6_ageFor_73 rfl ?_
            refine g_if_lt F 85 (by omega) dX6_ageFor_75 (by decide) (fun c75 => ?_) (fun c75 => ?_)
            · skip
              refine g_iload F 1 dX6_ageFor_85 rfl ?_
              refine g_goto F 92 dX6_ageFor_87 (by decide) ?_
              refine g_istore F (lv' := [(4, .int (iI (allPull (cl (mA (mA M 10 (fun _ => 0)) 2 (uI (M 2) c v)))))), (3, .int (iI v)), (6, .int (iI (allPull (cl (mA (mA M 10 (fun _ => 0)) 2 (uI (M 2) c v)))))), (5, .int (iI v)), (2, .int (iI (M 2 c))), (0, .ref (ma 100)), (1, .int (iI c))]) dX6_ageFor_92 (by decide) rfl ?_
              refine g_iinc F (lv' := [(5, .int (iI (v + 1))), (4, .int (iI (allPull (cl (mA (mA M 10 (fun _ => 0)) 2 (uI (M 2) c v)))))), (3, .int (iI v)), (6, .int (iI (allPull (cl (mA (mA M 10 (fun _ => 0)) 2 (uI (M 2) c v)))))), (2, .int (iI (M 2 c))), (0, .ref (ma 100)), (1, .int (iI c))]) 3 dX6_ageFor_94 rfl (by decide) rfl ?_
              refine g_goto F 33 dX6_ageFor_97 (by decide) ?_
              refine g_sub F (lv' := [(5, .int (iI (v + 1))), (4, .int (iI (allPull (cl (mA (mA M 10 (fun _ => 0)) 2 (uI (M 2) c v)))))), (3, .int (iI v)), (2, .int (iI (M 2 c))), (0, .ref (ma 100)), (1, .int (iI c))]) [0, 1, 2, 4, 5, 6] rfl ?_
              exact ih33 _ (by omega) (v + 1) v (allPull (cl (mA (mA M 10 (fun _ => 0)) 2 (uI (M 2) c v)))) v rfl (by omega) (by first | (exfalso; omega) | exact smn_tS hs rfl rfl hv.1 (by omega) (by omega) | exact smn_fS (x := allPull (cl (mA (mA M 10 (fun _ => 0)) 2 (uI (M 2) c v)))) hs rfl (by omega) (by omega)) (by omega)
            · skip
              refine g_iload F 1 dX6_ageFor_78 rfl ?_
              refine g_iload F 3 dX6_ageFor_80 rfl ?_
              refine g_icmp_ge F 90 (by omega) dX6_ageFor_82 (by decide) (fun c82 => ?_) (fun c82 => ?_)
              · skip
                refine g_iload F 3 dX6_ageFor_90 rfl ?_
                refine g_istore F (lv' := [(4, .int (iI l)), (3, .int (iI v)), (6, .int (iI (allPull (cl (mA (mA M 10 (fun _ => 0)) 2 (uI (M 2) c v)))))), (5, .int (iI v)), (2, .int (iI (M 2 c))), (0, .ref (ma 100)), (1, .int (iI c))]) dX6_ageFor_92 (by decide) rfl ?_
                refine g_iinc F (lv' := [(5, .int (iI (v + 1))), (4, .int (iI l)), (3, .int (iI v)), (6, .int (iI (allPull (cl (mA (mA M 10 (fun _ => 0)) 2 (uI (M 2) c v)))))), (2, .int (iI (M 2 c))), (0, .ref (ma 100)), (1, .int (iI c))]) 3 dX6_ageFor_94 rfl (by decide) rfl ?_
                refine g_goto F 33 dX6_ageFor_97 (by decide) ?_
                refine g_sub F (lv' := [(5, .int (iI (v + 1))), (4, .int (iI l)), (3, .int (iI v)), (2, .int (iI (M 2 c))), (0, .ref (ma 100)), (1, .int (iI c))]) [0, 1, 2, 4, 5, 6] rfl ?_
                exact ih33 _ (by omega) (v + 1) v l v rfl (by omega) (by first | (exfalso; omega) | exact smn_tS hs rfl rfl hv.1 (by omega) (by omega) | exact smn_fS (x := allPull (cl (mA (mA M 10 (fun _ => 0)) 2 (uI (M 2) c v)))) hs rfl (by omega) (by omega)) (by omega)
              · skip
                refine g_iload F 1 dX6_ageFor_85 rfl ?_
                refine g_goto F 92 dX6_ageFor_87 (by decide) ?_
                refine g_istore F (lv' := [(4, .int (iI (allPull (cl (mA (mA M 10 (fun _ => 0)) 2 (uI (M 2) c v)))))), (3, .int (iI v)), (6, .int (iI (allPull (cl (mA (mA M 10 (fun _ => 0)) 2 (uI (M 2) c v)))))), (5, .int (iI v)), (2, .int (iI (M 2 c))), (0, .ref (ma 100)), (1, .int (iI c))]) dX6_ageFor_92 (by decide) rfl ?_
                refine g_iinc F (lv' := [(5, .int (iI (v + 1))), (4, .int (iI (allPull (cl (mA (mA M 10 (fun _ => 0)) 2 (uI (M 2) c v)))))), (3, .int (iI v)), (6, .int (iI (allPull (cl (mA (mA M 10 (fun _ => 0)) 2 (uI (M 2) c v)))))), (2, .int (iI (M 2 c))), (0, .ref (ma 100)), (1, .int (iI c))]) 3 dX6_ageFor_94 rfl (by decide) rfl ?_
                refine g_goto F 33 dX6_ageFor_97 (by decide) ?_
                refine g_sub F (lv' := [(5, .int (iI (v + 1))), (4, .int (iI (allPull (cl (mA (mA M 10 (fun _ => 0)) 2 (uI (M 2) c v)))))), (3, .int (iI v)), (2, .int (iI (M 2 c))), (0, .ref (ma 100)), (1, .int (iI c))]) [0, 1, 2, 4, 5, 6] rfl ?_
                exact ih33 _ (by omega) (v + 1) v (allPull (cl (mA (mA M 10 (fun _ => 0)) 2 (uI (M 2) c v)))) v rfl (by omega) (by first | (exfalso; omega) | exact smn_tS hs rfl rfl hv.1 (by omega) (by omega) | exact smn_fS (x := allPull (cl (mA (mA M 10 (fun _ => 0)) 2 (uI (M 2) c v)))) hs rfl (by omega) (by omega)) (by omega)
    refine g_sub F (lv' := [(5, .int (iI 0)), (4, .int (iI (-1))), (3, .int (iI 0)), (2, .int (iI (M 2 c))), (0, .ref (ma 100)), (1, .int (iI c))]) [0, 1, 2, 3, 4, 5] rfl ?_
    refine g_ws (ws' := mw κ ma (mA (mA M 10 (fun _ => 0)) 2 (uI (M 2) c (M 2 c)))) (by rw [uI_self]; rfl) ?_
    exact L33 _ 0 0 (-1) (M 2 c) rfl (by omega) rfl (by omega)
  · skip
    have c9 : ¬ (0 ≤ c ∧ c < 12) := b2i_f c9
    refine g_aload_n F 0 dX6_ageFor_12 rfl ?_
    refine g_iconst F dX6_ageFor_13 ?_
    refine g_callI F (stk := [.int (iI (-1)), .ref (ma 100)]) (st := []) (k_X6_refuse κ ma (mA M 10 (fun _ => 0)) (-1) (by omega)) cal_X6_refuse lm_X6_138 0 rfl rfl rfl rfl (by decide) rfl (Nat.le_of_ble_eq_true rfl) dX6_ageFor_14 (fun r14 ws14 _ hr14 => ?_)
    obtain ⟨rfl, rfl⟩ := hr14
    refine g_top (y := iI (-1)) rfl ?_
    refine g_ws (ws' := mw κ ma (mA (mA M 10 (fun _ => 0)) 11 (uI (M 11) (-(-1)) (M 11 (-(-1)) + 1)))) rfl ?_
    have hq : (-1) = qAgeFor (cl M) c := by unfold qAgeFor; (repeat' split) <;> omega
    exact K mw_same ⟨_, rfl, iIc hq, ⟨rfl, rfl, rfl, rfl, rfl, rfl, rfl, rfl, rfl, rfl, rfl, rfl, rfl, rfl, rfl, rfl, rfl, rfl⟩, (by rw [← hq]; exact (rfa_r (by omega)).symm)⟩ rfl dX6_ageFor_17
theorem dX6_bestOf_0 : decode cX6_bestOf 0 = .ok (.aload_n 0, 1) := by decide +kernel
theorem dX6_bestOf_1 : decode cX6_bestOf 1 = .ok (.iconst 0, 1) := by decide +kernel
theorem dX6_bestOf_2 : decode cX6_bestOf 2 = .ok (.putfield 91, 3) := by decide +kernel
theorem dX6_bestOf_5 : decode cX6_bestOf 5 = .ok (.iload_n 1, 1) := by decide +kernel
theorem dX6_bestOf_6 : decode cX6_bestOf 6 = .ok (.invokestatic 222, 3) := by decide +kernel
theorem dX6_bestOf_9 : decode cX6_bestOf 9 = .ok (.ifCond .eq 7, 3) := by decide +kernel
theorem dX6_bestOf_12 : decode cX6_bestOf 12 = .ok (.iconst 0, 1) := by decide +kernel
theorem dX6_bestOf_13 : decode cX6_bestOf 13 = .ok (.goto 4, 3) := by decide +kernel
theorem dX6_bestOf_16 : decode cX6_bestOf 16 = .ok (.iconst (-1), 1) := by decide +kernel
theorem dX6_bestOf_17 : decode cX6_bestOf 17 = .ok (.iload_n 2, 1) := by decide +kernel
theorem dX6_bestOf_18 : decode cX6_bestOf 18 = .ok (.iconst 1, 1) := by decide +kernel
theorem dX6_bestOf_19 : decode cX6_bestOf 19 = .ok (.invokestatic 247, 3) := by decide +kernel
theorem dX6_bestOf_22 : decode cX6_bestOf 22 = .ok (.istore_n 3, 1) := by decide +kernel
theorem dX6_bestOf_23 : decode cX6_bestOf 23 = .ok (.iload_n 3, 1) := by decide +kernel
theorem dX6_bestOf_24 : decode cX6_bestOf 24 = .ok (.ifCond .ge 9, 3) := by decide +kernel
theorem dX6_bestOf_27 : decode cX6_bestOf 27 = .ok (.aload_n 0, 1) := by decide +kernel
theorem dX6_bestOf_28 : decode cX6_bestOf 28 = .ok (.iload_n 3, 1) := by decide +kernel
theorem dX6_bestOf_29 : decode cX6_bestOf 29 = .ok (.invokevirtual 138, 3) := by decide +kernel
theorem dX6_bestOf_32 : decode cX6_bestOf 32 = .ok (.ireturn, 1) := by decide +kernel
theorem dX6_bestOf_33 : decode cX6_bestOf 33 = .ok (.iconst 0, 1) := by decide +kernel
theorem dX6_bestOf_34 : decode cX6_bestOf 34 = .ok (.istore 4, 2) := by decide +kernel
theorem dX6_bestOf_36 : decode cX6_bestOf 36 = .ok (.iconst (-1), 1) := by decide +kernel
theorem dX6_bestOf_37 : decode cX6_bestOf 37 = .ok (.istore 5, 2) := by decide +kernel
theorem dX6_bestOf_39 : decode cX6_bestOf 39 = .ok (.aload_n 0, 1) := by decide +kernel
theorem dX6_bestOf_40 : decode cX6_bestOf 40 = .ok (.invokevirtual 191, 3) := by decide +kernel
theorem dX6_bestOf_43 : decode cX6_bestOf 43 = .ok (.iconst 0, 1) := by decide +kernel
theorem dX6_bestOf_44 : decode cX6_bestOf 44 = .ok (.istore 6, 2) := by decide +kernel
theorem dX6_bestOf_46 : decode cX6_bestOf 46 = .ok (.iload 6, 2) := by decide +kernel
theorem dX6_bestOf_48 : decode cX6_bestOf 48 = .ok (.iload_n 2, 1) := by decide +kernel
theorem dX6_bestOf_49 : decode cX6_bestOf 49 = .ok (.ifCond .ne 8, 3) := by decide +kernel
theorem dX6_bestOf_52 : decode cX6_bestOf 52 = .ok (.bipush 6, 2) := by decide +kernel
theorem dX6_bestOf_54 : decode cX6_bestOf 54 = .ok (.goto 5, 3) := by decide +kernel
theorem dX6_bestOf_57 : decode cX6_bestOf 57 = .ok (.bipush 10, 2) := by decide +kernel
theorem dX6_bestOf_59 : decode cX6_bestOf 59 = .ok (.if_icmp .ge 104, 3) := by decide +kernel
theorem dX6_bestOf_62 : decode cX6_bestOf 62 = .ok (.aload_n 0, 1) := by decide +kernel
theorem dX6_bestOf_63 : decode cX6_bestOf 63 = .ok (.getfield 7, 3) := by decide +kernel
theorem dX6_bestOf_66 : decode cX6_bestOf 66 = .ok (.iload_n 1, 1) := by decide +kernel
theorem dX6_bestOf_67 : decode cX6_bestOf 67 = .ok (.iload_n 2, 1) := by decide +kernel
theorem dX6_bestOf_68 : decode cX6_bestOf 68 = .ok (.ifCond .ne 8, 3) := by decide +kernel
theorem dX6_bestOf_71 : decode cX6_bestOf 71 = .ok (.iload 6, 2) := by decide +kernel
theorem dX6_bestOf_73 : decode cX6_bestOf 73 = .ok (.goto 9, 3) := by decide +kernel
theorem dX6_bestOf_76 : decode cX6_bestOf 76 = .ok (.aload_n 0, 1) := by decide +kernel
theorem dX6_bestOf_77 : decode cX6_bestOf 77 = .ok (.getfield 7, 3) := by decide +kernel
theorem dX6_bestOf_80 : decode cX6_bestOf 80 = .ok (.iload_n 1, 1) := by decide +kernel
theorem dX6_bestOf_81 : decode cX6_bestOf 81 = .ok (.iaload, 1) := by decide +kernel
theorem dX6_bestOf_82 : decode cX6_bestOf 82 = .ok (.iastore, 1) := by decide +kernel
theorem dX6_bestOf_83 : decode cX6_bestOf 83 = .ok (.aload_n 0, 1) := by decide +kernel
theorem dX6_bestOf_84 : decode cX6_bestOf 84 = .ok (.getfield 13, 3) := by decide +kernel
theorem dX6_bestOf_87 : decode cX6_bestOf 87 = .ok (.iload_n 1, 1) := by decide +kernel
theorem dX6_bestOf_88 : decode cX6_bestOf 88 = .ok (.iload_n 2, 1) := by decide +kernel
theorem dX6_bestOf_89 : decode cX6_bestOf 89 = .ok (.iconst 1, 1) := by decide +kernel
theorem dX6_bestOf_90 : decode cX6_bestOf 90 = .ok (.if_icmp .ne 8, 3) := by decide +kernel
theorem dX6_bestOf_93 : decode cX6_bestOf 93 = .ok (.iload 6, 2) := by decide +kernel
theorem dX6_bestOf_95 : decode cX6_bestOf 95 = .ok (.goto 9, 3) := by decide +kernel
theorem dX6_bestOf_98 : decode cX6_bestOf 98 = .ok (.aload_n 0, 1) := by decide +kernel
theorem dX6_bestOf_99 : decode cX6_bestOf 99 = .ok (.getfield 13, 3) := by decide +kernel
theorem dX6_bestOf_102 : decode cX6_bestOf 102 = .ok (.iload_n 1, 1) := by decide +kernel
theorem dX6_bestOf_103 : decode cX6_bestOf 103 = .ok (.iaload, 1) := by decide +kernel
theorem dX6_bestOf_104 : decode cX6_bestOf 104 = .ok (.iastore, 1) := by decide +kernel
theorem dX6_bestOf_105 : decode cX6_bestOf 105 = .ok (.aload_n 0, 1) := by decide +kernel
theorem dX6_bestOf_106 : decode cX6_bestOf 106 = .ok (.invokevirtual 255, 3) := by decide +kernel
theorem dX6_bestOf_109 : decode cX6_bestOf 109 = .ok (.aload_n 0, 1) := by decide +kernel
theorem dX6_bestOf_110 : decode cX6_bestOf 110 = .ok (.invokevirtual 197, 3) := by decide +kernel
theorem dX6_bestOf_113 : decode cX6_bestOf 113 = .ok (.aload_n 0, 1) := by decide +kernel
theorem dX6_bestOf_114 : decode cX6_bestOf 114 = .ok (.getfield 61, 3) := by decide +kernel
theorem dX6_bestOf_117 : decode cX6_bestOf 117 = .ok (.iload_n 1, 1) := by decide +kernel
theorem dX6_bestOf_118 : decode cX6_bestOf 118 = .ok (.iaload, 1) := by decide +kernel
theorem dX6_bestOf_119 : decode cX6_bestOf 119 = .ok (.iload 5, 2) := by decide +kernel
theorem dX6_bestOf_121 : decode cX6_bestOf 121 = .ok (.if_icmp .le 8, 3) := by decide +kernel
theorem dX6_bestOf_124 : decode cX6_bestOf 124 = .ok (.iload 6, 2) := by decide +kernel
theorem dX6_bestOf_126 : decode cX6_bestOf 126 = .ok (.goto 5, 3) := by decide +kernel
theorem dX6_bestOf_129 : decode cX6_bestOf 129 = .ok (.iload 4, 2) := by decide +kernel
theorem dX6_bestOf_131 : decode cX6_bestOf 131 = .ok (.istore 4, 2) := by decide +kernel
theorem dX6_bestOf_133 : decode cX6_bestOf 133 = .ok (.aload_n 0, 1) := by decide +kernel
theorem dX6_bestOf_134 : decode cX6_bestOf 134 = .ok (.getfield 61, 3) := by decide +kernel
theorem dX6_bestOf_137 : decode cX6_bestOf 137 = .ok (.iload_n 1, 1) := by decide +kernel
theorem dX6_bestOf_138 : decode cX6_bestOf 138 = .ok (.iaload, 1) := by decide +kernel
theorem dX6_bestOf_139 : decode cX6_bestOf 139 = .ok (.iload 5, 2) := by decide +kernel
theorem dX6_bestOf_141 : decode cX6_bestOf 141 = .ok (.if_icmp .le 12, 3) := by decide +kernel
theorem dX6_bestOf_144 : decode cX6_bestOf 144 = .ok (.aload_n 0, 1) := by decide +kernel
theorem dX6_bestOf_145 : decode cX6_bestOf 145 = .ok (.getfield 61, 3) := by decide +kernel
theorem dX6_bestOf_148 : decode cX6_bestOf 148 = .ok (.iload_n 1, 1) := by decide +kernel
theorem dX6_bestOf_149 : decode cX6_bestOf 149 = .ok (.iaload, 1) := by decide +kernel
theorem dX6_bestOf_150 : decode cX6_bestOf 150 = .ok (.goto 5, 3) := by decide +kernel
theorem dX6_bestOf_153 : decode cX6_bestOf 153 = .ok (.iload 5, 2) := by decide +kernel
theorem dX6_bestOf_155 : decode cX6_bestOf 155 = .ok (.istore 5, 2) := by decide +kernel
theorem dX6_bestOf_157 : decode cX6_bestOf 157 = .ok (.iinc 6 1, 3) := by decide +kernel
theorem dX6_bestOf_160 : decode cX6_bestOf 160 = .ok (.goto (-114), 3) := by decide +kernel
theorem dX6_bestOf_163 : decode cX6_bestOf 163 = .ok (.iload 4, 2) := by decide +kernel
theorem dX6_bestOf_165 : decode cX6_bestOf 165 = .ok (.ireturn, 1) := by decide +kernel
set_option maxRecDepth 100000 in
set_option maxHeartbeats 4000000 in
theorem k_X6_bestOf (κ : Kp) (ma : Nat → Nat) (M : MS) (c : Int) (w : Int)  (ha_c : In32 c) (ha_w : In32 w) (ok : okC (cl M)) (hy : M 4 0 ≤ 999) : mI κ yX6_bestOf cX6_bestOf 7 .int 5 [.ref (ma 100), .int (iI c), .int (iI w)] (mw κ ma M) (qM κ ma M (qBestOf (cl M) c w)) := by
  refine mI_of (by decide) (Nat.le_of_ble_eq_true rfl) (fun E F K => ?_)
  refine g_lv (lv' := [(0, .ref (ma 100)), (1, .int (iI c)), (2, .int (iI w))]) rfl ?_
  refine g_aload_n F 0 dX6_bestOf_0 rfl ?_
  refine g_iconst F dX6_bestOf_1 ?_
  refine gm_put_10 F dX6_bestOf_2 ?_
  refine g_iload_n F 1 dX6_bestOf_5 rfl ?_
  refine g_callSI F (stk := [.int (iI c)]) (st := []) (k_X6_isCell κ (mw κ ma (mA M 10 (fun _ => 0))) c (by omega)) cal_X6_isCell lm_X6_222 rfl (by decide) rfl (Nat.le_of_ble_eq_true rfl) dX6_bestOf_6 (fun r6 ws6 _ hr6 => ?_)
  obtain ⟨rfl, rfl⟩ := hr6
  refine g_if_eq F 16 (b2i_in _) dX6_bestOf_9 (by decide) (fun c9 => ?_) (fun c9 => ?_)
  · skip
    have c9 : ¬ (0 ≤ c ∧ c < 12) := b2i_f c9
    refine g_iconst F dX6_bestOf_16 ?_
    refine g_iload_n F 2 dX6_bestOf_17 rfl ?_
    refine g_iconst F dX6_bestOf_18 ?_
    refine g_callSI F (stk := [.int (iI 1), .int (iI w), .int (iI (-1))]) (st := []) (k_X6_wrongBit κ (mw κ ma (mA M 10 (fun _ => 0))) (-1) w 1 (by omega)) cal_X6_wrongBit lm_X6_247 rfl (by decide) rfl (Nat.le_of_ble_eq_true rfl) dX6_bestOf_19 (fun r19 ws19 _ hr19 => ?_)
    obtain ⟨rfl, rfl⟩ := hr19
    have hwb19 := wb_spec (-1) w 1
    refine g_istore_n F (lv' := [(3, .int (iI (wbit (-1) w 1))), (0, .ref (ma 100)), (1, .int (iI c)), (2, .int (iI w))]) 3 dX6_bestOf_22 rfl (by decide) rfl ?_
    refine g_iload_n F 0 dX6_bestOf_23 rfl ?_
    refine g_if_ge F 33 (by omega) dX6_bestOf_24 (by decide) (fun c24 => ?_) (fun c24 => ?_)
    · skip
      refine g_iconst F dX6_bestOf_33 ?_
      refine g_istore F (lv' := [(4, .int (iI 0)), (3, .int (iI (wbit (-1) w 1))), (0, .ref (ma 100)), (1, .int (iI c)), (2, .int (iI w))]) dX6_bestOf_34 (by decide) rfl ?_
      refine g_iconst F dX6_bestOf_36 ?_
      refine g_istore F (lv' := [(5, .int (iI (-1))), (4, .int (iI 0)), (3, .int (iI (wbit (-1) w 1))), (0, .ref (ma 100)), (1, .int (iI c)), (2, .int (iI w))]) dX6_bestOf_37 (by decide) rfl ?_
      refine g_aload_n F 3 dX6_bestOf_39 rfl ?_
      refine g_callV F (stk := [.ref (ma 100)]) (st := []) (k_X6_think κ ma (mA M 10 (fun _ => 0))) cal_X6_think lm_X6_191 0 rfl rfl rfl rfl (by decide) rfl (Nat.le_of_ble_eq_true rfl) dX6_bestOf_40 (fun ws40 _ hr40 => ?_)
      obtain rfl := hr40
      refine g_ws (ws' := mw κ ma (thk (mA M 10 (fun _ => 0)))) rfl ?_
      refine g_iconst F dX6_bestOf_43 ?_
      refine g_istore F (lv' := [(6, .int (iI 0)), (5, .int (iI (-1))), (4, .int (iI 0)), (3, .int (iI (wbit (-1) w 1))), (0, .ref (ma 100)), (1, .int (iI c)), (2, .int (iI w))]) dX6_bestOf_44 (by decide) rfl ?_
      have L46 : ∀ (mz46 : Nat) (v : Int) (b : Int) (l : Int) (Gm : MS), (10 - v).toNat = mz46 → (0 ≤ v ∧ v ≤ 10 ∧ (w = 0 → v ≤ 6)) → (smx yes (fun v => lasts (oth (cl M) w c v) c) (fun v => v) (0, -1) v = (b, l)) → ((-1 ≤ l ∧ l ≤ 61) ∧ 0 ≤ b ∧ b ≤ v) → G E (mw κ ma (tst M Gm)) [(6, .int (iI v)), (5, .int (iI l)), (4, .int (iI b)), (3, .int (iI (wbit (-1) w 1))), (0, .ref (ma 100)), (1, .int (iI c)), (2, .int (iI w))] 46 [] := by
        intro mz46
        induction mz46 using Nat.strongRecOn with
        | _ mz46 ih46 =>
        intro v b l Gm hmz46 hv hs hl
        refine g_iload F 0 dX6_bestOf_46 rfl ?_
        refine g_iload_n F 6 dX6_bestOf_48 rfl ?_
        refine g_if_ne F 57 (by omega) dX6_bestOf_49 (by decide) (fun c49 => ?_) (fun c49 => ?_)
        · skip
          refine g_bipush F dX6_bestOf_57 (by decide +kernel) ?_
          refine g_icmp_ge F 163 (by omega) dX6_bestOf_59 (by decide) (fun c59 => ?_) (fun c59 => ?_)
          · skip
            refine g_iload F 2 dX6_bestOf_163 rfl ?_
            have e : sBestOf (cl M) c w (if w = 0 then 6 else 10) = (b, l) := by rw [show (if w = 0 then (6 : Int) else 10) = v by split <;> omega]; exact hs
            have e1 : (sBestOf (cl M) c w (if w = 0 then 6 else 10)).1 = b := by rw [e]
            have hq : b = qBestOf (cl M) c w := by unfold qBestOf; rw [e1]; (repeat' split) <;> omega
            exact K mw_same ⟨_, rfl, iIc hq, ⟨rfl, rfl, rfl, rfl, rfl, rfl, rfl, rfl, rfl, rfl, rfl, rfl, rfl, rfl, rfl, rfl, rfl, rfl⟩, (by rw [← hq]; show M 11 = _; exact (rfa_n (by omega)).symm)⟩ rfl dX6_bestOf_165
          · skip
            have hk : (0 ≤ M 0 c ∧ M 0 c ≤ 5) ∧ (0 ≤ M 1 c ∧ M 1 c ≤ 9) ∧ (0 ≤ M 2 c ∧ M 2 c ≤ 99) ∧ 0 ≤ M 3 c ∧ M 3 c ≤ 99 := ok.r (by omega) (by omega)
            refine g_aload_n F 4 dX6_bestOf_62 rfl ?_
            refine gm_get_0 F dX6_bestOf_63 ?_
            refine g_iload_n F 5 dX6_bestOf_66 rfl ?_
            refine g_iload_n F 6 dX6_bestOf_67 rfl ?_
            refine g_if_ne F 76 (by omega) dX6_bestOf_68 (by decide) (fun c68 => ?_) (fun c68 => ?_)
            · skip
              refine g_aload_n F 4 dX6_bestOf_76 rfl ?_
              refine gm_get_0 F dX6_bestOf_77 ?_
              refine g_iload_n F 5 dX6_bestOf_80 rfl ?_
              refine gm_ald_0 F (by omega) dX6_bestOf_81 ?_
              refine g_top (y := iI (M 0 c)) rfl ?_
              refine gm_ast_0 F (by omega) dX6_bestOf_82 ?_
              refine g_ws (ws' := mw κ ma (mA (tst M Gm) 0 (uI (M 0) c (M 0 c)))) rfl ?_
              refine g_aload_n F 4 dX6_bestOf_83 rfl ?_
              refine gm_get_1 F dX6_bestOf_84 ?_
              refine g_iload_n F 5 dX6_bestOf_87 rfl ?_
              refine g_iload_n F 6 dX6_bestOf_88 rfl ?_
              refine g_iconst F dX6_bestOf_89 ?_
              refine g_icmp_ne F 98 (by omega) dX6_bestOf_90 (by decide) (fun c90 => ?_) (fun c90 => ?_)
              · skip
                refine g_aload_n F 4 dX6_bestOf_98 rfl ?_
                refine gm_get_1 F dX6_bestOf_99 ?_
                refine g_iload_n F 5 dX6_bestOf_102 rfl ?_
                refine gm_ald_1 F (by omega) dX6_bestOf_103 ?_
                refine g_top (y := iI (M 1 c)) rfl ?_
                refine gm_ast_1 F (by omega) dX6_bestOf_104 ?_
                refine g_ws (ws' := mw κ ma (mA (mA (tst M Gm) 0 (uI (M 0) c (M 0 c))) 1 (uI (M 1) c (M 1 c)))) rfl ?_
                have hC : cl (mA (mA (tst M Gm) 0 (uI (M 0) c (M 0 c))) 1 (uI (M 1) c (M 1 c))) = oth (cl M) w c v := by first | (exfalso; omega) | (rw [oth_0 (by omega)]; show (uI (M 0) c v, uI (M 1) c (M 1 c), M 2, M 3, M 4 0) = (uI (M 0) c v, M 1, M 2, M 3, M 4 0); rw [uI_self]) | (rw [oth_1 (by omega)]; show (uI (M 0) c (M 0 c), uI (M 1) c v, M 2, M 3, M 4 0) = (M 0, uI (M 1) c v, M 2, M 3, M 4 0); rw [uI_self])
                have hpb := lasts_bd (cl (mA (mA (tst M Gm) 0 (uI (M 0) c (M 0 c))) 1 (uI (M 1) c (M 1 c)))) c
                refine g_aload_n F 4 dX6_bestOf_105 rfl ?_
                refine g_callV F (stk := [.ref (ma 100)]) (st := []) (k_X6_layLasts κ ma (mA (mA (tst M Gm) 0 (uI (M 0) c (M 0 c))) 1 (uI (M 1) c (M 1 c))) (show (M 4 0) ≤ 990000 from by omega) (by rw [hC]; exact oth_ok ok (by omega))) cal_X6_layLasts lm_X6_255 0 rfl rfl rfl rfl (by decide) rfl (Nat.le_of_ble_eq_true rfl) dX6_bestOf_106 (fun ws106 _ hr106 => ?_)
                obtain rfl := hr106
                refine g_ws (ws' := mw κ ma (mA (stC (mA (mA (tst M Gm) 0 (uI (M 0) c (M 0 c))) 1 (uI (M 1) c (M 1 c))) (goI 61 (cl (mA (mA (tst M Gm) 0 (uI (M 0) c (M 0 c))) 1 (uI (M 1) c (M 1 c)))))) 29 (lasts (cl (mA (mA (tst M Gm) 0 (uI (M 0) c (M 0 c))) 1 (uI (M 1) c (M 1 c))))))) rfl ?_
                refine g_aload_n F 4 dX6_bestOf_109 rfl ?_
                refine g_callV F (stk := [.ref (ma 100)]) (st := []) (k_X6_again κ ma (mA (stC (mA (mA (tst M Gm) 0 (uI (M 0) c (M 0 c))) 1 (uI (M 1) c (M 1 c))) (goI 61 (cl (mA (mA (tst M Gm) 0 (uI (M 0) c (M 0 c))) 1 (uI (M 1) c (M 1 c)))))) 29 (lasts (cl (mA (mA (tst M Gm) 0 (uI (M 0) c (M 0 c))) 1 (uI (M 1) c (M 1 c)))))) M (fun _ _ _ => rfl)) cal_X6_again lm_X6_197 0 rfl rfl rfl rfl (by decide) rfl (Nat.le_of_ble_eq_true rfl) dX6_bestOf_110 (fun ws110 _ hr110 => ?_)
                obtain rfl := hr110
                refine g_aload_n F 4 dX6_bestOf_113 rfl ?_
                refine gm_get_29 F dX6_bestOf_114 ?_
                refine g_iload_n F 5 dX6_bestOf_117 rfl ?_
                refine gm_ald_29 F (by omega) dX6_bestOf_118 ?_
                refine g_top (y := iI ((lasts (cl (mA (mA (tst M Gm) 0 (uI (M 0) c (M 0 c))) 1 (uI (M 1) c (M 1 c))))) c)) rfl ?_
                refine g_iload F 1 dX6_bestOf_119 rfl ?_
                refine g_icmp_le F 129 (by omega) dX6_bestOf_121 (by decide) (fun c121 => ?_) (fun c121 => ?_)
                · skip
                  refine g_iload F 2 dX6_bestOf_129 rfl ?_
                  refine g_istore F (lv' := [(4, .int (iI b)), (6, .int (iI v)), (5, .int (iI l)), (3, .int (iI (wbit (-1) w 1))), (0, .ref (ma 100)), (1, .int (iI c)), (2, .int (iI w))]) dX6_bestOf_131 (by decide) rfl ?_
                  refine g_aload_n F 4 dX6_bestOf_133 rfl ?_
                  refine gm_get_29 F dX6_bestOf_134 ?_
                  refine g_iload_n F 5 dX6_bestOf_137 rfl ?_
                  refine gm_ald_29 F (by omega) dX6_bestOf_138 ?_
                  refine g_top (y := iI ((lasts (cl (mA (mA (tst M Gm) 0 (uI (M 0) c (M 0 c))) 1 (uI (M 1) c (M 1 c))))) c)) rfl ?_
                  refine g_iload F 2 dX6_bestOf_139 rfl ?_
                  refine g_icmp_le F 153 (by omega) dX6_bestOf_141 (by decide) (fun c141 => ?_) (fun c141 => ?_)
                  · skip
                    refine g_iload F 2 dX6_bestOf_153 rfl ?_
                    refine g_istore F (lv' := [(5, .int (iI l)), (4, .int (iI b)), (6, .int (iI v)), (3, .int (iI (wbit (-1) w 1))), (0, .ref (ma 100)), (1, .int (iI c)), (2, .int (iI w))]) dX6_bestOf_155 (by decide) rfl ?_
                    refine g_iinc F (lv' := [(6, .int (iI (v + 1))), (5, .int (iI l)), (4, .int (iI b)), (3, .int (iI (wbit (-1) w 1))), (0, .ref (ma 100)), (1, .int (iI c)), (2, .int (iI w))]) 2 dX6_bestOf_157 rfl (by decide) rfl ?_
                    refine g_goto F 46 dX6_bestOf_160 (by decide) ?_
                    refine g_sub F (lv' := [(6, .int (iI (v + 1))), (5, .int (iI l)), (4, .int (iI b)), (3, .int (iI (wbit (-1) w 1))), (0, .ref (ma 100)), (1, .int (iI c)), (2, .int (iI w))]) [0, 1, 2, 3, 4, 5, 6] rfl ?_
                    refine g_ws (ws' := mw κ ma (tst M (agn (mA (stC (mA (mA (tst M Gm) 0 (uI (M 0) c (M 0 c))) 1 (uI (M 1) c (M 1 c))) (goI 61 (cl (mA (mA (tst M Gm) 0 (uI (M 0) c (M 0 c))) 1 (uI (M 1) c (M 1 c)))))) 29 (lasts (cl (mA (mA (tst M Gm) 0 (uI (M 0) c (M 0 c))) 1 (uI (M 1) c (M 1 c)))))) M))) rfl ?_
                    exact ih46 _ (by omega) (v + 1) b l (agn (mA (stC (mA (mA (tst M Gm) 0 (uI (M 0) c (M 0 c))) 1 (uI (M 1) c (M 1 c))) (goI 61 (cl (mA (mA (tst M Gm) 0 (uI (M 0) c (M 0 c))) 1 (uI (M 1) c (M 1 c)))))) 29 (lasts (cl (mA (mA (tst M Gm) 0 (uI (M 0) c (M 0 c))) 1 (uI (M 1) c (M 1 c)))))) M) rfl (by omega) (by first | (exfalso; omega) | exact smx_tx hs rfl (by show lasts (oth (cl M) w c v) c = _; rw [← hC]) hv.1 rfl (by omega) | exact smx_fx hs (by show lasts (oth (cl M) w c v) c = _; rw [← hC]) hv.1 (Or.inr (by omega))) (by omega)
                  · skip
                    refine g_aload_n F 4 dX6_bestOf_144 rfl ?_
                    refine gm_get_29 F dX6_bestOf_145 ?_
                    refine g_iload_n F 5 dX6_bestOf_148 rfl ?_
                    refine gm_ald_29 F (by omega) dX6_bestOf_149 ?_
                    refine g_top (y := iI ((lasts (cl (mA (mA (tst M Gm) 0 (uI (M 0) c (M 0 c))) 1 (uI (M 1) c (M 1 c))))) c)) rfl ?_
                    refine g_goto F 155 dX6_bestOf_150 (by decide) ?_
                    refine g_istore F (lv' := [(5, .int (iI ((lasts (cl (mA (mA (tst M Gm) 0 (uI (M 0) c (M 0 c))) 1 (uI (M 1) c (M 1 c))))) c))), (4, .int (iI b)), (6, .int (iI v)), (3, .int (iI (wbit (-1) w 1))), (0, .ref (ma 100)), (1, .int (iI c)), (2, .int (iI w))]) dX6_bestOf_155 (by decide) rfl ?_
                    refine g_iinc F (lv' := [(6, .int (iI (v + 1))), (5, .int (iI ((lasts (cl (mA (mA (tst M Gm) 0 (uI (M 0) c (M 0 c))) 1 (uI (M 1) c (M 1 c))))) c))), (4, .int (iI b)), (3, .int (iI (wbit (-1) w 1))), (0, .ref (ma 100)), (1, .int (iI c)), (2, .int (iI w))]) 2 dX6_bestOf_157 rfl (by decide) rfl ?_
                    refine g_goto F 46 dX6_bestOf_160 (by decide) ?_
                    refine g_sub F (lv' := [(6, .int (iI (v + 1))), (5, .int (iI ((lasts (cl (mA (mA (tst M Gm) 0 (uI (M 0) c (M 0 c))) 1 (uI (M 1) c (M 1 c))))) c))), (4, .int (iI b)), (3, .int (iI (wbit (-1) w 1))), (0, .ref (ma 100)), (1, .int (iI c)), (2, .int (iI w))]) [0, 1, 2, 3, 4, 5, 6] rfl ?_
                    refine g_ws (ws' := mw κ ma (tst M (agn (mA (stC (mA (mA (tst M Gm) 0 (uI (M 0) c (M 0 c))) 1 (uI (M 1) c (M 1 c))) (goI 61 (cl (mA (mA (tst M Gm) 0 (uI (M 0) c (M 0 c))) 1 (uI (M 1) c (M 1 c)))))) 29 (lasts (cl (mA (mA (tst M Gm) 0 (uI (M 0) c (M 0 c))) 1 (uI (M 1) c (M 1 c)))))) M))) rfl ?_
                    exact ih46 _ (by omega) (v + 1) b ((lasts (cl (mA (mA (tst M Gm) 0 (uI (M 0) c (M 0 c))) 1 (uI (M 1) c (M 1 c))))) c) (agn (mA (stC (mA (mA (tst M Gm) 0 (uI (M 0) c (M 0 c))) 1 (uI (M 1) c (M 1 c))) (goI 61 (cl (mA (mA (tst M Gm) 0 (uI (M 0) c (M 0 c))) 1 (uI (M 1) c (M 1 c)))))) 29 (lasts (cl (mA (mA (tst M Gm) 0 (uI (M 0) c (M 0 c))) 1 (uI (M 1) c (M 1 c)))))) M) rfl (by omega) (by first | (exfalso; omega) | exact smx_tx hs rfl (by show lasts (oth (cl M) w c v) c = _; rw [← hC]) hv.1 rfl (by omega) | exact smx_fx hs (by show lasts (oth (cl M) w c v) c = _; rw [← hC]) hv.1 (Or.inr (by omega))) (by omega)
                · skip
                  refine g_iload F 0 dX6_bestOf_124 rfl ?_
                  refine g_goto F 131 dX6_bestOf_126 (by decide) ?_
                  refine g_istore F (lv' := [(4, .int (iI v)), (6, .int (iI v)), (5, .int (iI l)), (3, .int (iI (wbit (-1) w 1))), (0, .ref (ma 100)), (1, .int (iI c)), (2, .int (iI w))]) dX6_bestOf_131 (by decide) rfl ?_
                  refine g_aload_n F 4 dX6_bestOf_133 rfl ?_
                  refine gm_get_29 F dX6_bestOf_134 ?_
                  refine g_iload_n F 5 dX6_bestOf_137 rfl ?_
                  refine gm_ald_29 F (by omega) dX6_bestOf_138 ?_
                  refine g_top (y := iI ((lasts (cl (mA (mA (tst M Gm) 0 (uI (M 0) c (M 0 c))) 1 (uI (M 1) c (M 1 c))))) c)) rfl ?_
                  refine g_iload F 2 dX6_bestOf_139 rfl ?_
                  refine g_icmp_le F 153 (by omega) dX6_bestOf_141 (by decide) (fun c141 => ?_) (fun c141 => ?_)
                  · skip
                    refine g_iload F 2 dX6_bestOf_153 rfl ?_
                    refine g_istore F (lv' := [(5, .int (iI l)), (4, .int (iI v)), (6, .int (iI v)), (3, .int (iI (wbit (-1) w 1))), (0, .ref (ma 100)), (1, .int (iI c)), (2, .int (iI w))]) dX6_bestOf_155 (by decide) rfl ?_
                    refine g_iinc F (lv' := [(6, .int (iI (v + 1))), (5, .int (iI l)), (4, .int (iI v)), (3, .int (iI (wbit (-1) w 1))), (0, .ref (ma 100)), (1, .int (iI c)), (2, .int (iI w))]) 2 dX6_bestOf_157 rfl (by decide) rfl ?_
                    refine g_goto F 46 dX6_bestOf_160 (by decide) ?_
                    refine g_sub F (lv' := [(6, .int (iI (v + 1))), (5, .int (iI l)), (4, .int (iI v)), (3, .int (iI (wbit (-1) w 1))), (0, .ref (ma 100)), (1, .int (iI c)), (2, .int (iI w))]) [0, 1, 2, 3, 4, 5, 6] rfl ?_
                    refine g_ws (ws' := mw κ ma (tst M (agn (mA (stC (mA (mA (tst M Gm) 0 (uI (M 0) c (M 0 c))) 1 (uI (M 1) c (M 1 c))) (goI 61 (cl (mA (mA (tst M Gm) 0 (uI (M 0) c (M 0 c))) 1 (uI (M 1) c (M 1 c)))))) 29 (lasts (cl (mA (mA (tst M Gm) 0 (uI (M 0) c (M 0 c))) 1 (uI (M 1) c (M 1 c)))))) M))) rfl ?_
                    exact ih46 _ (by omega) (v + 1) v l (agn (mA (stC (mA (mA (tst M Gm) 0 (uI (M 0) c (M 0 c))) 1 (uI (M 1) c (M 1 c))) (goI 61 (cl (mA (mA (tst M Gm) 0 (uI (M 0) c (M 0 c))) 1 (uI (M 1) c (M 1 c)))))) 29 (lasts (cl (mA (mA (tst M Gm) 0 (uI (M 0) c (M 0 c))) 1 (uI (M 1) c (M 1 c)))))) M) rfl (by omega) (by first | (exfalso; omega) | exact smx_tx hs rfl (by show lasts (oth (cl M) w c v) c = _; rw [← hC]) hv.1 rfl (by omega) | exact smx_fx hs (by show lasts (oth (cl M) w c v) c = _; rw [← hC]) hv.1 (Or.inr (by omega))) (by omega)
                  · skip
                    refine g_aload_n F 4 dX6_bestOf_144 rfl ?_
                    refine gm_get_29 F dX6_bestOf_145 ?_
                    refine g_iload_n F 5 dX6_bestOf_148 rfl ?_
                    refine gm_ald_29 F (by omega) dX6_bestOf_149 ?_
                    refine g_top (y := iI ((lasts (cl (mA (mA (tst M Gm) 0 (uI (M 0) c (M 0 c))) 1 (uI (M 1) c (M 1 c))))) c)) rfl ?_
                    refine g_goto F 155 dX6_bestOf_150 (by decide) ?_
                    refine g_istore F (lv' := [(5, .int (iI ((lasts (cl (mA (mA (tst M Gm) 0 (uI (M 0) c (M 0 c))) 1 (uI (M 1) c (M 1 c))))) c))), (4, .int (iI v)), (6, .int (iI v)), (3, .int (iI (wbit (-1) w 1))), (0, .ref (ma 100)), (1, .int (iI c)), (2, .int (iI w))]) dX6_bestOf_155 (by decide) rfl ?_
                    refine g_iinc F (lv' := [(6, .int (iI (v + 1))), (5, .int (iI ((lasts (cl (mA (mA (tst M Gm) 0 (uI (M 0) c (M 0 c))) 1 (uI (M 1) c (M 1 c))))) c))), (4, .int (iI v)), (3, .int (iI (wbit (-1) w 1))), (0, .ref (ma 100)), (1, .int (iI c)), (2, .int (iI w))]) 2 dX6_bestOf_157 rfl (by decide) rfl ?_
                    refine g_goto F 46 dX6_bestOf_160 (by decide) ?_
                    refine g_sub F (lv' := [(6, .int (iI (v + 1))), (5, .int (iI ((lasts (cl (mA (mA (tst M Gm) 0 (uI (M 0) c (M 0 c))) 1 (uI (M 1) c (M 1 c))))) c))), (4, .int (iI v)), (3, .int (iI (wbit (-1) w 1))), (0, .ref (ma 100)), (1, .int (iI c)), (2, .int (iI w))]) [0, 1, 2, 3, 4, 5, 6] rfl ?_
                    refine g_ws (ws' := mw κ ma (tst M (agn (mA (stC (mA (mA (tst M Gm) 0 (uI (M 0) c (M 0 c))) 1 (uI (M 1) c (M 1 c))) (goI 61 (cl (mA (mA (tst M Gm) 0 (uI (M 0) c (M 0 c))) 1 (uI (M 1) c (M 1 c)))))) 29 (lasts (cl (mA (mA (tst M Gm) 0 (uI (M 0) c (M 0 c))) 1 (uI (M 1) c (M 1 c)))))) M))) rfl ?_
                    exact ih46 _ (by omega) (v + 1) v ((lasts (cl (mA (mA (tst M Gm) 0 (uI (M 0) c (M 0 c))) 1 (uI (M 1) c (M 1 c))))) c) (agn (mA (stC (mA (mA (tst M Gm) 0 (uI (M 0) c (M 0 c))) 1 (uI (M 1) c (M 1 c))) (goI 61 (cl (mA (mA (tst M Gm) 0 (uI (M 0) c (M 0 c))) 1 (uI (M 1) c (M 1 c)))))) 29 (lasts (cl (mA (mA (tst M Gm) 0 (uI (M 0) c (M 0 c))) 1 (uI (M 1) c (M 1 c)))))) M) rfl (by omega) (by first | (exfalso; omega) | exact smx_tx hs rfl (by show lasts (oth (cl M) w c v) c = _; rw [← hC]) hv.1 rfl (by omega) | exact smx_fx hs (by show lasts (oth (cl M) w c v) c = _; rw [← hC]) hv.1 (Or.inr (by omega))) (by omega)
              · skip
                refine g_iload F 0 dX6_bestOf_93 rfl ?_
                refine g_goto F 104 dX6_bestOf_95 (by decide) ?_
                refine gm_ast_1 F (by omega) dX6_bestOf_104 ?_
                refine g_ws (ws' := mw κ ma (mA (mA (tst M Gm) 0 (uI (M 0) c (M 0 c))) 1 (uI (M 1) c v))) rfl ?_
                have hC : cl (mA (mA (tst M Gm) 0 (uI (M 0) c (M 0 c))) 1 (uI (M 1) c v)) = oth (cl M) w c v := by first | (exfalso; omega) | (rw [oth_0 (by omega)]; show (uI (M 0) c v, uI (M 1) c (M 1 c), M 2, M 3, M 4 0) = (uI (M 0) c v, M 1, M 2, M 3, M 4 0); rw [uI_self]) | (rw [oth_1 (by omega)]; show (uI (M 0) c (M 0 c), uI (M 1) c v, M 2, M 3, M 4 0) = (M 0, uI (M 1) c v, M 2, M 3, M 4 0); rw [uI_self])
                have hpb := lasts_bd (cl (mA (mA (tst M Gm) 0 (uI (M 0) c (M 0 c))) 1 (uI (M 1) c v))) c
                refine g_aload_n F 4 dX6_bestOf_105 rfl ?_
                refine g_callV F (stk := [.ref (ma 100)]) (st := []) (k_X6_layLasts κ ma (mA (mA (tst M Gm) 0 (uI (M 0) c (M 0 c))) 1 (uI (M 1) c v)) (show (M 4 0) ≤ 990000 from by omega) (by rw [hC]; exact oth_ok ok (by omega))) cal_X6_layLasts lm_X6_255 0 rfl rfl rfl rfl (by decide) rfl (Nat.le_of_ble_eq_true rfl) dX6_bestOf_106 (fun ws106 _ hr106 => ?_)
                obtain rfl := hr106
                refine g_ws (ws' := mw κ ma (mA (stC (mA (mA (tst M Gm) 0 (uI (M 0) c (M 0 c))) 1 (uI (M 1) c v)) (goI 61 (cl (mA (mA (tst M Gm) 0 (uI (M 0) c (M 0 c))) 1 (uI (M 1) c v))))) 29 (lasts (cl (mA (mA (tst M Gm) 0 (uI (M 0) c (M 0 c))) 1 (uI (M 1) c v)))))) rfl ?_
                refine g_aload_n F 4 dX6_bestOf_109 rfl ?_
                refine g_callV F (stk := [.ref (ma 100)]) (st := []) (k_X6_again κ ma (mA (stC (mA (mA (tst M Gm) 0 (uI (M 0) c (M 0 c))) 1 (uI (M 1) c v)) (goI 61 (cl (mA (mA (tst M Gm) 0 (uI (M 0) c (M 0 c))) 1 (uI (M 1) c v))))) 29 (lasts (cl (mA (mA (tst M Gm) 0 (uI (M 0) c (M 0 c))) 1 (uI (M 1) c v))))) M (fun _ _ _ => rfl)) cal_X6_again lm_X6_197 0 rfl rfl rfl rfl (by decide) rfl (Nat.le_of_ble_eq_true rfl) dX6_bestOf_110 (fun ws110 _ hr110 => ?_)
                obtain rfl := hr110
                refine g_aload_n F 4 dX6_bestOf_113 rfl ?_
                refine gm_get_29 F dX6_bestOf_114 ?_
                refine g_iload_n F 5 dX6_bestOf_117 rfl ?_
                refine gm_ald_29 F (by omega) dX6_bestOf_118 ?_
                refine g_top (y := iI ((lasts (cl (mA (mA (tst M Gm) 0 (uI (M 0) c (M 0 c))) 1 (uI (M 1) c v)))) c)) rfl ?_
                refine g_iload F 1 dX6_bestOf_119 rfl ?_
                refine g_icmp_le F 129 (by omega) dX6_bestOf_121 (by decide) (fun c121 => ?_) (fun c121 => ?_)
                · skip
                  refine g_iload F 2 dX6_bestOf_129 rfl ?_
                  refine g_istore F (lv' := [(4, .int (iI b)), (6, .int (iI v)), (5, .int (iI l)), (3, .int (iI (wbit (-1) w 1))), (0, .ref (ma 100)), (1, .int (iI c)), (2, .int (iI w))]) dX6_bestOf_131 (by decide) rfl ?_
                  refine g_aload_n F 4 dX6_bestOf_133 rfl ?_
                  refine gm_get_29 F dX6_bestOf_134 ?_
                  refine g_iload_n F 5 dX6_bestOf_137 rfl ?_
                  refine gm_ald_29 F (by omega) dX6_bestOf_138 ?_
                  refine g_top (y := iI ((lasts (cl (mA (mA (tst M Gm) 0 (uI (M 0) c (M 0 c))) 1 (uI (M 1) c v)))) c)) rfl ?_
                  refine g_iload F 2 dX6_bestOf_139 rfl ?_
                  refine g_icmp_le F 153 (by omega) dX6_bestOf_141 (by decide) (fun c141 => ?_) (fun c141 => ?_)
                  · skip
                    refine g_iload F 2 dX6_bestOf_153 rfl ?_
                    refine g_istore F (lv' := [(5, .int (iI l)), (4, .int (iI b)), (6, .int (iI v)), (3, .int (iI (wbit (-1) w 1))), (0, .ref (ma 100)), (1, .int (iI c)), (2, .int (iI w))]) dX6_bestOf_155 (by decide) rfl ?_
                    refine g_iinc F (lv' := [(6, .int (iI (v + 1))), (5, .int (iI l)), (4, .int (iI b)), (3, .int (iI (wbit (-1) w 1))), (0, .ref (ma 100)), (1, .int (iI c)), (2, .int (iI w))]) 2 dX6_bestOf_157 rfl (by decide) rfl ?_
                    refine g_goto F 46 dX6_bestOf_160 (by decide) ?_
                    refine g_sub F (lv' := [(6, .int (iI (v + 1))), (5, .int (iI l)), (4, .int (iI b)), (3, .int (iI (wbit (-1) w 1))), (0, .ref (ma 100)), (1, .int (iI c)), (2, .int (iI w))]) [0, 1, 2, 3, 4, 5, 6] rfl ?_
                    refine g_ws (ws' := mw κ ma (tst M (agn (mA (stC (mA (mA (tst M Gm) 0 (uI (M 0) c (M 0 c))) 1 (uI (M 1) c v)) (goI 61 (cl (mA (mA (tst M Gm) 0 (uI (M 0) c (M 0 c))) 1 (uI (M 1) c v))))) 29 (lasts (cl (mA (mA (tst M Gm) 0 (uI (M 0) c (M 0 c))) 1 (uI (M 1) c v))))) M))) rfl ?_
                    exact ih46 _ (by omega) (v + 1) b l (agn (mA (stC (mA (mA (tst M Gm) 0 (uI (M 0) c (M 0 c))) 1 (uI (M 1) c v)) (goI 61 (cl (mA (mA (tst M Gm) 0 (uI (M 0) c (M 0 c))) 1 (uI (M 1) c v))))) 29 (lasts (cl (mA (mA (tst M Gm) 0 (uI (M 0) c (M 0 c))) 1 (uI (M 1) c v))))) M) rfl (by omega) (by first | (exfalso; omega) | exact smx_tx hs rfl (by show lasts (oth (cl M) w c v) c = _; rw [← hC]) hv.1 rfl (by omega) | exact smx_fx hs (by show lasts (oth (cl M) w c v) c = _; rw [← hC]) hv.1 (Or.inr (by omega))) (by omega)
                  · skip
                    refine g_aload_n F 4 dX6_bestOf_144 rfl ?_
                    refine gm_get_29 F dX6_bestOf_145 ?_
                    refine g_iload_n F 5 dX6_bestOf_148 rfl ?_
                    refine gm_ald_29 F (by omega) dX6_bestOf_149 ?_
                    refine g_top (y := iI ((lasts (cl (mA (mA (tst M Gm) 0 (uI (M 0) c (M 0 c))) 1 (uI (M 1) c v)))) c)) rfl ?_
                    refine g_goto F 155 dX6_bestOf_150 (by decide) ?_
                    refine g_istore F (lv' := [(5, .int (iI ((lasts (cl (mA (mA (tst M Gm) 0 (uI (M 0) c (M 0 c))) 1 (uI (M 1) c v)))) c))), (4, .int (iI b)), (6, .int (iI v)), (3, .int (iI (wbit (-1) w 1))), (0, .ref (ma 100)), (1, .int (iI c)), (2, .int (iI w))]) dX6_bestOf_155 (by decide) rfl ?_
                    refine g_iinc F (lv' := [(6, .int (iI (v + 1))), (5, .int (iI ((lasts (cl (mA (mA (tst M Gm) 0 (uI (M 0) c (M 0 c))) 1 (uI (M 1) c v)))) c))), (4, .int (iI b)), (3, .int (iI (wbit (-1) w 1))), (0, .ref (ma 100)), (1, .int (iI c)), (2, .int (iI w))]) 2 dX6_bestOf_157 rfl (by decide) rfl ?_
                    refine g_goto F 46 dX6_bestOf_160 (by decide) ?_
                    refine g_sub F (lv' := [(6, .int (iI (v + 1))), (5, .int (iI ((lasts (cl (mA (mA (tst M Gm) 0 (uI (M 0) c (M 0 c))) 1 (uI (M 1) c v)))) c))), (4, .int (iI b)), (3, .int (iI (wbit (-1) w 1))), (0, .ref (ma 100)), (1, .int (iI c)), (2, .int (iI w))]) [0, 1, 2, 3, 4, 5, 6] rfl ?_
                    refine g_ws (ws' := mw κ ma (tst M (agn (mA (stC (mA (mA (tst M Gm) 0 (uI (M 0) c (M 0 c))) 1 (uI (M 1) c v)) (goI 61 (cl (mA (mA (tst M Gm) 0 (uI (M 0) c (M 0 c))) 1 (uI (M 1) c v))))) 29 (lasts (cl (mA (mA (tst M Gm) 0 (uI (M 0) c (M 0 c))) 1 (uI (M 1) c v))))) M))) rfl ?_
                    exact ih46 _ (by omega) (v + 1) b ((lasts (cl (mA (mA (tst M Gm) 0 (uI (M 0) c (M 0 c))) 1 (uI (M 1) c v)))) c) (agn (mA (stC (mA (mA (tst M Gm) 0 (uI (M 0) c (M 0 c))) 1 (uI (M 1) c v)) (goI 61 (cl (mA (mA (tst M Gm) 0 (uI (M 0) c (M 0 c))) 1 (uI (M 1) c v))))) 29 (lasts (cl (mA (mA (tst M Gm) 0 (uI (M 0) c (M 0 c))) 1 (uI (M 1) c v))))) M) rfl (by omega) (by first | (exfalso; omega) | exact smx_tx hs rfl (by show lasts (oth (cl M) w c v) c = _; rw [← hC]) hv.1 rfl (by omega) | exact smx_fx hs (by show lasts (oth (cl M) w c v) c = _; rw [← hC]) hv.1 (Or.inr (by omega))) (by omega)
                · skip
                  refine g_iload F 0 dX6_bestOf_124 rfl ?_
                  refine g_goto F 131 dX6_bestOf_126 (by decide) ?_
                  refine g_istore F (lv' := [(4, .int (iI v)), (6, .int (iI v)), (5, .int (iI l)), (3, .int (iI (wbit (-1) w 1))), (0, .ref (ma 100)), (1, .int (iI c)), (2, .int (iI w))]) dX6_bestOf_131 (by decide) rfl ?_
                  refine g_aload_n F 4 dX6_bestOf_133 rfl ?_
                  refine gm_get_29 F dX6_bestOf_134 ?_
                  refine g_iload_n F 5 dX6_bestOf_137 rfl ?_
                  refine gm_ald_29 F (by omega) dX6_bestOf_138 ?_
                  refine g_top (y := iI ((lasts (cl (mA (mA (tst M Gm) 0 (uI (M 0) c (M 0 c))) 1 (uI (M 1) c v)))) c)) rfl ?_
                  refine g_iload F 2 dX6_bestOf_139 rfl ?_
                  refine g_icmp_le F 153 (by omega) dX6_bestOf_141 (by decide) (fun c141 => ?_) (fun c141 => ?_)
                  · skip
                    refine g_iload F 2 dX6_bestOf_153 rfl ?_
                    refine g_istore F (lv' := [(5, .int (iI l)), (4, .int (iI v)), (6, .int (iI v)), (3, .int (iI (wbit (-1) w 1))), (0, .ref (ma 100)), (1, .int (iI c)), (2, .int (iI w))]) dX6_bestOf_155 (by decide) rfl ?_
                    refine g_iinc F (lv' := [(6, .int (iI (v + 1))), (5, .int (iI l)), (4, .int (iI v)), (3, .int (iI (wbit (-1) w 1))), (0, .ref (ma 100)), (1, .int (iI c)), (2, .int (iI w))]) 2 dX6_bestOf_157 rfl (by decide) rfl ?_
                    refine g_goto F 46 dX6_bestOf_160 (by decide) ?_
                    refine g_sub F (lv' := [(6, .int (iI (v + 1))), (5, .int (iI l)), (4, .int (iI v)), (3, .int (iI (wbit (-1) w 1))), (0, .ref (ma 100)), (1, .int (iI c)), (2, .int (iI w))]) [0, 1, 2, 3, 4, 5, 6] rfl ?_
                    refine g_ws (ws' := mw κ ma (tst M (agn (mA (stC (mA (mA (tst M Gm) 0 (uI (M 0) c (M 0 c))) 1 (uI (M 1) c v)) (goI 61 (cl (mA (mA (tst M Gm) 0 (uI (M 0) c (M 0 c))) 1 (uI (M 1) c v))))) 29 (lasts (cl (mA (mA (tst M Gm) 0 (uI (M 0) c (M 0 c))) 1 (uI (M 1) c v))))) M))) rfl ?_
                    exact ih46 _ (by omega) (v + 1) v l (agn (mA (stC (mA (mA (tst M Gm) 0 (uI (M 0) c (M 0 c))) 1 (uI (M 1) c v)) (goI 61 (cl (mA (mA (tst M Gm) 0 (uI (M 0) c (M 0 c))) 1 (uI (M 1) c v))))) 29 (lasts (cl (mA (mA (tst M Gm) 0 (uI (M 0) c (M 0 c))) 1 (uI (M 1) c v))))) M) rfl (by omega) (by first | (exfalso; omega) | exact smx_tx hs rfl (by show lasts (oth (cl M) w c v) c = _; rw [← hC]) hv.1 rfl (by omega) | exact smx_fx hs (by show lasts (oth (cl M) w c v) c = _; rw [← hC]) hv.1 (Or.inr (by omega))) (by omega)
                  · skip
                    refine g_aload_n F 4 dX6_bestOf_144 rfl ?_
                    refine gm_get_29 F dX6_bestOf_145 ?_
                    refine g_iload_n F 5 dX6_bestOf_148 rfl ?_
                    refine gm_ald_29 F (by omega) dX6_bestOf_149 ?_
                    refine g_top (y := iI ((lasts (cl (mA (mA (tst M Gm) 0 (uI (M 0) c (M 0 c))) 1 (uI (M 1) c v)))) c)) rfl ?_
                    refine g_goto F 155 dX6_bestOf_150 (by decide) ?_
                    refine g_istore F (lv' := [(5, .int (iI ((lasts (cl (mA (mA (tst M Gm) 0 (uI (M 0) c (M 0 c))) 1 (uI (M 1) c v)))) c))), (4, .int (iI v)), (6, .int (iI v)), (3, .int (iI (wbit (-1) w 1))), (0, .ref (ma 100)), (1, .int (iI c)), (2, .int (iI w))]) dX6_bestOf_155 (by decide) rfl ?_
                    refine g_iinc F (lv' := [(6, .int (iI (v + 1))), (5, .int (iI ((lasts (cl (mA (mA (tst M Gm) 0 (uI (M 0) c (M 0 c))) 1 (uI (M 1) c v)))) c))), (4, .int (iI v)), (3, .int (iI (wbit (-1) w 1))), (0, .ref (ma 100)), (1, .int (iI c)), (2, .int (iI w))]) 2 dX6_bestOf_157 rfl (by decide) rfl ?_
                    refine g_goto F 46 dX6_bestOf_160 (by decide) ?_
                    refine g_sub F (lv' := [(6, .int (iI (v + 1))), (5, .int (iI ((lasts (cl (mA (mA (tst M Gm) 0 (uI (M 0) c (M 0 c))) 1 (uI (M 1) c v)))) c))), (4, .int (iI v)), (3, .int (iI (wbit (-1) w 1))), (0, .ref (ma 100)), (1, .int (iI c)), (2, .int (iI w))]) [0, 1, 2, 3, 4, 5, 6] rfl ?_
                    refine g_ws (ws' := mw κ ma (tst M (agn (mA (stC (mA (mA (tst M Gm) 0 (uI (M 0) c (M 0 c))) 1 (uI (M 1) c v)) (goI 61 (cl (mA (mA (tst M Gm) 0 (uI (M 0) c (M 0 c))) 1 (uI (M 1) c v))))) 29 (lasts (cl (mA (mA (tst M Gm) 0 (uI (M 0) c (M 0 c))) 1 (uI (M 1) c v))))) M))) rfl ?_
                    exact ih46 _ (by omega) (v + 1) v ((lasts (cl (mA (mA (tst M Gm) 0 (uI (M 0) c (M 0 c))) 1 (uI (M 1) c v)))) c) (agn (mA (stC (mA (mA (tst M Gm) 0 (uI (M 0) c (M 0 c))) 1 (uI (M 1) c v)) (goI 61 (cl (mA (mA (tst M Gm) 0 (uI (M 0) c (M 0 c))) 1 (uI (M 1) c v))))) 29 (lasts (cl (mA (mA (tst M Gm) 0 (uI (M 0) c (M 0 c))) 1 (uI (M 1) c v))))) M) rfl (by omega) (by first | (exfalso; omega) | exact smx_tx hs rfl (by show lasts (oth (cl M) w c v) c = _; rw [← hC]) hv.1 rfl (by omega) | exact smx_fx hs (by show lasts (oth (cl M) w c v) c = _; rw [← hC]) hv.1 (Or.inr (by omega))) (by omega)
            · skip
              refine g_iload F 0 dX6_bestOf_71 rfl ?_
              refine g_goto F 82 dX6_bestOf_73 (by decide) ?_
              refine gm_ast_0 F (by omega) dX6_bestOf_82 ?_
              refine g_ws (ws' := mw κ ma (mA (tst M Gm) 0 (uI (M 0) c v))) rfl ?_
              refine g_aload_n F 4 dX6_bestOf_83 rfl ?_
              refine gm_get_1 F dX6_bestOf_84 ?_
              refine g_iload_n F 5 dX6_bestOf_87 rfl ?_
              refine g_iload_n F 6 dX6_bestOf_88 rfl ?_
              refine g_iconst F dX6_bestOf_89 ?_
              refine g_icmp_ne F 98 (by omega) dX6_bestOf_90 (by decide) (fun c90 => ?_) (fun c90 => ?_)
              · skip
                refine g_aload_n F 4 dX6_bestOf_98 rfl ?_
                refine gm_get_1 F dX6_bestOf_99 ?_
                refine g_iload_n F 5 dX6_bestOf_102 rfl ?_
                refine gm_ald_1 F (by omega) dX6_bestOf_103 ?_
                refine g_top (y := iI (M 1 c)) rfl ?_
                refine gm_ast_1 F (by omega) dX6_bestOf_104 ?_
                refine g_ws (ws' := mw κ ma (mA (mA (tst M Gm) 0 (uI (M 0) c v)) 1 (uI (M 1) c (M 1 c)))) rfl ?_
                have hC : cl (mA (mA (tst M Gm) 0 (uI (M 0) c v)) 1 (uI (M 1) c (M 1 c))) = oth (cl M) w c v := by first | (exfalso; omega) | (rw [oth_0 (by omega)]; show (uI (M 0) c v, uI (M 1) c (M 1 c), M 2, M 3, M 4 0) = (uI (M 0) c v, M 1, M 2, M 3, M 4 0); rw [uI_self]) | (rw [oth_1 (by omega)]; show (uI (M 0) c (M 0 c), uI (M 1) c v, M 2, M 3, M 4 0) = (M 0, uI (M 1) c v, M 2, M 3, M 4 0); rw [uI_self])
                have hpb := lasts_bd (cl (mA (mA (tst M Gm) 0 (uI (M 0) c v)) 1 (uI (M 1) c (M 1 c)))) c
                refine g_aload_n F 4 dX6_bestOf_105 rfl ?_
                refine g_callV F (stk := [.ref (ma 100)]) (st := []) (k_X6_layLasts κ ma (mA (mA (tst M Gm) 0 (uI (M 0) c v)) 1 (uI (M 1) c (M 1 c))) (show (M 4 0) ≤ 990000 from by omega) (by rw [hC]; exact oth_ok ok (by omega))) cal_X6_layLasts lm_X6_255 0 rfl rfl rfl rfl (by decide) rfl (Nat.le_of_ble_eq_true rfl) dX6_bestOf_106 (fun ws106 _ hr106 => ?_)
                obtain rfl := hr106
                refine g_ws (ws' := mw κ ma (mA (stC (mA (mA (tst M Gm) 0 (uI (M 0) c v)) 1 (uI (M 1) c (M 1 c))) (goI 61 (cl (mA (mA (tst M Gm) 0 (uI (M 0) c v)) 1 (uI (M 1) c (M 1 c)))))) 29 (lasts (cl (mA (mA (tst M Gm) 0 (uI (M 0) c v)) 1 (uI (M 1) c (M 1 c))))))) rfl ?_
                refine g_aload_n F 4 dX6_bestOf_109 rfl ?_
                refine g_callV F (stk := [.ref (ma 100)]) (st := []) (k_X6_again κ ma (mA (stC (mA (mA (tst M Gm) 0 (uI (M 0) c v)) 1 (uI (M 1) c (M 1 c))) (goI 61 (cl (mA (mA (tst M Gm) 0 (uI (M 0) c v)) 1 (uI (M 1) c (M 1 c)))))) 29 (lasts (cl (mA (mA (tst M Gm) 0 (uI (M 0) c v)) 1 (uI (M 1) c (M 1 c)))))) M (fun _ _ _ => rfl)) cal_X6_again lm_X6_197 0 rfl rfl rfl rfl (by decide) rfl (Nat.le_of_ble_eq_true rfl) dX6_bestOf_110 (fun ws110 _ hr110 => ?_)
                obtain rfl := hr110
                refine g_aload_n F 4 dX6_bestOf_113 rfl ?_
                refine gm_get_29 F dX6_bestOf_114 ?_
                refine g_iload_n F 5 dX6_bestOf_117 rfl ?_
                refine gm_ald_29 F (by omega) dX6_bestOf_118 ?_
                refine g_top (y := iI ((lasts (cl (mA (mA (tst M Gm) 0 (uI (M 0) c v)) 1 (uI (M 1) c (M 1 c))))) c)) rfl ?_
                refine g_iload F 1 dX6_bestOf_119 rfl ?_
                refine g_icmp_le F 129 (by omega) dX6_bestOf_121 (by decide) (fun c121 => ?_) (fun c121 => ?_)
                · skip
                  refine g_iload F 2 dX6_bestOf_129 rfl ?_
                  refine g_istore F (lv' := [(4, .int (iI b)), (6, .int (iI v)), (5, .int (iI l)), (3, .int (iI (wbit (-1) w 1))), (0, .ref (ma 100)), (1, .int (iI c)), (2, .int (iI w))]) dX6_bestOf_131 (by decide) rfl ?_
                  refine g_aload_n F 4 dX6_bestOf_133 rfl ?_
                  refine gm_get_29 F dX6_bestOf_134 ?_
                  refine g_iload_n F 5 dX6_bestOf_137 rfl ?_
                  refine gm_ald_29 F (by omega) dX6_bestOf_138 ?_
                  refine g_top (y := iI ((lasts (cl (mA (mA (tst M Gm) 0 (uI (M 0) c v)) 1 (uI (M 1) c (M 1 c))))) c)) rfl ?_
                  refine g_iload F 2 dX6_bestOf_139 rfl ?_
                  refine g_icmp_le F 153 (by omega) dX6_bestOf_141 (by decide) (fun c141 => ?_) (fun c141 => ?_)
                  · skip
                    refine g_iload F 2 dX6_bestOf_153 rfl ?_
                    refine g_istore F (lv' := [(5, .int (iI l)), (4, .int (iI b)), (6, .int (iI v)), (3, .int (iI (wbit (-1) w 1))), (0, .ref (ma 100)), (1, .int (iI c)), (2, .int (iI w))]) dX6_bestOf_155 (by decide) rfl ?_
                    refine g_iinc F (lv' := [(6, .int (iI (v + 1))), (5, .int (iI l)), (4, .int (iI b)), (3, .int (iI (wbit (-1) w 1))), (0, .ref (ma 100)), (1, .int (iI c)), (2, .int (iI w))]) 2 dX6_bestOf_157 rfl (by decide) rfl ?_
                    refine g_goto F 46 dX6_bestOf_160 (by decide) ?_
                    refine g_sub F (lv' := [(6, .int (iI (v + 1))), (5, .int (iI l)), (4, .int (iI b)), (3, .int (iI (wbit (-1) w 1))), (0, .ref (ma 100)), (1, .int (iI c)), (2, .int (iI w))]) [0, 1, 2, 3, 4, 5, 6] rfl ?_
                    refine g_ws (ws' := mw κ ma (tst M (agn (mA (stC (mA (mA (tst M Gm) 0 (uI (M 0) c v)) 1 (uI (M 1) c (M 1 c))) (goI 61 (cl (mA (mA (tst M Gm) 0 (uI (M 0) c v)) 1 (uI (M 1) c (M 1 c)))))) 29 (lasts (cl (mA (mA (tst M Gm) 0 (uI (M 0) c v)) 1 (uI (M 1) c (M 1 c)))))) M))) rfl ?_
                    exact ih46 _ (by omega) (v + 1) b l (agn (mA (stC (mA (mA (tst M Gm) 0 (uI (M 0) c v)) 1 (uI (M 1) c (M 1 c))) (goI 61 (cl (mA (mA (tst M Gm) 0 (uI (M 0) c v)) 1 (uI (M 1) c (M 1 c)))))) 29 (lasts (cl (mA (mA (tst M Gm) 0 (uI (M 0) c v)) 1 (uI (M 1) c (M 1 c)))))) M) rfl (by omega) (by first | (exfalso; omega) | exact smx_tx hs rfl (by show lasts (oth (cl M) w c v) c = _; rw [← hC]) hv.1 rfl (by omega) | exact smx_fx hs (by show lasts (oth (cl M) w c v) c = _; rw [← hC]) hv.1 (Or.inr (by omega))) (by omega)
                  · skip
                    refine g_aload_n F 4 dX6_bestOf_144 rfl ?_
                    refine gm_get_29 F dX6_bestOf_145 ?_
                    refine g_iload_n F 5 dX6_bestOf_148 rfl ?_
                    refine gm_ald_29 F (by omega) dX6_bestOf_149 ?_
                    refine g_top (y := iI ((lasts (cl (mA (mA (tst M Gm) 0 (uI (M 0) c v)) 1 (uI (M 1) c (M 1 c))))) c)) rfl ?_
                    refine g_goto F 155 dX6_bestOf_150 (by decide) ?_
                    refine g_istore F (lv' := [(5, .int (iI ((lasts (cl (mA (mA (tst M Gm) 0 (uI (M 0) c v)) 1 (uI (M 1) c (M 1 c))))) c))), (4, .int (iI b)), (6, .int (iI v)), (3, .int (iI (wbit (-1) w 1))), (0, .ref (ma 100)), (1, .int (iI c)), (2, .int (iI w))]) dX6_bestOf_155 (by decide) rfl ?_
                    refine g_iinc F (lv' := [(6, .int (iI (v + 1))), (5, .int (iI ((lasts (cl (mA (mA (tst M Gm) 0 (uI (M 0) c v)) 1 (uI (M 1) c (M 1 c))))) c))), (4, .int (iI b)), (3, .int (iI (wbit (-1) w 1))), (0, .ref (ma 100)), (1, .int (iI c)), (2, .int (iI w))]) 2 dX6_bestOf_157 rfl (by decide) rfl ?_
                    refine g_goto F 46 dX6_bestOf_160 (by decide) ?_
                    refine g_sub F (lv' := [(6, .int (iI (v + 1))), (5, .int (iI ((lasts (cl (mA (mA (tst M Gm) 0 (uI (M 0) c v)) 1 (uI (M 1) c (M 1 c))))) c))), (4, .int (iI b)), (3, .int (iI (wbit (-1) w 1))), (0, .ref (ma 100)), (1, .int (iI c)), (2, .int (iI w))]) [0, 1, 2, 3, 4, 5, 6] rfl ?_
                    refine g_ws (ws' := mw κ ma (tst M (agn (mA (stC (mA (mA (tst M Gm) 0 (uI (M 0) c v)) 1 (uI (M 1) c (M 1 c))) (goI 61 (cl (mA (mA (tst M Gm) 0 (uI (M 0) c v)) 1 (uI (M 1) c (M 1 c)))))) 29 (lasts (cl (mA (mA (tst M Gm) 0 (uI (M 0) c v)) 1 (uI (M 1) c (M 1 c)))))) M))) rfl ?_
                    exact ih46 _ (by omega) (v + 1) b ((lasts (cl (mA (mA (tst M Gm) 0 (uI (M 0) c v)) 1 (uI (M 1) c (M 1 c))))) c) (agn (mA (stC (mA (mA (tst M Gm) 0 (uI (M 0) c v)) 1 (uI (M 1) c (M 1 c))) (goI 61 (cl (mA (mA (tst M Gm) 0 (uI (M 0) c v)) 1 (uI (M 1) c (M 1 c)))))) 29 (lasts (cl (mA (mA (tst M Gm) 0 (uI (M 0) c v)) 1 (uI (M 1) c (M 1 c)))))) M) rfl (by omega) (by first | (exfalso; omega) | exact smx_tx hs rfl (by show lasts (oth (cl M) w c v) c = _; rw [← hC]) hv.1 rfl (by omega) | exact smx_fx hs (by show lasts (oth (cl M) w c v) c = _; rw [← hC]) hv.1 (Or.inr (by omega))) (by omega)
                · skip
                  refine g_iload F 0 dX6_bestOf_124 rfl ?_
                  refine g_goto F 131 dX6_bestOf_126 (by decide) ?_
                  refine g_istore F (lv' := [(4, .int (iI v)), (6, .int (iI v)), (5, .int (iI l)), (3, .int (iI (wbit (-1) w 1))), (0, .ref (ma 100)), (1, .int (iI c)), (2, .int (iI w))]) dX6_bestOf_131 (by decide) rfl ?_
                  refine g_aload_n F 4 dX6_bestOf_133 rfl ?_
                  refine gm_get_29 F dX6_bestOf_134 ?_
                  refine g_iload_n F 5 dX6_bestOf_137 rfl ?_
                  refine gm_ald_29 F (by omega) dX6_bestOf_138 ?_
                  refine g_top (y := iI ((lasts (cl (mA (mA (tst M Gm) 0 (uI (M 0) c v)) 1 (uI (M 1) c (M 1 c))))) c)) rfl ?_
                  refine g_iload F 2 dX6_bestOf_139 rfl ?_
                  refine g_icmp_le F 153 (by omega) dX6_bestOf_141 (by decide) (fun c141 => ?_) (fun c141 => ?_)
                  · skip
                    refine g_iload F 2 dX6_bestOf_153 rfl ?_
                    refine g_istore F (lv' := [(5, .int (iI l)), (4, .int (iI v)), (6, .int (iI v)), (3, .int (iI (wbit (-1) w 1))), (0, .ref (ma 100)), (1, .int (iI c)), (2, .int (iI w))]) dX6_bestOf_155 (by decide) rfl ?_
                    refine g_iinc F (lv' := [(6, .int (iI (v + 1))), (5, .int (iI l)), (4, .int (iI v)), (3, .int (iI (wbit (-1) w 1))), (0, .ref (ma 100)), (1, .int (iI c)), (2, .int (iI w))]) 2 dX6_bestOf_157 rfl (by decide) rfl ?_
                    refine g_goto F 46 dX6_bestOf_160 (by decide) ?_
                    refine g_sub F (lv' := [(6, .int (iI (v + 1))), (5, .int (iI l)), (4, .int (iI v)), (3, .int (iI (wbit (-1) w 1))), (0, .ref (ma 100)), (1, .int (iI c)), (2, .int (iI w))]) [0, 1, 2, 3, 4, 5, 6] rfl ?_
                    refine g_ws (ws' := mw κ ma (tst M (agn (mA (stC (mA (mA (tst M Gm) 0 (uI (M 0) c v)) 1 (uI (M 1) c (M 1 c))) (goI 61 (cl (mA (mA (tst M Gm) 0 (uI (M 0) c v)) 1 (uI (M 1) c (M 1 c)))))) 29 (lasts (cl (mA (mA (tst M Gm) 0 (uI (M 0) c v)) 1 (uI (M 1) c (M 1 c)))))) M))) rfl ?_
                    exact ih46 _ (by omega) (v + 1) v l (agn (mA (stC (mA (mA (tst M Gm) 0 (uI (M 0) c v)) 1 (uI (M 1) c (M 1 c))) (goI 61 (cl (mA (mA (tst M Gm) 0 (uI (M 0) c v)) 1 (uI (M 1) c (M 1 c)))))) 29 (lasts (cl (mA (mA (tst M Gm) 0 (uI (M 0) c v)) 1 (uI (M 1) c (M 1 c)))))) M) rfl (by omega) (by first | (exfalso; omega) | exact smx_tx hs rfl (by show lasts (oth (cl M) w c v) c = _; rw [← hC]) hv.1 rfl (by omega) | exact smx_fx hs (by show lasts (oth (cl M) w c v) c = _; rw [← hC]) hv.1 (Or.inr (by omega))) (by omega)
                  · skip
                    refine g_aload_n F 4 dX6_bestOf_144 rfl ?_
                    refine gm_get_29 F dX6_bestOf_145 ?_
                    refine g_iload_n F 5 dX6_bestOf_148 rfl ?_
                    refine gm_ald_29 F (by omega) dX6_bestOf_149 ?_
                    refine g_top (y := iI ((lasts (cl (mA (mA (tst M Gm) 0 (uI (M 0) c v)) 1 (uI (M 1) c (M 1 c))))) c)) rfl ?_
                    refine g_goto F 155 dX6_bestOf_150 (by decide) ?_
                    refine g_istore F (lv' := [(5, .int (iI ((lasts (cl (mA (mA (tst M Gm) 0 (uI (M 0) c v)) 1 (uI (M 1) c (M 1 c))))) c))), (4, .int (iI v)), (6, .int (iI v)), (3, .int (iI (wbit (-1) w 1))), (0, .ref (ma 100)), (1, .int (iI c)), (2, .int (iI w))]) dX6_bestOf_155 (by decide) rfl ?_
                    refine g_iinc F (lv' := [(6, .int (iI (v + 1))), (5, .int (iI ((lasts (cl (mA (mA (tst M Gm) 0 (uI (M 0) c v)) 1 (uI (M 1) c (M 1 c))))) c))), (4, .int (iI v)), (3, .int (iI (wbit (-1) w 1))), (0, .ref (ma 100)), (1, .int (iI c)), (2, .int (iI w))]) 2 dX6_bestOf_157 rfl (by decide) rfl ?_
                    refine g_goto F 46 dX6_bestOf_160 (by decide) ?_
                    refine g_sub F (lv' := [(6, .int (iI (v + 1))), (5, .int (iI ((lasts (cl (mA (mA (tst M Gm) 0 (uI (M 0) c v)) 1 (uI (M 1) c (M 1 c))))) c))), (4, .int (iI v)), (3, .int (iI (wbit (-1) w 1))), (0, .ref (ma 100)), (1, .int (iI c)), (2, .int (iI w))]) [0, 1, 2, 3, 4, 5, 6] rfl ?_
                    refine g_ws (ws' := mw κ ma (tst M (agn (mA (stC (mA (mA (tst M Gm) 0 (uI (M 0) c v)) 1 (uI (M 1) c (M 1 c))) (goI 61 (cl (mA (mA (tst M Gm) 0 (uI (M 0) c v)) 1 (uI (M 1) c (M 1 c)))))) 29 (lasts (cl (mA (mA (tst M Gm) 0 (uI (M 0) c v)) 1 (uI (M 1) c (M 1 c)))))) M))) rfl ?_
                    exact ih46 _ (by omega) (v + 1) v ((lasts (cl (mA (mA (tst M Gm) 0 (uI (M 0) c v)) 1 (uI (M 1) c (M 1 c))))) c) (agn (mA (stC (mA (mA (tst M Gm) 0 (uI (M 0) c v)) 1 (uI (M 1) c (M 1 c))) (goI 61 (cl (mA (mA (tst M Gm) 0 (uI (M 0) c v)) 1 (uI (M 1) c (M 1 c)))))) 29 (lasts (cl (mA (mA (tst M Gm) 0 (uI (M 0) c v)) 1 (uI (M 1) c (M 1 c)))))) M) rfl (by omega) (by first | (exfalso; omega) | exact smx_tx hs rfl (by show lasts (oth (cl M) w c v) c = _; rw [← hC]) hv.1 rfl (by omega) | exact smx_fx hs (by show lasts (oth (cl M) w c v) c = _; rw [← hC]) hv.1 (Or.inr (by omega))) (by omega)
              · skip
                refine g_iload F 0 dX6_bestOf_93 rfl ?_
                refine g_goto F 104 dX6_bestOf_95 (by decide) ?_
                refine gm_ast_1 F (by omega) dX6_bestOf_104 ?_
                refine g_ws (ws' := mw κ ma (mA (mA (tst M Gm) 0 (uI (M 0) c v)) 1 (uI (M 1) c v))) rfl ?_
                have hC : cl (mA (mA (tst M Gm) 0 (uI (M 0) c v)) 1 (uI (M 1) c v)) = oth (cl M) w c v := by first | (exfalso; omega) | (rw [oth_0 (by omega)]; show (uI (M 0) c v, uI (M 1) c (M 1 c), M 2, M 3, M 4 0) = (uI (M 0) c v, M 1, M 2, M 3, M 4 0); rw [uI_self]) | (rw [oth_1 (by omega)]; show (uI (M 0) c (M 0 c), uI (M 1) c v, M 2, M 3, M 4 0) = (M 0, uI (M 1) c v, M 2, M 3, M 4 0); rw [uI_self])
                have hpb := lasts_bd (cl (mA (mA (tst M Gm) 0 (uI (M 0) c v)) 1 (uI (M 1) c v))) c
                refine g_aload_n F 4 dX6_bestOf_105 rfl ?_
                refine g_callV F (stk := [.ref (ma 100)]) (st := []) (k_X6_layLasts κ ma (mA (mA (tst M Gm) 0 (uI (M 0) c v)) 1 (uI (M 1) c v)) (show (M 4 0) ≤ 990000 from by omega) (by rw [hC]; exact oth_ok ok (by omega))) cal_X6_layLasts lm_X6_255 0 rfl rfl rfl rfl (by decide) rfl (Nat.le_of_ble_eq_true rfl) dX6_bestOf_106 (fun ws106 _ hr106 => ?_)
                obtain rfl := hr106
                refine g_ws (ws' := mw κ ma (mA (stC (mA (mA (tst M Gm) 0 (uI (M 0) c v)) 1 (uI (M 1) c v)) (goI 61 (cl (mA (mA (tst M Gm) 0 (uI (M 0) c v)) 1 (uI (M 1) c v))))) 29 (lasts (cl (mA (mA (tst M Gm) 0 (uI (M 0) c v)) 1 (uI (M 1) c v)))))) rfl ?_
                refine g_aload_n F 4 dX6_bestOf_109 rfl ?_
                refine g_callV F (stk := [.ref (ma 100)]) (st := []) (k_X6_again κ ma (mA (stC (mA (mA (tst M Gm) 0 (uI (M 0) c v)) 1 (uI (M 1) c v)) (goI 61 (cl (mA (mA (tst M Gm) 0 (uI (M 0) c v)) 1 (uI (M 1) c v))))) 29 (lasts (cl (mA (mA (tst M Gm) 0 (uI (M 0) c v)) 1 (uI (M 1) c v))))) M (fun _ _ _ => rfl)) cal_X6_again lm_X6_197 0 rfl rfl rfl rfl (by decide) rfl (Nat.le_of_ble_eq_true rfl) dX6_bestOf_110 (fun ws110 _ hr110 => ?_)
                obtain rfl := hr110
                refine g_aload_n F 4 dX6_bestOf_113 rfl ?_
                refine gm_get_29 F dX6_bestOf_114 ?_
                refine g_iload_n F 5 dX6_bestOf_117 rfl ?_
                refine gm_ald_29 F (by omega) dX6_bestOf_118 ?_
                refine g_top (y := iI ((lasts (cl (mA (mA (tst M Gm) 0 (uI (M 0) c v)) 1 (uI (M 1) c v)))) c)) rfl ?_
                refine g_iload F 1 dX6_bestOf_119 rfl ?_
                refine g_icmp_le F 129 (by omega) dX6_bestOf_121 (by decide) (fun c121 => ?_) (fun c121 => ?_)
                · skip
                  refine g_iload F 2 dX6_bestOf_129 rfl ?_
                  refine g_istore F (lv' := [(4, .int (iI b)), (6, .int (iI v)), (5, .int (iI l)), (3, .int (iI (wbit (-1) w 1))), (0, .ref (ma 100)), (1, .int (iI c)), (2, .int (iI w))]) dX6_bestOf_131 (by decide) rfl ?_
                  refine g_aload_n F 4 dX6_bestOf_133 rfl ?_
                  refine gm_get_29 F dX6_bestOf_134 ?_
                  refine g_iload_n F 5 dX6_bestOf_137 rfl ?_
                  refine gm_ald_29 F (by omega) dX6_bestOf_138 ?_
                  refine g_top (y := iI ((lasts (cl (mA (mA (tst M Gm) 0 (uI (M 0) c v)) 1 (uI (M 1) c v)))) c)) rfl ?_
                  refine g_iload F 2 dX6_bestOf_139 rfl ?_
                  refine g_icmp_le F 153 (by omega) dX6_bestOf_141 (by decide) (fun c141 => ?_) (fun c141 => ?_)
                  · skip
                    refine g_iload F 2 dX6_bestOf_153 rfl ?_
                    refine g_istore F (lv' := [(5, .int (iI l)), (4, .int (iI b)), (6, .int (iI v)), (3, .int (iI (wbit (-1) w 1))), (0, .ref (ma 100)), (1, .int (iI c)), (2, .int (iI w))]) dX6_bestOf_155 (by decide) rfl ?_
                    refine g_iinc F (lv' := [(6, .int (iI (v + 1))), (5, .int (iI l)), (4, .int (iI b)), (3, .int (iI (wbit (-1) w 1))), (0, .ref (ma 100)), (1, .int (iI c)), (2, .int (iI w))]) 2 dX6_bestOf_157 rfl (by decide) rfl ?_
                    refine g_goto F 46 dX6_bestOf_160 (by decide) ?_
                    refine g_sub F (lv' := [(6, .int (iI (v + 1))), (5, .int (iI l)), (4, .int (iI b)), (3, .int (iI (wbit (-1) w 1))), (0, .ref (ma 100)), (1, .int (iI c)), (2, .int (iI w))]) [0, 1, 2, 3, 4, 5, 6] rfl ?_
                    refine g_ws (ws' := mw κ ma (tst M (agn (mA (stC (mA (mA (tst M Gm) 0 (uI (M 0) c v)) 1 (uI (M 1) c v)) (goI 61 (cl (mA (mA (tst M Gm) 0 (uI (M 0) c v)) 1 (uI (M 1) c v))))) 29 (lasts (cl (mA (mA (tst M Gm) 0 (uI (M 0) c v)) 1 (uI (M 1) c v))))) M))) rfl ?_
                    exact ih46 _ (by omega) (v + 1) b l (agn (mA (stC (mA (mA (tst M Gm) 0 (uI (M 0) c v)) 1 (uI (M 1) c v)) (goI 61 (cl (mA (mA (tst M Gm) 0 (uI (M 0) c v)) 1 (uI (M 1) c v))))) 29 (lasts (cl (mA (mA (tst M Gm) 0 (uI (M 0) c v)) 1 (uI (M 1) c v))))) M) rfl (by omega) (by first | (exfalso; omega) | exact smx_tx hs rfl (by show lasts (oth (cl M) w c v) c = _; rw [← hC]) hv.1 rfl (by omega) | exact smx_fx hs (by show lasts (oth (cl M) w c v) c = _; rw [← hC]) hv.1 (Or.inr (by omega))) (by omega)
                  · skip
                    refine g_aload_n F 4 dX6_bestOf_144 rfl ?_
                    refine gm_get_29 F dX6_bestOf_145 ?_
                    refine g_iload_n F 5 dX6_bestOf_148 rfl ?_
                    refine gm_ald_29 F (by omega) dX6_bestOf_149 ?_
                    refine g_top (y := iI ((lasts (cl (mA (mA (tst M Gm) 0 (uI (M 0) c v)) 1 (uI (M 1) c v)))) c)) rfl ?_
                    refine g_goto F 155 dX6_bestOf_150 (by decide) ?_
                    refine g_istore F (lv' := [(5, .int (iI ((lasts (cl (mA (mA (tst M Gm) 0 (uI (M 0) c v)) 1 (uI (M 1) c v)))) c))), (4, .int (iI b)), (6, .int (iI v)), (3, .int (iI (wbit (-1) w 1))), (0, .ref (ma 100)), (1, .int (iI c)), (2, .int (iI w))]) dX6_bestOf_155 (by decide) rfl ?_
                    refine g_iinc F (lv' := [(6, .int (iI (v + 1))), (5, .int (iI ((lasts (cl (mA (mA (tst M Gm) 0 (uI (M 0) c v)) 1 (uI (M 1) c v)))) c))), (4, .int (iI b)), (3, .int (iI (wbit (-1) w 1))), (0, .ref (ma 100)), (1, .int (iI c)), (2, .int (iI w))]) 2 dX6_bestOf_157 rfl (by decide) rfl ?_
                    refine g_goto F 46 dX6_bestOf_160 (by decide) ?_
                    refine g_sub F (lv' := [(6, .int (iI (v + 1))), (5, .int (iI ((lasts (cl (mA (mA (tst M Gm) 0 (uI (M 0) c v)) 1 (uI (M 1) c v)))) c))), (4, .int (iI b)), (3, .int (iI (wbit (-1) w 1))), (0, .ref (ma 100)), (1, .int (iI c)), (2, .int (iI w))]) [0, 1, 2, 3, 4, 5, 6] rfl ?_
                    refine g_ws (ws' := mw κ ma (tst M (agn (mA (stC (mA (mA (tst M Gm) 0 (uI (M 0) c v)) 1 (uI (M 1) c v)) (goI 61 (cl (mA (mA (tst M Gm) 0 (uI (M 0) c v)) 1 (uI (M 1) c v))))) 29 (lasts (cl (mA (mA (tst M Gm) 0 (uI (M 0) c v)) 1 (uI (M 1) c v))))) M))) rfl ?_
                    exact ih46 _ (by omega) (v + 1) b ((lasts (cl (mA (mA (tst M Gm) 0 (uI (M 0) c v)) 1 (uI (M 1) c v)))) c) (agn (mA (stC (mA (mA (tst M Gm) 0 (uI (M 0) c v)) 1 (uI (M 1) c v)) (goI 61 (cl (mA (mA (tst M Gm) 0 (uI (M 0) c v)) 1 (uI (M 1) c v))))) 29 (lasts (cl (mA (mA (tst M Gm) 0 (uI (M 0) c v)) 1 (uI (M 1) c v))))) M) rfl (by omega) (by first | (exfalso; omega) | exact smx_tx hs rfl (by show lasts (oth (cl M) w c v) c = _; rw [← hC]) hv.1 rfl (by omega) | exact smx_fx hs (by show lasts (oth (cl M) w c v) c = _; rw [← hC]) hv.1 (Or.inr (by omega))) (by omega)
                · skip
                  refine g_iload F 0 dX6_bestOf_124 rfl ?_
                  refine g_goto F 131 dX6_bestOf_126 (by decide) ?_
                  refine g_istore F (lv' := [(4, .int (iI v)), (6, .int (iI v)), (5, .int (iI l)), (3, .int (iI (wbit (-1) w 1))), (0, .ref (ma 100)), (1, .int (iI c)), (2, .int (iI w))]) dX6_bestOf_131 (by decide) rfl ?_
                  refine g_aload_n F 4 dX6_bestOf_133 rfl ?_
                  refine gm_get_29 F dX6_bestOf_134 ?_
                  refine g_iload_n F 5 dX6_bestOf_137 rfl ?_
                  refine gm_ald_29 F (by omega) dX6_bestOf_138 ?_
                  refine g_top (y := iI ((lasts (cl (mA (mA (tst M Gm) 0 (uI (M 0) c v)) 1 (uI (M 1) c v)))) c)) rfl ?_
                  refine g_iload F 2 dX6_bestOf_139 rfl ?_
                  refine g_icmp_le F 153 (by omega) dX6_bestOf_141 (by decide) (fun c141 => ?_) (fun c141 => ?_)
                  · skip
                    refine g_iload F 2 dX6_bestOf_153 rfl ?_
                    refine g_istore F (lv' := [(5, .int (iI l)), (4, .int (iI v)), (6, .int (iI v)), (3, .int (iI (wbit (-1) w 1))), (0, .ref (ma 100)), (1, .int (iI c)), (2, .int (iI w))]) dX6_bestOf_155 (by decide) rfl ?_
                    refine g_iinc F (lv' := [(6, .int (iI (v + 1))), (5, .int (iI l)), (4, .int (iI v)), (3, .int (iI (wbit (-1) w 1))), (0, .ref (ma 100)), (1, .int (iI c)), (2, .int (iI w))]) 2 dX6_bestOf_157 rfl (by decide) rfl ?_
                    refine g_goto F 46 dX6_bestOf_160 (by decide) ?_
                    refine g_sub F (lv' := [(6, .int (iI (v + 1))), (5, .int (iI l)), (4, .int (iI v)), (3, .int (iI (wbit (-1) w 1))), (0, .ref (ma 100)), (1, .int (iI c)), (2, .int (iI w))]) [0, 1, 2, 3, 4, 5, 6] rfl ?_
                    refine g_ws (ws' := mw κ ma (tst M (agn (mA (stC (mA (mA (tst M Gm) 0 (uI (M 0) c v)) 1 (uI (M 1) c v)) (goI 61 (cl (mA (mA (tst M Gm) 0 (uI (M 0) c v)) 1 (uI (M 1) c v))))) 29 (lasts (cl (mA (mA (tst M Gm) 0 (uI (M 0) c v)) 1 (uI (M 1) c v))))) M))) rfl ?_
                    exact ih46 _ (by omega) (v + 1) v l (agn (mA (stC (mA (mA (tst M Gm) 0 (uI (M 0) c v)) 1 (uI (M 1) c v)) (goI 61 (cl (mA (mA (tst M Gm) 0 (uI (M 0) c v)) 1 (uI (M 1) c v))))) 29 (lasts (cl (mA (mA (tst M Gm) 0 (uI (M 0) c v)) 1 (uI (M 1) c v))))) M) rfl (by omega) (by first | (exfalso; omega) | exact smx_tx hs rfl (by show lasts (oth (cl M) w c v) c = _; rw [← hC]) hv.1 rfl (by omega) | exact smx_fx hs (by show lasts (oth (cl M) w c v) c = _; rw [← hC]) hv.1 (Or.inr (by omega))) (by omega)
                  · skip
                    refine g_aload_n F 4 dX6_bestOf_144 rfl ?_
                    refine gm_get_29 F dX6_bestOf_145 ?_
                    refine g_iload_n F 5 dX6_bestOf_148 rfl ?_
                    refine gm_ald_29 F (by omega) dX6_bestOf_149 ?_
                    refine g_top (y := iI ((lasts (cl (mA (mA (tst M Gm) 0 (uI (M 0) c v)) 1 (uI (M 1) c v)))) c)) rfl ?_
                    refine g_goto F 155 dX6_bestOf_150 (by decide) ?_
                    refine g_istore F (lv' := [(5, .int (iI ((lasts (cl (mA (mA (tst M Gm) 0 (uI (M 0) c v)) 1 (uI (M 1) c v)))) c))), (4, .int (iI v)), (6, .int (iI v)), (3, .int (iI (wbit (-1) w 1))), (0, .ref (ma 100)), (1, .int (iI c)), (2, .int (iI w))]) dX6_bestOf_155 (by decide) rfl ?_
                    refine g_iinc F (lv' := [(6, .int (iI (v + 1))), (5, .int (iI ((lasts (cl (mA (mA (tst M Gm) 0 (uI (M 0) c v)) 1 (uI (M 1) c v)))) c))), (4, .int (iI v)), (3, .int (iI (wbit (-1) w 1))), (0, .ref (ma 100)), (1, .int (iI c)), (2, .int (iI w))]) 2 dX6_bestOf_157 rfl (by decide) rfl ?_
                    refine g_goto F 46 dX6_bestOf_160 (by decide) ?_
                    refine g_sub F (lv' := [(6, .int (iI (v + 1))), (5, .int (iI ((lasts (cl (mA (mA (tst M Gm) 0 (uI (M 0) c v)) 1 (uI (M 1) c v)))) c))), (4, .int (iI v)), (3, .int (iI (wbit (-1) w 1))), (0, .ref (ma 100)), (1, .int (iI c)), (2, .int (iI w))]) [0, 1, 2, 3, 4, 5, 6] rfl ?_
                    refine g_ws (ws' := mw κ ma (tst M (agn (mA (stC (mA (mA (tst M Gm) 0 (uI (M 0) c v)) 1 (uI (M 1) c v)) (goI 61 (cl (mA (mA (tst M Gm) 0 (uI (M 0) c v)) 1 (uI (M 1) c v))))) 29 (lasts (cl (mA (mA (tst M Gm) 0 (uI (M 0) c v)) 1 (uI (M 1) c v))))) M))) rfl ?_
                    exact ih46 _ (by omega) (v + 1) v ((lasts (cl (mA (mA (tst M Gm) 0 (uI (M 0) c v)) 1 (uI (M 1) c v)))) c) (agn (mA (stC (mA (mA (tst M Gm) 0 (uI (M 0) c v)) 1 (uI (M 1) c v)) (goI 61 (cl (mA (mA (tst M Gm) 0 (uI (M 0) c v)) 1 (uI (M 1) c v))))) 29 (lasts (cl (mA (mA (tst M Gm) 0 (uI (M 0) c v)) 1 (uI (M 1) c v))))) M) rfl (by omega) (by first | (exfalso; omega) | exact smx_tx hs rfl (by show lasts (oth (cl M) w c v) c = _; rw [← hC]) hv.1 rfl (by omega) | exact smx_fx hs (by show lasts (oth (cl M) w c v) c = _; rw [← hC]) hv.1 (Or.inr (by omega))) (by omega)
        · skip
          refine g_bipush F dX6_bestOf_52 (by decide +kernel) ?_
          refine g_goto F 59 dX6_bestOf_54 (by decide) ?_
          refine g_icmp_ge F 163 (by omega) dX6_bestOf_59 (by decide) (fun c59 => ?_) (fun c59 => ?_)
          · skip
            refine g_iload F 2 dX6_bestOf_163 rfl ?_
            have e : sBestOf (cl M) c w (if w = 0 then 6 else 10) = (b, l) := by rw [show (if w = 0 then (6 : Int) else 10) = v by split <;> omega]; exact hs
            have e1 : (sBestOf (cl M) c w (if w = 0 then 6 else 10)).1 = b := by rw [e]
            have hq : b = qBestOf (cl M) c w := by unfold qBestOf; rw [e1]; (repeat' split) <;> omega
            exact K mw_same ⟨_, rfl, iIc hq, ⟨rfl, rfl, rfl, rfl, rfl, rfl, rfl, rfl, rfl, rfl, rfl, rfl, rfl, rfl, rfl, rfl, rfl, rfl⟩, (by rw [← hq]; show M 11 = _; exact (rfa_n (by omega)).symm)⟩ rfl dX6_bestOf_165
          · skip
            have hk : (0 ≤ M 0 c ∧ M 0 c ≤ 5) ∧ (0 ≤ M 1 c ∧ M 1 c ≤ 9) ∧ (0 ≤ M 2 c ∧ M 2 c ≤ 99) ∧ 0 ≤ M 3 c ∧ M 3 c ≤ 99 := ok.r (by omega) (by omega)
            refine g_aload_n F 4 dX6_bestOf_62 rfl ?_
            refine gm_get_0 F dX6_bestOf_63 ?_
            refine g_iload_n F 5 dX6_bestOf_66 rfl ?_
            refine g_iload_n F 6 dX6_bestOf_67 rfl ?_
            refine g_if_ne F 76 (by omega) dX6_bestOf_68 (by decide) (fun c68 => ?_) (fun c68 => ?_)
            · skip
              refine g_aload_n F 4 dX6_bestOf_76 rfl ?_
              refine gm_get_0 F dX6_bestOf_77 ?_
              refine g_iload_n F 5 dX6_bestOf_80 rfl ?_
              refine gm_ald_0 F (by omega) dX6_bestOf_81 ?_
              refine g_top (y := iI (M 0 c)) rfl ?_
              refine gm_ast_0 F (by omega) dX6_bestOf_82 ?_
              refine g_ws (ws' := mw κ ma (mA (tst M Gm) 0 (uI (M 0) c (M 0 c)))) rfl ?_
              refine g_aload_n F 4 dX6_bestOf_83 rfl ?_
              refine gm_get_1 F dX6_bestOf_84 ?_
              refine g_iload_n F 5 dX6_bestOf_87 rfl ?_
              refine g_iload_n F 6 dX6_bestOf_88 rfl ?_
              refine g_iconst F dX6_bestOf_89 ?_
              refine g_icmp_ne F 98 (by omega) dX6_bestOf_90 (by decide) (fun c90 => ?_) (fun c90 => ?_)
              · skip
                refine g_aload_n F 4 dX6_bestOf_98 rfl ?_
                refine gm_get_1 F dX6_bestOf_99 ?_
                refine g_iload_n F 5 dX6_bestOf_102 rfl ?_
                refine gm_ald_1 F (by omega) dX6_bestOf_103 ?_
                refine g_top (y := iI (M 1 c)) rfl ?_
                refine gm_ast_1 F (by omega) dX6_bestOf_104 ?_
                refine g_ws (ws' := mw κ ma (mA (mA (tst M Gm) 0 (uI (M 0) c (M 0 c))) 1 (uI (M 1) c (M 1 c)))) rfl ?_
                have hC : cl (mA (mA (tst M Gm) 0 (uI (M 0) c (M 0 c))) 1 (uI (M 1) c (M 1 c))) = oth (cl M) w c v := by first | (exfalso; omega) | (rw [oth_0 (by omega)]; show (uI (M 0) c v, uI (M 1) c (M 1 c), M 2, M 3, M 4 0) = (uI (M 0) c v, M 1, M 2, M 3, M 4 0); rw [uI_self]) | (rw [oth_1 (by omega)]; show (uI (M 0) c (M 0 c), uI (M 1) c v, M 2, M 3, M 4 0) = (M 0, uI (M 1) c v, M 2, M 3, M 4 0); rw [uI_self])
                have hpb := lasts_bd (cl (mA (mA (tst M Gm) 0 (uI (M 0) c (M 0 c))) 1 (uI (M 1) c (M 1 c)))) c
                refine g_aload_n F 4 dX6_bestOf_105 rfl ?_
                refine g_callV F (stk := [.ref (ma 100)]) (st := []) (k_X6_layLasts κ ma (mA (mA (tst M Gm) 0 (uI (M 0) c (M 0 c))) 1 (uI (M 1) c (M 1 c))) (show (M 4 0) ≤ 990000 from by omega) (by rw [hC]; exact oth_ok ok (by omega))) cal_X6_layLasts lm_X6_255 0 rfl rfl rfl rfl (by decide) rfl (Nat.le_of_ble_eq_true rfl) dX6_bestOf_106 (fun ws106 _ hr106 => ?_)
                obtain rfl := hr106
                refine g_ws (ws' := mw κ ma (mA (stC (mA (mA (tst M Gm) 0 (uI (M 0) c (M 0 c))) 1 (uI (M 1) c (M 1 c))) (goI 61 (cl (mA (mA (tst M Gm) 0 (uI (M 0) c (M 0 c))) 1 (uI (M 1) c (M 1 c)))))) 29 (lasts (cl (mA (mA (tst M Gm) 0 (uI (M 0) c (M 0 c))) 1 (uI (M 1) c (M 1 c))))))) rfl ?_
                refine g_aload_n F 4 dX6_bestOf_109 rfl ?_
                refine g_callV F (stk := [.ref (ma 100)]) (st := []) (k_X6_again κ ma (mA (stC (mA (mA (tst M Gm) 0 (uI (M 0) c (M 0 c))) 1 (uI (M 1) c (M 1 c))) (goI 61 (cl (mA (mA (tst M Gm) 0 (uI (M 0) c (M 0 c))) 1 (uI (M 1) c (M 1 c)))))) 29 (lasts (cl (mA (mA (tst M Gm) 0 (uI (M 0) c (M 0 c))) 1 (uI (M 1) c (M 1 c)))))) M (fun _ _ _ => rfl)) cal_X6_again lm_X6_197 0 rfl rfl rfl rfl (by decide) rfl (Nat.le_of_ble_eq_true rfl) dX6_bestOf_110 (fun ws110 _ hr110 => ?_)
                obtain rfl := hr110
                refine g_aload_n F 4 dX6_bestOf_113 rfl ?_
                refine gm_get_29 F dX6_bestOf_114 ?_
                refine g_iload_n F 5 dX6_bestOf_117 rfl ?_
                refine gm_ald_29 F (by omega) dX6_bestOf_118 ?_
                refine g_top (y := iI ((lasts (cl (mA (mA (tst M Gm) 0 (uI (M 0) c (M 0 c))) 1 (uI (M 1) c (M 1 c))))) c)) rfl ?_
                refine g_iload F 1 dX6_bestOf_119 rfl ?_
                refine g_icmp_le F 129 (by omega) dX6_bestOf_121 (by decide) (fun c121 => ?_) (fun c121 => ?_)
                · skip
                  refine g_iload F 2 dX6_bestOf_129 rfl ?_
                  refine g_istore F (lv' := [(4, .int (iI b)), (6, .int (iI v)), (5, .int (iI l)), (3, .int (iI (wbit (-1) w 1))), (0, .ref (ma 100)), (1, .int (iI c)), (2, .int (iI w))]) dX6_bestOf_131 (by decide) rfl ?_
                  refine g_aload_n F 4 dX6_bestOf_133 rfl ?_
                  refine gm_get_29 F dX6_bestOf_134 ?_
                  refine g_iload_n F 5 dX6_bestOf_137 rfl ?_
                  refine gm_ald_29 F (by omega) dX6_bestOf_138 ?_
                  refine g_top (y := iI ((lasts (cl (mA (mA (tst M Gm) 0 (uI (M 0) c (M 0 c))) 1 (uI (M 1) c (M 1 c))))) c)) rfl ?_
                  refine g_iload F 2 dX6_bestOf_139 rfl ?_
                  refine g_icmp_le F 153 (by omega) dX6_bestOf_141 (by decide) (fun c141 => ?_) (fun c141 => ?_)
                  · skip
                    refine g_iload F 2 dX6_bestOf_153 rfl ?_
                    refine g_istore F (lv' := [(5, .int (iI l)), (4, .int (iI b)), (6, .int (iI v)), (3, .int (iI (wbit (-1) w 1))), (0, .ref (ma 100)), (1, .int (iI c)), (2, .int (iI w))]) dX6_bestOf_155 (by decide) rfl ?_
                    refine g_iinc F (lv' := [(6, .int (iI (v + 1))), (5, .int (iI l)), (4, .int (iI b)), (3, .int (iI (wbit (-1) w 1))), (0, .ref (ma 100)), (1, .int (iI c)), (2, .int (iI w))]) 2 dX6_bestOf_157 rfl (by decide) rfl ?_
                    refine g_goto F 46 dX6_bestOf_160 (by decide) ?_
                    refine g_sub F (lv' := [(6, .int (iI (v + 1))), (5, .int (iI l)), (4, .int (iI b)), (3, .int (iI (wbit (-1) w 1))), (0, .ref (ma 100)), (1, .int (iI c)), (2, .int (iI w))]) [0, 1, 2, 3, 4, 5, 6] rfl ?_
                    refine g_ws (ws' := mw κ ma (tst M (agn (mA (stC (mA (mA (tst M Gm) 0 (uI (M 0) c (M 0 c))) 1 (uI (M 1) c (M 1 c))) (goI 61 (cl (mA (mA (tst M Gm) 0 (uI (M 0) c (M 0 c))) 1 (uI (M 1) c (M 1 c)))))) 29 (lasts (cl (mA (mA (tst M Gm) 0 (uI (M 0) c (M 0 c))) 1 (uI (M 1) c (M 1 c)))))) M))) rfl ?_
                    exact ih46 _ (by omega) (v + 1) b l (agn (mA (stC (mA (mA (tst M Gm) 0 (uI (M 0) c (M 0 c))) 1 (uI (M 1) c (M 1 c))) (goI 61 (cl (mA (mA (tst M Gm) 0 (uI (M 0) c (M 0 c))) 1 (uI (M 1) c (M 1 c)))))) 29 (lasts (cl (mA (mA (tst M Gm) 0 (uI (M 0) c (M 0 c))) 1 (uI (M 1) c (M 1 c)))))) M) rfl (by omega) (by first | (exfalso; omega) | exact smx_tx hs rfl (by show lasts (oth (cl M) w c v) c = _; rw [← hC]) hv.1 rfl (by omega) | exact smx_fx hs (by show lasts (oth (cl M) w c v) c = _; rw [← hC]) hv.1 (Or.inr (by omega))) (by omega)
                  · skip
                    refine g_aload_n F 4 dX6_bestOf_144 rfl ?_
                    refine gm_get_29 F dX6_bestOf_145 ?_
                    refine g_iload_n F 5 dX6_bestOf_148 rfl ?_
                    refine gm_ald_29 F (by omega) dX6_bestOf_149 ?_
                    refine g_top (y := iI ((lasts (cl (mA (mA (tst M Gm) 0 (uI (M 0) c (M 0 c))) 1 (uI (M 1) c (M 1 c))))) c)) rfl ?_
                    refine g_goto F 155 dX6_bestOf_150 (by decide) ?_
                    refine g_istore F (lv' := [(5, .int (iI ((lasts (cl (mA (mA (tst M Gm) 0 (uI (M 0) c (M 0 c))) 1 (uI (M 1) c (M 1 c))))) c))), (4, .int (iI b)), (6, .int (iI v)), (3, .int (iI (wbit (-1) w 1))), (0, .ref (ma 100)), (1, .int (iI c)), (2, .int (iI w))]) dX6_bestOf_155 (by decide) rfl ?_
                    refine g_iinc F (lv' := [(6, .int (iI (v + 1))), (5, .int (iI ((lasts (cl (mA (mA (tst M Gm) 0 (uI (M 0) c (M 0 c))) 1 (uI (M 1) c (M 1 c))))) c))), (4, .int (iI b)), (3, .int (iI (wbit (-1) w 1))), (0, .ref (ma 100)), (1, .int (iI c)), (2, .int (iI w))]) 2 dX6_bestOf_157 rfl (by decide) rfl ?_
                    refine g_goto F 46 dX6_bestOf_160 (by decide) ?_
                    refine g_sub F (lv' := [(6, .int (iI (v + 1))), (5, .int (iI ((lasts (cl (mA (mA (tst M Gm) 0 (uI (M 0) c (M 0 c))) 1 (uI (M 1) c (M 1 c))))) c))), (4, .int (iI b)), (3, .int (iI (wbit (-1) w 1))), (0, .ref (ma 100)), (1, .int (iI c)), (2, .int (iI w))]) [0, 1, 2, 3, 4, 5, 6] rfl ?_
                    refine g_ws (ws' := mw κ ma (tst M (agn (mA (stC (mA (mA (tst M Gm) 0 (uI (M 0) c (M 0 c))) 1 (uI (M 1) c (M 1 c))) (goI 61 (cl (mA (mA (tst M Gm) 0 (uI (M 0) c (M 0 c))) 1 (uI (M 1) c (M 1 c)))))) 29 (lasts (cl (mA (mA (tst M Gm) 0 (uI (M 0) c (M 0 c))) 1 (uI (M 1) c (M 1 c)))))) M))) rfl ?_
                    exact ih46 _ (by omega) (v + 1) b ((lasts (cl (mA (mA (tst M Gm) 0 (uI (M 0) c (M 0 c))) 1 (uI (M 1) c (M 1 c))))) c) (agn (mA (stC (mA (mA (tst M Gm) 0 (uI (M 0) c (M 0 c))) 1 (uI (M 1) c (M 1 c))) (goI 61 (cl (mA (mA (tst M Gm) 0 (uI (M 0) c (M 0 c))) 1 (uI (M 1) c (M 1 c)))))) 29 (lasts (cl (mA (mA (tst M Gm) 0 (uI (M 0) c (M 0 c))) 1 (uI (M 1) c (M 1 c)))))) M) rfl (by omega) (by first | (exfalso; omega) | exact smx_tx hs rfl (by show lasts (oth (cl M) w c v) c = _; rw [← hC]) hv.1 rfl (by omega) | exact smx_fx hs (by show lasts (oth (cl M) w c v) c = _; rw [← hC]) hv.1 (Or.inr (by omega))) (by omega)
                · skip
                  refine g_iload F 0 dX6_bestOf_124 rfl ?_
                  refine g_goto F 131 dX6_bestOf_126 (by decide) ?_
                  refine g_istore F (lv' := [(4, .int (iI v)), (6, .int (iI v)), (5, .int (iI l)), (3, .int (iI (wbit (-1) w 1))), (0, .ref (ma 100)), (1, .int (iI c)), (2, .int (iI w))]) dX6_bestOf_131 (by decide) rfl ?_
                  refine g_aload_n F 4 dX6_bestOf_133 rfl ?_
                  refine gm_get_29 F dX6_bestOf_134 ?_
                  refine g_iload_n F 5 dX6_bestOf_137 rfl ?_
                  refine gm_ald_29 F (by omega) dX6_bestOf_138 ?_
                  refine g_top (y := iI ((lasts (cl (mA (mA (tst M Gm) 0 (uI (M 0) c (M 0 c))) 1 (uI (M 1) c (M 1 c))))) c)) rfl ?_
                  refine g_iload F 2 dX6_bestOf_139 rfl ?_
                  refine g_icmp_le F 153 (by omega) dX6_bestOf_141 (by decide) (fun c141 => ?_) (fun c141 => ?_)
                  · skip
                    refine g_iload F 2 dX6_bestOf_153 rfl ?_
                    refine g_istore F (lv' := [(5, .int (iI l)), (4, .int (iI v)), (6, .int (iI v)), (3, .int (iI (wbit (-1) w 1))), (0, .ref (ma 100)), (1, .int (iI c)), (2, .int (iI w))]) dX6_bestOf_155 (by decide) rfl ?_
                    refine g_iinc F (lv' := [(6, .int (iI (v + 1))), (5, .int (iI l)), (4, .int (iI v)), (3, .int (iI (wbit (-1) w 1))), (0, .ref (ma 100)), (1, .int (iI c)), (2, .int (iI w))]) 2 dX6_bestOf_157 rfl (by decide) rfl ?_
                    refine g_goto F 46 dX6_bestOf_160 (by decide) ?_
                    refine g_sub F (lv' := [(6, .int (iI (v + 1))), (5, .int (iI l)), (4, .int (iI v)), (3, .int (iI (wbit (-1) w 1))), (0, .ref (ma 100)), (1, .int (iI c)), (2, .int (iI w))]) [0, 1, 2, 3, 4, 5, 6] rfl ?_
                    refine g_ws (ws' := mw κ ma (tst M (agn (mA (stC (mA (mA (tst M Gm) 0 (uI (M 0) c (M 0 c))) 1 (uI (M 1) c (M 1 c))) (goI 61 (cl (mA (mA (tst M Gm) 0 (uI (M 0) c (M 0 c))) 1 (uI (M 1) c (M 1 c)))))) 29 (lasts (cl (mA (mA (tst M Gm) 0 (uI (M 0) c (M 0 c))) 1 (uI (M 1) c (M 1 c)))))) M))) rfl ?_
                    exact ih46 _ (by omega) (v + 1) v l (agn (mA (stC (mA (mA (tst M Gm) 0 (uI (M 0) c (M 0 c))) 1 (uI (M 1) c (M 1 c))) (goI 61 (cl (mA (mA (tst M Gm) 0 (uI (M 0) c (M 0 c))) 1 (uI (M 1) c (M 1 c)))))) 29 (lasts (cl (mA (mA (tst M Gm) 0 (uI (M 0) c (M 0 c))) 1 (uI (M 1) c (M 1 c)))))) M) rfl (by omega) (by first | (exfalso; omega) | exact smx_tx hs rfl (by show lasts (oth (cl M) w c v) c = _; rw [← hC]) hv.1 rfl (by omega) | exact smx_fx hs (by show lasts (oth (cl M) w c v) c = _; rw [← hC]) hv.1 (Or.inr (by omega))) (by omega)
                  · skip
                    refine g_aload_n F 4 dX6_bestOf_144 rfl ?_
                    refine gm_get_29 F dX6_bestOf_145 ?_
                    refine g_iload_n F 5 dX6_bestOf_148 rfl ?_
                    refine gm_ald_29 F (by omega) dX6_bestOf_149 ?_
                    refine g_top (y := iI ((lasts (cl (mA (mA (tst M Gm) 0 (uI (M 0) c (M 0 c))) 1 (uI (M 1) c (M 1 c))))) c)) rfl ?_
                    refine g_goto F 155 dX6_bestOf_150 (by decide) ?_
                    refine g_istore F (lv' := [(5, .int (iI ((lasts (cl (mA (mA (tst M Gm) 0 (uI (M 0) c (M 0 c))) 1 (uI (M 1) c (M 1 c))))) c))), (4, .int (iI v)), (6, .int (iI v)), (3, .int (iI (wbit (-1) w 1))), (0, .ref (ma 100)), (1, .int (iI c)), (2, .int (iI w))]) dX6_bestOf_155 (by decide) rfl ?_
                    refine g_iinc F (lv' := [(6, .int (iI (v + 1))), (5, .int (iI ((lasts (cl (mA (mA (tst M Gm) 0 (uI (M 0) c (M 0 c))) 1 (uI (M 1) c (M 1 c))))) c))), (4, .int (iI v)), (3, .int (iI (wbit (-1) w 1))), (0, .ref (ma 100)), (1, .int (iI c)), (2, .int (iI w))]) 2 dX6_bestOf_157 rfl (by decide) rfl ?_
                    refine g_goto F 46 dX6_bestOf_160 (by decide) ?_
                    refine g_sub F (lv' := [(6, .int (iI (v + 1))), (5, .int (iI ((lasts (cl (mA (mA (tst M Gm) 0 (uI (M 0) c (M 0 c))) 1 (uI (M 1) c (M 1 c))))) c))), (4, .int (iI v)), (3, .int (iI (wbit (-1) w 1))), (0, .ref (ma 100)), (1, .int (iI c)), (2, .int (iI w))]) [0, 1, 2, 3, 4, 5, 6] rfl ?_
                    refine g_ws (ws' := mw κ ma (tst M (agn (mA (stC (mA (mA (tst M Gm) 0 (uI (M 0) c (M 0 c))) 1 (uI (M 1) c (M 1 c))) (goI 61 (cl (mA (mA (tst M Gm) 0 (uI (M 0) c (M 0 c))) 1 (uI (M 1) c (M 1 c)))))) 29 (lasts (cl (mA (mA (tst M Gm) 0 (uI (M 0) c (M 0 c))) 1 (uI (M 1) c (M 1 c)))))) M))) rfl ?_
                    exact ih46 _ (by omega) (v + 1) v ((lasts (cl (mA (mA (tst M Gm) 0 (uI (M 0) c (M 0 c))) 1 (uI (M 1) c (M 1 c))))) c) (agn (mA (stC (mA (mA (tst M Gm) 0 (uI (M 0) c (M 0 c))) 1 (uI (M 1) c (M 1 c))) (goI 61 (cl (mA (mA (tst M Gm) 0 (uI (M 0) c (M 0 c))) 1 (uI (M 1) c (M 1 c)))))) 29 (lasts (cl (mA (mA (tst M Gm) 0 (uI (M 0) c (M 0 c))) 1 (uI (M 1) c (M 1 c)))))) M) rfl (by omega) (by first | (exfalso; omega) | exact smx_tx hs rfl (by show lasts (oth (cl M) w c v) c = _; rw [← hC]) hv.1 rfl (by omega) | exact smx_fx hs (by show lasts (oth (cl M) w c v) c = _; rw [← hC]) hv.1 (Or.inr (by omega))) (by omega)
              · skip
                refine g_iload F 0 dX6_bestOf_93 rfl ?_
                refine g_goto F 104 dX6_bestOf_95 (by decide) ?_
                refine gm_ast_1 F (by omega) dX6_bestOf_104 ?_
                refine g_ws (ws' := mw κ ma (mA (mA (tst M Gm) 0 (uI (M 0) c (M 0 c))) 1 (uI (M 1) c v))) rfl ?_
                have hC : cl (mA (mA (tst M Gm) 0 (uI (M 0) c (M 0 c))) 1 (uI (M 1) c v)) = oth (cl M) w c v := by first | (exfalso; omega) | (rw [oth_0 (by omega)]; show (uI (M 0) c v, uI (M 1) c (M 1 c), M 2, M 3, M 4 0) = (uI (M 0) c v, M 1, M 2, M 3, M 4 0); rw [uI_self]) | (rw [oth_1 (by omega)]; show (uI (M 0) c (M 0 c), uI (M 1) c v, M 2, M 3, M 4 0) = (M 0, uI (M 1) c v, M 2, M 3, M 4 0); rw [uI_self])
                have hpb := lasts_bd (cl (mA (mA (tst M Gm) 0 (uI (M 0) c (M 0 c))) 1 (uI (M 1) c v))) c
                refine g_aload_n F 4 dX6_bestOf_105 rfl ?_
                refine g_callV F (stk := [.ref (ma 100)]) (st := []) (k_X6_layLasts κ ma (mA (mA (tst M Gm) 0 (uI (M 0) c (M 0 c))) 1 (uI (M 1) c v)) (show (M 4 0) ≤ 990000 from by omega) (by rw [hC]; exact oth_ok ok (by omega))) cal_X6_layLasts lm_X6_255 0 rfl rfl rfl rfl (by decide) rfl (Nat.le_of_ble_eq_true rfl) dX6_bestOf_106 (fun ws106 _ hr106 => ?_)
                obtain rfl := hr106
                refine g_ws (ws' := mw κ ma (mA (stC (mA (mA (tst M Gm) 0 (uI (M 0) c (M 0 c))) 1 (uI (M 1) c v)) (goI 61 (cl (mA (mA (tst M Gm) 0 (uI (M 0) c (M 0 c))) 1 (uI (M 1) c v))))) 29 (lasts (cl (mA (mA (tst M Gm) 0 (uI (M 0) c (M 0 c))) 1 (uI (M 1) c v)))))) rfl ?_
                refine g_aload_n F 4 dX6_bestOf_109 rfl ?_
                refine g_callV F (stk := [.ref (ma 100)]) (st := []) (k_X6_again κ ma (mA (stC (mA (mA (tst M Gm) 0 (uI (M 0) c (M 0 c))) 1 (uI (M 1) c v)) (goI 61 (cl (mA (mA (tst M Gm) 0 (uI (M 0) c (M 0 c))) 1 (uI (M 1) c v))))) 29 (lasts (cl (mA (mA (tst M Gm) 0 (uI (M 0) c (M 0 c))) 1 (uI (M 1) c v))))) M (fun _ _ _ => rfl)) cal_X6_again lm_X6_197 0 rfl rfl rfl rfl (by decide) rfl (Nat.le_of_ble_eq_true rfl) dX6_bestOf_110 (fun ws110 _ hr110 => ?_)
                obtain rfl := hr110
                refine g_aload_n F 4 dX6_bestOf_113 rfl ?_
                refine gm_get_29 F dX6_bestOf_114 ?_
                refine g_iload_n F 5 dX6_bestOf_117 rfl ?_
                refine gm_ald_29 F (by omega) dX6_bestOf_118 ?_
                refine g_top (y := iI ((lasts (cl (mA (mA (tst M Gm) 0 (uI (M 0) c (M 0 c))) 1 (uI (M 1) c v)))) c)) rfl ?_
                refine g_iload F 1 dX6_bestOf_119 rfl ?_
                refine g_icmp_le F 129 (by omega) dX6_bestOf_121 (by decide) (fun c121 => ?_) (fun c121 => ?_)
                · skip
                  refine g_iload F 2 dX6_bestOf_129 rfl ?_
                  refine g_istore F (lv' := [(4, .int (iI b)), (6, .int (iI v)), (5, .int (iI l)), (3, .int (iI (wbit (-1) w 1))), (0, .ref (ma 100)), (1, .int (iI c)), (2, .int (iI w))]) dX6_bestOf_131 (by decide) rfl ?_
                  refine g_aload_n F 4 dX6_bestOf_133 rfl ?_
                  refine gm_get_29 F dX6_bestOf_134 ?_
                  refine g_iload_n F 5 dX6_bestOf_137 rfl ?_
                  refine gm_ald_29 F (by omega) dX6_bestOf_138 ?_
                  refine g_top (y := iI ((lasts (cl (mA (mA (tst M Gm) 0 (uI (M 0) c (M 0 c))) 1 (uI (M 1) c v)))) c)) rfl ?_
                  refine g_iload F 2 dX6_bestOf_139 rfl ?_
                  refine g_icmp_le F 153 (by omega) dX6_bestOf_141 (by decide) (fun c141 => ?_) (fun c141 => ?_)
                  · skip
                    refine g_iload F 2 dX6_bestOf_153 rfl ?_
                    refine g_istore F (lv' := [(5, .int (iI l)), (4, .int (iI b)), (6, .int (iI v)), (3, .int (iI (wbit (-1) w 1))), (0, .ref (ma 100)), (1, .int (iI c)), (2, .int (iI w))]) dX6_bestOf_155 (by decide) rfl ?_
                    refine g_iinc F (lv' := [(6, .int (iI (v + 1))), (5, .int (iI l)), (4, .int (iI b)), (3, .int (iI (wbit (-1) w 1))), (0, .ref (ma 100)), (1, .int (iI c)), (2, .int (iI w))]) 2 dX6_bestOf_157 rfl (by decide) rfl ?_
                    refine g_goto F 46 dX6_bestOf_160 (by decide) ?_
                    refine g_sub F (lv' := [(6, .int (iI (v + 1))), (5, .int (iI l)), (4, .int (iI b)), (3, .int (iI (wbit (-1) w 1))), (0, .ref (ma 100)), (1, .int (iI c)), (2, .int (iI w))]) [0, 1, 2, 3, 4, 5, 6] rfl ?_
                    refine g_ws (ws' := mw κ ma (tst M (agn (mA (stC (mA (mA (tst M Gm) 0 (uI (M 0) c (M 0 c))) 1 (uI (M 1) c v)) (goI 61 (cl (mA (mA (tst M Gm) 0 (uI (M 0) c (M 0 c))) 1 (uI (M 1) c v))))) 29 (lasts (cl (mA (mA (tst M Gm) 0 (uI (M 0) c (M 0 c))) 1 (uI (M 1) c v))))) M))) rfl ?_
                    exact ih46 _ (by omega) (v + 1) b l (agn (mA (stC (mA (mA (tst M Gm) 0 (uI (M 0) c (M 0 c))) 1 (uI (M 1) c v)) (goI 61 (cl (mA (mA (tst M Gm) 0 (uI (M 0) c (M 0 c))) 1 (uI (M 1) c v))))) 29 (lasts (cl (mA (mA (tst M Gm) 0 (uI (M 0) c (M 0 c))) 1 (uI (M 1) c v))))) M) rfl (by omega) (by first | (exfalso; omega) | exact smx_tx hs rfl (by show lasts (oth (cl M) w c v) c = _; rw [← hC]) hv.1 rfl (by omega) | exact smx_fx hs (by show lasts (oth (cl M) w c v) c = _; rw [← hC]) hv.1 (Or.inr (by omega))) (by omega)
                  · skip
                    refine g_aload_n F 4 dX6_bestOf_144 rfl ?_
                    refine gm_get_29 F dX6_bestOf_145 ?_
                    refine g_iload_n F 5 dX6_bestOf_148 rfl ?_
                    refine gm_ald_29 F (by omega) dX6_bestOf_149 ?_
                    refine g_top (y := iI ((lasts (cl (mA (mA (tst M Gm) 0 (uI (M 0) c (M 0 c))) 1 (uI (M 1) c v)))) c)) rfl ?_
                    refine g_goto F 155 dX6_bestOf_150 (by decide) ?_
                    refine g_istore F (lv' := [(5, .int (iI ((lasts (cl (mA (mA (tst M Gm) 0 (uI (M 0) c (M 0 c))) 1 (uI (M 1) c v)))) c))), (4, .int (iI b)), (6, .int (iI v)), (3, .int (iI (wbit (-1) w 1))), (0, .ref (ma 100)), (1, .int (iI c)), (2, .int (iI w))]) dX6_bestOf_155 (by decide) rfl ?_
                    refine g_iinc F (lv' := [(6, .int (iI (v + 1))), (5, .int (iI ((lasts (cl (mA (mA (tst M Gm) 0 (uI (M 0) c (M 0 c))) 1 (uI (M 1) c v)))) c))), (4, .int (iI b)), (3, .int (iI (wbit (-1) w 1))), (0, .ref (ma 100)), (1, .int (iI c)), (2, .int (iI w))]) 2 dX6_bestOf_157 rfl (by decide) rfl ?_
                    refine g_goto F 46 dX6_bestOf_160 (by decide) ?_
                    refine g_sub F (lv' := [(6, .int (iI (v + 1))), (5, .int (iI ((lasts (cl (mA (mA (tst M Gm) 0 (uI (M 0) c (M 0 c))) 1 (uI (M 1) c v)))) c))), (4, .int (iI b)), (3, .int (iI (wbit (-1) w 1))), (0, .ref (ma 100)), (1, .int (iI c)), (2, .int (iI w))]) [0, 1, 2, 3, 4, 5, 6] rfl ?_
                    refine g_ws (ws' := mw κ ma (tst M (agn (mA (stC (mA (mA (tst M Gm) 0 (uI (M 0) c (M 0 c))) 1 (uI (M 1) c v)) (goI 61 (cl (mA (mA (tst M Gm) 0 (uI (M 0) c (M 0 c))) 1 (uI (M 1) c v))))) 29 (lasts (cl (mA (mA (tst M Gm) 0 (uI (M 0) c (M 0 c))) 1 (uI (M 1) c v))))) M))) rfl ?_
                    exact ih46 _ (by omega) (v + 1) b ((lasts (cl (mA (mA (tst M Gm) 0 (uI (M 0) c (M 0 c))) 1 (uI (M 1) c v)))) c) (agn (mA (stC (mA (mA (tst M Gm) 0 (uI (M 0) c (M 0 c))) 1 (uI (M 1) c v)) (goI 61 (cl (mA (mA (tst M Gm) 0 (uI (M 0) c (M 0 c))) 1 (uI (M 1) c v))))) 29 (lasts (cl (mA (mA (tst M Gm) 0 (uI (M 0) c (M 0 c))) 1 (uI (M 1) c v))))) M) rfl (by omega) (by first | (exfalso; omega) | exact smx_tx hs rfl (by show lasts (oth (cl M) w c v) c = _; rw [← hC]) hv.1 rfl (by omega) | exact smx_fx hs (by show lasts (oth (cl M) w c v) c = _; rw [← hC]) hv.1 (Or.inr (by omega))) (by omega)
                · skip
                  refine g_iload F 0 dX6_bestOf_124 rfl ?_
                  refine g_goto F 131 dX6_bestOf_126 (by decide) ?_
                  refine g_istore F (lv' := [(4, .int (iI v)), (6, .int (iI v)), (5, .int (iI l)), (3, .int (iI (wbit (-1) w 1))), (0, .ref (ma 100)), (1, .int (iI c)), (2, .int (iI w))]) dX6_bestOf_131 (by decide) rfl ?_
                  refine g_aload_n F 4 dX6_bestOf_133 rfl ?_
                  refine gm_get_29 F dX6_bestOf_134 ?_
                  refine g_iload_n F 5 dX6_bestOf_137 rfl ?_
                  refine gm_ald_29 F (by omega) dX6_bestOf_138 ?_
                  refine g_top (y := iI ((lasts (cl (mA (mA (tst M Gm) 0 (uI (M 0) c (M 0 c))) 1 (uI (M 1) c v)))) c)) rfl ?_
                  refine g_iload F 2 dX6_bestOf_139 rfl ?_
                  refine g_icmp_le F 153 (by omega) dX6_bestOf_141 (by decide) (fun c141 => ?_) (fun c141 => ?_)
                  · skip
                    refine g_iload F 2 dX6_bestOf_153 rfl ?_
                    refine g_istore F (lv' := [(5, .int (iI l)), (4, .int (iI v)), (6, .int (iI v)), (3, .int (iI (wbit (-1) w 1))), (0, .ref (ma 100)), (1, .int (iI c)), (2, .int (iI w))]) dX6_bestOf_155 (by decide) rfl ?_
                    refine g_iinc F (lv' := [(6, .int (iI (v + 1))), (5, .int (iI l)), (4, .int (iI v)), (3, .int (iI (wbit (-1) w 1))), (0, .ref (ma 100)), (1, .int (iI c)), (2, .int (iI w))]) 2 dX6_bestOf_157 rfl (by decide) rfl ?_
                    refine g_goto F 46 dX6_bestOf_160 (by decide) ?_
                    refine g_sub F (lv' := [(6, .int (iI (v + 1))), (5, .int (iI l)), (4, .int (iI v)), (3, .int (iI (wbit (-1) w 1))), (0, .ref (ma 100)), (1, .int (iI c)), (2, .int (iI w))]) [0, 1, 2, 3, 4, 5, 6] rfl ?_
                    refine g_ws (ws' := mw κ ma (tst M (agn (mA (stC (mA (mA (tst M Gm) 0 (uI (M 0) c (M 0 c))) 1 (uI (M 1) c v)) (goI 61 (cl (mA (mA (tst M Gm) 0 (uI (M 0) c (M 0 c))) 1 (uI (M 1) c v))))) 29 (lasts (cl (mA (mA (tst M Gm) 0 (uI (M 0) c (M 0 c))) 1 (uI (M 1) c v))))) M))) rfl ?_
                    exact ih46 _ (by omega) (v + 1) v l (agn (mA (stC (mA (mA (tst M Gm) 0 (uI (M 0) c (M 0 c))) 1 (uI (M 1) c v)) (goI 61 (cl (mA (mA (tst M Gm) 0 (uI (M 0) c (M 0 c))) 1 (uI (M 1) c v))))) 29 (lasts (cl (mA (mA (tst M Gm) 0 (uI (M 0) c (M 0 c))) 1 (uI (M 1) c v))))) M) rfl (by omega) (by first | (exfalso; omega) | exact smx_tx hs rfl (by show lasts (oth (cl M) w c v) c = _; rw [← hC]) hv.1 rfl (by omega) | exact smx_fx hs (by show lasts (oth (cl M) w c v) c = _; rw [← hC]) hv.1 (Or.inr (by omega))) (by omega)
                  · skip
                    refine g_aload_n F 4 dX6_bestOf_144 rfl ?_
                    refine gm_get_29 F dX6_bestOf_145 ?_
                    refine g_iload_n F 5 dX6_bestOf_148 rfl ?_
                    refine gm_ald_29 F (by omega) dX6_bestOf_149 ?_
                    refine g_top (y := iI ((lasts (cl (mA (mA (tst M Gm) 0 (uI (M 0) c (M 0 c))) 1 (uI (M 1) c v)))) c)) rfl ?_
                    refine g_goto F 155 dX6_bestOf_150 (by decide) ?_
                    refine g_istore F (lv' := [(5, .int (iI ((lasts (cl (mA (mA (tst M Gm) 0 (uI (M 0) c (M 0 c))) 1 (uI (M 1) c v)))) c))), (4, .int (iI v)), (6, .int (iI v)), (3, .int (iI (wbit (-1) w 1))), (0, .ref (ma 100)), (1, .int (iI c)), (2, .int (iI w))]) dX6_bestOf_155 (by decide) rfl ?_
                    refine g_iinc F (lv' := [(6, .int (iI (v + 1))), (5, .int (iI ((lasts (cl (mA (mA (tst M Gm) 0 (uI (M 0) c (M 0 c))) 1 (uI (M 1) c v)))) c))), (4, .int (iI v)), (3, .int (iI (wbit (-1) w 1))), (0, .ref (ma 100)), (1, .int (iI c)), (2, .int (iI w))]) 2 dX6_bestOf_157 rfl (by decide) rfl ?_
                    refine g_goto F 46 dX6_bestOf_160 (by decide) ?_
                    refine g_sub F (lv' := [(6, .int (iI (v + 1))), (5, .int (iI ((lasts (cl (mA (mA (tst M Gm) 0 (uI (M 0) c (M 0 c))) 1 (uI (M 1) c v)))) c))), (4, .int (iI v)), (3, .int (iI (wbit (-1) w 1))), (0, .ref (ma 100)), (1, .int (iI c)), (2, .int (iI w))]) [0, 1, 2, 3, 4, 5, 6] rfl ?_
                    refine g_ws (ws' := mw κ ma (tst M (agn (mA (stC (mA (mA (tst M Gm) 0 (uI (M 0) c (M 0 c))) 1 (uI (M 1) c v)) (goI 61 (cl (mA (mA (tst M Gm) 0 (uI (M 0) c (M 0 c))) 1 (uI (M 1) c v))))) 29 (lasts (cl (mA (mA (tst M Gm) 0 (uI (M 0) c (M 0 c))) 1 (uI (M 1) c v))))) M))) rfl ?_
                    exact ih46 _ (by omega) (v + 1) v ((lasts (cl (mA (mA (tst M Gm) 0 (uI (M 0) c (M 0 c))) 1 (uI (M 1) c v)))) c) (agn (mA (stC (mA (mA (tst M Gm) 0 (uI (M 0) c (M 0 c))) 1 (uI (M 1) c v)) (goI 61 (cl (mA (mA (tst M Gm) 0 (uI (M 0) c (M 0 c))) 1 (uI (M 1) c v))))) 29 (lasts (cl (mA (mA (tst M Gm) 0 (uI (M 0) c (M 0 c))) 1 (uI (M 1) c v))))) M) rfl (by omega) (by first | (exfalso; omega) | exact smx_tx hs rfl (by show lasts (oth (cl M) w c v) c = _; rw [← hC]) hv.1 rfl (by omega) | exact smx_fx hs (by show lasts (oth (cl M) w c v) c = _; rw [← hC]) hv.1 (Or.inr (by omega))) (by omega)
            · skip
              refine g_iload F 0 dX6_bestOf_71 rfl ?_
              refine g_goto F 82 dX6_bestOf_73 (by decide) ?_
              refine gm_ast_0 F (by omega) dX6_bestOf_82 ?_
              refine g_ws (ws' := mw κ ma (mA (tst M Gm) 0 (uI (M 0) c v))) rfl ?_
              refine g_aload_n F 4 dX6_bestOf_83 rfl ?_
              refine gm_get_1 F dX6_bestOf_84 ?_
              refine g_iload_n F 5 dX6_bestOf_87 rfl ?_
              refine g_iload_n F 6 dX6_bestOf_88 rfl ?_
              refine g_iconst F dX6_bestOf_89 ?_
              refine g_icmp_ne F 98 (by omega) dX6_bestOf_90 (by decide) (fun c90 => ?_) (fun c90 => ?_)
              · skip
                refine g_aload_n F 4 dX6_bestOf_98 rfl ?_
                refine gm_get_1 F dX6_bestOf_99 ?_
                refine g_iload_n F 5 dX6_bestOf_102 rfl ?_
                refine gm_ald_1 F (by omega) dX6_bestOf_103 ?_
                refine g_top (y := iI (M 1 c)) rfl ?_
                refine gm_ast_1 F (by omega) dX6_bestOf_104 ?_
                refine g_ws (ws' := mw κ ma (mA (mA (tst M Gm) 0 (uI (M 0) c v)) 1 (uI (M 1) c (M 1 c)))) rfl ?_
                have hC : cl (mA (mA (tst M Gm) 0 (uI (M 0) c v)) 1 (uI (M 1) c (M 1 c))) = oth (cl M) w c v := by first | (exfalso; omega) | (rw [oth_0 (by omega)]; show (uI (M 0) c v, uI (M 1) c (M 1 c), M 2, M 3, M 4 0) = (uI (M 0) c v, M 1, M 2, M 3, M 4 0); rw [uI_self]) | (rw [oth_1 (by omega)]; show (uI (M 0) c (M 0 c), uI (M 1) c v, M 2, M 3, M 4 0) = (M 0, uI (M 1) c v, M 2, M 3, M 4 0); rw [uI_self])
                have hpb := lasts_bd (cl (mA (mA (tst M Gm) 0 (uI (M 0) c v)) 1 (uI (M 1) c (M 1 c)))) c
                refine g_aload_n F 4 dX6_bestOf_105 rfl ?_
                refine g_callV F (stk := [.ref (ma 100)]) (st := []) (k_X6_layLasts κ ma (mA (mA (tst M Gm) 0 (uI (M 0) c v)) 1 (uI (M 1) c (M 1 c))) (show (M 4 0) ≤ 990000 from by omega) (by rw [hC]; exact oth_ok ok (by omega))) cal_X6_layLasts lm_X6_255 0 rfl rfl rfl rfl (by decide) rfl (Nat.le_of_ble_eq_true rfl) dX6_bestOf_106 (fun ws106 _ hr106 => ?_)
                obtain rfl := hr106
                refine g_ws (ws' := mw κ ma (mA (stC (mA (mA (tst M Gm) 0 (uI (M 0) c v)) 1 (uI (M 1) c (M 1 c))) (goI 61 (cl (mA (mA (tst M Gm) 0 (uI (M 0) c v)) 1 (uI (M 1) c (M 1 c)))))) 29 (lasts (cl (mA (mA (tst M Gm) 0 (uI (M 0) c v)) 1 (uI (M 1) c (M 1 c))))))) rfl ?_
                refine g_aload_n F 4 dX6_bestOf_109 rfl ?_
                refine g_callV F (stk := [.ref (ma 100)]) (st := []) (k_X6_again κ ma (mA (stC (mA (mA (tst M Gm) 0 (uI (M 0) c v)) 1 (uI (M 1) c (M 1 c))) (goI 61 (cl (mA (mA (tst M Gm) 0 (uI (M 0) c v)) 1 (uI (M 1) c (M 1 c)))))) 29 (lasts (cl (mA (mA (tst M Gm) 0 (uI (M 0) c v)) 1 (uI (M 1) c (M 1 c)))))) M (fun _ _ _ => rfl)) cal_X6_again lm_X6_197 0 rfl rfl rfl rfl (by decide) rfl (Nat.le_of_ble_eq_true rfl) dX6_bestOf_110 (fun ws110 _ hr110 => ?_)
                obtain rfl := hr110
                refine g_aload_n F 4 dX6_bestOf_113 rfl ?_
                refine gm_get_29 F dX6_bestOf_114 ?_
                refine g_iload_n F 5 dX6_bestOf_117 rfl ?_
                refine gm_ald_29 F (by omega) dX6_bestOf_118 ?_
                refine g_top (y := iI ((lasts (cl (mA (mA (tst M Gm) 0 (uI (M 0) c v)) 1 (uI (M 1) c (M 1 c))))) c)) rfl ?_
                refine g_iload F 1 dX6_bestOf_119 rfl ?_
                refine g_icmp_le F 129 (by omega) dX6_bestOf_121 (by decide) (fun c121 => ?_) (fun c121 => ?_)
                · skip
                  refine g_iload F 2 dX6_bestOf_129 rfl ?_
                  refine g_istore F (lv' := [(4, .int (iI b)), (6, .int (iI v)), (5, .int (iI l)), (3, .int (iI (wbit (-1) w 1))), (0, .ref (ma 100)), (1, .int (iI c)), (2, .int (iI w))]) dX6_bestOf_131 (by decide) rfl ?_
                  refine g_aload_n F 4 dX6_bestOf_133 rfl ?_
                  refine gm_get_29 F dX6_bestOf_134 ?_
                  refine g_iload_n F 5 dX6_bestOf_137 rfl ?_
                  refine gm_ald_29 F (by omega) dX6_bestOf_138 ?_
                  refine g_top (y := iI ((lasts (cl (mA (mA (tst M Gm) 0 (uI (M 0) c v)) 1 (uI (M 1) c (M 1 c))))) c)) rfl ?_
                  refine g_iload F 2 dX6_bestOf_139 rfl ?_
                  refine g_icmp_le F 153 (by omega) dX6_bestOf_141 (by decide) (fun c141 => ?_) (fun c141 => ?_)
                  · skip
                    refine g_iload F 2 dX6_bestOf_153 rfl ?_
                    refine g_istore F (lv' := [(5, .int (iI l)), (4, .int (iI b)), (6, .int (iI v)), (3, .int (iI (wbit (-1) w 1))), (0, .ref (ma 100)), (1, .int (iI c)), (2, .int (iI w))]) dX6_bestOf_155 (by decide) rfl ?_
                    refine g_iinc F (lv' := [(6, .int (iI (v + 1))), (5, .int (iI l)), (4, .int (iI b)), (3, .int (iI (wbit (-1) w 1))), (0, .ref (ma 100)), (1, .int (iI c)), (2, .int (iI w))]) 2 dX6_bestOf_157 rfl (by decide) rfl ?_
                    refine g_goto F 46 dX6_bestOf_160 (by decide) ?_
                    refine g_sub F (lv' := [(6, .int (iI (v + 1))), (5, .int (iI l)), (4, .int (iI b)), (3, .int (iI (wbit (-1) w 1))), (0, .ref (ma 100)), (1, .int (iI c)), (2, .int (iI w))]) [0, 1, 2, 3, 4, 5, 6] rfl ?_
                    refine g_ws (ws' := mw κ ma (tst M (agn (mA (stC (mA (mA (tst M Gm) 0 (uI (M 0) c v)) 1 (uI (M 1) c (M 1 c))) (goI 61 (cl (mA (mA (tst M Gm) 0 (uI (M 0) c v)) 1 (uI (M 1) c (M 1 c)))))) 29 (lasts (cl (mA (mA (tst M Gm) 0 (uI (M 0) c v)) 1 (uI (M 1) c (M 1 c)))))) M))) rfl ?_
                    exact ih46 _ (by omega) (v + 1) b l (agn (mA (stC (mA (mA (tst M Gm) 0 (uI (M 0) c v)) 1 (uI (M 1) c (M 1 c))) (goI 61 (cl (mA (mA (tst M Gm) 0 (uI (M 0) c v)) 1 (uI (M 1) c (M 1 c)))))) 29 (lasts (cl (mA (mA (tst M Gm) 0 (uI (M 0) c v)) 1 (uI (M 1) c (M 1 c)))))) M) rfl (by omega) (by first | (exfalso; omega) | exact smx_tx hs rfl (by show lasts (oth (cl M) w c v) c = _; rw [← hC]) hv.1 rfl (by omega) | exact smx_fx hs (by show lasts (oth (cl M) w c v) c = _; rw [← hC]) hv.1 (Or.inr (by omega))) (by omega)
                  · skip
                    refine g_aload_n F 4 dX6_bestOf_144 rfl ?_
                    refine gm_get_29 F dX6_bestOf_145 ?_
                    refine g_iload_n F 5 dX6_bestOf_148 rfl ?_
                    refine gm_ald_29 F (by omega) dX6_bestOf_149 ?_
                    refine g_top (y := iI ((lasts (cl (mA (mA (tst M Gm) 0 (uI (M 0) c v)) 1 (uI (M 1) c (M 1 c))))) c)) rfl ?_
                    refine g_goto F 155 dX6_bestOf_150 (by decide) ?_
                    refine g_istore F (lv' := [(5, .int (iI ((lasts (cl (mA (mA (tst M Gm) 0 (uI (M 0) c v)) 1 (uI (M 1) c (M 1 c))))) c))), (4, .int (iI b)), (6, .int (iI v)), (3, .int (iI (wbit (-1) w 1))), (0, .ref (ma 100)), (1, .int (iI c)), (2, .int (iI w))]) dX6_bestOf_155 (by decide) rfl ?_
                    refine g_iinc F (lv' := [(6, .int (iI (v + 1))), (5, .int (iI ((lasts (cl (mA (mA (tst M Gm) 0 (uI (M 0) c v)) 1 (uI (M 1) c (M 1 c))))) c))), (4, .int (iI b)), (3, .int (iI (wbit (-1) w 1))), (0, .ref (ma 100)), (1, .int (iI c)), (2, .int (iI w))]) 2 dX6_bestOf_157 rfl (by decide) rfl ?_
                    refine g_goto F 46 dX6_bestOf_160 (by decide) ?_
                    refine g_sub F (lv' := [(6, .int (iI (v + 1))), (5, .int (iI ((lasts (cl (mA (mA (tst M Gm) 0 (uI (M 0) c v)) 1 (uI (M 1) c (M 1 c))))) c))), (4, .int (iI b)), (3, .int (iI (wbit (-1) w 1))), (0, .ref (ma 100)), (1, .int (iI c)), (2, .int (iI w))]) [0, 1, 2, 3, 4, 5, 6] rfl ?_
                    refine g_ws (ws' := mw κ ma (tst M (agn (mA (stC (mA (mA (tst M Gm) 0 (uI (M 0) c v)) 1 (uI (M 1) c (M 1 c))) (goI 61 (cl (mA (mA (tst M Gm) 0 (uI (M 0) c v)) 1 (uI (M 1) c (M 1 c)))))) 29 (lasts (cl (mA (mA (tst M Gm) 0 (uI (M 0) c v)) 1 (uI (M 1) c (M 1 c)))))) M))) rfl ?_
                    exact ih46 _ (by omega) (v + 1) b ((lasts (cl (mA (mA (tst M Gm) 0 (uI (M 0) c v)) 1 (uI (M 1) c (M 1 c))))) c) (agn (mA (stC (mA (mA (tst M Gm) 0 (uI (M 0) c v)) 1 (uI (M 1) c (M 1 c))) (goI 61 (cl (mA (mA (tst M Gm) 0 (uI (M 0) c v)) 1 (uI (M 1) c (M 1 c)))))) 29 (lasts (cl (mA (mA (tst M Gm) 0 (uI (M 0) c v)) 1 (uI (M 1) c (M 1 c)))))) M) rfl (by omega) (by first | (exfalso; omega) | exact smx_tx hs rfl (by show lasts (oth (cl M) w c v) c = _; rw [← hC]) hv.1 rfl (by omega) | exact smx_fx hs (by show lasts (oth (cl M) w c v) c = _; rw [← hC]) hv.1 (Or.inr (by omega))) (by omega)
                · skip
                  refine g_iload F 0 dX6_bestOf_124 rfl ?_
                  refine g_goto F 131 dX6_bestOf_126 (by decide) ?_
                  refine g_istore F (lv' := [(4, .int (iI v)), (6, .int (iI v)), (5, .int (iI l)), (3, .int (iI (wbit (-1) w 1))), (0, .ref (ma 100)), (1, .int (iI c)), (2, .int (iI w))]) dX6_bestOf_131 (by decide) rfl ?_
                  refine g_aload_n F 4 dX6_bestOf_133 rfl ?_
                  refine gm_get_29 F dX6_bestOf_134 ?_
                  refine g_iload_n F 5 dX6_bestOf_137 rfl ?_
                  refine gm_ald_29 F (by omega) dX6_bestOf_138 ?_
                  refine g_top (y := iI ((lasts (cl (mA (mA (tst M Gm) 0 (uI (M 0) c v)) 1 (uI (M 1) c (M 1 c))))) c)) rfl ?_
                  refine g_iload F 2 dX6_bestOf_139 rfl ?_
                  refine g_icmp_le F 153 (by omega) dX6_bestOf_141 (by decide) (fun c141 => ?_) (fun c141 => ?_)
                  · skip
                    refine g_iload F 2 dX6_bestOf_153 rfl ?_
                    refine g_istore F (lv' := [(5, .int (iI l)), (4, .int (iI v)), (6, .int (iI v)), (3, .int (iI (wbit (-1) w 1))), (0, .ref (ma 100)), (1, .int (iI c)), (2, .int (iI w))]) dX6_bestOf_155 (by decide) rfl ?_
                    refine g_iinc F (lv' := [(6, .int (iI (v + 1))), (5, .int (iI l)), (4, .int (iI v)), (3, .int (iI (wbit (-1) w 1))), (0, .ref (ma 100)), (1, .int (iI c)), (2, .int (iI w))]) 2 dX6_bestOf_157 rfl (by decide) rfl ?_
                    refine g_goto F 46 dX6_bestOf_160 (by decide) ?_
                    refine g_sub F (lv' := [(6, .int (iI (v + 1))), (5, .int (iI l)), (4, .int (iI v)), (3, .int (iI (wbit (-1) w 1))), (0, .ref (ma 100)), (1, .int (iI c)), (2, .int (iI w))]) [0, 1, 2, 3, 4, 5, 6] rfl ?_
                    refine g_ws (ws' := mw κ ma (tst M (agn (mA (stC (mA (mA (tst M Gm) 0 (uI (M 0) c v)) 1 (uI (M 1) c (M 1 c))) (goI 61 (cl (mA (mA (tst M Gm) 0 (uI (M 0) c v)) 1 (uI (M 1) c (M 1 c)))))) 29 (lasts (cl (mA (mA (tst M Gm) 0 (uI (M 0) c v)) 1 (uI (M 1) c (M 1 c)))))) M))) rfl ?_
                    exact ih46 _ (by omega) (v + 1) v l (agn (mA (stC (mA (mA (tst M Gm) 0 (uI (M 0) c v)) 1 (uI (M 1) c (M 1 c))) (goI 61 (cl (mA (mA (tst M Gm) 0 (uI (M 0) c v)) 1 (uI (M 1) c (M 1 c)))))) 29 (lasts (cl (mA (mA (tst M Gm) 0 (uI (M 0) c v)) 1 (uI (M 1) c (M 1 c)))))) M) rfl (by omega) (by first | (exfalso; omega) | exact smx_tx hs rfl (by show lasts (oth (cl M) w c v) c = _; rw [← hC]) hv.1 rfl (by omega) | exact smx_fx hs (by show lasts (oth (cl M) w c v) c = _; rw [← hC]) hv.1 (Or.inr (by omega))) (by omega)
                  · skip
                    refine g_aload_n F 4 dX6_bestOf_144 rfl ?_
                    refine gm_get_29 F dX6_bestOf_145 ?_
                    refine g_iload_n F 5 dX6_bestOf_148 rfl ?_
                    refine gm_ald_29 F (by omega) dX6_bestOf_149 ?_
                    refine g_top (y := iI ((lasts (cl (mA (mA (tst M Gm) 0 (uI (M 0) c v)) 1 (uI (M 1) c (M 1 c))))) c)) rfl ?_
                    refine g_goto F 155 dX6_bestOf_150 (by decide) ?_
                    refine g_istore F (lv' := [(5, .int (iI ((lasts (cl (mA (mA (tst M Gm) 0 (uI (M 0) c v)) 1 (uI (M 1) c (M 1 c))))) c))), (4, .int (iI v)), (6, .int (iI v)), (3, .int (iI (wbit (-1) w 1))), (0, .ref (ma 100)), (1, .int (iI c)), (2, .int (iI w))]) dX6_bestOf_155 (by decide) rfl ?_
                    refine g_iinc F (lv' := [(6, .int (iI (v + 1))), (5, .int (iI ((lasts (cl (mA (mA (tst M Gm) 0 (uI (M 0) c v)) 1 (uI (M 1) c (M 1 c))))) c))), (4, .int (iI v)), (3, .int (iI (wbit (-1) w 1))), (0, .ref (ma 100)), (1, .int (iI c)), (2, .int (iI w))]) 2 dX6_bestOf_157 rfl (by decide) rfl ?_
                    refine g_goto F 46 dX6_bestOf_160 (by decide) ?_
                    refine g_sub F (lv' := [(6, .int (iI (v + 1))), (5, .int (iI ((lasts (cl (mA (mA (tst M Gm) 0 (uI (M 0) c v)) 1 (uI (M 1) c (M 1 c))))) c))), (4, .int (iI v)), (3, .int (iI (wbit (-1) w 1))), (0, .ref (ma 100)), (1, .int (iI c)), (2, .int (iI w))]) [0, 1, 2, 3, 4, 5, 6] rfl ?_
                    refine g_ws (ws' := mw κ ma (tst M (agn (mA (stC (mA (mA (tst M Gm) 0 (uI (M 0) c v)) 1 (uI (M 1) c (M 1 c))) (goI 61 (cl (mA (mA (tst M Gm) 0 (uI (M 0) c v)) 1 (uI (M 1) c (M 1 c)))))) 29 (lasts (cl (mA (mA (tst M Gm) 0 (uI (M 0) c v)) 1 (uI (M 1) c (M 1 c)))))) M))) rfl ?_
                    exact ih46 _ (by omega) (v + 1) v ((lasts (cl (mA (mA (tst M Gm) 0 (uI (M 0) c v)) 1 (uI (M 1) c (M 1 c))))) c) (agn (mA (stC (mA (mA (tst M Gm) 0 (uI (M 0) c v)) 1 (uI (M 1) c (M 1 c))) (goI 61 (cl (mA (mA (tst M Gm) 0 (uI (M 0) c v)) 1 (uI (M 1) c (M 1 c)))))) 29 (lasts (cl (mA (mA (tst M Gm) 0 (uI (M 0) c v)) 1 (uI (M 1) c (M 1 c)))))) M) rfl (by omega) (by first | (exfalso; omega) | exact smx_tx hs rfl (by show lasts (oth (cl M) w c v) c = _; rw [← hC]) hv.1 rfl (by omega) | exact smx_fx hs (by show lasts (oth (cl M) w c v) c = _; rw [← hC]) hv.1 (Or.inr (by omega))) (by omega)
              · skip
                refine g_iload F 0 dX6_bestOf_93 rfl ?_
                refine g_goto F 104 dX6_bestOf_95 (by decide) ?_
                refine gm_ast_1 F (by omega) dX6_bestOf_104 ?_
                refine g_ws (ws' := mw κ ma (mA (mA (tst M Gm) 0 (uI (M 0) c v)) 1 (uI (M 1) c v))) rfl ?_
                have hC : cl (mA (mA (tst M Gm) 0 (uI (M 0) c v)) 1 (uI (M 1) c v)) = oth (cl M) w c v := by first | (exfalso; omega) | (rw [oth_0 (by omega)]; show (uI (M 0) c v, uI (M 1) c (M 1 c), M 2, M 3, M 4 0) = (uI (M 0) c v, M 1, M 2, M 3, M 4 0); rw [uI_self]) | (rw [oth_1 (by omega)]; show (uI (M 0) c (M 0 c), uI (M 1) c v, M 2, M 3, M 4 0) = (M 0, uI (M 1) c v, M 2, M 3, M 4 0); rw [uI_self])
                have hpb := lasts_bd (cl (mA (mA (tst M Gm) 0 (uI (M 0) c v)) 1 (uI (M 1) c v))) c
                refine g_aload_n F 4 dX6_bestOf_105 rfl ?_
                refine g_callV F (stk := [.ref (ma 100)]) (st := []) (k_X6_layLasts κ ma (mA (mA (tst M Gm) 0 (uI (M 0) c v)) 1 (uI (M 1) c v)) (show (M 4 0) ≤ 990000 from by omega) (by rw [hC]; exact oth_ok ok (by omega))) cal_X6_layLasts lm_X6_255 0 rfl rfl rfl rfl (by decide) rfl (Nat.le_of_ble_eq_true rfl) dX6_bestOf_106 (fun ws106 _ hr106 => ?_)
                obtain rfl := hr106
                refine g_ws (ws' := mw κ ma (mA (stC (mA (mA (tst M Gm) 0 (uI (M 0) c v)) 1 (uI (M 1) c v)) (goI 61 (cl (mA (mA (tst M Gm) 0 (uI (M 0) c v)) 1 (uI (M 1) c v))))) 29 (lasts (cl (mA (mA (tst M Gm) 0 (uI (M 0) c v)) 1 (uI (M 1) c v)))))) rfl ?_
                refine g_aload_n F 4 dX6_bestOf_109 rfl ?_
                refine g_callV F (stk := [.ref (ma 100)]) (st := []) (k_X6_again κ ma (mA (stC (mA (mA (tst M Gm) 0 (uI (M 0) c v)) 1 (uI (M 1) c v)) (goI 61 (cl (mA (mA (tst M Gm) 0 (uI (M 0) c v)) 1 (uI (M 1) c v))))) 29 (lasts (cl (mA (mA (tst M Gm) 0 (uI (M 0) c v)) 1 (uI (M 1) c v))))) M (fun _ _ _ => rfl)) cal_X6_again lm_X6_197 0 rfl rfl rfl rfl (by decide) rfl (Nat.le_of_ble_eq_true rfl) dX6_bestOf_110 (fun ws110 _ hr110 => ?_)
                obtain rfl := hr110
                refine g_aload_n F 4 dX6_bestOf_113 rfl ?_
                refine gm_get_29 F dX6_bestOf_114 ?_
                refine g_iload_n F 5 dX6_bestOf_117 rfl ?_
                refine gm_ald_29 F (by omega) dX6_bestOf_118 ?_
                refine g_top (y := iI ((lasts (cl (mA (mA (tst M Gm) 0 (uI (M 0) c v)) 1 (uI (M 1) c v)))) c)) rfl ?_
                refine g_iload F 1 dX6_bestOf_119 rfl ?_
                refine g_icmp_le F 129 (by omega) dX6_bestOf_121 (by decide) (fun c121 => ?_) (fun c121 => ?_)
                · skip
                  refine g_iload F 2 dX6_bestOf_129 rfl ?_
                  refine g_istore F (lv' := [(4, .int (iI b)), (6, .int (iI v)), (5, .int (iI l)), (3, .int (iI (wbit (-1) w 1))), (0, .ref (ma 100)), (1, .int (iI c)), (2, .int (iI w))]) dX6_bestOf_131 (by decide) rfl ?_
                  refine g_aload_n F 4 dX6_bestOf_133 rfl ?_
                  refine gm_get_29 F dX6_bestOf_134 ?_
                  refine g_iload_n F 5 dX6_bestOf_137 rfl ?_
                  refine gm_ald_29 F (by omega) dX6_bestOf_138 ?_
                  refine g_top (y := iI ((lasts (cl (mA (mA (tst M Gm) 0 (uI (M 0) c v)) 1 (uI (M 1) c v)))) c)) rfl ?_
                  refine g_iload F 2 dX6_bestOf_139 rfl ?_
                  refine g_icmp_le F 153 (by omega) dX6_bestOf_141 (by decide) (fun c141 => ?_) (fun c141 => ?_)
                  · skip
                    refine g_iload F 2 dX6_bestOf_153 rfl ?_
                    refine g_istore F (lv' := [(5, .int (iI l)), (4, .int (iI b)), (6, .int (iI v)), (3, .int (iI (wbit (-1) w 1))), (0, .ref (ma 100)), (1, .int (iI c)), (2, .int (iI w))]) dX6_bestOf_155 (by decide) rfl ?_
                    refine g_iinc F (lv' := [(6, .int (iI (v + 1))), (5, .int (iI l)), (4, .int (iI b)), (3, .int (iI (wbit (-1) w 1))), (0, .ref (ma 100)), (1, .int (iI c)), (2, .int (iI w))]) 2 dX6_bestOf_157 rfl (by decide) rfl ?_
                    refine g_goto F 46 dX6_bestOf_160 (by decide) ?_
                    refine g_sub F (lv' := [(6, .int (iI (v + 1))), (5, .int (iI l)), (4, .int (iI b)), (3, .int (iI (wbit (-1) w 1))), (0, .ref (ma 100)), (1, .int (iI c)), (2, .int (iI w))]) [0, 1, 2, 3, 4, 5, 6] rfl ?_
                    refine g_ws (ws' := mw κ ma (tst M (agn (mA (stC (mA (mA (tst M Gm) 0 (uI (M 0) c v)) 1 (uI (M 1) c v)) (goI 61 (cl (mA (mA (tst M Gm) 0 (uI (M 0) c v)) 1 (uI (M 1) c v))))) 29 (lasts (cl (mA (mA (tst M Gm) 0 (uI (M 0) c v)) 1 (uI (M 1) c v))))) M))) rfl ?_
                    exact ih46 _ (by omega) (v + 1) b l (agn (mA (stC (mA (mA (tst M Gm) 0 (uI (M 0) c v)) 1 (uI (M 1) c v)) (goI 61 (cl (mA (mA (tst M Gm) 0 (uI (M 0) c v)) 1 (uI (M 1) c v))))) 29 (lasts (cl (mA (mA (tst M Gm) 0 (uI (M 0) c v)) 1 (uI (M 1) c v))))) M) rfl (by omega) (by first | (exfalso; omega) | exact smx_tx hs rfl (by show lasts (oth (cl M) w c v) c = _; rw [← hC]) hv.1 rfl (by omega) | exact smx_fx hs (by show lasts (oth (cl M) w c v) c = _; rw [← hC]) hv.1 (Or.inr (by omega))) (by omega)
                  · skip
                    refine g_aload_n F 4 dX6_bestOf_144 rfl ?_
                    refine gm_get_29 F dX6_bestOf_145 ?_
                    refine g_iload_n F 5 dX6_bestOf_148 rfl ?_
                    refine gm_ald_29 F (by omega) dX6_bestOf_149 ?_
                    refine g_top (y := iI ((lasts (cl (mA (mA (tst M Gm) 0 (uI (M 0) c v)) 1 (uI (M 1) c v)))) c)) rfl ?_
                    refine g_goto F 155 dX6_bestOf_150 (by decide) ?_
                    refine g_istore F (lv' := [(5, .int (iI ((lasts (cl (mA (mA (tst M Gm) 0 (uI (M 0) c v)) 1 (uI (M 1) c v)))) c))), (4, .int (iI b)), (6, .int (iI v)), (3, .int (iI (wbit (-1) w 1))), (0, .ref (ma 100)), (1, .int (iI c)), (2, .int (iI w))]) dX6_bestOf_155 (by decide) rfl ?_
                    refine g_iinc F (lv' := [(6, .int (iI (v + 1))), (5, .int (iI ((lasts (cl (mA (mA (tst M Gm) 0 (uI (M 0) c v)) 1 (uI (M 1) c v)))) c))), (4, .int (iI b)), (3, .int (iI (wbit (-1) w 1))), (0, .ref (ma 100)), (1, .int (iI c)), (2, .int (iI w))]) 2 dX6_bestOf_157 rfl (by decide) rfl ?_
                    refine g_goto F 46 dX6_bestOf_160 (by decide) ?_
                    refine g_sub F (lv' := [(6, .int (iI (v + 1))), (5, .int (iI ((lasts (cl (mA (mA (tst M Gm) 0 (uI (M 0) c v)) 1 (uI (M 1) c v)))) c))), (4, .int (iI b)), (3, .int (iI (wbit (-1) w 1))), (0, .ref (ma 100)), (1, .int (iI c)), (2, .int (iI w))]) [0, 1, 2, 3, 4, 5, 6] rfl ?_
                    refine g_ws (ws' := mw κ ma (tst M (agn (mA (stC (mA (mA (tst M Gm) 0 (uI (M 0) c v)) 1 (uI (M 1) c v)) (goI 61 (cl (mA (mA (tst M Gm) 0 (uI (M 0) c v)) 1 (uI (M 1) c v))))) 29 (lasts (cl (mA (mA (tst M Gm) 0 (uI (M 0) c v)) 1 (uI (M 1) c v))))) M))) rfl ?_
                    exact ih46 _ (by omega) (v + 1) b ((lasts (cl (mA (mA (tst M Gm) 0 (uI (M 0) c v)) 1 (uI (M 1) c v)))) c) (agn (mA (stC (mA (mA (tst M Gm) 0 (uI (M 0) c v)) 1 (uI (M 1) c v)) (goI 61 (cl (mA (mA (tst M Gm) 0 (uI (M 0) c v)) 1 (uI (M 1) c v))))) 29 (lasts (cl (mA (mA (tst M Gm) 0 (uI (M 0) c v)) 1 (uI (M 1) c v))))) M) rfl (by omega) (by first | (exfalso; omega) | exact smx_tx hs rfl (by show lasts (oth (cl M) w c v) c = _; rw [← hC]) hv.1 rfl (by omega) | exact smx_fx hs (by show lasts (oth (cl M) w c v) c = _; rw [← hC]) hv.1 (Or.inr (by omega))) (by omega)
                · skip
                  refine g_iload F 0 dX6_bestOf_124 rfl ?_
                  refine g_goto F 131 dX6_bestOf_126 (by decide) ?_
                  refine g_istore F (lv' := [(4, .int (iI v)), (6, .int (iI v)), (5, .int (iI l)), (3, .int (iI (wbit (-1) w 1))), (0, .ref (ma 100)), (1, .int (iI c)), (2, .int (iI w))]) dX6_bestOf_131 (by decide) rfl ?_
                  refine g_aload_n F 4 dX6_bestOf_133 rfl ?_
                  refine gm_get_29 F dX6_bestOf_134 ?_
                  refine g_iload_n F 5 dX6_bestOf_137 rfl ?_
                  refine gm_ald_29 F (by omega) dX6_bestOf_138 ?_
                  refine g_top (y := iI ((lasts (cl (mA (mA (tst M Gm) 0 (uI (M 0) c v)) 1 (uI (M 1) c v)))) c)) rfl ?_
                  refine g_iload F 2 dX6_bestOf_139 rfl ?_
                  refine g_icmp_le F 153 (by omega) dX6_bestOf_141 (by decide) (fun c141 => ?_) (fun c141 => ?_)
                  · skip
                    refine g_iload F 2 dX6_bestOf_153 rfl ?_
                    refine g_istore F (lv' := [(5, .int (iI l)), (4, .int (iI v)), (6, .int (iI v)), (3, .int (iI (wbit (-1) w 1))), (0, .ref (ma 100)), (1, .int (iI c)), (2, .int (iI w))]) dX6_bestOf_155 (by decide) rfl ?_
                    refine g_iinc F (lv' := [(6, .int (iI (v + 1))), (5, .int (iI l)), (4, .int (iI v)), (3, .int (iI (wbit (-1) w 1))), (0, .ref (ma 100)), (1, .int (iI c)), (2, .int (iI w))]) 2 dX6_bestOf_157 rfl (by decide) rfl ?_
                    refine g_goto F 46 dX6_bestOf_160 (by decide) ?_
                    refine g_sub F (lv' := [(6, .int (iI (v + 1))), (5, .int (iI l)), (4, .int (iI v)), (3, .int (iI (wbit (-1) w 1))), (0, .ref (ma 100)), (1, .int (iI c)), (2, .int (iI w))]) [0, 1, 2, 3, 4, 5, 6] rfl ?_
                    refine g_ws (ws' := mw κ ma (tst M (agn (mA (stC (mA (mA (tst M Gm) 0 (uI (M 0) c v)) 1 (uI (M 1) c v)) (goI 61 (cl (mA (mA (tst M Gm) 0 (uI (M 0) c v)) 1 (uI (M 1) c v))))) 29 (lasts (cl (mA (mA (tst M Gm) 0 (uI (M 0) c v)) 1 (uI (M 1) c v))))) M))) rfl ?_
                    exact ih46 _ (by omega) (v + 1) v l (agn (mA (stC (mA (mA (tst M Gm) 0 (uI (M 0) c v)) 1 (uI (M 1) c v)) (goI 61 (cl (mA (mA (tst M Gm) 0 (uI (M 0) c v)) 1 (uI (M 1) c v))))) 29 (lasts (cl (mA (mA (tst M Gm) 0 (uI (M 0) c v)) 1 (uI (M 1) c v))))) M) rfl (by omega) (by first | (exfalso; omega) | exact smx_tx hs rfl (by show lasts (oth (cl M) w c v) c = _; rw [← hC]) hv.1 rfl (by omega) | exact smx_fx hs (by show lasts (oth (cl M) w c v) c = _; rw [← hC]) hv.1 (Or.inr (by omega))) (by omega)
                  · skip
                    refine g_aload_n F 4 dX6_bestOf_144 rfl ?_
                    refine gm_get_29 F dX6_bestOf_145 ?_
                    refine g_iload_n F 5 dX6_bestOf_148 rfl ?_
                    refine gm_ald_29 F (by omega) dX6_bestOf_149 ?_
                    refine g_top (y := iI ((lasts (cl (mA (mA (tst M Gm) 0 (uI (M 0) c v)) 1 (uI (M 1) c v)))) c)) rfl ?_
                    refine g_goto F 155 dX6_bestOf_150 (by decide) ?_
                    refine g_istore F (lv' := [(5, .int (iI ((lasts (cl (mA (mA (tst M Gm) 0 (uI (M 0) c v)) 1 (uI (M 1) c v)))) c))), (4, .int (iI v)), (6, .int (iI v)), (3, .int (iI (wbit (-1) w 1))), (0, .ref (ma 100)), (1, .int (iI c)), (2, .int (iI w))]) dX6_bestOf_155 (by decide) rfl ?_
                    refine g_iinc F (lv' := [(6, .int (iI (v + 1))), (5, .int (iI ((lasts (cl (mA (mA (tst M Gm) 0 (uI (M 0) c v)) 1 (uI (M 1) c v)))) c))), (4, .int (iI v)), (3, .int (iI (wbit (-1) w 1))), (0, .ref (ma 100)), (1, .int (iI c)), (2, .int (iI w))]) 2 dX6_bestOf_157 rfl (by decide) rfl ?_
                    refine g_goto F 46 dX6_bestOf_160 (by decide) ?_
                    refine g_sub F (lv' := [(6, .int (iI (v + 1))), (5, .int (iI ((lasts (cl (mA (mA (tst M Gm) 0 (uI (M 0) c v)) 1 (uI (M 1) c v)))) c))), (4, .int (iI v)), (3, .int (iI (wbit (-1) w 1))), (0, .ref (ma 100)), (1, .int (iI c)), (2, .int (iI w))]) [0, 1, 2, 3, 4, 5, 6] rfl ?_
                    refine g_ws (ws' := mw κ ma (tst M (agn (mA (stC (mA (mA (tst M Gm) 0 (uI (M 0) c v)) 1 (uI (M 1) c v)) (goI 61 (cl (mA (mA (tst M Gm) 0 (uI (M 0) c v)) 1 (uI (M 1) c v))))) 29 (lasts (cl (mA (mA (tst M Gm) 0 (uI (M 0) c v)) 1 (uI (M 1) c v))))) M))) rfl ?_
                    exact ih46 _ (by omega) (v + 1) v ((lasts (cl (mA (mA (tst M Gm) 0 (uI (M 0) c v)) 1 (uI (M 1) c v)))) c) (agn (mA (stC (mA (mA (tst M Gm) 0 (uI (M 0) c v)) 1 (uI (M 1) c v)) (goI 61 (cl (mA (mA (tst M Gm) 0 (uI (M 0) c v)) 1 (uI (M 1) c v))))) 29 (lasts (cl (mA (mA (tst M Gm) 0 (uI (M 0) c v)) 1 (uI (M 1) c v))))) M) rfl (by omega) (by first | (exfalso; omega) | exact smx_tx hs rfl (by show lasts (oth (cl M) w c v) c = _; rw [← hC]) hv.1 rfl (by omega) | exact smx_fx hs (by show lasts (oth (cl M) w c v) c = _; rw [← hC]) hv.1 (Or.inr (by omega))) (by omega)
      refine g_sub F (lv' := [(6, .int (iI 0)), (5, .int (iI (-1))), (4, .int (iI 0)), (3, .int (iI (wbit (-1) w 1))), (0, .ref (ma 100)), (1, .int (iI c)), (2, .int (iI w))]) [0, 1, 2, 3, 4, 5, 6] rfl ?_
      refine g_ws (ws' := mw κ ma (tst M (thk (mA M 10 (fun _ => 0))))) (by unfold thk; rw [snapF_mA (by decide)]; rfl) ?_
      exact L46 _ 0 0 (-1) (thk (mA M 10 (fun _ => 0))) rfl (by omega) rfl (by omega)
    · skip
      refine g_aload_n F 1 dX6_bestOf_27 rfl ?_
      refine g_iload_n F 0 dX6_bestOf_28 rfl ?_
      refine g_callI F (stk := [.int (iI (wbit (-1) w 1)), .ref (ma 100)]) (st := []) (k_X6_refuse κ ma (mA M 10 (fun _ => 0)) (wbit (-1) w 1) (by omega)) cal_X6_refuse lm_X6_138 0 rfl rfl rfl rfl (by decide) rfl (Nat.le_of_ble_eq_true rfl) dX6_bestOf_29 (fun r29 ws29 _ hr29 => ?_)
      obtain ⟨rfl, rfl⟩ := hr29
      refine g_top (y := iI (wbit (-1) w 1)) rfl ?_
      refine g_ws (ws' := mw κ ma (mA (mA M 10 (fun _ => 0)) 11 (uI (M 11) (-(wbit (-1) w 1)) (M 11 (-(wbit (-1) w 1)) + 1)))) rfl ?_
      have hq : (wbit (-1) w 1) = qBestOf (cl M) c w := by unfold qBestOf; (repeat' split) <;> omega
      exact K mw_same ⟨_, rfl, iIc hq, ⟨rfl, rfl, rfl, rfl, rfl, rfl, rfl, rfl, rfl, rfl, rfl, rfl, rfl, rfl, rfl, rfl, rfl, rfl⟩, (by rw [← hq]; exact (rfa_r (by omega)).symm)⟩ rfl dX6_bestOf_32
  · skip
    have c9 : 0 ≤ c ∧ c < 12 := b2i_t c9
    refine g_iconst F dX6_bestOf_12 ?_
    refine g_goto F 17 dX6_bestOf_13 (by decide) ?_
    refine g_iload_n F 2 dX6_bestOf_17 rfl ?_
    refine g_iconst F dX6_bestOf_18 ?_
    refine g_callSI F (stk := [.int (iI 1), .int (iI w), .int (iI 0)]) (st := []) (k_X6_wrongBit κ (mw κ ma (mA M 10 (fun _ => 0))) 0 w 1 (by omega)) cal_X6_wrongBit lm_X6_247 rfl (by decide) rfl (Nat.le_of_ble_eq_true rfl) dX6_bestOf_19 (fun r19 ws19 _ hr19 => ?_)
    obtain ⟨rfl, rfl⟩ := hr19
    have hwb19 := wb_spec 0 w 1
    refine g_istore_n F (lv' := [(3, .int (iI (wbit 0 w 1))), (0, .ref (ma 100)), (1, .int (iI c)), (2, .int (iI w))]) 3 dX6_bestOf_22 rfl (by decide) rfl ?_
    refine g_iload_n F 0 dX6_bestOf_23 rfl ?_
    refine g_if_ge F 33 (by omega) dX6_bestOf_24 (by decide) (fun c24 => ?_) (fun c24 => ?_)
    · skip
      refine g_iconst F dX6_bestOf_33 ?_
      refine g_istore F (lv' := [(4, .int (iI 0)), (3, .int (iI (wbit 0 w 1))), (0, .ref (ma 100)), (1, .int (iI c)), (2, .int (iI w))]) dX6_bestOf_34 (by decide) rfl ?_
      refine g_iconst F dX6_bestOf_36 ?_
      refine g_istore F (lv' := [(5, .int (iI (-1))), (4, .int (iI 0)), (3, .int (iI (wbit 0 w 1))), (0, .ref (ma 100)), (1, .int (iI c)), (2, .int (iI w))]) dX6_bestOf_37 (by decide) rfl ?_
      refine g_aload_n F 3 dX6_bestOf_39 rfl ?_
      refine g_callV F (stk := [.ref (ma 100)]) (st := []) (k_X6_think κ ma (mA M 10 (fun _ => 0))) cal_X6_think lm_X6_191 0 rfl rfl rfl rfl (by decide) rfl (Nat.le_of_ble_eq_true rfl) dX6_bestOf_40 (fun ws40 _ hr40 => ?_)
      obtain rfl := hr40
      refine g_ws (ws' := mw κ ma (thk (mA M 10 (fun _ => 0)))) rfl ?_
      refine g_iconst F dX6_bestOf_43 ?_
      refine g_istore F (lv' := [(6, .int (iI 0)), (5, .int (iI (-1))), (4, .int (iI 0)), (3, .int (iI (wbit 0 w 1))), (0, .ref (ma 100)), (1, .int (iI c)), (2, .int (iI w))]) dX6_bestOf_44 (by decide) rfl ?_
      have L46 : ∀ (mz46 : Nat) (v : Int) (b : Int) (l : Int) (Gm : MS), (10 - v).toNat = mz46 → (0 ≤ v ∧ v ≤ 10 ∧ (w = 0 → v ≤ 6)) → (smx yes (fun v => lasts (oth (cl M) w c v) c) (fun v => v) (0, -1) v = (b, l)) → ((-1 ≤ l ∧ l ≤ 61) ∧ 0 ≤ b ∧ b ≤ v) → G E (mw κ ma (tst M Gm)) [(6, .int (iI v)), (5, .int (iI l)), (4, .int (iI b)), (3, .int (iI (wbit 0 w 1))), (0, .ref (ma 100)), (1, .int (iI c)), (2, .int (iI w))] 46 [] := by
        intro mz46
        induction mz46 using Nat.strongRecOn with
        | _ mz46 ih46 =>
        intro v b l Gm hmz46 hv hs hl
        refine g_iload F 0 dX6_bestOf_46 rfl ?_
        refine g_iload_n F 6 dX6_bestOf_48 rfl ?_
        refine g_if_ne F 57 (by omega) dX6_bestOf_49 (by decide) (fun c49 => ?_) (fun c49 => ?_)
        · skip
          refine g_bipush F dX6_bestOf_57 (by decide +kernel) ?_
          refine g_icmp_ge F 163 (by omega) dX6_bestOf_59 (by decide) (fun c59 => ?_) (fun c59 => ?_)
          · skip
            refine g_iload F 2 dX6_bestOf_163 rfl ?_
            have e : sBestOf (cl M) c w (if w = 0 then 6 else 10) = (b, l) := by rw [show (if w = 0 then (6 : Int) else 10) = v by split <;> omega]; exact hs
            have e1 : (sBestOf (cl M) c w (if w = 0 then 6 else 10)).1 = b := by rw [e]
            have hq : b = qBestOf (cl M) c w := by unfold qBestOf; rw [e1]; (repeat' split) <;> omega
            exact K mw_same ⟨_, rfl, iIc hq, ⟨rfl, rfl, rfl, rfl, rfl, rfl, rfl, rfl, rfl, rfl, rfl, rfl, rfl, rfl, rfl, rfl, rfl, rfl⟩, (by rw [← hq]; show M 11 = _; exact (rfa_n (by omega)).symm)⟩ rfl dX6_bestOf_165
          · skip
            have hk : (0 ≤ M 0 c ∧ M 0 c ≤ 5) ∧ (0 ≤ M 1 c ∧ M 1 c ≤ 9) ∧ (0 ≤ M 2 c ∧ M 2 c ≤ 99) ∧ 0 ≤ M 3 c ∧ M 3 c ≤ 99 := ok.r (by omega) (by omega)
            refine g_aload_n F 4 dX6_bestOf_62 rfl ?_
            refine gm_get_0 F dX6_bestOf_63 ?_
            refine g_iload_n F 5 dX6_bestOf_66 rfl ?_
            refine g_iload_n F 6 dX6_bestOf_67 rfl ?_
            refine g_if_ne F 76 (by omega) dX6_bestOf_68 (by decide) (fun c68 => ?_) (fun c68 => ?_)
            · skip
              refine g_aload_n F 4 dX6_bestOf_76 rfl ?_
              refine gm_get_0 F dX6_bestOf_77 ?_
              refine g_iload_n F 5 dX6_bestOf_80 rfl ?_
              refine gm_ald_0 F (by omega) dX6_bestOf_81 ?_
              refine g_top (y := iI (M 0 c)) rfl ?_
              refine gm_ast_0 F (by omega) dX6_bestOf_82 ?_
              refine g_ws (ws' := mw κ ma (mA (tst M Gm) 0 (uI (M 0) c (M 0 c)))) rfl ?_
              refine g_aload_n F 4 dX6_bestOf_83 rfl ?_
              refine gm_get_1 F dX6_bestOf_84 ?_
              refine g_iload_n F 5 dX6_bestOf_87 rfl ?_
              refine g_iload_n F 6 dX6_bestOf_88 rfl ?_
              refine g_iconst F dX6_bestOf_89 ?_
              refine g_icmp_ne F 98 (by omega) dX6_bestOf_90 (by decide) (fun c90 => ?_) (fun c90 => ?_)
              · skip
                refine g_aload_n F 4 dX6_bestOf_98 rfl ?_
                refine gm_get_1 F dX6_bestOf_99 ?_
                refine g_iload_n F 5 dX6_bestOf_102 rfl ?_
                refine gm_ald_1 F (by omega) dX6_bestOf_103 ?_
                refine g_top (y := iI (M 1 c)) rfl ?_
                refine gm_ast_1 F (by omega) dX6_bestOf_104 ?_
                refine g_ws (ws' := mw κ ma (mA (mA (tst M Gm) 0 (uI (M 0) c (M 0 c))) 1 (uI (M 1) c (M 1 c)))) rfl ?_
                have hC : cl (mA (mA (tst M Gm) 0 (uI (M 0) c (M 0 c))) 1 (uI (M 1) c (M 1 c))) = oth (cl M) w c v := by first | (exfalso; omega) | (rw [oth_0 (by omega)]; show (uI (M 0) c v, uI (M 1) c (M 1 c), M 2, M 3, M 4 0) = (uI (M 0) c v, M 1, M 2, M 3, M 4 0); rw [uI_self]) | (rw [oth_1 (by omega)]; show (uI (M 0) c (M 0 c), uI (M 1) c v, M 2, M 3, M 4 0) = (M 0, uI (M 1) c v, M 2, M 3, M 4 0); rw [uI_self])
                have hpb := lasts_bd (cl (mA (mA (tst M Gm) 0 (uI (M 0) c (M 0 c))) 1 (uI (M 1) c (M 1 c)))) c
                refine g_aload_n F 4 dX6_bestOf_105 rfl ?_
                refine g_callV F (stk := [.ref (ma 100)]) (st := []) (k_X6_layLasts κ ma (mA (mA (tst M Gm) 0 (uI (M 0) c (M 0 c))) 1 (uI (M 1) c (M 1 c))) (show (M 4 0) ≤ 990000 from by omega) (by rw [hC]; exact oth_ok ok (by omega))) cal_X6_layLasts lm_X6_255 0 rfl rfl rfl rfl (by decide) rfl (Nat.le_of_ble_eq_true rfl) dX6_bestOf_106 (fun ws106 _ hr106 => ?_)
                obtain rfl := hr106
                refine g_ws (ws' := mw κ ma (mA (stC (mA (mA (tst M Gm) 0 (uI (M 0) c (M 0 c))) 1 (uI (M 1) c (M 1 c))) (goI 61 (cl (mA (mA (tst M Gm) 0 (uI (M 0) c (M 0 c))) 1 (uI (M 1) c (M 1 c)))))) 29 (lasts (cl (mA (mA (tst M Gm) 0 (uI (M 0) c (M 0 c))) 1 (uI (M 1) c (M 1 c))))))) rfl ?_
                refine g_aload_n F 4 dX6_bestOf_109 rfl ?_
                refine g_callV F (stk := [.ref (ma 100)]) (st := []) (k_X6_again κ ma (mA (stC (mA (mA (tst M Gm) 0 (uI (M 0) c (M 0 c))) 1 (uI (M 1) c (M 1 c))) (goI 61 (cl (mA (mA (tst M Gm) 0 (uI (M 0) c (M 0 c))) 1 (uI (M 1) c (M 1 c)))))) 29 (lasts (cl (mA (mA (tst M Gm) 0 (uI (M 0) c (M 0 c))) 1 (uI (M 1) c (M 1 c)))))) M (fun _ _ _ => rfl)) cal_X6_again lm_X6_197 0 rfl rfl rfl rfl (by decide) rfl (Nat.le_of_ble_eq_true rfl) dX6_bestOf_110 (fun ws110 _ hr110 => ?_)
                obtain rfl := hr110
                refine g_aload_n F 4 dX6_bestOf_113 rfl ?_
                refine gm_get_29 F dX6_bestOf_114 ?_
                refine g_iload_n F 5 dX6_bestOf_117 rfl ?_
                refine gm_ald_29 F (by omega) dX6_bestOf_118 ?_
                refine g_top (y := iI ((lasts (cl (mA (mA (tst M Gm) 0 (uI (M 0) c (M 0 c))) 1 (uI (M 1) c (M 1 c))))) c)) rfl ?_
                refine g_iload F 1 dX6_bestOf_119 rfl ?_
                refine g_icmp_le F 129 (by omega) dX6_bestOf_121 (by decide) (fun c121 => ?_) (fun c121 => ?_)
                · skip
                  refine g_iload F 2 dX6_bestOf_129 rfl ?_
                  refine g_istore F (lv' := [(4, .int (iI b)), (6, .int (iI v)), (5, .int (iI l)), (3, .int (iI (wbit 0 w 1))), (0, .ref (ma 100)), (1, .int (iI c)), (2, .int (iI w))]) dX6_bestOf_131 (by decide) rfl ?_
                  refine g_aload_n F 4 dX6_bestOf_133 rfl ?_
                  refine gm_get_29 F dX6_bestOf_134 ?_
                  refine g_iload_n F 5 dX6_bestOf_137 rfl ?_
                  refine gm_ald_29 F (by omega) dX6_bestOf_138 ?_
                  refine g_top (y := iI ((lasts (cl (mA (mA (tst M Gm) 0 (uI (M 0) c (M 0 c))) 1 (uI (M 1) c (M 1 c))))) c)) rfl ?_
                  refine g_iload F 2 dX6_bestOf_139 rfl ?_
                  refine g_icmp_le F 153 (by omega) dX6_bestOf_141 (by decide) (fun c141 => ?_) (fun c141 => ?_)
                  · skip
                    refine g_iload F 2 dX6_bestOf_153 rfl ?_
                    refine g_istore F (lv' := [(5, .int (iI l)), (4, .int (iI b)), (6, .int (iI v)), (3, .int (iI (wbit 0 w 1))), (0, .ref (ma 100)), (1, .int (iI c)), (2, .int (iI w))]) dX6_bestOf_155 (by decide) rfl ?_
                    refine g_iinc F (lv' := [(6, .int (iI (v + 1))), (5, .int (iI l)), (4, .int (iI b)), (3, .int (iI (wbit 0 w 1))), (0, .ref (ma 100)), (1, .int (iI c)), (2, .int (iI w))]) 2 dX6_bestOf_157 rfl (by decide) rfl ?_
                    refine g_goto F 46 dX6_bestOf_160 (by decide) ?_
                    refine g_sub F (lv' := [(6, .int (iI (v + 1))), (5, .int (iI l)), (4, .int (iI b)), (3, .int (iI (wbit 0 w 1))), (0, .ref (ma 100)), (1, .int (iI c)), (2, .int (iI w))]) [0, 1, 2, 3, 4, 5, 6] rfl ?_
                    refine g_ws (ws' := mw κ ma (tst M (agn (mA (stC (mA (mA (tst M Gm) 0 (uI (M 0) c (M 0 c))) 1 (uI (M 1) c (M 1 c))) (goI 61 (cl (mA (mA (tst M Gm) 0 (uI (M 0) c (M 0 c))) 1 (uI (M 1) c (M 1 c)))))) 29 (lasts (cl (mA (mA (tst M Gm) 0 (uI (M 0) c (M 0 c))) 1 (uI (M 1) c (M 1 c)))))) M))) rfl ?_
                    exact ih46 _ (by omega) (v + 1) b l (agn (mA (stC (mA (mA (tst M Gm) 0 (uI (M 0) c (M 0 c))) 1 (uI (M 1) c (M 1 c))) (goI 61 (cl (mA (mA (tst M Gm) 0 (uI (M 0) c (M 0 c))) 1 (uI (M 1) c (M 1 c)))))) 29 (lasts (cl (mA (mA (tst M Gm) 0 (uI (M 0) c (M 0 c))) 1 (uI (M 1) c (M 1 c)))))) M) rfl (by omega) (by first | (exfalso; omega) | exact smx_tx hs rfl (by show lasts (oth (cl M) w c v) c = _; rw [← hC]) hv.1 rfl (by omega) | exact smx_fx hs (by show lasts (oth (cl M) w c v) c = _; rw [← hC]) hv.1 (Or.inr (by omega))) (by omega)
                  · skip
                    refine g_aload_n F 4 dX6_bestOf_144 rfl ?_
                    refine gm_get_29 F dX6_bestOf_145 ?_
                    refine g_iload_n F 5 dX6_bestOf_148 rfl ?_
                    refine gm_ald_29 F (by omega) dX6_bestOf_149 ?_
                    refine g_top (y := iI ((lasts (cl (mA (mA (tst M Gm) 0 (uI (M 0) c (M 0 c))) 1 (uI (M 1) c (M 1 c))))) c)) rfl ?_
                    refine g_goto F 155 dX6_bestOf_150 (by decide) ?_
                    refine g_istore F (lv' := [(5, .int (iI ((lasts (cl (mA (mA (tst M Gm) 0 (uI (M 0) c (M 0 c))) 1 (uI (M 1) c (M 1 c))))) c))), (4, .int (iI b)), (6, .int (iI v)), (3, .int (iI (wbit 0 w 1))), (0, .ref (ma 100)), (1, .int (iI c)), (2, .int (iI w))]) dX6_bestOf_155 (by decide) rfl ?_
                    refine g_iinc F (lv' := [(6, .int (iI (v + 1))), (5, .int (iI ((lasts (cl (mA (mA (tst M Gm) 0 (uI (M 0) c (M 0 c))) 1 (uI (M 1) c (M 1 c))))) c))), (4, .int (iI b)), (3, .int (iI (wbit 0 w 1))), (0, .ref (ma 100)), (1, .int (iI c)), (2, .int (iI w))]) 2 dX6_bestOf_157 rfl (by decide) rfl ?_
                    refine g_goto F 46 dX6_bestOf_160 (by decide) ?_
                    refine g_sub F (lv' := [(6, .int (iI (v + 1))), (5, .int (iI ((lasts (cl (mA (mA (tst M Gm) 0 (uI (M 0) c (M 0 c))) 1 (uI (M 1) c (M 1 c))))) c))), (4, .int (iI b)), (3, .int (iI (wbit 0 w 1))), (0, .ref (ma 100)), (1, .int (iI c)), (2, .int (iI w))]) [0, 1, 2, 3, 4, 5, 6] rfl ?_
                    refine g_ws (ws' := mw κ ma (tst M (agn (mA (stC (mA (mA (tst M Gm) 0 (uI (M 0) c (M 0 c))) 1 (uI (M 1) c (M 1 c))) (goI 61 (cl (mA (mA (tst M Gm) 0 (uI (M 0) c (M 0 c))) 1 (uI (M 1) c (M 1 c)))))) 29 (lasts (cl (mA (mA (tst M Gm) 0 (uI (M 0) c (M 0 c))) 1 (uI (M 1) c (M 1 c)))))) M))) rfl ?_
                    exact ih46 _ (by omega) (v + 1) b ((lasts (cl (mA (mA (tst M Gm) 0 (uI (M 0) c (M 0 c))) 1 (uI (M 1) c (M 1 c))))) c) (agn (mA (stC (mA (mA (tst M Gm) 0 (uI (M 0) c (M 0 c))) 1 (uI (M 1) c (M 1 c))) (goI 61 (cl (mA (mA (tst M Gm) 0 (uI (M 0) c (M 0 c))) 1 (uI (M 1) c (M 1 c)))))) 29 (lasts (cl (mA (mA (tst M Gm) 0 (uI (M 0) c (M 0 c))) 1 (uI (M 1) c (M 1 c)))))) M) rfl (by omega) (by first | (exfalso; omega) | exact smx_tx hs rfl (by show lasts (oth (cl M) w c v) c = _; rw [← hC]) hv.1 rfl (by omega) | exact smx_fx hs (by show lasts (oth (cl M) w c v) c = _; rw [← hC]) hv.1 (Or.inr (by omega))) (by omega)
                · skip
                  refine g_iload F 0 dX6_bestOf_124 rfl ?_
                  refine g_goto F 131 dX6_bestOf_126 (by decide) ?_
                  refine g_istore F (lv' := [(4, .int (iI v)), (6, .int (iI v)), (5, .int (iI l)), (3, .int (iI (wbit 0 w 1))), (0, .ref (ma 100)), (1, .int (iI c)), (2, .int (iI w))]) dX6_bestOf_131 (by decide) rfl ?_
                  refine g_aload_n F 4 dX6_bestOf_133 rfl ?_
                  refine gm_get_29 F dX6_bestOf_134 ?_
                  refine g_iload_n F 5 dX6_bestOf_137 rfl ?_
                  refine gm_ald_29 F (by omega) dX6_bestOf_138 ?_
                  refine g_top (y := iI ((lasts (cl (mA (mA (tst M Gm) 0 (uI (M 0) c (M 0 c))) 1 (uI (M 1) c (M 1 c))))) c)) rfl ?_
                  refine g_iload F 2 dX6_bestOf_139 rfl ?_
                  refine g_icmp_le F 153 (by omega) dX6_bestOf_141 (by decide) (fun c141 => ?_) (fun c141 => ?_)
                  · skip
                    refine g_iload F 2 dX6_bestOf_153 rfl ?_
                    refine g_istore F (lv' := [(5, .int (iI l)), (4, .int (iI v)), (6, .int (iI v)), (3, .int (iI (wbit 0 w 1))), (0, .ref (ma 100)), (1, .int (iI c)), (2, .int (iI w))]) dX6_bestOf_155 (by decide) rfl ?_
                    refine g_iinc F (lv' := [(6, .int (iI (v + 1))), (5, .int (iI l)), (4, .int (iI v)), (3, .int (iI (wbit 0 w 1))), (0, .ref (ma 100)), (1, .int (iI c)), (2, .int (iI w))]) 2 dX6_bestOf_157 rfl (by decide) rfl ?_
                    refine g_goto F 46 dX6_bestOf_160 (by decide) ?_
                    refine g_sub F (lv' := [(6, .int (iI (v + 1))), (5, .int (iI l)), (4, .int (iI v)), (3, .int (iI (wbit 0 w 1))), (0, .ref (ma 100)), (1, .int (iI c)), (2, .int (iI w))]) [0, 1, 2, 3, 4, 5, 6] rfl ?_
                    refine g_ws (ws' := mw κ ma (tst M (agn (mA (stC (mA (mA (tst M Gm) 0 (uI (M 0) c (M 0 c))) 1 (uI (M 1) c (M 1 c))) (goI 61 (cl (mA (mA (tst M Gm) 0 (uI (M 0) c (M 0 c))) 1 (uI (M 1) c (M 1 c)))))) 29 (lasts (cl (mA (mA (tst M Gm) 0 (uI (M 0) c (M 0 c))) 1 (uI (M 1) c (M 1 c)))))) M))) rfl ?_
                    exact ih46 _ (by omega) (v + 1) v l (agn (mA (stC (mA (mA (tst M Gm) 0 (uI (M 0) c (M 0 c))) 1 (uI (M 1) c (M 1 c))) (goI 61 (cl (mA (mA (tst M Gm) 0 (uI (M 0) c (M 0 c))) 1 (uI (M 1) c (M 1 c)))))) 29 (lasts (cl (mA (mA (tst M Gm) 0 (uI (M 0) c (M 0 c))) 1 (uI (M 1) c (M 1 c)))))) M) rfl (by omega) (by first | (exfalso; omega) | exact smx_tx hs rfl (by show lasts (oth (cl M) w c v) c = _; rw [← hC]) hv.1 rfl (by omega) | exact smx_fx hs (by show lasts (oth (cl M) w c v) c = _; rw [← hC]) hv.1 (Or.inr (by omega))) (by omega)
                  · skip
                    refine g_aload_n F 4 dX6_bestOf_144 rfl ?_
                    refine gm_get_29 F dX6_bestOf_145 ?_
                    refine g_iload_n F 5 dX6_bestOf_148 rfl ?_
                    refine gm_ald_29 F (by omega) dX6_bestOf_149 ?_
                    refine g_top (y := iI ((lasts (cl (mA (mA (tst M Gm) 0 (uI (M 0) c (M 0 c))) 1 (uI (M 1) c (M 1 c))))) c)) rfl ?_
                    refine g_goto F 155 dX6_bestOf_150 (by decide) ?_
                    refine g_istore F (lv' := [(5, .int (iI ((lasts (cl (mA (mA (tst M Gm) 0 (uI (M 0) c (M 0 c))) 1 (uI (M 1) c (M 1 c))))) c))), (4, .int (iI v)), (6, .int (iI v)), (3, .int (iI (wbit 0 w 1))), (0, .ref (ma 100)), (1, .int (iI c)), (2, .int (iI w))]) dX6_bestOf_155 (by decide) rfl ?_
                    refine g_iinc F (lv' := [(6, .int (iI (v + 1))), (5, .int (iI ((lasts (cl (mA (mA (tst M Gm) 0 (uI (M 0) c (M 0 c))) 1 (uI (M 1) c (M 1 c))))) c))), (4, .int (iI v)), (3, .int (iI (wbit 0 w 1))), (0, .ref (ma 100)), (1, .int (iI c)), (2, .int (iI w))]) 2 dX6_bestOf_157 rfl (by decide) rfl ?_
                    refine g_goto F 46 dX6_bestOf_160 (by decide) ?_
                    refine g_sub F (lv' := [(6, .int (iI (v + 1))), (5, .int (iI ((lasts (cl (mA (mA (tst M Gm) 0 (uI (M 0) c (M 0 c))) 1 (uI (M 1) c (M 1 c))))) c))), (4, .int (iI v)), (3, .int (iI (wbit 0 w 1))), (0, .ref (ma 100)), (1, .int (iI c)), (2, .int (iI w))]) [0, 1, 2, 3, 4, 5, 6] rfl ?_
                    refine g_ws (ws' := mw κ ma (tst M (agn (mA (stC (mA (mA (tst M Gm) 0 (uI (M 0) c (M 0 c))) 1 (uI (M 1) c (M 1 c))) (goI 61 (cl (mA (mA (tst M Gm) 0 (uI (M 0) c (M 0 c))) 1 (uI (M 1) c (M 1 c)))))) 29 (lasts (cl (mA (mA (tst M Gm) 0 (uI (M 0) c (M 0 c))) 1 (uI (M 1) c (M 1 c)))))) M))) rfl ?_
                    exact ih46 _ (by omega) (v + 1) v ((lasts (cl (mA (mA (tst M Gm) 0 (uI (M 0) c (M 0 c))) 1 (uI (M 1) c (M 1 c))))) c) (agn (mA (stC (mA (mA (tst M Gm) 0 (uI (M 0) c (M 0 c))) 1 (uI (M 1) c (M 1 c))) (goI 61 (cl (mA (mA (tst M Gm) 0 (uI (M 0) c (M 0 c))) 1 (uI (M 1) c (M 1 c)))))) 29 (lasts (cl (mA (mA (tst M Gm) 0 (uI (M 0) c (M 0 c))) 1 (uI (M 1) c (M 1 c)))))) M) rfl (by omega) (by first | (exfalso; omega) | exact smx_tx hs rfl (by show lasts (oth (cl M) w c v) c = _; rw [← hC]) hv.1 rfl (by omega) | exact smx_fx hs (by show lasts (oth (cl M) w c v) c = _; rw [← hC]) hv.1 (Or.inr (by omega))) (by omega)
              · skip
                refine g_iload F 0 dX6_bestOf_93 rfl ?_
                refine g_goto F 104 dX6_bestOf_95 (by decide) ?_
                refine gm_ast_1 F (by omega) dX6_bestOf_104 ?_
                refine g_ws (ws' := mw κ ma (mA (mA (tst M Gm) 0 (uI (M 0) c (M 0 c))) 1 (uI (M 1) c v))) rfl ?_
                have hC : cl (mA (mA (tst M Gm) 0 (uI (M 0) c (M 0 c))) 1 (uI (M 1) c v)) = oth (cl M) w c v := by first | (exfalso; omega) | (rw [oth_0 (by omega)]; show (uI (M 0) c v, uI (M 1) c (M 1 c), M 2, M 3, M 4 0) = (uI (M 0) c v, M 1, M 2, M 3, M 4 0); rw [uI_self]) | (rw [oth_1 (by omega)]; show (uI (M 0) c (M 0 c), uI (M 1) c v, M 2, M 3, M 4 0) = (M 0, uI (M 1) c v, M 2, M 3, M 4 0); rw [uI_self])
                have hpb := lasts_bd (cl (mA (mA (tst M Gm) 0 (uI (M 0) c (M 0 c))) 1 (uI (M 1) c v))) c
                refine g_aload_n F 4 dX6_bestOf_105 rfl ?_
                refine g_callV F (stk := [.ref (ma 100)]) (st := []) (k_X6_layLasts κ ma (mA (mA (tst M Gm) 0 (uI (M 0) c (M 0 c))) 1 (uI (M 1) c v)) (show (M 4 0) ≤ 990000 from by omega) (by rw [hC]; exact oth_ok ok (by omega))) cal_X6_layLasts lm_X6_255 0 rfl rfl rfl rfl (by decide) rfl (Nat.le_of_ble_eq_true rfl) dX6_bestOf_106 (fun ws106 _ hr106 => ?_)
                obtain rfl := hr106
                refine g_ws (ws' := mw κ ma (mA (stC (mA (mA (tst M Gm) 0 (uI (M 0) c (M 0 c))) 1 (uI (M 1) c v)) (goI 61 (cl (mA (mA (tst M Gm) 0 (uI (M 0) c (M 0 c))) 1 (uI (M 1) c v))))) 29 (lasts (cl (mA (mA (tst M Gm) 0 (uI (M 0) c (M 0 c))) 1 (uI (M 1) c v)))))) rfl ?_
                refine g_aload_n F 4 dX6_bestOf_109 rfl ?_
                refine g_callV F (stk := [.ref (ma 100)]) (st := []) (k_X6_again κ ma (mA (stC (mA (mA (tst M Gm) 0 (uI (M 0) c (M 0 c))) 1 (uI (M 1) c v)) (goI 61 (cl (mA (mA (tst M Gm) 0 (uI (M 0) c (M 0 c))) 1 (uI (M 1) c v))))) 29 (lasts (cl (mA (mA (tst M Gm) 0 (uI (M 0) c (M 0 c))) 1 (uI (M 1) c v))))) M (fun _ _ _ => rfl)) cal_X6_again lm_X6_197 0 rfl rfl rfl rfl (by decide) rfl (Nat.le_of_ble_eq_true rfl) dX6_bestOf_110 (fun ws110 _ hr110 => ?_)
                obtain rfl := hr110
                refine g_aload_n F 4 dX6_bestOf_113 rfl ?_
                refine gm_get_29 F dX6_bestOf_114 ?_
                refine g_iload_n F 5 dX6_bestOf_117 rfl ?_
                refine gm_ald_29 F (by omega) dX6_bestOf_118 ?_
                refine g_top (y := iI ((lasts (cl (mA (mA (tst M Gm) 0 (uI (M 0) c (M 0 c))) 1 (uI (M 1) c v)))) c)) rfl ?_
                refine g_iload F 1 dX6_bestOf_119 rfl ?_
                refine g_icmp_le F 129 (by omega) dX6_bestOf_121 (by decide) (fun c121 => ?_) (fun c121 => ?_)
                · skip
                  refine g_iload F 2 dX6_bestOf_129 rfl ?_
                  refine g_istore F (lv' := [(4, .int (iI b)), (6, .int (iI v)), (5, .int (iI l)), (3, .int (iI (wbit 0 w 1))), (0, .ref (ma 100)), (1, .int (iI c)), (2, .int (iI w))]) dX6_bestOf_131 (by decide) rfl ?_
                  refine g_aload_n F 4 dX6_bestOf_133 rfl ?_
                  refine gm_get_29 F dX6_bestOf_134 ?_
                  refine g_iload_n F 5 dX6_bestOf_137 rfl ?_
                  refine gm_ald_29 F (by omega) dX6_bestOf_138 ?_
                  refine g_top (y := iI ((lasts (cl (mA (mA (tst M Gm) 0 (uI (M 0) c (M 0 c))) 1 (uI (M 1) c v)))) c)) rfl ?_
                  refine g_iload F 2 dX6_bestOf_139 rfl ?_
                  refine g_icmp_le F 153 (by omega) dX6_bestOf_141 (by decide) (fun c141 => ?_) (fun c141 => ?_)
                  · skip
                    refine g_iload F 2 dX6_bestOf_153 rfl ?_
                    refine g_istore F (lv' := [(5, .int (iI l)), (4, .int (iI b)), (6, .int (iI v)), (3, .int (iI (wbit 0 w 1))), (0, .ref (ma 100)), (1, .int (iI c)), (2, .int (iI w))]) dX6_bestOf_155 (by decide) rfl ?_
                    refine g_iinc F (lv' := [(6, .int (iI (v + 1))), (5, .int (iI l)), (4, .int (iI b)), (3, .int (iI (wbit 0 w 1))), (0, .ref (ma 100)), (1, .int (iI c)), (2, .int (iI w))]) 2 dX6_bestOf_157 rfl (by decide) rfl ?_
                    refine g_goto F 46 dX6_bestOf_160 (by decide) ?_
                    refine g_sub F (lv' := [(6, .int (iI (v + 1))), (5, .int (iI l)), (4, .int (iI b)), (3, .int (iI (wbit 0 w 1))), (0, .ref (ma 100)), (1, .int (iI c)), (2, .int (iI w))]) [0, 1, 2, 3, 4, 5, 6] rfl ?_
                    refine g_ws (ws' := mw κ ma (tst M (agn (mA (stC (mA (mA (tst M Gm) 0 (uI (M 0) c (M 0 c))) 1 (uI (M 1) c v)) (goI 61 (cl (mA (mA (tst M Gm) 0 (uI (M 0) c (M 0 c))) 1 (uI (M 1) c v))))) 29 (lasts (cl (mA (mA (tst M Gm) 0 (uI (M 0) c (M 0 c))) 1 (uI (M 1) c v))))) M))) rfl ?_
                    exact ih46 _ (by omega) (v + 1) b l (agn (mA (stC (mA (mA (tst M Gm) 0 (uI (M 0) c (M 0 c))) 1 (uI (M 1) c v)) (goI 61 (cl (mA (mA (tst M Gm) 0 (uI (M 0) c (M 0 c))) 1 (uI (M 1) c v))))) 29 (lasts (cl (mA (mA (tst M Gm) 0 (uI (M 0) c (M 0 c))) 1 (uI (M 1) c v))))) M) rfl (by omega) (by first | (exfalso; omega) | exact smx_tx hs rfl (by show lasts (oth (cl M) w c v) c = _; rw [← hC]) hv.1 rfl (by omega) | exact smx_fx hs (by show lasts (oth (cl M) w c v) c = _; rw [← hC]) hv.1 (Or.inr (by omega))) (by omega)
                  · skip
                    refine g_aload_n F 4 dX6_bestOf_144 rfl ?_
                    refine gm_get_29 F dX6_bestOf_145 ?_
                    refine g_iload_n F 5 dX6_bestOf_148 rfl ?_
                    refine gm_ald_29 F (by omega) dX6_bestOf_149 ?_
                    refine g_top (y := iI ((lasts (cl (mA (mA (tst M Gm) 0 (uI (M 0) c (M 0 c))) 1 (uI (M 1) c v)))) c)) rfl ?_
                    refine g_goto F 155 dX6_bestOf_150 (by decide) ?_
                    refine g_istore F (lv' := [(5, .int (iI ((lasts (cl (mA (mA (tst M Gm) 0 (uI (M 0) c (M 0 c))) 1 (uI (M 1) c v)))) c))), (4, .int (iI b)), (6, .int (iI v)), (3, .int (iI (wbit 0 w 1))), (0, .ref (ma 100)), (1, .int (iI c)), (2, .int (iI w))]) dX6_bestOf_155 (by decide) rfl ?_
                    refine g_iinc F (lv' := [(6, .int (iI (v + 1))), (5, .int (iI ((lasts (cl (mA (mA (tst M Gm) 0 (uI (M 0) c (M 0 c))) 1 (uI (M 1) c v)))) c))), (4, .int (iI b)), (3, .int (iI (wbit 0 w 1))), (0, .ref (ma 100)), (1, .int (iI c)), (2, .int (iI w))]) 2 dX6_bestOf_157 rfl (by decide) rfl ?_
                    refine g_goto F 46 dX6_bestOf_160 (by decide) ?_
                    refine g_sub F (lv' := [(6, .int (iI (v + 1))), (5, .int (iI ((lasts (cl (mA (mA (tst M Gm) 0 (uI (M 0) c (M 0 c))) 1 (uI (M 1) c v)))) c))), (4, .int (iI b)), (3, .int (iI (wbit 0 w 1))), (0, .ref (ma 100)), (1, .int (iI c)), (2, .int (iI w))]) [0, 1, 2, 3, 4, 5, 6] rfl ?_
                    refine g_ws (ws' := mw κ ma (tst M (agn (mA (stC (mA (mA (tst M Gm) 0 (uI (M 0) c (M 0 c))) 1 (uI (M 1) c v)) (goI 61 (cl (mA (mA (tst M Gm) 0 (uI (M 0) c (M 0 c))) 1 (uI (M 1) c v))))) 29 (lasts (cl (mA (mA (tst M Gm) 0 (uI (M 0) c (M 0 c))) 1 (uI (M 1) c v))))) M))) rfl ?_
                    exact ih46 _ (by omega) (v + 1) b ((lasts (cl (mA (mA (tst M Gm) 0 (uI (M 0) c (M 0 c))) 1 (uI (M 1) c v)))) c) (agn (mA (stC (mA (mA (tst M Gm) 0 (uI (M 0) c (M 0 c))) 1 (uI (M 1) c v)) (goI 61 (cl (mA (mA (tst M Gm) 0 (uI (M 0) c (M 0 c))) 1 (uI (M 1) c v))))) 29 (lasts (cl (mA (mA (tst M Gm) 0 (uI (M 0) c (M 0 c))) 1 (uI (M 1) c v))))) M) rfl (by omega) (by first | (exfalso; omega) | exact smx_tx hs rfl (by show lasts (oth (cl M) w c v) c = _; rw [← hC]) hv.1 rfl (by omega) | exact smx_fx hs (by show lasts (oth (cl M) w c v) c = _; rw [← hC]) hv.1 (Or.inr (by omega))) (by omega)
                · skip
                  refine g_iload F 0 dX6_bestOf_124 rfl ?_
                  refine g_goto F 131 dX6_bestOf_126 (by decide) ?_
                  refine g_istore F (lv' := [(4, .int (iI v)), (6, .int (iI v)), (5, .int (iI l)), (3, .int (iI (wbit 0 w 1))), (0, .ref (ma 100)), (1, .int (iI c)), (2, .int (iI w))]) dX6_bestOf_131 (by decide) rfl ?_
                  refine g_aload_n F 4 dX6_bestOf_133 rfl ?_
                  refine gm_get_29 F dX6_bestOf_134 ?_
                  refine g_iload_n F 5 dX6_bestOf_137 rfl ?_
                  refine gm_ald_29 F (by omega) dX6_bestOf_138 ?_
                  refine g_top (y := iI ((lasts (cl (mA (mA (tst M Gm) 0 (uI (M 0) c (M 0 c))) 1 (uI (M 1) c v)))) c)) rfl ?_
                  refine g_iload F 2 dX6_bestOf_139 rfl ?_
                  refine g_icmp_le F 153 (by omega) dX6_bestOf_141 (by decide) (fun c141 => ?_) (fun c141 => ?_)
                  · skip
                    refine g_iload F 2 dX6_bestOf_153 rfl ?_
                    refine g_istore F (lv' := [(5, .int (iI l)), (4, .int (iI v)), (6, .int (iI v)), (3, .int (iI (wbit 0 w 1))), (0, .ref (ma 100)), (1, .int (iI c)), (2, .int (iI w))]) dX6_bestOf_155 (by decide) rfl ?_
                    refine g_iinc F (lv' := [(6, .int (iI (v + 1))), (5, .int (iI l)), (4, .int (iI v)), (3, .int (iI (wbit 0 w 1))), (0, .ref (ma 100)), (1, .int (iI c)), (2, .int (iI w))]) 2 dX6_bestOf_157 rfl (by decide) rfl ?_
                    refine g_goto F 46 dX6_bestOf_160 (by decide) ?_
                    refine g_sub F (lv' := [(6, .int (iI (v + 1))), (5, .int (iI l)), (4, .int (iI v)), (3, .int (iI (wbit 0 w 1))), (0, .ref (ma 100)), (1, .int (iI c)), (2, .int (iI w))]) [0, 1, 2, 3, 4, 5, 6] rfl ?_
                    refine g_ws (ws' := mw κ ma (tst M (agn (mA (stC (mA (mA (tst M Gm) 0 (uI (M 0) c (M 0 c))) 1 (uI (M 1) c v)) (goI 61 (cl (mA (mA (tst M Gm) 0 (uI (M 0) c (M 0 c))) 1 (uI (M 1) c v))))) 29 (lasts (cl (mA (mA (tst M Gm) 0 (uI (M 0) c (M 0 c))) 1 (uI (M 1) c v))))) M))) rfl ?_
                    exact ih46 _ (by omega) (v + 1) v l (agn (mA (stC (mA (mA (tst M Gm) 0 (uI (M 0) c (M 0 c))) 1 (uI (M 1) c v)) (goI 61 (cl (mA (mA (tst M Gm) 0 (uI (M 0) c (M 0 c))) 1 (uI (M 1) c v))))) 29 (lasts (cl (mA (mA (tst M Gm) 0 (uI (M 0) c (M 0 c))) 1 (uI (M 1) c v))))) M) rfl (by omega) (by first | (exfalso; omega) | exact smx_tx hs rfl (by show lasts (oth (cl M) w c v) c = _; rw [← hC]) hv.1 rfl (by omega) | exact smx_fx hs (by show lasts (oth (cl M) w c v) c = _; rw [← hC]) hv.1 (Or.inr (by omega))) (by omega)
                  · skip
                    refine g_aload_n F 4 dX6_bestOf_144 rfl ?_
                    refine gm_get_29 F dX6_bestOf_145 ?_
                    refine g_iload_n F 5 dX6_bestOf_148 rfl ?_
                    refine gm_ald_29 F (by omega) dX6_bestOf_149 ?_
                    refine g_top (y := iI ((lasts (cl (mA (mA (tst M Gm) 0 (uI (M 0) c (M 0 c))) 1 (uI (M 1) c v)))) c)) rfl ?_
                    refine g_goto F 155 dX6_bestOf_150 (by decide) ?_
                    refine g_istore F (lv' := [(5, .int (iI ((lasts (cl (mA (mA (tst M Gm) 0 (uI (M 0) c (M 0 c))) 1 (uI (M 1) c v)))) c))), (4, .int (iI v)), (6, .int (iI v)), (3, .int (iI (wbit 0 w 1))), (0, .ref (ma 100)), (1, .int (iI c)), (2, .int (iI w))]) dX6_bestOf_155 (by decide) rfl ?_
                    refine g_iinc F (lv' := [(6, .int (iI (v + 1))), (5, .int (iI ((lasts (cl (mA (mA (tst M Gm) 0 (uI (M 0) c (M 0 c))) 1 (uI (M 1) c v)))) c))), (4, .int (iI v)), (3, .int (iI (wbit 0 w 1))), (0, .ref (ma 100)), (1, .int (iI c)), (2, .int (iI w))]) 2 dX6_bestOf_157 rfl (by decide) rfl ?_
                    refine g_goto F 46 dX6_bestOf_160 (by decide) ?_
                    refine g_sub F (lv' := [(6, .int (iI (v + 1))), (5, .int (iI ((lasts (cl (mA (mA (tst M Gm) 0 (uI (M 0) c (M 0 c))) 1 (uI (M 1) c v)))) c))), (4, .int (iI v)), (3, .int (iI (wbit 0 w 1))), (0, .ref (ma 100)), (1, .int (iI c)), (2, .int (iI w))]) [0, 1, 2, 3, 4, 5, 6] rfl ?_
                    refine g_ws (ws' := mw κ ma (tst M (agn (mA (stC (mA (mA (tst M Gm) 0 (uI (M 0) c (M 0 c))) 1 (uI (M 1) c v)) (goI 61 (cl (mA (mA (tst M Gm) 0 (uI (M 0) c (M 0 c))) 1 (uI (M 1) c v))))) 29 (lasts (cl (mA (mA (tst M Gm) 0 (uI (M 0) c (M 0 c))) 1 (uI (M 1) c v))))) M))) rfl ?_
                    exact ih46 _ (by omega) (v + 1) v ((lasts (cl (mA (mA (tst M Gm) 0 (uI (M 0) c (M 0 c))) 1 (uI (M 1) c v)))) c) (agn (mA (stC (mA (mA (tst M Gm) 0 (uI (M 0) c (M 0 c))) 1 (uI (M 1) c v)) (goI 61 (cl (mA (mA (tst M Gm) 0 (uI (M 0) c (M 0 c))) 1 (uI (M 1) c v))))) 29 (lasts (cl (mA (mA (tst M Gm) 0 (uI (M 0) c (M 0 c))) 1 (uI (M 1) c v))))) M) rfl (by omega) (by first | (exfalso; omega) | exact smx_tx hs rfl (by show lasts (oth (cl M) w c v) c = _; rw [← hC]) hv.1 rfl (by omega) | exact smx_fx hs (by show lasts (oth (cl M) w c v) c = _; rw [← hC]) hv.1 (Or.inr (by omega))) (by omega)
            · skip
              refine g_iload F 0 dX6_bestOf_71 rfl ?_
              refine g_goto F 82 dX6_bestOf_73 (by decide) ?_
              refine gm_ast_0 F (by omega) dX6_bestOf_82 ?_
              refine g_ws (ws' := mw κ ma (mA (tst M Gm) 0 (uI (M 0) c v))) rfl ?_
              refine g_aload_n F 4 dX6_bestOf_83 rfl ?_
              refine gm_get_1 F dX6_bestOf_84 ?_
              refine g_iload_n F 5 dX6_bestOf_87 rfl ?_
              refine g_iload_n F 6 dX6_bestOf_88 rfl ?_
              refine g_iconst F dX6_bestOf_89 ?_
              refine g_icmp_ne F 98 (by omega) dX6_bestOf_90 (by decide) (fun c90 => ?_) (fun c90 => ?_)
              · skip
                refine g_aload_n F 4 dX6_bestOf_98 rfl ?_
                refine gm_get_1 F dX6_bestOf_99 ?_
                refine g_iload_n F 5 dX6_bestOf_102 rfl ?_
                refine gm_ald_1 F (by omega) dX6_bestOf_103 ?_
                refine g_top (y := iI (M 1 c)) rfl ?_
                refine gm_ast_1 F (by omega) dX6_bestOf_104 ?_
                refine g_ws (ws' := mw κ ma (mA (mA (tst M Gm) 0 (uI (M 0) c v)) 1 (uI (M 1) c (M 1 c)))) rfl ?_
                have hC : cl (mA (mA (tst M Gm) 0 (uI (M 0) c v)) 1 (uI (M 1) c (M 1 c))) = oth (cl M) w c v := by first | (exfalso; omega) | (rw [oth_0 (by omega)]; show (uI (M 0) c v, uI (M 1) c (M 1 c), M 2, M 3, M 4 0) = (uI (M 0) c v, M 1, M 2, M 3, M 4 0); rw [uI_self]) | (rw [oth_1 (by omega)]; show (uI (M 0) c (M 0 c), uI (M 1) c v, M 2, M 3, M 4 0) = (M 0, uI (M 1) c v, M 2, M 3, M 4 0); rw [uI_self])
                have hpb := lasts_bd (cl (mA (mA (tst M Gm) 0 (uI (M 0) c v)) 1 (uI (M 1) c (M 1 c)))) c
                refine g_aload_n F 4 dX6_bestOf_105 rfl ?_
                refine g_callV F (stk := [.ref (ma 100)]) (st := []) (k_X6_layLasts κ ma (mA (mA (tst M Gm) 0 (uI (M 0) c v)) 1 (uI (M 1) c (M 1 c))) (show (M 4 0) ≤ 990000 from by omega) (by rw [hC]; exact oth_ok ok (by omega))) cal_X6_layLasts lm_X6_255 0 rfl rfl rfl rfl (by decide) rfl (Nat.le_of_ble_eq_true rfl) dX6_bestOf_106 (fun ws106 _ hr106 => ?_)
                obtain rfl := hr106
                refine g_ws (ws' := mw κ ma (mA (stC (mA (mA (tst M Gm) 0 (uI (M 0) c v)) 1 (uI (M 1) c (M 1 c))) (goI 61 (cl (mA (mA (tst M Gm) 0 (uI (M 0) c v)) 1 (uI (M 1) c (M 1 c)))))) 29 (lasts (cl (mA (mA (tst M Gm) 0 (uI (M 0) c v)) 1 (uI (M 1) c (M 1 c))))))) rfl ?_
                refine g_aload_n F 4 dX6_bestOf_109 rfl ?_
                refine g_callV F (stk := [.ref (ma 100)]) (st := []) (k_X6_again κ ma (mA (stC (mA (mA (tst M Gm) 0 (uI (M 0) c v)) 1 (uI (M 1) c (M 1 c))) (goI 61 (cl (mA (mA (tst M Gm) 0 (uI (M 0) c v)) 1 (uI (M 1) c (M 1 c)))))) 29 (lasts (cl (mA (mA (tst M Gm) 0 (uI (M 0) c v)) 1 (uI (M 1) c (M 1 c)))))) M (fun _ _ _ => rfl)) cal_X6_again lm_X6_197 0 rfl rfl rfl rfl (by decide) rfl (Nat.le_of_ble_eq_true rfl) dX6_bestOf_110 (fun ws110 _ hr110 => ?_)
                obtain rfl := hr110
                refine g_aload_n F 4 dX6_bestOf_113 rfl ?_
                refine gm_get_29 F dX6_bestOf_114 ?_
                refine g_iload_n F 5 dX6_bestOf_117 rfl ?_
                refine gm_ald_29 F (by omega) dX6_bestOf_118 ?_
                refine g_top (y := iI ((lasts (cl (mA (mA (tst M Gm) 0 (uI (M 0) c v)) 1 (uI (M 1) c (M 1 c))))) c)) rfl ?_
                refine g_iload F 1 dX6_bestOf_119 rfl ?_
                refine g_icmp_le F 129 (by omega) dX6_bestOf_121 (by decide) (fun c121 => ?_) (fun c121 => ?_)
                · skip
                  refine g_iload F 2 dX6_bestOf_129 rfl ?_
                  refine g_istore F (lv' := [(4, .int (iI b)), (6, .int (iI v)), (5, .int (iI l)), (3, .int (iI (wbit 0 w 1))), (0, .ref (ma 100)), (1, .int (iI c)), (2, .int (iI w))]) dX6_bestOf_131 (by decide) rfl ?_
                  refine g_aload_n F 4 dX6_bestOf_133 rfl ?_
                  refine gm_get_29 F dX6_bestOf_134 ?_
                  refine g_iload_n F 5 dX6_bestOf_137 rfl ?_
                  refine gm_ald_29 F (by omega) dX6_bestOf_138 ?_
                  refine g_top (y := iI ((lasts (cl (mA (mA (tst M Gm) 0 (uI (M 0) c v)) 1 (uI (M 1) c (M 1 c))))) c)) rfl ?_
                  refine g_iload F 2 dX6_bestOf_139 rfl ?_
                  refine g_icmp_le F 153 (by omega) dX6_bestOf_141 (by decide) (fun c141 => ?_) (fun c141 => ?_)
                  · skip
                    refine g_iload F 2 dX6_bestOf_153 rfl ?_
                    refine g_istore F (lv' := [(5, .int (iI l)), (4, .int (iI b)), (6, .int (iI v)), (3, .int (iI (wbit 0 w 1))), (0, .ref (ma 100)), (1, .int (iI c)), (2, .int (iI w))]) dX6_bestOf_155 (by decide) rfl ?_
                    refine g_iinc F (lv' := [(6, .int (iI (v + 1))), (5, .int (iI l)), (4, .int (iI b)), (3, .int (iI (wbit 0 w 1))), (0, .ref (ma 100)), (1, .int (iI c)), (2, .int (iI w))]) 2 dX6_bestOf_157 rfl (by decide) rfl ?_
                    refine g_goto F 46 dX6_bestOf_160 (by decide) ?_
                    refine g_sub F (lv' := [(6, .int (iI (v + 1))), (5, .int (iI l)), (4, .int (iI b)), (3, .int (iI (wbit 0 w 1))), (0, .ref (ma 100)), (1, .int (iI c)), (2, .int (iI w))]) [0, 1, 2, 3, 4, 5, 6] rfl ?_
                    refine g_ws (ws' := mw κ ma (tst M (agn (mA (stC (mA (mA (tst M Gm) 0 (uI (M 0) c v)) 1 (uI (M 1) c (M 1 c))) (goI 61 (cl (mA (mA (tst M Gm) 0 (uI (M 0) c v)) 1 (uI (M 1) c (M 1 c)))))) 29 (lasts (cl (mA (mA (tst M Gm) 0 (uI (M 0) c v)) 1 (uI (M 1) c (M 1 c)))))) M))) rfl ?_
                    exact ih46 _ (by omega) (v + 1) b l (agn (mA (stC (mA (mA (tst M Gm) 0 (uI (M 0) c v)) 1 (uI (M 1) c (M 1 c))) (goI 61 (cl (mA (mA (tst M Gm) 0 (uI (M 0) c v)) 1 (uI (M 1) c (M 1 c)))))) 29 (lasts (cl (mA (mA (tst M Gm) 0 (uI (M 0) c v)) 1 (uI (M 1) c (M 1 c)))))) M) rfl (by omega) (by first | (exfalso; omega) | exact smx_tx hs rfl (by show lasts (oth (cl M) w c v) c = _; rw [← hC]) hv.1 rfl (by omega) | exact smx_fx hs (by show lasts (oth (cl M) w c v) c = _; rw [← hC]) hv.1 (Or.inr (by omega))) (by omega)
                  · skip
                    refine g_aload_n F 4 dX6_bestOf_144 rfl ?_
                    refine gm_get_29 F dX6_bestOf_145 ?_
                    refine g_iload_n F 5 dX6_bestOf_148 rfl ?_
                    refine gm_ald_29 F (by omega) dX6_bestOf_149 ?_
                    refine g_top (y := iI ((lasts (cl (mA (mA (tst M Gm) 0 (uI (M 0) c v)) 1 (uI (M 1) c (M 1 c))))) c)) rfl ?_
                    refine g_goto F 155 dX6_bestOf_150 (by decide) ?_
                    refine g_istore F (lv' := [(5, .int (iI ((lasts (cl (mA (mA (tst M Gm) 0 (uI (M 0) c v)) 1 (uI (M 1) c (M 1 c))))) c))), (4, .int (iI b)), (6, .int (iI v)), (3, .int (iI (wbit 0 w 1))), (0, .ref (ma 100)), (1, .int (iI c)), (2, .int (iI w))]) dX6_bestOf_155 (by decide) rfl ?_
                    refine g_iinc F (lv' := [(6, .int (iI (v + 1))), (5, .int (iI ((lasts (cl (mA (mA (tst M Gm) 0 (uI (M 0) c v)) 1 (uI (M 1) c (M 1 c))))) c))), (4, .int (iI b)), (3, .int (iI (wbit 0 w 1))), (0, .ref (ma 100)), (1, .int (iI c)), (2, .int (iI w))]) 2 dX6_bestOf_157 rfl (by decide) rfl ?_
                    refine g_goto F 46 dX6_bestOf_160 (by decide) ?_
                    refine g_sub F (lv' := [(6, .int (iI (v + 1))), (5, .int (iI ((lasts (cl (mA (mA (tst M Gm) 0 (uI (M 0) c v)) 1 (uI (M 1) c (M 1 c))))) c))), (4, .int (iI b)), (3, .int (iI (wbit 0 w 1))), (0, .ref (ma 100)), (1, .int (iI c)), (2, .int (iI w))]) [0, 1, 2, 3, 4, 5, 6] rfl ?_
                    refine g_ws (ws' := mw κ ma (tst M (agn (mA (stC (mA (mA (tst M Gm) 0 (uI (M 0) c v)) 1 (uI (M 1) c (M 1 c))) (goI 61 (cl (mA (mA (tst M Gm) 0 (uI (M 0) c v)) 1 (uI (M 1) c (M 1 c)))))) 29 (lasts (cl (mA (mA (tst M Gm) 0 (uI (M 0) c v)) 1 (uI (M 1) c (M 1 c)))))) M))) rfl ?_
                    exact ih46 _ (by omega) (v + 1) b ((lasts (cl (mA (mA (tst M Gm) 0 (uI (M 0) c v)) 1 (uI (M 1) c (M 1 c))))) c) (agn (mA (stC (mA (mA (tst M Gm) 0 (uI (M 0) c v)) 1 (uI (M 1) c (M 1 c))) (goI 61 (cl (mA (mA (tst M Gm) 0 (uI (M 0) c v)) 1 (uI (M 1) c (M 1 c)))))) 29 (lasts (cl (mA (mA (tst M Gm) 0 (uI (M 0) c v)) 1 (uI (M 1) c (M 1 c)))))) M) rfl (by omega) (by first | (exfalso; omega) | exact smx_tx hs rfl (by show lasts (oth (cl M) w c v) c = _; rw [← hC]) hv.1 rfl (by omega) | exact smx_fx hs (by show lasts (oth (cl M) w c v) c = _; rw [← hC]) hv.1 (Or.inr (by omega))) (by omega)
                · skip
                  refine g_iload F 0 dX6_bestOf_124 rfl ?_
                  refine g_goto F 131 dX6_bestOf_126 (by decide) ?_
                  refine g_istore F (lv' := [(4, .int (iI v)), (6, .int (iI v)), (5, .int (iI l)), (3, .int (iI (wbit 0 w 1))), (0, .ref (ma 100)), (1, .int (iI c)), (2, .int (iI w))]) dX6_bestOf_131 (by decide) rfl ?_
                  refine g_aload_n F 4 dX6_bestOf_133 rfl ?_
                  refine gm_get_29 F dX6_bestOf_134 ?_
                  refine g_iload_n F 5 dX6_bestOf_137 rfl ?_
                  refine gm_ald_29 F (by omega) dX6_bestOf_138 ?_
                  refine g_top (y := iI ((lasts (cl (mA (mA (tst M Gm) 0 (uI (M 0) c v)) 1 (uI (M 1) c (M 1 c))))) c)) rfl ?_
                  refine g_iload F 2 dX6_bestOf_139 rfl ?_
                  refine g_icmp_le F 153 (by omega) dX6_bestOf_141 (by decide) (fun c141 => ?_) (fun c141 => ?_)
                  · skip
                    refine g_iload F 2 dX6_bestOf_153 rfl ?_
                    refine g_istore F (lv' := [(5, .int (iI l)), (4, .int (iI v)), (6, .int (iI v)), (3, .int (iI (wbit 0 w 1))), (0, .ref (ma 100)), (1, .int (iI c)), (2, .int (iI w))]) dX6_bestOf_155 (by decide) rfl ?_
                    refine g_iinc F (lv' := [(6, .int (iI (v + 1))), (5, .int (iI l)), (4, .int (iI v)), (3, .int (iI (wbit 0 w 1))), (0, .ref (ma 100)), (1, .int (iI c)), (2, .int (iI w))]) 2 dX6_bestOf_157 rfl (by decide) rfl ?_
                    refine g_goto F 46 dX6_bestOf_160 (by decide) ?_
                    refine g_sub F (lv' := [(6, .int (iI (v + 1))), (5, .int (iI l)), (4, .int (iI v)), (3, .int (iI (wbit 0 w 1))), (0, .ref (ma 100)), (1, .int (iI c)), (2, .int (iI w))]) [0, 1, 2, 3, 4, 5, 6] rfl ?_
                    refine g_ws (ws' := mw κ ma (tst M (agn (mA (stC (mA (mA (tst M Gm) 0 (uI (M 0) c v)) 1 (uI (M 1) c (M 1 c))) (goI 61 (cl (mA (mA (tst M Gm) 0 (uI (M 0) c v)) 1 (uI (M 1) c (M 1 c)))))) 29 (lasts (cl (mA (mA (tst M Gm) 0 (uI (M 0) c v)) 1 (uI (M 1) c (M 1 c)))))) M))) rfl ?_
                    exact ih46 _ (by omega) (v + 1) v l (agn (mA (stC (mA (mA (tst M Gm) 0 (uI (M 0) c v)) 1 (uI (M 1) c (M 1 c))) (goI 61 (cl (mA (mA (tst M Gm) 0 (uI (M 0) c v)) 1 (uI (M 1) c (M 1 c)))))) 29 (lasts (cl (mA (mA (tst M Gm) 0 (uI (M 0) c v)) 1 (uI (M 1) c (M 1 c)))))) M) rfl (by omega) (by first | (exfalso; omega) | exact smx_tx hs rfl (by show lasts (oth (cl M) w c v) c = _; rw [← hC]) hv.1 rfl (by omega) | exact smx_fx hs (by show lasts (oth (cl M) w c v) c = _; rw [← hC]) hv.1 (Or.inr (by omega))) (by omega)
                  · skip
                    refine g_aload_n F 4 dX6_bestOf_144 rfl ?_
                    refine gm_get_29 F dX6_bestOf_145 ?_
                    refine g_iload_n F 5 dX6_bestOf_148 rfl ?_
                    refine gm_ald_29 F (by omega) dX6_bestOf_149 ?_
                    refine g_top (y := iI ((lasts (cl (mA (mA (tst M Gm) 0 (uI (M 0) c v)) 1 (uI (M 1) c (M 1 c))))) c)) rfl ?_
                    refine g_goto F 155 dX6_bestOf_150 (by decide) ?_
                    refine g_istore F (lv' := [(5, .int (iI ((lasts (cl (mA (mA (tst M Gm) 0 (uI (M 0) c v)) 1 (uI (M 1) c (M 1 c))))) c))), (4, .int (iI v)), (6, .int (iI v)), (3, .int (iI (wbit 0 w 1))), (0, .ref (ma 100)), (1, .int (iI c)), (2, .int (iI w))]) dX6_bestOf_155 (by decide) rfl ?_
                    refine g_iinc F (lv' := [(6, .int (iI (v + 1))), (5, .int (iI ((lasts (cl (mA (mA (tst M Gm) 0 (uI (M 0) c v)) 1 (uI (M 1) c (M 1 c))))) c))), (4, .int (iI v)), (3, .int (iI (wbit 0 w 1))), (0, .ref (ma 100)), (1, .int (iI c)), (2, .int (iI w))]) 2 dX6_bestOf_157 rfl (by decide) rfl ?_
                    refine g_goto F 46 dX6_bestOf_160 (by decide) ?_
                    refine g_sub F (lv' := [(6, .int (iI (v + 1))), (5, .int (iI ((lasts (cl (mA (mA (tst M Gm) 0 (uI (M 0) c v)) 1 (uI (M 1) c (M 1 c))))) c))), (4, .int (iI v)), (3, .int (iI (wbit 0 w 1))), (0, .ref (ma 100)), (1, .int (iI c)), (2, .int (iI w))]) [0, 1, 2, 3, 4, 5, 6] rfl ?_
                    refine g_ws (ws' := mw κ ma (tst M (agn (mA (stC (mA (mA (tst M Gm) 0 (uI (M 0) c v)) 1 (uI (M 1) c (M 1 c))) (goI 61 (cl (mA (mA (tst M Gm) 0 (uI (M 0) c v)) 1 (uI (M 1) c (M 1 c)))))) 29 (lasts (cl (mA (mA (tst M Gm) 0 (uI (M 0) c v)) 1 (uI (M 1) c (M 1 c)))))) M))) rfl ?_
                    exact ih46 _ (by omega) (v + 1) v ((lasts (cl (mA (mA (tst M Gm) 0 (uI (M 0) c v)) 1 (uI (M 1) c (M 1 c))))) c) (agn (mA (stC (mA (mA (tst M Gm) 0 (uI (M 0) c v)) 1 (uI (M 1) c (M 1 c))) (goI 61 (cl (mA (mA (tst M Gm) 0 (uI (M 0) c v)) 1 (uI (M 1) c (M 1 c)))))) 29 (lasts (cl (mA (mA (tst M Gm) 0 (uI (M 0) c v)) 1 (uI (M 1) c (M 1 c)))))) M) rfl (by omega) (by first | (exfalso; omega) | exact smx_tx hs rfl (by show lasts (oth (cl M) w c v) c = _; rw [← hC]) hv.1 rfl (by omega) | exact smx_fx hs (by show lasts (oth (cl M) w c v) c = _; rw [← hC]) hv.1 (Or.inr (by omega))) (by omega)
              · skip
                refine g_iload F 0 dX6_bestOf_93 rfl ?_
                refine g_goto F 104 dX6_bestOf_95 (by decide) ?_
                refine gm_ast_1 F (by omega) dX6_bestOf_104 ?_
                refine g_ws (ws' := mw κ ma (mA (mA (tst M Gm) 0 (uI (M 0) c v)) 1 (uI (M 1) c v))) rfl ?_
                have hC : cl (mA (mA (tst M Gm) 0 (uI (M 0) c v)) 1 (uI (M 1) c v)) = oth (cl M) w c v := by first | (exfalso; omega) | (rw [oth_0 (by omega)]; show (uI (M 0) c v, uI (M 1) c (M 1 c), M 2, M 3, M 4 0) = (uI (M 0) c v, M 1, M 2, M 3, M 4 0); rw [uI_self]) | (rw [oth_1 (by omega)]; show (uI (M 0) c (M 0 c), uI (M 1) c v, M 2, M 3, M 4 0) = (M 0, uI (M 1) c v, M 2, M 3, M 4 0); rw [uI_self])
                have hpb := lasts_bd (cl (mA (mA (tst M Gm) 0 (uI (M 0) c v)) 1 (uI (M 1) c v))) c
                refine g_aload_n F 4 dX6_bestOf_105 rfl ?_
                refine g_callV F (stk := [.ref (ma 100)]) (st := []) (k_X6_layLasts κ ma (mA (mA (tst M Gm) 0 (uI (M 0) c v)) 1 (uI (M 1) c v)) (show (M 4 0) ≤ 990000 from by omega) (by rw [hC]; exact oth_ok ok (by omega))) cal_X6_layLasts lm_X6_255 0 rfl rfl rfl rfl (by decide) rfl (Nat.le_of_ble_eq_true rfl) dX6_bestOf_106 (fun ws106 _ hr106 => ?_)
                obtain rfl := hr106
                refine g_ws (ws' := mw κ ma (mA (stC (mA (mA (tst M Gm) 0 (uI (M 0) c v)) 1 (uI (M 1) c v)) (goI 61 (cl (mA (mA (tst M Gm) 0 (uI (M 0) c v)) 1 (uI (M 1) c v))))) 29 (lasts (cl (mA (mA (tst M Gm) 0 (uI (M 0) c v)) 1 (uI (M 1) c v)))))) rfl ?_
                refine g_aload_n F 4 dX6_bestOf_109 rfl ?_
                refine g_callV F (stk := [.ref (ma 100)]) (st := []) (k_X6_again κ ma (mA (stC (mA (mA (tst M Gm) 0 (uI (M 0) c v)) 1 (uI (M 1) c v)) (goI 61 (cl (mA (mA (tst M Gm) 0 (uI (M 0) c v)) 1 (uI (M 1) c v))))) 29 (lasts (cl (mA (mA (tst M Gm) 0 (uI (M 0) c v)) 1 (uI (M 1) c v))))) M (fun _ _ _ => rfl)) cal_X6_again lm_X6_197 0 rfl rfl rfl rfl (by decide) rfl (Nat.le_of_ble_eq_true rfl) dX6_bestOf_110 (fun ws110 _ hr110 => ?_)
                obtain rfl := hr110
                refine g_aload_n F 4 dX6_bestOf_113 rfl ?_
                refine gm_get_29 F dX6_bestOf_114 ?_
                refine g_iload_n F 5 dX6_bestOf_117 rfl ?_
                refine gm_ald_29 F (by omega) dX6_bestOf_118 ?_
                refine g_top (y := iI ((lasts (cl (mA (mA (tst M Gm) 0 (uI (M 0) c v)) 1 (uI (M 1) c v)))) c)) rfl ?_
                refine g_iload F 1 dX6_bestOf_119 rfl ?_
                refine g_icmp_le F 129 (by omega) dX6_bestOf_121 (by decide) (fun c121 => ?_) (fun c121 => ?_)
                · skip
                  refine g_iload F 2 dX6_bestOf_129 rfl ?_
                  refine g_istore F (lv' := [(4, .int (iI b)), (6, .int (iI v)), (5, .int (iI l)), (3, .int (iI (wbit 0 w 1))), (0, .ref (ma 100)), (1, .int (iI c)), (2, .int (iI w))]) dX6_bestOf_131 (by decide) rfl ?_
                  refine g_aload_n F 4 dX6_bestOf_133 rfl ?_
                  refine gm_get_29 F dX6_bestOf_134 ?_
                  refine g_iload_n F 5 dX6_bestOf_137 rfl ?_
                  refine gm_ald_29 F (by omega) dX6_bestOf_138 ?_
                  refine g_top (y := iI ((lasts (cl (mA (mA (tst M Gm) 0 (uI (M 0) c v)) 1 (uI (M 1) c v)))) c)) rfl ?_
                  refine g_iload F 2 dX6_bestOf_139 rfl ?_
                  refine g_icmp_le F 153 (by omega) dX6_bestOf_141 (by decide) (fun c141 => ?_) (fun c141 => ?_)
                  · skip
                    refine g_iload F 2 dX6_bestOf_153 rfl ?_
                    refine g_istore F (lv' := [(5, .int (iI l)), (4, .int (iI b)), (6, .int (iI v)), (3, .int (iI (wbit 0 w 1))), (0, .ref (ma 100)), (1, .int (iI c)), (2, .int (iI w))]) dX6_bestOf_155 (by decide) rfl ?_
                    refine g_iinc F (lv' := [(6, .int (iI (v + 1))), (5, .int (iI l)), (4, .int (iI b)), (3, .int (iI (wbit 0 w 1))), (0, .ref (ma 100)), (1, .int (iI c)), (2, .int (iI w))]) 2 dX6_bestOf_157 rfl (by decide) rfl ?_
                    refine g_goto F 46 dX6_bestOf_160 (by decide) ?_
                    refine g_sub F (lv' := [(6, .int (iI (v + 1))), (5, .int (iI l)), (4, .int (iI b)), (3, .int (iI (wbit 0 w 1))), (0, .ref (ma 100)), (1, .int (iI c)), (2, .int (iI w))]) [0, 1, 2, 3, 4, 5, 6] rfl ?_
                    refine g_ws (ws' := mw κ ma (tst M (agn (mA (stC (mA (mA (tst M Gm) 0 (uI (M 0) c v)) 1 (uI (M 1) c v)) (goI 61 (cl (mA (mA (tst M Gm) 0 (uI (M 0) c v)) 1 (uI (M 1) c v))))) 29 (lasts (cl (mA (mA (tst M Gm) 0 (uI (M 0) c v)) 1 (uI (M 1) c v))))) M))) rfl ?_
                    exact ih46 _ (by omega) (v + 1) b l (agn (mA (stC (mA (mA (tst M Gm) 0 (uI (M 0) c v)) 1 (uI (M 1) c v)) (goI 61 (cl (mA (mA (tst M Gm) 0 (uI (M 0) c v)) 1 (uI (M 1) c v))))) 29 (lasts (cl (mA (mA (tst M Gm) 0 (uI (M 0) c v)) 1 (uI (M 1) c v))))) M) rfl (by omega) (by first | (exfalso; omega) | exact smx_tx hs rfl (by show lasts (oth (cl M) w c v) c = _; rw [← hC]) hv.1 rfl (by omega) | exact smx_fx hs (by show lasts (oth (cl M) w c v) c = _; rw [← hC]) hv.1 (Or.inr (by omega))) (by omega)
                  · skip
                    refine g_aload_n F 4 dX6_bestOf_144 rfl ?_
                    refine gm_get_29 F dX6_bestOf_145 ?_
                    refine g_iload_n F 5 dX6_bestOf_148 rfl ?_
                    refine gm_ald_29 F (by omega) dX6_bestOf_149 ?_
                    refine g_top (y := iI ((lasts (cl (mA (mA (tst M Gm) 0 (uI (M 0) c v)) 1 (uI (M 1) c v)))) c)) rfl ?_
                    refine g_goto F 155 dX6_bestOf_150 (by decide) ?_
                    refine g_istore F (lv' := [(5, .int (iI ((lasts (cl (mA (mA (tst M Gm) 0 (uI (M 0) c v)) 1 (uI (M 1) c v)))) c))), (4, .int (iI b)), (6, .int (iI v)), (3, .int (iI (wbit 0 w 1))), (0, .ref (ma 100)), (1, .int (iI c)), (2, .int (iI w))]) dX6_bestOf_155 (by decide) rfl ?_
                    refine g_iinc F (lv' := [(6, .int (iI (v + 1))), (5, .int (iI ((lasts (cl (mA (mA (tst M Gm) 0 (uI (M 0) c v)) 1 (uI (M 1) c v)))) c))), (4, .int (iI b)), (3, .int (iI (wbit 0 w 1))), (0, .ref (ma 100)), (1, .int (iI c)), (2, .int (iI w))]) 2 dX6_bestOf_157 rfl (by decide) rfl ?_
                    refine g_goto F 46 dX6_bestOf_160 (by decide) ?_
                    refine g_sub F (lv' := [(6, .int (iI (v + 1))), (5, .int (iI ((lasts (cl (mA (mA (tst M Gm) 0 (uI (M 0) c v)) 1 (uI (M 1) c v)))) c))), (4, .int (iI b)), (3, .int (iI (wbit 0 w 1))), (0, .ref (ma 100)), (1, .int (iI c)), (2, .int (iI w))]) [0, 1, 2, 3, 4, 5, 6] rfl ?_
                    refine g_ws (ws' := mw κ ma (tst M (agn (mA (stC (mA (mA (tst M Gm) 0 (uI (M 0) c v)) 1 (uI (M 1) c v)) (goI 61 (cl (mA (mA (tst M Gm) 0 (uI (M 0) c v)) 1 (uI (M 1) c v))))) 29 (lasts (cl (mA (mA (tst M Gm) 0 (uI (M 0) c v)) 1 (uI (M 1) c v))))) M))) rfl ?_
                    exact ih46 _ (by omega) (v + 1) b ((lasts (cl (mA (mA (tst M Gm) 0 (uI (M 0) c v)) 1 (uI (M 1) c v)))) c) (agn (mA (stC (mA (mA (tst M Gm) 0 (uI (M 0) c v)) 1 (uI (M 1) c v)) (goI 61 (cl (mA (mA (tst M Gm) 0 (uI (M 0) c v)) 1 (uI (M 1) c v))))) 29 (lasts (cl (mA (mA (tst M Gm) 0 (uI (M 0) c v)) 1 (uI (M 1) c v))))) M) rfl (by omega) (by first | (exfalso; omega) | exact smx_tx hs rfl (by show lasts (oth (cl M) w c v) c = _; rw [← hC]) hv.1 rfl (by omega) | exact smx_fx hs (by show lasts (oth (cl M) w c v) c = _; rw [← hC]) hv.1 (Or.inr (by omega))) (by omega)
                · skip
                  refine g_iload F 0 dX6_bestOf_124 rfl ?_
                  refine g_goto F 131 dX6_bestOf_126 (by decide) ?_
                  refine g_istore F (lv' := [(4, .int (iI v)), (6, .int (iI v)), (5, .int (iI l)), (3, .int (iI (wbit 0 w 1))), (0, .ref (ma 100)), (1, .int (iI c)), (2, .int (iI w))]) dX6_bestOf_131 (by decide) rfl ?_
                  refine g_aload_n F 4 dX6_bestOf_133 rfl ?_
                  refine gm_get_29 F dX6_bestOf_134 ?_
                  refine g_iload_n F 5 dX6_bestOf_137 rfl ?_
                  refine gm_ald_29 F (by omega) dX6_bestOf_138 ?_
                  refine g_top (y := iI ((lasts (cl (mA (mA (tst M Gm) 0 (uI (M 0) c v)) 1 (uI (M 1) c v)))) c)) rfl ?_
                  refine g_iload F 2 dX6_bestOf_139 rfl ?_
                  refine g_icmp_le F 153 (by omega) dX6_bestOf_141 (by decide) (fun c141 => ?_) (fun c141 => ?_)
                  · skip
                    refine g_iload F 2 dX6_bestOf_153 rfl ?_
                    refine g_istore F (lv' := [(5, .int (iI l)), (4, .int (iI v)), (6, .int (iI v)), (3, .int (iI (wbit 0 w 1))), (0, .ref (ma 100)), (1, .int (iI c)), (2, .int (iI w))]) dX6_bestOf_155 (by decide) rfl ?_
                    refine g_iinc F (lv' := [(6, .int (iI (v + 1))), (5, .int (iI l)), (4, .int (iI v)), (3, .int (iI (wbit 0 w 1))), (0, .ref (ma 100)), (1, .int (iI c)), (2, .int (iI w))]) 2 dX6_bestOf_157 rfl (by decide) rfl ?_
                    refine g_goto F 46 dX6_bestOf_160 (by decide) ?_
                    refine g_sub F (lv' := [(6, .int (iI (v + 1))), (5, .int (iI l)), (4, .int (iI v)), (3, .int (iI (wbit 0 w 1))), (0, .ref (ma 100)), (1, .int (iI c)), (2, .int (iI w))]) [0, 1, 2, 3, 4, 5, 6] rfl ?_
                    refine g_ws (ws' := mw κ ma (tst M (agn (mA (stC (mA (mA (tst M Gm) 0 (uI (M 0) c v)) 1 (uI (M 1) c v)) (goI 61 (cl (mA (mA (tst M Gm) 0 (uI (M 0) c v)) 1 (uI (M 1) c v))))) 29 (lasts (cl (mA (mA (tst M Gm) 0 (uI (M 0) c v)) 1 (uI (M 1) c v))))) M))) rfl ?_
                    exact ih46 _ (by omega) (v + 1) v l (agn (mA (stC (mA (mA (tst M Gm) 0 (uI (M 0) c v)) 1 (uI (M 1) c v)) (goI 61 (cl (mA (mA (tst M Gm) 0 (uI (M 0) c v)) 1 (uI (M 1) c v))))) 29 (lasts (cl (mA (mA (tst M Gm) 0 (uI (M 0) c v)) 1 (uI (M 1) c v))))) M) rfl (by omega) (by first | (exfalso; omega) | exact smx_tx hs rfl (by show lasts (oth (cl M) w c v) c = _; rw [← hC]) hv.1 rfl (by omega) | exact smx_fx hs (by show lasts (oth (cl M) w c v) c = _; rw [← hC]) hv.1 (Or.inr (by omega))) (by omega)
                  · skip
                    refine g_aload_n F 4 dX6_bestOf_144 rfl ?_
                    refine gm_get_29 F dX6_bestOf_145 ?_
                    refine g_iload_n F 5 dX6_bestOf_148 rfl ?_
                    refine gm_ald_29 F (by omega) dX6_bestOf_149 ?_
                    refine g_top (y := iI ((lasts (cl (mA (mA (tst M Gm) 0 (uI (M 0) c v)) 1 (uI (M 1) c v)))) c)) rfl ?_
                    refine g_goto F 155 dX6_bestOf_150 (by decide) ?_
                    refine g_istore F (lv' := [(5, .int (iI ((lasts (cl (mA (mA (tst M Gm) 0 (uI (M 0) c v)) 1 (uI (M 1) c v)))) c))), (4, .int (iI v)), (6, .int (iI v)), (3, .int (iI (wbit 0 w 1))), (0, .ref (ma 100)), (1, .int (iI c)), (2, .int (iI w))]) dX6_bestOf_155 (by decide) rfl ?_
                    refine g_iinc F (lv' := [(6, .int (iI (v + 1))), (5, .int (iI ((lasts (cl (mA (mA (tst M Gm) 0 (uI (M 0) c v)) 1 (uI (M 1) c v)))) c))), (4, .int (iI v)), (3, .int (iI (wbit 0 w 1))), (0, .ref (ma 100)), (1, .int (iI c)), (2, .int (iI w))]) 2 dX6_bestOf_157 rfl (by decide) rfl ?_
                    refine g_goto F 46 dX6_bestOf_160 (by decide) ?_
                    refine g_sub F (lv' := [(6, .int (iI (v + 1))), (5, .int (iI ((lasts (cl (mA (mA (tst M Gm) 0 (uI (M 0) c v)) 1 (uI (M 1) c v)))) c))), (4, .int (iI v)), (3, .int (iI (wbit 0 w 1))), (0, .ref (ma 100)), (1, .int (iI c)), (2, .int (iI w))]) [0, 1, 2, 3, 4, 5, 6] rfl ?_
                    refine g_ws (ws' := mw κ ma (tst M (agn (mA (stC (mA (mA (tst M Gm) 0 (uI (M 0) c v)) 1 (uI (M 1) c v)) (goI 61 (cl (mA (mA (tst M Gm) 0 (uI (M 0) c v)) 1 (uI (M 1) c v))))) 29 (lasts (cl (mA (mA (tst M Gm) 0 (uI (M 0) c v)) 1 (uI (M 1) c v))))) M))) rfl ?_
                    exact ih46 _ (by omega) (v + 1) v ((lasts (cl (mA (mA (tst M Gm) 0 (uI (M 0) c v)) 1 (uI (M 1) c v)))) c) (agn (mA (stC (mA (mA (tst M Gm) 0 (uI (M 0) c v)) 1 (uI (M 1) c v)) (goI 61 (cl (mA (mA (tst M Gm) 0 (uI (M 0) c v)) 1 (uI (M 1) c v))))) 29 (lasts (cl (mA (mA (tst M Gm) 0 (uI (M 0) c v)) 1 (uI (M 1) c v))))) M) rfl (by omega) (by first | (exfalso; omega) | exact smx_tx hs rfl (by show lasts (oth (cl M) w c v) c = _; rw [← hC]) hv.1 rfl (by omega) | exact smx_fx hs (by show lasts (oth (cl M) w c v) c = _; rw [← hC]) hv.1 (Or.inr (by omega))) (by omega)
        · skip
          refine g_bipush F dX6_bestOf_52 (by decide +kernel) ?_
          refine g_goto F 59 dX6_bestOf_54 (by decide) ?_
          refine g_icmp_ge F 163 (by omega) dX6_bestOf_59 (by decide) (fun c59 => ?_) (fun c59 => ?_)
          · skip
            refine g_iload F 2 dX6_bestOf_163 rfl ?_
            have e : sBestOf (cl M) c w (if w = 0 then 6 else 10) = (b, l) := by rw [show (if w = 0 then (6 : Int) else 10) = v by split <;> omega]; exact hs
            have e1 : (sBestOf (cl M) c w (if w = 0 then 6 else 10)).1 = b := by rw [e]
            have hq : b = qBestOf (cl M) c w := by unfold qBestOf; rw [e1]; (repeat' split) <;> omega
            exact K mw_same ⟨_, rfl, iIc hq, ⟨rfl, rfl, rfl, rfl, rfl, rfl, rfl, rfl, rfl, rfl, rfl, rfl, rfl, rfl, rfl, rfl, rfl, rfl⟩, (by rw [← hq]; show M 11 = _; exact (rfa_n (by omega)).symm)⟩ rfl dX6_bestOf_165
          · skip
            have hk : (0 ≤ M 0 c ∧ M 0 c ≤ 5) ∧ (0 ≤ M 1 c ∧ M 1 c ≤ 9) ∧ (0 ≤ M 2 c ∧ M 2 c ≤ 99) ∧ 0 ≤ M 3 c ∧ M 3 c ≤ 99 := ok.r (by omega) (by omega)
            refine g_aload_n F 4 dX6_bestOf_62 rfl ?_
            refine gm_get_0 F dX6_bestOf_63 ?_
            refine g_iload_n F 5 dX6_bestOf_66 rfl ?_
            refine g_iload_n F 6 dX6_bestOf_67 rfl ?_
            refine g_if_ne F 76 (by omega) dX6_bestOf_68 (by decide) (fun c68 => ?_) (fun c68 => ?_)
            · skip
              refine g_aload_n F 4 dX6_bestOf_76 rfl ?_
              refine gm_get_0 F dX6_bestOf_77 ?_
              refine g_iload_n F 5 dX6_bestOf_80 rfl ?_
              refine gm_ald_0 F (by omega) dX6_bestOf_81 ?_
              refine g_top (y := iI (M 0 c)) rfl ?_
              refine gm_ast_0 F (by omega) dX6_bestOf_82 ?_
              refine g_ws (ws' := mw κ ma (mA (tst M Gm) 0 (uI (M 0) c (M 0 c)))) rfl ?_
              refine g_aload_n F 4 dX6_bestOf_83 rfl ?_
              refine gm_get_1 F dX6_bestOf_84 ?_
              refine g_iload_n F 5 dX6_bestOf_87 rfl ?_
              refine g_iload_n F 6 dX6_bestOf_88 rfl ?_
              refine g_iconst F dX6_bestOf_89 ?_
              refine g_icmp_ne F 98 (by omega) dX6_bestOf_90 (by decide) (fun c90 => ?_) (fun c90 => ?_)
              · skip
                refine g_aload_n F 4 dX6_bestOf_98 rfl ?_
                refine gm_get_1 F dX6_bestOf_99 ?_
                refine g_iload_n F 5 dX6_bestOf_102 rfl ?_
                refine gm_ald_1 F (by omega) dX6_bestOf_103 ?_
                refine g_top (y := iI (M 1 c)) rfl ?_
                refine gm_ast_1 F (by omega) dX6_bestOf_104 ?_
                refine g_ws (ws' := mw κ ma (mA (mA (tst M Gm) 0 (uI (M 0) c (M 0 c))) 1 (uI (M 1) c (M 1 c)))) rfl ?_
                have hC : cl (mA (mA (tst M Gm) 0 (uI (M 0) c (M 0 c))) 1 (uI (M 1) c (M 1 c))) = oth (cl M) w c v := by first | (exfalso; omega) | (rw [oth_0 (by omega)]; show (uI (M 0) c v, uI (M 1) c (M 1 c), M 2, M 3, M 4 0) = (uI (M 0) c v, M 1, M 2, M 3, M 4 0); rw [uI_self]) | (rw [oth_1 (by omega)]; show (uI (M 0) c (M 0 c), uI (M 1) c v, M 2, M 3, M 4 0) = (M 0, uI (M 1) c v, M 2, M 3, M 4 0); rw [uI_self])
                have hpb := lasts_bd (cl (mA (mA (tst M Gm) 0 (uI (M 0) c (M 0 c))) 1 (uI (M 1) c (M 1 c)))) c
                refine g_aload_n F 4 dX6_bestOf_105 rfl ?_
                refine g_callV F (stk := [.ref (ma 100)]) (st := []) (k_X6_layLasts κ ma (mA (mA (tst M Gm) 0 (uI (M 0) c (M 0 c))) 1 (uI (M 1) c (M 1 c))) (show (M 4 0) ≤ 990000 from by omega) (by rw [hC]; exact oth_ok ok (by omega))) cal_X6_layLasts lm_X6_255 0 rfl rfl rfl rfl (by decide) rfl (Nat.le_of_ble_eq_true rfl) dX6_bestOf_106 (fun ws106 _ hr106 => ?_)
                obtain rfl := hr106
                refine g_ws (ws' := mw κ ma (mA (stC (mA (mA (tst M Gm) 0 (uI (M 0) c (M 0 c))) 1 (uI (M 1) c (M 1 c))) (goI 61 (cl (mA (mA (tst M Gm) 0 (uI (M 0) c (M 0 c))) 1 (uI (M 1) c (M 1 c)))))) 29 (lasts (cl (mA (mA (tst M Gm) 0 (uI (M 0) c (M 0 c))) 1 (uI (M 1) c (M 1 c))))))) rfl ?_
                refine g_aload_n F 4 dX6_bestOf_109 rfl ?_
                refine g_callV F (stk := [.ref (ma 100)]) (st := []) (k_X6_again κ ma (mA (stC (mA (mA (tst M Gm) 0 (uI (M 0) c (M 0 c))) 1 (uI (M 1) c (M 1 c))) (goI 61 (cl (mA (mA (tst M Gm) 0 (uI (M 0) c (M 0 c))) 1 (uI (M 1) c (M 1 c)))))) 29 (lasts (cl (mA (mA (tst M Gm) 0 (uI (M 0) c (M 0 c))) 1 (uI (M 1) c (M 1 c)))))) M (fun _ _ _ => rfl)) cal_X6_again lm_X6_197 0 rfl rfl rfl rfl (by decide) rfl (Nat.le_of_ble_eq_true rfl) dX6_bestOf_110 (fun ws110 _ hr110 => ?_)
                obtain rfl := hr110
                refine g_aload_n F 4 dX6_bestOf_113 rfl ?_
                refine gm_get_29 F dX6_bestOf_114 ?_
                refine g_iload_n F 5 dX6_bestOf_117 rfl ?_
                refine gm_ald_29 F (by omega) dX6_bestOf_118 ?_
                refine g_top (y := iI ((lasts (cl (mA (mA (tst M Gm) 0 (uI (M 0) c (M 0 c))) 1 (uI (M 1) c (M 1 c))))) c)) rfl ?_
                refine g_iload F 1 dX6_bestOf_119 rfl ?_
                refine g_icmp_le F 129 (by omega) dX6_bestOf_121 (by decide) (fun c121 => ?_) (fun c121 => ?_)
                · skip
                  refine g_iload F 2 dX6_bestOf_129 rfl ?_
                  refine g_istore F (lv' := [(4, .int (iI b)), (6, .int (iI v)), (5, .int (iI l)), (3, .int (iI (wbit 0 w 1))), (0, .ref (ma 100)), (1, .int (iI c)), (2, .int (iI w))]) dX6_bestOf_131 (by decide) rfl ?_
                  refine g_aload_n F 4 dX6_bestOf_133 rfl ?_
                  refine gm_get_29 F dX6_bestOf_134 ?_
                  refine g_iload_n F 5 dX6_bestOf_137 rfl ?_
                  refine gm_ald_29 F (by omega) dX6_bestOf_138 ?_
                  refine g_top (y := iI ((lasts (cl (mA (mA (tst M Gm) 0 (uI (M 0) c (M 0 c))) 1 (uI (M 1) c (M 1 c))))) c)) rfl ?_
                  refine g_iload F 2 dX6_bestOf_139 rfl ?_
                  refine g_icmp_le F 153 (by omega) dX6_bestOf_141 (by decide) (fun c141 => ?_) (fun c141 => ?_)
                  · skip
                    refine g_iload F 2 dX6_bestOf_153 rfl ?_
                    refine g_istore F (lv' := [(5, .int (iI l)), (4, .int (iI b)), (6, .int (iI v)), (3, .int (iI (wbit 0 w 1))), (0, .ref (ma 100)), (1, .int (iI c)), (2, .int (iI w))]) dX6_bestOf_155 (by decide) rfl ?_
                    refine g_iinc F (lv' := [(6, .int (iI (v + 1))), (5, .int (iI l)), (4, .int (iI b)), (3, .int (iI (wbit 0 w 1))), (0, .ref (ma 100)), (1, .int (iI c)), (2, .int (iI w))]) 2 dX6_bestOf_157 rfl (by decide) rfl ?_
                    refine g_goto F 46 dX6_bestOf_160 (by decide) ?_
                    refine g_sub F (lv' := [(6, .int (iI (v + 1))), (5, .int (iI l)), (4, .int (iI b)), (3, .int (iI (wbit 0 w 1))), (0, .ref (ma 100)), (1, .int (iI c)), (2, .int (iI w))]) [0, 1, 2, 3, 4, 5, 6] rfl ?_
                    refine g_ws (ws' := mw κ ma (tst M (agn (mA (stC (mA (mA (tst M Gm) 0 (uI (M 0) c (M 0 c))) 1 (uI (M 1) c (M 1 c))) (goI 61 (cl (mA (mA (tst M Gm) 0 (uI (M 0) c (M 0 c))) 1 (uI (M 1) c (M 1 c)))))) 29 (lasts (cl (mA (mA (tst M Gm) 0 (uI (M 0) c (M 0 c))) 1 (uI (M 1) c (M 1 c)))))) M))) rfl ?_
                    exact ih46 _ (by omega) (v + 1) b l (agn (mA (stC (mA (mA (tst M Gm) 0 (uI (M 0) c (M 0 c))) 1 (uI (M 1) c (M 1 c))) (goI 61 (cl (mA (mA (tst M Gm) 0 (uI (M 0) c (M 0 c))) 1 (uI (M 1) c (M 1 c)))))) 29 (lasts (cl (mA (mA (tst M Gm) 0 (uI (M 0) c (M 0 c))) 1 (uI (M 1) c (M 1 c)))))) M) rfl (by omega) (by first | (exfalso; omega) | exact smx_tx hs rfl (by show lasts (oth (cl M) w c v) c = _; rw [← hC]) hv.1 rfl (by omega) | exact smx_fx hs (by show lasts (oth (cl M) w c v) c = _; rw [← hC]) hv.1 (Or.inr (by omega))) (by omega)
                  · skip
                    refine g_aload_n F 4 dX6_bestOf_144 rfl ?_
                    refine gm_get_29 F dX6_bestOf_145 ?_
                    refine g_iload_n F 5 dX6_bestOf_148 rfl ?_
                    refine gm_ald_29 F (by omega) dX6_bestOf_149 ?_
                    refine g_top (y := iI ((lasts (cl (mA (mA (tst M Gm) 0 (uI (M 0) c (M 0 c))) 1 (uI (M 1) c (M 1 c))))) c)) rfl ?_
                    refine g_goto F 155 dX6_bestOf_150 (by decide) ?_
                    refine g_istore F (lv' := [(5, .int (iI ((lasts (cl (mA (mA (tst M Gm) 0 (uI (M 0) c (M 0 c))) 1 (uI (M 1) c (M 1 c))))) c))), (4, .int (iI b)), (6, .int (iI v)), (3, .int (iI (wbit 0 w 1))), (0, .ref (ma 100)), (1, .int (iI c)), (2, .int (iI w))]) dX6_bestOf_155 (by decide) rfl ?_
                    refine g_iinc F (lv' := [(6, .int (iI (v + 1))), (5, .int (iI ((lasts (cl (mA (mA (tst M Gm) 0 (uI (M 0) c (M 0 c))) 1 (uI (M 1) c (M 1 c))))) c))), (4, .int (iI b)), (3, .int (iI (wbit 0 w 1))), (0, .ref (ma 100)), (1, .int (iI c)), (2, .int (iI w))]) 2 dX6_bestOf_157 rfl (by decide) rfl ?_
                    refine g_goto F 46 dX6_bestOf_160 (by decide) ?_
                    refine g_sub F (lv' := [(6, .int (iI (v + 1))), (5, .int (iI ((lasts (cl (mA (mA (tst M Gm) 0 (uI (M 0) c (M 0 c))) 1 (uI (M 1) c (M 1 c))))) c))), (4, .int (iI b)), (3, .int (iI (wbit 0 w 1))), (0, .ref (ma 100)), (1, .int (iI c)), (2, .int (iI w))]) [0, 1, 2, 3, 4, 5, 6] rfl ?_
                    refine g_ws (ws' := mw κ ma (tst M (agn (mA (stC (mA (mA (tst M Gm) 0 (uI (M 0) c (M 0 c))) 1 (uI (M 1) c (M 1 c))) (goI 61 (cl (mA (mA (tst M Gm) 0 (uI (M 0) c (M 0 c))) 1 (uI (M 1) c (M 1 c)))))) 29 (lasts (cl (mA (mA (tst M Gm) 0 (uI (M 0) c (M 0 c))) 1 (uI (M 1) c (M 1 c)))))) M))) rfl ?_
                    exact ih46 _ (by omega) (v + 1) b ((lasts (cl (mA (mA (tst M Gm) 0 (uI (M 0) c (M 0 c))) 1 (uI (M 1) c (M 1 c))))) c) (agn (mA (stC (mA (mA (tst M Gm) 0 (uI (M 0) c (M 0 c))) 1 (uI (M 1) c (M 1 c))) (goI 61 (cl (mA (mA (tst M Gm) 0 (uI (M 0) c (M 0 c))) 1 (uI (M 1) c (M 1 c)))))) 29 (lasts (cl (mA (mA (tst M Gm) 0 (uI (M 0) c (M 0 c))) 1 (uI (M 1) c (M 1 c)))))) M) rfl (by omega) (by first | (exfalso; omega) | exact smx_tx hs rfl (by show lasts (oth (cl M) w c v) c = _; rw [← hC]) hv.1 rfl (by omega) | exact smx_fx hs (by show lasts (oth (cl M) w c v) c = _; rw [← hC]) hv.1 (Or.inr (by omega))) (by omega)
                · skip
                  refine g_iload F 0 dX6_bestOf_124 rfl ?_
                  refine g_goto F 131 dX6_bestOf_126 (by decide) ?_
                  refine g_istore F (lv' := [(4, .int (iI v)), (6, .int (iI v)), (5, .int (iI l)), (3, .int (iI (wbit 0 w 1))), (0, .ref (ma 100)), (1, .int (iI c)), (2, .int (iI w))]) dX6_bestOf_131 (by decide) rfl ?_
                  refine g_aload_n F 4 dX6_bestOf_133 rfl ?_
                  refine gm_get_29 F dX6_bestOf_134 ?_
                  refine g_iload_n F 5 dX6_bestOf_137 rfl ?_
                  refine gm_ald_29 F (by omega) dX6_bestOf_138 ?_
                  refine g_top (y := iI ((lasts (cl (mA (mA (tst M Gm) 0 (uI (M 0) c (M 0 c))) 1 (uI (M 1) c (M 1 c))))) c)) rfl ?_
                  refine g_iload F 2 dX6_bestOf_139 rfl ?_
                  refine g_icmp_le F 153 (by omega) dX6_bestOf_141 (by decide) (fun c141 => ?_) (fun c141 => ?_)
                  · skip
                    refine g_iload F 2 dX6_bestOf_153 rfl ?_
                    refine g_istore F (lv' := [(5, .int (iI l)), (4, .int (iI v)), (6, .int (iI v)), (3, .int (iI (wbit 0 w 1))), (0, .ref (ma 100)), (1, .int (iI c)), (2, .int (iI w))]) dX6_bestOf_155 (by decide) rfl ?_
                    refine g_iinc F (lv' := [(6, .int (iI (v + 1))), (5, .int (iI l)), (4, .int (iI v)), (3, .int (iI (wbit 0 w 1))), (0, .ref (ma 100)), (1, .int (iI c)), (2, .int (iI w))]) 2 dX6_bestOf_157 rfl (by decide) rfl ?_
                    refine g_goto F 46 dX6_bestOf_160 (by decide) ?_
                    refine g_sub F (lv' := [(6, .int (iI (v + 1))), (5, .int (iI l)), (4, .int (iI v)), (3, .int (iI (wbit 0 w 1))), (0, .ref (ma 100)), (1, .int (iI c)), (2, .int (iI w))]) [0, 1, 2, 3, 4, 5, 6] rfl ?_
                    refine g_ws (ws' := mw κ ma (tst M (agn (mA (stC (mA (mA (tst M Gm) 0 (uI (M 0) c (M 0 c))) 1 (uI (M 1) c (M 1 c))) (goI 61 (cl (mA (mA (tst M Gm) 0 (uI (M 0) c (M 0 c))) 1 (uI (M 1) c (M 1 c)))))) 29 (lasts (cl (mA (mA (tst M Gm) 0 (uI (M 0) c (M 0 c))) 1 (uI (M 1) c (M 1 c)))))) M))) rfl ?_
                    exact ih46 _ (by omega) (v + 1) v l (agn (mA (stC (mA (mA (tst M Gm) 0 (uI (M 0) c (M 0 c))) 1 (uI (M 1) c (M 1 c))) (goI 61 (cl (mA (mA (tst M Gm) 0 (uI (M 0) c (M 0 c))) 1 (uI (M 1) c (M 1 c)))))) 29 (lasts (cl (mA (mA (tst M Gm) 0 (uI (M 0) c (M 0 c))) 1 (uI (M 1) c (M 1 c)))))) M) rfl (by omega) (by first | (exfalso; omega) | exact smx_tx hs rfl (by show lasts (oth (cl M) w c v) c = _; rw [← hC]) hv.1 rfl (by omega) | exact smx_fx hs (by show lasts (oth (cl M) w c v) c = _; rw [← hC]) hv.1 (Or.inr (by omega))) (by omega)
                  · skip
                    refine g_aload_n F 4 dX6_bestOf_144 rfl ?_
                    refine gm_get_29 F dX6_bestOf_145 ?_
                    refine g_iload_n F 5 dX6_bestOf_148 rfl ?_
                    refine gm_ald_29 F (by omega) dX6_bestOf_149 ?_
                    refine g_top (y := iI ((lasts (cl (mA (mA (tst M Gm) 0 (uI (M 0) c (M 0 c))) 1 (uI (M 1) c (M 1 c))))) c)) rfl ?_
                    refine g_goto F 155 dX6_bestOf_150 (by decide) ?_
                    refine g_istore F (lv' := [(5, .int (iI ((lasts (cl (mA (mA (tst M Gm) 0 (uI (M 0) c (M 0 c))) 1 (uI (M 1) c (M 1 c))))) c))), (4, .int (iI v)), (6, .int (iI v)), (3, .int (iI (wbit 0 w 1))), (0, .ref (ma 100)), (1, .int (iI c)), (2, .int (iI w))]) dX6_bestOf_155 (by decide) rfl ?_
                    refine g_iinc F (lv' := [(6, .int (iI (v + 1))), (5, .int (iI ((lasts (cl (mA (mA (tst M Gm) 0 (uI (M 0) c (M 0 c))) 1 (uI (M 1) c (M 1 c))))) c))), (4, .int (iI v)), (3, .int (iI (wbit 0 w 1))), (0, .ref (ma 100)), (1, .int (iI c)), (2, .int (iI w))]) 2 dX6_bestOf_157 rfl (by decide) rfl ?_
                    refine g_goto F 46 dX6_bestOf_160 (by decide) ?_
                    refine g_sub F (lv' := [(6, .int (iI (v + 1))), (5, .int (iI ((lasts (cl (mA (mA (tst M Gm) 0 (uI (M 0) c (M 0 c))) 1 (uI (M 1) c (M 1 c))))) c))), (4, .int (iI v)), (3, .int (iI (wbit 0 w 1))), (0, .ref (ma 100)), (1, .int (iI c)), (2, .int (iI w))]) [0, 1, 2, 3, 4, 5, 6] rfl ?_
                    refine g_ws (ws' := mw κ ma (tst M (agn (mA (stC (mA (mA (tst M Gm) 0 (uI (M 0) c (M 0 c))) 1 (uI (M 1) c (M 1 c))) (goI 61 (cl (mA (mA (tst M Gm) 0 (uI (M 0) c (M 0 c))) 1 (uI (M 1) c (M 1 c)))))) 29 (lasts (cl (mA (mA (tst M Gm) 0 (uI (M 0) c (M 0 c))) 1 (uI (M 1) c (M 1 c)))))) M))) rfl ?_
                    exact ih46 _ (by omega) (v + 1) v ((lasts (cl (mA (mA (tst M Gm) 0 (uI (M 0) c (M 0 c))) 1 (uI (M 1) c (M 1 c))))) c) (agn (mA (stC (mA (mA (tst M Gm) 0 (uI (M 0) c (M 0 c))) 1 (uI (M 1) c (M 1 c))) (goI 61 (cl (mA (mA (tst M Gm) 0 (uI (M 0) c (M 0 c))) 1 (uI (M 1) c (M 1 c)))))) 29 (lasts (cl (mA (mA (tst M Gm) 0 (uI (M 0) c (M 0 c))) 1 (uI (M 1) c (M 1 c)))))) M) rfl (by omega) (by first | (exfalso; omega) | exact smx_tx hs rfl (by show lasts (oth (cl M) w c v) c = _; rw [← hC]) hv.1 rfl (by omega) | exact smx_fx hs (by show lasts (oth (cl M) w c v) c = _; rw [← hC]) hv.1 (Or.inr (by omega))) (by omega)
              · skip
                refine g_iload F 0 dX6_bestOf_93 rfl ?_
                refine g_goto F 104 dX6_bestOf_95 (by decide) ?_
                refine gm_ast_1 F (by omega) dX6_bestOf_104 ?_
                refine g_ws (ws' := mw κ ma (mA (mA (tst M Gm) 0 (uI (M 0) c (M 0 c))) 1 (uI (M 1) c v))) rfl ?_
                have hC : cl (mA (mA (tst M Gm) 0 (uI (M 0) c (M 0 c))) 1 (uI (M 1) c v)) = oth (cl M) w c v := by first | (exfalso; omega) | (rw [oth_0 (by omega)]; show (uI (M 0) c v, uI (M 1) c (M 1 c), M 2, M 3, M 4 0) = (uI (M 0) c v, M 1, M 2, M 3, M 4 0); rw [uI_self]) | (rw [oth_1 (by omega)]; show (uI (M 0) c (M 0 c), uI (M 1) c v, M 2, M 3, M 4 0) = (M 0, uI (M 1) c v, M 2, M 3, M 4 0); rw [uI_self])
                have hpb := lasts_bd (cl (mA (mA (tst M Gm) 0 (uI (M 0) c (M 0 c))) 1 (uI (M 1) c v))) c
                refine g_aload_n F 4 dX6_bestOf_105 rfl ?_
                refine g_callV F (stk := [.ref (ma 100)]) (st := []) (k_X6_layLasts κ ma (mA (mA (tst M Gm) 0 (uI (M 0) c (M 0 c))) 1 (uI (M 1) c v)) (show (M 4 0) ≤ 990000 from by omega) (by rw [hC]; exact oth_ok ok (by omega))) cal_X6_layLasts lm_X6_255 0 rfl rfl rfl rfl (by decide) rfl (Nat.le_of_ble_eq_true rfl) dX6_bestOf_106 (fun ws106 _ hr106 => ?_)
                obtain rfl := hr106
                refine g_ws (ws' := mw κ ma (mA (stC (mA (mA (tst M Gm) 0 (uI (M 0) c (M 0 c))) 1 (uI (M 1) c v)) (goI 61 (cl (mA (mA (tst M Gm) 0 (uI (M 0) c (M 0 c))) 1 (uI (M 1) c v))))) 29 (lasts (cl (mA (mA (tst M Gm) 0 (uI (M 0) c (M 0 c))) 1 (uI (M 1) c v)))))) rfl ?_
                refine g_aload_n F 4 dX6_bestOf_109 rfl ?_
                refine g_callV F (stk := [.ref (ma 100)]) (st := []) (k_X6_again κ ma (mA (stC (mA (mA (tst M Gm) 0 (uI (M 0) c (M 0 c))) 1 (uI (M 1) c v)) (goI 61 (cl (mA (mA (tst M Gm) 0 (uI (M 0) c (M 0 c))) 1 (uI (M 1) c v))))) 29 (lasts (cl (mA (mA (tst M Gm) 0 (uI (M 0) c (M 0 c))) 1 (uI (M 1) c v))))) M (fun _ _ _ => rfl)) cal_X6_again lm_X6_197 0 rfl rfl rfl rfl (by decide) rfl (Nat.le_of_ble_eq_true rfl) dX6_bestOf_110 (fun ws110 _ hr110 => ?_)
                obtain rfl := hr110
                refine g_aload_n F 4 dX6_bestOf_113 rfl ?_
                refine gm_get_29 F dX6_bestOf_114 ?_
                refine g_iload_n F 5 dX6_bestOf_117 rfl ?_
                refine gm_ald_29 F (by omega) dX6_bestOf_118 ?_
                refine g_top (y := iI ((lasts (cl (mA (mA (tst M Gm) 0 (uI (M 0) c (M 0 c))) 1 (uI (M 1) c v)))) c)) rfl ?_
                refine g_iload F 1 dX6_bestOf_119 rfl ?_
                refine g_icmp_le F 129 (by omega) dX6_bestOf_121 (by decide) (fun c121 => ?_) (fun c121 => ?_)
                · skip
                  refine g_iload F 2 dX6_bestOf_129 rfl ?_
                  refine g_istore F (lv' := [(4, .int (iI b)), (6, .int (iI v)), (5, .int (iI l)), (3, .int (iI (wbit 0 w 1))), (0, .ref (ma 100)), (1, .int (iI c)), (2, .int (iI w))]) dX6_bestOf_131 (by decide) rfl ?_
                  refine g_aload_n F 4 dX6_bestOf_133 rfl ?_
                  refine gm_get_29 F dX6_bestOf_134 ?_
                  refine g_iload_n F 5 dX6_bestOf_137 rfl ?_
                  refine gm_ald_29 F (by omega) dX6_bestOf_138 ?_
                  refine g_top (y := iI ((lasts (cl (mA (mA (tst M Gm) 0 (uI (M 0) c (M 0 c))) 1 (uI (M 1) c v)))) c)) rfl ?_
                  refine g_iload F 2 dX6_bestOf_139 rfl ?_
                  refine g_icmp_le F 153 (by omega) dX6_bestOf_141 (by decide) (fun c141 => ?_) (fun c141 => ?_)
                  · skip
                    refine g_iload F 2 dX6_bestOf_153 rfl ?_
                    refine g_istore F (lv' := [(5, .int (iI l)), (4, .int (iI b)), (6, .int (iI v)), (3, .int (iI (wbit 0 w 1))), (0, .ref (ma 100)), (1, .int (iI c)), (2, .int (iI w))]) dX6_bestOf_155 (by decide) rfl ?_
                    refine g_iinc F (lv' := [(6, .int (iI (v + 1))), (5, .int (iI l)), (4, .int (iI b)), (3, .int (iI (wbit 0 w 1))), (0, .ref (ma 100)), (1, .int (iI c)), (2, .int (iI w))]) 2 dX6_bestOf_157 rfl (by decide) rfl ?_
                    refine g_goto F 46 dX6_bestOf_160 (by decide) ?_
                    refine g_sub F (lv' := [(6, .int (iI (v + 1))), (5, .int (iI l)), (4, .int (iI b)), (3, .int (iI (wbit 0 w 1))), (0, .ref (ma 100)), (1, .int (iI c)), (2, .int (iI w))]) [0, 1, 2, 3, 4, 5, 6] rfl ?_
                    refine g_ws (ws' := mw κ ma (tst M (agn (mA (stC (mA (mA (tst M Gm) 0 (uI (M 0) c (M 0 c))) 1 (uI (M 1) c v)) (goI 61 (cl (mA (mA (tst M Gm) 0 (uI (M 0) c (M 0 c))) 1 (uI (M 1) c v))))) 29 (lasts (cl (mA (mA (tst M Gm) 0 (uI (M 0) c (M 0 c))) 1 (uI (M 1) c v))))) M))) rfl ?_
                    exact ih46 _ (by omega) (v + 1) b l (agn (mA (stC (mA (mA (tst M Gm) 0 (uI (M 0) c (M 0 c))) 1 (uI (M 1) c v)) (goI 61 (cl (mA (mA (tst M Gm) 0 (uI (M 0) c (M 0 c))) 1 (uI (M 1) c v))))) 29 (lasts (cl (mA (mA (tst M Gm) 0 (uI (M 0) c (M 0 c))) 1 (uI (M 1) c v))))) M) rfl (by omega) (by first | (exfalso; omega) | exact smx_tx hs rfl (by show lasts (oth (cl M) w c v) c = _; rw [← hC]) hv.1 rfl (by omega) | exact smx_fx hs (by show lasts (oth (cl M) w c v) c = _; rw [← hC]) hv.1 (Or.inr (by omega))) (by omega)
                  · skip
                    refine g_aload_n F 4 dX6_bestOf_144 rfl ?_
                    refine gm_get_29 F dX6_bestOf_145 ?_
                    refine g_iload_n F 5 dX6_bestOf_148 rfl ?_
                    refine gm_ald_29 F (by omega) dX6_bestOf_149 ?_
                    refine g_top (y := iI ((lasts (cl (mA (mA (tst M Gm) 0 (uI (M 0) c (M 0 c))) 1 (uI (M 1) c v)))) c)) rfl ?_
                    refine g_goto F 155 dX6_bestOf_150 (by decide) ?_
                    refine g_istore F (lv' := [(5, .int (iI ((lasts (cl (mA (mA (tst M Gm) 0 (uI (M 0) c (M 0 c))) 1 (uI (M 1) c v)))) c))), (4, .int (iI b)), (6, .int (iI v)), (3, .int (iI (wbit 0 w 1))), (0, .ref (ma 100)), (1, .int (iI c)), (2, .int (iI w))]) dX6_bestOf_155 (by decide) rfl ?_
                    refine g_iinc F (lv' := [(6, .int (iI (v + 1))), (5, .int (iI ((lasts (cl (mA (mA (tst M Gm) 0 (uI (M 0) c (M 0 c))) 1 (uI (M 1) c v)))) c))), (4, .int (iI b)), (3, .int (iI (wbit 0 w 1))), (0, .ref (ma 100)), (1, .int (iI c)), (2, .int (iI w))]) 2 dX6_bestOf_157 rfl (by decide) rfl ?_
                    refine g_goto F 46 dX6_bestOf_160 (by decide) ?_
                    refine g_sub F (lv' := [(6, .int (iI (v + 1))), (5, .int (iI ((lasts (cl (mA (mA (tst M Gm) 0 (uI (M 0) c (M 0 c))) 1 (uI (M 1) c v)))) c))), (4, .int (iI b)), (3, .int (iI (wbit 0 w 1))), (0, .ref (ma 100)), (1, .int (iI c)), (2, .int (iI w))]) [0, 1, 2, 3, 4, 5, 6] rfl ?_
                    refine g_ws (ws' := mw κ ma (tst M (agn (mA (stC (mA (mA (tst M Gm) 0 (uI (M 0) c (M 0 c))) 1 (uI (M 1) c v)) (goI 61 (cl (mA (mA (tst M Gm) 0 (uI (M 0) c (M 0 c))) 1 (uI (M 1) c v))))) 29 (lasts (cl (mA (mA (tst M Gm) 0 (uI (M 0) c (M 0 c))) 1 (uI (M 1) c v))))) M))) rfl ?_
                    exact ih46 _ (by omega) (v + 1) b ((lasts (cl (mA (mA (tst M Gm) 0 (uI (M 0) c (M 0 c))) 1 (uI (M 1) c v)))) c) (agn (mA (stC (mA (mA (tst M Gm) 0 (uI (M 0) c (M 0 c))) 1 (uI (M 1) c v)) (goI 61 (cl (mA (mA (tst M Gm) 0 (uI (M 0) c (M 0 c))) 1 (uI (M 1) c v))))) 29 (lasts (cl (mA (mA (tst M Gm) 0 (uI (M 0) c (M 0 c))) 1 (uI (M 1) c v))))) M) rfl (by omega) (by first | (exfalso; omega) | exact smx_tx hs rfl (by show lasts (oth (cl M) w c v) c = _; rw [← hC]) hv.1 rfl (by omega) | exact smx_fx hs (by show lasts (oth (cl M) w c v) c = _; rw [← hC]) hv.1 (Or.inr (by omega))) (by omega)
                · skip
                  refine g_iload F 0 dX6_bestOf_124 rfl ?_
                  refine g_goto F 131 dX6_bestOf_126 (by decide) ?_
                  refine g_istore F (lv' := [(4, .int (iI v)), (6, .int (iI v)), (5, .int (iI l)), (3, .int (iI (wbit 0 w 1))), (0, .ref (ma 100)), (1, .int (iI c)), (2, .int (iI w))]) dX6_bestOf_131 (by decide) rfl ?_
                  refine g_aload_n F 4 dX6_bestOf_133 rfl ?_
                  refine gm_get_29 F dX6_bestOf_134 ?_
                  refine g_iload_n F 5 dX6_bestOf_137 rfl ?_
                  refine gm_ald_29 F (by omega) dX6_bestOf_138 ?_
                  refine g_top (y := iI ((lasts (cl (mA (mA (tst M Gm) 0 (uI (M 0) c (M 0 c))) 1 (uI (M 1) c v)))) c)) rfl ?_
                  refine g_iload F 2 dX6_bestOf_139 rfl ?_
                  refine g_icmp_le F 153 (by omega) dX6_bestOf_141 (by decide) (fun c141 => ?_) (fun c141 => ?_)
                  · skip
                    refine g_iload F 2 dX6_bestOf_153 rfl ?_
                    refine g_istore F (lv' := [(5, .int (iI l)), (4, .int (iI v)), (6, .int (iI v)), (3, .int (iI (wbit 0 w 1))), (0, .ref (ma 100)), (1, .int (iI c)), (2, .int (iI w))]) dX6_bestOf_155 (by decide) rfl ?_
                    refine g_iinc F (lv' := [(6, .int (iI (v + 1))), (5, .int (iI l)), (4, .int (iI v)), (3, .int (iI (wbit 0 w 1))), (0, .ref (ma 100)), (1, .int (iI c)), (2, .int (iI w))]) 2 dX6_bestOf_157 rfl (by decide) rfl ?_
                    refine g_goto F 46 dX6_bestOf_160 (by decide) ?_
                    refine g_sub F (lv' := [(6, .int (iI (v + 1))), (5, .int (iI l)), (4, .int (iI v)), (3, .int (iI (wbit 0 w 1))), (0, .ref (ma 100)), (1, .int (iI c)), (2, .int (iI w))]) [0, 1, 2, 3, 4, 5, 6] rfl ?_
                    refine g_ws (ws' := mw κ ma (tst M (agn (mA (stC (mA (mA (tst M Gm) 0 (uI (M 0) c (M 0 c))) 1 (uI (M 1) c v)) (goI 61 (cl (mA (mA (tst M Gm) 0 (uI (M 0) c (M 0 c))) 1 (uI (M 1) c v))))) 29 (lasts (cl (mA (mA (tst M Gm) 0 (uI (M 0) c (M 0 c))) 1 (uI (M 1) c v))))) M))) rfl ?_
                    exact ih46 _ (by omega) (v + 1) v l (agn (mA (stC (mA (mA (tst M Gm) 0 (uI (M 0) c (M 0 c))) 1 (uI (M 1) c v)) (goI 61 (cl (mA (mA (tst M Gm) 0 (uI (M 0) c (M 0 c))) 1 (uI (M 1) c v))))) 29 (lasts (cl (mA (mA (tst M Gm) 0 (uI (M 0) c (M 0 c))) 1 (uI (M 1) c v))))) M) rfl (by omega) (by first | (exfalso; omega) | exact smx_tx hs rfl (by show lasts (oth (cl M) w c v) c = _; rw [← hC]) hv.1 rfl (by omega) | exact smx_fx hs (by show lasts (oth (cl M) w c v) c = _; rw [← hC]) hv.1 (Or.inr (by omega))) (by omega)
                  · skip
                    refine g_aload_n F 4 dX6_bestOf_144 rfl ?_
                    refine gm_get_29 F dX6_bestOf_145 ?_
                    refine g_iload_n F 5 dX6_bestOf_148 rfl ?_
                    refine gm_ald_29 F (by omega) dX6_bestOf_149 ?_
                    refine g_top (y := iI ((lasts (cl (mA (mA (tst M Gm) 0 (uI (M 0) c (M 0 c))) 1 (uI (M 1) c v)))) c)) rfl ?_
                    refine g_goto F 155 dX6_bestOf_150 (by decide) ?_
                    refine g_istore F (lv' := [(5, .int (iI ((lasts (cl (mA (mA (tst M Gm) 0 (uI (M 0) c (M 0 c))) 1 (uI (M 1) c v)))) c))), (4, .int (iI v)), (6, .int (iI v)), (3, .int (iI (wbit 0 w 1))), (0, .ref (ma 100)), (1, .int (iI c)), (2, .int (iI w))]) dX6_bestOf_155 (by decide) rfl ?_
                    refine g_iinc F (lv' := [(6, .int (iI (v + 1))), (5, .int (iI ((lasts (cl (mA (mA (tst M Gm) 0 (uI (M 0) c (M 0 c))) 1 (uI (M 1) c v)))) c))), (4, .int (iI v)), (3, .int (iI (wbit 0 w 1))), (0, .ref (ma 100)), (1, .int (iI c)), (2, .int (iI w))]) 2 dX6_bestOf_157 rfl (by decide) rfl ?_
                    refine g_goto F 46 dX6_bestOf_160 (by decide) ?_
                    refine g_sub F (lv' := [(6, .int (iI (v + 1))), (5, .int (iI ((lasts (cl (mA (mA (tst M Gm) 0 (uI (M 0) c (M 0 c))) 1 (uI (M 1) c v)))) c))), (4, .int (iI v)), (3, .int (iI (wbit 0 w 1))), (0, .ref (ma 100)), (1, .int (iI c)), (2, .int (iI w))]) [0, 1, 2, 3, 4, 5, 6] rfl ?_
                    refine g_ws (ws' := mw κ ma (tst M (agn (mA (stC (mA (mA (tst M Gm) 0 (uI (M 0) c (M 0 c))) 1 (uI (M 1) c v)) (goI 61 (cl (mA (mA (tst M Gm) 0 (uI (M 0) c (M 0 c))) 1 (uI (M 1) c v))))) 29 (lasts (cl (mA (mA (tst M Gm) 0 (uI (M 0) c (M 0 c))) 1 (uI (M 1) c v))))) M))) rfl ?_
                    exact ih46 _ (by omega) (v + 1) v ((lasts (cl (mA (mA (tst M Gm) 0 (uI (M 0) c (M 0 c))) 1 (uI (M 1) c v)))) c) (agn (mA (stC (mA (mA (tst M Gm) 0 (uI (M 0) c (M 0 c))) 1 (uI (M 1) c v)) (goI 61 (cl (mA (mA (tst M Gm) 0 (uI (M 0) c (M 0 c))) 1 (uI (M 1) c v))))) 29 (lasts (cl (mA (mA (tst M Gm) 0 (uI (M 0) c (M 0 c))) 1 (uI (M 1) c v))))) M) rfl (by omega) (by first | (exfalso; omega) | exact smx_tx hs rfl (by show lasts (oth (cl M) w c v) c = _; rw [← hC]) hv.1 rfl (by omega) | exact smx_fx hs (by show lasts (oth (cl M) w c v) c = _; rw [← hC]) hv.1 (Or.inr (by omega))) (by omega)
            · skip
              refine g_iload F 0 dX6_bestOf_71 rfl ?_
              refine g_goto F 82 dX6_bestOf_73 (by decide) ?_
              refine gm_ast_0 F (by omega) dX6_bestOf_82 ?_
              refine g_ws (ws' := mw κ ma (mA (tst M Gm) 0 (uI (M 0) c v))) rfl ?_
              refine g_aload_n F 4 dX6_bestOf_83 rfl ?_
              refine gm_get_1 F dX6_bestOf_84 ?_
              refine g_iload_n F 5 dX6_bestOf_87 rfl ?_
              refine g_iload_n F 6 dX6_bestOf_88 rfl ?_
              refine g_iconst F dX6_bestOf_89 ?_
              refine g_icmp_ne F 98 (by omega) dX6_bestOf_90 (by decide) (fun c90 => ?_) (fun c90 => ?_)
              · skip
                refine g_aload_n F 4 dX6_bestOf_98 rfl ?_
                refine gm_get_1 F dX6_bestOf_99 ?_
                refine g_iload_n F 5 dX6_bestOf_102 rfl ?_
                refine gm_ald_1 F (by omega) dX6_bestOf_103 ?_
                refine g_top (y := iI (M 1 c)) rfl ?_
                refine gm_ast_1 F (by omega) dX6_bestOf_104 ?_
                refine g_ws (ws' := mw κ ma (mA (mA (tst M Gm) 0 (uI (M 0) c v)) 1 (uI (M 1) c (M 1 c)))) rfl ?_
                have hC : cl (mA (mA (tst M Gm) 0 (uI (M 0) c v)) 1 (uI (M 1) c (M 1 c))) = oth (cl M) w c v := by first | (exfalso; omega) | (rw [oth_0 (by omega)]; show (uI (M 0) c v, uI (M 1) c (M 1 c), M 2, M 3, M 4 0) = (uI (M 0) c v, M 1, M 2, M 3, M 4 0); rw [uI_self]) | (rw [oth_1 (by omega)]; show (uI (M 0) c (M 0 c), uI (M 1) c v, M 2, M 3, M 4 0) = (M 0, uI (M 1) c v, M 2, M 3, M 4 0); rw [uI_self])
                have hpb := lasts_bd (cl (mA (mA (tst M Gm) 0 (uI (M 0) c v)) 1 (uI (M 1) c (M 1 c)))) c
                refine g_aload_n F 4 dX6_bestOf_105 rfl ?_
                refine g_callV F (stk := [.ref (ma 100)]) (st := []) (k_X6_layLasts κ ma (mA (mA (tst M Gm) 0 (uI (M 0) c v)) 1 (uI (M 1) c (M 1 c))) (show (M 4 0) ≤ 990000 from by omega) (by rw [hC]; exact oth_ok ok (by omega))) cal_X6_layLasts lm_X6_255 0 rfl rfl rfl rfl (by decide) rfl (Nat.le_of_ble_eq_true rfl) dX6_bestOf_106 (fun ws106 _ hr106 => ?_)
                obtain rfl := hr106
                refine g_ws (ws' := mw κ ma (mA (stC (mA (mA (tst M Gm) 0 (uI (M 0) c v)) 1 (uI (M 1) c (M 1 c))) (goI 61 (cl (mA (mA (tst M Gm) 0 (uI (M 0) c v)) 1 (uI (M 1) c (M 1 c)))))) 29 (lasts (cl (mA (mA (tst M Gm) 0 (uI (M 0) c v)) 1 (uI (M 1) c (M 1 c))))))) rfl ?_
                refine g_aload_n F 4 dX6_bestOf_109 rfl ?_
                refine g_callV F (stk := [.ref (ma 100)]) (st := []) (k_X6_again κ ma (mA (stC (mA (mA (tst M Gm) 0 (uI (M 0) c v)) 1 (uI (M 1) c (M 1 c))) (goI 61 (cl (mA (mA (tst M Gm) 0 (uI (M 0) c v)) 1 (uI (M 1) c (M 1 c)))))) 29 (lasts (cl (mA (mA (tst M Gm) 0 (uI (M 0) c v)) 1 (uI (M 1) c (M 1 c)))))) M (fun _ _ _ => rfl)) cal_X6_again lm_X6_197 0 rfl rfl rfl rfl (by decide) rfl (Nat.le_of_ble_eq_true rfl) dX6_bestOf_110 (fun ws110 _ hr110 => ?_)
                obtain rfl := hr110
                refine g_aload_n F 4 dX6_bestOf_113 rfl ?_
                refine gm_get_29 F dX6_bestOf_114 ?_
                refine g_iload_n F 5 dX6_bestOf_117 rfl ?_
                refine gm_ald_29 F (by omega) dX6_bestOf_118 ?_
                refine g_top (y := iI ((lasts (cl (mA (mA (tst M Gm) 0 (uI (M 0) c v)) 1 (uI (M 1) c (M 1 c))))) c)) rfl ?_
                refine g_iload F 1 dX6_bestOf_119 rfl ?_
                refine g_icmp_le F 129 (by omega) dX6_bestOf_121 (by decide) (fun c121 => ?_) (fun c121 => ?_)
                · skip
                  refine g_iload F 2 dX6_bestOf_129 rfl ?_
                  refine g_istore F (lv' := [(4, .int (iI b)), (6, .int (iI v)), (5, .int (iI l)), (3, .int (iI (wbit 0 w 1))), (0, .ref (ma 100)), (1, .int (iI c)), (2, .int (iI w))]) dX6_bestOf_131 (by decide) rfl ?_
                  refine g_aload_n F 4 dX6_bestOf_133 rfl ?_
                  refine gm_get_29 F dX6_bestOf_134 ?_
                  refine g_iload_n F 5 dX6_bestOf_137 rfl ?_
                  refine gm_ald_29 F (by omega) dX6_bestOf_138 ?_
                  refine g_top (y := iI ((lasts (cl (mA (mA (tst M Gm) 0 (uI (M 0) c v)) 1 (uI (M 1) c (M 1 c))))) c)) rfl ?_
                  refine g_iload F 2 dX6_bestOf_139 rfl ?_
                  refine g_icmp_le F 153 (by omega) dX6_bestOf_141 (by decide) (fun c141 => ?_) (fun c141 => ?_)
                  · skip
                    refine g_iload F 2 dX6_bestOf_153 rfl ?_
                    refine g_istore F (lv' := [(5, .int (iI l)), (4, .int (iI b)), (6, .int (iI v)), (3, .int (iI (wbit 0 w 1))), (0, .ref (ma 100)), (1, .int (iI c)), (2, .int (iI w))]) dX6_bestOf_155 (by decide) rfl ?_
                    refine g_iinc F (lv' := [(6, .int (iI (v + 1))), (5, .int (iI l)), (4, .int (iI b)), (3, .int (iI (wbit 0 w 1))), (0, .ref (ma 100)), (1, .int (iI c)), (2, .int (iI w))]) 2 dX6_bestOf_157 rfl (by decide) rfl ?_
                    refine g_goto F 46 dX6_bestOf_160 (by decide) ?_
                    refine g_sub F (lv' := [(6, .int (iI (v + 1))), (5, .int (iI l)), (4, .int (iI b)), (3, .int (iI (wbit 0 w 1))), (0, .ref (ma 100)), (1, .int (iI c)), (2, .int (iI w))]) [0, 1, 2, 3, 4, 5, 6] rfl ?_
                    refine g_ws (ws' := mw κ ma (tst M (agn (mA (stC (mA (mA (tst M Gm) 0 (uI (M 0) c v)) 1 (uI (M 1) c (M 1 c))) (goI 61 (cl (mA (mA (tst M Gm) 0 (uI (M 0) c v)) 1 (uI (M 1) c (M 1 c)))))) 29 (lasts (cl (mA (mA (tst M Gm) 0 (uI (M 0) c v)) 1 (uI (M 1) c (M 1 c)))))) M))) rfl ?_
                    exact ih46 _ (by omega) (v + 1) b l (agn (mA (stC (mA (mA (tst M Gm) 0 (uI (M 0) c v)) 1 (uI (M 1) c (M 1 c))) (goI 61 (cl (mA (mA (tst M Gm) 0 (uI (M 0) c v)) 1 (uI (M 1) c (M 1 c)))))) 29 (lasts (cl (mA (mA (tst M Gm) 0 (uI (M 0) c v)) 1 (uI (M 1) c (M 1 c)))))) M) rfl (by omega) (by first | (exfalso; omega) | exact smx_tx hs rfl (by show lasts (oth (cl M) w c v) c = _; rw [← hC]) hv.1 rfl (by omega) | exact smx_fx hs (by show lasts (oth (cl M) w c v) c = _; rw [← hC]) hv.1 (Or.inr (by omega))) (by omega)
                  · skip
                    refine g_aload_n F 4 dX6_bestOf_144 rfl ?_
                    refine gm_get_29 F dX6_bestOf_145 ?_
                    refine g_iload_n F 5 dX6_bestOf_148 rfl ?_
                    refine gm_ald_29 F (by omega) dX6_bestOf_149 ?_
                    refine g_top (y := iI ((lasts (cl (mA (mA (tst M Gm) 0 (uI (M 0) c v)) 1 (uI (M 1) c (M 1 c))))) c)) rfl ?_
                    refine g_goto F 155 dX6_bestOf_150 (by decide) ?_
                    refine g_istore F (lv' := [(5, .int (iI ((lasts (cl (mA (mA (tst M Gm) 0 (uI (M 0) c v)) 1 (uI (M 1) c (M 1 c))))) c))), (4, .int (iI b)), (6, .int (iI v)), (3, .int (iI (wbit 0 w 1))), (0, .ref (ma 100)), (1, .int (iI c)), (2, .int (iI w))]) dX6_bestOf_155 (by decide) rfl ?_
                    refine g_iinc F (lv' := [(6, .int (iI (v + 1))), (5, .int (iI ((lasts (cl (mA (mA (tst M Gm) 0 (uI (M 0) c v)) 1 (uI (M 1) c (M 1 c))))) c))), (4, .int (iI b)), (3, .int (iI (wbit 0 w 1))), (0, .ref (ma 100)), (1, .int (iI c)), (2, .int (iI w))]) 2 dX6_bestOf_157 rfl (by decide) rfl ?_
                    refine g_goto F 46 dX6_bestOf_160 (by decide) ?_
                    refine g_sub F (lv' := [(6, .int (iI (v + 1))), (5, .int (iI ((lasts (cl (mA (mA (tst M Gm) 0 (uI (M 0) c v)) 1 (uI (M 1) c (M 1 c))))) c))), (4, .int (iI b)), (3, .int (iI (wbit 0 w 1))), (0, .ref (ma 100)), (1, .int (iI c)), (2, .int (iI w))]) [0, 1, 2, 3, 4, 5, 6] rfl ?_
                    refine g_ws (ws' := mw κ ma (tst M (agn (mA (stC (mA (mA (tst M Gm) 0 (uI (M 0) c v)) 1 (uI (M 1) c (M 1 c))) (goI 61 (cl (mA (mA (tst M Gm) 0 (uI (M 0) c v)) 1 (uI (M 1) c (M 1 c)))))) 29 (lasts (cl (mA (mA (tst M Gm) 0 (uI (M 0) c v)) 1 (uI (M 1) c (M 1 c)))))) M))) rfl ?_
                    exact ih46 _ (by omega) (v + 1) b ((lasts (cl (mA (mA (tst M Gm) 0 (uI (M 0) c v)) 1 (uI (M 1) c (M 1 c))))) c) (agn (mA (stC (mA (mA (tst M Gm) 0 (uI (M 0) c v)) 1 (uI (M 1) c (M 1 c))) (goI 61 (cl (mA (mA (tst M Gm) 0 (uI (M 0) c v)) 1 (uI (M 1) c (M 1 c)))))) 29 (lasts (cl (mA (mA (tst M Gm) 0 (uI (M 0) c v)) 1 (uI (M 1) c (M 1 c)))))) M) rfl (by omega) (by first | (exfalso; omega) | exact smx_tx hs rfl (by show lasts (oth (cl M) w c v) c = _; rw [← hC]) hv.1 rfl (by omega) | exact smx_fx hs (by show lasts (oth (cl M) w c v) c = _; rw [← hC]) hv.1 (Or.inr (by omega))) (by omega)
                · skip
                  refine g_iload F 0 dX6_bestOf_124 rfl ?_
                  refine g_goto F 131 dX6_bestOf_126 (by decide) ?_
                  refine g_istore F (lv' := [(4, .int (iI v)), (6, .int (iI v)), (5, .int (iI l)), (3, .int (iI (wbit 0 w 1))), (0, .ref (ma 100)), (1, .int (iI c)), (2, .int (iI w))]) dX6_bestOf_131 (by decide) rfl ?_
                  refine g_aload_n F 4 dX6_bestOf_133 rfl ?_
                  refine gm_get_29 F dX6_bestOf_134 ?_
                  refine g_iload_n F 5 dX6_bestOf_137 rfl ?_
                  refine gm_ald_29 F (by omega) dX6_bestOf_138 ?_
                  refine g_top (y := iI ((lasts (cl (mA (mA (tst M Gm) 0 (uI (M 0) c v)) 1 (uI (M 1) c (M 1 c))))) c)) rfl ?_
                  refine g_iload F 2 dX6_bestOf_139 rfl ?_
                  refine g_icmp_le F 153 (by omega) dX6_bestOf_141 (by decide) (fun c141 => ?_) (fun c141 => ?_)
                  · skip
                    refine g_iload F 2 dX6_bestOf_153 rfl ?_
                    refine g_istore F (lv' := [(5, .int (iI l)), (4, .int (iI v)), (6, .int (iI v)), (3, .int (iI (wbit 0 w 1))), (0, .ref (ma 100)), (1, .int (iI c)), (2, .int (iI w))]) dX6_bestOf_155 (by decide) rfl ?_
                    refine g_iinc F (lv' := [(6, .int (iI (v + 1))), (5, .int (iI l)), (4, .int (iI v)), (3, .int (iI (wbit 0 w 1))), (0, .ref (ma 100)), (1, .int (iI c)), (2, .int (iI w))]) 2 dX6_bestOf_157 rfl (by decide) rfl ?_
                    refine g_goto F 46 dX6_bestOf_160 (by decide) ?_
                    refine g_sub F (lv' := [(6, .int (iI (v + 1))), (5, .int (iI l)), (4, .int (iI v)), (3, .int (iI (wbit 0 w 1))), (0, .ref (ma 100)), (1, .int (iI c)), (2, .int (iI w))]) [0, 1, 2, 3, 4, 5, 6] rfl ?_
                    refine g_ws (ws' := mw κ ma (tst M (agn (mA (stC (mA (mA (tst M Gm) 0 (uI (M 0) c v)) 1 (uI (M 1) c (M 1 c))) (goI 61 (cl (mA (mA (tst M Gm) 0 (uI (M 0) c v)) 1 (uI (M 1) c (M 1 c)))))) 29 (lasts (cl (mA (mA (tst M Gm) 0 (uI (M 0) c v)) 1 (uI (M 1) c (M 1 c)))))) M))) rfl ?_
                    exact ih46 _ (by omega) (v + 1) v l (agn (mA (stC (mA (mA (tst M Gm) 0 (uI (M 0) c v)) 1 (uI (M 1) c (M 1 c))) (goI 61 (cl (mA (mA (tst M Gm) 0 (uI (M 0) c v)) 1 (uI (M 1) c (M 1 c)))))) 29 (lasts (cl (mA (mA (tst M Gm) 0 (uI (M 0) c v)) 1 (uI (M 1) c (M 1 c)))))) M) rfl (by omega) (by first | (exfalso; omega) | exact smx_tx hs rfl (by show lasts (oth (cl M) w c v) c = _; rw [← hC]) hv.1 rfl (by omega) | exact smx_fx hs (by show lasts (oth (cl M) w c v) c = _; rw [← hC]) hv.1 (Or.inr (by omega))) (by omega)
                  · skip
                    refine g_aload_n F 4 dX6_bestOf_144 rfl ?_
                    refine gm_get_29 F dX6_bestOf_145 ?_
                    refine g_iload_n F 5 dX6_bestOf_148 rfl ?_
                    refine gm_ald_29 F (by omega) dX6_bestOf_149 ?_
                    refine g_top (y := iI ((lasts (cl (mA (mA (tst M Gm) 0 (uI (M 0) c v)) 1 (uI (M 1) c (M 1 c))))) c)) rfl ?_
                    refine g_goto F 155 dX6_bestOf_150 (by decide) ?_
                    refine g_istore F (lv' := [(5, .int (iI ((lasts (cl (mA (mA (tst M Gm) 0 (uI (M 0) c v)) 1 (uI (M 1) c (M 1 c))))) c))), (4, .int (iI v)), (6, .int (iI v)), (3, .int (iI (wbit 0 w 1))), (0, .ref (ma 100)), (1, .int (iI c)), (2, .int (iI w))]) dX6_bestOf_155 (by decide) rfl ?_
                    refine g_iinc F (lv' := [(6, .int (iI (v + 1))), (5, .int (iI ((lasts (cl (mA (mA (tst M Gm) 0 (uI (M 0) c v)) 1 (uI (M 1) c (M 1 c))))) c))), (4, .int (iI v)), (3, .int (iI (wbit 0 w 1))), (0, .ref (ma 100)), (1, .int (iI c)), (2, .int (iI w))]) 2 dX6_bestOf_157 rfl (by decide) rfl ?_
                    refine g_goto F 46 dX6_bestOf_160 (by decide) ?_
                    refine g_sub F (lv' := [(6, .int (iI (v + 1))), (5, .int (iI ((lasts (cl (mA (mA (tst M Gm) 0 (uI (M 0) c v)) 1 (uI (M 1) c (M 1 c))))) c))), (4, .int (iI v)), (3, .int (iI (wbit 0 w 1))), (0, .ref (ma 100)), (1, .int (iI c)), (2, .int (iI w))]) [0, 1, 2, 3, 4, 5, 6] rfl ?_
                    refine g_ws (ws' := mw κ ma (tst M (agn (mA (stC (mA (mA (tst M Gm) 0 (uI (M 0) c v)) 1 (uI (M 1) c (M 1 c))) (goI 61 (cl (mA (mA (tst M Gm) 0 (uI (M 0) c v)) 1 (uI (M 1) c (M 1 c)))))) 29 (lasts (cl (mA (mA (tst M Gm) 0 (uI (M 0) c v)) 1 (uI (M 1) c (M 1 c)))))) M))) rfl ?_
                    exact ih46 _ (by omega) (v + 1) v ((lasts (cl (mA (mA (tst M Gm) 0 (uI (M 0) c v)) 1 (uI (M 1) c (M 1 c))))) c) (agn (mA (stC (mA (mA (tst M Gm) 0 (uI (M 0) c v)) 1 (uI (M 1) c (M 1 c))) (goI 61 (cl (mA (mA (tst M Gm) 0 (uI (M 0) c v)) 1 (uI (M 1) c (M 1 c)))))) 29 (lasts (cl (mA (mA (tst M Gm) 0 (uI (M 0) c v)) 1 (uI (M 1) c (M 1 c)))))) M) rfl (by omega) (by first | (exfalso; omega) | exact smx_tx hs rfl (by show lasts (oth (cl M) w c v) c = _; rw [← hC]) hv.1 rfl (by omega) | exact smx_fx hs (by show lasts (oth (cl M) w c v) c = _; rw [← hC]) hv.1 (Or.inr (by omega))) (by omega)
              · skip
                refine g_iload F 0 dX6_bestOf_93 rfl ?_
                refine g_goto F 104 dX6_bestOf_95 (by decide) ?_
                refine gm_ast_1 F (by omega) dX6_bestOf_104 ?_
                refine g_ws (ws' := mw κ ma (mA (mA (tst M Gm) 0 (uI (M 0) c v)) 1 (uI (M 1) c v))) rfl ?_
                have hC : cl (mA (mA (tst M Gm) 0 (uI (M 0) c v)) 1 (uI (M 1) c v)) = oth (cl M) w c v := by first | (exfalso; omega) | (rw [oth_0 (by omega)]; show (uI (M 0) c v, uI (M 1) c (M 1 c), M 2, M 3, M 4 0) = (uI (M 0) c v, M 1, M 2, M 3, M 4 0); rw [uI_self]) | (rw [oth_1 (by omega)]; show (uI (M 0) c (M 0 c), uI (M 1) c v, M 2, M 3, M 4 0) = (M 0, uI (M 1) c v, M 2, M 3, M 4 0); rw [uI_self])
                have hpb := lasts_bd (cl (mA (mA (tst M Gm) 0 (uI (M 0) c v)) 1 (uI (M 1) c v))) c
                refine g_aload_n F 4 dX6_bestOf_105 rfl ?_
                refine g_callV F (stk := [.ref (ma 100)]) (st := []) (k_X6_layLasts κ ma (mA (mA (tst M Gm) 0 (uI (M 0) c v)) 1 (uI (M 1) c v)) (show (M 4 0) ≤ 990000 from by omega) (by rw [hC]; exact oth_ok ok (by omega))) cal_X6_layLasts lm_X6_255 0 rfl rfl rfl rfl (by decide) rfl (Nat.le_of_ble_eq_true rfl) dX6_bestOf_106 (fun ws106 _ hr106 => ?_)
                obtain rfl := hr106
                refine g_ws (ws' := mw κ ma (mA (stC (mA (mA (tst M Gm) 0 (uI (M 0) c v)) 1 (uI (M 1) c v)) (goI 61 (cl (mA (mA (tst M Gm) 0 (uI (M 0) c v)) 1 (uI (M 1) c v))))) 29 (lasts (cl (mA (mA (tst M Gm) 0 (uI (M 0) c v)) 1 (uI (M 1) c v)))))) rfl ?_
                refine g_aload_n F 4 dX6_bestOf_109 rfl ?_
                refine g_callV F (stk := [.ref (ma 100)]) (st := []) (k_X6_again κ ma (mA (stC (mA (mA (tst M Gm) 0 (uI (M 0) c v)) 1 (uI (M 1) c v)) (goI 61 (cl (mA (mA (tst M Gm) 0 (uI (M 0) c v)) 1 (uI (M 1) c v))))) 29 (lasts (cl (mA (mA (tst M Gm) 0 (uI (M 0) c v)) 1 (uI (M 1) c v))))) M (fun _ _ _ => rfl)) cal_X6_again lm_X6_197 0 rfl rfl rfl rfl (by decide) rfl (Nat.le_of_ble_eq_true rfl) dX6_bestOf_110 (fun ws110 _ hr110 => ?_)
                obtain rfl := hr110
                refine g_aload_n F 4 dX6_bestOf_113 rfl ?_
                refine gm_get_29 F dX6_bestOf_114 ?_
                refine g_iload_n F 5 dX6_bestOf_117 rfl ?_
                refine gm_ald_29 F (by omega) dX6_bestOf_118 ?_
                refine g_top (y := iI ((lasts (cl (mA (mA (tst M Gm) 0 (uI (M 0) c v)) 1 (uI (M 1) c v)))) c)) rfl ?_
                refine g_iload F 1 dX6_bestOf_119 rfl ?_
                refine g_icmp_le F 129 (by omega) dX6_bestOf_121 (by decide) (fun c121 => ?_) (fun c121 => ?_)
                · skip
                  refine g_iload F 2 dX6_bestOf_129 rfl ?_
                  refine g_istore F (lv' := [(4, .int (iI b)), (6, .int (iI v)), (5, .int (iI l)), (3, .int (iI (wbit 0 w 1))), (0, .ref (ma 100)), (1, .int (iI c)), (2, .int (iI w))]) dX6_bestOf_131 (by decide) rfl ?_
                  refine g_aload_n F 4 dX6_bestOf_133 rfl ?_
                  refine gm_get_29 F dX6_bestOf_134 ?_
                  refine g_iload_n F 5 dX6_bestOf_137 rfl ?_
                  refine gm_ald_29 F (by omega) dX6_bestOf_138 ?_
                  refine g_top (y := iI ((lasts (cl (mA (mA (tst M Gm) 0 (uI (M 0) c v)) 1 (uI (M 1) c v)))) c)) rfl ?_
                  refine g_iload F 2 dX6_bestOf_139 rfl ?_
                  refine g_icmp_le F 153 (by omega) dX6_bestOf_141 (by decide) (fun c141 => ?_) (fun c141 => ?_)
                  · skip
                    refine g_iload F 2 dX6_bestOf_153 rfl ?_
                    refine g_istore F (lv' := [(5, .int (iI l)), (4, .int (iI b)), (6, .int (iI v)), (3, .int (iI (wbit 0 w 1))), (0, .ref (ma 100)), (1, .int (iI c)), (2, .int (iI w))]) dX6_bestOf_155 (by decide) rfl ?_
                    refine g_iinc F (lv' := [(6, .int (iI (v + 1))), (5, .int (iI l)), (4, .int (iI b)), (3, .int (iI (wbit 0 w 1))), (0, .ref (ma 100)), (1, .int (iI c)), (2, .int (iI w))]) 2 dX6_bestOf_157 rfl (by decide) rfl ?_
                    refine g_goto F 46 dX6_bestOf_160 (by decide) ?_
                    refine g_sub F (lv' := [(6, .int (iI (v + 1))), (5, .int (iI l)), (4, .int (iI b)), (3, .int (iI (wbit 0 w 1))), (0, .ref (ma 100)), (1, .int (iI c)), (2, .int (iI w))]) [0, 1, 2, 3, 4, 5, 6] rfl ?_
                    refine g_ws (ws' := mw κ ma (tst M (agn (mA (stC (mA (mA (tst M Gm) 0 (uI (M 0) c v)) 1 (uI (M 1) c v)) (goI 61 (cl (mA (mA (tst M Gm) 0 (uI (M 0) c v)) 1 (uI (M 1) c v))))) 29 (lasts (cl (mA (mA (tst M Gm) 0 (uI (M 0) c v)) 1 (uI (M 1) c v))))) M))) rfl ?_
                    exact ih46 _ (by omega) (v + 1) b l (agn (mA (stC (mA (mA (tst M Gm) 0 (uI (M 0) c v)) 1 (uI (M 1) c v)) (goI 61 (cl (mA (mA (tst M Gm) 0 (uI (M 0) c v)) 1 (uI (M 1) c v))))) 29 (lasts (cl (mA (mA (tst M Gm) 0 (uI (M 0) c v)) 1 (uI (M 1) c v))))) M) rfl (by omega) (by first | (exfalso; omega) | exact smx_tx hs rfl (by show lasts (oth (cl M) w c v) c = _; rw [← hC]) hv.1 rfl (by omega) | exact smx_fx hs (by show lasts (oth (cl M) w c v) c = _; rw [← hC]) hv.1 (Or.inr (by omega))) (by omega)
                  · skip
                    refine g_aload_n F 4 dX6_bestOf_144 rfl ?_
                    refine gm_get_29 F dX6_bestOf_145 ?_
                    refine g_iload_n F 5 dX6_bestOf_148 rfl ?_
                    refine gm_ald_29 F (by omega) dX6_bestOf_149 ?_
                    refine g_top (y := iI ((lasts (cl (mA (mA (tst M Gm) 0 (uI (M 0) c v)) 1 (uI (M 1) c v)))) c)) rfl ?_
                    refine g_goto F 155 dX6_bestOf_150 (by decide) ?_
                    refine g_istore F (lv' := [(5, .int (iI ((lasts (cl (mA (mA (tst M Gm) 0 (uI (M 0) c v)) 1 (uI (M 1) c v)))) c))), (4, .int (iI b)), (6, .int (iI v)), (3, .int (iI (wbit 0 w 1))), (0, .ref (ma 100)), (1, .int (iI c)), (2, .int (iI w))]) dX6_bestOf_155 (by decide) rfl ?_
                    refine g_iinc F (lv' := [(6, .int (iI (v + 1))), (5, .int (iI ((lasts (cl (mA (mA (tst M Gm) 0 (uI (M 0) c v)) 1 (uI (M 1) c v)))) c))), (4, .int (iI b)), (3, .int (iI (wbit 0 w 1))), (0, .ref (ma 100)), (1, .int (iI c)), (2, .int (iI w))]) 2 dX6_bestOf_157 rfl (by decide) rfl ?_
                    refine g_goto F 46 dX6_bestOf_160 (by decide) ?_
                    refine g_sub F (lv' := [(6, .int (iI (v + 1))), (5, .int (iI ((lasts (cl (mA (mA (tst M Gm) 0 (uI (M 0) c v)) 1 (uI (M 1) c v)))) c))), (4, .int (iI b)), (3, .int (iI (wbit 0 w 1))), (0, .ref (ma 100)), (1, .int (iI c)), (2, .int (iI w))]) [0, 1, 2, 3, 4, 5, 6] rfl ?_
                    refine g_ws (ws' := mw κ ma (tst M (agn (mA (stC (mA (mA (tst M Gm) 0 (uI (M 0) c v)) 1 (uI (M 1) c v)) (goI 61 (cl (mA (mA (tst M Gm) 0 (uI (M 0) c v)) 1 (uI (M 1) c v))))) 29 (lasts (cl (mA (mA (tst M Gm) 0 (uI (M 0) c v)) 1 (uI (M 1) c v))))) M))) rfl ?_
                    exact ih46 _ (by omega) (v + 1) b ((lasts (cl (mA (mA (tst M Gm) 0 (uI (M 0) c v)) 1 (uI (M 1) c v)))) c) (agn (mA (stC (mA (mA (tst M Gm) 0 (uI (M 0) c v)) 1 (uI (M 1) c v)) (goI 61 (cl (mA (mA (tst M Gm) 0 (uI (M 0) c v)) 1 (uI (M 1) c v))))) 29 (lasts (cl (mA (mA (tst M Gm) 0 (uI (M 0) c v)) 1 (uI (M 1) c v))))) M) rfl (by omega) (by first | (exfalso; omega) | exact smx_tx hs rfl (by show lasts (oth (cl M) w c v) c = _; rw [← hC]) hv.1 rfl (by omega) | exact smx_fx hs (by show lasts (oth (cl M) w c v) c = _; rw [← hC]) hv.1 (Or.inr (by omega))) (by omega)
                · skip
                  refine g_iload F 0 dX6_bestOf_124 rfl ?_
                  refine g_goto F 131 dX6_bestOf_126 (by decide) ?_
                  refine g_istore F (lv' := [(4, .int (iI v)), (6, .int (iI v)), (5, .int (iI l)), (3, .int (iI (wbit 0 w 1))), (0, .ref (ma 100)), (1, .int (iI c)), (2, .int (iI w))]) dX6_bestOf_131 (by decide) rfl ?_
                  refine g_aload_n F 4 dX6_bestOf_133 rfl ?_
                  refine gm_get_29 F dX6_bestOf_134 ?_
                  refine g_iload_n F 5 dX6_bestOf_137 rfl ?_
                  refine gm_ald_29 F (by omega) dX6_bestOf_138 ?_
                  refine g_top (y := iI ((lasts (cl (mA (mA (tst M Gm) 0 (uI (M 0) c v)) 1 (uI (M 1) c v)))) c)) rfl ?_
                  refine g_iload F 2 dX6_bestOf_139 rfl ?_
                  refine g_icmp_le F 153 (by omega) dX6_bestOf_141 (by decide) (fun c141 => ?_) (fun c141 => ?_)
                  · skip
                    refine g_iload F 2 dX6_bestOf_153 rfl ?_
                    refine g_istore F (lv' := [(5, .int (iI l)), (4, .int (iI v)), (6, .int (iI v)), (3, .int (iI (wbit 0 w 1))), (0, .ref (ma 100)), (1, .int (iI c)), (2, .int (iI w))]) dX6_bestOf_155 (by decide) rfl ?_
                    refine g_iinc F (lv' := [(6, .int (iI (v + 1))), (5, .int (iI l)), (4, .int (iI v)), (3, .int (iI (wbit 0 w 1))), (0, .ref (ma 100)), (1, .int (iI c)), (2, .int (iI w))]) 2 dX6_bestOf_157 rfl (by decide) rfl ?_
                    refine g_goto F 46 dX6_bestOf_160 (by decide) ?_
                    refine g_sub F (lv' := [(6, .int (iI (v + 1))), (5, .int (iI l)), (4, .int (iI v)), (3, .int (iI (wbit 0 w 1))), (0, .ref (ma 100)), (1, .int (iI c)), (2, .int (iI w))]) [0, 1, 2, 3, 4, 5, 6] rfl ?_
                    refine g_ws (ws' := mw κ ma (tst M (agn (mA (stC (mA (mA (tst M Gm) 0 (uI (M 0) c v)) 1 (uI (M 1) c v)) (goI 61 (cl (mA (mA (tst M Gm) 0 (uI (M 0) c v)) 1 (uI (M 1) c v))))) 29 (lasts (cl (mA (mA (tst M Gm) 0 (uI (M 0) c v)) 1 (uI (M 1) c v))))) M))) rfl ?_
                    exact ih46 _ (by omega) (v + 1) v l (agn (mA (stC (mA (mA (tst M Gm) 0 (uI (M 0) c v)) 1 (uI (M 1) c v)) (goI 61 (cl (mA (mA (tst M Gm) 0 (uI (M 0) c v)) 1 (uI (M 1) c v))))) 29 (lasts (cl (mA (mA (tst M Gm) 0 (uI (M 0) c v)) 1 (uI (M 1) c v))))) M) rfl (by omega) (by first | (exfalso; omega) | exact smx_tx hs rfl (by show lasts (oth (cl M) w c v) c = _; rw [← hC]) hv.1 rfl (by omega) | exact smx_fx hs (by show lasts (oth (cl M) w c v) c = _; rw [← hC]) hv.1 (Or.inr (by omega))) (by omega)
                  · skip
                    refine g_aload_n F 4 dX6_bestOf_144 rfl ?_
                    refine gm_get_29 F dX6_bestOf_145 ?_
                    refine g_iload_n F 5 dX6_bestOf_148 rfl ?_
                    refine gm_ald_29 F (by omega) dX6_bestOf_149 ?_
                    refine g_top (y := iI ((lasts (cl (mA (mA (tst M Gm) 0 (uI (M 0) c v)) 1 (uI (M 1) c v)))) c)) rfl ?_
                    refine g_goto F 155 dX6_bestOf_150 (by decide) ?_
                    refine g_istore F (lv' := [(5, .int (iI ((lasts (cl (mA (mA (tst M Gm) 0 (uI (M 0) c v)) 1 (uI (M 1) c v)))) c))), (4, .int (iI v)), (6, .int (iI v)), (3, .int (iI (wbit 0 w 1))), (0, .ref (ma 100)), (1, .int (iI c)), (2, .int (iI w))]) dX6_bestOf_155 (by decide) rfl ?_
                    refine g_iinc F (lv' := [(6, .int (iI (v + 1))), (5, .int (iI ((lasts (cl (mA (mA (tst M Gm) 0 (uI (M 0) c v)) 1 (uI (M 1) c v)))) c))), (4, .int (iI v)), (3, .int (iI (wbit 0 w 1))), (0, .ref (ma 100)), (1, .int (iI c)), (2, .int (iI w))]) 2 dX6_bestOf_157 rfl (by decide) rfl ?_
                    refine g_goto F 46 dX6_bestOf_160 (by decide) ?_
                    refine g_sub F (lv' := [(6, .int (iI (v + 1))), (5, .int (iI ((lasts (cl (mA (mA (tst M Gm) 0 (uI (M 0) c v)) 1 (uI (M 1) c v)))) c))), (4, .int (iI v)), (3, .int (iI (wbit 0 w 1))), (0, .ref (ma 100)), (1, .int (iI c)), (2, .int (iI w))]) [0, 1, 2, 3, 4, 5, 6] rfl ?_
                    refine g_ws (ws' := mw κ ma (tst M (agn (mA (stC (mA (mA (tst M Gm) 0 (uI (M 0) c v)) 1 (uI (M 1) c v)) (goI 61 (cl (mA (mA (tst M Gm) 0 (uI (M 0) c v)) 1 (uI (M 1) c v))))) 29 (lasts (cl (mA (mA (tst M Gm) 0 (uI (M 0) c v)) 1 (uI (M 1) c v))))) M))) rfl ?_
                    exact ih46 _ (by omega) (v + 1) v ((lasts (cl (mA (mA (tst M Gm) 0 (uI (M 0) c v)) 1 (uI (M 1) c v)))) c) (agn (mA (stC (mA (mA (tst M Gm) 0 (uI (M 0) c v)) 1 (uI (M 1) c v)) (goI 61 (cl (mA (mA (tst M Gm) 0 (uI (M 0) c v)) 1 (uI (M 1) c v))))) 29 (lasts (cl (mA (mA (tst M Gm) 0 (uI (M 0) c v)) 1 (uI (M 1) c v))))) M) rfl (by omega) (by first | (exfalso; omega) | exact smx_tx hs rfl (by show lasts (oth (cl M) w c v) c = _; rw [← hC]) hv.1 rfl (by omega) | exact smx_fx hs (by show lasts (oth (cl M) w c v) c = _; rw [← hC]) hv.1 (Or.inr (by omega))) (by omega)
      refine g_sub F (lv' := [(6, .int (iI 0)), (5, .int (iI (-1))), (4, .int (iI 0)), (3, .int (iI (wbit 0 w 1))), (0, .ref (ma 100)), (1, .int (iI c)), (2, .int (iI w))]) [0, 1, 2, 3, 4, 5, 6] rfl ?_
      refine g_ws (ws' := mw κ ma (tst M (thk (mA M 10 (fun _ => 0))))) (by unfold thk; rw [snapF_mA (by decide)]; rfl) ?_
      exact L46 _ 0 0 (-1) (thk (mA M 10 (fun _ => 0))) rfl (by omega) rfl (by omega)
    · skip
      refine g_aload_n F 1 dX6_bestOf_27 rfl ?_
      refine g_iload_n F 0 dX6_bestOf_28 rfl ?_
      refine g_callI F (stk := [.int (iI (wbit 0 w 1)), .ref (ma 100)]) (st := []) (k_X6_refuse κ ma (mA M 10 (fun _ => 0)) (wbit 0 w 1) (by omega)) cal_X6_refuse lm_X6_138 0 rfl rfl rfl rfl (by decide) rfl (Nat.le_of_ble_eq_true rfl) dX6_bestOf_29 (fun r29 ws29 _ hr29 => ?_)
      obtain ⟨rfl, rfl⟩ := hr29
      refine g_top (y := iI (wbit 0 w 1)) rfl ?_
      refine g_ws (ws' := mw κ ma (mA (mA M 10 (fun _ => 0)) 11 (uI (M 11) (-(wbit 0 w 1)) (M 11 (-(wbit 0 w 1)) + 1)))) rfl ?_
      have hq : (wbit 0 w 1) = qBestOf (cl M) c w := by unfold qBestOf; (repeat' split) <;> omega
      exact K mw_same ⟨_, rfl, iIc hq, ⟨rfl, rfl, rfl, rfl, rfl, rfl, rfl, rfl, rfl, rfl, rfl, rfl, rfl, rfl, rfl, rfl, rfl, rfl⟩, (by rw [← hq]; exact (rfa_r (by omega)).symm)⟩ rfl dX6_bestOf_32
