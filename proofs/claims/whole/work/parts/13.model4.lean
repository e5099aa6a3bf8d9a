theorem snapF_mA {M : MS} {k : Nat} {f : Int → Int} (h : 10 ≤ k) : snapF (mA M k f) = snapF M := by
  funext z
  have e : ∀ a : Nat, a < 10 → mA M k f a = M a := fun a ha => mA_n (by omega)
  unfold snapF
  rw [e 4 (by decide), e 5 (by decide), e _ (by omega), e _ (by omega)]
def thk (M : MS) : MS := cst M 20 1 74 (snapF M) M
def agn (M M0 : MS) : MS := cst M 20 0 74 (M 20) M0
/-- the turns kept: one place down; a new one laid in -/
def shT (f : Int → Int) (k : Int) : Int → Int := fun z => if 0 ≤ z ∧ z < k - 74 then f (z + 74) else f z
def segT (f : Int → Int) (s : Int) (S : Int → Int) (k : Int) : Int → Int := fun z => if 74 * s ≤ z ∧ z < 74 * s + k then S (z - 74 * s) else f z
def khs (f : Int → Int) (tn : Int) (S : Int → Int) : Int → Int := if tn = 8 then segT (shT f 592) 7 S 74 else segT f tn S 74
def khn (tn : Int) : Int := if tn = 8 then 8 else tn + 1
def kpt (M : MS) : MS := mA (mA (cst M 27 1 74 (snapF M) M) 26 (khs (M 26) (M 28 0) (snapF M))) 28 (fun _ => khn (M 28 0))
theorem shT_0 (f : Int → Int) : f = shT f 74 := by
  funext z
  unfold shT
  rw [if_neg (by omega)]
theorem shT_s (f : Int → Int) {k : Int} (h : 74 ≤ k) : uI (shT f k) (k - 74) (f k) = shT f (k + 1) := by
  funext z
  unfold uI shT
  by_cases h1 : z = k - 74
  · subst h1; rw [if_pos rfl, if_pos (by omega)]; congr 1; omega
  · rw [if_neg h1]
    by_cases h2 : 0 ≤ z ∧ z < k - 74
    · rw [if_pos h2, if_pos (by omega)]
    · rw [if_neg h2, if_neg (by omega)]
theorem shT_at (f : Int → Int) (k : Int) : shT f k k = f k := by unfold shT; rw [if_neg (by omega)]
theorem segT_0 (f : Int → Int) (s : Int) (S : Int → Int) : f = segT f s S 0 := by
  funext z
  unfold segT
  rw [if_neg (by omega)]
theorem segT_s (f : Int → Int) (s : Int) (S : Int → Int) {k : Int} (h : 0 ≤ k) : uI (segT f s S k) (74 * s + k) (S k) = segT f s S (k + 1) := by
  funext z
  unfold uI segT
  by_cases h1 : z = 74 * s + k
  · subst h1; rw [if_pos rfl, if_pos (by omega)]; congr 1; omega
  · rw [if_neg h1]
    by_cases h2 : 74 * s ≤ z ∧ z < 74 * s + k
    · rw [if_pos h2, if_pos (by omega)]
    · rw [if_neg h2, if_neg (by omega)]
/-- the roll -/
def okR (M : MS) : Prop := (0 ≤ M 5 0 ∧ M 5 0 ≤ 6) ∧ ∀ p : Int, 0 ≤ p → p < 6 → (0 ≤ M 6 p ∧ M 6 p ≤ 5) ∧ (0 ≤ M 7 p ∧ M 7 p ≤ 9) ∧ (0 ≤ M 8 p ∧ M 8 p ≤ 99) ∧ 0 ≤ M 9 p ∧ M 9 p ≤ 1

theorem dX6_think_0 : decode cX6_think 0 = .ok (.aload_n 0, 1) := by decide +kernel
theorem dX6_think_1 : decode cX6_think 1 = .ok (.aload_n 0, 1) := by decide +kernel
theorem dX6_think_2 : decode cX6_think 2 = .ok (.getfield 49, 3) := by decide +kernel
theorem dX6_think_5 : decode cX6_think 5 = .ok (.iconst 1, 1) := by decide +kernel
theorem dX6_think_6 : decode cX6_think 6 = .ok (.invokevirtual 215, 3) := by decide +kernel
theorem dX6_think_9 : decode cX6_think 9 = .ok (.return_, 1) := by decide +kernel
set_option maxRecDepth 100000 in
set_option maxHeartbeats 4000000 in
theorem k_X6_think (κ : Kp) (ma : Nat → Nat) (M : MS)   : mV κ yX6_think cX6_think 1 2 [.ref (ma 100)] (mw κ ma M) (is0 (mw κ ma (thk M))) := by
  refine mV_of (by decide) (Nat.le_of_ble_eq_true rfl) (fun E F K => ?_)
  refine g_lv (lv' := [(0, .ref (ma 100))]) rfl ?_
  refine g_aload_n F 0 dX6_think_0 rfl ?_
  refine g_aload_n F 0 dX6_think_1 rfl ?_
  refine gm_get_20 F dX6_think_2 ?_
  refine g_iconst F dX6_think_5 ?_
  refine g_callV F (stk := [.int (iI 1), .ref (ma 20), .ref (ma 100)]) (st := []) (k_X6_carryAll_t20 κ ma M) cal_X6_carryAll lm_X6_215 0 rfl rfl rfl rfl (by decide) rfl (Nat.le_of_ble_eq_true rfl) dX6_think_6 (fun ws6 _ hr6 => ?_)
  obtain rfl := hr6
  exact K mw_same rfl dX6_think_9
theorem dX6_again_0 : decode cX6_again 0 = .ok (.aload_n 0, 1) := by decide +kernel
theorem dX6_again_1 : decode cX6_again 1 = .ok (.aload_n 0, 1) := by decide +kernel
theorem dX6_again_2 : decode cX6_again 2 = .ok (.getfield 49, 3) := by decide +kernel
theorem dX6_again_5 : decode cX6_again 5 = .ok (.iconst 0, 1) := by decide +kernel
theorem dX6_again_6 : decode cX6_again 6 = .ok (.invokevirtual 215, 3) := by decide +kernel
theorem dX6_again_9 : decode cX6_again 9 = .ok (.return_, 1) := by decide +kernel
set_option maxRecDepth 100000 in
set_option maxHeartbeats 4000000 in
theorem k_X6_again (κ : Kp) (ma : Nat → Nat) (M M0 : MS) (hS : ∀ z : Int, 0 ≤ z → z < 74 → M 20 z = snapF M0 z) : mV κ yX6_again cX6_again 1 2 [.ref (ma 100)] (mw κ ma M) (is0 (mw κ ma (agn M M0))) := by
  refine mV_of (by decide) (Nat.le_of_ble_eq_true rfl) (fun E F K => ?_)
  refine g_lv (lv' := [(0, .ref (ma 100))]) rfl ?_
  refine g_aload_n F 0 dX6_again_0 rfl ?_
  refine g_aload_n F 0 dX6_again_1 rfl ?_
  refine gm_get_20 F dX6_again_2 ?_
  refine g_iconst F dX6_again_5 ?_
  refine g_callV F (stk := [.int (iI 0), .ref (ma 20), .ref (ma 100)]) (st := []) (k_X6_carryAll_f20 κ ma M M0 hS) cal_X6_carryAll lm_X6_215 0 rfl rfl rfl rfl (by decide) rfl (Nat.le_of_ble_eq_true rfl) dX6_again_6 (fun ws6 _ hr6 => ?_)
  obtain rfl := hr6
  exact K mw_same rfl dX6_again_9
theorem dX6_keepTurn_0 : decode cX6_keepTurn 0 = .ok (.aload_n 0, 1) := by decide +kernel
theorem dX6_keepTurn_1 : decode cX6_keepTurn 1 = .ok (.getfield 200, 3) := by decide +kernel
theorem dX6_keepTurn_4 : decode cX6_keepTurn 4 = .ok (.bipush 8, 2) := by decide +kernel
theorem dX6_keepTurn_6 : decode cX6_keepTurn 6 = .ok (.if_icmp .ne 44, 3) := by decide +kernel
theorem dX6_keepTurn_9 : decode cX6_keepTurn 9 = .ok (.bipush 74, 2) := by decide +kernel
theorem dX6_keepTurn_11 : decode cX6_keepTurn 11 = .ok (.istore_n 1, 1) := by decide +kernel
theorem dX6_keepTurn_12 : decode cX6_keepTurn 12 = .ok (.iload_n 1, 1) := by decide +kernel
theorem dX6_keepTurn_13 : decode cX6_keepTurn 13 = .ok (.sipush 592, 3) := by decide +kernel
theorem dX6_keepTurn_16 : decode cX6_keepTurn 16 = .ok (.if_icmp .ge 24, 3) := by decide +kernel
theorem dX6_keepTurn_19 : decode cX6_keepTurn 19 = .ok (.aload_n 0, 1) := by decide +kernel
theorem dX6_keepTurn_20 : decode cX6_keepTurn 20 = .ok (.getfield 55, 3) := by decide +kernel
theorem dX6_keepTurn_23 : decode cX6_keepTurn 23 = .ok (.iload_n 1, 1) := by decide +kernel
theorem dX6_keepTurn_24 : decode cX6_keepTurn 24 = .ok (.bipush 74, 2) := by decide +kernel
theorem dX6_keepTurn_26 : decode cX6_keepTurn 26 = .ok (.isub, 1) := by decide +kernel
theorem dX6_keepTurn_27 : decode cX6_keepTurn 27 = .ok (.aload_n 0, 1) := by decide +kernel
theorem dX6_keepTurn_28 : decode cX6_keepTurn 28 = .ok (.getfield 55, 3) := by decide +kernel
theorem dX6_keepTurn_31 : decode cX6_keepTurn 31 = .ok (.iload_n 1, 1) := by decide +kernel
theorem dX6_keepTurn_32 : decode cX6_keepTurn 32 = .ok (.iaload, 1) := by decide +kernel
theorem dX6_keepTurn_33 : decode cX6_keepTurn 33 = .ok (.iastore, 1) := by decide +kernel
theorem dX6_keepTurn_34 : decode cX6_keepTurn 34 = .ok (.iinc 1 1, 3) := by decide +kernel
theorem dX6_keepTurn_37 : decode cX6_keepTurn 37 = .ok (.goto (-25), 3) := by decide +kernel
theorem dX6_keepTurn_40 : decode cX6_keepTurn 40 = .ok (.aload_n 0, 1) := by decide +kernel
theorem dX6_keepTurn_41 : decode cX6_keepTurn 41 = .ok (.dup, 1) := by decide +kernel
theorem dX6_keepTurn_42 : decode cX6_keepTurn 42 = .ok (.getfield 200, 3) := by decide +kernel
theorem dX6_keepTurn_45 : decode cX6_keepTurn 45 = .ok (.iconst 1, 1) := by decide +kernel
theorem dX6_keepTurn_46 : decode cX6_keepTurn 46 = .ok (.isub, 1) := by decide +kernel
theorem dX6_keepTurn_47 : decode cX6_keepTurn 47 = .ok (.putfield 200, 3) := by decide +kernel
theorem dX6_keepTurn_50 : decode cX6_keepTurn 50 = .ok (.aload_n 0, 1) := by decide +kernel
theorem dX6_keepTurn_51 : decode cX6_keepTurn 51 = .ok (.aload_n 0, 1) := by decide +kernel
theorem dX6_keepTurn_52 : decode cX6_keepTurn 52 = .ok (.getfield 58, 3) := by decide +kernel
theorem dX6_keepTurn_55 : decode cX6_keepTurn 55 = .ok (.iconst 1, 1) := by decide +kernel
theorem dX6_keepTurn_56 : decode cX6_keepTurn 56 = .ok (.invokevirtual 215, 3) := by decide +kernel
theorem dX6_keepTurn_59 : decode cX6_keepTurn 59 = .ok (.iconst 0, 1) := by decide +kernel
theorem dX6_keepTurn_60 : decode cX6_keepTurn 60 = .ok (.istore_n 1, 1) := by decide +kernel
theorem dX6_keepTurn_61 : decode cX6_keepTurn 61 = .ok (.iload_n 1, 1) := by decide +kernel
theorem dX6_keepTurn_62 : decode cX6_keepTurn 62 = .ok (.bipush 74, 2) := by decide +kernel
theorem dX6_keepTurn_64 : decode cX6_keepTurn 64 = .ok (.if_icmp .ge 29, 3) := by decide +kernel
theorem dX6_keepTurn_67 : decode cX6_keepTurn 67 = .ok (.aload_n 0, 1) := by decide +kernel
theorem dX6_keepTurn_68 : decode cX6_keepTurn 68 = .ok (.getfield 55, 3) := by decide +kernel
theorem dX6_keepTurn_71 : decode cX6_keepTurn 71 = .ok (.bipush 74, 2) := by decide +kernel
theorem dX6_keepTurn_73 : decode cX6_keepTurn 73 = .ok (.aload_n 0, 1) := by decide +kernel
theorem dX6_keepTurn_74 : decode cX6_keepTurn 74 = .ok (.getfield 200, 3) := by decide +kernel
theorem dX6_keepTurn_77 : decode cX6_keepTurn 77 = .ok (.imul, 1) := by decide +kernel
theorem dX6_keepTurn_78 : decode cX6_keepTurn 78 = .ok (.iload_n 1, 1) := by decide +kernel
theorem dX6_keepTurn_79 : decode cX6_keepTurn 79 = .ok (.iadd, 1) := by decide +kernel
theorem dX6_keepTurn_80 : decode cX6_keepTurn 80 = .ok (.aload_n 0, 1) := by decide +kernel
theorem dX6_keepTurn_81 : decode cX6_keepTurn 81 = .ok (.getfield 58, 3) := by decide +kernel
theorem dX6_keepTurn_84 : decode cX6_keepTurn 84 = .ok (.iload_n 1, 1) := by decide +kernel
theorem dX6_keepTurn_85 : decode cX6_keepTurn 85 = .ok (.iaload, 1) := by decide +kernel
theorem dX6_keepTurn_86 : decode cX6_keepTurn 86 = .ok (.iastore, 1) := by decide +kernel
theorem dX6_keepTurn_87 : decode cX6_keepTurn 87 = .ok (.iinc 1 1, 3) := by decide +kernel
theorem dX6_keepTurn_90 : decode cX6_keepTurn 90 = .ok (.goto (-29), 3) := by decide +kernel
theorem dX6_keepTurn_93 : decode cX6_keepTurn 93 = .ok (.aload_n 0, 1) := by decide +kernel
theorem dX6_keepTurn_94 : decode cX6_keepTurn 94 = .ok (.dup, 1) := by decide +kernel
theorem dX6_keepTurn_95 : decode cX6_keepTurn 95 = .ok (.getfield 200, 3) := by decide +kernel
theorem dX6_keepTurn_98 : decode cX6_keepTurn 98 = .ok (.iconst 1, 1) := by decide +kernel
theorem dX6_keepTurn_99 : decode cX6_keepTurn 99 = .ok (.iadd, 1) := by decide +kernel
theorem dX6_keepTurn_100 : decode cX6_keepTurn 100 = .ok (.putfield 200, 3) := by decide +kernel
theorem dX6_keepTurn_103 : decode cX6_keepTurn 103 = .ok (.return_, 1) := by decide +kernel
set_option maxRecDepth 100000 in
set_option maxHeartbeats 4000000 in
theorem k_X6_keepTurn_8 (κ : Kp) (ma : Nat → Nat) (M : MS) (h8 : M 28 0 = 8) : mV κ yX6_keepTurn cX6_keepTurn 2 2 [.ref (ma 100)] (mw κ ma M) (is0 (mw κ ma (kpt M))) := by
  refine mV_of (by decide) (Nat.le_of_ble_eq_true rfl) (fun E F K => ?_)
  refine g_lv (lv' := [(0, .ref (ma 100))]) rfl ?_
  refine g_aload_n F 0 dX6_keepTurn_0 rfl ?_
  refine gm_get_28 F dX6_keepTurn_1 ?_
  refine g_bipush F dX6_keepTurn_4 (by decide +kernel) ?_
  refine g_icmp_ne F 50 (by omega) dX6_keepTurn_6 (by decide) (fun c6 => ?_) (fun c6 => ?_)
  · skip
    exact absurd trivial (by omega)
  · skip
    refine g_bipush F dX6_keepTurn_9 (by decide +kernel) ?_
    refine g_istore_n F (lv' := [(1, .int (iI 74)), (0, .ref (ma 100))]) 1 dX6_keepTurn_11 rfl (by decide) rfl ?_
    have L12 : ∀ (mz12 : Nat) (k : Int) (f : Int → Int), (592 - k).toNat = mz12 → (74 ≤ k ∧ k ≤ 592) → (f = shT (M 26) k) → G E (mw κ ma (mA M 26 f)) [(1, .int (iI k)), (0, .ref (ma 100))] 12 [] := by
      intro mz12
      induction mz12 using Nat.strongRecOn with
      | _ mz12 ih12 =>
      intro k f hmz12 hk hf
      refine g_iload_n F 0 dX6_keepTurn_12 rfl ?_
      refine g_sipush F dX6_keepTurn_13 (by decide +kernel) ?_
      refine g_icmp_ge F 40 (by omega) dX6_keepTurn_16 (by decide) (fun c16 => ?_) (fun c16 => ?_)
      · skip
        refine g_aload_n F 1 dX6_keepTurn_40 rfl ?_
        refine g_dup F dX6_keepTurn_41 rfl ?_
        refine gm_get_28 F dX6_keepTurn_42 ?_
        refine g_top (y := iI (M 28 0)) rfl ?_
        refine g_iconst F dX6_keepTurn_45 ?_
        refine g_isub F dX6_keepTurn_46 ?_
        refine gm_put_28 F dX6_keepTurn_47 ?_
        refine g_ws (ws' := mw κ ma (mA (mA M 26 (shT (M 26) 592)) 28 (fun _ => 7))) (by rw [hf, show k = 592 by omega, h8]; rfl) ?_
        refine g_aload_n F 1 dX6_keepTurn_50 rfl ?_
        refine g_aload_n F 1 dX6_keepTurn_51 rfl ?_
        refine gm_get_27 F dX6_keepTurn_52 ?_
        refine g_iconst F dX6_keepTurn_55 ?_
        refine g_callV F (stk := [.int (iI 1), .ref (ma 27), .ref (ma 100)]) (st := []) (k_X6_carryAll_t27 κ ma (mA (mA M 26 (shT (M 26) 592)) 28 (fun _ => 7))) cal_X6_carryAll lm_X6_215 0 rfl rfl rfl rfl (by decide) rfl (Nat.le_of_ble_eq_true rfl) dX6_keepTurn_56 (fun ws56 _ hr56 => ?_)
        obtain rfl := hr56
        refine g_ws (ws' := mw κ ma (cst (mA (mA M 26 (shT (M 26) 592)) 28 (fun _ => 7)) 27 1 74 (snapF M) (mA (mA M 26 (shT (M 26) 592)) 28 (fun _ => 7)))) (by rw [snapF_mA (by decide), snapF_mA (by decide)]) ?_
        refine g_iconst F dX6_keepTurn_59 ?_
        refine g_istore_n F (lv' := [(1, .int (iI 0)), (0, .ref (ma 100))]) 1 dX6_keepTurn_60 rfl (by decide) rfl ?_
        have L61 : ∀ (mz61 : Nat) (j : Int) (g : Int → Int), (74 - j).toNat = mz61 → (0 ≤ j ∧ j ≤ 74) → (g = segT (shT (M 26) 592) (7) (snapF M) j) → G E (mw κ ma (mA (cst (mA (mA M 26 (shT (M 26) 592)) 28 (fun _ => 7)) 27 1 74 (snapF M) (mA (mA M 26 (shT (M 26) 592)) 28 (fun _ => 7))) 26 g)) [(1, .int (iI j)), (0, .ref (ma 100))] 61 [] := by
          intro mz61
          induction mz61 using Nat.strongRecOn with
          | _ mz61 ih61 =>
          intro j g hmz61 hj hg
          refine g_iload_n F 0 dX6_keepTurn_61 rfl ?_
          refine g_bipush F dX6_keepTurn_62 (by decide +kernel) ?_
          refine g_icmp_ge F 93 (by omega) dX6_keepTurn_64 (by decide) (fun c64 => ?_) (fun c64 => ?_)
          · skip
            refine g_aload_n F 1 dX6_keepTurn_93 rfl ?_
            refine g_dup F dX6_keepTurn_94 rfl ?_
            refine gm_get_28 F dX6_keepTurn_95 ?_
            refine g_top (y := iI 7) rfl ?_
            refine g_iconst F dX6_keepTurn_98 ?_
            refine g_iadd F dX6_keepTurn_99 ?_
            refine gm_put_28 F dX6_keepTurn_100 ?_
            refine g_ws (ws' := mw κ ma (kpt M)) (by rw [hg, show j = 74 by omega]; unfold kpt khs khn; rw [h8, if_pos rfl, if_pos rfl]; rfl) ?_
            exact K mw_same rfl dX6_keepTurn_103
          · skip
            refine g_aload_n F 1 dX6_keepTurn_67 rfl ?_
            refine gm_get_26 F dX6_keepTurn_68 ?_
            refine g_bipush F dX6_keepTurn_71 (by decide +kernel) ?_
            refine g_aload_n F 1 dX6_keepTurn_73 rfl ?_
            refine gm_get_28 F dX6_keepTurn_74 ?_
            refine g_top (y := iI 7) rfl ?_
            refine g_imul F dX6_keepTurn_77 ?_
            refine g_iload_n F 0 dX6_keepTurn_78 rfl ?_
            refine g_iadd F dX6_keepTurn_79 ?_
            refine g_aload_n F 1 dX6_keepTurn_80 rfl ?_
            refine gm_get_27 F dX6_keepTurn_81 ?_
            refine g_iload_n F 0 dX6_keepTurn_84 rfl ?_
            refine gm_ald_27 F (by omega) dX6_keepTurn_85 ?_
            refine g_top (y := iI ((snapF M) j)) rfl ?_
            refine gm_astS_26 F (by omega) dX6_keepTurn_86 ?_
            refine g_iinc F (lv' := [(1, .int (iI (j + 1))), (0, .ref (ma 100))]) 0 dX6_keepTurn_87 rfl (by decide) rfl ?_
            refine g_goto F 61 dX6_keepTurn_90 (by decide) ?_
            refine g_sub F (lv' := [(1, .int (iI (j + 1))), (0, .ref (ma 100))]) [0, 1] rfl ?_
            exact ih61 _ (by omega) (j + 1) (uI g ((74 * 7) + j) ((snapF M) j)) rfl (by omega) (by rw [hg, segT_s _ _ _ hj.1])
        refine g_sub F (lv' := [(1, .int (iI 0)), (0, .ref (ma 100))]) [0, 1] rfl ?_
        refine g_ws (ws' := mw κ ma (mA (cst (mA (mA M 26 (shT (M 26) 592)) 28 (fun _ => 7)) 27 1 74 (snapF M) (mA (mA M 26 (shT (M 26) 592)) 28 (fun _ => 7))) 26 (shT (M 26) 592))) rfl ?_
        exact L61 _ 0 (shT (M 26) 592) rfl (by omega) (segT_0 _ _ _)
      · skip
        refine g_aload_n F 1 dX6_keepTurn_19 rfl ?_
        refine gm_get_26 F dX6_keepTurn_20 ?_
        refine g_iload_n F 0 dX6_keepTurn_23 rfl ?_
        refine g_bipush F dX6_keepTurn_24 (by decide +kernel) ?_
        refine g_isub F dX6_keepTurn_26 ?_
        refine g_aload_n F 1 dX6_keepTurn_27 rfl ?_
        refine gm_get_26 F dX6_keepTurn_28 ?_
        refine g_iload_n F 0 dX6_keepTurn_31 rfl ?_
        refine gm_ald_26 F (by omega) dX6_keepTurn_32 ?_
        refine g_top (y := iI (f k)) rfl ?_
        refine g_top (y := iI (M 26 k)) (iIc (by rw [hf, shT_at])) ?_
        refine gm_astS_26 F (by omega) dX6_keepTurn_33 ?_
        refine g_iinc F (lv' := [(1, .int (iI (k + 1))), (0, .ref (ma 100))]) 0 dX6_keepTurn_34 rfl (by decide) rfl ?_
        refine g_goto F 12 dX6_keepTurn_37 (by decide) ?_
        refine g_sub F (lv' := [(1, .int (iI (k + 1))), (0, .ref (ma 100))]) [0, 1] rfl ?_
        exact ih12 _ (by omega) (k + 1) (uI f (k - 74) (M 26 k)) rfl (by omega) (by rw [hf, shT_s _ hk.1])
    refine g_sub F (lv' := [(1, .int (iI 74)), (0, .ref (ma 100))]) [0, 1] rfl ?_
    refine g_ws (ws' := mw κ ma (mA M 26 (M 26))) rfl ?_
    exact L12 _ 74 (M 26) rfl (by omega) (shT_0 _)
set_option maxRecDepth 100000 in
set_option maxHeartbeats 4000000 in
theorem k_X6_keepTurn_n (κ : Kp) (ma : Nat → Nat) (M : MS) (h8 : 0 ≤ M 28 0 ∧ M 28 0 < 8) : mV κ yX6_keepTurn cX6_keepTurn 2 2 [.ref (ma 100)] (mw κ ma M) (is0 (mw κ ma (kpt M))) := by
  refine mV_of (by decide) (Nat.le_of_ble_eq_true rfl) (fun E F K => ?_)
  refine g_lv (lv' := [(0, .ref (ma 100))]) rfl ?_
  refine g_aload_n F 0 dX6_keepTurn_0 rfl ?_
  refine gm_get_28 F dX6_keepTurn_1 ?_
  refine g_bipush F dX6_keepTurn_4 (by decide +kernel) ?_
  refine g_icmp_ne F 50 (by omega) dX6_keepTurn_6 (by decide) (fun c6 => ?_) (fun c6 => ?_)
  · skip
    refine g_aload_n F 0 dX6_keepTurn_50 rfl ?_
    refine g_aload_n F 0 dX6_keepTurn_51 rfl ?_
    refine gm_get_27 F dX6_keepTurn_52 ?_
    refine g_iconst F dX6_keepTurn_55 ?_
    refine g_callV F (stk := [.int (iI 1), .ref (ma 27), .ref (ma 100)]) (st := []) (k_X6_carryAll_t27 κ ma M) cal_X6_carryAll lm_X6_215 0 rfl rfl rfl rfl (by decide) rfl (Nat.le_of_ble_eq_true rfl) dX6_keepTurn_56 (fun ws56 _ hr56 => ?_)
    obtain rfl := hr56
    refine g_iconst F dX6_keepTurn_59 ?_
    refine g_istore_n F (lv' := [(1, .int (iI 0)), (0, .ref (ma 100))]) 1 dX6_keepTurn_60 rfl (by decide) rfl ?_
    have L61 : ∀ (mz61 : Nat) (j : Int) (g : Int → Int), (74 - j).toNat = mz61 → (0 ≤ j ∧ j ≤ 74) → (g = segT (M 26) (M 28 0) (snapF M) j) → G E (mw κ ma (mA (cst M 27 1 74 (snapF M) M) 26 g)) [(1, .int (iI j)), (0, .ref (ma 100))] 61 [] := by
      intro mz61
      induction mz61 using Nat.strongRecOn with
      | _ mz61 ih61 =>
      intro j g hmz61 hj hg
      refine g_iload_n F 0 dX6_keepTurn_61 rfl ?_
      refine g_bipush F dX6_keepTurn_62 (by decide +kernel) ?_
      refine g_icmp_ge F 93 (by omega) dX6_keepTurn_64 (by decide) (fun c64 => ?_) (fun c64 => ?_)
      · skip
        refine g_aload_n F 1 dX6_keepTurn_93 rfl ?_
        refine g_dup F dX6_keepTurn_94 rfl ?_
        refine gm_get_28 F dX6_keepTurn_95 ?_
        refine g_top (y := iI (M 28 0)) rfl ?_
        refine g_iconst F dX6_keepTurn_98 ?_
        refine g_iadd F dX6_keepTurn_99 ?_
        refine gm_put_28 F dX6_keepTurn_100 ?_
        refine g_ws (ws' := mw κ ma (kpt M)) (by rw [hg, show j = 74 by omega]; unfold kpt khs khn; rw [if_neg (by omega), if_neg (by omega)]) ?_
        exact K mw_same rfl dX6_keepTurn_103
      · skip
        refine g_aload_n F 1 dX6_keepTurn_67 rfl ?_
        refine gm_get_26 F dX6_keepTurn_68 ?_
        refine g_bipush F dX6_keepTurn_71 (by decide +kernel) ?_
        refine g_aload_n F 1 dX6_keepTurn_73 rfl ?_
        refine gm_get_28 F dX6_keepTurn_74 ?_
        refine g_top (y := iI (M 28 0)) rfl ?_
        refine g_imul F dX6_keepTurn_77 ?_
        refine g_iload_n F 0 dX6_keepTurn_78 rfl ?_
        refine g_iadd F dX6_keepTurn_79 ?_
        refine g_aload_n F 1 dX6_keepTurn_80 rfl ?_
        refine gm_get_27 F dX6_keepTurn_81 ?_
        refine g_iload_n F 0 dX6_keepTurn_84 rfl ?_
        refine gm_ald_27 F (by omega) dX6_keepTurn_85 ?_
        refine g_top (y := iI ((snapF M) j)) rfl ?_
        refine gm_astS_26 F (by omega) dX6_keepTurn_86 ?_
        refine g_iinc F (lv' := [(1, .int (iI (j + 1))), (0, .ref (ma 100))]) 0 dX6_keepTurn_87 rfl (by decide) rfl ?_
        refine g_goto F 61 dX6_keepTurn_90 (by decide) ?_
        refine g_sub F (lv' := [(1, .int (iI (j + 1))), (0, .ref (ma 100))]) [0, 1] rfl ?_
        exact ih61 _ (by omega) (j + 1) (uI g ((74 * (M 28 0)) + j) ((snapF M) j)) rfl (by omega) (by rw [hg, segT_s _ _ _ hj.1])
    refine g_sub F (lv' := [(1, .int (iI 0)), (0, .ref (ma 100))]) [0, 1] rfl ?_
    refine g_ws (ws' := mw κ ma (mA (cst M 27 1 74 (snapF M) M) 26 (M 26))) rfl ?_
    exact L61 _ 0 (M 26) rfl (by omega) (segT_0 _ _ _)
  · skip
    exact absurd trivial (by omega)
theorem k_X6_keepTurn (κ : Kp) (ma : Nat → Nat) (M : MS) (h : 0 ≤ M 28 0 ∧ M 28 0 ≤ 8) : mV κ yX6_keepTurn cX6_keepTurn 2 2 [.ref (ma 100)] (mw κ ma M) (is0 (mw κ ma (kpt M))) := by
  by_cases h8 : M 28 0 = 8
  · exact k_X6_keepTurn_8 κ ma M h8
  · exact k_X6_keepTurn_n κ ma M (by omega)
theorem dX6_layLasts_0 : decode cX6_layLasts 0 = .ok (.iconst 0, 1) := by decide +kernel
theorem dX6_layLasts_1 : decode cX6_layLasts 1 = .ok (.istore_n 1, 1) := by decide +kernel
theorem dX6_layLasts_2 : decode cX6_layLasts 2 = .ok (.iload_n 1, 1) := by decide +kernel
theorem dX6_layLasts_3 : decode cX6_layLasts 3 = .ok (.bipush 12, 2) := by decide +kernel
theorem dX6_layLasts_5 : decode cX6_layLasts 5 = .ok (.if_icmp .ge 17, 3) := by decide +kernel
theorem dX6_layLasts_8 : decode cX6_layLasts 8 = .ok (.aload_n 0, 1) := by decide +kernel
theorem dX6_layLasts_9 : decode cX6_layLasts 9 = .ok (.getfield 61, 3) := by decide +kernel
theorem dX6_layLasts_12 : decode cX6_layLasts 12 = .ok (.iload_n 1, 1) := by decide +kernel
theorem dX6_layLasts_13 : decode cX6_layLasts 13 = .ok (.bipush 61, 2) := by decide +kernel
theorem dX6_layLasts_15 : decode cX6_layLasts 15 = .ok (.iastore, 1) := by decide +kernel
theorem dX6_layLasts_16 : decode cX6_layLasts 16 = .ok (.iinc 1 1, 3) := by decide +kernel
theorem dX6_layLasts_19 : decode cX6_layLasts 19 = .ok (.goto (-17), 3) := by decide +kernel
theorem dX6_layLasts_22 : decode cX6_layLasts 22 = .ok (.iconst 0, 1) := by decide +kernel
theorem dX6_layLasts_23 : decode cX6_layLasts 23 = .ok (.istore_n 1, 1) := by decide +kernel
theorem dX6_layLasts_24 : decode cX6_layLasts 24 = .ok (.iload_n 1, 1) := by decide +kernel
theorem dX6_layLasts_25 : decode cX6_layLasts 25 = .ok (.bipush 60, 2) := by decide +kernel
theorem dX6_layLasts_27 : decode cX6_layLasts 27 = .ok (.if_icmp .gt 62, 3) := by decide +kernel
theorem dX6_layLasts_30 : decode cX6_layLasts 30 = .ok (.iconst 0, 1) := by decide +kernel
theorem dX6_layLasts_31 : decode cX6_layLasts 31 = .ok (.istore_n 2, 1) := by decide +kernel
theorem dX6_layLasts_32 : decode cX6_layLasts 32 = .ok (.iload_n 2, 1) := by decide +kernel
theorem dX6_layLasts_33 : decode cX6_layLasts 33 = .ok (.bipush 12, 2) := by decide +kernel
theorem dX6_layLasts_35 : decode cX6_layLasts 35 = .ok (.if_icmp .ge 44, 3) := by decide +kernel
theorem dX6_layLasts_38 : decode cX6_layLasts 38 = .ok (.aload_n 0, 1) := by decide +kernel
theorem dX6_layLasts_39 : decode cX6_layLasts 39 = .ok (.getfield 61, 3) := by decide +kernel
theorem dX6_layLasts_42 : decode cX6_layLasts 42 = .ok (.iload_n 2, 1) := by decide +kernel
theorem dX6_layLasts_43 : decode cX6_layLasts 43 = .ok (.aload_n 0, 1) := by decide +kernel
theorem dX6_layLasts_44 : decode cX6_layLasts 44 = .ok (.iload_n 2, 1) := by decide +kernel
theorem dX6_layLasts_45 : decode cX6_layLasts 45 = .ok (.invokevirtual 121, 3) := by decide +kernel
theorem dX6_layLasts_48 : decode cX6_layLasts 48 = .ok (.ifCond .eq 18, 3) := by decide +kernel
theorem dX6_layLasts_51 : decode cX6_layLasts 51 = .ok (.aload_n 0, 1) := by decide +kernel
theorem dX6_layLasts_52 : decode cX6_layLasts 52 = .ok (.getfield 61, 3) := by decide +kernel
theorem dX6_layLasts_55 : decode cX6_layLasts 55 = .ok (.iload_n 2, 1) := by decide +kernel
theorem dX6_layLasts_56 : decode cX6_layLasts 56 = .ok (.iaload, 1) := by decide +kernel
theorem dX6_layLasts_57 : decode cX6_layLasts 57 = .ok (.bipush 61, 2) := by decide +kernel
theorem dX6_layLasts_59 : decode cX6_layLasts 59 = .ok (.if_icmp .ne 7, 3) := by decide +kernel
theorem dX6_layLasts_62 : decode cX6_layLasts 62 = .ok (.iload_n 1, 1) := by decide +kernel
theorem dX6_layLasts_63 : decode cX6_layLasts 63 = .ok (.goto 9, 3) := by decide +kernel
theorem dX6_layLasts_66 : decode cX6_layLasts 66 = .ok (.aload_n 0, 1) := by decide +kernel
theorem dX6_layLasts_67 : decode cX6_layLasts 67 = .ok (.getfield 61, 3) := by decide +kernel
theorem dX6_layLasts_70 : decode cX6_layLasts 70 = .ok (.iload_n 2, 1) := by decide +kernel
theorem dX6_layLasts_71 : decode cX6_layLasts 71 = .ok (.iaload, 1) := by decide +kernel
theorem dX6_layLasts_72 : decode cX6_layLasts 72 = .ok (.iastore, 1) := by decide +kernel
theorem dX6_layLasts_73 : decode cX6_layLasts 73 = .ok (.iinc 2 1, 3) := by decide +kernel
theorem dX6_layLasts_76 : decode cX6_layLasts 76 = .ok (.goto (-44), 3) := by decide +kernel
theorem dX6_layLasts_79 : decode cX6_layLasts 79 = .ok (.aload_n 0, 1) := by decide +kernel
theorem dX6_layLasts_80 : decode cX6_layLasts 80 = .ok (.invokevirtual 131, 3) := by decide +kernel
theorem dX6_layLasts_83 : decode cX6_layLasts 83 = .ok (.iinc 1 1, 3) := by decide +kernel
theorem dX6_layLasts_86 : decode cX6_layLasts 86 = .ok (.goto (-62), 3) := by decide +kernel
theorem dX6_layLasts_89 : decode cX6_layLasts 89 = .ok (.return_, 1) := by decide +kernel
set_option maxRecDepth 100000 in
set_option maxHeartbeats 4000000 in
theorem k_X6_layLasts (κ : Kp) (ma : Nat → Nat) (M : MS)  (hy : M 4 0 ≤ 990000) (ok : okC (cl M)) : mV κ yX6_layLasts cX6_layLasts 3 4 [.ref (ma 100)] (mw κ ma M) (is0 (mw κ ma (mA (stC M (goI 61 (cl M))) 29 (lasts (cl M))))) := by
  refine mV_of (by decide) (Nat.le_of_ble_eq_true rfl) (fun E F K => ?_)
  refine g_lv (lv' := [(0, .ref (ma 100))]) rfl ?_
  refine g_iconst F dX6_layLasts_0 ?_
  refine g_istore_n F (lv' := [(1, .int (iI 0)), (0, .ref (ma 100))]) 1 dX6_layLasts_1 rfl (by decide) rfl ?_
  have L2 : ∀ (mz2 : Nat) (i : Int) (f : Int → Int), (12 - i).toNat = mz2 → (0 ≤ i ∧ i ≤ 12) → (f = upTo (M 29) (lsI (cl M) 0) i) → G E (mw κ ma (mA M 29 f)) [(1, .int (iI i)), (0, .ref (ma 100))] 2 [] := by
    intro mz2
    induction mz2 using Nat.strongRecOn with
    | _ mz2 ih2 =>
    intro i f hmz2 hi hf
    refine g_iload_n F 0 dX6_layLasts_2 rfl ?_
    refine g_bipush F dX6_layLasts_3 (by decide +kernel) ?_
    refine g_icmp_ge F 22 (by omega) dX6_layLasts_5 (by decide) (fun c5 => ?_) (fun c5 => ?_)
    · skip
      refine g_iconst F dX6_layLasts_22 ?_
      refine g_istore_n F (lv' := [(1, .int (iI 0)), (0, .ref (ma 100))]) 1 dX6_layLasts_23 rfl (by decide) rfl ?_
      have L24 : ∀ (mz24 : Nat) (y : Int) (g : Int → Int), (61 - y).toNat = mz24 → (0 ≤ y ∧ y ≤ 61) → (g = upTo (M 29) (lsI (cl M) y) 12) → G E (mw κ ma (mA (stC M (goI y (cl M))) 29 g)) [(1, .int (iI y)), (0, .ref (ma 100))] 24 [] := by
        intro mz24
        induction mz24 using Nat.strongRecOn with
        | _ mz24 ih24 =>
        intro y g hmz24 hy2 hg
        refine g_iload_n F 0 dX6_layLasts_24 rfl ?_
        refine g_bipush F dX6_layLasts_25 (by decide +kernel) ?_
        refine g_icmp_gt F 89 (by omega) dX6_layLasts_27 (by decide) (fun c27 => ?_) (fun c27 => ?_)
        · skip
          refine gm_weq_29 (g := lasts (cl M)) (fun j a b => by rw [hg, show y = 61 by omega]; exact upTo_in a b) ?_
          exact K mw_same (by rw [show y = 61 by omega]) dX6_layLasts_89
        · skip
          refine g_iconst F dX6_layLasts_30 ?_
          refine g_istore_n F (lv' := [(2, .int (iI 0)), (1, .int (iI y)), (0, .ref (ma 100))]) 2 dX6_layLasts_31 rfl (by decide) rfl ?_
          have L32 : ∀ (mz32 : Nat) (c : Int) (h : Int → Int), (12 - c).toNat = mz32 → (0 ≤ c ∧ c ≤ 12) → (h = upTo g (lsI (cl M) (y + 1)) c) → G E (mw κ ma (mA (stC M (goI y (cl M))) 29 h)) [(2, .int (iI c)), (1, .int (iI y)), (0, .ref (ma 100))] 32 [] := by
            intro mz32
            induction mz32 using Nat.strongRecOn with
            | _ mz32 ih32 =>
            intro c h hmz32 hc hh
            refine g_iload_n F 0 dX6_layLasts_32 rfl ?_
            refine g_bipush F dX6_layLasts_33 (by decide +kernel) ?_
            refine g_icmp_ge F 79 (by omega) dX6_layLasts_35 (by decide) (fun c35 => ?_) (fun c35 => ?_)
            · skip
              refine g_aload_n F 2 dX6_layLasts_79 rfl ?_
              refine g_callV F (stk := [.ref (ma 100)]) (st := []) (k_X6_yearOn κ ma (mA (stC M (goI y (cl M))) 29 h) (goI_yrM hy2.1 (by omega)) (goI_ok ok y)) cal_X6_yearOn lm_X6_131 0 rfl rfl rfl rfl (by decide) rfl (Nat.le_of_ble_eq_true rfl) dX6_layLasts_80 (fun ws80 _ hr80 => ?_)
              obtain rfl := hr80
              refine g_ws (ws' := mw κ ma (stC (mA (stC M (goI y (cl M))) 29 h) (yearOn (cl (mA (stC M (goI y (cl M))) 29 h))))) rfl ?_
              refine g_iinc F (lv' := [(1, .int (iI (y + 1))), (2, .int (iI c)), (0, .ref (ma 100))]) 1 dX6_layLasts_83 rfl (by decide) rfl ?_
              refine g_goto F 24 dX6_layLasts_86 (by decide) ?_
              refine g_sub F (lv' := [(1, .int (iI (y + 1))), (0, .ref (ma 100))]) [0, 2] rfl ?_
              refine g_ws (ws' := mw κ ma (mA (stC M (goI (y + 1) (cl M))) 29 h)) (by rw [goI_s hy2.1]; rfl) ?_
              exact ih24 _ (by omega) (y + 1) h rfl (by omega) (by rw [hh, show c = 12 by omega, hg, upTo_upTo])
            · skip
              refine g_aload_n F 2 dX6_layLasts_38 rfl ?_
              refine gm_get_29 F dX6_layLasts_39 ?_
              refine g_iload_n F 0 dX6_layLasts_42 rfl ?_
              refine g_aload_n F 2 dX6_layLasts_43 rfl ?_
              refine g_iload_n F 0 dX6_layLasts_44 rfl ?_
              refine g_callI F (stk := [.int (iI c), .ref (ma 100), .int (iI c), .ref (ma 29)]) (st := [.int (iI c), .ref (ma 29)]) (k_X6_isHole κ ma (mA (stC M (goI y (cl M))) 29 h) c (by omega) (goI_ok ok y)) cal_X6_isHole lm_X6_121 0 rfl rfl rfl rfl (by decide) rfl (Nat.le_of_ble_eq_true rfl) dX6_layLasts_45 (fun r45 ws45 _ hr45 => ?_)
              obtain ⟨rfl, rfl⟩ := hr45
              refine g_top (y := iI (b2i (hole (cl (mA (stC M (goI y (cl M))) 29 h)) c))) rfl ?_
              refine g_if_eq F 66 (b2i_in _) dX6_layLasts_48 (by decide) (fun c48 => ?_) (fun c48 => ?_)
              · skip
                have c48 : ¬ (hole (cl (mA (stC M (goI y (cl M))) 29 h)) c) := b2i_f c48
                have c48 : ¬ hole (goI y (cl M)) c := c48
                refine g_aload_n F 2 dX6_layLasts_66 rfl ?_
                refine gm_get_29 F dX6_layLasts_67 ?_
                refine g_iload_n F 0 dX6_layLasts_70 rfl ?_
                refine gm_ald_29 F (by omega) dX6_layLasts_71 ?_
                refine g_top (y := iI (h c)) rfl ?_
                refine g_top (y := iI (lsI (cl M) y c)) (iIc (by rw [hh, upTo_out (by omega), hg]; exact upTo_in (by omega) (by omega))) ?_
                refine gm_astS_29 F (by omega) dX6_layLasts_72 ?_
                refine g_iinc F (lv' := [(2, .int (iI (c + 1))), (1, .int (iI y)), (0, .ref (ma 100))]) 0 dX6_layLasts_73 rfl (by decide) rfl ?_
                refine g_goto F 32 dX6_layLasts_76 (by decide) ?_
                refine g_sub F (lv' := [(2, .int (iI (c + 1))), (1, .int (iI y)), (0, .ref (ma 100))]) [0, 1, 2] rfl ?_
                exact ih32 _ (by omega) (c + 1) (uI h c (lsI (cl M) y c)) rfl (by omega) (by rw [hh, ← upTo_s _ _ hc.1]; congr 1; rw [lsI_s _ hy2.1]; split <;> omega)
              · skip
                have c48 : hole (cl (mA (stC M (goI y (cl M))) 29 h)) c := b2i_t c48
                have c48 : hole (goI y (cl M)) c := c48
                refine g_aload_n F 2 dX6_layLasts_51 rfl ?_
                refine gm_get_29 F dX6_layLasts_52 ?_
                refine g_iload_n F 0 dX6_layLasts_55 rfl ?_
                refine gm_ald_29 F (by omega) dX6_layLasts_56 ?_
                refine g_top (y := iI (h c)) rfl ?_
                refine g_top (y := iI (lsI (cl M) y c)) (iIc (by rw [hh, upTo_out (by omega), hg]; exact upTo_in (by omega) (by omega))) ?_
                have hls := lsI_bd (cl M) hy2.1 hy2.2 c
                refine g_bipush F dX6_layLasts_57 (by decide +kernel) ?_
                refine g_icmp_ne F 66 (by omega) dX6_layLasts_59 (by decide) (fun c59 => ?_) (fun c59 => ?_)
                · skip
                  refine g_aload_n F 2 dX6_layLasts_66 rfl ?_
                  refine gm_get_29 F dX6_layLasts_67 ?_
                  refine g_iload_n F 0 dX6_layLasts_70 rfl ?_
                  refine gm_ald_29 F (by omega) dX6_layLasts_71 ?_
                  refine g_top (y := iI (h c)) rfl ?_
                  refine g_top (y := iI (lsI (cl M) y c)) (iIc (by rw [hh, upTo_out (by omega), hg]; exact upTo_in (by omega) (by omega))) ?_
                  refine gm_astS_29 F (by omega) dX6_layLasts_72 ?_
                  refine g_iinc F (lv' := [(2, .int (iI (c + 1))), (1, .int (iI y)), (0, .ref (ma 100))]) 0 dX6_layLasts_73 rfl (by decide) rfl ?_
                  refine g_goto F 32 dX6_layLasts_76 (by decide) ?_
                  refine g_sub F (lv' := [(2, .int (iI (c + 1))), (1, .int (iI y)), (0, .ref (ma 100))]) [0, 1, 2] rfl ?_
                  exact ih32 _ (by omega) (c + 1) (uI h c (lsI (cl M) y c)) rfl (by omega) (by rw [hh, ← upTo_s _ _ hc.1]; congr 1; rw [lsI_s _ hy2.1]; split <;> omega)
                · skip
                  refine g_iload_n F 1 dX6_layLasts_62 rfl ?_
                  refine g_goto F 72 dX6_layLasts_63 (by decide) ?_
                  refine gm_astS_29 F (by omega) dX6_layLasts_72 ?_
                  refine g_iinc F (lv' := [(2, .int (iI (c + 1))), (1, .int (iI y)), (0, .ref (ma 100))]) 0 dX6_layLasts_73 rfl (by decide) rfl ?_
                  refine g_goto F 32 dX6_layLasts_76 (by decide) ?_
                  refine g_sub F (lv' := [(2, .int (iI (c + 1))), (1, .int (iI y)), (0, .ref (ma 100))]) [0, 1, 2] rfl ?_
                  exact ih32 _ (by omega) (c + 1) (uI h c y) rfl (by omega) (by rw [hh, ← upTo_s _ _ hc.1]; congr 1; rw [lsI_s _ hy2.1]; split <;> omega)
          refine g_sub F (lv' := [(2, .int (iI 0)), (1, .int (iI y)), (0, .ref (ma 100))]) [0, 1, 2] rfl ?_
          exact L32 _ 0 g rfl (by omega) (upTo_0 _ _).symm
      refine g_sub F (lv' := [(1, .int (iI 0)), (0, .ref (ma 100))]) [0, 1] rfl ?_
      refine g_ws (ws' := mw κ ma (mA (stC M (goI 0 (cl M))) 29 f)) rfl ?_
      exact L24 _ 0 f rfl (by omega) (by rw [hf, show i = 12 by omega])
    · skip
      refine g_aload_n F 1 dX6_layLasts_8 rfl ?_
      refine gm_get_29 F dX6_layLasts_9 ?_
      refine g_iload_n F 0 dX6_layLasts_12 rfl ?_
      refine g_bipush F dX6_layLasts_13 (by decide +kernel) ?_
      refine gm_astS_29 F (by omega) dX6_layLasts_15 ?_
      refine g_iinc F (lv' := [(1, .int (iI (i + 1))), (0, .ref (ma 100))]) 0 dX6_layLasts_16 rfl (by decide) rfl ?_
      refine g_goto F 2 dX6_layLasts_19 (by decide) ?_
      refine g_sub F (lv' := [(1, .int (iI (i + 1))), (0, .ref (ma 100))]) [0, 1] rfl ?_
      exact ih2 _ (by omega) (i + 1) (uI f i 61) rfl (by omega) (by rw [hf, ← upTo_s _ _ hi.1]; rfl)
  refine g_sub F (lv' := [(1, .int (iI 0)), (0, .ref (ma 100))]) [0, 1] rfl ?_
  refine g_ws (ws' := mw κ ma (mA M 29 (M 29))) rfl ?_
  exact L2 _ 0 (M 29) rfl (by omega) (upTo_0 _ _).symm
theorem dX6_firstOf_0 : decode cX6_firstOf 0 = .ok (.iconst 0, 1) := by decide +kernel
theorem dX6_firstOf_1 : decode cX6_firstOf 1 = .ok (.istore_n 1, 1) := by decide +kernel
theorem dX6_firstOf_2 : decode cX6_firstOf 2 = .ok (.iconst 1, 1) := by decide +kernel
theorem dX6_firstOf_3 : decode cX6_firstOf 3 = .ok (.istore_n 2, 1) := by decide +kernel
theorem dX6_firstOf_4 : decode cX6_firstOf 4 = .ok (.iload_n 2, 1) := by decide +kernel
theorem dX6_firstOf_5 : decode cX6_firstOf 5 = .ok (.bipush 12, 2) := by decide +kernel
theorem dX6_firstOf_7 : decode cX6_firstOf 7 = .ok (.if_icmp .ge 30, 3) := by decide +kernel
theorem dX6_firstOf_10 : decode cX6_firstOf 10 = .ok (.aload_n 0, 1) := by decide +kernel
theorem dX6_firstOf_11 : decode cX6_firstOf 11 = .ok (.getfield 61, 3) := by decide +kernel
theorem dX6_firstOf_14 : decode cX6_firstOf 14 = .ok (.iload_n 2, 1) := by decide +kernel
theorem dX6_firstOf_15 : decode cX6_firstOf 15 = .ok (.iaload, 1) := by decide +kernel
theorem dX6_firstOf_16 : decode cX6_firstOf 16 = .ok (.aload_n 0, 1) := by decide +kernel
theorem dX6_firstOf_17 : decode cX6_firstOf 17 = .ok (.getfield 61, 3) := by decide +kernel
theorem dX6_firstOf_20 : decode cX6_firstOf 20 = .ok (.iload_n 1, 1) := by decide +kernel
theorem dX6_firstOf_21 : decode cX6_firstOf 21 = .ok (.iaload, 1) := by decide +kernel
theorem dX6_firstOf_22 : decode cX6_firstOf 22 = .ok (.if_icmp .ge 7, 3) := by decide +kernel
theorem dX6_firstOf_25 : decode cX6_firstOf 25 = .ok (.iload_n 2, 1) := by decide +kernel
theorem dX6_firstOf_26 : decode cX6_firstOf 26 = .ok (.goto 4, 3) := by decide +kernel
theorem dX6_firstOf_29 : decode cX6_firstOf 29 = .ok (.iload_n 1, 1) := by decide +kernel
theorem dX6_firstOf_30 : decode cX6_firstOf 30 = .ok (.istore_n 1, 1) := by decide +kernel
theorem dX6_firstOf_31 : decode cX6_firstOf 31 = .ok (.iinc 2 1, 3) := by decide +kernel
theorem dX6_firstOf_34 : decode cX6_firstOf 34 = .ok (.goto (-30), 3) := by decide +kernel
theorem dX6_firstOf_37 : decode cX6_firstOf 37 = .ok (.iload_n 1, 1) := by decide +kernel
theorem dX6_firstOf_38 : decode cX6_firstOf 38 = .ok (.ireturn, 1) := by decide +kernel
set_option maxRecDepth 100000 in
set_option maxHeartbeats 4000000 in
theorem k_X6_firstOf (κ : Kp) (ma : Nat → Nat) (M : MS)  (hr : ∀ j : Int, 0 ≤ j → j < 12 → 0 ≤ M 29 j ∧ M 29 j ≤ 61) : mI κ yX6_firstOf cX6_firstOf 3 .int 0 [.ref (ma 100)] (mw κ ma M) (is1 (iI (amin (M 29) 12)) (mw κ ma M)) := by
  refine mI_of (by decide) (Nat.le_of_ble_eq_true rfl) (fun E F K => ?_)
  refine g_lv (lv' := [(0, .ref (ma 100))]) rfl ?_
  refine g_iconst F dX6_firstOf_0 ?_
  refine g_istore_n F (lv' := [(1, .int (iI 0)), (0, .ref (ma 100))]) 1 dX6_firstOf_1 rfl (by decide) rfl ?_
  refine g_iconst F dX6_firstOf_2 ?_
  refine g_istore_n F (lv' := [(2, .int (iI 1)), (1, .int (iI 0)), (0, .ref (ma 100))]) 2 dX6_firstOf_3 rfl (by decide) rfl ?_
  have L4 : ∀ (mz4 : Nat) (b : Int) (c : Int), (12 - c).toNat = mz4 → (1 ≤ c ∧ c ≤ 12) → (b = amin (M 29) c) → G E (mw κ ma M) [(2, .int (iI c)), (1, .int (iI b)), (0, .ref (ma 100))] 4 [] := by
    intro mz4
    induction mz4 using Nat.strongRecOn with
    | _ mz4 ih4 =>
    intro b c hmz4 hc hb
    refine g_iload_n F 0 dX6_firstOf_4 rfl ?_
    refine g_bipush F dX6_firstOf_5 (by decide +kernel) ?_
    refine g_icmp_ge F 37 (by omega) dX6_firstOf_7 (by decide) (fun c7 => ?_) (fun c7 => ?_)
    · skip
      refine g_iload_n F 1 dX6_firstOf_37 rfl ?_
      exact K mw_same ⟨congrArg iI (show b = amin (M 29) 12 from by rw [hb, show c = 12 by omega]), rfl⟩ rfl dX6_firstOf_38
    · skip
      have hbi : 0 ≤ b ∧ b < c := by rw [hb]; exact amin_in _ hc.1
      have hr1 := hr c (by omega) (by omega)
      have hr2 := hr b (by omega) (by omega)
      refine g_aload_n F 2 dX6_firstOf_10 rfl ?_
      refine gm_get_29 F dX6_firstOf_11 ?_
      refine g_iload_n F 0 dX6_firstOf_14 rfl ?_
      refine gm_ald_29 F (by omega) dX6_firstOf_15 ?_
      refine g_aload_n F 2 dX6_firstOf_16 rfl ?_
      refine gm_get_29 F dX6_firstOf_17 ?_
      refine g_iload_n F 1 dX6_firstOf_20 rfl ?_
      refine gm_ald_29 F (by omega) dX6_firstOf_21 ?_
      refine g_icmp_ge F 29 (by omega) dX6_firstOf_22 (by decide) (fun c22 => ?_) (fun c22 => ?_)
      · skip
        refine g_iload_n F 1 dX6_firstOf_29 rfl ?_
        refine g_istore_n F (lv' := [(1, .int (iI b)), (2, .int (iI c)), (0, .ref (ma 100))]) 1 dX6_firstOf_30 rfl (by decide) rfl ?_
        refine g_iinc F (lv' := [(2, .int (iI (c + 1))), (1, .int (iI b)), (0, .ref (ma 100))]) 1 dX6_firstOf_31 rfl (by decide) rfl ?_
        refine g_goto F 4 dX6_firstOf_34 (by decide) ?_
        refine g_sub F (lv' := [(2, .int (iI (c + 1))), (1, .int (iI b)), (0, .ref (ma 100))]) [0, 1, 2] rfl ?_
        exact ih4 _ (by omega) b (c + 1) rfl (by omega) (by rw [amin_s _ (by omega), ← hb]; split <;> omega)
      · skip
        refine g_iload_n F 0 dX6_firstOf_25 rfl ?_
        refine g_goto F 30 dX6_firstOf_26 (by decide) ?_
        refine g_istore_n F (lv' := [(1, .int (iI c)), (2, .int (iI c)), (0, .ref (ma 100))]) 1 dX6_firstOf_30 rfl (by decide) rfl ?_
        refine g_iinc F (lv' := [(2, .int (iI (c + 1))), (1, .int (iI c)), (0, .ref (ma 100))]) 1 dX6_firstOf_31 rfl (by decide) rfl ?_
        refine g_goto F 4 dX6_firstOf_34 (by decide) ?_
        refine g_sub F (lv' := [(2, .int (iI (c + 1))), (1, .int (iI c)), (0, .ref (ma 100))]) [0, 1, 2] rfl ?_
        exact ih4 _ (by omega) c (c + 1) rfl (by omega) (by rw [amin_s _ (by omega), ← hb]; split <;> omega)
  refine g_sub F (lv' := [(2, .int (iI 1)), (1, .int (iI 0)), (0, .ref (ma 100))]) [0, 1, 2] rfl ?_
  exact L4 _ 0 1 rfl (by omega) (amin_1 _).symm
theorem dX6_freeBits_0 : decode cX6_freeBits 0 = .ok (.iconst 0, 1) := by decide +kernel
theorem dX6_freeBits_1 : decode cX6_freeBits 1 = .ok (.istore_n 1, 1) := by decide +kernel
theorem dX6_freeBits_2 : decode cX6_freeBits 2 = .ok (.iconst 0, 1) := by decide +kernel
theorem dX6_freeBits_3 : decode cX6_freeBits 3 = .ok (.istore_n 2, 1) := by decide +kernel
theorem dX6_freeBits_4 : decode cX6_freeBits 4 = .ok (.iload_n 2, 1) := by decide +kernel
theorem dX6_freeBits_5 : decode cX6_freeBits 5 = .ok (.aload_n 0, 1) := by decide +kernel
theorem dX6_freeBits_6 : decode cX6_freeBits 6 = .ok (.getfield 101, 3) := by decide +kernel
theorem dX6_freeBits_9 : decode cX6_freeBits 9 = .ok (.if_icmp .ge 28, 3) := by decide +kernel
theorem dX6_freeBits_12 : decode cX6_freeBits 12 = .ok (.iload_n 1, 1) := by decide +kernel
theorem dX6_freeBits_13 : decode cX6_freeBits 13 = .ok (.aload_n 0, 1) := by decide +kernel
theorem dX6_freeBits_14 : decode cX6_freeBits 14 = .ok (.getfield 31, 3) := by decide +kernel
theorem dX6_freeBits_17 : decode cX6_freeBits 17 = .ok (.iload_n 2, 1) := by decide +kernel
theorem dX6_freeBits_18 : decode cX6_freeBits 18 = .ok (.iaload, 1) := by decide +kernel
theorem dX6_freeBits_19 : decode cX6_freeBits 19 = .ok (.ifCond .ne 9, 3) := by decide +kernel
theorem dX6_freeBits_22 : decode cX6_freeBits 22 = .ok (.iconst 1, 1) := by decide +kernel
theorem dX6_freeBits_23 : decode cX6_freeBits 23 = .ok (.iload_n 2, 1) := by decide +kernel
theorem dX6_freeBits_24 : decode cX6_freeBits 24 = .ok (.ishl, 1) := by decide +kernel
theorem dX6_freeBits_25 : decode cX6_freeBits 25 = .ok (.goto 4, 3) := by decide +kernel
theorem dX6_freeBits_28 : decode cX6_freeBits 28 = .ok (.iconst 0, 1) := by decide +kernel
theorem dX6_freeBits_29 : decode cX6_freeBits 29 = .ok (.ior, 1) := by decide +kernel
theorem dX6_freeBits_30 : decode cX6_freeBits 30 = .ok (.istore_n 1, 1) := by decide +kernel
theorem dX6_freeBits_31 : decode cX6_freeBits 31 = .ok (.iinc 2 1, 3) := by decide +kernel
theorem dX6_freeBits_34 : decode cX6_freeBits 34 = .ok (.goto (-30), 3) := by decide +kernel
theorem dX6_freeBits_37 : decode cX6_freeBits 37 = .ok (.iload_n 1, 1) := by decide +kernel
theorem dX6_freeBits_38 : decode cX6_freeBits 38 = .ok (.ireturn, 1) := by decide +kernel
set_option maxRecDepth 100000 in
set_option maxHeartbeats 4000000 in
theorem k_X6_freeBits (κ : Kp) (ma : Nat → Nat) (M : MS)  (okr : okR M) : mI κ yX6_freeBits cX6_freeBits 3 .int 0 [.ref (ma 100)] (mw κ ma M) (is1 (iI (fbits (M 9) (M 5 0))) (mw κ ma M)) := by
  refine mI_of (by decide) (Nat.le_of_ble_eq_true rfl) (fun E F K => ?_)
  refine g_lv (lv' := [(0, .ref (ma 100))]) rfl ?_
  have hn := okr.1
  refine g_iconst F dX6_freeBits_0 ?_
  refine g_istore_n F (lv' := [(1, .int (iI 0)), (0, .ref (ma 100))]) 1 dX6_freeBits_1 rfl (by decide) rfl ?_
  refine g_iconst F dX6_freeBits_2 ?_
  refine g_istore_n F (lv' := [(2, .int (iI 0)), (1, .int (iI 0)), (0, .ref (ma 100))]) 2 dX6_freeBits_3 rfl (by decide) rfl ?_
  have L4 : ∀ (mz4 : Nat) (p : Int) (b : Int), (M 5 0 - p).toNat = mz4 → (0 ≤ p ∧ p ≤ M 5 0) → (b = fbits (M 9) p) → G E (mw κ ma M) [(2, .int (iI p)), (1, .int (iI b)), (0, .ref (ma 100))] 4 [] := by
    intro mz4
    induction mz4 using Nat.strongRecOn with
    | _ mz4 ih4 =>
    intro p b hmz4 hp hb
    refine g_iload_n F 0 dX6_freeBits_4 rfl ?_
    refine g_aload_n F 2 dX6_freeBits_5 rfl ?_
    refine gm_get_5 F dX6_freeBits_6 ?_
    refine g_icmp_ge F 37 (by omega) dX6_freeBits_9 (by decide) (fun c9 => ?_) (fun c9 => ?_)
    · skip
      refine g_iload_n F 1 dX6_freeBits_37 rfl ?_
      exact K mw_same ⟨congrArg iI (show b = fbits (M 9) (M 5 0) from by rw [hb, show p = M 5 0 by omega]), rfl⟩ rfl dX6_freeBits_38
    · skip
      have hbb : 0 ≤ b ∧ b < p2 p := by rw [hb]; exact fbits_bd _ hp.1
      have hrp : (0 ≤ M 6 p ∧ M 6 p ≤ 5) ∧ (0 ≤ M 7 p ∧ M 7 p ≤ 9) ∧ (0 ≤ M 8 p ∧ M 8 p ≤ 99) ∧ 0 ≤ M 9 p ∧ M 9 p ≤ 1 := okr.2 p (by omega) (by omega)
      refine g_iload_n F 1 dX6_freeBits_12 rfl ?_
      refine g_aload_n F 2 dX6_freeBits_13 rfl ?_
      refine gm_get_9 F dX6_freeBits_14 ?_
      refine g_iload_n F 0 dX6_freeBits_17 rfl ?_
      refine gm_ald_9 F (by omega) dX6_freeBits_18 ?_
      refine g_if_ne F 28 (by omega) dX6_freeBits_19 (by decide) (fun c19 => ?_) (fun c19 => ?_)
      · skip
        refine g_iconst F dX6_freeBits_28 ?_
        refine g_ior F dX6_freeBits_29 ?_
        refine g_top (y := iI b) (by rw [iI_bor hbb.1 (by decide), bor_0 hbb.1]) ?_
        refine g_istore_n F (lv' := [(1, .int (iI b)), (2, .int (iI p)), (0, .ref (ma 100))]) 1 dX6_freeBits_30 rfl (by decide) rfl ?_
        refine g_iinc F (lv' := [(2, .int (iI (p + 1))), (1, .int (iI b)), (0, .ref (ma 100))]) 1 dX6_freeBits_31 rfl (by decide) rfl ?_
        refine g_goto F 4 dX6_freeBits_34 (by decide) ?_
        refine g_sub F (lv' := [(2, .int (iI (p + 1))), (1, .int (iI b)), (0, .ref (ma 100))]) [0, 1, 2] rfl ?_
        exact ih4 _ (by omega) (p + 1) b rfl (by omega) (by rw [fbits, sumI_s _ hp.1, ← fbits, ← hb]; unfold fbf; first | rw [if_pos c19] | (rw [if_neg c19]; omega))
      · skip
        refine g_iconst F dX6_freeBits_22 ?_
        refine g_iload_n F 0 dX6_freeBits_23 rfl ?_
        refine g_ishl F dX6_freeBits_24 ?_
        refine g_top (y := iI (p2 p)) (iI_shl1 (by omega) (by omega)) ?_
        refine g_goto F 29 dX6_freeBits_25 (by decide) ?_
        refine g_ior F dX6_freeBits_29 ?_
        refine g_top (y := iI (b + p2 p)) (by rw [iI_bor hbb.1 (by have := p2_pos p; omega), bor_p2 hbb.1 hbb.2]) ?_
        refine g_istore_n F (lv' := [(1, .int (iI (b + p2 p))), (2, .int (iI p)), (0, .ref (ma 100))]) 1 dX6_freeBits_30 rfl (by decide) rfl ?_
        refine g_iinc F (lv' := [(2, .int (iI (p + 1))), (1, .int (iI (b + p2 p))), (0, .ref (ma 100))]) 1 dX6_freeBits_31 rfl (by decide) rfl ?_
        refine g_goto F 4 dX6_freeBits_34 (by decide) ?_
        refine g_sub F (lv' := [(2, .int (iI (p + 1))), (1, .int (iI (b + p2 p))), (0, .ref (ma 100))]) [0, 1, 2] rfl ?_
        exact ih4 _ (by omega) (p + 1) (b + p2 p) rfl (by omega) (by rw [fbits, sumI_s _ hp.1, ← fbits, ← hb]; unfold fbf; first | rw [if_pos c19] | (rw [if_neg c19]; omega))
  refine g_sub F (lv' := [(2, .int (iI 0)), (1, .int (iI 0)), (0, .ref (ma 100))]) [0, 1, 2] rfl ?_
  exact L4 _ 0 0 rfl (by omega) (sumI_0 _).symm
theorem dX6_layFree_0 : decode cX6_layFree 0 = .ok (.aload_n 0, 1) := by decide +kernel
theorem dX6_layFree_1 : decode cX6_layFree 1 = .ok (.iconst 0, 1) := by decide +kernel
theorem dX6_layFree_2 : decode cX6_layFree 2 = .ok (.putfield 264, 3) := by decide +kernel
theorem dX6_layFree_5 : decode cX6_layFree 5 = .ok (.iconst 0, 1) := by decide +kernel
theorem dX6_layFree_6 : decode cX6_layFree 6 = .ok (.istore_n 1, 1) := by decide +kernel
theorem dX6_layFree_7 : decode cX6_layFree 7 = .ok (.iload_n 1, 1) := by decide +kernel
theorem dX6_layFree_8 : decode cX6_layFree 8 = .ok (.aload_n 0, 1) := by decide +kernel
theorem dX6_layFree_9 : decode cX6_layFree 9 = .ok (.getfield 101, 3) := by decide +kernel
theorem dX6_layFree_12 : decode cX6_layFree 12 = .ok (.if_icmp .ge 38, 3) := by decide +kernel
theorem dX6_layFree_15 : decode cX6_layFree 15 = .ok (.aload_n 0, 1) := by decide +kernel
theorem dX6_layFree_16 : decode cX6_layFree 16 = .ok (.getfield 31, 3) := by decide +kernel
theorem dX6_layFree_19 : decode cX6_layFree 19 = .ok (.iload_n 1, 1) := by decide +kernel
theorem dX6_layFree_20 : decode cX6_layFree 20 = .ok (.iaload, 1) := by decide +kernel
theorem dX6_layFree_21 : decode cX6_layFree 21 = .ok (.ifCond .ne 23, 3) := by decide +kernel
theorem dX6_layFree_24 : decode cX6_layFree 24 = .ok (.aload_n 0, 1) := by decide +kernel
theorem dX6_layFree_25 : decode cX6_layFree 25 = .ok (.getfield 64, 3) := by decide +kernel
theorem dX6_layFree_28 : decode cX6_layFree 28 = .ok (.aload_n 0, 1) := by decide +kernel
theorem dX6_layFree_29 : decode cX6_layFree 29 = .ok (.getfield 264, 3) := by decide +kernel
theorem dX6_layFree_32 : decode cX6_layFree 32 = .ok (.iload_n 1, 1) := by decide +kernel
theorem dX6_layFree_33 : decode cX6_layFree 33 = .ok (.iastore, 1) := by decide +kernel
theorem dX6_layFree_34 : decode cX6_layFree 34 = .ok (.aload_n 0, 1) := by decide +kernel
theorem dX6_layFree_35 : decode cX6_layFree 35 = .ok (.dup, 1) := by decide +kernel
theorem dX6_layFree_36 : decode cX6_layFree 36 = .ok (.getfield 264, 3) := by decide +kernel
theorem dX6_layFree_39 : decode cX6_layFree 39 = .ok (.iconst 1, 1) := by decide +kernel
theorem dX6_layFree_40 : decode cX6_layFree 40 = .ok (.iadd, 1) := by decide +kernel
theorem dX6_layFree_41 : decode cX6_layFree 41 = .ok (.putfield 264, 3) := by decide +kernel
theorem dX6_layFree_44 : decode cX6_layFree 44 = .ok (.iinc 1 1, 3) := by decide +kernel
theorem dX6_layFree_47 : decode cX6_layFree 47 = .ok (.goto (-40), 3) := by decide +kernel
theorem dX6_layFree_50 : decode cX6_layFree 50 = .ok (.return_, 1) := by decide +kernel
set_option maxRecDepth 100000 in
set_option maxHeartbeats 4000000 in
theorem k_X6_layFree (κ : Kp) (ma : Nat → Nat) (M : MS)  (okr : okR M) : mV κ yX6_layFree cX6_layFree 2 0 [.ref (ma 100)] (mw κ ma M) (is0 (mw κ ma (mA (mA M 31 (fun _ => frc (M 9) (M 5 0))) 30 (flA (M 30) (M 9) (M 5 0))))) := by
  refine mV_of (by decide) (Nat.le_of_ble_eq_true rfl) (fun E F K => ?_)
  refine g_lv (lv' := [(0, .ref (ma 100))]) rfl ?_
  have hn := okr.1
  refine g_aload_n F 0 dX6_layFree_0 rfl ?_
  refine g_iconst F dX6_layFree_1 ?_
  refine gm_put_31 F dX6_layFree_2 ?_
  refine g_iconst F dX6_layFree_5 ?_
  refine g_istore_n F (lv' := [(1, .int (iI 0)), (0, .ref (ma 100))]) 1 dX6_layFree_6 rfl (by decide) rfl ?_
  have L7 : ∀ (mz7 : Nat) (p : Int) (m : Int) (f : Int → Int), (M 5 0 - p).toNat = mz7 → (0 ≤ p ∧ p ≤ M 5 0) → (m = frc (M 9) p) → (f = flA (M 30) (M 9) p) → G E (mw κ ma (mA (mA M 31 (fun _ => m)) 30 f)) [(1, .int (iI p)), (0, .ref (ma 100))] 7 [] := by
    intro mz7
    induction mz7 using Nat.strongRecOn with
    | _ mz7 ih7 =>
    intro p m f hmz7 hp hm hf
    refine g_iload_n F 0 dX6_layFree_7 rfl ?_
    refine g_aload_n F 1 dX6_layFree_8 rfl ?_
    refine gm_get_5 F dX6_layFree_9 ?_
    refine g_top (y := iI (M 5 0)) rfl ?_
    refine g_icmp_ge F 50 (by omega) dX6_layFree_12 (by decide) (fun c12 => ?_) (fun c12 => ?_)
    · skip
      exact K mw_same (by rw [hm, hf, show p = M 5 0 by omega]) dX6_layFree_50
    · skip
      have hmb : 0 ≤ m ∧ m ≤ p := by rw [hm]; exact frc_bd _ hp.1
      have hrp : (0 ≤ M 6 p ∧ M 6 p ≤ 5) ∧ (0 ≤ M 7 p ∧ M 7 p ≤ 9) ∧ (0 ≤ M 8 p ∧ M 8 p ≤ 99) ∧ 0 ≤ M 9 p ∧ M 9 p ≤ 1 := okr.2 p (by omega) (by omega)
      refine g_aload_n F 1 dX6_layFree_15 rfl ?_
      refine gm_get_9 F dX6_layFree_16 ?_
      refine g_iload_n F 0 dX6_layFree_19 rfl ?_
      refine gm_ald_9 F (by omega) dX6_layFree_20 ?_
      refine g_top (y := iI (M 9 p)) rfl ?_
      refine g_if_ne F 44 (by omega) dX6_layFree_21 (by decide) (fun c21 => ?_) (fun c21 => ?_)
      · skip
        refine g_iinc F (lv' := [(1, .int (iI (p + 1))), (0, .ref (ma 100))]) 0 dX6_layFree_44 rfl (by decide) rfl ?_
        refine g_goto F 7 dX6_layFree_47 (by decide) ?_
        refine g_sub F (lv' := [(1, .int (iI (p + 1))), (0, .ref (ma 100))]) [0, 1] rfl ?_
        exact ih7 _ (by omega) (p + 1) m f rfl (by omega) (by rw [frc_s _ hp.1, ← hm]; unfold fr1; first | rw [if_pos c21] | (rw [if_neg c21]; omega)) (by rw [flA_s _ _ hp.1, ← hm, ← hf]; first | rw [if_pos c21] | rw [if_neg c21])
      · skip
        refine g_aload_n F 1 dX6_layFree_24 rfl ?_
        refine gm_get_30 F dX6_layFree_25 ?_
        refine g_aload_n F 1 dX6_layFree_28 rfl ?_
        refine gm_get_31 F dX6_layFree_29 ?_
        refine g_top (y := iI m) rfl ?_
        refine g_iload_n F 0 dX6_layFree_32 rfl ?_
        refine gm_astS_30 F (by omega) dX6_layFree_33 ?_
        refine g_aload_n F 1 dX6_layFree_34 rfl ?_
        refine g_dup F dX6_layFree_35 rfl ?_
        refine gm_get_31 F dX6_layFree_36 ?_
        refine g_top (y := iI m) rfl ?_
        refine g_iconst F dX6_layFree_39 ?_
        refine g_iadd F dX6_layFree_40 ?_
        refine gm_put_31 F dX6_layFree_41 ?_
        refine g_iinc F (lv' := [(1, .int (iI (p + 1))), (0, .ref (ma 100))]) 0 dX6_layFree_44 rfl (by decide) rfl ?_
        refine g_goto F 7 dX6_layFree_47 (by decide) ?_
        refine g_sub F (lv' := [(1, .int (iI (p + 1))), (0, .ref (ma 100))]) [0, 1] rfl ?_
        refine g_ws (ws' := mw κ ma (mA (mA M 31 (fun _ => (m + 1))) 30 (uI f m p))) rfl ?_
        exact ih7 _ (by omega) (p + 1) (m + 1) (uI f m p) rfl (by omega) (by rw [frc_s _ hp.1, ← hm]; unfold fr1; first | rw [if_pos c21] | (rw [if_neg c21]; omega)) (by rw [flA_s _ _ hp.1, ← hm, ← hf]; first | rw [if_pos c21] | rw [if_neg c21])
  refine g_sub F (lv' := [(1, .int (iI 0)), (0, .ref (ma 100))]) [0, 1] rfl ?_
  refine g_ws (ws' := mw κ ma (mA (mA M 31 (fun _ => 0)) 30 (M 30))) rfl ?_
  exact L7 _ 0 0 (M 30) rfl (by omega) (sumI_0 _).symm rfl
theorem dX6_swapIn_0 : decode cX6_swapIn 0 = .ok (.aload_n 0, 1) := by decide +kernel
theorem dX6_swapIn_1 : decode cX6_swapIn 1 = .ok (.iload_n 1, 1) := by decide +kernel
theorem dX6_swapIn_2 : decode cX6_swapIn 2 = .ok (.iaload, 1) := by decide +kernel
theorem dX6_swapIn_3 : decode cX6_swapIn 3 = .ok (.istore_n 3, 1) := by decide +kernel
theorem dX6_swapIn_4 : decode cX6_swapIn 4 = .ok (.aload_n 0, 1) := by decide +kernel
theorem dX6_swapIn_5 : decode cX6_swapIn 5 = .ok (.iload_n 1, 1) := by decide +kernel
theorem dX6_swapIn_6 : decode cX6_swapIn 6 = .ok (.aload_n 0, 1) := by decide +kernel
theorem dX6_swapIn_7 : decode cX6_swapIn 7 = .ok (.iload_n 2, 1) := by decide +kernel
theorem dX6_swapIn_8 : decode cX6_swapIn 8 = .ok (.iaload, 1) := by decide +kernel
theorem dX6_swapIn_9 : decode cX6_swapIn 9 = .ok (.iastore, 1) := by decide +kernel
theorem dX6_swapIn_10 : decode cX6_swapIn 10 = .ok (.aload_n 0, 1) := by decide +kernel
theorem dX6_swapIn_11 : decode cX6_swapIn 11 = .ok (.iload_n 2, 1) := by decide +kernel
theorem dX6_swapIn_12 : decode cX6_swapIn 12 = .ok (.iload_n 3, 1) := by decide +kernel
theorem dX6_swapIn_13 : decode cX6_swapIn 13 = .ok (.iastore, 1) := by decide +kernel
theorem dX6_swapIn_14 : decode cX6_swapIn 14 = .ok (.return_, 1) := by decide +kernel
set_option maxRecDepth 100000 in
set_option maxHeartbeats 4000000 in
theorem k_X6_swapIn_0 (κ : Kp) (ma : Nat → Nat) (M : MS) (a b : Int) (hab : (0 ≤ a ∧ a < 12) ∧ 0 ≤ b ∧ b < 12) : mV κ yX6_swapIn cX6_swapIn 4 0 [.ref (ma 0), .int (iI a), .int (iI b)] (mw κ ma M) (is0 (mw κ ma (mA M 0 (swf (M 0) a b)))) := by
  refine mV_of (by decide) (Nat.le_of_ble_eq_true rfl) (fun E F K => ?_)
  refine g_lv (lv' := [(0, .ref (ma 0)), (1, .int (iI a)), (2, .int (iI b))]) rfl ?_
  refine g_aload_n F 0 dX6_swapIn_0 rfl ?_
  refine g_iload_n F 1 dX6_swapIn_1 rfl ?_
  refine gm_ald_0 F (by omega) dX6_swapIn_2 ?_
  refine g_istore_n F (lv' := [(3, .int (iI (M 0 a))), (0, .ref (ma 0)), (1, .int (iI a)), (2, .int (iI b))]) 3 dX6_swapIn_3 rfl (by decide) rfl ?_
  refine g_aload_n F 1 dX6_swapIn_4 rfl ?_
  refine g_iload_n F 2 dX6_swapIn_5 rfl ?_
  refine g_aload_n F 1 dX6_swapIn_6 rfl ?_
  refine g_iload_n F 3 dX6_swapIn_7 rfl ?_
  refine gm_ald_0 F (by omega) dX6_swapIn_8 ?_
  refine gm_ast_0 F (by omega) dX6_swapIn_9 ?_
  refine g_aload_n F 1 dX6_swapIn_10 rfl ?_
  refine g_iload_n F 3 dX6_swapIn_11 rfl ?_
  refine g_iload_n F 0 dX6_swapIn_12 rfl ?_
  refine gm_astS_0 F (by omega) dX6_swapIn_13 ?_
  exact K mw_same rfl dX6_swapIn_14
set_option maxRecDepth 100000 in
set_option maxHeartbeats 4000000 in
theorem k_X6_swapIn_1 (κ : Kp) (ma : Nat → Nat) (M : MS) (a b : Int) (hab : (0 ≤ a ∧ a < 12) ∧ 0 ≤ b ∧ b < 12) : mV κ yX6_swapIn cX6_swapIn 4 0 [.ref (ma 1), .int (iI a), .int (iI b)] (mw κ ma M) (is0 (mw κ ma (mA M 1 (swf (M 1) a b)))) := by
  refine mV_of (by decide) (Nat.le_of_ble_eq_true rfl) (fun E F K => ?_)
  refine g_lv (lv' := [(0, .ref (ma 1)), (1, .int (iI a)), (2, .int (iI b))]) rfl ?_
  refine g_aload_n F 0 dX6_swapIn_0 rfl ?_
  refine g_iload_n F 1 dX6_swapIn_1 rfl ?_
  refine gm_ald_1 F (by omega) dX6_swapIn_2 ?_
  refine g_istore_n F (lv' := [(3, .int (iI (M 1 a))), (0, .ref (ma 1)), (1, .int (iI a)), (2, .int (iI b))]) 3 dX6_swapIn_3 rfl (by decide) rfl ?_
  refine g_aload_n F 1 dX6_swapIn_4 rfl ?_
  refine g_iload_n F 2 dX6_swapIn_5 rfl ?_
  refine g_aload_n F 1 dX6_swapIn_6 rfl ?_
  refine g_iload_n F 3 dX6_swapIn_7 rfl ?_
  refine gm_ald_1 F (by omega) dX6_swapIn_8 ?_
  refine gm_ast_1 F (by omega) dX6_swapIn_9 ?_
  refine g_aload_n F 1 dX6_swapIn_10 rfl ?_
  refine g_iload_n F 3 dX6_swapIn_11 rfl ?_
  refine g_iload_n F 0 dX6_swapIn_12 rfl ?_
  refine gm_astS_1 F (by omega) dX6_swapIn_13 ?_
  exact K mw_same rfl dX6_swapIn_14
set_option maxRecDepth 100000 in
set_option maxHeartbeats 4000000 in
theorem k_X6_swapIn_2 (κ : Kp) (ma : Nat → Nat) (M : MS) (a b : Int) (hab : (0 ≤ a ∧ a < 12) ∧ 0 ≤ b ∧ b < 12) : mV κ yX6_swapIn cX6_swapIn 4 0 [.ref (ma 2), .int (iI a), .int (iI b)] (mw κ ma M) (is0 (mw κ ma (mA M 2 (swf (M 2) a b)))) := by
  refine mV_of (by decide) (Nat.le_of_ble_eq_true rfl) (fun E F K => ?_)
  refine g_lv (lv' := [(0, .ref (ma 2)), (1, .int (iI a)), (2, .int (iI b))]) rfl ?_
  refine g_aload_n F 0 dX6_swapIn_0 rfl ?_
  refine g_iload_n F 1 dX6_swapIn_1 rfl ?_
  refine gm_ald_2 F (by omega) dX6_swapIn_2 ?_
  refine g_istore_n F (lv' := [(3, .int (iI (M 2 a))), (0, .ref (ma 2)), (1, .int (iI a)), (2, .int (iI b))]) 3 dX6_swapIn_3 rfl (by decide) rfl ?_
  refine g_aload_n F 1 dX6_swapIn_4 rfl ?_
  refine g_iload_n F 2 dX6_swapIn_5 rfl ?_
  refine g_aload_n F 1 dX6_swapIn_6 rfl ?_
  refine g_iload_n F 3 dX6_swapIn_7 rfl ?_
  refine gm_ald_2 F (by omega) dX6_swapIn_8 ?_
  refine gm_ast_2 F (by omega) dX6_swapIn_9 ?_
  refine g_aload_n F 1 dX6_swapIn_10 rfl ?_
  refine g_iload_n F 3 dX6_swapIn_11 rfl ?_
  refine g_iload_n F 0 dX6_swapIn_12 rfl ?_
  refine gm_astS_2 F (by omega) dX6_swapIn_13 ?_
  exact K mw_same rfl dX6_swapIn_14
set_option maxRecDepth 100000 in
set_option maxHeartbeats 4000000 in
theorem k_X6_swapIn_3 (κ : Kp) (ma : Nat → Nat) (M : MS) (a b : Int) (hab : (0 ≤ a ∧ a < 12) ∧ 0 ≤ b ∧ b < 12) : mV κ yX6_swapIn cX6_swapIn 4 0 [.ref (ma 3), .int (iI a), .int (iI b)] (mw κ ma M) (is0 (mw κ ma (mA M 3 (swf (M 3) a b)))) := by
  refine mV_of (by decide) (Nat.le_of_ble_eq_true rfl) (fun E F K => ?_)
  refine g_lv (lv' := [(0, .ref (ma 3)), (1, .int (iI a)), (2, .int (iI b))]) rfl ?_
  refine g_aload_n F 0 dX6_swapIn_0 rfl ?_
  refine g_iload_n F 1 dX6_swapIn_1 rfl ?_
  refine gm_ald_3 F (by omega) dX6_swapIn_2 ?_
  refine g_istore_n F (lv' := [(3, .int (iI (M 3 a))), (0, .ref (ma 3)), (1, .int (iI a)), (2, .int (iI b))]) 3 dX6_swapIn_3 rfl (by decide) rfl ?_
  refine g_aload_n F 1 dX6_swapIn_4 rfl ?_
  refine g_iload_n F 2 dX6_swapIn_5 rfl ?_
  refine g_aload_n F 1 dX6_swapIn_6 rfl ?_
  refine g_iload_n F 3 dX6_swapIn_7 rfl ?_
  refine gm_ald_3 F (by omega) dX6_swapIn_8 ?_
  refine gm_ast_3 F (by omega) dX6_swapIn_9 ?_
  refine g_aload_n F 1 dX6_swapIn_10 rfl ?_
  refine g_iload_n F 3 dX6_swapIn_11 rfl ?_
  refine g_iload_n F 0 dX6_swapIn_12 rfl ?_
  refine gm_astS_3 F (by omega) dX6_swapIn_13 ?_
  exact K mw_same rfl dX6_swapIn_14
set_option maxRecDepth 100000 in
set_option maxHeartbeats 4000000 in
theorem k_X6_swapIn_41 (κ : Kp) (ma : Nat → Nat) (M : MS) (a b : Int) (hab : (0 ≤ a ∧ a < 12) ∧ 0 ≤ b ∧ b < 12) : mV κ yX6_swapIn cX6_swapIn 4 0 [.ref (ma 41), .int (iI a), .int (iI b)] (mw κ ma M) (is0 (mw κ ma (mA M 41 (swf (M 41) a b)))) := by
  refine mV_of (by decide) (Nat.le_of_ble_eq_true rfl) (fun E F K => ?_)
  refine g_lv (lv' := [(0, .ref (ma 41)), (1, .int (iI a)), (2, .int (iI b))]) rfl ?_
  refine g_aload_n F 0 dX6_swapIn_0 rfl ?_
  refine g_iload_n F 1 dX6_swapIn_1 rfl ?_
  refine gm_ald_41 F (by omega) dX6_swapIn_2 ?_
  refine g_istore_n F (lv' := [(3, .int (iI (M 41 a))), (0, .ref (ma 41)), (1, .int (iI a)), (2, .int (iI b))]) 3 dX6_swapIn_3 rfl (by decide) rfl ?_
  refine g_aload_n F 1 dX6_swapIn_4 rfl ?_
  refine g_iload_n F 2 dX6_swapIn_5 rfl ?_
  refine g_aload_n F 1 dX6_swapIn_6 rfl ?_
  refine g_iload_n F 3 dX6_swapIn_7 rfl ?_
  refine gm_ald_41 F (by omega) dX6_swapIn_8 ?_
  refine gm_ast_41 F (by omega) dX6_swapIn_9 ?_
  refine g_aload_n F 1 dX6_swapIn_10 rfl ?_
  refine g_iload_n F 3 dX6_swapIn_11 rfl ?_
  refine g_iload_n F 0 dX6_swapIn_12 rfl ?_
  refine gm_astS_41 F (by omega) dX6_swapIn_13 ?_
  exact K mw_same rfl dX6_swapIn_14
theorem dX6_swapCells_0 : decode cX6_swapCells 0 = .ok (.aload_n 0, 1) := by decide +kernel
theorem dX6_swapCells_1 : decode cX6_swapCells 1 = .ok (.getfield 7, 3) := by decide +kernel
theorem dX6_swapCells_4 : decode cX6_swapCells 4 = .ok (.iload_n 1, 1) := by decide +kernel
theorem dX6_swapCells_5 : decode cX6_swapCells 5 = .ok (.iload_n 2, 1) := by decide +kernel
theorem dX6_swapCells_6 : decode cX6_swapCells 6 = .ok (.invokestatic 304, 3) := by decide +kernel
theorem dX6_swapCells_9 : decode cX6_swapCells 9 = .ok (.aload_n 0, 1) := by decide +kernel
theorem dX6_swapCells_10 : decode cX6_swapCells 10 = .ok (.getfield 13, 3) := by decide +kernel
theorem dX6_swapCells_13 : decode cX6_swapCells 13 = .ok (.iload_n 1, 1) := by decide +kernel
theorem dX6_swapCells_14 : decode cX6_swapCells 14 = .ok (.iload_n 2, 1) := by decide +kernel
theorem dX6_swapCells_15 : decode cX6_swapCells 15 = .ok (.invokestatic 304, 3) := by decide +kernel
theorem dX6_swapCells_18 : decode cX6_swapCells 18 = .ok (.aload_n 0, 1) := by decide +kernel
theorem dX6_swapCells_19 : decode cX6_swapCells 19 = .ok (.getfield 16, 3) := by decide +kernel
theorem dX6_swapCells_22 : decode cX6_swapCells 22 = .ok (.iload_n 1, 1) := by decide +kernel
theorem dX6_swapCells_23 : decode cX6_swapCells 23 = .ok (.iload_n 2, 1) := by decide +kernel
theorem dX6_swapCells_24 : decode cX6_swapCells 24 = .ok (.invokestatic 304, 3) := by decide +kernel
theorem dX6_swapCells_27 : decode cX6_swapCells 27 = .ok (.aload_n 0, 1) := by decide +kernel
theorem dX6_swapCells_28 : decode cX6_swapCells 28 = .ok (.getfield 19, 3) := by decide +kernel
theorem dX6_swapCells_31 : decode cX6_swapCells 31 = .ok (.iload_n 1, 1) := by decide +kernel
theorem dX6_swapCells_32 : decode cX6_swapCells 32 = .ok (.iload_n 2, 1) := by decide +kernel
theorem dX6_swapCells_33 : decode cX6_swapCells 33 = .ok (.invokestatic 304, 3) := by decide +kernel
theorem dX6_swapCells_36 : decode cX6_swapCells 36 = .ok (.return_, 1) := by decide +kernel
set_option maxRecDepth 100000 in
set_option maxHeartbeats 4000000 in
theorem k_X6_swapCells (κ : Kp) (ma : Nat → Nat) (M : MS) (a : Int) (b : Int)  (hab : (0 ≤ a ∧ a < 12) ∧ 0 ≤ b ∧ b < 12) : mV κ yX6_swapCells cX6_swapCells 3 1 [.ref (ma 100), .int (iI a), .int (iI b)] (mw κ ma M) (is0 (mw κ ma (stC M (swC (cl M) a b)))) := by
  refine mV_of (by decide) (Nat.le_of_ble_eq_true rfl) (fun E F K => ?_)
  refine g_lv (lv' := [(0, .ref (ma 100)), (1, .int (iI a)), (2, .int (iI b))]) rfl ?_
  refine g_aload_n F 0 dX6_swapCells_0 rfl ?_
  refine gm_get_0 F dX6_swapCells_1 ?_
  refine g_iload_n F 1 dX6_swapCells_4 rfl ?_
  refine g_iload_n F 2 dX6_swapCells_5 rfl ?_
  refine g_callSV F (stk := [.int (iI b), .int (iI a), .ref (ma 0)]) (st := []) (k_X6_swapIn_0 κ ma M a b (by omega)) cal_X6_swapIn lm_X6_304 rfl (by decide) rfl (Nat.le_of_ble_eq_true rfl) dX6_swapCells_6 (fun ws6 _ hr6 => ?_)
  obtain rfl := hr6
  refine g_aload_n F 0 dX6_swapCells_9 rfl ?_
  refine gm_get_1 F dX6_swapCells_10 ?_
  refine g_iload_n F 1 dX6_swapCells_13 rfl ?_
  refine g_iload_n F 2 dX6_swapCells_14 rfl ?_
  refine g_callSV F (stk := [.int (iI b), .int (iI a), .ref (ma 1)]) (st := []) (k_X6_swapIn_1 κ ma (mA M 0 (swf (M 0) a b)) a b (by omega)) cal_X6_swapIn lm_X6_304 rfl (by decide) rfl (Nat.le_of_ble_eq_true rfl) dX6_swapCells_15 (fun ws15 _ hr15 => ?_)
  obtain rfl := hr15
  refine g_aload_n F 0 dX6_swapCells_18 rfl ?_
  refine gm_get_2 F dX6_swapCells_19 ?_
  refine g_iload_n F 1 dX6_swapCells_22 rfl ?_
  refine g_iload_n F 2 dX6_swapCells_23 rfl ?_
  refine g_callSV F (stk := [.int (iI b), .int (iI a), .ref (ma 2)]) (st := []) (k_X6_swapIn_2 κ ma (mA (mA M 0 (swf (M 0) a b)) 1 (swf (M 1) a b)) a b (by omega)) cal_X6_swapIn lm_X6_304 rfl (by decide) rfl (Nat.le_of_ble_eq_true rfl) dX6_swapCells_24 (fun ws24 _ hr24 => ?_)
  obtain rfl := hr24
  refine g_aload_n F 0 dX6_swapCells_27 rfl ?_
  refine gm_get_3 F dX6_swapCells_28 ?_
  refine g_iload_n F 1 dX6_swapCells_31 rfl ?_
  refine g_iload_n F 2 dX6_swapCells_32 rfl ?_
  refine g_callSV F (stk := [.int (iI b), .int (iI a), .ref (ma 3)]) (st := []) (k_X6_swapIn_3 κ ma (mA (mA (mA M 0 (swf (M 0) a b)) 1 (swf (M 1) a b)) 2 (swf (M 2) a b)) a b (by omega)) cal_X6_swapIn lm_X6_304 rfl (by decide) rfl (Nat.le_of_ble_eq_true rfl) dX6_swapCells_33 (fun ws33 _ hr33 => ?_)
  obtain rfl := hr33
  exact K mw_same rfl dX6_swapCells_36
theorem dX6_drawBelow_0 : decode cX6_drawBelow 0 = .ok (.aload_n 0, 1) := by decide +kernel
theorem dX6_drawBelow_1 : decode cX6_drawBelow 1 = .ok (.aload_n 0, 1) := by decide +kernel
theorem dX6_drawBelow_2 : decode cX6_drawBelow 2 = .ok (.getfield 334, 3) := by decide +kernel
theorem dX6_drawBelow_5 : decode cX6_drawBelow 5 = .ok (.ldc_w 337, 3) := by decide +kernel
theorem dX6_drawBelow_8 : decode cX6_drawBelow 8 = .ok (.imul, 1) := by decide +kernel
theorem dX6_drawBelow_9 : decode cX6_drawBelow 9 = .ok (.sipush 12345, 3) := by decide +kernel
theorem dX6_drawBelow_12 : decode cX6_drawBelow 12 = .ok (.iadd, 1) := by decide +kernel
theorem dX6_drawBelow_13 : decode cX6_drawBelow 13 = .ok (.putfield 334, 3) := by decide +kernel
theorem dX6_drawBelow_16 : decode cX6_drawBelow 16 = .ok (.aload_n 0, 1) := by decide +kernel
theorem dX6_drawBelow_17 : decode cX6_drawBelow 17 = .ok (.getfield 334, 3) := by decide +kernel
theorem dX6_drawBelow_20 : decode cX6_drawBelow 20 = .ok (.ldc_w 338, 3) := by decide +kernel
theorem dX6_drawBelow_23 : decode cX6_drawBelow 23 = .ok (.iand, 1) := by decide +kernel
theorem dX6_drawBelow_24 : decode cX6_drawBelow 24 = .ok (.ldc_w 339, 3) := by decide +kernel
theorem dX6_drawBelow_27 : decode cX6_drawBelow 27 = .ok (.idiv, 1) := by decide +kernel
theorem dX6_drawBelow_28 : decode cX6_drawBelow 28 = .ok (.iload_n 1, 1) := by decide +kernel
theorem dX6_drawBelow_29 : decode cX6_drawBelow 29 = .ok (.irem, 1) := by decide +kernel
theorem dX6_drawBelow_30 : decode cX6_drawBelow 30 = .ok (.ireturn, 1) := by decide +kernel
set_option maxRecDepth 100000 in
set_option maxHeartbeats 4000000 in
theorem k_X6_drawBelow (κ : Kp) (ma : Nat → Nat) (M : MS) (n : Int)  (hn : 0 < n ∧ n ≤ 1000) : mI κ yX6_drawBelow cX6_drawBelow 2 .int 0 [.ref (ma 100), .int (iI n)] (mw κ ma M) (is1 (iI (drw (nxt (M 42 0)) n)) (mw κ ma (mA M 42 (fun _ => nxt (M 42 0))))) := by
  refine mI_of (by decide) (Nat.le_of_ble_eq_true rfl) (fun E F K => ?_)
  refine g_lv (lv' := [(0, .ref (ma 100)), (1, .int (iI n))]) rfl ?_
  refine g_aload_n F 0 dX6_drawBelow_0 rfl ?_
  refine g_aload_n F 0 dX6_drawBelow_1 rfl ?_
  refine gm_get_42 F dX6_drawBelow_2 ?_
  refine g_ldcw F (z := 1103515245) lc_X6_337 (by decide +kernel) dX6_drawBelow_5 ?_
  refine g_imul F dX6_drawBelow_8 ?_
  refine g_sipush F dX6_drawBelow_9 (by decide +kernel) ?_
  refine g_iadd F dX6_drawBelow_12 ?_
  refine gm_put_42 F dX6_drawBelow_13 ?_
  refine g_aload_n F 0 dX6_drawBelow_16 rfl ?_
  refine gm_get_42 F dX6_drawBelow_17 ?_
  refine g_top (y := iI (((M 42 0) * 1103515245) + 12345)) rfl ?_
  refine g_ldcw F (z := 2147483647) lc_X6_338 (by decide +kernel) dX6_drawBelow_20 ?_
  refine g_iand F dX6_drawBelow_23 ?_
  refine g_top (y := iI (nxt (M 42 0) % 2147483648)) (iI_and31 _) ?_
  refine g_ldcw F (z := 65536) lc_X6_339 (by decide +kernel) dX6_drawBelow_24 ?_
  refine g_idiv F dX6_drawBelow_27 (by omega) ?_
  refine g_iload_n F 1 dX6_drawBelow_28 rfl ?_
  refine g_irem F dX6_drawBelow_29 (by omega) ?_
  exact K mw_same ⟨rfl, rfl⟩ rfl dX6_drawBelow_30
theorem dX6_pieceComes_0 : decode cX6_pieceComes 0 = .ok (.aload_n 0, 1) := by decide +kernel
theorem dX6_pieceComes_1 : decode cX6_pieceComes 1 = .ok (.getfield 22, 3) := by decide +kernel
theorem dX6_pieceComes_4 : decode cX6_pieceComes 4 = .ok (.aload_n 0, 1) := by decide +kernel
theorem dX6_pieceComes_5 : decode cX6_pieceComes 5 = .ok (.getfield 101, 3) := by decide +kernel
theorem dX6_pieceComes_8 : decode cX6_pieceComes 8 = .ok (.iload_n 1, 1) := by decide +kernel
theorem dX6_pieceComes_9 : decode cX6_pieceComes 9 = .ok (.iastore, 1) := by decide +kernel
theorem dX6_pieceComes_10 : decode cX6_pieceComes 10 = .ok (.aload_n 0, 1) := by decide +kernel
theorem dX6_pieceComes_11 : decode cX6_pieceComes 11 = .ok (.getfield 25, 3) := by decide +kernel
theorem dX6_pieceComes_14 : decode cX6_pieceComes 14 = .ok (.aload_n 0, 1) := by decide +kernel
theorem dX6_pieceComes_15 : decode cX6_pieceComes 15 = .ok (.getfield 101, 3) := by decide +kernel
theorem dX6_pieceComes_18 : decode cX6_pieceComes 18 = .ok (.iload_n 2, 1) := by decide +kernel
theorem dX6_pieceComes_19 : decode cX6_pieceComes 19 = .ok (.iastore, 1) := by decide +kernel
theorem dX6_pieceComes_20 : decode cX6_pieceComes 20 = .ok (.aload_n 0, 1) := by decide +kernel
theorem dX6_pieceComes_21 : decode cX6_pieceComes 21 = .ok (.getfield 28, 3) := by decide +kernel
theorem dX6_pieceComes_24 : decode cX6_pieceComes 24 = .ok (.aload_n 0, 1) := by decide +kernel
theorem dX6_pieceComes_25 : decode cX6_pieceComes 25 = .ok (.getfield 101, 3) := by decide +kernel
theorem dX6_pieceComes_28 : decode cX6_pieceComes 28 = .ok (.iload_n 3, 1) := by decide +kernel
theorem dX6_pieceComes_29 : decode cX6_pieceComes 29 = .ok (.iastore, 1) := by decide +kernel
theorem dX6_pieceComes_30 : decode cX6_pieceComes 30 = .ok (.aload_n 0, 1) := by decide +kernel
theorem dX6_pieceComes_31 : decode cX6_pieceComes 31 = .ok (.getfield 31, 3) := by decide +kernel
theorem dX6_pieceComes_34 : decode cX6_pieceComes 34 = .ok (.aload_n 0, 1) := by decide +kernel
theorem dX6_pieceComes_35 : decode cX6_pieceComes 35 = .ok (.getfield 101, 3) := by decide +kernel
theorem dX6_pieceComes_38 : decode cX6_pieceComes 38 = .ok (.iconst 0, 1) := by decide +kernel
theorem dX6_pieceComes_39 : decode cX6_pieceComes 39 = .ok (.iastore, 1) := by decide +kernel
theorem dX6_pieceComes_40 : decode cX6_pieceComes 40 = .ok (.aload_n 0, 1) := by decide +kernel
theorem dX6_pieceComes_41 : decode cX6_pieceComes 41 = .ok (.dup, 1) := by decide +kernel
theorem dX6_pieceComes_42 : decode cX6_pieceComes 42 = .ok (.getfield 101, 3) := by decide +kernel
theorem dX6_pieceComes_45 : decode cX6_pieceComes 45 = .ok (.iconst 1, 1) := by decide +kernel
theorem dX6_pieceComes_46 : decode cX6_pieceComes 46 = .ok (.iadd, 1) := by decide +kernel
theorem dX6_pieceComes_47 : decode cX6_pieceComes 47 = .ok (.putfield 101, 3) := by decide +kernel
theorem dX6_pieceComes_50 : decode cX6_pieceComes 50 = .ok (.return_, 1) := by decide +kernel
set_option maxRecDepth 100000 in
set_option maxHeartbeats 4000000 in
theorem k_X6_pieceComes (κ : Kp) (ma : Nat → Nat) (M : MS) (k : Int) (f : Int) (a : Int)  (hn : 0 ≤ M 5 0 ∧ M 5 0 < 6) : mV κ yX6_pieceComes cX6_pieceComes 4 0 [.ref (ma 100), .int (iI k), .int (iI f), .int (iI a)] (mw κ ma M) (is0 (mw κ ma (mA (mA (mA (mA (mA M 6 (uI (M 6) (M 5 0) k)) 7 (uI (M 7) (M 5 0) f)) 8 (uI (M 8) (M 5 0) a)) 9 (uI (M 9) (M 5 0) 0)) 5 (fun _ => M 5 0 + 1)))) := by
  refine mV_of (by decide) (Nat.le_of_ble_eq_true rfl) (fun E F K => ?_)
  refine g_lv (lv' := [(0, .ref (ma 100)), (1, .int (iI k)), (2, .int (iI f)), (3, .int (iI a))]) rfl ?_
  refine g_aload_n F 0 dX6_pieceComes_0 rfl ?_
  refine gm_get_6 F dX6_pieceComes_1 ?_
  refine g_aload_n F 0 dX6_pieceComes_4 rfl ?_
  refine gm_get_5 F dX6_pieceComes_5 ?_
  refine g_iload_n F 1 dX6_pieceComes_8 rfl ?_
  refine gm_ast_6 F (by omega) dX6_pieceComes_9 ?_
  refine g_aload_n F 0 dX6_pieceComes_10 rfl ?_
  refine gm_get_7 F dX6_pieceComes_11 ?_
  refine g_aload_n F 0 dX6_pieceComes_14 rfl ?_
  refine gm_get_5 F dX6_pieceComes_15 ?_
  refine g_top (y := iI (M 5 0)) rfl ?_
  refine g_iload_n F 2 dX6_pieceComes_18 rfl ?_
  refine gm_ast_7 F (by omega) dX6_pieceComes_19 ?_
  refine g_ws (ws' := mw κ ma (mA (mA M 6 (uI (M 6) (M 5 0) k)) 7 (uI (M 7) (M 5 0) f))) rfl ?_
  refine g_aload_n F 0 dX6_pieceComes_20 rfl ?_
  refine gm_get_8 F dX6_pieceComes_21 ?_
  refine g_aload_n F 0 dX6_pieceComes_24 rfl ?_
  refine gm_get_5 F dX6_pieceComes_25 ?_
  refine g_top (y := iI (M 5 0)) rfl ?_
  refine g_iload_n F 3 dX6_pieceComes_28 rfl ?_
  refine gm_ast_8 F (by omega) dX6_pieceComes_29 ?_
  refine g_ws (ws' := mw κ ma (mA (mA (mA M 6 (uI (M 6) (M 5 0) k)) 7 (uI (M 7) (M 5 0) f)) 8 (uI (M 8) (M 5 0) a))) rfl ?_
  refine g_aload_n F 0 dX6_pieceComes_30 rfl ?_
  refine gm_get_9 F dX6_pieceComes_31 ?_
  refine g_aload_n F 0 dX6_pieceComes_34 rfl ?_
  refine gm_get_5 F dX6_pieceComes_35 ?_
  refine g_top (y := iI (M 5 0)) rfl ?_
  refine g_iconst F dX6_pieceComes_38 ?_
  refine gm_ast_9 F (by omega) dX6_pieceComes_39 ?_
  refine g_ws (ws' := mw κ ma (mA (mA (mA (mA M 6 (uI (M 6) (M 5 0) k)) 7 (uI (M 7) (M 5 0) f)) 8 (uI (M 8) (M 5 0) a)) 9 (uI (M 9) (M 5 0) 0))) rfl ?_
  refine g_aload_n F 0 dX6_pieceComes_40 rfl ?_
  refine g_dup F dX6_pieceComes_41 rfl ?_
  refine gm_get_5 F dX6_pieceComes_42 ?_
  refine g_top (y := iI (M 5 0)) rfl ?_
  refine g_iconst F dX6_pieceComes_45 ?_
  refine g_iadd F dX6_pieceComes_46 ?_
  refine gm_put_5 F dX6_pieceComes_47 ?_
  exact K mw_same rfl dX6_pieceComes_50
theorem dX6_divisor_0 : decode cX6_divisor 0 = .ok (.lload_n 0, 1) := by decide +kernel
theorem dX6_divisor_1 : decode cX6_divisor 1 = .ok (.lstore 4, 2) := by decide +kernel
theorem dX6_divisor_3 : decode cX6_divisor 3 = .ok (.lload_n 2, 1) := by decide +kernel
theorem dX6_divisor_4 : decode cX6_divisor 4 = .ok (.lstore 6, 2) := by decide +kernel
theorem dX6_divisor_6 : decode cX6_divisor 6 = .ok (.lload 6, 2) := by decide +kernel
theorem dX6_divisor_8 : decode cX6_divisor 8 = .ok (.lconst 0, 1) := by decide +kernel
theorem dX6_divisor_9 : decode cX6_divisor 9 = .ok (.lcmp, 1) := by decide +kernel
theorem dX6_divisor_10 : decode cX6_divisor 10 = .ok (.ifCond .eq 21, 3) := by decide +kernel
theorem dX6_divisor_13 : decode cX6_divisor 13 = .ok (.lload 4, 2) := by decide +kernel
theorem dX6_divisor_15 : decode cX6_divisor 15 = .ok (.lload 6, 2) := by decide +kernel
theorem dX6_divisor_17 : decode cX6_divisor 17 = .ok (.lrem, 1) := by decide +kernel
theorem dX6_divisor_18 : decode cX6_divisor 18 = .ok (.lstore 8, 2) := by decide +kernel
theorem dX6_divisor_20 : decode cX6_divisor 20 = .ok (.lload 6, 2) := by decide +kernel
theorem dX6_divisor_22 : decode cX6_divisor 22 = .ok (.lstore 4, 2) := by decide +kernel
theorem dX6_divisor_24 : decode cX6_divisor 24 = .ok (.lload 8, 2) := by decide +kernel
theorem dX6_divisor_26 : decode cX6_divisor 26 = .ok (.lstore 6, 2) := by decide +kernel
theorem dX6_divisor_28 : decode cX6_divisor 28 = .ok (.goto (-22), 3) := by decide +kernel
theorem dX6_divisor_31 : decode cX6_divisor 31 = .ok (.lload 4, 2) := by decide +kernel
theorem dX6_divisor_33 : decode cX6_divisor 33 = .ok (.lreturn, 1) := by decide +kernel
set_option maxRecDepth 100000 in
set_option maxHeartbeats 4000000 in
theorem k_X6_divisor (κ : Kp) (ws : va_W) (a : Int) (b : Int)  (ha : (0 ≤ a ∧ a ≤ 4000000000000000000) ∧ 0 ≤ b ∧ b ≤ 4000000000000000000) : mL κ yX6_divisor cX6_divisor 10 0 [.long (iL a), .long (iL b)] ws (is1L (iL (gcdI a b)) ws) := by
  refine mL_of (by decide) (Nat.le_of_ble_eq_true rfl) (fun E F K => ?_)
  refine g_lv (lv' := [(0, .long (iL a)), (2, .long (iL b))]) rfl ?_
  refine g_lload_n F 0 dX6_divisor_0 rfl ?_
  refine g_lstore F (lv' := [(4, .long (iL a)), (0, .long (iL a)), (2, .long (iL b))]) dX6_divisor_1 (by decide) rfl ?_
  refine g_lload_n F 2 dX6_divisor_3 rfl ?_
  refine g_lstore F (lv' := [(6, .long (iL b)), (4, .long (iL a)), (0, .long (iL a)), (2, .long (iL b))]) dX6_divisor_4 (by decide) rfl ?_
  have L6 : ∀ (mz6 : Nat) (x : Int) (y : Int), y.toNat = mz6 → ((0 ≤ x ∧ x ≤ 4000000000000000000) ∧ 0 ≤ y ∧ y ≤ 4000000000000000000) → (gcdI x y = gcdI a b) → G E ws [(6, .long (iL y)), (4, .long (iL x)), (0, .long (iL a)), (2, .long (iL b))] 6 [] := by
    intro mz6
    induction mz6 using Nat.strongRecOn with
    | _ mz6 ih6 =>
    intro x y hmz6 hx hg
    refine g_lload F 0 dX6_divisor_6 rfl ?_
    refine g_lconst F (z := 0) dX6_divisor_8 rfl ?_
    refine g_lcmp F (by omega) dX6_divisor_9 ?_
    refine g_if_eq F 31 (icmp_in _ _) dX6_divisor_10 (by decide) (fun c10 => ?_) (fun c10 => ?_)
    · skip
      have c10 := icmp_eqt c10
      refine g_lload F 1 dX6_divisor_31 rfl ?_
      exact K sameA.rf ⟨congrArg iL (show x = gcdI a b by rw [← hg, c10, gcdI_0 (by omega)]), rfl⟩ dX6_divisor_33
    · skip
      have c10 := icmp_eqf c10
      refine g_lload F 1 dX6_divisor_13 rfl ?_
      refine g_lload F 0 dX6_divisor_15 rfl ?_
      refine g_lrem F dX6_divisor_17 (by omega) ?_
      refine g_lstore F (lv' := [(8, .long (iL (x % y))), (6, .long (iL y)), (4, .long (iL x)), (0, .long (iL a)), (2, .long (iL b))]) dX6_divisor_18 (by decide) rfl ?_
      refine g_lload F 1 dX6_divisor_20 rfl ?_
      refine g_lstore F (lv' := [(4, .long (iL y)), (8, .long (iL (x % y))), (6, .long (iL y)), (0, .long (iL a)), (2, .long (iL b))]) dX6_divisor_22 (by decide) rfl ?_
      refine g_lload F 1 dX6_divisor_24 rfl ?_
      refine g_lstore F (lv' := [(6, .long (iL (x % y))), (4, .long (iL y)), (8, .long (iL (x % y))), (0, .long (iL a)), (2, .long (iL b))]) dX6_divisor_26 (by decide) rfl ?_
      refine g_goto F 6 dX6_divisor_28 (by decide) ?_
      refine g_sub F (lv' := [(6, .long (iL (x % y))), (4, .long (iL y)), (0, .long (iL a)), (2, .long (iL b))]) [0, 1, 3, 4] rfl ?_
      have hm0 := Int.emod_nonneg x (show y ≠ 0 by omega)
      have hm1 := Int.emod_lt_of_pos x (show 0 < y by omega)
      exact ih6 _ (by omega) y (x % y) rfl (by omega) (by rw [gcdI_step (by omega) (by omega)]; exact hg)
  refine g_sub F (lv' := [(6, .long (iL b)), (4, .long (iL a)), (0, .long (iL a)), (2, .long (iL b))]) [0, 1, 2, 3] rfl ?_
  exact L6 _ a b rfl (by omega) rfl
theorem dX6_partOf_0 : decode cX6_partOf 0 = .ok (.lload_n 0, 1) := by decide +kernel
theorem dX6_partOf_1 : decode cX6_partOf 1 = .ok (.lconst 0, 1) := by decide +kernel
theorem dX6_partOf_2 : decode cX6_partOf 2 = .ok (.lcmp, 1) := by decide +kernel
theorem dX6_partOf_3 : decode cX6_partOf 3 = .ok (.ifCond .ne 7, 3) := by decide +kernel
theorem dX6_partOf_6 : decode cX6_partOf 6 = .ok (.iload 4, 2) := by decide +kernel
theorem dX6_partOf_8 : decode cX6_partOf 8 = .ok (.i2l, 1) := by decide +kernel
theorem dX6_partOf_9 : decode cX6_partOf 9 = .ok (.lreturn, 1) := by decide +kernel
theorem dX6_partOf_10 : decode cX6_partOf 10 = .ok (.lload_n 0, 1) := by decide +kernel
theorem dX6_partOf_11 : decode cX6_partOf 11 = .ok (.lload_n 2, 1) := by decide +kernel
theorem dX6_partOf_12 : decode cX6_partOf 12 = .ok (.invokestatic 311, 3) := by decide +kernel
theorem dX6_partOf_15 : decode cX6_partOf 15 = .ok (.lstore 5, 2) := by decide +kernel
theorem dX6_partOf_17 : decode cX6_partOf 17 = .ok (.iload 4, 2) := by decide +kernel
theorem dX6_partOf_19 : decode cX6_partOf 19 = .ok (.ifCond .ne 10, 3) := by decide +kernel
theorem dX6_partOf_22 : decode cX6_partOf 22 = .ok (.lload_n 0, 1) := by decide +kernel
theorem dX6_partOf_23 : decode cX6_partOf 23 = .ok (.lload 5, 2) := by decide +kernel
theorem dX6_partOf_25 : decode cX6_partOf 25 = .ok (.ldiv, 1) := by decide +kernel
theorem dX6_partOf_26 : decode cX6_partOf 26 = .ok (.goto 7, 3) := by decide +kernel
theorem dX6_partOf_29 : decode cX6_partOf 29 = .ok (.lload_n 2, 1) := by decide +kernel
theorem dX6_partOf_30 : decode cX6_partOf 30 = .ok (.lload 5, 2) := by decide +kernel
theorem dX6_partOf_32 : decode cX6_partOf 32 = .ok (.ldiv, 1) := by decide +kernel
theorem dX6_partOf_33 : decode cX6_partOf 33 = .ok (.lreturn, 1) := by decide +kernel
set_option maxRecDepth 100000 in
set_option maxHeartbeats 4000000 in
theorem k_X6_partOf (κ : Kp) (ws : va_W) (a : Int) (b : Int) (part : Int)  (ha : ((0 ≤ a ∧ a ≤ 4000000000000000000) ∧ 0 < b ∧ b ≤ 4000000000000000000) ∧ 0 ≤ part ∧ part ≤ 1) : mL κ yX6_partOf cX6_partOf 7 1 [.long (iL a), .long (iL b), .int (iI part)] ws (is1L (iL (prt a b part)) ws) := by
  refine mL_of (by decide) (Nat.le_of_ble_eq_true rfl) (fun E F K => ?_)
  refine g_lv (lv' := [(0, .long (iL a)), (2, .long (iL b)), (4, .int (iI part))]) rfl ?_
  refine g_lload_n F 0 dX6_partOf_0 rfl ?_
  refine g_lconst F (z := 0) dX6_partOf_1 rfl ?_
  refine g_lcmp F (by omega) dX6_partOf_2 ?_
  refine g_if_ne F 10 (icmp_in _ _) dX6_partOf_3 (by decide) (fun c3 => ?_) (fun c3 => ?_)
  · skip
    have c3 := icmp_net c3
    refine g_lload_n F 0 dX6_partOf_10 rfl ?_
    refine g_lload_n F 1 dX6_partOf_11 rfl ?_
    refine g_callSL F (stk := [.long (iL b), .long (iL a)]) (st := []) (k_X6_divisor κ ws a b (by omega)) cal_X6_divisor lm_X6_311 rfl (by decide) rfl (Nat.le_of_ble_eq_true rfl) dX6_partOf_12 (fun r12 ws12 _ hr12 => ?_)
    obtain ⟨rfl, rfl⟩ := hr12
    refine g_lstore F (lv' := [(5, .long (iL (gcdI a b))), (0, .long (iL a)), (2, .long (iL b)), (4, .int (iI part))]) dX6_partOf_15 (by decide) rfl ?_
    have hg0 := gcdI_pos (a := a) (b := b) (by omega)
    have hg1 := gcdI_le (a := a) (b := b) (by omega)
    refine g_iload F 3 dX6_partOf_17 rfl ?_
    refine g_if_ne F 29 (by omega) dX6_partOf_19 (by decide) (fun c19 => ?_) (fun c19 => ?_)
    · skip
      refine g_lload_n F 2 dX6_partOf_29 rfl ?_
      refine g_lload F 0 dX6_partOf_30 rfl ?_
      refine g_ldiv F dX6_partOf_32 (by omega) ?_
      exact K sameA.rf ⟨congrArg iL (by unfold prt; first | rw [if_pos c3] | rw [if_neg c3, if_pos c19] | rw [if_neg c3, if_neg c19]), rfl⟩ dX6_partOf_33
    · skip
      refine g_lload_n F 1 dX6_partOf_22 rfl ?_
      refine g_lload F 0 dX6_partOf_23 rfl ?_
      refine g_ldiv F dX6_partOf_25 (by omega) ?_
      refine g_goto F 33 dX6_partOf_26 (by decide) ?_
      exact K sameA.rf ⟨congrArg iL (by unfold prt; first | rw [if_pos c3] | rw [if_neg c3, if_pos c19] | rw [if_neg c3, if_neg c19]), rfl⟩ dX6_partOf_33
  · skip
    have c3 := icmp_nef c3
    refine g_iload F 2 dX6_partOf_6 rfl ?_
    refine g_i2l F (by omega) dX6_partOf_8 ?_
    exact K sameA.rf ⟨congrArg iL (by unfold prt; first | rw [if_pos c3] | rw [if_neg c3, if_pos c19] | rw [if_neg c3, if_neg c19]), rfl⟩ dX6_partOf_9
