theorem dX6_playAll_0 : decode cX6_playAll 0 = .ok (.iconst 0, 1) := by decide +kernel
theorem dX6_playAll_1 : decode cX6_playAll 1 = .ok (.istore_n 1, 1) := by decide +kernel
theorem dX6_playAll_2 : decode cX6_playAll 2 = .ok (.aload_n 0, 1) := by decide +kernel
theorem dX6_playAll_3 : decode cX6_playAll 3 = .ok (.getfield 73, 3) := by decide +kernel
theorem dX6_playAll_6 : decode cX6_playAll 6 = .ok (.iconst 0, 1) := by decide +kernel
theorem dX6_playAll_7 : decode cX6_playAll 7 = .ok (.iconst (-1), 1) := by decide +kernel
theorem dX6_playAll_8 : decode cX6_playAll 8 = .ok (.iastore, 1) := by decide +kernel
theorem dX6_playAll_9 : decode cX6_playAll 9 = .ok (.aload_n 0, 1) := by decide +kernel
theorem dX6_playAll_10 : decode cX6_playAll 10 = .ok (.getfield 76, 3) := by decide +kernel
theorem dX6_playAll_13 : decode cX6_playAll 13 = .ok (.iconst 0, 1) := by decide +kernel
theorem dX6_playAll_14 : decode cX6_playAll 14 = .ok (.iconst (-1), 1) := by decide +kernel
theorem dX6_playAll_15 : decode cX6_playAll 15 = .ok (.iastore, 1) := by decide +kernel
theorem dX6_playAll_16 : decode cX6_playAll 16 = .ok (.aload_n 0, 1) := by decide +kernel
theorem dX6_playAll_17 : decode cX6_playAll 17 = .ok (.bipush (-9), 2) := by decide +kernel
theorem dX6_playAll_19 : decode cX6_playAll 19 = .ok (.putfield 276, 3) := by decide +kernel
theorem dX6_playAll_22 : decode cX6_playAll 22 = .ok (.iload_n 1, 1) := by decide +kernel
theorem dX6_playAll_23 : decode cX6_playAll 23 = .ok (.ifCond .lt 139, 3) := by decide +kernel
theorem dX6_playAll_26 : decode cX6_playAll 26 = .ok (.aload_n 0, 1) := by decide +kernel
theorem dX6_playAll_27 : decode cX6_playAll 27 = .ok (.getfield 73, 3) := by decide +kernel
theorem dX6_playAll_30 : decode cX6_playAll 30 = .ok (.iload_n 1, 1) := by decide +kernel
theorem dX6_playAll_31 : decode cX6_playAll 31 = .ok (.dup2, 1) := by decide +kernel
theorem dX6_playAll_32 : decode cX6_playAll 32 = .ok (.iaload, 1) := by decide +kernel
theorem dX6_playAll_33 : decode cX6_playAll 33 = .ok (.iconst 1, 1) := by decide +kernel
theorem dX6_playAll_34 : decode cX6_playAll 34 = .ok (.iadd, 1) := by decide +kernel
theorem dX6_playAll_35 : decode cX6_playAll 35 = .ok (.iastore, 1) := by decide +kernel
theorem dX6_playAll_36 : decode cX6_playAll 36 = .ok (.aload_n 0, 1) := by decide +kernel
theorem dX6_playAll_37 : decode cX6_playAll 37 = .ok (.getfield 73, 3) := by decide +kernel
theorem dX6_playAll_40 : decode cX6_playAll 40 = .ok (.iload_n 1, 1) := by decide +kernel
theorem dX6_playAll_41 : decode cX6_playAll 41 = .ok (.iaload, 1) := by decide +kernel
theorem dX6_playAll_42 : decode cX6_playAll 42 = .ok (.bipush 12, 2) := by decide +kernel
theorem dX6_playAll_44 : decode cX6_playAll 44 = .ok (.aload_n 0, 1) := by decide +kernel
theorem dX6_playAll_45 : decode cX6_playAll 45 = .ok (.getfield 264, 3) := by decide +kernel
theorem dX6_playAll_48 : decode cX6_playAll 48 = .ok (.imul, 1) := by decide +kernel
theorem dX6_playAll_49 : decode cX6_playAll 49 = .ok (.if_icmp .ge 24, 3) := by decide +kernel
theorem dX6_playAll_52 : decode cX6_playAll 52 = .ok (.aload_n 0, 1) := by decide +kernel
theorem dX6_playAll_53 : decode cX6_playAll 53 = .ok (.iload_n 1, 1) := by decide +kernel
theorem dX6_playAll_54 : decode cX6_playAll 54 = .ok (.invokevirtual 279, 3) := by decide +kernel
theorem dX6_playAll_57 : decode cX6_playAll 57 = .ok (.ifCond .ne 16, 3) := by decide +kernel
theorem dX6_playAll_60 : decode cX6_playAll 60 = .ok (.aload_n 0, 1) := by decide +kernel
theorem dX6_playAll_61 : decode cX6_playAll 61 = .ok (.getfield 73, 3) := by decide +kernel
theorem dX6_playAll_64 : decode cX6_playAll 64 = .ok (.iload_n 1, 1) := by decide +kernel
theorem dX6_playAll_65 : decode cX6_playAll 65 = .ok (.dup2, 1) := by decide +kernel
theorem dX6_playAll_66 : decode cX6_playAll 66 = .ok (.iaload, 1) := by decide +kernel
theorem dX6_playAll_67 : decode cX6_playAll 67 = .ok (.iconst 1, 1) := by decide +kernel
theorem dX6_playAll_68 : decode cX6_playAll 68 = .ok (.iadd, 1) := by decide +kernel
theorem dX6_playAll_69 : decode cX6_playAll 69 = .ok (.iastore, 1) := by decide +kernel
theorem dX6_playAll_70 : decode cX6_playAll 70 = .ok (.goto (-34), 3) := by decide +kernel
theorem dX6_playAll_73 : decode cX6_playAll 73 = .ok (.aload_n 0, 1) := by decide +kernel
theorem dX6_playAll_74 : decode cX6_playAll 74 = .ok (.getfield 73, 3) := by decide +kernel
theorem dX6_playAll_77 : decode cX6_playAll 77 = .ok (.iload_n 1, 1) := by decide +kernel
theorem dX6_playAll_78 : decode cX6_playAll 78 = .ok (.iaload, 1) := by decide +kernel
theorem dX6_playAll_79 : decode cX6_playAll 79 = .ok (.bipush 12, 2) := by decide +kernel
theorem dX6_playAll_81 : decode cX6_playAll 81 = .ok (.aload_n 0, 1) := by decide +kernel
theorem dX6_playAll_82 : decode cX6_playAll 82 = .ok (.getfield 264, 3) := by decide +kernel
theorem dX6_playAll_85 : decode cX6_playAll 85 = .ok (.imul, 1) := by decide +kernel
theorem dX6_playAll_86 : decode cX6_playAll 86 = .ok (.if_icmp .ne 26, 3) := by decide +kernel
theorem dX6_playAll_89 : decode cX6_playAll 89 = .ok (.iinc 1 (-1), 3) := by decide +kernel
theorem dX6_playAll_92 : decode cX6_playAll 92 = .ok (.iload_n 1, 1) := by decide +kernel
theorem dX6_playAll_93 : decode cX6_playAll 93 = .ok (.ifCond .lt (-71), 3) := by decide +kernel
theorem dX6_playAll_96 : decode cX6_playAll 96 = .ok (.aload_n 0, 1) := by decide +kernel
theorem dX6_playAll_97 : decode cX6_playAll 97 = .ok (.iload_n 1, 1) := by decide +kernel
theorem dX6_playAll_98 : decode cX6_playAll 98 = .ok (.aload_n 0, 1) := by decide +kernel
theorem dX6_playAll_99 : decode cX6_playAll 99 = .ok (.getfield 76, 3) := by decide +kernel
theorem dX6_playAll_102 : decode cX6_playAll 102 = .ok (.iload_n 1, 1) := by decide +kernel
theorem dX6_playAll_103 : decode cX6_playAll 103 = .ok (.iconst 1, 1) := by decide +kernel
theorem dX6_playAll_104 : decode cX6_playAll 104 = .ok (.iadd, 1) := by decide +kernel
theorem dX6_playAll_105 : decode cX6_playAll 105 = .ok (.iaload, 1) := by decide +kernel
theorem dX6_playAll_106 : decode cX6_playAll 106 = .ok (.invokevirtual 282, 3) := by decide +kernel
theorem dX6_playAll_109 : decode cX6_playAll 109 = .ok (.goto (-87), 3) := by decide +kernel
theorem dX6_playAll_112 : decode cX6_playAll 112 = .ok (.iload_n 1, 1) := by decide +kernel
theorem dX6_playAll_113 : decode cX6_playAll 113 = .ok (.iconst 1, 1) := by decide +kernel
theorem dX6_playAll_114 : decode cX6_playAll 114 = .ok (.iadd, 1) := by decide +kernel
theorem dX6_playAll_115 : decode cX6_playAll 115 = .ok (.aload_n 0, 1) := by decide +kernel
theorem dX6_playAll_116 : decode cX6_playAll 116 = .ok (.getfield 264, 3) := by decide +kernel
theorem dX6_playAll_119 : decode cX6_playAll 119 = .ok (.if_icmp .ne 23, 3) := by decide +kernel
theorem dX6_playAll_122 : decode cX6_playAll 122 = .ok (.aload_n 0, 1) := by decide +kernel
theorem dX6_playAll_123 : decode cX6_playAll 123 = .ok (.aload_n 0, 1) := by decide +kernel
theorem dX6_playAll_124 : decode cX6_playAll 124 = .ok (.getfield 264, 3) := by decide +kernel
theorem dX6_playAll_127 : decode cX6_playAll 127 = .ok (.invokevirtual 285, 3) := by decide +kernel
theorem dX6_playAll_130 : decode cX6_playAll 130 = .ok (.aload_n 0, 1) := by decide +kernel
theorem dX6_playAll_131 : decode cX6_playAll 131 = .ok (.iload_n 1, 1) := by decide +kernel
theorem dX6_playAll_132 : decode cX6_playAll 132 = .ok (.aload_n 0, 1) := by decide +kernel
theorem dX6_playAll_133 : decode cX6_playAll 133 = .ok (.invokevirtual 234, 3) := by decide +kernel
theorem dX6_playAll_136 : decode cX6_playAll 136 = .ok (.invokevirtual 282, 3) := by decide +kernel
theorem dX6_playAll_139 : decode cX6_playAll 139 = .ok (.goto (-117), 3) := by decide +kernel
theorem dX6_playAll_142 : decode cX6_playAll 142 = .ok (.iinc 1 1, 3) := by decide +kernel
theorem dX6_playAll_145 : decode cX6_playAll 145 = .ok (.aload_n 0, 1) := by decide +kernel
theorem dX6_playAll_146 : decode cX6_playAll 146 = .ok (.getfield 73, 3) := by decide +kernel
theorem dX6_playAll_149 : decode cX6_playAll 149 = .ok (.iload_n 1, 1) := by decide +kernel
theorem dX6_playAll_150 : decode cX6_playAll 150 = .ok (.iconst (-1), 1) := by decide +kernel
theorem dX6_playAll_151 : decode cX6_playAll 151 = .ok (.iastore, 1) := by decide +kernel
theorem dX6_playAll_152 : decode cX6_playAll 152 = .ok (.aload_n 0, 1) := by decide +kernel
theorem dX6_playAll_153 : decode cX6_playAll 153 = .ok (.getfield 76, 3) := by decide +kernel
theorem dX6_playAll_156 : decode cX6_playAll 156 = .ok (.iload_n 1, 1) := by decide +kernel
theorem dX6_playAll_157 : decode cX6_playAll 157 = .ok (.iconst (-1), 1) := by decide +kernel
theorem dX6_playAll_158 : decode cX6_playAll 158 = .ok (.iastore, 1) := by decide +kernel
theorem dX6_playAll_159 : decode cX6_playAll 159 = .ok (.goto (-137), 3) := by decide +kernel
theorem dX6_playAll_162 : decode cX6_playAll 162 = .ok (.aload_n 0, 1) := by decide +kernel
theorem dX6_playAll_163 : decode cX6_playAll 163 = .ok (.invokevirtual 197, 3) := by decide +kernel
theorem dX6_playAll_166 : decode cX6_playAll 166 = .ok (.return_, 1) := by decide +kernel
set_option maxRecDepth 100000 in
set_option maxHeartbeats 4000000 in
theorem k_X6_playAll (κ : Kp) (ma : Nat → Nat) (M M0 : MS) (hS : ∀ z : Int, 0 ≤ z → z < 74 → M 20 z = snapF M0 z) (hn : 1 ≤ M 31 0 ∧ M 31 0 ≤ 3) (hf6 : ∀ i : Int, 0 ≤ i → i < M 31 0 → 0 ≤ M 30 i ∧ M 30 i < 6) (ok : okC (cl M0)) (hpr : ∀ i : Int, 0 ≤ i → i < M 31 0 → (0 ≤ M0 6 (M 30 i) ∧ M0 6 (M 30 i) ≤ 5) ∧ (0 ≤ M0 7 (M 30 i) ∧ M0 7 (M 30 i) ≤ 9) ∧ 0 ≤ M0 8 (M 30 i) ∧ M0 8 (M 30 i) ≤ 99) : mV κ yX6_playAll cX6_playAll 2 4 [.ref (ma 100)] (mw κ ma M) (fun w => ∃ (T Wt : Int → Int) (ft : Int) (Gm : MS), w = mw κ ma (agn (mA (mA (mA (pst M Gm) 34 T) 35 Wt) 36 (fun _ => ft)) M0) ∧ Wt 0 = (pr0 (leaf (cl M0) (M0 6) (M0 7) (M0 8) (M 30) (M 31 0)) (M 31 0) (12 * M 31 0)).2 ∧ ft = (pr0 (leaf (cl M0) (M0 6) (M0 7) (M0 8) (M 30) (M 31 0)) (M 31 0) (12 * M 31 0)).1) := by
  refine mV_of (by decide) (Nat.le_of_ble_eq_true rfl) (fun E F K => ?_)
  refine g_lv (lv' := [(0, .ref (ma 100))]) rfl ?_
  refine g_iconst F dX6_playAll_0 ?_
  refine g_istore_n F (lv' := [(1, .int (iI 0)), (0, .ref (ma 100))]) 1 dX6_playAll_1 rfl (by decide) rfl ?_
  refine g_aload_n F 1 dX6_playAll_2 rfl ?_
  refine gm_get_34 F dX6_playAll_3 ?_
  refine g_iconst F dX6_playAll_6 ?_
  refine g_iconst F dX6_playAll_7 ?_
  refine gm_ast_34 F (by omega) dX6_playAll_8 ?_
  refine g_aload_n F 1 dX6_playAll_9 rfl ?_
  refine gm_get_35 F dX6_playAll_10 ?_
  refine g_iconst F dX6_playAll_13 ?_
  refine g_iconst F dX6_playAll_14 ?_
  refine gm_ast_35 F (by omega) dX6_playAll_15 ?_
  refine g_ws (ws' := mw κ ma (mA (mA M 34 (uI (M 34) 0 (-1))) 35 (uI (M 35) 0 (-1)))) rfl ?_
  refine g_aload_n F 1 dX6_playAll_16 rfl ?_
  refine g_bipush F dX6_playAll_17 (by decide +kernel) ?_
  refine gm_put_36 F dX6_playAll_19 ?_
  have L22 : ∀ (mz22 : Nat) (d : Int) (T : Int → Int) (Wt : Int → Int) (ft : Int) (Gm : MS), (msr T d).toNat = mz22 → (-1 ≤ d ∧ d < M 31 0) → (J (leaf (cl M0) (M0 6) (M0 7) (M0 8) (M 30) (M 31 0)) (M 31 0) T Wt ft d) → G E (mw κ ma (mA (mA (mA (pst M Gm) 34 T) 35 Wt) 36 (fun _ => ft))) [(1, .int (iI d)), (0, .ref (ma 100))] 22 [] := by
    intro mz22
    induction mz22 using Nat.strongRecOn with
    | _ mz22 ih22 =>
    intro d T Wt ft Gm hmz22 hd hJ
    refine g_iload_n F 0 dX6_playAll_22 rfl ?_
    refine g_if_lt F 162 (by omega) dX6_playAll_23 (by decide) (fun c23 => ?_) (fun c23 => ?_)
    · skip
      refine g_aload_n F 1 dX6_playAll_162 rfl ?_
      refine g_callV F (stk := [.ref (ma 100)]) (st := []) (k_X6_again κ ma (mA (mA (mA (pst M Gm) 34 T) 35 Wt) 36 (fun _ => ft)) M0 hS) cal_X6_again lm_X6_197 0 rfl rfl rfl rfl (by decide) rfl (Nat.le_of_ble_eq_true rfl) dX6_playAll_163 (fun ws163 _ hr163 => ?_)
      obtain rfl := hr163
      exact K mw_same ⟨T, Wt, ft, Gm, rfl, J_fin (fun a => allPull_bd (asC_ok ok hpr).A) hn.1 hn.2 hJ (by omega)⟩ dX6_playAll_166
    · skip
      have hR := J_rng hJ (by omega)
      have hlf : okL (leaf (cl M0) (M0 6) (M0 7) (M0 8) (M 30) (M 31 0)) := fun a => allPull_bd (asC_ok ok hpr).A
      refine g_aload_n F 1 dX6_playAll_26 rfl ?_
      refine gm_get_34 F dX6_playAll_27 ?_
      refine g_iload_n F 0 dX6_playAll_30 rfl ?_
      refine g_dup2 F dX6_playAll_31 rfl rfl ?_
      refine gm_ald_34 F (by omega) dX6_playAll_32 ?_
      refine g_top (y := iI (T d)) rfl ?_
      refine g_iconst F dX6_playAll_33 ?_
      refine g_iadd F dX6_playAll_34 ?_
      refine gm_ast_34 F (by omega) dX6_playAll_35 ?_
      refine g_ws (ws' := mw κ ma (mA (mA (mA (mA (pst M Gm) 34 T) 35 Wt) 36 (fun _ => ft)) 34 (uI T d ((T d) + 1)))) rfl ?_
      have L36 : ∀ (mz36 : Nat) (T1 : Int → Int), (12 * M 31 0 - T1 d).toNat = mz36 → (JI (leaf (cl M0) (M0 6) (M0 7) (M0 8) (M 30) (M 31 0)) (M 31 0) T1 Wt ft d) → ((∀ e : Int, e ≠ d → T1 e = T e) ∧ T d < T1 d) → G E (mw κ ma (mA (mA (mA (pst M Gm) 34 T1) 35 Wt) 36 (fun _ => ft))) [(1, .int (iI d)), (0, .ref (ma 100))] 36 [] := by
        intro mz36
        induction mz36 using Nat.strongRecOn with
        | _ mz36 ih36 =>
        intro T1 hmz36 hJI hT1
        refine g_aload_n F 1 dX6_playAll_36 rfl ?_
        refine gm_get_34 F dX6_playAll_37 ?_
        refine g_iload_n F 0 dX6_playAll_40 rfl ?_
        have hq1 := (hJI.2.1 d (by omega) (Int.le_refl _)).1
        refine gm_ald_34 F (by omega) dX6_playAll_41 ?_
        refine g_top (y := iI (T1 d)) rfl ?_
        refine g_bipush F dX6_playAll_42 (by decide +kernel) ?_
        refine g_aload_n F 1 dX6_playAll_44 rfl ?_
        refine gm_get_31 F dX6_playAll_45 ?_
        refine g_top (y := iI (M 31 0)) rfl ?_
        refine g_imul F dX6_playAll_48 ?_
        refine g_icmp_ge F 73 (by omega) dX6_playAll_49 (by decide) (fun c49 => ?_) (fun c49 => ?_)
        · skip
          refine g_aload_n F 1 dX6_playAll_73 rfl ?_
          refine gm_get_34 F dX6_playAll_74 ?_
          refine g_iload_n F 0 dX6_playAll_77 rfl ?_
          refine gm_ald_34 F (by omega) dX6_playAll_78 ?_
          refine g_top (y := iI (T1 d)) rfl ?_
          refine g_bipush F dX6_playAll_79 (by decide +kernel) ?_
          refine g_aload_n F 1 dX6_playAll_81 rfl ?_
          refine gm_get_31 F dX6_playAll_82 ?_
          refine g_top (y := iI (M 31 0)) rfl ?_
          refine g_imul F dX6_playAll_85 ?_
          refine g_icmp_ne F 112 (by omega) dX6_playAll_86 (by decide) (fun c86 => ?_) (fun c86 => ?_)
          · skip
            exact absurd trivial (by omega)
          · skip
            refine g_iinc F (lv' := [(1, .int (iI (d + (-1)))), (0, .ref (ma 100))]) 0 dX6_playAll_89 rfl (by decide) rfl ?_
            refine g_iload_n F 0 dX6_playAll_92 rfl ?_
            refine g_if_lt F 22 (by omega) dX6_playAll_93 (by decide) (fun c93 => ?_) (fun c93 => ?_)
            · skip
              refine g_sub F (lv' := [(1, .int (iI (d + (-1)))), (0, .ref (ma 100))]) [0, 1] rfl ?_
              refine g_ws (ws' := mw κ ma (mA (mA (mA (pst M (mA (mA (mA (pst M Gm) 34 T1) 35 Wt) 36 (fun _ => ft))) 34 T1) 35 Wt) 36 (fun _ => ft))) (pw_i2 M _ _ _ _) ?_
              exact ih22 _ (by rw [← hmz22]; exact ms_up ⟨by omega, by omega⟩ hn.2 hR.2.1 hR.2.2 hT1.1) (d + (-1)) T1 Wt ft (mA (mA (mA (pst M Gm) 34 T1) 35 Wt) 36 (fun _ => ft)) rfl (by omega) (by have e : d = 0 := (by omega); subst e; exact J_end hJI (by omega))
            · skip
              have hpop := J_pop hlf hn.2 hJI (by omega) (by omega)
              have hw32 := JI_w32 hlf hn.2 hJI (d - 1) (by omega) (by omega)
              refine g_aload_n F 1 dX6_playAll_96 rfl ?_
              refine g_iload_n F 0 dX6_playAll_97 rfl ?_
              refine g_aload_n F 1 dX6_playAll_98 rfl ?_
              refine gm_get_35 F dX6_playAll_99 ?_
              refine g_iload_n F 0 dX6_playAll_102 rfl ?_
              refine g_iconst F dX6_playAll_103 ?_
              refine g_iadd F dX6_playAll_104 ?_
              refine gm_ald_35 F (by omega) dX6_playAll_105 ?_
              refine g_top (y := iI (Wt ((d + (-1)) + 1))) rfl ?_
              refine g_top (y := iI (Wt d)) (iIc (by rw [show d + (-1) + 1 = d by omega])) ?_
              refine g_callV F (stk := [.int (iI (Wt d)), .int (iI (d + (-1))), .ref (ma 100)]) (st := []) (k_X6_takeWorth κ ma (mA (mA (mA (pst M Gm) 34 T1) 35 Wt) 36 (fun _ => ft)) (d + (-1)) (Wt d) (show (0 ≤ d + (-1) ∧ d + (-1) < 3) ∧ 0 ≤ Wt d ∧ Wt d ≤ 3000 from ⟨by omega, hpop.2⟩) hw32) cal_X6_takeWorth lm_X6_282 0 rfl rfl rfl rfl (by decide) rfl (Nat.le_of_ble_eq_true rfl) dX6_playAll_106 (fun ws106 _ hr106 => ?_)
              obtain rfl := hr106
              refine g_ws (ws' := mw κ ma (mA (mA (mA (mA (mA (pst M Gm) 34 T1) 35 Wt) 36 (fun _ => ft)) 35 (tkW Wt (d + (-1)) (Wt d))) 36 (fun _ => tkF T1 Wt ft (d + (-1)) (Wt d)))) rfl ?_
              refine g_goto F 22 dX6_playAll_109 (by decide) ?_
              refine g_sub F (lv' := [(1, .int (iI (d + (-1)))), (0, .ref (ma 100))]) [0, 1] rfl ?_
              refine g_ws (ws' := mw κ ma (mA (mA (mA (pst M (mA (mA (mA (mA (mA (pst M Gm) 34 T1) 35 Wt) 36 (fun _ => ft)) 35 (tkW Wt (d + (-1)) (Wt d))) 36 (fun _ => tkF T1 Wt ft (d + (-1)) (Wt d)))) 34 T1) 35 (tkW Wt (d + (-1)) (Wt d))) 36 (fun _ => (tkF T1 Wt ft (d + (-1)) (Wt d))))) (pw_d M _ _ _ _ _ _) ?_
              exact ih22 _ (by rw [← hmz22]; exact ms_up ⟨by omega, by omega⟩ hn.2 hR.2.1 hR.2.2 hT1.1) (d + (-1)) T1 (tkW Wt (d + (-1)) (Wt d)) (tkF T1 Wt ft (d + (-1)) (Wt d)) (mA (mA (mA (mA (mA (pst M Gm) 34 T1) 35 Wt) 36 (fun _ => ft)) 35 (tkW Wt (d + (-1)) (Wt d))) 36 (fun _ => tkF T1 Wt ft (d + (-1)) (Wt d))) rfl (by omega) hpop.1
        · skip
          refine g_aload_n F 1 dX6_playAll_52 rfl ?_
          refine g_iload_n F 0 dX6_playAll_53 rfl ?_
          refine g_callI F (stk := [.int (iI d), .ref (ma 100)]) (st := []) (k_X6_canTry κ ma (mA (mA (mA (pst M Gm) 34 T1) 35 Wt) 36 (fun _ => ft)) d (show (0 ≤ d ∧ d < 3) ∧ 1 ≤ (M 31 0) ∧ (M 31 0) ≤ 3 from by omega) hJI.2.2.1 (show 0 ≤ T1 d ∧ T1 d < 12 * M 31 0 from by omega)) cal_X6_canTry lm_X6_279 0 rfl rfl rfl rfl (by decide) rfl (Nat.le_of_ble_eq_true rfl) dX6_playAll_54 (fun r54 ws54 _ hr54 => ?_)
          obtain ⟨rfl, rfl⟩ := hr54
          refine g_top (y := iI (b2i (legal (adI T1 d) ((M 31 0)) (T1 d)))) rfl ?_
          refine g_if_ne F 73 (b2i_in _) dX6_playAll_57 (by decide) (fun c57 => ?_) (fun c57 => ?_)
          · skip
            have c57 : legal (adI T1 d) ((M 31 0)) (T1 d) := b2i_t c57
            replace c57 : lgd (adI T1 d) (M 31 0) (T1 d) := c57
            refine g_aload_n F 1 dX6_playAll_73 rfl ?_
            refine gm_get_34 F dX6_playAll_74 ?_
            refine g_iload_n F 0 dX6_playAll_77 rfl ?_
            refine gm_ald_34 F (by omega) dX6_playAll_78 ?_
            refine g_top (y := iI (T1 d)) rfl ?_
            refine g_bipush F dX6_playAll_79 (by decide +kernel) ?_
            refine g_aload_n F 1 dX6_playAll_81 rfl ?_
            refine gm_get_31 F dX6_playAll_82 ?_
            refine g_top (y := iI (M 31 0)) rfl ?_
            refine g_imul F dX6_playAll_85 ?_
            refine g_icmp_ne F 112 (by omega) dX6_playAll_86 (by decide) (fun c86 => ?_) (fun c86 => ?_)
            · skip
              refine g_iload_n F 0 dX6_playAll_112 rfl ?_
              refine g_iconst F dX6_playAll_113 ?_
              refine g_iadd F dX6_playAll_114 ?_
              refine g_aload_n F 1 dX6_playAll_115 rfl ?_
              refine gm_get_31 F dX6_playAll_116 ?_
              refine g_top (y := iI (M 31 0)) rfl ?_
              refine g_icmp_ne F 142 (by omega) dX6_playAll_119 (by decide) (fun c119 => ?_) (fun c119 => ?_)
              · skip
                refine g_iinc F (lv' := [(1, .int (iI (d + 1))), (0, .ref (ma 100))]) 0 dX6_playAll_142 rfl (by decide) rfl ?_
                refine g_aload_n F 1 dX6_playAll_145 rfl ?_
                refine gm_get_34 F dX6_playAll_146 ?_
                refine g_iload_n F 0 dX6_playAll_149 rfl ?_
                refine g_iconst F dX6_playAll_150 ?_
                refine gm_ast_34 F (by omega) dX6_playAll_151 ?_
                refine g_ws (ws' := mw κ ma (mA (mA (mA (mA (pst M Gm) 34 T1) 35 Wt) 36 (fun _ => ft)) 34 (uI T1 (d + 1) (-1)))) rfl ?_
                refine g_aload_n F 1 dX6_playAll_152 rfl ?_
                refine gm_get_35 F dX6_playAll_153 ?_
                refine g_iload_n F 0 dX6_playAll_156 rfl ?_
                refine g_iconst F dX6_playAll_157 ?_
                refine gm_ast_35 F (by omega) dX6_playAll_158 ?_
                refine g_ws (ws' := mw κ ma (mA (mA (mA (mA (mA (pst M Gm) 34 T1) 35 Wt) 36 (fun _ => ft)) 34 (uI T1 (d + 1) (-1))) 35 (uI Wt (d + 1) (-1)))) rfl ?_
                refine g_goto F 22 dX6_playAll_159 (by decide) ?_
                refine g_sub F (lv' := [(1, .int (iI (d + 1))), (0, .ref (ma 100))]) [0, 1] rfl ?_
                refine g_ws (ws' := mw κ ma (mA (mA (mA (pst M (mA (mA (mA (mA (mA (pst M Gm) 34 T1) 35 Wt) 36 (fun _ => ft)) 34 (uI T1 (d + 1) (-1))) 35 (uI Wt (d + 1) (-1)))) 34 (uI T1 (d + 1) (-1))) 35 (uI Wt (d + 1) (-1))) 36 (fun _ => ft))) (pw_f M _ _ _ _ _ _) ?_
                exact ih22 _ (by rw [← hmz22]; exact ms_dn ⟨by omega, by omega⟩ hn.2 hR.2.1 hR.2.2 hT1.1 hT1.2) (d + 1) (uI T1 (d + 1) (-1)) (uI Wt (d + 1) (-1)) ft (mA (mA (mA (mA (mA (pst M Gm) 34 T1) 35 Wt) 36 (fun _ => ft)) 34 (uI T1 (d + 1) (-1))) 35 (uI Wt (d + 1) (-1))) rfl (by omega) (J_push hJI (by omega) c57 (by omega))
              · skip
                have hlt : lgT T1 (M 31 0) (M 31 0) := by have q := lgT_s hJI.2.2.1 (by omega) c57; rw [show d + 1 = M 31 0 by omega] at q; exact q
                have hv : allPull (asC (cl M0) (M0 6) (M0 7) (M0 8) (M 30) (adI T1 (M 31 0)) (M 31 0)) = vF (leaf (cl M0) (M0 6) (M0 7) (M0 8) (M 30) (M 31 0)) (M 31 0) (M 31 0 - d - 1).toNat d (adI T1 d) (T1 d) := by rw [show (M 31 0 - d - 1).toNat = 0 by omega]; show _ = leaf (cl M0) (M0 6) (M0 7) (M0 8) (M 30) (M 31 0) (uI (adI T1 d) (T1 d / 12) (T1 d % 12)); rw [← ad_s T1 (d := d) (by omega), show d + 1 = M 31 0 by omega]
                have hjt := J_take hlf hn.2 hJI (by omega) c57 hv
                have hw32 := JI_w32 hlf hn.2 hJI d (by omega) (by omega)
                refine g_aload_n F 1 dX6_playAll_122 rfl ?_
                refine g_aload_n F 1 dX6_playAll_123 rfl ?_
                refine gm_get_31 F dX6_playAll_124 ?_
                refine g_top (y := iI (M 31 0)) rfl ?_
                refine g_callV F (stk := [.int (iI (M 31 0)), .ref (ma 100)]) (st := []) (k_X6_layTried κ ma (mA (mA (mA (pst M Gm) 34 T1) 35 Wt) 36 (fun _ => ft)) M0 hS hn hf6 hlt) cal_X6_layTried lm_X6_285 0 rfl rfl rfl rfl (by decide) rfl (Nat.le_of_ble_eq_true rfl) dX6_playAll_127 (fun ws127 _ hr127 => ?_)
                obtain ⟨uu, rfl⟩ := hr127
                refine g_ws (ws' := mw κ ma (mA (stC (agn (mA (mA (mA (pst M Gm) 34 T1) 35 Wt) 36 (fun _ => ft)) M0) (asC (cl M0) (M0 6) (M0 7) (M0 8) (M 30) (adI T1 (M 31 0)) (M 31 0))) 9 uu)) rfl ?_
                refine g_aload_n F 1 dX6_playAll_130 rfl ?_
                refine g_iload_n F 0 dX6_playAll_131 rfl ?_
                refine g_aload_n F 1 dX6_playAll_132 rfl ?_
                refine g_callI F (stk := [.ref (ma 100), .int (iI d), .ref (ma 100)]) (st := [.int (iI d), .ref (ma 100)]) (k_X6_allPull κ ma (mA (stC (agn (mA (mA (mA (pst M Gm) 34 T1) 35 Wt) 36 (fun _ => ft)) M0) (asC (cl M0) (M0 6) (M0 7) (M0 8) (M 30) (adI T1 (M 31 0)) (M 31 0))) 9 uu) (asC_ok ok hpr).A) cal_X6_allPull lm_X6_234 0 rfl rfl rfl rfl (by decide) rfl (Nat.le_of_ble_eq_true rfl) dX6_playAll_133 (fun r133 ws133 _ hr133 => ?_)
                obtain ⟨rfl, rfl⟩ := hr133
                refine g_top (y := iI (allPull (asC (cl M0) (M0 6) (M0 7) (M0 8) (M 30) (adI T1 (M 31 0)) (M 31 0)))) rfl ?_
                refine g_callV F (stk := [.int (iI (allPull (asC (cl M0) (M0 6) (M0 7) (M0 8) (M 30) (adI T1 (M 31 0)) (M 31 0)))), .int (iI d), .ref (ma 100)]) (st := []) (k_X6_takeWorth κ ma (mA (stC (agn (mA (mA (mA (pst M Gm) 34 T1) 35 Wt) 36 (fun _ => ft)) M0) (asC (cl M0) (M0 6) (M0 7) (M0 8) (M 30) (adI T1 (M 31 0)) (M 31 0))) 9 uu) d (allPull (asC (cl M0) (M0 6) (M0 7) (M0 8) (M 30) (adI T1 (M 31 0)) (M 31 0))) ⟨by omega, hjt.2⟩ hw32) cal_X6_takeWorth lm_X6_282 0 rfl rfl rfl rfl (by decide) rfl (Nat.le_of_ble_eq_true rfl) dX6_playAll_136 (fun ws136 _ hr136 => ?_)
                obtain rfl := hr136
                refine g_ws (ws' := mw κ ma (mA (mA (mA (stC (agn (mA (mA (mA (pst M Gm) 34 T1) 35 Wt) 36 (fun _ => ft)) M0) (asC (cl M0) (M0 6) (M0 7) (M0 8) (M 30) (adI T1 (M 31 0)) (M 31 0))) 9 uu) 35 (tkW Wt d (allPull (asC (cl M0) (M0 6) (M0 7) (M0 8) (M 30) (adI T1 (M 31 0)) (M 31 0))))) 36 (fun _ => tkF T1 Wt ft d (allPull (asC (cl M0) (M0 6) (M0 7) (M0 8) (M 30) (adI T1 (M 31 0)) (M 31 0)))))) rfl ?_
                refine g_goto F 22 dX6_playAll_139 (by decide) ?_
                refine g_sub F (lv' := [(1, .int (iI d)), (0, .ref (ma 100))]) [0, 1] rfl ?_
                refine g_ws (ws' := mw κ ma (mA (mA (mA (pst M (mA (mA (mA (stC (agn (mA (mA (mA (pst M Gm) 34 T1) 35 Wt) 36 (fun _ => ft)) M0) (asC (cl M0) (M0 6) (M0 7) (M0 8) (M 30) (adI T1 (M 31 0)) (M 31 0))) 9 uu) 35 (tkW Wt d (allPull (asC (cl M0) (M0 6) (M0 7) (M0 8) (M 30) (adI T1 (M 31 0)) (M 31 0))))) 36 (fun _ => tkF T1 Wt ft d (allPull (asC (cl M0) (M0 6) (M0 7) (M0 8) (M 30) (adI T1 (M 31 0)) (M 31 0)))))) 34 T1) 35 (tkW Wt d (allPull (asC (cl M0) (M0 6) (M0 7) (M0 8) (M 30) (adI T1 (M 31 0)) (M 31 0))))) 36 (fun _ => (tkF T1 Wt ft d (allPull (asC (cl M0) (M0 6) (M0 7) (M0 8) (M 30) (adI T1 (M 31 0)) (M 31 0))))))) (pw_e M M0 _ _ _ _ _ _ _ _) ?_
                exact ih22 _ (by rw [← hmz22]; exact ms_eq ⟨by omega, by omega⟩ hn.2 hR.2.1 hR.2.2 hT1.1 hT1.2) d T1 (tkW Wt d (allPull (asC (cl M0) (M0 6) (M0 7) (M0 8) (M 30) (adI T1 (M 31 0)) (M 31 0)))) (tkF T1 Wt ft d (allPull (asC (cl M0) (M0 6) (M0 7) (M0 8) (M 30) (adI T1 (M 31 0)) (M 31 0)))) (mA (mA (mA (stC (agn (mA (mA (mA (pst M Gm) 34 T1) 35 Wt) 36 (fun _ => ft)) M0) (asC (cl M0) (M0 6) (M0 7) (M0 8) (M 30) (adI T1 (M 31 0)) (M 31 0))) 9 uu) 35 (tkW Wt d (allPull (asC (cl M0) (M0 6) (M0 7) (M0 8) (M 30) (adI T1 (M 31 0)) (M 31 0))))) 36 (fun _ => tkF T1 Wt ft d (allPull (asC (cl M0) (M0 6) (M0 7) (M0 8) (M 30) (adI T1 (M 31 0)) (M 31 0))))) rfl (by omega) hjt.1
            · skip
              exact absurd trivial (by omega)
          · skip
            have c57 : ¬ (legal (adI T1 d) ((M 31 0)) (T1 d)) := b2i_f c57
            replace c57 : ¬ lgd (adI T1 d) (M 31 0) (T1 d) := c57
            refine g_aload_n F 1 dX6_playAll_60 rfl ?_
            refine gm_get_34 F dX6_playAll_61 ?_
            refine g_iload_n F 0 dX6_playAll_64 rfl ?_
            refine g_dup2 F dX6_playAll_65 rfl rfl ?_
            refine gm_ald_34 F (by omega) dX6_playAll_66 ?_
            refine g_top (y := iI (T1 d)) rfl ?_
            refine g_iconst F dX6_playAll_67 ?_
            refine g_iadd F dX6_playAll_68 ?_
            refine gm_ast_34 F (by omega) dX6_playAll_69 ?_
            refine g_ws (ws' := mw κ ma (mA (mA (mA (mA (pst M Gm) 34 T1) 35 Wt) 36 (fun _ => ft)) 34 (uI T1 d ((T1 d) + 1)))) rfl ?_
            refine g_goto F 36 dX6_playAll_70 (by decide) ?_
            refine g_sub F (lv' := [(1, .int (iI d)), (0, .ref (ma 100))]) [0, 1] rfl ?_
            refine g_ws (ws' := mw κ ma (mA (mA (mA (pst M Gm) 34 (uI T1 d ((T1 d) + 1))) 35 Wt) 36 (fun _ => ft))) (pw_i M _ _ _ _ _) ?_
            exact ih36 _ (by rw [uI_s]; omega) (uI T1 d ((T1 d) + 1)) rfl (JI_skip hJI c57 (by omega)) ⟨fun e q => by rw [uI_n q]; exact hT1.1 e q, by rw [uI_s]; omega⟩
      refine g_sub F (lv' := [(1, .int (iI d)), (0, .ref (ma 100))]) [0, 1] rfl ?_
      refine g_ws (ws' := mw κ ma (mA (mA (mA (pst M Gm) 34 (uI T d ((T d) + 1))) 35 Wt) 36 (fun _ => ft))) (pw_i M _ _ _ _ _) ?_
      exact L36 _ (uI T d ((T d) + 1)) rfl hR.1 ⟨fun e q => uI_n q, by rw [uI_s]; omega⟩
  refine g_sub F (lv' := [(1, .int (iI 0)), (0, .ref (ma 100))]) [0, 1] rfl ?_
  refine g_ws (ws' := mw κ ma (mA (mA (mA (pst M (mA (mA (mA M 34 (uI (M 34) 0 (-1))) 35 (uI (M 35) 0 (-1))) 36 (fun _ => -9))) 34 (uI (M 34) 0 (-1))) 35 (uI (M 35) 0 (-1))) 36 (fun _ => (-9)))) (pw_0 M _ _ _) ?_
  exact L22 _ 0 (uI (M 34) 0 (-1)) (uI (M 35) 0 (-1)) (-9) (mA (mA (mA M 34 (uI (M 34) 0 (-1))) 35 (uI (M 35) 0 (-1))) 36 (fun _ => -9)) rfl (by omega) (J_0 _ hn.1 uI_s uI_s)
