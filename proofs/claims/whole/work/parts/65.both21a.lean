theorem RN_in {L : Int → Int} {n p c p2 b2 : Int} {t : Int → Int} (h : RN L n p c p2 b2 t) (hc : letr c) : (p ≤ p2 ∧ p2 ≤ p + 8) ∧ (b2 = 0 ∨ b2 = 1) := by
  have k := szC_let hc
  have k2 := szC_in c
  have d := ndg_bd L n p (szC c - 2)
  rcases h with ⟨a1, a2, a3, a4⟩ | ⟨a1, a2, a3⟩
  · omega
  · have := d.resolve_left a1
    omega
def RS (L : Int → Int) (n p p2 b2 : Int) (t : Int → Int) : Prop := (stF L n p = -1 ∧ b2 = 0 ∧ p2 = p + szC (lt L n p) ∧ tdF L n (p + 1) (lt L n p) t) ∨ (stF L n p ≠ -1 ∧ b2 = 1 ∧ p2 = stF L n p)
theorem RS_A {L : Int → Int} {n p : Int} {t : Int → Int} (hp : 0 ≤ p) (h : ¬ letr (lt L n p)) : RS L n p p 1 t := by
  have e := stF_0 (szC_no h)
  exact Or.inr ⟨by omega, rfl, e.symm⟩
theorem RS_B {L : Int → Int} {n p p2 b2 : Int} {t t2 : Int → Int} (hp : 0 ≤ p) (h : letr (lt L n p)) (hN : RN L n (p + 1) (lt L n p) p2 b2 t2) (hb : b2 ≠ 0) : RS L n p p2 1 t := by
  have k := szC_let h
  rcases hN with ⟨_, a2, _⟩ | ⟨a1, a2, a3⟩
  · omega
  · have d := (ndg_bd L n (p + 1) (szC (lt L n p) - 2)).resolve_left a1
    have e := stF_d (by omega) a3.symm (by omega)
    exact Or.inr ⟨by omega, rfl, e.symm⟩
theorem RS_C {L : Int → Int} {n p p2 b2 : Int} {t t2 : Int → Int} (hp : 0 ≤ p) (h : letr (lt L n p)) (hN : RN L n (p + 1) (lt L n p) p2 b2 t2) (hb : b2 = 0) (hl : lt L n p2 ≠ 59) : RS L n p p2 1 t := by
  have k := szC_let h
  rcases hN with ⟨a1, a2, a3, a4⟩ | ⟨a1, a2, a3⟩
  · rw [show p2 = p + szC (lt L n p) - 1 by omega] at hl ⊢
    have e := stF_e (by omega) a1 hl
    exact Or.inr ⟨by omega, rfl, e.symm⟩
  · omega
theorem RS_D {L : Int → Int} {n p p2 b2 : Int} {t2 : Int → Int} (h : letr (lt L n p)) (hN : RN L n (p + 1) (lt L n p) p2 b2 t2) (hb : b2 = 0) (hl : lt L n p2 = 59) : RS L n p (p2 + 1) 0 t2 := by
  have k := szC_let h
  rcases hN with ⟨a1, a2, a3, a4⟩ | ⟨a1, a2, a3⟩
  · rw [show p2 = p + szC (lt L n p) - 1 by omega] at hl
    exact Or.inl ⟨stF_g (by omega) a1 hl, rfl, by omega, a4⟩
  · omega
theorem dX6_readStatement_0 : decode cX6_readStatement 0 = .ok (.aload_n 0, 1) := by decide +kernel
theorem dX6_readStatement_1 : decode cX6_readStatement 1 = .ok (.getfield 162, 3) := by decide +kernel
theorem dX6_readStatement_4 : decode cX6_readStatement 4 = .ok (.istore_n 1, 1) := by decide +kernel
theorem dX6_readStatement_5 : decode cX6_readStatement 5 = .ok (.aload_n 0, 1) := by decide +kernel
theorem dX6_readStatement_6 : decode cX6_readStatement 6 = .ok (.invokevirtual 151, 3) := by decide +kernel
theorem dX6_readStatement_9 : decode cX6_readStatement 9 = .ok (.istore_n 2, 1) := by decide +kernel
theorem dX6_readStatement_10 : decode cX6_readStatement 10 = .ok (.aload_n 0, 1) := by decide +kernel
theorem dX6_readStatement_11 : decode cX6_readStatement 11 = .ok (.getfield 40, 3) := by decide +kernel
theorem dX6_readStatement_14 : decode cX6_readStatement 14 = .ok (.iload_n 1, 1) := by decide +kernel
theorem dX6_readStatement_15 : decode cX6_readStatement 15 = .ok (.aload_n 0, 1) := by decide +kernel
theorem dX6_readStatement_16 : decode cX6_readStatement 16 = .ok (.getfield 144, 3) := by decide +kernel
theorem dX6_readStatement_19 : decode cX6_readStatement 19 = .ok (.iastore, 1) := by decide +kernel
theorem dX6_readStatement_20 : decode cX6_readStatement 20 = .ok (.aload_n 0, 1) := by decide +kernel
theorem dX6_readStatement_21 : decode cX6_readStatement 21 = .ok (.getfield 43, 3) := by decide +kernel
theorem dX6_readStatement_24 : decode cX6_readStatement 24 = .ok (.iload_n 1, 1) := by decide +kernel
theorem dX6_readStatement_25 : decode cX6_readStatement 25 = .ok (.iload_n 2, 1) := by decide +kernel
theorem dX6_readStatement_26 : decode cX6_readStatement 26 = .ok (.iastore, 1) := by decide +kernel
theorem dX6_readStatement_27 : decode cX6_readStatement 27 = .ok (.aload_n 0, 1) := by decide +kernel
theorem dX6_readStatement_28 : decode cX6_readStatement 28 = .ok (.aload_n 0, 1) := by decide +kernel
theorem dX6_readStatement_29 : decode cX6_readStatement 29 = .ok (.getfield 147, 3) := by decide +kernel
theorem dX6_readStatement_32 : decode cX6_readStatement 32 = .ok (.ifCond .ne 10, 3) := by decide +kernel
theorem dX6_readStatement_35 : decode cX6_readStatement 35 = .ok (.iload_n 2, 1) := by decide +kernel
theorem dX6_readStatement_36 : decode cX6_readStatement 36 = .ok (.invokestatic 165, 3) := by decide +kernel
theorem dX6_readStatement_39 : decode cX6_readStatement 39 = .ok (.ifCond .ne 7, 3) := by decide +kernel
theorem dX6_readStatement_42 : decode cX6_readStatement 42 = .ok (.iconst 1, 1) := by decide +kernel
theorem dX6_readStatement_43 : decode cX6_readStatement 43 = .ok (.goto 4, 3) := by decide +kernel
theorem dX6_readStatement_46 : decode cX6_readStatement 46 = .ok (.iconst 0, 1) := by decide +kernel
theorem dX6_readStatement_47 : decode cX6_readStatement 47 = .ok (.putfield 147, 3) := by decide +kernel
theorem dX6_readStatement_50 : decode cX6_readStatement 50 = .ok (.aload_n 0, 1) := by decide +kernel
theorem dX6_readStatement_51 : decode cX6_readStatement 51 = .ok (.dup, 1) := by decide +kernel
theorem dX6_readStatement_52 : decode cX6_readStatement 52 = .ok (.getfield 144, 3) := by decide +kernel
theorem dX6_readStatement_55 : decode cX6_readStatement 55 = .ok (.aload_n 0, 1) := by decide +kernel
theorem dX6_readStatement_56 : decode cX6_readStatement 56 = .ok (.getfield 147, 3) := by decide +kernel
theorem dX6_readStatement_59 : decode cX6_readStatement 59 = .ok (.ifCond .eq 7, 3) := by decide +kernel
theorem dX6_readStatement_62 : decode cX6_readStatement 62 = .ok (.iconst 0, 1) := by decide +kernel
theorem dX6_readStatement_63 : decode cX6_readStatement 63 = .ok (.goto 4, 3) := by decide +kernel
theorem dX6_readStatement_66 : decode cX6_readStatement 66 = .ok (.iconst 1, 1) := by decide +kernel
theorem dX6_readStatement_67 : decode cX6_readStatement 67 = .ok (.iadd, 1) := by decide +kernel
theorem dX6_readStatement_68 : decode cX6_readStatement 68 = .ok (.putfield 144, 3) := by decide +kernel
theorem dX6_readStatement_71 : decode cX6_readStatement 71 = .ok (.aload_n 0, 1) := by decide +kernel
theorem dX6_readStatement_72 : decode cX6_readStatement 72 = .ok (.getfield 147, 3) := by decide +kernel
theorem dX6_readStatement_75 : decode cX6_readStatement 75 = .ok (.ifCond .ne 11, 3) := by decide +kernel
theorem dX6_readStatement_78 : decode cX6_readStatement 78 = .ok (.aload_n 0, 1) := by decide +kernel
theorem dX6_readStatement_79 : decode cX6_readStatement 79 = .ok (.iload_n 2, 1) := by decide +kernel
theorem dX6_readStatement_80 : decode cX6_readStatement 80 = .ok (.iconst 5, 1) := by decide +kernel
theorem dX6_readStatement_81 : decode cX6_readStatement 81 = .ok (.iload_n 1, 1) := by decide +kernel
theorem dX6_readStatement_82 : decode cX6_readStatement 82 = .ok (.imul, 1) := by decide +kernel
theorem dX6_readStatement_83 : decode cX6_readStatement 83 = .ok (.invokevirtual 168, 3) := by decide +kernel
theorem dX6_readStatement_86 : decode cX6_readStatement 86 = .ok (.aload_n 0, 1) := by decide +kernel
theorem dX6_readStatement_87 : decode cX6_readStatement 87 = .ok (.aload_n 0, 1) := by decide +kernel
theorem dX6_readStatement_88 : decode cX6_readStatement 88 = .ok (.getfield 147, 3) := by decide +kernel
theorem dX6_readStatement_91 : decode cX6_readStatement 91 = .ok (.ifCond .ne 12, 3) := by decide +kernel
theorem dX6_readStatement_94 : decode cX6_readStatement 94 = .ok (.aload_n 0, 1) := by decide +kernel
theorem dX6_readStatement_95 : decode cX6_readStatement 95 = .ok (.invokevirtual 151, 3) := by decide +kernel
theorem dX6_readStatement_98 : decode cX6_readStatement 98 = .ok (.bipush 59, 2) := by decide +kernel
theorem dX6_readStatement_100 : decode cX6_readStatement 100 = .ok (.if_icmp .eq 7, 3) := by decide +kernel
theorem dX6_readStatement_103 : decode cX6_readStatement 103 = .ok (.iconst 1, 1) := by decide +kernel
theorem dX6_readStatement_104 : decode cX6_readStatement 104 = .ok (.goto 4, 3) := by decide +kernel
theorem dX6_readStatement_107 : decode cX6_readStatement 107 = .ok (.iconst 0, 1) := by decide +kernel
theorem dX6_readStatement_108 : decode cX6_readStatement 108 = .ok (.putfield 147, 3) := by decide +kernel
theorem dX6_readStatement_111 : decode cX6_readStatement 111 = .ok (.aload_n 0, 1) := by decide +kernel
theorem dX6_readStatement_112 : decode cX6_readStatement 112 = .ok (.dup, 1) := by decide +kernel
theorem dX6_readStatement_113 : decode cX6_readStatement 113 = .ok (.getfield 144, 3) := by decide +kernel
theorem dX6_readStatement_116 : decode cX6_readStatement 116 = .ok (.aload_n 0, 1) := by decide +kernel
theorem dX6_readStatement_117 : decode cX6_readStatement 117 = .ok (.getfield 147, 3) := by decide +kernel
theorem dX6_readStatement_120 : decode cX6_readStatement 120 = .ok (.ifCond .eq 7, 3) := by decide +kernel
theorem dX6_readStatement_123 : decode cX6_readStatement 123 = .ok (.iconst 0, 1) := by decide +kernel
theorem dX6_readStatement_124 : decode cX6_readStatement 124 = .ok (.goto 4, 3) := by decide +kernel
theorem dX6_readStatement_127 : decode cX6_readStatement 127 = .ok (.iconst 1, 1) := by decide +kernel
theorem dX6_readStatement_128 : decode cX6_readStatement 128 = .ok (.iadd, 1) := by decide +kernel
theorem dX6_readStatement_129 : decode cX6_readStatement 129 = .ok (.putfield 144, 3) := by decide +kernel
theorem dX6_readStatement_132 : decode cX6_readStatement 132 = .ok (.aload_n 0, 1) := by decide +kernel
theorem dX6_readStatement_133 : decode cX6_readStatement 133 = .ok (.dup, 1) := by decide +kernel
theorem dX6_readStatement_134 : decode cX6_readStatement 134 = .ok (.getfield 162, 3) := by decide +kernel
theorem dX6_readStatement_137 : decode cX6_readStatement 137 = .ok (.iconst 1, 1) := by decide +kernel
theorem dX6_readStatement_138 : decode cX6_readStatement 138 = .ok (.iadd, 1) := by decide +kernel
theorem dX6_readStatement_139 : decode cX6_readStatement 139 = .ok (.putfield 162, 3) := by decide +kernel
theorem dX6_readStatement_142 : decode cX6_readStatement 142 = .ok (.return_, 1) := by decide +kernel
set_option maxRecDepth 100000 in
set_option maxHeartbeats 4000000 in
theorem k_X6_readStatement (κ : Kp) (ma : Nat → Nat) (M : MS) (hn : 0 ≤ M 13 0 ∧ M 13 0 ≤ 96) (hlr : ∀ j : Int, 0 ≤ j → j < 96 → 0 ≤ M 12 j ∧ M 12 j ≤ 255) (hp : 0 ≤ M 14 0 ∧ M 14 0 ≤ 96) (hb : M 15 0 = 0) (hk : 0 ≤ M 16 0 ∧ M 16 0 ≤ 47) : mV κ yX6_readStatement cX6_readStatement 3 3 [.ref (ma 100)] (mw κ ma M) (fun w => ∃ (p2 b2 : Int) (T : Int → Int), w = mw κ ma (mA (mA (mA (mA (mA (mA M 17 (uI (M 17) (M 16 0) (M 14 0))) 18 (uI (M 18) (M 16 0) (lt (M 12) (M 13 0) (M 14 0)))) 19 T) 15 (fun _ => b2)) 14 (fun _ => p2)) 16 (fun _ => M 16 0 + 1)) ∧ RS (M 12) (M 13 0) (M 14 0) p2 b2 (fun j => T (5 * M 16 0 + j)) ∧ ∀ z, z < 5 * M 16 0 → T z = M 19 z) := by
  refine mV_of (by decide) (Nat.le_of_ble_eq_true rfl) (fun E F K => ?_)
  refine g_lv (lv' := [(0, .ref (ma 100))]) rfl ?_
  refine g_aload_n F 0 dX6_readStatement_0 rfl ?_
  refine gm_get_16 F dX6_readStatement_1 ?_
  refine g_istore_n F (lv' := [(1, .int (iI (M 16 0))), (0, .ref (ma 100))]) 1 dX6_readStatement_4 rfl (by decide) rfl ?_
  refine g_aload_n F 1 dX6_readStatement_5 rfl ?_
  refine g_callI F (stk := [.ref (ma 100)]) (st := []) (k_X6_here κ ma M (show 0 ≤ (M 13 0) ∧ (M 13 0) ≤ 96 from by omega) (show 0 ≤ (M 14 0) ∧ (M 14 0) ≤ 200 from by omega)) cal_X6_here lm_X6_151 0 rfl rfl rfl rfl (by decide) rfl (Nat.le_of_ble_eq_true rfl) dX6_readStatement_6 (fun r6 ws6 _ hr6 => ?_)
  obtain ⟨rfl, rfl⟩ := hr6
  refine g_istore_n F (lv' := [(2, .int (iI (lt (M 12) (M 13 0) (M 14 0)))), (1, .int (iI (M 16 0))), (0, .ref (ma 100))]) 2 dX6_readStatement_9 rfl (by decide) rfl ?_
  have hlt := lt_bd (L := M 12) (n := M 13 0) hlr (by omega) (M 14 0)
  refine g_aload_n F 2 dX6_readStatement_10 rfl ?_
  refine gm_get_17 F dX6_readStatement_11 ?_
  refine g_iload_n F 1 dX6_readStatement_14 rfl ?_
  refine g_aload_n F 2 dX6_readStatement_15 rfl ?_
  refine gm_get_14 F dX6_readStatement_16 ?_
  refine gm_ast_17 F (by omega) dX6_readStatement_19 ?_
  refine g_aload_n F 2 dX6_readStatement_20 rfl ?_
  refine gm_get_18 F dX6_readStatement_21 ?_
  refine g_iload_n F 1 dX6_readStatement_24 rfl ?_
  refine g_iload_n F 0 dX6_readStatement_25 rfl ?_
  refine gm_ast_18 F (by omega) dX6_readStatement_26 ?_
  refine g_ws (ws' := mw κ ma (mA (mA M 17 (uI (M 17) (M 16 0) (M 14 0))) 18 (uI (M 18) (M 16 0) (lt (M 12) (M 13 0) (M 14 0))))) rfl ?_
  refine g_aload_n F 2 dX6_readStatement_27 rfl ?_
  refine g_aload_n F 2 dX6_readStatement_28 rfl ?_
  refine gm_get_15 F dX6_readStatement_29 ?_
  refine g_top (y := iI (M 15 0)) rfl ?_
  refine g_if_ne F 42 (by omega) dX6_readStatement_32 (by decide) (fun c32 => ?_) (fun c32 => ?_)
  · skip
    exact absurd trivial (by omega)
  · skip
    refine g_iload_n F 0 dX6_readStatement_35 rfl ?_
    refine g_callSI F (stk := [.int (iI (lt (M 12) (M 13 0) (M 14 0))), .ref (ma 100)]) (st := [.ref (ma 100)]) (k_X6_isLetter κ (mw κ ma (mA (mA M 17 (uI (M 17) (M 16 0) (M 14 0))) 18 (uI (M 18) (M 16 0) (lt (M 12) (M 13 0) (M 14 0))))) (lt (M 12) (M 13 0) (M 14 0)) (by omega)) cal_X6_isLetter lm_X6_165 rfl (by decide) rfl (Nat.le_of_ble_eq_true rfl) dX6_readStatement_36 (fun r36 ws36 _ hr36 => ?_)
    obtain ⟨rfl, rfl⟩ := hr36
    refine g_if_ne F 46 (b2i_in _) dX6_readStatement_39 (by decide) (fun c39 => ?_) (fun c39 => ?_)
    · skip
      have c39 : letr (lt (M 12) (M 13 0) (M 14 0)) := b2i_t c39
      refine g_iconst F dX6_readStatement_46 ?_
      refine gm_put_15 F (by omega) dX6_readStatement_47 ?_
      refine g_aload_n F 2 dX6_readStatement_50 rfl ?_
      refine g_dup F dX6_readStatement_51 rfl ?_
      refine gm_get_14 F dX6_readStatement_52 ?_
      refine g_top (y := iI (M 14 0)) rfl ?_
      refine g_aload_n F 2 dX6_readStatement_55 rfl ?_
      refine gm_get_15 F dX6_readStatement_56 ?_
      refine g_top (y := iI 0) rfl ?_
      refine g_if_eq F 66 (by omega) dX6_readStatement_59 (by decide) (fun c59 => ?_) (fun c59 => ?_)
      · skip
        refine g_iconst F dX6_readStatement_66 ?_
        refine g_iadd F dX6_readStatement_67 ?_
        refine gm_put_14 F dX6_readStatement_68 ?_
        refine g_aload_n F 2 dX6_readStatement_71 rfl ?_
        refine gm_get_15 F dX6_readStatement_72 ?_
        refine g_top (y := iI 0) rfl ?_
        refine g_if_ne F 86 (by omega) dX6_readStatement_75 (by decide) (fun c75 => ?_) (fun c75 => ?_)
        · skip
          exact absurd trivial (by omega)
        · skip
          refine g_aload_n F 2 dX6_readStatement_78 rfl ?_
          refine g_iload_n F 0 dX6_readStatement_79 rfl ?_
          refine g_iconst F dX6_readStatement_80 ?_
          refine g_iload_n F 1 dX6_readStatement_81 rfl ?_
          refine g_imul F dX6_readStatement_82 ?_
          refine g_callV F (stk := [.int (iI (5 * (M 16 0))), .int (iI (lt (M 12) (M 13 0) (M 14 0))), .ref (ma 100)]) (st := []) (k_X6_readNumbers κ ma (mA (mA (mA (mA M 17 (uI (M 17) (M 16 0) (M 14 0))) 18 (uI (M 18) (M 16 0) (lt (M 12) (M 13 0) (M 14 0)))) 15 (fun _ => 0)) 14 (fun _ => (M 14 0) + 1)) (lt (M 12) (M 13 0) (M 14 0)) (5 * (M 16 0)) hn hlr (show 0 ≤ ((M 14 0) + 1) ∧ ((M 14 0) + 1) ≤ 97 by omega) rfl (by omega) c39) cal_X6_readNumbers lm_X6_168 0 rfl rfl rfl rfl (by decide) rfl (Nat.le_of_ble_eq_true rfl) dX6_readStatement_83 (fun ws83 _ hr83 => ?_)
          obtain ⟨p83, b83, T83, rfl, hN, hU⟩ := hr83
          have hN : RN (M 12) (M 13 0) ((M 14 0) + 1) (lt (M 12) (M 13 0) (M 14 0)) p83 b83 (fun j => T83 ((5 * (M 16 0)) + j)) := hN
          have hNI := RN_in hN c39
          refine g_ws (ws' := mw κ ma (mA (mA (mA (mA (mA M 17 (uI (M 17) (M 16 0) (M 14 0))) 18 (uI (M 18) (M 16 0) (lt (M 12) (M 13 0) (M 14 0)))) 15 (fun _ => b83)) 14 (fun _ => p83)) 19 T83)) rfl ?_
          refine g_aload_n F 2 dX6_readStatement_86 rfl ?_
          refine g_aload_n F 2 dX6_readStatement_87 rfl ?_
          refine gm_get_15 F dX6_readStatement_88 ?_
          refine g_top (y := iI b83) rfl ?_
          refine g_if_ne F 103 (by omega) dX6_readStatement_91 (by decide) (fun c91 => ?_) (fun c91 => ?_)
          · skip
            refine g_iconst F dX6_readStatement_103 ?_
            refine g_goto F 108 dX6_readStatement_104 (by decide) ?_
            refine gm_put_15 F (by omega) dX6_readStatement_108 ?_
            refine g_aload_n F 2 dX6_readStatement_111 rfl ?_
            refine g_dup F dX6_readStatement_112 rfl ?_
            refine gm_get_14 F dX6_readStatement_113 ?_
            refine g_top (y := iI p83) rfl ?_
            refine g_aload_n F 2 dX6_readStatement_116 rfl ?_
            refine gm_get_15 F dX6_readStatement_117 ?_
            refine g_top (y := iI 1) rfl ?_
            refine g_if_eq F 127 (by omega) dX6_readStatement_120 (by decide) (fun c120 => ?_) (fun c120 => ?_)
            · skip
              exact absurd trivial (by omega)
            · skip
              refine g_iconst F dX6_readStatement_123 ?_
              refine g_goto F 128 dX6_readStatement_124 (by decide) ?_
              refine g_iadd F dX6_readStatement_128 ?_
              refine gm_put_14 F dX6_readStatement_129 ?_
              refine g_aload_n F 2 dX6_readStatement_132 rfl ?_
              refine g_dup F dX6_readStatement_133 rfl ?_
              refine gm_get_16 F dX6_readStatement_134 ?_
              refine g_top (y := iI (M 16 0)) rfl ?_
              refine g_iconst F dX6_readStatement_137 ?_
              refine g_iadd F dX6_readStatement_138 ?_
              refine gm_put_16 F dX6_readStatement_139 ?_
              exact K mw_same ⟨p83, 1, T83, by rw [Int.add_zero]; rfl, RS_B hp.1 c39 hN c91, fun z hz => hU z (Or.inl hz)⟩ dX6_readStatement_142
          · skip
            refine g_aload_n F 2 dX6_readStatement_94 rfl ?_
            refine g_callI F (stk := [.ref (ma 100), .ref (ma 100)]) (st := [.ref (ma 100)]) (k_X6_here κ ma (mA (mA (mA (mA (mA M 17 (uI (M 17) (M 16 0) (M 14 0))) 18 (uI (M 18) (M 16 0) (lt (M 12) (M 13 0) (M 14 0)))) 15 (fun _ => b83)) 14 (fun _ => p83)) 19 T83) (show 0 ≤ (M 13 0) ∧ (M 13 0) ≤ 96 from by omega) (show 0 ≤ p83 ∧ p83 ≤ 200 from by omega)) cal_X6_here lm_X6_151 0 rfl rfl rfl rfl (by decide) rfl (Nat.le_of_ble_eq_true rfl) dX6_readStatement_95 (fun r95 ws95 _ hr95 => ?_)
            obtain ⟨rfl, rfl⟩ := hr95
            refine g_top (y := iI (lt (M 12) ((M 13 0)) (p83))) rfl ?_
            have hlt2 := lt_bd (L := M 12) (n := M 13 0) hlr (by omega) p83
            refine g_bipush F dX6_readStatement_98 (by decide +kernel) ?_
            refine g_icmp_eq F 107 (by omega) dX6_readStatement_100 (by decide) (fun c100 => ?_) (fun c100 => ?_)
            · skip
              refine g_iconst F dX6_readStatement_107 ?_
              refine gm_put_15 F (by omega) dX6_readStatement_108 ?_
              refine g_aload_n F 2 dX6_readStatement_111 rfl ?_
              refine g_dup F dX6_readStatement_112 rfl ?_
              refine gm_get_14 F dX6_readStatement_113 ?_
              refine g_top (y := iI p83) rfl ?_
              refine g_aload_n F 2 dX6_readStatement_116 rfl ?_
              refine gm_get_15 F dX6_readStatement_117 ?_
              refine g_top (y := iI 0) rfl ?_
              refine g_if_eq F 127 (by omega) dX6_readStatement_120 (by decide) (fun c120 => ?_) (fun c120 => ?_)
              · skip
                refine g_iconst F dX6_readStatement_127 ?_
                refine g_iadd F dX6_readStatement_128 ?_
                refine gm_put_14 F dX6_readStatement_129 ?_
                refine g_aload_n F 2 dX6_readStatement_132 rfl ?_
                refine g_dup F dX6_readStatement_133 rfl ?_
                refine gm_get_16 F dX6_readStatement_134 ?_
                refine g_top (y := iI (M 16 0)) rfl ?_
                refine g_iconst F dX6_readStatement_137 ?_
                refine g_iadd F dX6_readStatement_138 ?_
                refine gm_put_16 F dX6_readStatement_139 ?_
                exact K mw_same ⟨p83 + 1, 0, T83, rfl, RS_D c39 hN c91 c100, fun z hz => hU z (Or.inl hz)⟩ dX6_readStatement_142
              · skip
                exact absurd trivial (by omega)
            · skip
              refine g_iconst F dX6_readStatement_103 ?_
              refine g_goto F 108 dX6_readStatement_104 (by decide) ?_
              refine gm_put_15 F (by omega) dX6_readStatement_108 ?_
              refine g_aload_n F 2 dX6_readStatement_111 rfl ?_
              refine g_dup F dX6_readStatement_112 rfl ?_
              refine gm_get_14 F dX6_readStatement_113 ?_
              refine g_top (y := iI p83) rfl ?_
              refine g_aload_n F 2 dX6_readStatement_116 rfl ?_
              refine gm_get_15 F dX6_readStatement_117 ?_
              refine g_top (y := iI 1) rfl ?_
              refine g_if_eq F 127 (by omega) dX6_readStatement_120 (by decide) (fun c120 => ?_) (fun c120 => ?_)
              · skip
                exact absurd trivial (by omega)
              · skip
                refine g_iconst F dX6_readStatement_123 ?_
                refine g_goto F 128 dX6_readStatement_124 (by decide) ?_
                refine g_iadd F dX6_readStatement_128 ?_
                refine gm_put_14 F dX6_readStatement_129 ?_
                refine g_aload_n F 2 dX6_readStatement_132 rfl ?_
                refine g_dup F dX6_readStatement_133 rfl ?_
                refine gm_get_16 F dX6_readStatement_134 ?_
                refine g_top (y := iI (M 16 0)) rfl ?_
                refine g_iconst F dX6_readStatement_137 ?_
                refine g_iadd F dX6_readStatement_138 ?_
                refine gm_put_16 F dX6_readStatement_139 ?_
                exact K mw_same ⟨p83, 1, T83, by rw [Int.add_zero]; rfl, RS_C hp.1 c39 hN c91 c100, fun z hz => hU z (Or.inl hz)⟩ dX6_readStatement_142
      · skip
        exact absurd trivial (by omega)
    · skip
      have c39 : ¬ (letr (lt (M 12) (M 13 0) (M 14 0))) := b2i_f c39
      refine g_iconst F dX6_readStatement_42 ?_
      refine g_goto F 47 dX6_readStatement_43 (by decide) ?_
      refine gm_put_15 F (by omega) dX6_readStatement_47 ?_
      refine g_aload_n F 2 dX6_readStatement_50 rfl ?_
      refine g_dup F dX6_readStatement_51 rfl ?_
      refine gm_get_14 F dX6_readStatement_52 ?_
      refine g_top (y := iI (M 14 0)) rfl ?_
      refine g_aload_n F 2 dX6_readStatement_55 rfl ?_
      refine gm_get_15 F dX6_readStatement_56 ?_
      refine g_top (y := iI 1) rfl ?_
      refine g_if_eq F 66 (by omega) dX6_readStatement_59 (by decide) (fun c59 => ?_) (fun c59 => ?_)
      · skip
        exact absurd trivial (by omega)
      · skip
        refine g_iconst F dX6_readStatement_62 ?_
        refine g_goto F 67 dX6_readStatement_63 (by decide) ?_
        refine g_iadd F dX6_readStatement_67 ?_
        refine gm_put_14 F dX6_readStatement_68 ?_
        refine g_aload_n F 2 dX6_readStatement_71 rfl ?_
        refine gm_get_15 F dX6_readStatement_72 ?_
        refine g_top (y := iI 1) rfl ?_
        refine g_if_ne F 86 (by omega) dX6_readStatement_75 (by decide) (fun c75 => ?_) (fun c75 => ?_)
        · skip
          refine g_aload_n F 2 dX6_readStatement_86 rfl ?_
          refine g_aload_n F 2 dX6_readStatement_87 rfl ?_
          refine gm_get_15 F dX6_readStatement_88 ?_
          refine g_top (y := iI 1) rfl ?_
          refine g_if_ne F 103 (by omega) dX6_readStatement_91 (by decide) (fun c91 => ?_) (fun c91 => ?_)
          · skip
            refine g_iconst F dX6_readStatement_103 ?_
            refine g_goto F 108 dX6_readStatement_104 (by decide) ?_
            refine gm_put_15 F (by omega) dX6_readStatement_108 ?_
            refine g_aload_n F 2 dX6_readStatement_111 rfl ?_
            refine g_dup F dX6_readStatement_112 rfl ?_
            refine gm_get_14 F dX6_readStatement_113 ?_
            refine g_top (y := iI ((M 14 0) + 0)) rfl ?_
            refine g_aload_n F 2 dX6_readStatement_116 rfl ?_
            refine gm_get_15 F dX6_readStatement_117 ?_
            refine g_top (y := iI 1) rfl ?_
            refine g_if_eq F 127 (by omega) dX6_readStatement_120 (by decide) (fun c120 => ?_) (fun c120 => ?_)
            · skip
              exact absurd trivial (by omega)
            · skip
              refine g_iconst F dX6_readStatement_123 ?_
              refine g_goto F 128 dX6_readStatement_124 (by decide) ?_
              refine g_iadd F dX6_readStatement_128 ?_
              refine gm_put_14 F dX6_readStatement_129 ?_
              refine g_aload_n F 2 dX6_readStatement_132 rfl ?_
              refine g_dup F dX6_readStatement_133 rfl ?_
              refine gm_get_16 F dX6_readStatement_134 ?_
              refine g_top (y := iI (M 16 0)) rfl ?_
              refine g_iconst F dX6_readStatement_137 ?_
              refine g_iadd F dX6_readStatement_138 ?_
              refine gm_put_16 F dX6_readStatement_139 ?_
              exact K mw_same ⟨M 14 0, 1, M 19, by rw [Int.add_zero, Int.add_zero]; rfl, RS_A hp.1 c39, fun _ _ => rfl⟩ dX6_readStatement_142
          · skip
            exact absurd trivial (by omega)
        · skip
          exact absurd trivial (by omega)
