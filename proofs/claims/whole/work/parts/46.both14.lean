theorem dX6_layHeaps_0 : decode cX6_layHeaps 0 = .ok (.iconst 0, 1) := by decide +kernel
theorem dX6_layHeaps_1 : decode cX6_layHeaps 1 = .ok (.istore_n 2, 1) := by decide +kernel
theorem dX6_layHeaps_2 : decode cX6_layHeaps 2 = .ok (.iload_n 2, 1) := by decide +kernel
theorem dX6_layHeaps_3 : decode cX6_layHeaps 3 = .ok (.bipush 12, 2) := by decide +kernel
theorem dX6_layHeaps_5 : decode cX6_layHeaps 5 = .ok (.if_icmp .ge 16, 3) := by decide +kernel
theorem dX6_layHeaps_8 : decode cX6_layHeaps 8 = .ok (.aload_n 0, 1) := by decide +kernel
theorem dX6_layHeaps_9 : decode cX6_layHeaps 9 = .ok (.getfield 82, 3) := by decide +kernel
theorem dX6_layHeaps_12 : decode cX6_layHeaps 12 = .ok (.iload_n 2, 1) := by decide +kernel
theorem dX6_layHeaps_13 : decode cX6_layHeaps 13 = .ok (.iload_n 2, 1) := by decide +kernel
theorem dX6_layHeaps_14 : decode cX6_layHeaps 14 = .ok (.iastore, 1) := by decide +kernel
theorem dX6_layHeaps_15 : decode cX6_layHeaps 15 = .ok (.iinc 2 1, 3) := by decide +kernel
theorem dX6_layHeaps_18 : decode cX6_layHeaps 18 = .ok (.goto (-16), 3) := by decide +kernel
theorem dX6_layHeaps_21 : decode cX6_layHeaps 21 = .ok (.iconst 0, 1) := by decide +kernel
theorem dX6_layHeaps_22 : decode cX6_layHeaps 22 = .ok (.istore_n 2, 1) := by decide +kernel
theorem dX6_layHeaps_23 : decode cX6_layHeaps 23 = .ok (.iload_n 2, 1) := by decide +kernel
theorem dX6_layHeaps_24 : decode cX6_layHeaps 24 = .ok (.bipush 12, 2) := by decide +kernel
theorem dX6_layHeaps_26 : decode cX6_layHeaps 26 = .ok (.if_icmp .ge 121, 3) := by decide +kernel
theorem dX6_layHeaps_29 : decode cX6_layHeaps 29 = .ok (.iconst 0, 1) := by decide +kernel
theorem dX6_layHeaps_30 : decode cX6_layHeaps 30 = .ok (.istore_n 3, 1) := by decide +kernel
theorem dX6_layHeaps_31 : decode cX6_layHeaps 31 = .ok (.iload_n 3, 1) := by decide +kernel
theorem dX6_layHeaps_32 : decode cX6_layHeaps 32 = .ok (.bipush 12, 2) := by decide +kernel
theorem dX6_layHeaps_34 : decode cX6_layHeaps 34 = .ok (.if_icmp .ge 107, 3) := by decide +kernel
theorem dX6_layHeaps_37 : decode cX6_layHeaps 37 = .ok (.iconst 0, 1) := by decide +kernel
theorem dX6_layHeaps_38 : decode cX6_layHeaps 38 = .ok (.istore 4, 2) := by decide +kernel
theorem dX6_layHeaps_40 : decode cX6_layHeaps 40 = .ok (.iload 4, 2) := by decide +kernel
theorem dX6_layHeaps_42 : decode cX6_layHeaps 42 = .ok (.iconst 4, 1) := by decide +kernel
theorem dX6_layHeaps_43 : decode cX6_layHeaps 43 = .ok (.if_icmp .ge 92, 3) := by decide +kernel
theorem dX6_layHeaps_46 : decode cX6_layHeaps 46 = .ok (.iload_n 3, 1) := by decide +kernel
theorem dX6_layHeaps_47 : decode cX6_layHeaps 47 = .ok (.iload 4, 2) := by decide +kernel
theorem dX6_layHeaps_49 : decode cX6_layHeaps 49 = .ok (.invokestatic 104, 3) := by decide +kernel
theorem dX6_layHeaps_52 : decode cX6_layHeaps 52 = .ok (.istore 5, 2) := by decide +kernel
theorem dX6_layHeaps_54 : decode cX6_layHeaps 54 = .ok (.iload 5, 2) := by decide +kernel
theorem dX6_layHeaps_56 : decode cX6_layHeaps 56 = .ok (.ifCond .lt 43, 3) := by decide +kernel
theorem dX6_layHeaps_59 : decode cX6_layHeaps 59 = .ok (.aload_n 0, 1) := by decide +kernel
theorem dX6_layHeaps_60 : decode cX6_layHeaps 60 = .ok (.getfield 16, 3) := by decide +kernel
theorem dX6_layHeaps_63 : decode cX6_layHeaps 63 = .ok (.iload_n 3, 1) := by decide +kernel
theorem dX6_layHeaps_64 : decode cX6_layHeaps 64 = .ok (.iaload, 1) := by decide +kernel
theorem dX6_layHeaps_65 : decode cX6_layHeaps 65 = .ok (.aload_n 0, 1) := by decide +kernel
theorem dX6_layHeaps_66 : decode cX6_layHeaps 66 = .ok (.getfield 16, 3) := by decide +kernel
theorem dX6_layHeaps_69 : decode cX6_layHeaps 69 = .ok (.iload 5, 2) := by decide +kernel
theorem dX6_layHeaps_71 : decode cX6_layHeaps 71 = .ok (.iaload, 1) := by decide +kernel
theorem dX6_layHeaps_72 : decode cX6_layHeaps 72 = .ok (.invokestatic 108, 3) := by decide +kernel
theorem dX6_layHeaps_75 : decode cX6_layHeaps 75 = .ok (.iload_n 1, 1) := by decide +kernel
theorem dX6_layHeaps_76 : decode cX6_layHeaps 76 = .ok (.if_icmp .gt 23, 3) := by decide +kernel
theorem dX6_layHeaps_79 : decode cX6_layHeaps 79 = .ok (.aload_n 0, 1) := by decide +kernel
theorem dX6_layHeaps_80 : decode cX6_layHeaps 80 = .ok (.getfield 82, 3) := by decide +kernel
theorem dX6_layHeaps_83 : decode cX6_layHeaps 83 = .ok (.iload 5, 2) := by decide +kernel
theorem dX6_layHeaps_85 : decode cX6_layHeaps 85 = .ok (.iaload, 1) := by decide +kernel
theorem dX6_layHeaps_86 : decode cX6_layHeaps 86 = .ok (.aload_n 0, 1) := by decide +kernel
theorem dX6_layHeaps_87 : decode cX6_layHeaps 87 = .ok (.getfield 82, 3) := by decide +kernel
theorem dX6_layHeaps_90 : decode cX6_layHeaps 90 = .ok (.iload_n 3, 1) := by decide +kernel
theorem dX6_layHeaps_91 : decode cX6_layHeaps 91 = .ok (.iaload, 1) := by decide +kernel
theorem dX6_layHeaps_92 : decode cX6_layHeaps 92 = .ok (.if_icmp .ge 7, 3) := by decide +kernel
theorem dX6_layHeaps_95 : decode cX6_layHeaps 95 = .ok (.iconst 1, 1) := by decide +kernel
theorem dX6_layHeaps_96 : decode cX6_layHeaps 96 = .ok (.goto 4, 3) := by decide +kernel
theorem dX6_layHeaps_99 : decode cX6_layHeaps 99 = .ok (.iconst 0, 1) := by decide +kernel
theorem dX6_layHeaps_100 : decode cX6_layHeaps 100 = .ok (.istore 6, 2) := by decide +kernel
theorem dX6_layHeaps_102 : decode cX6_layHeaps 102 = .ok (.aload_n 0, 1) := by decide +kernel
theorem dX6_layHeaps_103 : decode cX6_layHeaps 103 = .ok (.getfield 82, 3) := by decide +kernel
theorem dX6_layHeaps_106 : decode cX6_layHeaps 106 = .ok (.iload_n 3, 1) := by decide +kernel
theorem dX6_layHeaps_107 : decode cX6_layHeaps 107 = .ok (.iload 6, 2) := by decide +kernel
theorem dX6_layHeaps_109 : decode cX6_layHeaps 109 = .ok (.ifCond .eq 13, 3) := by decide +kernel
theorem dX6_layHeaps_112 : decode cX6_layHeaps 112 = .ok (.aload_n 0, 1) := by decide +kernel
theorem dX6_layHeaps_113 : decode cX6_layHeaps 113 = .ok (.getfield 82, 3) := by decide +kernel
theorem dX6_layHeaps_116 : decode cX6_layHeaps 116 = .ok (.iload 5, 2) := by decide +kernel
theorem dX6_layHeaps_118 : decode cX6_layHeaps 118 = .ok (.iaload, 1) := by decide +kernel
theorem dX6_layHeaps_119 : decode cX6_layHeaps 119 = .ok (.goto 9, 3) := by decide +kernel
theorem dX6_layHeaps_122 : decode cX6_layHeaps 122 = .ok (.aload_n 0, 1) := by decide +kernel
theorem dX6_layHeaps_123 : decode cX6_layHeaps 123 = .ok (.getfield 82, 3) := by decide +kernel
theorem dX6_layHeaps_126 : decode cX6_layHeaps 126 = .ok (.iload_n 3, 1) := by decide +kernel
theorem dX6_layHeaps_127 : decode cX6_layHeaps 127 = .ok (.iaload, 1) := by decide +kernel
theorem dX6_layHeaps_128 : decode cX6_layHeaps 128 = .ok (.iastore, 1) := by decide +kernel
theorem dX6_layHeaps_129 : decode cX6_layHeaps 129 = .ok (.iinc 4 1, 3) := by decide +kernel
theorem dX6_layHeaps_132 : decode cX6_layHeaps 132 = .ok (.goto (-92), 3) := by decide +kernel
theorem dX6_layHeaps_135 : decode cX6_layHeaps 135 = .ok (.iinc 3 1, 3) := by decide +kernel
theorem dX6_layHeaps_138 : decode cX6_layHeaps 138 = .ok (.goto (-107), 3) := by decide +kernel
theorem dX6_layHeaps_141 : decode cX6_layHeaps 141 = .ok (.iinc 2 1, 3) := by decide +kernel
theorem dX6_layHeaps_144 : decode cX6_layHeaps 144 = .ok (.goto (-121), 3) := by decide +kernel
theorem dX6_layHeaps_147 : decode cX6_layHeaps 147 = .ok (.return_, 1) := by decide +kernel
set_option maxRecDepth 100000 in
set_option maxHeartbeats 4000000 in
theorem k_X6_layHeaps (κ : Kp) (ma : Nat → Nat) (M : MS) (v : Int) (hv : 0 ≤ v ∧ v ≤ 99) (hag : ∀ c : Int, 0 ≤ c → c < 12 → 0 ≤ M 2 c ∧ M 2 c ≤ 99) : mV κ yX6_layHeaps cX6_layHeaps 7 1 [.ref (ma 100), .int (iI v)] (mw κ ma M) (fun w => ∃ f, w = mw κ ma (mA M 39 f) ∧ hpL (M 2) v f) := by
  refine mV_of (by decide) (Nat.le_of_ble_eq_true rfl) (fun E F K => ?_)
  refine g_lv (lv' := [(0, .ref (ma 100)), (1, .int (iI v))]) rfl ?_
  refine g_iconst F dX6_layHeaps_0 ?_
  refine g_istore_n F (lv' := [(2, .int (iI 0)), (0, .ref (ma 100)), (1, .int (iI v))]) 2 dX6_layHeaps_1 rfl (by decide) rfl ?_
  have L2 : ∀ (mz2 : Nat) (i : Int) (f : Int → Int), (12 - i).toNat = mz2 → (0 ≤ i ∧ i ≤ 12) → (f = upTo (M 39) (fun j => j) i) → G E (mw κ ma (mA M 39 f)) [(2, .int (iI i)), (0, .ref (ma 100)), (1, .int (iI v))] 2 [] := by
    intro mz2
    induction mz2 using Nat.strongRecOn with
    | _ mz2 ih2 =>
    intro i f hmz2 hi hf
    refine g_iload_n F 0 dX6_layHeaps_2 rfl ?_
    refine g_bipush F dX6_layHeaps_3 (by decide +kernel) ?_
    refine g_icmp_ge F 21 (by omega) dX6_layHeaps_5 (by decide) (fun c5 => ?_) (fun c5 => ?_)
    · skip
      refine g_iconst F dX6_layHeaps_21 ?_
      refine g_istore_n F (lv' := [(2, .int (iI 0)), (0, .ref (ma 100)), (1, .int (iI v))]) 2 dX6_layHeaps_22 rfl (by decide) rfl ?_
      have L23 : ∀ (mz23 : Nat) (k : Int) (g : Int → Int), (12 - k).toNat = mz23 → (0 ≤ k ∧ k ≤ 12) → (hpI (M 2) v k 0 0 g) → G E (mw κ ma (mA M 39 g)) [(2, .int (iI k)), (0, .ref (ma 100)), (1, .int (iI v))] 23 [] := by
        intro mz23
        induction mz23 using Nat.strongRecOn with
        | _ mz23 ih23 =>
        intro k g hmz23 hk hH
        refine g_iload_n F 0 dX6_layHeaps_23 rfl ?_
        refine g_bipush F dX6_layHeaps_24 (by decide +kernel) ?_
        refine g_icmp_ge F 147 (by omega) dX6_layHeaps_26 (by decide) (fun c26 => ?_) (fun c26 => ?_)
        · skip
          exact K mw_same ⟨g, rfl, hp_end (by rw [show k = 12 by omega] at hH; exact hH)⟩ dX6_layHeaps_147
        · skip
          refine g_iconst F dX6_layHeaps_29 ?_
          refine g_istore_n F (lv' := [(3, .int (iI 0)), (2, .int (iI k)), (0, .ref (ma 100)), (1, .int (iI v))]) 3 dX6_layHeaps_30 rfl (by decide) rfl ?_
          have L31 : ∀ (mz31 : Nat) (c : Int) (g2 : Int → Int), (12 - c).toNat = mz31 → (0 ≤ c ∧ c ≤ 12) → (hpI (M 2) v k c 0 g2) → G E (mw κ ma (mA M 39 g2)) [(3, .int (iI c)), (2, .int (iI k)), (0, .ref (ma 100)), (1, .int (iI v))] 31 [] := by
            intro mz31
            induction mz31 using Nat.strongRecOn with
            | _ mz31 ih31 =>
            intro c g2 hmz31 hc hH2
            refine g_iload_n F 0 dX6_layHeaps_31 rfl ?_
            refine g_bipush F dX6_layHeaps_32 (by decide +kernel) ?_
            refine g_icmp_ge F 141 (by omega) dX6_layHeaps_34 (by decide) (fun c34 => ?_) (fun c34 => ?_)
            · skip
              refine g_iinc F (lv' := [(2, .int (iI (k + 1))), (3, .int (iI c)), (0, .ref (ma 100)), (1, .int (iI v))]) 1 dX6_layHeaps_141 rfl (by decide) rfl ?_
              refine g_goto F 23 dX6_layHeaps_144 (by decide) ?_
              refine g_sub F (lv' := [(2, .int (iI (k + 1))), (0, .ref (ma 100)), (1, .int (iI v))]) [0, 2, 3] rfl ?_
              exact ih23 _ (by omega) (k + 1) g2 rfl (by omega) (by rw [show c = 12 by omega] at hH2; exact hp_k hH2 hk.1)
            · skip
              refine g_iconst F dX6_layHeaps_37 ?_
              refine g_istore F (lv' := [(4, .int (iI 0)), (3, .int (iI c)), (2, .int (iI k)), (0, .ref (ma 100)), (1, .int (iI v))]) dX6_layHeaps_38 (by decide) rfl ?_
              have L40 : ∀ (mz40 : Nat) (w : Int) (g3 : Int → Int), (4 - w).toNat = mz40 → (0 ≤ w ∧ w ≤ 4) → (hpI (M 2) v k c w g3) → G E (mw κ ma (mA M 39 g3)) [(4, .int (iI w)), (3, .int (iI c)), (2, .int (iI k)), (0, .ref (ma 100)), (1, .int (iI v))] 40 [] := by
                intro mz40
                induction mz40 using Nat.strongRecOn with
                | _ mz40 ih40 =>
                intro w g3 hmz40 hw hH3
                refine g_iload F 0 dX6_layHeaps_40 rfl ?_
                refine g_iconst F dX6_layHeaps_42 ?_
                refine g_icmp_ge F 135 (by omega) dX6_layHeaps_43 (by decide) (fun c43 => ?_) (fun c43 => ?_)
                · skip
                  refine g_iinc F (lv' := [(3, .int (iI (c + 1))), (4, .int (iI w)), (2, .int (iI k)), (0, .ref (ma 100)), (1, .int (iI v))]) 1 dX6_layHeaps_135 rfl (by decide) rfl ?_
                  refine g_goto F 31 dX6_layHeaps_138 (by decide) ?_
                  refine g_sub F (lv' := [(3, .int (iI (c + 1))), (2, .int (iI k)), (0, .ref (ma 100)), (1, .int (iI v))]) [0, 2, 3, 4] rfl ?_
                  exact ih31 _ (by omega) (c + 1) g3 rfl (by omega) (by rw [show w = 4 by omega] at hH3; exact hp_c hH3 ⟨hc.1, by omega⟩)
                · skip
                  have hn := nbM_in (c := c) (w := w) (by omega) (by omega) (by omega) (by omega)
                  have hk1 := hag c (by omega) (by omega)
                  refine g_iload_n F 1 dX6_layHeaps_46 rfl ?_
                  refine g_iload F 0 dX6_layHeaps_47 rfl ?_
                  refine g_callSI F (stk := [.int (iI w), .int (iI c)]) (st := []) (k_X6_besideOf κ (mw κ ma (mA M 39 g3)) c w (by omega)) cal_X6_besideOf lm_X6_104 rfl (by decide) rfl (Nat.le_of_ble_eq_true rfl) dX6_layHeaps_49 (fun r49 ws49 _ hr49 => ?_)
                  obtain ⟨rfl, rfl⟩ := hr49
                  refine g_istore F (lv' := [(5, .int (iI (nbM c w))), (4, .int (iI w)), (3, .int (iI c)), (2, .int (iI k)), (0, .ref (ma 100)), (1, .int (iI v))]) dX6_layHeaps_52 (by decide) rfl ?_
                  refine g_iload F 0 dX6_layHeaps_54 rfl ?_
                  refine g_if_lt F 99 (by omega) dX6_layHeaps_56 (by decide) (fun c56 => ?_) (fun c56 => ?_)
                  · skip
                    refine g_iconst F dX6_layHeaps_99 ?_
                    refine g_istore F (lv' := [(6, .int (iI 0)), (5, .int (iI (nbM c w))), (4, .int (iI w)), (3, .int (iI c)), (2, .int (iI k)), (0, .ref (ma 100)), (1, .int (iI v))]) dX6_layHeaps_100 (by decide) rfl ?_
                    refine g_aload_n F 5 dX6_layHeaps_102 rfl ?_
                    refine gm_get_39 F dX6_layHeaps_103 ?_
                    refine g_iload_n F 3 dX6_layHeaps_106 rfl ?_
                    refine g_iload F 0 dX6_layHeaps_107 rfl ?_
                    refine g_if_eq F 122 (by omega) dX6_layHeaps_109 (by decide) (fun c109 => ?_) (fun c109 => ?_)
                    · skip
                      refine g_aload_n F 5 dX6_layHeaps_122 rfl ?_
                      refine gm_get_39 F dX6_layHeaps_123 ?_
                      refine g_iload_n F 3 dX6_layHeaps_126 rfl ?_
                      refine gm_ald_39 F (by omega) dX6_layHeaps_127 ?_
                      refine g_top (y := iI (g3 c)) rfl ?_
                      refine gm_astS_39 F (by omega) dX6_layHeaps_128 ?_
                      refine g_iinc F (lv' := [(4, .int (iI (w + 1))), (6, .int (iI 0)), (5, .int (iI (nbM c w))), (3, .int (iI c)), (2, .int (iI k)), (0, .ref (ma 100)), (1, .int (iI v))]) 2 dX6_layHeaps_129 rfl (by decide) rfl ?_
                      refine g_goto F 40 dX6_layHeaps_132 (by decide) ?_
                      refine g_sub F (lv' := [(4, .int (iI (w + 1))), (3, .int (iI c)), (2, .int (iI k)), (0, .ref (ma 100)), (1, .int (iI v))]) [0, 3, 4, 5, 6] rfl ?_
                      exact ih40 _ (by omega) (w + 1) (uI g3 c (g3 c)) rfl (by omega) (hp_w hH3 ⟨hc.1, by omega⟩ ⟨hw.1, by omega⟩ (by first | (refine Or.inl ⟨⟨?_, ?_⟩, ?_, ?_⟩ <;> omega) | exact Or.inr ⟨fun q => by obtain ⟨⟨q1, q2⟩, q3⟩ := q; omega, rfl⟩))
                    · skip
                      exact absurd trivial (by omega)
                  · skip
                    have en := hn.2.2.1 c56
                    have hk2 := hag (nbM c w) (by omega) (by omega)
                    have ea : aprt (M 2 c) (M 2 (nbM c w)) = ((M 2 c - M 2 (nb c w)).natAbs : Int) := by rw [en]; exact aprt_abs _ _
                    have eg : g3 (nb c w) = g3 (nbM c w) := by rw [en]
                    have eM : M 2 (nb c w) = M 2 (nbM c w) := by rw [en]
                    have hg1 := (hH3.1 c ⟨hc.1, by omega⟩).1
                    have hg2 := (hH3.1 (nbM c w) ⟨by omega, by omega⟩).1
                    refine g_aload_n F 4 dX6_layHeaps_59 rfl ?_
                    refine gm_get_2 F dX6_layHeaps_60 ?_
                    refine g_iload_n F 2 dX6_layHeaps_63 rfl ?_
                    refine gm_ald_2 F (by omega) dX6_layHeaps_64 ?_
                    refine g_top (y := iI (M 2 c)) rfl ?_
                    refine g_aload_n F 4 dX6_layHeaps_65 rfl ?_
                    refine gm_get_2 F dX6_layHeaps_66 ?_
                    refine g_iload F 0 dX6_layHeaps_69 rfl ?_
                    refine gm_ald_2 F (by omega) dX6_layHeaps_71 ?_
                    refine g_top (y := iI (M 2 (nbM c w))) rfl ?_
                    refine g_callSI F (stk := [.int (iI (M 2 (nbM c w))), .int (iI (M 2 c))]) (st := []) (k_X6_apart κ (mw κ ma (mA M 39 g3)) (M 2 c) (M 2 (nbM c w)) (by omega)) cal_X6_apart lm_X6_108 rfl (by decide) rfl (Nat.le_of_ble_eq_true rfl) dX6_layHeaps_72 (fun r72 ws72 _ hr72 => ?_)
                    obtain ⟨rfl, rfl⟩ := hr72
                    refine g_iload_n F 5 dX6_layHeaps_75 rfl ?_
                    refine g_icmp_gt F 99 (by omega) dX6_layHeaps_76 (by decide) (fun c76 => ?_) (fun c76 => ?_)
                    · skip
                      refine g_iconst F dX6_layHeaps_99 ?_
                      refine g_istore F (lv' := [(6, .int (iI 0)), (5, .int (iI (nbM c w))), (4, .int (iI w)), (3, .int (iI c)), (2, .int (iI k)), (0, .ref (ma 100)), (1, .int (iI v))]) dX6_layHeaps_100 (by decide) rfl ?_
                      refine g_aload_n F 5 dX6_layHeaps_102 rfl ?_
                      refine gm_get_39 F dX6_layHeaps_103 ?_
                      refine g_iload_n F 3 dX6_layHeaps_106 rfl ?_
                      refine g_iload F 0 dX6_layHeaps_107 rfl ?_
                      refine g_if_eq F 122 (by omega) dX6_layHeaps_109 (by decide) (fun c109 => ?_) (fun c109 => ?_)
                      · skip
                        refine g_aload_n F 5 dX6_layHeaps_122 rfl ?_
                        refine gm_get_39 F dX6_layHeaps_123 ?_
                        refine g_iload_n F 3 dX6_layHeaps_126 rfl ?_
                        refine gm_ald_39 F (by omega) dX6_layHeaps_127 ?_
                        refine g_top (y := iI (g3 c)) rfl ?_
                        refine gm_astS_39 F (by omega) dX6_layHeaps_128 ?_
                        refine g_iinc F (lv' := [(4, .int (iI (w + 1))), (6, .int (iI 0)), (5, .int (iI (nbM c w))), (3, .int (iI c)), (2, .int (iI k)), (0, .ref (ma 100)), (1, .int (iI v))]) 2 dX6_layHeaps_129 rfl (by decide) rfl ?_
                        refine g_goto F 40 dX6_layHeaps_132 (by decide) ?_
                        refine g_sub F (lv' := [(4, .int (iI (w + 1))), (3, .int (iI c)), (2, .int (iI k)), (0, .ref (ma 100)), (1, .int (iI v))]) [0, 3, 4, 5, 6] rfl ?_
                        exact ih40 _ (by omega) (w + 1) (uI g3 c (g3 c)) rfl (by omega) (hp_w hH3 ⟨hc.1, by omega⟩ ⟨hw.1, by omega⟩ (by first | (refine Or.inl ⟨⟨?_, ?_⟩, ?_, ?_⟩ <;> omega) | exact Or.inr ⟨fun q => by obtain ⟨⟨q1, q2⟩, q3⟩ := q; omega, rfl⟩))
                      · skip
                        exact absurd trivial (by omega)
                    · skip
                      refine g_aload_n F 4 dX6_layHeaps_79 rfl ?_
                      refine gm_get_39 F dX6_layHeaps_80 ?_
                      refine g_iload F 0 dX6_layHeaps_83 rfl ?_
                      refine gm_ald_39 F (by omega) dX6_layHeaps_85 ?_
                      refine g_top (y := iI (g3 (nbM c w))) rfl ?_
                      refine g_aload_n F 4 dX6_layHeaps_86 rfl ?_
                      refine gm_get_39 F dX6_layHeaps_87 ?_
                      refine g_iload_n F 2 dX6_layHeaps_90 rfl ?_
                      refine gm_ald_39 F (by omega) dX6_layHeaps_91 ?_
                      refine g_top (y := iI (g3 c)) rfl ?_
                      refine g_icmp_ge F 99 (by omega) dX6_layHeaps_92 (by decide) (fun c92 => ?_) (fun c92 => ?_)
                      · skip
                        refine g_iconst F dX6_layHeaps_99 ?_
                        refine g_istore F (lv' := [(6, .int (iI 0)), (5, .int (iI (nbM c w))), (4, .int (iI w)), (3, .int (iI c)), (2, .int (iI k)), (0, .ref (ma 100)), (1, .int (iI v))]) dX6_layHeaps_100 (by decide) rfl ?_
                        refine g_aload_n F 5 dX6_layHeaps_102 rfl ?_
                        refine gm_get_39 F dX6_layHeaps_103 ?_
                        refine g_iload_n F 3 dX6_layHeaps_106 rfl ?_
                        refine g_iload F 0 dX6_layHeaps_107 rfl ?_
                        refine g_if_eq F 122 (by omega) dX6_layHeaps_109 (by decide) (fun c109 => ?_) (fun c109 => ?_)
                        · skip
                          refine g_aload_n F 5 dX6_layHeaps_122 rfl ?_
                          refine gm_get_39 F dX6_layHeaps_123 ?_
                          refine g_iload_n F 3 dX6_layHeaps_126 rfl ?_
                          refine gm_ald_39 F (by omega) dX6_layHeaps_127 ?_
                          refine g_top (y := iI (g3 c)) rfl ?_
                          refine gm_astS_39 F (by omega) dX6_layHeaps_128 ?_
                          refine g_iinc F (lv' := [(4, .int (iI (w + 1))), (6, .int (iI 0)), (5, .int (iI (nbM c w))), (3, .int (iI c)), (2, .int (iI k)), (0, .ref (ma 100)), (1, .int (iI v))]) 2 dX6_layHeaps_129 rfl (by decide) rfl ?_
                          refine g_goto F 40 dX6_layHeaps_132 (by decide) ?_
                          refine g_sub F (lv' := [(4, .int (iI (w + 1))), (3, .int (iI c)), (2, .int (iI k)), (0, .ref (ma 100)), (1, .int (iI v))]) [0, 3, 4, 5, 6] rfl ?_
                          exact ih40 _ (by omega) (w + 1) (uI g3 c (g3 c)) rfl (by omega) (hp_w hH3 ⟨hc.1, by omega⟩ ⟨hw.1, by omega⟩ (by first | (refine Or.inl ⟨⟨?_, ?_⟩, ?_, ?_⟩ <;> omega) | exact Or.inr ⟨fun q => by obtain ⟨⟨q1, q2⟩, q3⟩ := q; omega, rfl⟩))
                        · skip
                          exact absurd trivial (by omega)
                      · skip
                        refine g_iconst F dX6_layHeaps_95 ?_
                        refine g_goto F 100 dX6_layHeaps_96 (by decide) ?_
                        refine g_istore F (lv' := [(6, .int (iI 1)), (5, .int (iI (nbM c w))), (4, .int (iI w)), (3, .int (iI c)), (2, .int (iI k)), (0, .ref (ma 100)), (1, .int (iI v))]) dX6_layHeaps_100 (by decide) rfl ?_
                        refine g_aload_n F 5 dX6_layHeaps_102 rfl ?_
                        refine gm_get_39 F dX6_layHeaps_103 ?_
                        refine g_iload_n F 3 dX6_layHeaps_106 rfl ?_
                        refine g_iload F 0 dX6_layHeaps_107 rfl ?_
                        refine g_if_eq F 122 (by omega) dX6_layHeaps_109 (by decide) (fun c109 => ?_) (fun c109 => ?_)
                        · skip
                          exact absurd trivial (by omega)
                        · skip
                          refine g_aload_n F 5 dX6_layHeaps_112 rfl ?_
                          refine gm_get_39 F dX6_layHeaps_113 ?_
                          refine g_iload F 1 dX6_layHeaps_116 rfl ?_
                          refine gm_ald_39 F (by omega) dX6_layHeaps_118 ?_
                          refine g_top (y := iI (g3 (nbM c w))) rfl ?_
                          refine g_goto F 128 dX6_layHeaps_119 (by decide) ?_
                          refine gm_astS_39 F (by omega) dX6_layHeaps_128 ?_
                          refine g_iinc F (lv' := [(4, .int (iI (w + 1))), (6, .int (iI 1)), (5, .int (iI (nbM c w))), (3, .int (iI c)), (2, .int (iI k)), (0, .ref (ma 100)), (1, .int (iI v))]) 2 dX6_layHeaps_129 rfl (by decide) rfl ?_
                          refine g_goto F 40 dX6_layHeaps_132 (by decide) ?_
                          refine g_sub F (lv' := [(4, .int (iI (w + 1))), (3, .int (iI c)), (2, .int (iI k)), (0, .ref (ma 100)), (1, .int (iI v))]) [0, 3, 4, 5, 6] rfl ?_
                          exact ih40 _ (by omega) (w + 1) (uI g3 c (g3 (nbM c w))) rfl (by omega) (hp_w hH3 ⟨hc.1, by omega⟩ ⟨hw.1, by omega⟩ (by first | (refine Or.inl ⟨⟨?_, ?_⟩, ?_, ?_⟩ <;> omega) | exact Or.inr ⟨fun q => by obtain ⟨⟨q1, q2⟩, q3⟩ := q; omega, rfl⟩))
              refine g_sub F (lv' := [(4, .int (iI 0)), (3, .int (iI c)), (2, .int (iI k)), (0, .ref (ma 100)), (1, .int (iI v))]) [0, 1, 2, 3, 4] rfl ?_
              exact L40 _ 0 g2 rfl (by omega) hH2
          refine g_sub F (lv' := [(3, .int (iI 0)), (2, .int (iI k)), (0, .ref (ma 100)), (1, .int (iI v))]) [0, 1, 2, 3] rfl ?_
          exact L31 _ 0 g rfl (by omega) hH
      refine g_sub F (lv' := [(2, .int (iI 0)), (0, .ref (ma 100)), (1, .int (iI v))]) [0, 1, 2] rfl ?_
      exact L23 _ 0 f rfl (by omega) (hp_0 (fun x hx => by rw [hf, show i = 12 by omega]; exact upTo_in hx.1 hx.2))
    · skip
      refine g_aload_n F 1 dX6_layHeaps_8 rfl ?_
      refine gm_get_39 F dX6_layHeaps_9 ?_
      refine g_iload_n F 0 dX6_layHeaps_12 rfl ?_
      refine g_iload_n F 0 dX6_layHeaps_13 rfl ?_
      refine gm_astS_39 F (by omega) dX6_layHeaps_14 ?_
      refine g_iinc F (lv' := [(2, .int (iI (i + 1))), (0, .ref (ma 100)), (1, .int (iI v))]) 0 dX6_layHeaps_15 rfl (by decide) rfl ?_
      refine g_goto F 2 dX6_layHeaps_18 (by decide) ?_
      refine g_sub F (lv' := [(2, .int (iI (i + 1))), (0, .ref (ma 100)), (1, .int (iI v))]) [0, 1, 2] rfl ?_
      exact ih2 _ (by omega) (i + 1) (uI f i i) rfl (by omega) (by rw [hf]; exact upTo_s _ (fun j => j) hi.1)
  refine g_sub F (lv' := [(2, .int (iI 0)), (0, .ref (ma 100)), (1, .int (iI v))]) [0, 1, 2] rfl ?_
  refine g_ws (ws' := mw κ ma (mA M 39 (M 39))) (by rw [mA_self]) ?_
  exact L2 _ 0 (M 39) rfl (by omega) (upTo_0 _ _).symm
theorem dX6_islands_0 : decode cX6_islands 0 = .ok (.aload_n 0, 1) := by decide +kernel
theorem dX6_islands_1 : decode cX6_islands 1 = .ok (.iconst 0, 1) := by decide +kernel
theorem dX6_islands_2 : decode cX6_islands 2 = .ok (.putfield 91, 3) := by decide +kernel
theorem dX6_islands_5 : decode cX6_islands 5 = .ok (.iload_n 1, 1) := by decide +kernel
theorem dX6_islands_6 : decode cX6_islands 6 = .ok (.iconst 0, 1) := by decide +kernel
theorem dX6_islands_7 : decode cX6_islands 7 = .ok (.bipush 99, 2) := by decide +kernel
theorem dX6_islands_9 : decode cX6_islands 9 = .ok (.invokestatic 237, 3) := by decide +kernel
theorem dX6_islands_12 : decode cX6_islands 12 = .ok (.iload_n 2, 1) := by decide +kernel
theorem dX6_islands_13 : decode cX6_islands 13 = .ok (.iconst 1, 1) := by decide +kernel
theorem dX6_islands_14 : decode cX6_islands 14 = .ok (.invokestatic 247, 3) := by decide +kernel
theorem dX6_islands_17 : decode cX6_islands 17 = .ok (.istore_n 3, 1) := by decide +kernel
theorem dX6_islands_18 : decode cX6_islands 18 = .ok (.iload_n 3, 1) := by decide +kernel
theorem dX6_islands_19 : decode cX6_islands 19 = .ok (.ifCond .ge 9, 3) := by decide +kernel
theorem dX6_islands_22 : decode cX6_islands 22 = .ok (.aload_n 0, 1) := by decide +kernel
theorem dX6_islands_23 : decode cX6_islands 23 = .ok (.iload_n 3, 1) := by decide +kernel
theorem dX6_islands_24 : decode cX6_islands 24 = .ok (.invokevirtual 138, 3) := by decide +kernel
theorem dX6_islands_27 : decode cX6_islands 27 = .ok (.ireturn, 1) := by decide +kernel
theorem dX6_islands_28 : decode cX6_islands 28 = .ok (.aload_n 0, 1) := by decide +kernel
theorem dX6_islands_29 : decode cX6_islands 29 = .ok (.iload_n 1, 1) := by decide +kernel
theorem dX6_islands_30 : decode cX6_islands 30 = .ok (.invokevirtual 301, 3) := by decide +kernel
theorem dX6_islands_33 : decode cX6_islands 33 = .ok (.iconst 0, 1) := by decide +kernel
theorem dX6_islands_34 : decode cX6_islands 34 = .ok (.istore 4, 2) := by decide +kernel
theorem dX6_islands_36 : decode cX6_islands 36 = .ok (.iconst 0, 1) := by decide +kernel
theorem dX6_islands_37 : decode cX6_islands 37 = .ok (.istore 5, 2) := by decide +kernel
theorem dX6_islands_39 : decode cX6_islands 39 = .ok (.iconst 0, 1) := by decide +kernel
theorem dX6_islands_40 : decode cX6_islands 40 = .ok (.istore 6, 2) := by decide +kernel
theorem dX6_islands_42 : decode cX6_islands 42 = .ok (.iload 6, 2) := by decide +kernel
theorem dX6_islands_44 : decode cX6_islands 44 = .ok (.bipush 12, 2) := by decide +kernel
theorem dX6_islands_46 : decode cX6_islands 46 = .ok (.if_icmp .ge 81, 3) := by decide +kernel
theorem dX6_islands_49 : decode cX6_islands 49 = .ok (.iconst 0, 1) := by decide +kernel
theorem dX6_islands_50 : decode cX6_islands 50 = .ok (.istore 7, 2) := by decide +kernel
theorem dX6_islands_52 : decode cX6_islands 52 = .ok (.iconst 0, 1) := by decide +kernel
theorem dX6_islands_53 : decode cX6_islands 53 = .ok (.istore 8, 2) := by decide +kernel
theorem dX6_islands_55 : decode cX6_islands 55 = .ok (.iload 8, 2) := by decide +kernel
theorem dX6_islands_57 : decode cX6_islands 57 = .ok (.bipush 12, 2) := by decide +kernel
theorem dX6_islands_59 : decode cX6_islands 59 = .ok (.if_icmp .ge 31, 3) := by decide +kernel
theorem dX6_islands_62 : decode cX6_islands 62 = .ok (.iload 7, 2) := by decide +kernel
theorem dX6_islands_64 : decode cX6_islands 64 = .ok (.aload_n 0, 1) := by decide +kernel
theorem dX6_islands_65 : decode cX6_islands 65 = .ok (.getfield 82, 3) := by decide +kernel
theorem dX6_islands_68 : decode cX6_islands 68 = .ok (.iload 8, 2) := by decide +kernel
theorem dX6_islands_70 : decode cX6_islands 70 = .ok (.iaload, 1) := by decide +kernel
theorem dX6_islands_71 : decode cX6_islands 71 = .ok (.iload 6, 2) := by decide +kernel
theorem dX6_islands_73 : decode cX6_islands 73 = .ok (.if_icmp .ne 7, 3) := by decide +kernel
theorem dX6_islands_76 : decode cX6_islands 76 = .ok (.iconst 1, 1) := by decide +kernel
theorem dX6_islands_77 : decode cX6_islands 77 = .ok (.goto 4, 3) := by decide +kernel
theorem dX6_islands_80 : decode cX6_islands 80 = .ok (.iconst 0, 1) := by decide +kernel
theorem dX6_islands_81 : decode cX6_islands 81 = .ok (.iadd, 1) := by decide +kernel
theorem dX6_islands_82 : decode cX6_islands 82 = .ok (.istore 7, 2) := by decide +kernel
theorem dX6_islands_84 : decode cX6_islands 84 = .ok (.iinc 8 1, 3) := by decide +kernel
theorem dX6_islands_87 : decode cX6_islands 87 = .ok (.goto (-32), 3) := by decide +kernel
theorem dX6_islands_90 : decode cX6_islands 90 = .ok (.iload 4, 2) := by decide +kernel
theorem dX6_islands_92 : decode cX6_islands 92 = .ok (.iload 7, 2) := by decide +kernel
theorem dX6_islands_94 : decode cX6_islands 94 = .ok (.ifCond .le 7, 3) := by decide +kernel
theorem dX6_islands_97 : decode cX6_islands 97 = .ok (.iconst 1, 1) := by decide +kernel
theorem dX6_islands_98 : decode cX6_islands 98 = .ok (.goto 4, 3) := by decide +kernel
theorem dX6_islands_101 : decode cX6_islands 101 = .ok (.iconst 0, 1) := by decide +kernel
theorem dX6_islands_102 : decode cX6_islands 102 = .ok (.iadd, 1) := by decide +kernel
theorem dX6_islands_103 : decode cX6_islands 103 = .ok (.istore 4, 2) := by decide +kernel
theorem dX6_islands_105 : decode cX6_islands 105 = .ok (.iload 7, 2) := by decide +kernel
theorem dX6_islands_107 : decode cX6_islands 107 = .ok (.iload 5, 2) := by decide +kernel
theorem dX6_islands_109 : decode cX6_islands 109 = .ok (.if_icmp .le 8, 3) := by decide +kernel
theorem dX6_islands_112 : decode cX6_islands 112 = .ok (.iload 7, 2) := by decide +kernel
theorem dX6_islands_114 : decode cX6_islands 114 = .ok (.goto 5, 3) := by decide +kernel
theorem dX6_islands_117 : decode cX6_islands 117 = .ok (.iload 5, 2) := by decide +kernel
theorem dX6_islands_119 : decode cX6_islands 119 = .ok (.istore 5, 2) := by decide +kernel
theorem dX6_islands_121 : decode cX6_islands 121 = .ok (.iinc 6 1, 3) := by decide +kernel
theorem dX6_islands_124 : decode cX6_islands 124 = .ok (.goto (-82), 3) := by decide +kernel
theorem dX6_islands_127 : decode cX6_islands 127 = .ok (.iload_n 2, 1) := by decide +kernel
theorem dX6_islands_128 : decode cX6_islands 128 = .ok (.ifCond .ne 8, 3) := by decide +kernel
theorem dX6_islands_131 : decode cX6_islands 131 = .ok (.iload 4, 2) := by decide +kernel
theorem dX6_islands_133 : decode cX6_islands 133 = .ok (.goto 5, 3) := by decide +kernel
theorem dX6_islands_136 : decode cX6_islands 136 = .ok (.iload 5, 2) := by decide +kernel
theorem dX6_islands_138 : decode cX6_islands 138 = .ok (.ireturn, 1) := by decide +kernel
set_option maxRecDepth 100000 in
set_option maxHeartbeats 4000000 in
theorem k_X6_islands (κ : Kp) (ma : Nat → Nat) (M : MS) (v : Int) (w : Int)  (ha_v : In32 v) (ha_w : In32 w) (ok : okC (cl M)) : mI κ yX6_islands cX6_islands 9 .int 3 [.ref (ma 100), .int (iI v), .int (iI w)] (mw κ ma M) (qM κ ma M (qIslands (M 2) v w)) := by
  refine mI_of (by decide) (Nat.le_of_ble_eq_true rfl) (fun E F K => ?_)
  refine g_lv (lv' := [(0, .ref (ma 100)), (1, .int (iI v)), (2, .int (iI w))]) rfl ?_
  refine g_aload_n F 0 dX6_islands_0 rfl ?_
  refine g_iconst F dX6_islands_1 ?_
  refine gm_put_10 F dX6_islands_2 ?_
  refine g_iload_n F 1 dX6_islands_5 rfl ?_
  refine g_iconst F dX6_islands_6 ?_
  refine g_bipush F dX6_islands_7 (by decide +kernel) ?_
  refine g_callSI F (stk := [.int (iI 99), .int (iI 0), .int (iI v)]) (st := []) (k_X6_wrongNumber κ (mw κ ma (mA M 10 (fun _ => 0))) v 0 99 (by omega)) cal_X6_wrongNumber lm_X6_237 rfl (by decide) rfl (Nat.le_of_ble_eq_true rfl) dX6_islands_9 (fun r9 ws9 _ hr9 => ?_)
  obtain ⟨rfl, rfl⟩ := hr9
  have hwn9 := wn_spec v 0 99
  refine g_iload_n F 2 dX6_islands_12 rfl ?_
  refine g_iconst F dX6_islands_13 ?_
  refine g_callSI F (stk := [.int (iI 1), .int (iI w), .int (iI (wnum v 0 99))]) (st := []) (k_X6_wrongBit κ (mw κ ma (mA M 10 (fun _ => 0))) (wnum v 0 99) w 1 (by omega)) cal_X6_wrongBit lm_X6_247 rfl (by decide) rfl (Nat.le_of_ble_eq_true rfl) dX6_islands_14 (fun r14 ws14 _ hr14 => ?_)
  obtain ⟨rfl, rfl⟩ := hr14
  have hwb14 := wb_spec (wnum v 0 99) w 1
  refine g_istore_n F (lv' := [(3, .int (iI (wbit (wnum v 0 99) w 1))), (0, .ref (ma 100)), (1, .int (iI v)), (2, .int (iI w))]) 3 dX6_islands_17 rfl (by decide) rfl ?_
  refine g_iload_n F 0 dX6_islands_18 rfl ?_
  refine g_if_ge F 28 (by omega) dX6_islands_19 (by decide) (fun c19 => ?_) (fun c19 => ?_)
  · skip
    refine g_aload_n F 1 dX6_islands_28 rfl ?_
    refine g_iload_n F 2 dX6_islands_29 rfl ?_
    refine g_callV F (stk := [.int (iI v), .ref (ma 100)]) (st := []) (k_X6_layHeaps κ ma (mA M 10 (fun _ => 0)) v (by omega) ok.a) cal_X6_layHeaps lm_X6_301 0 rfl rfl rfl rfl (by decide) rfl (Nat.le_of_ble_eq_true rfl) dX6_islands_30 (fun ws30 _ hr30 => ?_)
    obtain ⟨f30, rfl, hf30⟩ := hr30
    have hf30 : hpL (M 2) v f30 := hf30
    refine g_iconst F dX6_islands_33 ?_
    refine g_istore F (lv' := [(4, .int (iI 0)), (3, .int (iI (wbit (wnum v 0 99) w 1))), (0, .ref (ma 100)), (1, .int (iI v)), (2, .int (iI w))]) dX6_islands_34 (by decide) rfl ?_
    refine g_iconst F dX6_islands_36 ?_
    refine g_istore F (lv' := [(5, .int (iI 0)), (4, .int (iI 0)), (3, .int (iI (wbit (wnum v 0 99) w 1))), (0, .ref (ma 100)), (1, .int (iI v)), (2, .int (iI w))]) dX6_islands_37 (by decide) rfl ?_
    refine g_iconst F dX6_islands_39 ?_
    refine g_istore F (lv' := [(6, .int (iI 0)), (5, .int (iI 0)), (4, .int (iI 0)), (3, .int (iI (wbit (wnum v 0 99) w 1))), (0, .ref (ma 100)), (1, .int (iI v)), (2, .int (iI w))]) dX6_islands_40 (by decide) rfl ?_
    have L42 : ∀ (mz42 : Nat) (h : Int) (my : Int) (mo : Int), (12 - h).toNat = mz42 → (0 ≤ h ∧ h ≤ 12) → (my = nIs (M 2) v h) → (mo = mxI (M 2) v h) → ((0 ≤ my ∧ my ≤ h) ∧ 0 ≤ mo ∧ mo ≤ 12) → G E (mw κ ma (mA (mA M 10 (fun _ => 0)) 39 f30)) [(6, .int (iI h)), (5, .int (iI mo)), (4, .int (iI my)), (0, .ref (ma 100)), (1, .int (iI v)), (2, .int (iI w))] 42 [] := by
      intro mz42
      induction mz42 using Nat.strongRecOn with
      | _ mz42 ih42 =>
      intro h my mo hmz42 hh hmy hmo hbb
      refine g_iload F 0 dX6_islands_42 rfl ?_
      refine g_bipush F dX6_islands_44 (by decide +kernel) ?_
      refine g_icmp_ge F 127 (by omega) dX6_islands_46 (by decide) (fun c46 => ?_) (fun c46 => ?_)
      · skip
        have hh12 : h = tw := by rw [tw_eq]; omega
        rw [hh12] at hmy hmo
        refine g_iload_n F 5 dX6_islands_127 rfl ?_
        refine g_if_ne F 136 (by omega) dX6_islands_128 (by decide) (fun c128 => ?_) (fun c128 => ?_)
        · skip
          refine g_iload F 1 dX6_islands_136 rfl ?_
          have hq : mo = qIslands (M 2) v w := by unfold qIslands; (repeat' split) <;> omega
          exact K mw_same ⟨_, rfl, iIc hq, ⟨rfl, rfl, rfl, rfl, rfl, rfl, rfl, rfl, rfl, rfl, rfl, rfl, rfl, rfl, rfl, rfl, rfl, rfl⟩, (by rw [← hq]; show M 11 = _; exact (rfa_n (by omega)).symm)⟩ rfl dX6_islands_138
        · skip
          refine g_iload F 2 dX6_islands_131 rfl ?_
          refine g_goto F 138 dX6_islands_133 (by decide) ?_
          have hq : my = qIslands (M 2) v w := by unfold qIslands; (repeat' split) <;> omega
          exact K mw_same ⟨_, rfl, iIc hq, ⟨rfl, rfl, rfl, rfl, rfl, rfl, rfl, rfl, rfl, rfl, rfl, rfl, rfl, rfl, rfl, rfl, rfl, rfl⟩, (by rw [← hq]; show M 11 = _; exact (rfa_n (by omega)).symm)⟩ rfl dX6_islands_138
      · skip
        refine g_iconst F dX6_islands_49 ?_
        refine g_istore F (lv' := [(7, .int (iI 0)), (6, .int (iI h)), (5, .int (iI mo)), (4, .int (iI my)), (0, .ref (ma 100)), (1, .int (iI v)), (2, .int (iI w))]) dX6_islands_50 (by decide) rfl ?_
        refine g_iconst F dX6_islands_52 ?_
        refine g_istore F (lv' := [(8, .int (iI 0)), (7, .int (iI 0)), (6, .int (iI h)), (5, .int (iI mo)), (4, .int (iI my)), (0, .ref (ma 100)), (1, .int (iI v)), (2, .int (iI w))]) dX6_islands_53 (by decide) rfl ?_
        have L55 : ∀ (mz55 : Nat) (c : Int) (n : Int), (12 - c).toNat = mz55 → (0 ≤ c ∧ c ≤ 12) → (n = sumI (heq f30 h) c) → (0 ≤ n ∧ n ≤ c) → G E (mw κ ma (mA (mA M 10 (fun _ => 0)) 39 f30)) [(8, .int (iI c)), (7, .int (iI n)), (6, .int (iI h)), (5, .int (iI mo)), (4, .int (iI my)), (0, .ref (ma 100)), (1, .int (iI v)), (2, .int (iI w))] 55 [] := by
          intro mz55
          induction mz55 using Nat.strongRecOn with
          | _ mz55 ih55 =>
          intro c n hmz55 hc hn hnb
          refine g_iload F 0 dX6_islands_55 rfl ?_
          refine g_bipush F dX6_islands_57 (by decide +kernel) ?_
          refine g_icmp_ge F 90 (by omega) dX6_islands_59 (by decide) (fun c59 => ?_) (fun c59 => ?_)
          · skip
            have hn12 : n = sumI (heq f30 h) 12 := by rw [hn, show c = 12 by omega]
            have hst : (isM (M 2) v h ∧ n = cnt (conn (M 2) v h) ∧ 1 ≤ n) ∨ (¬ isM (M 2) v h ∧ n = 0) := by rcases isM_dec (a := M 2) (v := v) h with q | q; exact Or.inl ⟨q, by have := heq_t hf30 (h := h) ⟨hh.1, by omega⟩ q; omega, by have := heq_t hf30 (h := h) ⟨hh.1, by omega⟩ q; omega⟩; exact Or.inr ⟨q, by have := heq_f hf30 (h := h) ⟨hh.1, by omega⟩ q; omega⟩
            refine g_iload F 4 dX6_islands_90 rfl ?_
            refine g_iload F 1 dX6_islands_92 rfl ?_
            refine g_if_le F 101 (by omega) dX6_islands_94 (by decide) (fun c94 => ?_) (fun c94 => ?_)
            · skip
              refine g_iconst F dX6_islands_101 ?_
              refine g_iadd F dX6_islands_102 ?_
              refine g_istore F (lv' := [(4, .int (iI (my + 0))), (8, .int (iI c)), (7, .int (iI n)), (6, .int (iI h)), (5, .int (iI mo)), (0, .ref (ma 100)), (1, .int (iI v)), (2, .int (iI w))]) dX6_islands_103 (by decide) rfl ?_
              refine g_iload F 2 dX6_islands_105 rfl ?_
              refine g_iload F 4 dX6_islands_107 rfl ?_
              refine g_icmp_le F 117 (by omega) dX6_islands_109 (by decide) (fun c109 => ?_) (fun c109 => ?_)
              · skip
                refine g_iload F 4 dX6_islands_117 rfl ?_
                refine g_istore F (lv' := [(5, .int (iI mo)), (4, .int (iI (my + 0))), (8, .int (iI c)), (7, .int (iI n)), (6, .int (iI h)), (0, .ref (ma 100)), (1, .int (iI v)), (2, .int (iI w))]) dX6_islands_119 (by decide) rfl ?_
                refine g_iinc F (lv' := [(6, .int (iI (h + 1))), (5, .int (iI mo)), (4, .int (iI (my + 0))), (8, .int (iI c)), (7, .int (iI n)), (0, .ref (ma 100)), (1, .int (iI v)), (2, .int (iI w))]) 4 dX6_islands_121 rfl (by decide) rfl ?_
                refine g_goto F 42 dX6_islands_124 (by decide) ?_
                refine g_sub F (lv' := [(6, .int (iI (h + 1))), (5, .int (iI mo)), (4, .int (iI (my + 0))), (0, .ref (ma 100)), (1, .int (iI v)), (2, .int (iI w))]) [0, 1, 2, 5, 6, 7] rfl ?_
                exact ih42 _ (by omega) (h + 1) (my + 0) mo rfl (by omega) (by rcases hst with ⟨q, q1, q2⟩ | ⟨q, q1⟩ <;> first | (exfalso; omega) | (rw [nIs_t hh.1 q]; omega) | (rw [nIs_f hh.1 q]; omega)) (by rcases hst with ⟨q, q1, q2⟩ | ⟨q, q1⟩ <;> first | (exfalso; omega) | (rw [mxI_t hh.1 q]; omega) | (rw [mxI_f hh.1 q]; omega)) (by omega)
              · skip
                refine g_iload F 2 dX6_islands_112 rfl ?_
                refine g_goto F 119 dX6_islands_114 (by decide) ?_
                refine g_istore F (lv' := [(5, .int (iI n)), (4, .int (iI (my + 0))), (8, .int (iI c)), (7, .int (iI n)), (6, .int (iI h)), (0, .ref (ma 100)), (1, .int (iI v)), (2, .int (iI w))]) dX6_islands_119 (by decide) rfl ?_
                refine g_iinc F (lv' := [(6, .int (iI (h + 1))), (5, .int (iI n)), (4, .int (iI (my + 0))), (8, .int (iI c)), (7, .int (iI n)), (0, .ref (ma 100)), (1, .int (iI v)), (2, .int (iI w))]) 4 dX6_islands_121 rfl (by decide) rfl ?_
                refine g_goto F 42 dX6_islands_124 (by decide) ?_
                refine g_sub F (lv' := [(6, .int (iI (h + 1))), (5, .int (iI n)), (4, .int (iI (my + 0))), (0, .ref (ma 100)), (1, .int (iI v)), (2, .int (iI w))]) [0, 1, 2, 5, 6, 7] rfl ?_
                exact ih42 _ (by omega) (h + 1) (my + 0) n rfl (by omega) (by rcases hst with ⟨q, q1, q2⟩ | ⟨q, q1⟩ <;> first | (exfalso; omega) | (rw [nIs_t hh.1 q]; omega) | (rw [nIs_f hh.1 q]; omega)) (by rcases hst with ⟨q, q1, q2⟩ | ⟨q, q1⟩ <;> first | (exfalso; omega) | (rw [mxI_t hh.1 q]; omega) | (rw [mxI_f hh.1 q]; omega)) (by omega)
            · skip
              refine g_iconst F dX6_islands_97 ?_
              refine g_goto F 102 dX6_islands_98 (by decide) ?_
              refine g_iadd F dX6_islands_102 ?_
              refine g_istore F (lv' := [(4, .int (iI (my + 1))), (8, .int (iI c)), (7, .int (iI n)), (6, .int (iI h)), (5, .int (iI mo)), (0, .ref (ma 100)), (1, .int (iI v)), (2, .int (iI w))]) dX6_islands_103 (by decide) rfl ?_
              refine g_iload F 2 dX6_islands_105 rfl ?_
              refine g_iload F 4 dX6_islands_107 rfl ?_
              refine g_icmp_le F 117 (by omega) dX6_islands_109 (by decide) (fun c109 => ?_) (fun c109 => ?_)
              · skip
                refine g_iload F 4 dX6_islands_117 rfl ?_
                refine g_istore F (lv' := [(5, .int (iI mo)), (4, .int (iI (my + 1))), (8, .int (iI c)), (7, .int (iI n)), (6, .int (iI h)), (0, .ref (ma 100)), (1, .int (iI v)), (2, .int (iI w))]) dX6_islands_119 (by decide) rfl ?_
                refine g_iinc F (lv' := [(6, .int (iI (h + 1))), (5, .int (iI mo)), (4, .int (iI (my + 1))), (8, .int (iI c)), (7, .int (iI n)), (0, .ref (ma 100)), (1, .int (iI v)), (2, .int (iI w))]) 4 dX6_islands_121 rfl (by decide) rfl ?_
                refine g_goto F 42 dX6_islands_124 (by decide) ?_
                refine g_sub F (lv' := [(6, .int (iI (h + 1))), (5, .int (iI mo)), (4, .int (iI (my + 1))), (0, .ref (ma 100)), (1, .int (iI v)), (2, .int (iI w))]) [0, 1, 2, 5, 6, 7] rfl ?_
                exact ih42 _ (by omega) (h + 1) (my + 1) mo rfl (by omega) (by rcases hst with ⟨q, q1, q2⟩ | ⟨q, q1⟩ <;> first | (exfalso; omega) | (rw [nIs_t hh.1 q]; omega) | (rw [nIs_f hh.1 q]; omega)) (by rcases hst with ⟨q, q1, q2⟩ | ⟨q, q1⟩ <;> first | (exfalso; omega) | (rw [mxI_t hh.1 q]; omega) | (rw [mxI_f hh.1 q]; omega)) (by omega)
              · skip
                refine g_iload F 2 dX6_islands_112 rfl ?_
                refine g_goto F 119 dX6_islands_114 (by decide) ?_
                refine g_istore F (lv' := [(5, .int (iI n)), (4, .int (iI (my + 1))), (8, .int (iI c)), (7, .int (iI n)), (6, .int (iI h)), (0, .ref (ma 100)), (1, .int (iI v)), (2, .int (iI w))]) dX6_islands_119 (by decide) rfl ?_
                refine g_iinc F (lv' := [(6, .int (iI (h + 1))), (5, .int (iI n)), (4, .int (iI (my + 1))), (8, .int (iI c)), (7, .int (iI n)), (0, .ref (ma 100)), (1, .int (iI v)), (2, .int (iI w))]) 4 dX6_islands_121 rfl (by decide) rfl ?_
                refine g_goto F 42 dX6_islands_124 (by decide) ?_
                refine g_sub F (lv' := [(6, .int (iI (h + 1))), (5, .int (iI n)), (4, .int (iI (my + 1))), (0, .ref (ma 100)), (1, .int (iI v)), (2, .int (iI w))]) [0, 1, 2, 5, 6, 7] rfl ?_
                exact ih42 _ (by omega) (h + 1) (my + 1) n rfl (by omega) (by rcases hst with ⟨q, q1, q2⟩ | ⟨q, q1⟩ <;> first | (exfalso; omega) | (rw [nIs_t hh.1 q]; omega) | (rw [nIs_f hh.1 q]; omega)) (by rcases hst with ⟨q, q1, q2⟩ | ⟨q, q1⟩ <;> first | (exfalso; omega) | (rw [mxI_t hh.1 q]; omega) | (rw [mxI_f hh.1 q]; omega)) (by omega)
          · skip
            have hfr := (hf30 c ⟨hc.1, by omega⟩).1
            refine g_iload F 1 dX6_islands_62 rfl ?_
            refine g_aload_n F 5 dX6_islands_64 rfl ?_
            refine gm_get_39 F dX6_islands_65 ?_
            refine g_iload F 0 dX6_islands_68 rfl ?_
            refine gm_ald_39 F (by omega) dX6_islands_70 ?_
            refine g_top (y := iI (f30 c)) rfl ?_
            refine g_iload F 2 dX6_islands_71 rfl ?_
            refine g_icmp_ne F 80 (by omega) dX6_islands_73 (by decide) (fun c73 => ?_) (fun c73 => ?_)
            · skip
              refine g_iconst F dX6_islands_80 ?_
              refine g_iadd F dX6_islands_81 ?_
              refine g_istore F (lv' := [(7, .int (iI (n + 0))), (8, .int (iI c)), (6, .int (iI h)), (5, .int (iI mo)), (4, .int (iI my)), (0, .ref (ma 100)), (1, .int (iI v)), (2, .int (iI w))]) dX6_islands_82 (by decide) rfl ?_
              refine g_iinc F (lv' := [(8, .int (iI (c + 1))), (7, .int (iI (n + 0))), (6, .int (iI h)), (5, .int (iI mo)), (4, .int (iI my)), (0, .ref (ma 100)), (1, .int (iI v)), (2, .int (iI w))]) 1 dX6_islands_84 rfl (by decide) rfl ?_
              refine g_goto F 55 dX6_islands_87 (by decide) ?_
              refine g_sub F (lv' := [(8, .int (iI (c + 1))), (7, .int (iI (n + 0))), (6, .int (iI h)), (5, .int (iI mo)), (4, .int (iI my)), (0, .ref (ma 100)), (1, .int (iI v)), (2, .int (iI w))]) [0, 1, 2, 3, 4, 5, 6, 7] rfl ?_
              exact ih55 _ (by omega) (c + 1) (n + 0) rfl (by omega) (by rw [sumI_s _ hc.1, ← hn]; unfold heq; split <;> omega) (by omega)
            · skip
              refine g_iconst F dX6_islands_76 ?_
              refine g_goto F 81 dX6_islands_77 (by decide) ?_
              refine g_iadd F dX6_islands_81 ?_
              refine g_istore F (lv' := [(7, .int (iI (n + 1))), (8, .int (iI c)), (6, .int (iI h)), (5, .int (iI mo)), (4, .int (iI my)), (0, .ref (ma 100)), (1, .int (iI v)), (2, .int (iI w))]) dX6_islands_82 (by decide) rfl ?_
              refine g_iinc F (lv' := [(8, .int (iI (c + 1))), (7, .int (iI (n + 1))), (6, .int (iI h)), (5, .int (iI mo)), (4, .int (iI my)), (0, .ref (ma 100)), (1, .int (iI v)), (2, .int (iI w))]) 1 dX6_islands_84 rfl (by decide) rfl ?_
              refine g_goto F 55 dX6_islands_87 (by decide) ?_
              refine g_sub F (lv' := [(8, .int (iI (c + 1))), (7, .int (iI (n + 1))), (6, .int (iI h)), (5, .int (iI mo)), (4, .int (iI my)), (0, .ref (ma 100)), (1, .int (iI v)), (2, .int (iI w))]) [0, 1, 2, 3, 4, 5, 6, 7] rfl ?_
              exact ih55 _ (by omega) (c + 1) (n + 1) rfl (by omega) (by rw [sumI_s _ hc.1, ← hn]; unfold heq; split <;> omega) (by omega)
        refine g_sub F (lv' := [(8, .int (iI 0)), (7, .int (iI 0)), (6, .int (iI h)), (5, .int (iI mo)), (4, .int (iI my)), (0, .ref (ma 100)), (1, .int (iI v)), (2, .int (iI w))]) [0, 1, 2, 3, 4, 5, 6, 7] rfl ?_
        exact L55 _ 0 0 rfl (by omega) rfl (by omega)
    refine g_sub F (lv' := [(6, .int (iI 0)), (5, .int (iI 0)), (4, .int (iI 0)), (0, .ref (ma 100)), (1, .int (iI v)), (2, .int (iI w))]) [0, 1, 2, 4, 5, 6] rfl ?_
    exact L42 _ 0 0 0 rfl (by omega) rfl rfl (by omega)
  · skip
    refine g_aload_n F 1 dX6_islands_22 rfl ?_
    refine g_iload_n F 0 dX6_islands_23 rfl ?_
    refine g_callI F (stk := [.int (iI (wbit (wnum v 0 99) w 1)), .ref (ma 100)]) (st := []) (k_X6_refuse κ ma (mA M 10 (fun _ => 0)) (wbit (wnum v 0 99) w 1) (by omega)) cal_X6_refuse lm_X6_138 0 rfl rfl rfl rfl (by decide) rfl (Nat.le_of_ble_eq_true rfl) dX6_islands_24 (fun r24 ws24 _ hr24 => ?_)
    obtain ⟨rfl, rfl⟩ := hr24
    refine g_top (y := iI (wbit (wnum v 0 99) w 1)) rfl ?_
    refine g_ws (ws' := mw κ ma (mA (mA M 10 (fun _ => 0)) 11 (uI (M 11) (-(wbit (wnum v 0 99) w 1)) (M 11 (-(wbit (wnum v 0 99) w 1)) + 1)))) rfl ?_
    have hq : (wbit (wnum v 0 99) w 1) = qIslands (M 2) v w := by unfold qIslands; (repeat' split) <;> omega
    exact K mw_same ⟨_, rfl, iIc hq, ⟨rfl, rfl, rfl, rfl, rfl, rfl, rfl, rfl, rfl, rfl, rfl, rfl, rfl, rfl, rfl, rfl, rfl, rfl⟩, (by rw [← hq]; exact (rfa_r (by omega)).symm)⟩ rfl dX6_islands_27
theorem dX0_hangingOn_0 : decode cX0_hangingOn 0 = .ok (.iconst 0, 1) := by decide +kernel
theorem dX0_hangingOn_1 : decode cX0_hangingOn 1 = .ok (.istore_n 3, 1) := by decide +kernel
theorem dX0_hangingOn_2 : decode cX0_hangingOn 2 = .ok (.iconst 0, 1) := by decide +kernel
theorem dX0_hangingOn_3 : decode cX0_hangingOn 3 = .ok (.istore 4, 2) := by decide +kernel
theorem dX0_hangingOn_5 : decode cX0_hangingOn 5 = .ok (.iload 4, 2) := by decide +kernel
theorem dX0_hangingOn_7 : decode cX0_hangingOn 7 = .ok (.iconst 4, 1) := by decide +kernel
theorem dX0_hangingOn_8 : decode cX0_hangingOn 8 = .ok (.if_icmp .ge 55, 3) := by decide +kernel
theorem dX0_hangingOn_11 : decode cX0_hangingOn 11 = .ok (.getstatic 47, 3) := by decide +kernel
theorem dX0_hangingOn_14 : decode cX0_hangingOn 14 = .ok (.iload_n 1, 1) := by decide +kernel
theorem dX0_hangingOn_15 : decode cX0_hangingOn 15 = .ok (.iconst 4, 1) := by decide +kernel
theorem dX0_hangingOn_16 : decode cX0_hangingOn 16 = .ok (.imul, 1) := by decide +kernel
theorem dX0_hangingOn_17 : decode cX0_hangingOn 17 = .ok (.iload 4, 2) := by decide +kernel
theorem dX0_hangingOn_19 : decode cX0_hangingOn 19 = .ok (.iadd, 1) := by decide +kernel
theorem dX0_hangingOn_20 : decode cX0_hangingOn 20 = .ok (.iaload, 1) := by decide +kernel
theorem dX0_hangingOn_21 : decode cX0_hangingOn 21 = .ok (.istore 5, 2) := by decide +kernel
theorem dX0_hangingOn_23 : decode cX0_hangingOn 23 = .ok (.iload 5, 2) := by decide +kernel
theorem dX0_hangingOn_25 : decode cX0_hangingOn 25 = .ok (.iconst (-1), 1) := by decide +kernel
theorem dX0_hangingOn_26 : decode cX0_hangingOn 26 = .ok (.if_icmp .eq 31, 3) := by decide +kernel
theorem dX0_hangingOn_29 : decode cX0_hangingOn 29 = .ok (.aload_n 0, 1) := by decide +kernel
theorem dX0_hangingOn_30 : decode cX0_hangingOn 30 = .ok (.getfield 18, 3) := by decide +kernel
theorem dX0_hangingOn_33 : decode cX0_hangingOn 33 = .ok (.iload_n 1, 1) := by decide +kernel
theorem dX0_hangingOn_34 : decode cX0_hangingOn 34 = .ok (.iaload, 1) := by decide +kernel
theorem dX0_hangingOn_35 : decode cX0_hangingOn 35 = .ok (.aload_n 0, 1) := by decide +kernel
theorem dX0_hangingOn_36 : decode cX0_hangingOn 36 = .ok (.getfield 18, 3) := by decide +kernel
theorem dX0_hangingOn_39 : decode cX0_hangingOn 39 = .ok (.iload 5, 2) := by decide +kernel
theorem dX0_hangingOn_41 : decode cX0_hangingOn 41 = .ok (.iaload, 1) := by decide +kernel
theorem dX0_hangingOn_42 : decode cX0_hangingOn 42 = .ok (.isub, 1) := by decide +kernel
theorem dX0_hangingOn_43 : decode cX0_hangingOn 43 = .ok (.invokestatic 50, 3) := by decide +kernel
theorem dX0_hangingOn_46 : decode cX0_hangingOn 46 = .ok (.iload_n 2, 1) := by decide +kernel
theorem dX0_hangingOn_47 : decode cX0_hangingOn 47 = .ok (.if_icmp .gt 10, 3) := by decide +kernel
theorem dX0_hangingOn_50 : decode cX0_hangingOn 50 = .ok (.iload_n 3, 1) := by decide +kernel
theorem dX0_hangingOn_51 : decode cX0_hangingOn 51 = .ok (.iconst 1, 1) := by decide +kernel
theorem dX0_hangingOn_52 : decode cX0_hangingOn 52 = .ok (.iload 5, 2) := by decide +kernel
theorem dX0_hangingOn_54 : decode cX0_hangingOn 54 = .ok (.ishl, 1) := by decide +kernel
theorem dX0_hangingOn_55 : decode cX0_hangingOn 55 = .ok (.ior, 1) := by decide +kernel
theorem dX0_hangingOn_56 : decode cX0_hangingOn 56 = .ok (.istore_n 3, 1) := by decide +kernel
theorem dX0_hangingOn_57 : decode cX0_hangingOn 57 = .ok (.iinc 4 1, 3) := by decide +kernel
theorem dX0_hangingOn_60 : decode cX0_hangingOn 60 = .ok (.goto (-55), 3) := by decide +kernel
theorem dX0_hangingOn_63 : decode cX0_hangingOn 63 = .ok (.iload_n 3, 1) := by decide +kernel
theorem dX0_hangingOn_64 : decode cX0_hangingOn 64 = .ok (.ireturn, 1) := by decide +kernel
set_option maxRecDepth 100000 in
set_option maxHeartbeats 4000000 in
theorem kS_X0_hangingOn (κ : Kp) (xa : Nat → Nat → Nat) (X : XS) (o : Nat) (ho : o < 12) (C : MS) (c : Int) (v : Int)  (h0 : 0 ≤ c ∧ c < 12) (hv : 0 ≤ v ∧ v ≤ 99) (hag : ∀ j : Int, 0 ≤ j → j < 12 → 0 ≤ C 2 j ∧ C 2 j ≤ 99) : mI κ yX0_hangingOn cX0_hangingOn 6 .int 1 [.ref (xa o 100), .int (iI c), .int (iI v)] (xw κ xa (setO X o C)) (is1 (iI (hgI (C 2) v c 4)) (xw κ xa (setO X o C))) := by
  refine mI_of (by decide) (Nat.le_of_ble_eq_true rfl) (fun E F K => ?_)
  refine g_lv (lv' := [(0, .ref (xa o 100)), (1, .int (iI c)), (2, .int (iI v))]) rfl ?_
  refine g_iconst F dX0_hangingOn_0 ?_
  refine g_istore_n F (lv' := [(3, .int (iI 0)), (0, .ref (xa o 100)), (1, .int (iI c)), (2, .int (iI v))]) 3 dX0_hangingOn_1 rfl (by decide) rfl ?_
  refine g_iconst F dX0_hangingOn_2 ?_
  refine g_istore F (lv' := [(4, .int (iI 0)), (3, .int (iI 0)), (0, .ref (xa o 100)), (1, .int (iI c)), (2, .int (iI v))]) dX0_hangingOn_3 (by decide) rfl ?_
  have L5 : ∀ (mz5 : Nat) (w : Int) (b : Int), (4 - w).toNat = mz5 → (0 ≤ w ∧ w ≤ 4) → (b = hgI (C 2) v c w) → G E (xw κ xa (setO X o C)) [(4, .int (iI w)), (3, .int (iI b)), (0, .ref (xa o 100)), (1, .int (iI c)), (2, .int (iI v))] 5 [] := by
    intro mz5
    induction mz5 using Nat.strongRecOn with
    | _ mz5 ih5 =>
    intro w b hmz5 hw hb
    refine g_iload F 0 dX0_hangingOn_5 rfl ?_
    refine g_iconst F dX0_hangingOn_7 ?_
    refine g_icmp_ge F 63 (by omega) dX0_hangingOn_8 (by decide) (fun c8 => ?_) (fun c8 => ?_)
    · skip
      refine g_iload_n F 1 dX0_hangingOn_63 rfl ?_
      exact K xw_same ⟨congrArg iI (show b = hgI (C 2) v c 4 from by rw [hb, show w = 4 by omega]), rfl⟩ rfl dX0_hangingOn_64
    · skip
      have hnb := nb_in (c := c) (w := w) (by omega) (by omega) (by omega) (by omega)
      have hk1 := hag c (by omega) (by omega)
      have hbb := (hg_bd (a := C 2) (v := v) (c := c) ⟨h0.1, h0.2⟩ w.toNat (by omega)).1
      have hb0 : 0 ≤ b ∧ b < 4096 := by rw [hb]; exact hbb
      refine g_besN F nf_X0_47 dX0_hangingOn_11 ?_
      refine g_iload_n F 3 dX0_hangingOn_14 rfl ?_
      refine g_iconst F dX0_hangingOn_15 ?_
      refine g_imul F dX0_hangingOn_16 ?_
      refine g_iload F 0 dX0_hangingOn_17 rfl ?_
      refine g_iadd F dX0_hangingOn_19 ?_
      refine g_beld F (by omega) dX0_hangingOn_20 ?_
      refine g_top (y := iI (nb c w)) (iIc (bes_nb (by omega) (by omega))) ?_
      refine g_istore F (lv' := [(5, .int (iI (nb c w))), (4, .int (iI w)), (3, .int (iI b)), (0, .ref (xa o 100)), (1, .int (iI c)), (2, .int (iI v))]) dX0_hangingOn_21 (by decide) rfl ?_
      refine g_iload F 0 dX0_hangingOn_23 rfl ?_
      refine g_iconst F dX0_hangingOn_25 ?_
      refine g_icmp_eq F 57 (by omega) dX0_hangingOn_26 (by decide) (fun c26 => ?_) (fun c26 => ?_)
      · skip
        refine g_iinc F (lv' := [(4, .int (iI (w + 1))), (5, .int (iI (nb c w))), (3, .int (iI b)), (0, .ref (xa o 100)), (1, .int (iI c)), (2, .int (iI v))]) 1 dX0_hangingOn_57 rfl (by decide) rfl ?_
        refine g_goto F 5 dX0_hangingOn_60 (by decide) ?_
        refine g_sub F (lv' := [(4, .int (iI (w + 1))), (3, .int (iI b)), (0, .ref (xa o 100)), (1, .int (iI c)), (2, .int (iI v))]) [0, 2, 3, 4, 5] rfl ?_
        exact ih5 _ (by omega) (w + 1) b rfl (by omega) (by rw [hg_s hw.1, ← hb]; first | (rw [if_pos ⟨by omega, by omega⟩]) | (rw [if_neg (fun q => by obtain ⟨q1, q2⟩ := q; omega)]))
      · skip
        have hk2 := hag (nb c w) (by omega) (by omega)
        refine g_aload_n F 3 dX0_hangingOn_29 rfl ?_
        refine gcS_get_2 F ho lf_X0_18 dX0_hangingOn_30 ?_
        refine g_iload_n F 4 dX0_hangingOn_33 rfl ?_
        refine gcS_ald_2 F ho (by omega) dX0_hangingOn_34 ?_
        refine g_top (y := iI (C 2 c)) rfl ?_
        refine g_aload_n F 3 dX0_hangingOn_35 rfl ?_
        refine gcS_get_2 F ho lf_X0_18 dX0_hangingOn_36 ?_
        refine g_iload F 0 dX0_hangingOn_39 rfl ?_
        refine gcS_ald_2 F ho (by omega) dX0_hangingOn_41 ?_
        refine g_top (y := iI (C 2 (nb c w))) rfl ?_
        refine g_isub F dX0_hangingOn_42 ?_
        refine g_abs F (by omega) lm_X0_50 ms_abs ms_ini mc_abs (by decide) (Nat.le_of_ble_eq_true rfl) dX0_hangingOn_43 ?_
        refine g_iload_n F 5 dX0_hangingOn_46 rfl ?_
        refine g_icmp_gt F 57 (by omega) dX0_hangingOn_47 (by decide) (fun c47 => ?_) (fun c47 => ?_)
        · skip
          refine g_iinc F (lv' := [(4, .int (iI (w + 1))), (5, .int (iI (nb c w))), (3, .int (iI b)), (0, .ref (xa o 100)), (1, .int (iI c)), (2, .int (iI v))]) 1 dX0_hangingOn_57 rfl (by decide) rfl ?_
          refine g_goto F 5 dX0_hangingOn_60 (by decide) ?_
          refine g_sub F (lv' := [(4, .int (iI (w + 1))), (3, .int (iI b)), (0, .ref (xa o 100)), (1, .int (iI c)), (2, .int (iI v))]) [0, 2, 3, 4, 5] rfl ?_
          exact ih5 _ (by omega) (w + 1) b rfl (by omega) (by rw [hg_s hw.1, ← hb]; first | (rw [if_pos ⟨by omega, by omega⟩]) | (rw [if_neg (fun q => by obtain ⟨q1, q2⟩ := q; omega)]))
        · skip
          refine g_iload_n F 2 dX0_hangingOn_50 rfl ?_
          refine g_iconst F dX0_hangingOn_51 ?_
          refine g_iload F 0 dX0_hangingOn_52 rfl ?_
          refine g_ishl F dX0_hangingOn_54 ?_
          refine g_top (y := iI (p2 (nb c w))) (iI_shl1 (by omega) (by omega)) ?_
          refine g_ior F dX0_hangingOn_55 ?_
          refine g_top (y := iI (bor b (p2 (nb c w)))) (iI_bor hb0.1 (by have := p2_pos (nb c w); omega)) ?_
          refine g_istore_n F (lv' := [(3, .int (iI (bor b (p2 (nb c w))))), (5, .int (iI (nb c w))), (4, .int (iI w)), (0, .ref (xa o 100)), (1, .int (iI c)), (2, .int (iI v))]) 3 dX0_hangingOn_56 rfl (by decide) rfl ?_
          refine g_iinc F (lv' := [(4, .int (iI (w + 1))), (3, .int (iI (bor b (p2 (nb c w))))), (5, .int (iI (nb c w))), (0, .ref (xa o 100)), (1, .int (iI c)), (2, .int (iI v))]) 2 dX0_hangingOn_57 rfl (by decide) rfl ?_
          refine g_goto F 5 dX0_hangingOn_60 (by decide) ?_
          refine g_sub F (lv' := [(4, .int (iI (w + 1))), (3, .int (iI (bor b (p2 (nb c w))))), (0, .ref (xa o 100)), (1, .int (iI c)), (2, .int (iI v))]) [0, 1, 3, 4, 5] rfl ?_
          exact ih5 _ (by omega) (w + 1) (bor b (p2 (nb c w))) rfl (by omega) (by rw [hg_s hw.1, ← hb]; first | (rw [if_pos ⟨by omega, by omega⟩]) | (rw [if_neg (fun q => by obtain ⟨q1, q2⟩ := q; omega)]))
  refine g_sub F (lv' := [(4, .int (iI 0)), (3, .int (iI 0)), (0, .ref (xa o 100)), (1, .int (iI c)), (2, .int (iI v))]) [0, 1, 2, 3, 4] rfl ?_
  exact L5 _ 0 0 rfl (by omega) rfl
theorem k_X0_hangingOn (κ : Kp) (xa : Nat → Nat → Nat) (X : XS) (o : Nat) (ho : o < 12) (c : Int) (v : Int) (h0 : 0 ≤ c ∧ c < 12) (hv : 0 ≤ v ∧ v ≤ 99) (hag : ∀ j : Int, 0 ≤ j → j < 12 → 0 ≤ (X o) 2 j ∧ (X o) 2 j ≤ 99) : mI κ yX0_hangingOn cX0_hangingOn 6 .int 1 [.ref (xa o 100), .int (iI c), .int (iI v)] (xw κ xa X) (is1 (iI (hgI ((X o) 2) v c 4)) (xw κ xa X)) := by
  have h := kS_X0_hangingOn κ xa X o ho (X o) c v h0 hv hag
  rw [setO_self] at h
  exact h
theorem dX0_heapOf_0 : decode cX0_heapOf 0 = .ok (.iconst 1, 1) := by decide +kernel
theorem dX0_heapOf_1 : decode cX0_heapOf 1 = .ok (.iload_n 1, 1) := by decide +kernel
theorem dX0_heapOf_2 : decode cX0_heapOf 2 = .ok (.ishl, 1) := by decide +kernel
theorem dX0_heapOf_3 : decode cX0_heapOf 3 = .ok (.istore_n 3, 1) := by decide +kernel
theorem dX0_heapOf_4 : decode cX0_heapOf 4 = .ok (.iconst 0, 1) := by decide +kernel
theorem dX0_heapOf_5 : decode cX0_heapOf 5 = .ok (.istore 4, 2) := by decide +kernel
theorem dX0_heapOf_7 : decode cX0_heapOf 7 = .ok (.iload 4, 2) := by decide +kernel
theorem dX0_heapOf_9 : decode cX0_heapOf 9 = .ok (.bipush 12, 2) := by decide +kernel
theorem dX0_heapOf_11 : decode cX0_heapOf 11 = .ok (.if_icmp .ge 45, 3) := by decide +kernel
theorem dX0_heapOf_14 : decode cX0_heapOf 14 = .ok (.iconst 0, 1) := by decide +kernel
theorem dX0_heapOf_15 : decode cX0_heapOf 15 = .ok (.istore 5, 2) := by decide +kernel
theorem dX0_heapOf_17 : decode cX0_heapOf 17 = .ok (.iload 5, 2) := by decide +kernel
theorem dX0_heapOf_19 : decode cX0_heapOf 19 = .ok (.bipush 12, 2) := by decide +kernel
theorem dX0_heapOf_21 : decode cX0_heapOf 21 = .ok (.if_icmp .ge 29, 3) := by decide +kernel
theorem dX0_heapOf_24 : decode cX0_heapOf 24 = .ok (.iload_n 3, 1) := by decide +kernel
theorem dX0_heapOf_25 : decode cX0_heapOf 25 = .ok (.iload 5, 2) := by decide +kernel
theorem dX0_heapOf_27 : decode cX0_heapOf 27 = .ok (.ishr, 1) := by decide +kernel
theorem dX0_heapOf_28 : decode cX0_heapOf 28 = .ok (.iconst 1, 1) := by decide +kernel
theorem dX0_heapOf_29 : decode cX0_heapOf 29 = .ok (.iand, 1) := by decide +kernel
theorem dX0_heapOf_30 : decode cX0_heapOf 30 = .ok (.iconst 1, 1) := by decide +kernel
theorem dX0_heapOf_31 : decode cX0_heapOf 31 = .ok (.if_icmp .ne 13, 3) := by decide +kernel
theorem dX0_heapOf_34 : decode cX0_heapOf 34 = .ok (.iload_n 3, 1) := by decide +kernel
theorem dX0_heapOf_35 : decode cX0_heapOf 35 = .ok (.aload_n 0, 1) := by decide +kernel
theorem dX0_heapOf_36 : decode cX0_heapOf 36 = .ok (.iload 5, 2) := by decide +kernel
theorem dX0_heapOf_38 : decode cX0_heapOf 38 = .ok (.iload_n 2, 1) := by decide +kernel
theorem dX0_heapOf_39 : decode cX0_heapOf 39 = .ok (.invokevirtual 87, 3) := by decide +kernel
theorem dX0_heapOf_42 : decode cX0_heapOf 42 = .ok (.ior, 1) := by decide +kernel
theorem dX0_heapOf_43 : decode cX0_heapOf 43 = .ok (.istore_n 3, 1) := by decide +kernel
theorem dX0_heapOf_44 : decode cX0_heapOf 44 = .ok (.iinc 5 1, 3) := by decide +kernel
theorem dX0_heapOf_47 : decode cX0_heapOf 47 = .ok (.goto (-30), 3) := by decide +kernel
theorem dX0_heapOf_50 : decode cX0_heapOf 50 = .ok (.iinc 4 1, 3) := by decide +kernel
theorem dX0_heapOf_53 : decode cX0_heapOf 53 = .ok (.goto (-46), 3) := by decide +kernel
theorem dX0_heapOf_56 : decode cX0_heapOf 56 = .ok (.iload_n 3, 1) := by decide +kernel
theorem dX0_heapOf_57 : decode cX0_heapOf 57 = .ok (.ireturn, 1) := by decide +kernel
set_option maxRecDepth 100000 in
set_option maxHeartbeats 4000000 in
theorem kS_X0_heapOf (κ : Kp) (xa : Nat → Nat → Nat) (X : XS) (o : Nat) (ho : o < 12) (C : MS) (s : Int) (v : Int)  (h0 : 0 ≤ s ∧ s < 12) (hv : 0 ≤ v ∧ v ≤ 99) (hag : ∀ j : Int, 0 ≤ j → j < 12 → 0 ≤ C 2 j ∧ C 2 j ≤ 99) : mI κ yX0_heapOf cX0_heapOf 6 .int 2 [.ref (xa o 100), .int (iI s), .int (iI v)] (xw κ xa (setO X o C)) (is1 (iI (hpB (C 2) v s)) (xw κ xa (setO X o C))) := by
  refine mI_of (by decide) (Nat.le_of_ble_eq_true rfl) (fun E F K => ?_)
  refine g_lv (lv' := [(0, .ref (xa o 100)), (1, .int (iI s)), (2, .int (iI v))]) rfl ?_
  refine g_iconst F dX0_heapOf_0 ?_
  refine g_iload_n F 1 dX0_heapOf_1 rfl ?_
  refine g_ishl F dX0_heapOf_2 ?_
  refine g_top (y := iI (p2 s)) (iI_shl1 (by omega) (by omega)) ?_
  refine g_istore_n F (lv' := [(3, .int (iI (p2 s))), (0, .ref (xa o 100)), (1, .int (iI s)), (2, .int (iI v))]) 3 dX0_heapOf_3 rfl (by decide) rfl ?_
  refine g_iconst F dX0_heapOf_4 ?_
  refine g_istore F (lv' := [(4, .int (iI 0)), (3, .int (iI (p2 s))), (0, .ref (xa o 100)), (1, .int (iI s)), (2, .int (iI v))]) dX0_heapOf_5 (by decide) rfl ?_
  have L7 : ∀ (mz7 : Nat) (k : Int) (h : Int), (12 - k).toNat = mz7 → (0 ≤ k ∧ k ≤ 12) → (hrI (C 2) v s k 0 h) → G E (xw κ xa (setO X o C)) [(4, .int (iI k)), (3, .int (iI h)), (0, .ref (xa o 100)), (1, .int (iI s)), (2, .int (iI v))] 7 [] := by
    intro mz7
    induction mz7 using Nat.strongRecOn with
    | _ mz7 ih7 =>
    intro k h hmz7 hk hH
    refine g_iload F 0 dX0_heapOf_7 rfl ?_
    refine g_bipush F dX0_heapOf_9 (by decide +kernel) ?_
    refine g_icmp_ge F 56 (by omega) dX0_heapOf_11 (by decide) (fun c11 => ?_) (fun c11 => ?_)
    · skip
      refine g_iload_n F 1 dX0_heapOf_56 rfl ?_
      exact K xw_same ⟨congrArg iI (show h = hpB (C 2) v s from by rw [show k = 12 by omega] at hH; exact hr_end hH), rfl⟩ rfl dX0_heapOf_57
    · skip
      refine g_iconst F dX0_heapOf_14 ?_
      refine g_istore F (lv' := [(5, .int (iI 0)), (4, .int (iI k)), (3, .int (iI h)), (0, .ref (xa o 100)), (1, .int (iI s)), (2, .int (iI v))]) dX0_heapOf_15 (by decide) rfl ?_
      have L17 : ∀ (mz17 : Nat) (c : Int) (h2 : Int), (12 - c).toNat = mz17 → (0 ≤ c ∧ c ≤ 12) → (hrI (C 2) v s k c h2) → G E (xw κ xa (setO X o C)) [(5, .int (iI c)), (4, .int (iI k)), (3, .int (iI h2)), (0, .ref (xa o 100)), (1, .int (iI s)), (2, .int (iI v))] 17 [] := by
        intro mz17
        induction mz17 using Nat.strongRecOn with
        | _ mz17 ih17 =>
        intro c h2 hmz17 hc hH2
        refine g_iload F 0 dX0_heapOf_17 rfl ?_
        refine g_bipush F dX0_heapOf_19 (by decide +kernel) ?_
        refine g_icmp_ge F 50 (by omega) dX0_heapOf_21 (by decide) (fun c21 => ?_) (fun c21 => ?_)
        · skip
          refine g_iinc F (lv' := [(4, .int (iI (k + 1))), (5, .int (iI c)), (3, .int (iI h2)), (0, .ref (xa o 100)), (1, .int (iI s)), (2, .int (iI v))]) 1 dX0_heapOf_50 rfl (by decide) rfl ?_
          refine g_goto F 7 dX0_heapOf_53 (by decide) ?_
          refine g_sub F (lv' := [(4, .int (iI (k + 1))), (3, .int (iI h2)), (0, .ref (xa o 100)), (1, .int (iI s)), (2, .int (iI v))]) [0, 2, 3, 4, 5] rfl ?_
          exact ih7 _ (by omega) (k + 1) h2 rfl (by omega) (by rw [show c = 12 by omega] at hH2; exact hr_k hH2 hk.1)
        · skip
          have hhb := hH2.1
          have hgb := (hg_bd (a := C 2) (v := v) (c := c) ⟨hc.1, by omega⟩ 4 (by decide)).1
          have hgb2 : 0 ≤ hgI (C 2) v c 4 := hgb.1
          refine g_iload_n F 2 dX0_heapOf_24 rfl ?_
          refine g_iload F 0 dX0_heapOf_25 rfl ?_
          refine g_ishr F dX0_heapOf_27 ?_
          refine g_top (y := iI (h2 / p2 c)) (iI_shr (by omega) (by omega) (by omega) (by omega)) ?_
          refine g_iconst F dX0_heapOf_28 ?_
          refine g_iand F dX0_heapOf_29 ?_
          refine g_top (y := iI (h2 / p2 c % 2)) (iI_and1 (div_p2' (by omega))) ?_
          refine g_iconst F dX0_heapOf_30 ?_
          refine g_icmp_ne F 44 (by omega) dX0_heapOf_31 (by decide) (fun c31 => ?_) (fun c31 => ?_)
          · skip
            refine g_iinc F (lv' := [(5, .int (iI (c + 1))), (4, .int (iI k)), (3, .int (iI h2)), (0, .ref (xa o 100)), (1, .int (iI s)), (2, .int (iI v))]) 0 dX0_heapOf_44 rfl (by decide) rfl ?_
            refine g_goto F 17 dX0_heapOf_47 (by decide) ?_
            refine g_sub F (lv' := [(5, .int (iI (c + 1))), (4, .int (iI k)), (3, .int (iI h2)), (0, .ref (xa o 100)), (1, .int (iI s)), (2, .int (iI v))]) [0, 1, 2, 3, 4, 5] rfl ?_
            exact ih17 _ (by omega) (c + 1) h2 rfl (by omega) (by first | exact hr_t hH2 ⟨h0.1, h0.2⟩ ⟨hc.1, by omega⟩ c31 | exact hr_f hH2 ⟨hc.1, by omega⟩ c31)
          · skip
            refine g_iload_n F 2 dX0_heapOf_34 rfl ?_
            refine g_aload_n F 3 dX0_heapOf_35 rfl ?_
            refine g_iload F 0 dX0_heapOf_36 rfl ?_
            refine g_iload_n F 5 dX0_heapOf_38 rfl ?_
            refine g_callI F (stk := [.int (iI v), .int (iI c), .ref (xa o 100), .int (iI h2)]) (st := [.int (iI h2)]) (kS_X0_hangingOn κ xa X o ho C c v (by omega) (by omega) hag) cal_X0_hangingOn lm_X0_87 (5 * o + 0) (xc_obj ho) rfl rfl rfl (by decide) rfl (Nat.le_of_ble_eq_true rfl) dX0_heapOf_39 (fun r39 ws39 _ hr39 => ?_)
            obtain ⟨rfl, rfl⟩ := hr39
            refine g_ior F dX0_heapOf_42 ?_
            refine g_top (y := iI (bor h2 (hgI (C 2) v c 4))) (iI_bor hhb.1 hgb2) ?_
            refine g_istore_n F (lv' := [(3, .int (iI (bor h2 (hgI (C 2) v c 4)))), (5, .int (iI c)), (4, .int (iI k)), (0, .ref (xa o 100)), (1, .int (iI s)), (2, .int (iI v))]) 3 dX0_heapOf_43 rfl (by decide) rfl ?_
            refine g_iinc F (lv' := [(5, .int (iI (c + 1))), (3, .int (iI (bor h2 (hgI (C 2) v c 4)))), (4, .int (iI k)), (0, .ref (xa o 100)), (1, .int (iI s)), (2, .int (iI v))]) 1 dX0_heapOf_44 rfl (by decide) rfl ?_
            refine g_goto F 17 dX0_heapOf_47 (by decide) ?_
            refine g_sub F (lv' := [(5, .int (iI (c + 1))), (4, .int (iI k)), (3, .int (iI (bor h2 (hgI (C 2) v c 4)))), (0, .ref (xa o 100)), (1, .int (iI s)), (2, .int (iI v))]) [0, 2, 1, 3, 4, 5] rfl ?_
            exact ih17 _ (by omega) (c + 1) (bor h2 (hgI (C 2) v c 4)) rfl (by omega) (by first | exact hr_t hH2 ⟨h0.1, h0.2⟩ ⟨hc.1, by omega⟩ c31 | exact hr_f hH2 ⟨hc.1, by omega⟩ c31)
      refine g_sub F (lv' := [(5, .int (iI 0)), (4, .int (iI k)), (3, .int (iI h)), (0, .ref (xa o 100)), (1, .int (iI s)), (2, .int (iI v))]) [0, 1, 2, 3, 4, 5] rfl ?_
      exact L17 _ 0 h rfl (by omega) hH
  refine g_sub F (lv' := [(4, .int (iI 0)), (3, .int (iI (p2 s))), (0, .ref (xa o 100)), (1, .int (iI s)), (2, .int (iI v))]) [0, 1, 2, 3, 4] rfl ?_
  exact L7 _ 0 (p2 s) rfl (by omega) (hr_0 ⟨h0.1, h0.2⟩)
theorem k_X0_heapOf (κ : Kp) (xa : Nat → Nat → Nat) (X : XS) (o : Nat) (ho : o < 12) (s : Int) (v : Int) (h0 : 0 ≤ s ∧ s < 12) (hv : 0 ≤ v ∧ v ≤ 99) (hag : ∀ j : Int, 0 ≤ j → j < 12 → 0 ≤ (X o) 2 j ∧ (X o) 2 j ≤ 99) : mI κ yX0_heapOf cX0_heapOf 6 .int 2 [.ref (xa o 100), .int (iI s), .int (iI v)] (xw κ xa X) (is1 (iI (hpB ((X o) 2) v s)) (xw κ xa X)) := by
  have h := kS_X0_heapOf κ xa X o ho (X o) s v h0 hv hag
  rw [setO_self] at h
  exact h
theorem dX5_islands_0 : decode cX5_islands 0 = .ok (.iload_n 1, 1) := by decide +kernel
theorem dX5_islands_1 : decode cX5_islands 1 = .ok (.ifCond .ge 10, 3) := by decide +kernel
theorem dX5_islands_4 : decode cX5_islands 4 = .ok (.aload_n 0, 1) := by decide +kernel
theorem dX5_islands_5 : decode cX5_islands 5 = .ok (.bipush (-4), 2) := by decide +kernel
theorem dX5_islands_7 : decode cX5_islands 7 = .ok (.invokevirtual 69, 3) := by decide +kernel
theorem dX5_islands_10 : decode cX5_islands 10 = .ok (.ireturn, 1) := by decide +kernel
theorem dX5_islands_11 : decode cX5_islands 11 = .ok (.iload_n 1, 1) := by decide +kernel
theorem dX5_islands_12 : decode cX5_islands 12 = .ok (.bipush 100, 2) := by decide +kernel
theorem dX5_islands_14 : decode cX5_islands 14 = .ok (.if_icmp .lt 10, 3) := by decide +kernel
theorem dX5_islands_17 : decode cX5_islands 17 = .ok (.aload_n 0, 1) := by decide +kernel
theorem dX5_islands_18 : decode cX5_islands 18 = .ok (.bipush (-6), 2) := by decide +kernel
theorem dX5_islands_20 : decode cX5_islands 20 = .ok (.invokevirtual 69, 3) := by decide +kernel
theorem dX5_islands_23 : decode cX5_islands 23 = .ok (.ireturn, 1) := by decide +kernel
theorem dX5_islands_24 : decode cX5_islands 24 = .ok (.iload_n 2, 1) := by decide +kernel
theorem dX5_islands_25 : decode cX5_islands 25 = .ok (.ifCond .lt 8, 3) := by decide +kernel
theorem dX5_islands_28 : decode cX5_islands 28 = .ok (.iload_n 2, 1) := by decide +kernel
theorem dX5_islands_29 : decode cX5_islands 29 = .ok (.iconst 1, 1) := by decide +kernel
theorem dX5_islands_30 : decode cX5_islands 30 = .ok (.if_icmp .le 10, 3) := by decide +kernel
theorem dX5_islands_33 : decode cX5_islands 33 = .ok (.aload_n 0, 1) := by decide +kernel
theorem dX5_islands_34 : decode cX5_islands 34 = .ok (.bipush (-2), 2) := by decide +kernel
theorem dX5_islands_36 : decode cX5_islands 36 = .ok (.invokevirtual 69, 3) := by decide +kernel
theorem dX5_islands_39 : decode cX5_islands 39 = .ok (.ireturn, 1) := by decide +kernel
theorem dX5_islands_40 : decode cX5_islands 40 = .ok (.iconst 0, 1) := by decide +kernel
theorem dX5_islands_41 : decode cX5_islands 41 = .ok (.istore_n 3, 1) := by decide +kernel
theorem dX5_islands_42 : decode cX5_islands 42 = .ok (.iconst 0, 1) := by decide +kernel
theorem dX5_islands_43 : decode cX5_islands 43 = .ok (.istore 4, 2) := by decide +kernel
theorem dX5_islands_45 : decode cX5_islands 45 = .ok (.iconst 0, 1) := by decide +kernel
theorem dX5_islands_46 : decode cX5_islands 46 = .ok (.istore 5, 2) := by decide +kernel
theorem dX5_islands_48 : decode cX5_islands 48 = .ok (.iconst 0, 1) := by decide +kernel
theorem dX5_islands_49 : decode cX5_islands 49 = .ok (.istore 6, 2) := by decide +kernel
theorem dX5_islands_51 : decode cX5_islands 51 = .ok (.iload 6, 2) := by decide +kernel
theorem dX5_islands_53 : decode cX5_islands 53 = .ok (.bipush 12, 2) := by decide +kernel
theorem dX5_islands_55 : decode cX5_islands 55 = .ok (.if_icmp .ge 57, 3) := by decide +kernel
theorem dX5_islands_58 : decode cX5_islands 58 = .ok (.iload 5, 2) := by decide +kernel
theorem dX5_islands_60 : decode cX5_islands 60 = .ok (.iload 6, 2) := by decide +kernel
theorem dX5_islands_62 : decode cX5_islands 62 = .ok (.ishr, 1) := by decide +kernel
theorem dX5_islands_63 : decode cX5_islands 63 = .ok (.iconst 1, 1) := by decide +kernel
theorem dX5_islands_64 : decode cX5_islands 64 = .ok (.iand, 1) := by decide +kernel
theorem dX5_islands_65 : decode cX5_islands 65 = .ok (.iconst 1, 1) := by decide +kernel
theorem dX5_islands_66 : decode cX5_islands 66 = .ok (.if_icmp .ne 6, 3) := by decide +kernel
theorem dX5_islands_69 : decode cX5_islands 69 = .ok (.goto 37, 3) := by decide +kernel
theorem dX5_islands_72 : decode cX5_islands 72 = .ok (.aload_n 0, 1) := by decide +kernel
theorem dX5_islands_73 : decode cX5_islands 73 = .ok (.getfield 10, 3) := by decide +kernel
theorem dX5_islands_76 : decode cX5_islands 76 = .ok (.iload 6, 2) := by decide +kernel
theorem dX5_islands_78 : decode cX5_islands 78 = .ok (.iload_n 1, 1) := by decide +kernel
theorem dX5_islands_79 : decode cX5_islands 79 = .ok (.invokevirtual 294, 3) := by decide +kernel
theorem dX5_islands_82 : decode cX5_islands 82 = .ok (.istore 7, 2) := by decide +kernel
theorem dX5_islands_84 : decode cX5_islands 84 = .ok (.iload 5, 2) := by decide +kernel
theorem dX5_islands_86 : decode cX5_islands 86 = .ok (.iload 7, 2) := by decide +kernel
theorem dX5_islands_88 : decode cX5_islands 88 = .ok (.ior, 1) := by decide +kernel
theorem dX5_islands_89 : decode cX5_islands 89 = .ok (.istore 5, 2) := by decide +kernel
theorem dX5_islands_91 : decode cX5_islands 91 = .ok (.iinc 3 1, 3) := by decide +kernel
theorem dX5_islands_94 : decode cX5_islands 94 = .ok (.iload 4, 2) := by decide +kernel
theorem dX5_islands_96 : decode cX5_islands 96 = .ok (.iload 7, 2) := by decide +kernel
theorem dX5_islands_98 : decode cX5_islands 98 = .ok (.invokestatic 206, 3) := by decide +kernel
theorem dX5_islands_101 : decode cX5_islands 101 = .ok (.invokestatic 102, 3) := by decide +kernel
theorem dX5_islands_104 : decode cX5_islands 104 = .ok (.istore 4, 2) := by decide +kernel
theorem dX5_islands_106 : decode cX5_islands 106 = .ok (.iinc 6 1, 3) := by decide +kernel
theorem dX5_islands_109 : decode cX5_islands 109 = .ok (.goto (-58), 3) := by decide +kernel
theorem dX5_islands_112 : decode cX5_islands 112 = .ok (.iload_n 2, 1) := by decide +kernel
theorem dX5_islands_113 : decode cX5_islands 113 = .ok (.ifCond .ne 7, 3) := by decide +kernel
theorem dX5_islands_116 : decode cX5_islands 116 = .ok (.iload_n 3, 1) := by decide +kernel
theorem dX5_islands_117 : decode cX5_islands 117 = .ok (.goto 5, 3) := by decide +kernel
theorem dX5_islands_120 : decode cX5_islands 120 = .ok (.iload 4, 2) := by decide +kernel
theorem dX5_islands_122 : decode cX5_islands 122 = .ok (.ireturn, 1) := by decide +kernel
set_option maxRecDepth 100000 in
set_option maxHeartbeats 4000000 in
theorem k_X5_islands (κ : Kp) (xa : Nat → Nat → Nat) (X : XS) (v : Int) (w : Int)  (ha_v : In32 v) (ha_w : In32 w) (ok : okC (cl (X 0))) : mI κ yX5_islands cX5_islands 8 .int 3 [.ref (xa 18 100), .int (iI v), .int (iI w)] (xw κ xa X) (qX κ xa X (qIslands (X 0 2) v w)) := by
  refine mI_of (by decide) (Nat.le_of_ble_eq_true rfl) (fun E F K => ?_)
  refine g_lv (lv' := [(0, .ref (xa 18 100)), (1, .int (iI v)), (2, .int (iI w))]) rfl ?_
  refine g_iload_n F 1 dX5_islands_0 rfl ?_
  refine g_if_ge F 11 (by omega) dX5_islands_1 (by decide) (fun c1 => ?_) (fun c1 => ?_)
  · skip
    refine g_iload_n F 1 dX5_islands_11 rfl ?_
    refine g_bipush F dX5_islands_12 (by decide +kernel) ?_
    refine g_icmp_lt F 24 (by omega) dX5_islands_14 (by decide) (fun c14 => ?_) (fun c14 => ?_)
    · skip
      refine g_iload_n F 2 dX5_islands_24 rfl ?_
      refine g_if_lt F 33 (by omega) dX5_islands_25 (by decide) (fun c25 => ?_) (fun c25 => ?_)
      · skip
        refine g_aload_n F 0 dX5_islands_33 rfl ?_
        refine g_bipush F dX5_islands_34 (by decide +kernel) ?_
        refine g_callI F (stk := [.int (iI (-2)), .ref (xa 18 100)]) (st := []) (k_X5_refuse κ xa X (-2) (by omega)) cal_X5_refuse lm_X5_69 81 rfl rfl rfl rfl (by decide) rfl (Nat.le_of_ble_eq_true rfl) dX5_islands_36 (fun r36 ws36 _ hr36 => ?_)
        obtain ⟨rfl, rfl⟩ := hr36
        have hq : (-2) = qIslands (X 0 2) v w := by unfold qIslands; (repeat' split) <;> omega
        exact K xw_same ⟨_, rfl, iIc hq, (sX_18 sX_0 rfl rfl rfl), (by rw [← hq]; exact (rfa_r (by omega)).symm)⟩ rfl dX5_islands_39
      · skip
        refine g_iload_n F 2 dX5_islands_28 rfl ?_
        refine g_iconst F dX5_islands_29 ?_
        refine g_icmp_le F 40 (by omega) dX5_islands_30 (by decide) (fun c30 => ?_) (fun c30 => ?_)
        · skip
          refine g_iconst F dX5_islands_40 ?_
          refine g_istore_n F (lv' := [(3, .int (iI 0)), (0, .ref (xa 18 100)), (1, .int (iI v)), (2, .int (iI w))]) 3 dX5_islands_41 rfl (by decide) rfl ?_
          refine g_iconst F dX5_islands_42 ?_
          refine g_istore F (lv' := [(4, .int (iI 0)), (3, .int (iI 0)), (0, .ref (xa 18 100)), (1, .int (iI v)), (2, .int (iI w))]) dX5_islands_43 (by decide) rfl ?_
          refine g_iconst F dX5_islands_45 ?_
          refine g_istore F (lv' := [(5, .int (iI 0)), (4, .int (iI 0)), (3, .int (iI 0)), (0, .ref (xa 18 100)), (1, .int (iI v)), (2, .int (iI w))]) dX5_islands_46 (by decide) rfl ?_
          refine g_iconst F dX5_islands_48 ?_
          refine g_istore F (lv' := [(6, .int (iI 0)), (5, .int (iI 0)), (4, .int (iI 0)), (3, .int (iI 0)), (0, .ref (xa 18 100)), (1, .int (iI v)), (2, .int (iI w))]) dX5_islands_49 (by decide) rfl ?_
          have L51 : ∀ (mz51 : Nat) (c : Int) (hp : Int) (mo : Int) (sn : Int), (12 - c).toNat = mz51 → (0 ≤ c ∧ c ≤ 12) → (snI (X 0 2) v c sn) → (hp = nIs (X 0 2) v c) → (mo = mxI (X 0 2) v c) → ((0 ≤ hp ∧ hp ≤ c) ∧ 0 ≤ mo ∧ mo ≤ 12) → G E (xw κ xa X) [(6, .int (iI c)), (5, .int (iI sn)), (4, .int (iI mo)), (3, .int (iI hp)), (0, .ref (xa 18 100)), (1, .int (iI v)), (2, .int (iI w))] 51 [] := by
            intro mz51
            induction mz51 using Nat.strongRecOn with
            | _ mz51 ih51 =>
            intro c hp mo sn hmz51 hc hS hhp hmo hbb
            refine g_iload F 0 dX5_islands_51 rfl ?_
            refine g_bipush F dX5_islands_53 (by decide +kernel) ?_
            refine g_icmp_ge F 112 (by omega) dX5_islands_55 (by decide) (fun c55 => ?_) (fun c55 => ?_)
            · skip
              have hc12 : c = tw := by rw [tw_eq]; omega
              rw [hc12] at hhp hmo
              refine g_iload_n F 6 dX5_islands_112 rfl ?_
              refine g_if_ne F 120 (by omega) dX5_islands_113 (by decide) (fun c113 => ?_) (fun c113 => ?_)
              · skip
                refine g_iload F 2 dX5_islands_120 rfl ?_
                have hq : mo = qIslands (X 0 2) v w := by unfold qIslands; (repeat' split) <;> omega
                exact K xw_same ⟨_, rfl, iIc hq, sX_0, (by rw [← hq]; exact (rfa_n (by omega)).symm)⟩ rfl dX5_islands_122
              · skip
                refine g_iload_n F 3 dX5_islands_116 rfl ?_
                refine g_goto F 122 dX5_islands_117 (by decide) ?_
                have hq : hp = qIslands (X 0 2) v w := by unfold qIslands; (repeat' split) <;> omega
                exact K xw_same ⟨_, rfl, iIc hq, sX_0, (by rw [← hq]; exact (rfa_n (by omega)).symm)⟩ rfl dX5_islands_122
            · skip
              have hsb := hS.1
              refine g_iload F 1 dX5_islands_58 rfl ?_
              refine g_iload F 0 dX5_islands_60 rfl ?_
              refine g_ishr F dX5_islands_62 ?_
              refine g_top (y := iI (sn / p2 c)) (iI_shr (by omega) (by omega) (by omega) (by omega)) ?_
              refine g_iconst F dX5_islands_63 ?_
              refine g_iand F dX5_islands_64 ?_
              refine g_top (y := iI (sn / p2 c % 2)) (iI_and1 (div_p2' (by omega))) ?_
              refine g_iconst F dX5_islands_65 ?_
              refine g_icmp_ne F 72 (by omega) dX5_islands_66 (by decide) (fun c66 => ?_) (fun c66 => ?_)
              · skip
                refine g_aload_n F 4 dX5_islands_72 rfl ?_
                refine g18_get_0 F  lf_X5_10 dX5_islands_73 ?_
                refine g_iload F 0 dX5_islands_76 rfl ?_
                refine g_iload_n F 5 dX5_islands_78 rfl ?_
                refine g_callNI F (stk := [.int (iI v), .int (iI c), .ref (xa 0 100)]) (st := []) (k_X0_heapOf κ xa X 0 (by decide) c v (by omega) (by omega) ok.a) cal_X0_heapOf nm_X5_294 0 rfl rfl rfl rfl (by decide) rfl (Nat.le_of_ble_eq_true rfl) dX5_islands_79 (fun r79 ws79 _ hr79 => ?_)
                obtain ⟨rfl, rfl⟩ := hr79
                refine g_istore F (lv' := [(7, .int (iI (hpB ((X 0) 2) v c))), (6, .int (iI c)), (5, .int (iI sn)), (4, .int (iI mo)), (3, .int (iI hp)), (0, .ref (xa 18 100)), (1, .int (iI v)), (2, .int (iI w))]) dX5_islands_82 (by decide) rfl ?_
                have hpb := (hpB_in (a := X 0 2) (v := v) c).1
                have hpc := hpB_cnt (a := X 0 2) (v := v) c
                have hcl := cnt_le (conn (X 0 2) v c)
                refine g_iload F 2 dX5_islands_84 rfl ?_
                refine g_iload F 0 dX5_islands_86 rfl ?_
                refine g_ior F dX5_islands_88 ?_
                refine g_top (y := iI (bor sn (hpB (X 0 2) v c))) (iI_bor hsb.1 hpb.1) ?_
                refine g_istore F (lv' := [(5, .int (iI (bor sn (hpB (X 0 2) v c)))), (7, .int (iI (hpB ((X 0) 2) v c))), (6, .int (iI c)), (4, .int (iI mo)), (3, .int (iI hp)), (0, .ref (xa 18 100)), (1, .int (iI v)), (2, .int (iI w))]) dX5_islands_89 (by decide) rfl ?_
                refine g_iinc F (lv' := [(3, .int (iI (hp + 1))), (5, .int (iI (bor sn (hpB (X 0 2) v c)))), (7, .int (iI (hpB ((X 0) 2) v c))), (6, .int (iI c)), (4, .int (iI mo)), (0, .ref (xa 18 100)), (1, .int (iI v)), (2, .int (iI w))]) 4 dX5_islands_91 rfl (by decide) rfl ?_
                refine g_iload F 4 dX5_islands_94 rfl ?_
                refine g_iload F 2 dX5_islands_96 rfl ?_
                refine g_callSI F (stk := [.int (iI (hpB ((X 0) 2) v c)), .int (iI mo)]) (st := [.int (iI mo)]) (k_J6_bitCount_0f7a4 κ (xw κ xa X) (hpB ((X 0) 2) v c) hpb) cal_J6_bitCount_0f7a4 lm_X5_206 rfl (by decide) rfl (Nat.le_of_ble_eq_true rfl) dX5_islands_98 (fun r98 ws98 _ hr98 => ?_)
                obtain ⟨rfl, rfl⟩ := hr98
                refine g_max F (by omega) lm_X5_102 ms_max ms_ini mc_max (by decide) (Nat.le_of_ble_eq_true rfl) dX5_islands_101 ?_
                refine g_istore F (lv' := [(4, .int (iI (max mo (pcnt (hpB ((X 0) 2) v c))))), (3, .int (iI (hp + 1))), (5, .int (iI (bor sn (hpB (X 0 2) v c)))), (7, .int (iI (hpB ((X 0) 2) v c))), (6, .int (iI c)), (0, .ref (xa 18 100)), (1, .int (iI v)), (2, .int (iI w))]) dX5_islands_104 (by decide) rfl ?_
                refine g_iinc F (lv' := [(6, .int (iI (c + 1))), (4, .int (iI (max mo (pcnt (hpB ((X 0) 2) v c))))), (3, .int (iI (hp + 1))), (5, .int (iI (bor sn (hpB (X 0 2) v c)))), (7, .int (iI (hpB ((X 0) 2) v c))), (0, .ref (xa 18 100)), (1, .int (iI v)), (2, .int (iI w))]) 4 dX5_islands_106 rfl (by decide) rfl ?_
                refine g_goto F 51 dX5_islands_109 (by decide) ?_
                refine g_sub F (lv' := [(6, .int (iI (c + 1))), (5, .int (iI (bor sn (hpB (X 0 2) v c)))), (4, .int (iI (max mo (pcnt (hpB ((X 0) 2) v c))))), (3, .int (iI (hp + 1))), (0, .ref (xa 18 100)), (1, .int (iI v)), (2, .int (iI w))]) [0, 3, 1, 2, 5, 6, 7] rfl ?_
                exact ih51 _ (by omega) (c + 1) (hp + 1) (max mo (pcnt (hpB ((X 0) 2) v c))) (bor sn (hpB (X 0 2) v c)) rfl (by omega) (by first | exact sn_t hS ⟨hc.1, by omega⟩ c66 | exact sn_f hS ⟨hc.1, by omega⟩) (by first | (rw [nIs_t hc.1 ((sn_is hS ⟨hc.1, by omega⟩).mpr c66)]; omega) | (rw [nIs_f hc.1 (fun q => (sn_is hS ⟨hc.1, by omega⟩).mp q c66)]; omega)) (by first | (rw [mxI_t hc.1 ((sn_is hS ⟨hc.1, by omega⟩).mpr c66)]; omega) | (rw [mxI_f hc.1 (fun q => (sn_is hS ⟨hc.1, by omega⟩).mp q c66)]; omega)) (by omega)
              · skip
                refine g_goto F 106 dX5_islands_69 (by decide) ?_
                refine g_iinc F (lv' := [(6, .int (iI (c + 1))), (5, .int (iI sn)), (4, .int (iI mo)), (3, .int (iI hp)), (0, .ref (xa 18 100)), (1, .int (iI v)), (2, .int (iI w))]) 0 dX5_islands_106 rfl (by decide) rfl ?_
                refine g_goto F 51 dX5_islands_109 (by decide) ?_
                refine g_sub F (lv' := [(6, .int (iI (c + 1))), (5, .int (iI sn)), (4, .int (iI mo)), (3, .int (iI hp)), (0, .ref (xa 18 100)), (1, .int (iI v)), (2, .int (iI w))]) [0, 1, 2, 3, 4, 5, 6] rfl ?_
                exact ih51 _ (by omega) (c + 1) hp mo sn rfl (by omega) (by first | exact sn_t hS ⟨hc.1, by omega⟩ c66 | exact sn_f hS ⟨hc.1, by omega⟩) (by first | (rw [nIs_t hc.1 ((sn_is hS ⟨hc.1, by omega⟩).mpr c66)]; omega) | (rw [nIs_f hc.1 (fun q => (sn_is hS ⟨hc.1, by omega⟩).mp q c66)]; omega)) (by first | (rw [mxI_t hc.1 ((sn_is hS ⟨hc.1, by omega⟩).mpr c66)]; omega) | (rw [mxI_f hc.1 (fun q => (sn_is hS ⟨hc.1, by omega⟩).mp q c66)]; omega)) (by omega)
          refine g_sub F (lv' := [(6, .int (iI 0)), (5, .int (iI 0)), (4, .int (iI 0)), (3, .int (iI 0)), (0, .ref (xa 18 100)), (1, .int (iI v)), (2, .int (iI w))]) [0, 1, 2, 3, 4, 5, 6] rfl ?_
          exact L51 _ 0 0 0 0 rfl (by omega) sn_0 rfl rfl (by omega)
        · skip
          refine g_aload_n F 0 dX5_islands_33 rfl ?_
          refine g_bipush F dX5_islands_34 (by decide +kernel) ?_
          refine g_callI F (stk := [.int (iI (-2)), .ref (xa 18 100)]) (st := []) (k_X5_refuse κ xa X (-2) (by omega)) cal_X5_refuse lm_X5_69 81 rfl rfl rfl rfl (by decide) rfl (Nat.le_of_ble_eq_true rfl) dX5_islands_36 (fun r36 ws36 _ hr36 => ?_)
          obtain ⟨rfl, rfl⟩ := hr36
          have hq : (-2) = qIslands (X 0 2) v w := by unfold qIslands; (repeat' split) <;> omega
          exact K xw_same ⟨_, rfl, iIc hq, (sX_18 sX_0 rfl rfl rfl), (by rw [← hq]; exact (rfa_r (by omega)).symm)⟩ rfl dX5_islands_39
    · skip
      refine g_aload_n F 0 dX5_islands_17 rfl ?_
      refine g_bipush F dX5_islands_18 (by decide +kernel) ?_
      refine g_callI F (stk := [.int (iI (-6)), .ref (xa 18 100)]) (st := []) (k_X5_refuse κ xa X (-6) (by omega)) cal_X5_refuse lm_X5_69 81 rfl rfl rfl rfl (by decide) rfl (Nat.le_of_ble_eq_true rfl) dX5_islands_20 (fun r20 ws20 _ hr20 => ?_)
      obtain ⟨rfl, rfl⟩ := hr20
      have hq : (-6) = qIslands (X 0 2) v w := by unfold qIslands; (repeat' split) <;> omega
      exact K xw_same ⟨_, rfl, iIc hq, (sX_18 sX_0 rfl rfl rfl), (by rw [← hq]; exact (rfa_r (by omega)).symm)⟩ rfl dX5_islands_23
  · skip
    refine g_aload_n F 0 dX5_islands_4 rfl ?_
    refine g_bipush F dX5_islands_5 (by decide +kernel) ?_
    refine g_callI F (stk := [.int (iI (-4)), .ref (xa 18 100)]) (st := []) (k_X5_refuse κ xa X (-4) (by omega)) cal_X5_refuse lm_X5_69 81 rfl rfl rfl rfl (by decide) rfl (Nat.le_of_ble_eq_true rfl) dX5_islands_7 (fun r7 ws7 _ hr7 => ?_)
    obtain ⟨rfl, rfl⟩ := hr7
    have hq : (-4) = qIslands (X 0 2) v w := by unfold qIslands; (repeat' split) <;> omega
    exact K xw_same ⟨_, rfl, iIc hq, (sX_18 sX_0 rfl rfl rfl), (by rw [← hq]; exact (rfa_r (by omega)).symm)⟩ rfl dX5_islands_10
