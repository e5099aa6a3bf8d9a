/-- neighbours to the right and below, told 4 c + w -/
abbrev tgO : Int → Bool := fun j => decide (2 ≤ j % 4 ∧ 0 ≤ nb (j / 4) (j % 4))
abbrev tgF (a : Int → Int) : Int → Int := fun j => ((a (j / 4) - a (nb (j / 4) (j % 4))).natAbs : Int)
abbrev tgV : Int → Int := fun j => 100 * (j / 4) + nb (j / 4) (j % 4)
def sTight (a : Int → Int) (n : Int) : Int × Int := smx tgO (tgF a) tgV (-9, -1) n
def qTight (a : Int → Int) (w : Int) : Int := if ¬ (0 ≤ w ∧ w ≤ 1) then -2 else if w = 0 then (sTight a 48).1 else (sTight a 48).2
theorem tg_4 {c w : Int} (w0 : 0 ≤ w) (w1 : w < 4) : (4 * c + w) / 4 = c ∧ (4 * c + w) % 4 = w := by omega
theorem tg_t {a : Int → Int} {c w b l x y : Int} (h : sTight a (4 * c + w) = (b, l)) (c0 : 0 ≤ c) (w0 : 2 ≤ w) (w1 : w < 4) (hn : 0 ≤ nb c w) (hy : 100 * c + nb c w = y) (hx : ((a c - a (nb c w)).natAbs : Int) = x) (hl : l < x) : sTight a (4 * c + (w + 1)) = (y, x) := by
  have e := tg_4 (c := c) (w := w) (by omega) w1
  rw [show 4 * c + (w + 1) = (4 * c + w) + 1 by omega]
  refine smx_tx h ?_ ?_ (by omega) ?_ hl
  · show 100 * ((4 * c + w) / 4) + nb ((4 * c + w) / 4) ((4 * c + w) % 4) = y
    rw [e.1, e.2]; exact hy
  · show ((a ((4 * c + w) / 4) - a (nb ((4 * c + w) / 4) ((4 * c + w) % 4))).natAbs : Int) = x
    rw [e.1, e.2]; exact hx
  · show decide (2 ≤ (4 * c + w) % 4 ∧ 0 ≤ nb ((4 * c + w) / 4) ((4 * c + w) % 4)) = true
    rw [e.1, e.2]; exact decide_eq_true ⟨w0, hn⟩
theorem tg_f {a : Int → Int} {c w b l : Int} (h : sTight a (4 * c + w) = (b, l)) (c0 : 0 ≤ c) (w0 : 0 ≤ w) (w1 : w < 4) (hl : ¬ (2 ≤ w ∧ 0 ≤ nb c w) ∨ ((a c - a (nb c w)).natAbs : Int) ≤ l) : sTight a (4 * c + (w + 1)) = (b, l) := by
  have e := tg_4 (c := c) (w := w) (by omega) w1
  rw [show 4 * c + (w + 1) = (4 * c + w) + 1 by omega]
  rcases hl with hl | hl
  · refine smx_fk h (by omega) ?_
    show decide (2 ≤ (4 * c + w) % 4 ∧ 0 ≤ nb ((4 * c + w) / 4) ((4 * c + w) % 4)) = false
    rw [e.1, e.2]; exact decide_eq_false hl
  · refine smx_fx (x := ((a c - a (nb c w)).natAbs : Int)) h ?_ (by omega) (Or.inr hl)
    show ((a ((4 * c + w) / 4) - a (nb ((4 * c + w) / 4) ((4 * c + w) % 4))).natAbs : Int) = _
    rw [e.1, e.2]
theorem tg_2 {a : Int → Int} {c b l : Int} (h : sTight a (4 * c) = (b, l)) (c0 : 0 ≤ c) : sTight a (4 * c + 2) = (b, l) := by
  have h1 := tg_f (w := 0) (show sTight a (4 * c + 0) = (b, l) by rw [Int.add_zero]; exact h) c0 (by decide) (by decide) (Or.inl (fun q => absurd q.1 (by decide)))
  exact tg_f (w := 1) h1 c0 (by decide) (by decide) (Or.inl (fun q => absurd q.1 (by decide)))
theorem nb_neN : ∀ c : Nat, c < 12 → ∀ w : Nat, w < 4 → (c : Int) ≠ nb (c : Int) (w : Int) := by decide +kernel
theorem nb_ne {c w : Int} (h0 : 0 ≤ c) (h1 : c < 12) (w0 : 0 ≤ w) (w1 : w < 4) : c ≠ nb c w := by
  have h := nb_neN c.toNat (by omega) w.toNat (by omega)
  rw [Int.toNat_of_nonneg h0, Int.toNat_of_nonneg w0] at h
  exact h
theorem dX6_tightest_0 : decode cX6_tightest 0 = .ok (.aload_n 0, 1) := by decide +kernel
theorem dX6_tightest_1 : decode cX6_tightest 1 = .ok (.iconst 0, 1) := by decide +kernel
theorem dX6_tightest_2 : decode cX6_tightest 2 = .ok (.putfield 91, 3) := by decide +kernel
theorem dX6_tightest_5 : decode cX6_tightest 5 = .ok (.iload_n 1, 1) := by decide +kernel
theorem dX6_tightest_6 : decode cX6_tightest 6 = .ok (.i2l, 1) := by decide +kernel
theorem dX6_tightest_7 : decode cX6_tightest 7 = .ok (.lconst 0, 1) := by decide +kernel
theorem dX6_tightest_8 : decode cX6_tightest 8 = .ok (.lconst 1, 1) := by decide +kernel
theorem dX6_tightest_9 : decode cX6_tightest 9 = .ok (.invokestatic 97, 3) := by decide +kernel
theorem dX6_tightest_12 : decode cX6_tightest 12 = .ok (.ifCond .ne 10, 3) := by decide +kernel
theorem dX6_tightest_15 : decode cX6_tightest 15 = .ok (.aload_n 0, 1) := by decide +kernel
theorem dX6_tightest_16 : decode cX6_tightest 16 = .ok (.bipush (-2), 2) := by decide +kernel
theorem dX6_tightest_18 : decode cX6_tightest 18 = .ok (.invokevirtual 138, 3) := by decide +kernel
theorem dX6_tightest_21 : decode cX6_tightest 21 = .ok (.ireturn, 1) := by decide +kernel
theorem dX6_tightest_22 : decode cX6_tightest 22 = .ok (.bipush (-9), 2) := by decide +kernel
theorem dX6_tightest_24 : decode cX6_tightest 24 = .ok (.istore_n 2, 1) := by decide +kernel
theorem dX6_tightest_25 : decode cX6_tightest 25 = .ok (.iconst (-1), 1) := by decide +kernel
theorem dX6_tightest_26 : decode cX6_tightest 26 = .ok (.istore_n 3, 1) := by decide +kernel
theorem dX6_tightest_27 : decode cX6_tightest 27 = .ok (.iconst 0, 1) := by decide +kernel
theorem dX6_tightest_28 : decode cX6_tightest 28 = .ok (.istore 4, 2) := by decide +kernel
theorem dX6_tightest_30 : decode cX6_tightest 30 = .ok (.iload 4, 2) := by decide +kernel
theorem dX6_tightest_32 : decode cX6_tightest 32 = .ok (.bipush 12, 2) := by decide +kernel
theorem dX6_tightest_34 : decode cX6_tightest 34 = .ok (.if_icmp .ge 111, 3) := by decide +kernel
theorem dX6_tightest_37 : decode cX6_tightest 37 = .ok (.iconst 2, 1) := by decide +kernel
theorem dX6_tightest_38 : decode cX6_tightest 38 = .ok (.istore 5, 2) := by decide +kernel
theorem dX6_tightest_40 : decode cX6_tightest 40 = .ok (.iload 5, 2) := by decide +kernel
theorem dX6_tightest_42 : decode cX6_tightest 42 = .ok (.iconst 4, 1) := by decide +kernel
theorem dX6_tightest_43 : decode cX6_tightest 43 = .ok (.if_icmp .ge 96, 3) := by decide +kernel
theorem dX6_tightest_46 : decode cX6_tightest 46 = .ok (.iload 4, 2) := by decide +kernel
theorem dX6_tightest_48 : decode cX6_tightest 48 = .ok (.iload 5, 2) := by decide +kernel
theorem dX6_tightest_50 : decode cX6_tightest 50 = .ok (.invokestatic 104, 3) := by decide +kernel
theorem dX6_tightest_53 : decode cX6_tightest 53 = .ok (.istore 6, 2) := by decide +kernel
theorem dX6_tightest_55 : decode cX6_tightest 55 = .ok (.iload 6, 2) := by decide +kernel
theorem dX6_tightest_57 : decode cX6_tightest 57 = .ok (.ifCond .lt 28, 3) := by decide +kernel
theorem dX6_tightest_60 : decode cX6_tightest 60 = .ok (.aload_n 0, 1) := by decide +kernel
theorem dX6_tightest_61 : decode cX6_tightest 61 = .ok (.getfield 16, 3) := by decide +kernel
theorem dX6_tightest_64 : decode cX6_tightest 64 = .ok (.iload 4, 2) := by decide +kernel
theorem dX6_tightest_66 : decode cX6_tightest 66 = .ok (.iaload, 1) := by decide +kernel
theorem dX6_tightest_67 : decode cX6_tightest 67 = .ok (.aload_n 0, 1) := by decide +kernel
theorem dX6_tightest_68 : decode cX6_tightest 68 = .ok (.getfield 16, 3) := by decide +kernel
theorem dX6_tightest_71 : decode cX6_tightest 71 = .ok (.iload 6, 2) := by decide +kernel
theorem dX6_tightest_73 : decode cX6_tightest 73 = .ok (.iaload, 1) := by decide +kernel
theorem dX6_tightest_74 : decode cX6_tightest 74 = .ok (.invokestatic 108, 3) := by decide +kernel
theorem dX6_tightest_77 : decode cX6_tightest 77 = .ok (.iload_n 3, 1) := by decide +kernel
theorem dX6_tightest_78 : decode cX6_tightest 78 = .ok (.if_icmp .le 7, 3) := by decide +kernel
theorem dX6_tightest_81 : decode cX6_tightest 81 = .ok (.iconst 1, 1) := by decide +kernel
theorem dX6_tightest_82 : decode cX6_tightest 82 = .ok (.goto 4, 3) := by decide +kernel
theorem dX6_tightest_85 : decode cX6_tightest 85 = .ok (.iconst 0, 1) := by decide +kernel
theorem dX6_tightest_86 : decode cX6_tightest 86 = .ok (.istore 7, 2) := by decide +kernel
theorem dX6_tightest_88 : decode cX6_tightest 88 = .ok (.iload 7, 2) := by decide +kernel
theorem dX6_tightest_90 : decode cX6_tightest 90 = .ok (.ifCond .eq 14, 3) := by decide +kernel
theorem dX6_tightest_93 : decode cX6_tightest 93 = .ok (.bipush 100, 2) := by decide +kernel
theorem dX6_tightest_95 : decode cX6_tightest 95 = .ok (.iload 4, 2) := by decide +kernel
theorem dX6_tightest_97 : decode cX6_tightest 97 = .ok (.imul, 1) := by decide +kernel
theorem dX6_tightest_98 : decode cX6_tightest 98 = .ok (.iload 6, 2) := by decide +kernel
theorem dX6_tightest_100 : decode cX6_tightest 100 = .ok (.iadd, 1) := by decide +kernel
theorem dX6_tightest_101 : decode cX6_tightest 101 = .ok (.goto 4, 3) := by decide +kernel
theorem dX6_tightest_104 : decode cX6_tightest 104 = .ok (.iload_n 2, 1) := by decide +kernel
theorem dX6_tightest_105 : decode cX6_tightest 105 = .ok (.istore_n 2, 1) := by decide +kernel
theorem dX6_tightest_106 : decode cX6_tightest 106 = .ok (.iload 7, 2) := by decide +kernel
theorem dX6_tightest_108 : decode cX6_tightest 108 = .ok (.ifCond .eq 23, 3) := by decide +kernel
theorem dX6_tightest_111 : decode cX6_tightest 111 = .ok (.aload_n 0, 1) := by decide +kernel
theorem dX6_tightest_112 : decode cX6_tightest 112 = .ok (.getfield 16, 3) := by decide +kernel
theorem dX6_tightest_115 : decode cX6_tightest 115 = .ok (.iload 4, 2) := by decide +kernel
theorem dX6_tightest_117 : decode cX6_tightest 117 = .ok (.iaload, 1) := by decide +kernel
theorem dX6_tightest_118 : decode cX6_tightest 118 = .ok (.aload_n 0, 1) := by decide +kernel
theorem dX6_tightest_119 : decode cX6_tightest 119 = .ok (.getfield 16, 3) := by decide +kernel
theorem dX6_tightest_122 : decode cX6_tightest 122 = .ok (.iload 6, 2) := by decide +kernel
theorem dX6_tightest_124 : decode cX6_tightest 124 = .ok (.iaload, 1) := by decide +kernel
theorem dX6_tightest_125 : decode cX6_tightest 125 = .ok (.invokestatic 108, 3) := by decide +kernel
theorem dX6_tightest_128 : decode cX6_tightest 128 = .ok (.goto 4, 3) := by decide +kernel
theorem dX6_tightest_131 : decode cX6_tightest 131 = .ok (.iload_n 3, 1) := by decide +kernel
theorem dX6_tightest_132 : decode cX6_tightest 132 = .ok (.istore_n 3, 1) := by decide +kernel
theorem dX6_tightest_133 : decode cX6_tightest 133 = .ok (.iinc 5 1, 3) := by decide +kernel
theorem dX6_tightest_136 : decode cX6_tightest 136 = .ok (.goto (-96), 3) := by decide +kernel
theorem dX6_tightest_139 : decode cX6_tightest 139 = .ok (.iinc 4 1, 3) := by decide +kernel
theorem dX6_tightest_142 : decode cX6_tightest 142 = .ok (.goto (-112), 3) := by decide +kernel
theorem dX6_tightest_145 : decode cX6_tightest 145 = .ok (.iload_n 1, 1) := by decide +kernel
theorem dX6_tightest_146 : decode cX6_tightest 146 = .ok (.ifCond .ne 7, 3) := by decide +kernel
theorem dX6_tightest_149 : decode cX6_tightest 149 = .ok (.iload_n 2, 1) := by decide +kernel
theorem dX6_tightest_150 : decode cX6_tightest 150 = .ok (.goto 4, 3) := by decide +kernel
theorem dX6_tightest_153 : decode cX6_tightest 153 = .ok (.iload_n 3, 1) := by decide +kernel
theorem dX6_tightest_154 : decode cX6_tightest 154 = .ok (.ireturn, 1) := by decide +kernel
set_option maxRecDepth 100000 in
set_option maxHeartbeats 4000000 in
theorem k_X6_tightest (κ : Kp) (ma : Nat → Nat) (M : MS) (w : Int)  (ha_w : In32 w) (ok : okC (cl M)) : mI κ yX6_tightest cX6_tightest 8 .int 2 [.ref (ma 100), .int (iI w)] (mw κ ma M) (qM κ ma M (qTight (M 2) w)) := by
  refine mI_of (by decide) (Nat.le_of_ble_eq_true rfl) (fun E F K => ?_)
  refine g_lv (lv' := [(0, .ref (ma 100)), (1, .int (iI w))]) rfl ?_
  refine g_aload_n F 0 dX6_tightest_0 rfl ?_
  refine g_iconst F dX6_tightest_1 ?_
  refine gm_put_10 F dX6_tightest_2 ?_
  refine g_iload_n F 1 dX6_tightest_5 rfl ?_
  refine g_i2l F (by omega) dX6_tightest_6 ?_
  refine g_lconst F (z := 0) dX6_tightest_7 rfl ?_
  refine g_lconst F (z := 1) dX6_tightest_8 rfl ?_
  refine g_callSI F (stk := [.long (iL 1), .long (iL 0), .long (iL w)]) (st := []) (k_X6_in κ (mw κ ma (mA M 10 (fun _ => 0))) w 0 1 (by omega)) cal_X6_in lm_X6_97 rfl (by decide) rfl (Nat.le_of_ble_eq_true rfl) dX6_tightest_9 (fun r9 ws9 _ hr9 => ?_)
  obtain ⟨rfl, rfl⟩ := hr9
  refine g_if_ne F 22 (b2i_in _) dX6_tightest_12 (by decide) (fun c12 => ?_) (fun c12 => ?_)
  · skip
    have c12 : 0 ≤ w ∧ w ≤ 1 := b2i_t c12
    refine g_bipush F dX6_tightest_22 (by decide +kernel) ?_
    refine g_istore_n F (lv' := [(2, .int (iI (-9))), (0, .ref (ma 100)), (1, .int (iI w))]) 2 dX6_tightest_24 rfl (by decide) rfl ?_
    refine g_iconst F dX6_tightest_25 ?_
    refine g_istore_n F (lv' := [(3, .int (iI (-1))), (2, .int (iI (-9))), (0, .ref (ma 100)), (1, .int (iI w))]) 3 dX6_tightest_26 rfl (by decide) rfl ?_
    refine g_iconst F dX6_tightest_27 ?_
    refine g_istore F (lv' := [(4, .int (iI 0)), (3, .int (iI (-1))), (2, .int (iI (-9))), (0, .ref (ma 100)), (1, .int (iI w))]) dX6_tightest_28 (by decide) rfl ?_
    have L30 : ∀ (mz30 : Nat) (c : Int) (b : Int) (l : Int), (12 - c).toNat = mz30 → (0 ≤ c ∧ c ≤ 12) → (sTight (M 2) (4 * c) = (b, l)) → ((-1 ≤ l ∧ l ≤ 99) ∧ (b = -9 ∧ l = -1 ∨ 0 ≤ l ∧ 0 ≤ b ∧ b ≤ 1200) ∧ (0 < c → 0 ≤ l ∧ 0 ≤ b)) → G E (mw κ ma (mA M 10 (fun _ => 0))) [(4, .int (iI c)), (3, .int (iI l)), (2, .int (iI b)), (0, .ref (ma 100)), (1, .int (iI w))] 30 [] := by
      intro mz30
      induction mz30 using Nat.strongRecOn with
      | _ mz30 ih30 =>
      intro c b l hmz30 hc hs hl
      refine g_iload F 0 dX6_tightest_30 rfl ?_
      refine g_bipush F dX6_tightest_32 (by decide +kernel) ?_
      refine g_icmp_ge F 145 (by omega) dX6_tightest_34 (by decide) (fun c34 => ?_) (fun c34 => ?_)
      · skip
        refine g_iload_n F 4 dX6_tightest_145 rfl ?_
        refine g_if_ne F 153 (by omega) dX6_tightest_146 (by decide) (fun c146 => ?_) (fun c146 => ?_)
        · skip
          refine g_iload_n F 1 dX6_tightest_153 rfl ?_
          have e : sTight (M 2) 48 = (b, l) := by rw [show (48 : Int) = 4 * c by omega]; exact hs
          have e1 : (sTight (M 2) 48).1 = b := by rw [e]
          have e2 : (sTight (M 2) 48).2 = l := by rw [e]
          have hq : l = qTight (M 2) w := by unfold qTight; (repeat' split) <;> omega
          exact K mw_same ⟨_, rfl, iIc hq, ⟨rfl, rfl, rfl, rfl, rfl, rfl, rfl, rfl, rfl, rfl, rfl, rfl, rfl, rfl, rfl, rfl, rfl, rfl⟩, (by rw [← hq]; show M 11 = _; exact (rfa_n (by omega)).symm)⟩ rfl dX6_tightest_154
        · skip
          refine g_iload_n F 2 dX6_tightest_149 rfl ?_
          refine g_goto F 154 dX6_tightest_150 (by decide) ?_
          have e : sTight (M 2) 48 = (b, l) := by rw [show (48 : Int) = 4 * c by omega]; exact hs
          have e1 : (sTight (M 2) 48).1 = b := by rw [e]
          have e2 : (sTight (M 2) 48).2 = l := by rw [e]
          have hq : b = qTight (M 2) w := by unfold qTight; (repeat' split) <;> omega
          exact K mw_same ⟨_, rfl, iIc hq, ⟨rfl, rfl, rfl, rfl, rfl, rfl, rfl, rfl, rfl, rfl, rfl, rfl, rfl, rfl, rfl, rfl, rfl, rfl⟩, (by rw [← hq]; show M 11 = _; exact (rfa_n (by omega)).symm)⟩ rfl dX6_tightest_154
      · skip
        refine g_iconst F dX6_tightest_37 ?_
        refine g_istore F (lv' := [(5, .int (iI 2)), (4, .int (iI c)), (3, .int (iI l)), (2, .int (iI b)), (0, .ref (ma 100)), (1, .int (iI w))]) dX6_tightest_38 (by decide) rfl ?_
        have L40 : ∀ (mz40 : Nat) (v : Int) (b2 : Int) (l2 : Int), (4 - v).toNat = mz40 → (2 ≤ v ∧ v ≤ 4) → (sTight (M 2) (4 * c + v) = (b2, l2)) → ((-1 ≤ l2 ∧ l2 ≤ 99) ∧ (b2 = -9 ∧ l2 = -1 ∨ 0 ≤ l2 ∧ 0 ≤ b2 ∧ b2 ≤ 1200) ∧ (0 < c ∨ 2 < v → 0 ≤ l2 ∧ 0 ≤ b2)) → G E (mw κ ma (mA M 10 (fun _ => 0))) [(5, .int (iI v)), (4, .int (iI c)), (3, .int (iI l2)), (2, .int (iI b2)), (0, .ref (ma 100)), (1, .int (iI w))] 40 [] := by
          intro mz40
          induction mz40 using Nat.strongRecOn with
          | _ mz40 ih40 =>
          intro v b2 l2 hmz40 hv hs2 hl2
          refine g_iload F 0 dX6_tightest_40 rfl ?_
          refine g_iconst F dX6_tightest_42 ?_
          refine g_icmp_ge F 139 (by omega) dX6_tightest_43 (by decide) (fun c43 => ?_) (fun c43 => ?_)
          · skip
            refine g_iinc F (lv' := [(4, .int (iI (c + 1))), (5, .int (iI v)), (3, .int (iI l2)), (2, .int (iI b2)), (0, .ref (ma 100)), (1, .int (iI w))]) 1 dX6_tightest_139 rfl (by decide) rfl ?_
            refine g_goto F 30 dX6_tightest_142 (by decide) ?_
            refine g_sub F (lv' := [(4, .int (iI (c + 1))), (3, .int (iI l2)), (2, .int (iI b2)), (0, .ref (ma 100)), (1, .int (iI w))]) [0, 2, 3, 4, 5] rfl ?_
            exact ih30 _ (by omega) (c + 1) b2 l2 rfl (by omega) (by rw [show 4 * (c + 1) = 4 * c + v by omega]; exact hs2) (by omega)
          · skip
            have hnb := nbM_in (c := c) (w := v) (by omega) (by omega) (by omega) (by omega)
            have hnb2 := nb_in (c := c) (w := v) (by omega) (by omega) (by omega) (by omega)
            have h00 : c = 0 ∧ v = 2 → 0 ≤ nb c v := fun q => by rw [q.1, q.2]; decide
            have h1 : 0 ≤ M 2 c ∧ M 2 c ≤ 99 := ok.a c (by omega) (by omega)
            have h2 : 0 ≤ nbM c v → 0 ≤ M 2 (nbM c v) ∧ M 2 (nbM c v) ≤ 99 := fun q => ok.a (nbM c v) q (by omega)
            have he : 0 ≤ nbM c v → M 2 (nb c v) = M 2 (nbM c v) := fun q => by rw [hnb.2.2.1 q]
            refine g_iload F 1 dX6_tightest_46 rfl ?_
            refine g_iload F 0 dX6_tightest_48 rfl ?_
            refine g_callSI F (stk := [.int (iI v), .int (iI c)]) (st := []) (k_X6_besideOf κ (mw κ ma (mA M 10 (fun _ => 0))) c v (by omega)) cal_X6_besideOf lm_X6_104 rfl (by decide) rfl (Nat.le_of_ble_eq_true rfl) dX6_tightest_50 (fun r50 ws50 _ hr50 => ?_)
            obtain ⟨rfl, rfl⟩ := hr50
            refine g_istore F (lv' := [(6, .int (iI (nbM c v))), (5, .int (iI v)), (4, .int (iI c)), (3, .int (iI l2)), (2, .int (iI b2)), (0, .ref (ma 100)), (1, .int (iI w))]) dX6_tightest_53 (by decide) rfl ?_
            refine g_iload F 0 dX6_tightest_55 rfl ?_
            refine g_if_lt F 85 (by omega) dX6_tightest_57 (by decide) (fun c57 => ?_) (fun c57 => ?_)
            · skip
              refine g_iconst F dX6_tightest_85 ?_
              refine g_istore F (lv' := [(7, .int (iI 0)), (6, .int (iI (nbM c v))), (5, .int (iI v)), (4, .int (iI c)), (3, .int (iI l2)), (2, .int (iI b2)), (0, .ref (ma 100)), (1, .int (iI w))]) dX6_tightest_86 (by decide) rfl ?_
              refine g_iload F 0 dX6_tightest_88 rfl ?_
              refine g_if_eq F 104 (by omega) dX6_tightest_90 (by decide) (fun c90 => ?_) (fun c90 => ?_)
              · skip
                refine g_iload_n F 5 dX6_tightest_104 rfl ?_
                refine g_istore_n F (lv' := [(2, .int (iI b2)), (7, .int (iI 0)), (6, .int (iI (nbM c v))), (5, .int (iI v)), (4, .int (iI c)), (3, .int (iI l2)), (0, .ref (ma 100)), (1, .int (iI w))]) 2 dX6_tightest_105 rfl (by decide) rfl ?_
                refine g_iload F 1 dX6_tightest_106 rfl ?_
                refine g_if_eq F 131 (by omega) dX6_tightest_108 (by decide) (fun c108 => ?_) (fun c108 => ?_)
                · skip
                  refine g_iload_n F 5 dX6_tightest_131 rfl ?_
                  refine g_istore_n F (lv' := [(3, .int (iI l2)), (2, .int (iI b2)), (7, .int (iI 0)), (6, .int (iI (nbM c v))), (5, .int (iI v)), (4, .int (iI c)), (0, .ref (ma 100)), (1, .int (iI w))]) 3 dX6_tightest_132 rfl (by decide) rfl ?_
                  refine g_iinc F (lv' := [(5, .int (iI (v + 1))), (3, .int (iI l2)), (2, .int (iI b2)), (7, .int (iI 0)), (6, .int (iI (nbM c v))), (4, .int (iI c)), (0, .ref (ma 100)), (1, .int (iI w))]) 4 dX6_tightest_133 rfl (by decide) rfl ?_
                  refine g_goto F 40 dX6_tightest_136 (by decide) ?_
                  refine g_sub F (lv' := [(5, .int (iI (v + 1))), (4, .int (iI c)), (3, .int (iI l2)), (2, .int (iI b2)), (0, .ref (ma 100)), (1, .int (iI w))]) [0, 5, 1, 2, 6, 7] rfl ?_
                  exact ih40 _ (by omega) (v + 1) b2 l2 rfl (by omega) (by first | (exfalso; omega) | exact tg_t hs2 hc.1 hv.1 (by omega) (by omega) (by rw [hnb.2.2.1 (by omega)]) (by rw [hnb.2.2.1 (by omega)]) (by omega) | exact tg_f hs2 hc.1 (by omega) (by omega) (Or.inl (by omega)) | exact tg_f hs2 hc.1 (by omega) (by omega) (Or.inr (by rw [hnb.2.2.1 (by omega)]; omega))) (by omega)
                · skip
                  refine g_aload_n F 6 dX6_tightest_111 rfl ?_
                  refine gm_get_2 F dX6_tightest_112 ?_
                  refine g_iload F 4 dX6_tightest_115 rfl ?_
                  refine gm_ald_2 F (by omega) dX6_tightest_117 ?_
                  refine g_top (y := iI (M 2 c)) rfl ?_
                  refine g_aload_n F 6 dX6_tightest_118 rfl ?_
                  refine gm_get_2 F dX6_tightest_119 ?_
                  refine g_iload F 2 dX6_tightest_122 rfl ?_
                  refine gm_ald_2 F (by omega) dX6_tightest_124 ?_
                  refine g_top (y := iI (M 2 (nbM c v))) rfl ?_
                  refine g_callSI F (stk := [.int (iI (M 2 (nbM c v))), .int (iI (M 2 c))]) (st := []) (k_X6_apart κ (mw κ ma (mA M 10 (fun _ => 0))) (M 2 c) (M 2 (nbM c v)) (by omega)) cal_X6_apart lm_X6_108 rfl (by decide) rfl (Nat.le_of_ble_eq_true rfl) dX6_tightest_125 (fun r125 ws125 _ hr125 => ?_)
                  obtain ⟨rfl, rfl⟩ := hr125
                  refine g_top (y := iI ((M 2 c - M 2 (nbM c v)).natAbs : Int)) (iIc (by unfold aprt; omega)) ?_
                  refine g_goto F 132 dX6_tightest_128 (by decide) ?_
                  refine g_istore_n F (lv' := [(3, .int (iI ((M 2 c - M 2 (nbM c v)).natAbs : Int))), (2, .int (iI b2)), (7, .int (iI 0)), (6, .int (iI (nbM c v))), (5, .int (iI v)), (4, .int (iI c)), (0, .ref (ma 100)), (1, .int (iI w))]) 3 dX6_tightest_132 rfl (by decide) rfl ?_
                  refine g_iinc F (lv' := [(5, .int (iI (v + 1))), (3, .int (iI ((M 2 c - M 2 (nbM c v)).natAbs : Int))), (2, .int (iI b2)), (7, .int (iI 0)), (6, .int (iI (nbM c v))), (4, .int (iI c)), (0, .ref (ma 100)), (1, .int (iI w))]) 4 dX6_tightest_133 rfl (by decide) rfl ?_
                  refine g_goto F 40 dX6_tightest_136 (by decide) ?_
                  refine g_sub F (lv' := [(5, .int (iI (v + 1))), (4, .int (iI c)), (3, .int (iI ((M 2 c - M 2 (nbM c v)).natAbs : Int))), (2, .int (iI b2)), (0, .ref (ma 100)), (1, .int (iI w))]) [0, 5, 1, 2, 6, 7] rfl ?_
                  exact ih40 _ (by omega) (v + 1) b2 ((M 2 c - M 2 (nbM c v)).natAbs : Int) rfl (by omega) (by first | (exfalso; omega) | exact tg_t hs2 hc.1 hv.1 (by omega) (by omega) (by rw [hnb.2.2.1 (by omega)]) (by rw [hnb.2.2.1 (by omega)]) (by omega) | exact tg_f hs2 hc.1 (by omega) (by omega) (Or.inl (by omega)) | exact tg_f hs2 hc.1 (by omega) (by omega) (Or.inr (by rw [hnb.2.2.1 (by omega)]; omega))) (by omega)
              · skip
                refine g_bipush F dX6_tightest_93 (by decide +kernel) ?_
                refine g_iload F 3 dX6_tightest_95 rfl ?_
                refine g_imul F dX6_tightest_97 ?_
                refine g_iload F 1 dX6_tightest_98 rfl ?_
                refine g_iadd F dX6_tightest_100 ?_
                refine g_goto F 105 dX6_tightest_101 (by decide) ?_
                refine g_istore_n F (lv' := [(2, .int (iI ((100 * c) + (nbM c v)))), (7, .int (iI 0)), (6, .int (iI (nbM c v))), (5, .int (iI v)), (4, .int (iI c)), (3, .int (iI l2)), (0, .ref (ma 100)), (1, .int (iI w))]) 2 dX6_tightest_105 rfl (by decide) rfl ?_
                refine g_iload F 1 dX6_tightest_106 rfl ?_
                refine g_if_eq F 131 (by omega) dX6_tightest_108 (by decide) (fun c108 => ?_) (fun c108 => ?_)
                · skip
                  refine g_iload_n F 5 dX6_tightest_131 rfl ?_
                  refine g_istore_n F (lv' := [(3, .int (iI l2)), (2, .int (iI ((100 * c) + (nbM c v)))), (7, .int (iI 0)), (6, .int (iI (nbM c v))), (5, .int (iI v)), (4, .int (iI c)), (0, .ref (ma 100)), (1, .int (iI w))]) 3 dX6_tightest_132 rfl (by decide) rfl ?_
                  refine g_iinc F (lv' := [(5, .int (iI (v + 1))), (3, .int (iI l2)), (2, .int (iI ((100 * c) + (nbM c v)))), (7, .int (iI 0)), (6, .int (iI (nbM c v))), (4, .int (iI c)), (0, .ref (ma 100)), (1, .int (iI w))]) 4 dX6_tightest_133 rfl (by decide) rfl ?_
                  refine g_goto F 40 dX6_tightest_136 (by decide) ?_
                  refine g_sub F (lv' := [(5, .int (iI (v + 1))), (4, .int (iI c)), (3, .int (iI l2)), (2, .int (iI ((100 * c) + (nbM c v)))), (0, .ref (ma 100)), (1, .int (iI w))]) [0, 5, 1, 2, 6, 7] rfl ?_
                  exact ih40 _ (by omega) (v + 1) ((100 * c) + (nbM c v)) l2 rfl (by omega) (by first | (exfalso; omega) | exact tg_t hs2 hc.1 hv.1 (by omega) (by omega) (by rw [hnb.2.2.1 (by omega)]) (by rw [hnb.2.2.1 (by omega)]) (by omega) | exact tg_f hs2 hc.1 (by omega) (by omega) (Or.inl (by omega)) | exact tg_f hs2 hc.1 (by omega) (by omega) (Or.inr (by rw [hnb.2.2.1 (by omega)]; omega))) (by omega)
                · skip
                  refine g_aload_n F 6 dX6_tightest_111 rfl ?_
                  refine gm_get_2 F dX6_tightest_112 ?_
                  refine g_iload F 4 dX6_tightest_115 rfl ?_
                  refine gm_ald_2 F (by omega) dX6_tightest_117 ?_
                  refine g_top (y := iI (M 2 c)) rfl ?_
                  refine g_aload_n F 6 dX6_tightest_118 rfl ?_
                  refine gm_get_2 F dX6_tightest_119 ?_
                  refine g_iload F 2 dX6_tightest_122 rfl ?_
                  refine gm_ald_2 F (by omega) dX6_tightest_124 ?_
                  refine g_top (y := iI (M 2 (nbM c v))) rfl ?_
                  refine g_callSI F (stk := [.int (iI (M 2 (nbM c v))), .int (iI (M 2 c))]) (st := []) (k_X6_apart κ (mw κ ma (mA M 10 (fun _ => 0))) (M 2 c) (M 2 (nbM c v)) (by omega)) cal_X6_apart lm_X6_108 rfl (by decide) rfl (Nat.le_of_ble_eq_true rfl) dX6_tightest_125 (fun r125 ws125 _ hr125 => ?_)
                  obtain ⟨rfl, rfl⟩ := hr125
                  refine g_top (y := iI ((M 2 c - M 2 (nbM c v)).natAbs : Int)) (iIc (by unfold aprt; omega)) ?_
                  refine g_goto F 132 dX6_tightest_128 (by decide) ?_
                  refine g_istore_n F (lv' := [(3, .int (iI ((M 2 c - M 2 (nbM c v)).natAbs : Int))), (2, .int (iI ((100 * c) + (nbM c v)))), (7, .int (iI 0)), (6, .int (iI (nbM c v))), (5, .int (iI v)), (4, .int (iI c)), (0, .ref (ma 100)), (1, .int (iI w))]) 3 dX6_tightest_132 rfl (by decide) rfl ?_
                  refine g_iinc F (lv' := [(5, .int (iI (v + 1))), (3, .int (iI ((M 2 c - M 2 (nbM c v)).natAbs : Int))), (2, .int (iI ((100 * c) + (nbM c v)))), (7, .int (iI 0)), (6, .int (iI (nbM c v))), (4, .int (iI c)), (0, .ref (ma 100)), (1, .int (iI w))]) 4 dX6_tightest_133 rfl (by decide) rfl ?_
                  refine g_goto F 40 dX6_tightest_136 (by decide) ?_
                  refine g_sub F (lv' := [(5, .int (iI (v + 1))), (4, .int (iI c)), (3, .int (iI ((M 2 c - M 2 (nbM c v)).natAbs : Int))), (2, .int (iI ((100 * c) + (nbM c v)))), (0, .ref (ma 100)), (1, .int (iI w))]) [0, 5, 1, 2, 6, 7] rfl ?_
                  exact ih40 _ (by omega) (v + 1) ((100 * c) + (nbM c v)) ((M 2 c - M 2 (nbM c v)).natAbs : Int) rfl (by omega) (by first | (exfalso; omega) | exact tg_t hs2 hc.1 hv.1 (by omega) (by omega) (by rw [hnb.2.2.1 (by omega)]) (by rw [hnb.2.2.1 (by omega)]) (by omega) | exact tg_f hs2 hc.1 (by omega) (by omega) (Or.inl (by omega)) | exact tg_f hs2 hc.1 (by omega) (by omega) (Or.inr (by rw [hnb.2.2.1 (by omega)]; omega))) (by omega)
            · skip
              refine g_aload_n F 5 dX6_tightest_60 rfl ?_
              refine gm_get_2 F dX6_tightest_61 ?_
              refine g_iload F 2 dX6_tightest_64 rfl ?_
              refine gm_ald_2 F (by omega) dX6_tightest_66 ?_
              refine g_top (y := iI (M 2 c)) rfl ?_
              refine g_aload_n F 5 dX6_tightest_67 rfl ?_
              refine gm_get_2 F dX6_tightest_68 ?_
              refine g_iload F 0 dX6_tightest_71 rfl ?_
              refine gm_ald_2 F (by omega) dX6_tightest_73 ?_
              refine g_top (y := iI (M 2 (nbM c v))) rfl ?_
              refine g_callSI F (stk := [.int (iI (M 2 (nbM c v))), .int (iI (M 2 c))]) (st := []) (k_X6_apart κ (mw κ ma (mA M 10 (fun _ => 0))) (M 2 c) (M 2 (nbM c v)) (by omega)) cal_X6_apart lm_X6_108 rfl (by decide) rfl (Nat.le_of_ble_eq_true rfl) dX6_tightest_74 (fun r74 ws74 _ hr74 => ?_)
              obtain ⟨rfl, rfl⟩ := hr74
              refine g_top (y := iI ((M 2 c - M 2 (nbM c v)).natAbs : Int)) (iIc (by unfold aprt; omega)) ?_
              refine g_iload_n F 3 dX6_tightest_77 rfl ?_
              refine g_icmp_le F 85 (by omega) dX6_tightest_78 (by decide) (fun c78 => ?_) (fun c78 => ?_)
              · skip
                refine g_iconst F dX6_tightest_85 ?_
                refine g_istore F (lv' := [(7, .int (iI 0)), (6, .int (iI (nbM c v))), (5, .int (iI v)), (4, .int (iI c)), (3, .int (iI l2)), (2, .int (iI b2)), (0, .ref (ma 100)), (1, .int (iI w))]) dX6_tightest_86 (by decide) rfl ?_
                refine g_iload F 0 dX6_tightest_88 rfl ?_
                refine g_if_eq F 104 (by omega) dX6_tightest_90 (by decide) (fun c90 => ?_) (fun c90 => ?_)
                · skip
                  refine g_iload_n F 5 dX6_tightest_104 rfl ?_
                  refine g_istore_n F (lv' := [(2, .int (iI b2)), (7, .int (iI 0)), (6, .int (iI (nbM c v))), (5, .int (iI v)), (4, .int (iI c)), (3, .int (iI l2)), (0, .ref (ma 100)), (1, .int (iI w))]) 2 dX6_tightest_105 rfl (by decide) rfl ?_
                  refine g_iload F 1 dX6_tightest_106 rfl ?_
                  refine g_if_eq F 131 (by omega) dX6_tightest_108 (by decide) (fun c108 => ?_) (fun c108 => ?_)
                  · skip
                    refine g_iload_n F 5 dX6_tightest_131 rfl ?_
                    refine g_istore_n F (lv' := [(3, .int (iI l2)), (2, .int (iI b2)), (7, .int (iI 0)), (6, .int (iI (nbM c v))), (5, .int (iI v)), (4, .int (iI c)), (0, .ref (ma 100)), (1, .int (iI w))]) 3 dX6_tightest_132 rfl (by decide) rfl ?_
                    refine g_iinc F (lv' := [(5, .int (iI (v + 1))), (3, .int (iI l2)), (2, .int (iI b2)), (7, .int (iI 0)), (6, .int (iI (nbM c v))), (4, .int (iI c)), (0, .ref (ma 100)), (1, .int (iI w))]) 4 dX6_tightest_133 rfl (by decide) rfl ?_
                    refine g_goto F 40 dX6_tightest_136 (by decide) ?_
                    refine g_sub F (lv' := [(5, .int (iI (v + 1))), (4, .int (iI c)), (3, .int (iI l2)), (2, .int (iI b2)), (0, .ref (ma 100)), (1, .int (iI w))]) [0, 5, 1, 2, 6, 7] rfl ?_
                    exact ih40 _ (by omega) (v + 1) b2 l2 rfl (by omega) (by first | (exfalso; omega) | exact tg_t hs2 hc.1 hv.1 (by omega) (by omega) (by rw [hnb.2.2.1 (by omega)]) (by rw [hnb.2.2.1 (by omega)]) (by omega) | exact tg_f hs2 hc.1 (by omega) (by omega) (Or.inl (by omega)) | exact tg_f hs2 hc.1 (by omega) (by omega) (Or.inr (by rw [hnb.2.2.1 (by omega)]; omega))) (by omega)
                  · skip
                    refine g_aload_n F 6 dX6_tightest_111 rfl ?_
                    refine gm_get_2 F dX6_tightest_112 ?_
                    refine g_iload F 4 dX6_tightest_115 rfl ?_
                    refine gm_ald_2 F (by omega) dX6_tightest_117 ?_
                    refine g_top (y := iI (M 2 c)) rfl ?_
                    refine g_aload_n F 6 dX6_tightest_118 rfl ?_
                    refine gm_get_2 F dX6_tightest_119 ?_
                    refine g_iload F 2 dX6_tightest_122 rfl ?_
                    refine gm_ald_2 F (by omega) dX6_tightest_124 ?_
                    refine g_top (y := iI (M 2 (nbM c v))) rfl ?_
                    refine g_callSI F (stk := [.int (iI (M 2 (nbM c v))), .int (iI (M 2 c))]) (st := []) (k_X6_apart κ (mw κ ma (mA M 10 (fun _ => 0))) (M 2 c) (M 2 (nbM c v)) (by omega)) cal_X6_apart lm_X6_108 rfl (by decide) rfl (Nat.le_of_ble_eq_true rfl) dX6_tightest_125 (fun r125 ws125 _ hr125 => ?_)
                    obtain ⟨rfl, rfl⟩ := hr125
                    refine g_top (y := iI ((M 2 c - M 2 (nbM c v)).natAbs : Int)) (iIc (by unfold aprt; omega)) ?_
                    refine g_goto F 132 dX6_tightest_128 (by decide) ?_
                    refine g_istore_n F (lv' := [(3, .int (iI ((M 2 c - M 2 (nbM c v)).natAbs : Int))), (2, .int (iI b2)), (7, .int (iI 0)), (6, .int (iI (nbM c v))), (5, .int (iI v)), (4, .int (iI c)), (0, .ref (ma 100)), (1, .int (iI w))]) 3 dX6_tightest_132 rfl (by decide) rfl ?_
                    refine g_iinc F (lv' := [(5, .int (iI (v + 1))), (3, .int (iI ((M 2 c - M 2 (nbM c v)).natAbs : Int))), (2, .int (iI b2)), (7, .int (iI 0)), (6, .int (iI (nbM c v))), (4, .int (iI c)), (0, .ref (ma 100)), (1, .int (iI w))]) 4 dX6_tightest_133 rfl (by decide) rfl ?_
                    refine g_goto F 40 dX6_tightest_136 (by decide) ?_
                    refine g_sub F (lv' := [(5, .int (iI (v + 1))), (4, .int (iI c)), (3, .int (iI ((M 2 c - M 2 (nbM c v)).natAbs : Int))), (2, .int (iI b2)), (0, .ref (ma 100)), (1, .int (iI w))]) [0, 5, 1, 2, 6, 7] rfl ?_
                    exact ih40 _ (by omega) (v + 1) b2 ((M 2 c - M 2 (nbM c v)).natAbs : Int) rfl (by omega) (by first | (exfalso; omega) | exact tg_t hs2 hc.1 hv.1 (by omega) (by omega) (by rw [hnb.2.2.1 (by omega)]) (by rw [hnb.2.2.1 (by omega)]) (by omega) | exact tg_f hs2 hc.1 (by omega) (by omega) (Or.inl (by omega)) | exact tg_f hs2 hc.1 (by omega) (by omega) (Or.inr (by rw [hnb.2.2.1 (by omega)]; omega))) (by omega)
                · skip
                  refine g_bipush F dX6_tightest_93 (by decide +kernel) ?_
                  refine g_iload F 3 dX6_tightest_95 rfl ?_
                  refine g_imul F dX6_tightest_97 ?_
                  refine g_iload F 1 dX6_tightest_98 rfl ?_
                  refine g_iadd F dX6_tightest_100 ?_
                  refine g_goto F 105 dX6_tightest_101 (by decide) ?_
                  refine g_istore_n F (lv' := [(2, .int (iI ((100 * c) + (nbM c v)))), (7, .int (iI 0)), (6, .int (iI (nbM c v))), (5, .int (iI v)), (4, .int (iI c)), (3, .int (iI l2)), (0, .ref (ma 100)), (1, .int (iI w))]) 2 dX6_tightest_105 rfl (by decide) rfl ?_
                  refine g_iload F 1 dX6_tightest_106 rfl ?_
                  refine g_if_eq F 131 (by omega) dX6_tightest_108 (by decide) (fun c108 => ?_) (fun c108 => ?_)
                  · skip
                    refine g_iload_n F 5 dX6_tightest_131 rfl ?_
                    refine g_istore_n F (lv' := [(3, .int (iI l2)), (2, .int (iI ((100 * c) + (nbM c v)))), (7, .int (iI 0)), (6, .int (iI (nbM c v))), (5, .int (iI v)), (4, .int (iI c)), (0, .ref (ma 100)), (1, .int (iI w))]) 3 dX6_tightest_132 rfl (by decide) rfl ?_
                    refine g_iinc F (lv' := [(5, .int (iI (v + 1))), (3, .int (iI l2)), (2, .int (iI ((100 * c) + (nbM c v)))), (7, .int (iI 0)), (6, .int (iI (nbM c v))), (4, .int (iI c)), (0, .ref (ma 100)), (1, .int (iI w))]) 4 dX6_tightest_133 rfl (by decide) rfl ?_
                    refine g_goto F 40 dX6_tightest_136 (by decide) ?_
                    refine g_sub F (lv' := [(5, .int (iI (v + 1))), (4, .int (iI c)), (3, .int (iI l2)), (2, .int (iI ((100 * c) + (nbM c v)))), (0, .ref (ma 100)), (1, .int (iI w))]) [0, 5, 1, 2, 6, 7] rfl ?_
                    exact ih40 _ (by omega) (v + 1) ((100 * c) + (nbM c v)) l2 rfl (by omega) (by first | (exfalso; omega) | exact tg_t hs2 hc.1 hv.1 (by omega) (by omega) (by rw [hnb.2.2.1 (by omega)]) (by rw [hnb.2.2.1 (by omega)]) (by omega) | exact tg_f hs2 hc.1 (by omega) (by omega) (Or.inl (by omega)) | exact tg_f hs2 hc.1 (by omega) (by omega) (Or.inr (by rw [hnb.2.2.1 (by omega)]; omega))) (by omega)
                  · skip
                    refine g_aload_n F 6 dX6_tightest_111 rfl ?_
                    refine gm_get_2 F dX6_tightest_112 ?_
                    refine g_iload F 4 dX6_tightest_115 rfl ?_
                    refine gm_ald_2 F (by omega) dX6_tightest_117 ?_
                    refine g_top (y := iI (M 2 c)) rfl ?_
                    refine g_aload_n F 6 dX6_tightest_118 rfl ?_
                    refine gm_get_2 F dX6_tightest_119 ?_
                    refine g_iload F 2 dX6_tightest_122 rfl ?_
                    refine gm_ald_2 F (by omega) dX6_tightest_124 ?_
                    refine g_top (y := iI (M 2 (nbM c v))) rfl ?_
                    refine g_callSI F (stk := [.int (iI (M 2 (nbM c v))), .int (iI (M 2 c))]) (st := []) (k_X6_apart κ (mw κ ma (mA M 10 (fun _ => 0))) (M 2 c) (M 2 (nbM c v)) (by omega)) cal_X6_apart lm_X6_108 rfl (by decide) rfl (Nat.le_of_ble_eq_true rfl) dX6_tightest_125 (fun r125 ws125 _ hr125 => ?_)
                    obtain ⟨rfl, rfl⟩ := hr125
                    refine g_top (y := iI ((M 2 c - M 2 (nbM c v)).natAbs : Int)) (iIc (by unfold aprt; omega)) ?_
                    refine g_goto F 132 dX6_tightest_128 (by decide) ?_
                    refine g_istore_n F (lv' := [(3, .int (iI ((M 2 c - M 2 (nbM c v)).natAbs : Int))), (2, .int (iI ((100 * c) + (nbM c v)))), (7, .int (iI 0)), (6, .int (iI (nbM c v))), (5, .int (iI v)), (4, .int (iI c)), (0, .ref (ma 100)), (1, .int (iI w))]) 3 dX6_tightest_132 rfl (by decide) rfl ?_
                    refine g_iinc F (lv' := [(5, .int (iI (v + 1))), (3, .int (iI ((M 2 c - M 2 (nbM c v)).natAbs : Int))), (2, .int (iI ((100 * c) + (nbM c v)))), (7, .int (iI 0)), (6, .int (iI (nbM c v))), (4, .int (iI c)), (0, .ref (ma 100)), (1, .int (iI w))]) 4 dX6_tightest_133 rfl (by decide) rfl ?_
                    refine g_goto F 40 dX6_tightest_136 (by decide) ?_
                    refine g_sub F (lv' := [(5, .int (iI (v + 1))), (4, .int (iI c)), (3, .int (iI ((M 2 c - M 2 (nbM c v)).natAbs : Int))), (2, .int (iI ((100 * c) + (nbM c v)))), (0, .ref (ma 100)), (1, .int (iI w))]) [0, 5, 1, 2, 6, 7] rfl ?_
                    exact ih40 _ (by omega) (v + 1) ((100 * c) + (nbM c v)) ((M 2 c - M 2 (nbM c v)).natAbs : Int) rfl (by omega) (by first | (exfalso; omega) | exact tg_t hs2 hc.1 hv.1 (by omega) (by omega) (by rw [hnb.2.2.1 (by omega)]) (by rw [hnb.2.2.1 (by omega)]) (by omega) | exact tg_f hs2 hc.1 (by omega) (by omega) (Or.inl (by omega)) | exact tg_f hs2 hc.1 (by omega) (by omega) (Or.inr (by rw [hnb.2.2.1 (by omega)]; omega))) (by omega)
              · skip
                refine g_iconst F dX6_tightest_81 ?_
                refine g_goto F 86 dX6_tightest_82 (by decide) ?_
                refine g_istore F (lv' := [(7, .int (iI 1)), (6, .int (iI (nbM c v))), (5, .int (iI v)), (4, .int (iI c)), (3, .int (iI l2)), (2, .int (iI b2)), (0, .ref (ma 100)), (1, .int (iI w))]) dX6_tightest_86 (by decide) rfl ?_
                refine g_iload F 0 dX6_tightest_88 rfl ?_
                refine g_if_eq F 104 (by omega) dX6_tightest_90 (by decide) (fun c90 => ?_) (fun c90 => ?_)
                · skip
                  refine g_iload_n F 5 dX6_tightest_104 rfl ?_
                  refine g_istore_n F (lv' := [(2, .int (iI b2)), (7, .int (iI 1)), (6, .int (iI (nbM c v))), (5, .int (iI v)), (4, .int (iI c)), (3, .int (iI l2)), (0, .ref (ma 100)), (1, .int (iI w))]) 2 dX6_tightest_105 rfl (by decide) rfl ?_
                  refine g_iload F 1 dX6_tightest_106 rfl ?_
                  refine g_if_eq F 131 (by omega) dX6_tightest_108 (by decide) (fun c108 => ?_) (fun c108 => ?_)
                  · skip
                    refine g_iload_n F 5 dX6_tightest_131 rfl ?_
                    refine g_istore_n F (lv' := [(3, .int (iI l2)), (2, .int (iI b2)), (7, .int (iI 1)), (6, .int (iI (nbM c v))), (5, .int (iI v)), (4, .int (iI c)), (0, .ref (ma 100)), (1, .int (iI w))]) 3 dX6_tightest_132 rfl (by decide) rfl ?_
                    refine g_iinc F (lv' := [(5, .int (iI (v + 1))), (3, .int (iI l2)), (2, .int (iI b2)), (7, .int (iI 1)), (6, .int (iI (nbM c v))), (4, .int (iI c)), (0, .ref (ma 100)), (1, .int (iI w))]) 4 dX6_tightest_133 rfl (by decide) rfl ?_
                    refine g_goto F 40 dX6_tightest_136 (by decide) ?_
                    refine g_sub F (lv' := [(5, .int (iI (v + 1))), (4, .int (iI c)), (3, .int (iI l2)), (2, .int (iI b2)), (0, .ref (ma 100)), (1, .int (iI w))]) [0, 5, 1, 2, 6, 7] rfl ?_
                    exact ih40 _ (by omega) (v + 1) b2 l2 rfl (by omega) (by first | (exfalso; omega) | exact tg_t hs2 hc.1 hv.1 (by omega) (by omega) (by rw [hnb.2.2.1 (by omega)]) (by rw [hnb.2.2.1 (by omega)]) (by omega) | exact tg_f hs2 hc.1 (by omega) (by omega) (Or.inl (by omega)) | exact tg_f hs2 hc.1 (by omega) (by omega) (Or.inr (by rw [hnb.2.2.1 (by omega)]; omega))) (by omega)
                  · skip
                    refine g_aload_n F 6 dX6_tightest_111 rfl ?_
                    refine gm_get_2 F dX6_tightest_112 ?_
                    refine g_iload F 4 dX6_tightest_115 rfl ?_
                    refine gm_ald_2 F (by omega) dX6_tightest_117 ?_
                    refine g_top (y := iI (M 2 c)) rfl ?_
                    refine g_aload_n F 6 dX6_tightest_118 rfl ?_
                    refine gm_get_2 F dX6_tightest_119 ?_
                    refine g_iload F 2 dX6_tightest_122 rfl ?_
                    refine gm_ald_2 F (by omega) dX6_tightest_124 ?_
                    refine g_top (y := iI (M 2 (nbM c v))) rfl ?_
                    refine g_callSI F (stk := [.int (iI (M 2 (nbM c v))), .int (iI (M 2 c))]) (st := []) (k_X6_apart κ (mw κ ma (mA M 10 (fun _ => 0))) (M 2 c) (M 2 (nbM c v)) (by omega)) cal_X6_apart lm_X6_108 rfl (by decide) rfl (Nat.le_of_ble_eq_true rfl) dX6_tightest_125 (fun r125 ws125 _ hr125 => ?_)
                    obtain ⟨rfl, rfl⟩ := hr125
                    refine g_top (y := iI ((M 2 c - M 2 (nbM c v)).natAbs : Int)) (iIc (by unfold aprt; omega)) ?_
                    refine g_goto F 132 dX6_tightest_128 (by decide) ?_
                    refine g_istore_n F (lv' := [(3, .int (iI ((M 2 c - M 2 (nbM c v)).natAbs : Int))), (2, .int (iI b2)), (7, .int (iI 1)), (6, .int (iI (nbM c v))), (5, .int (iI v)), (4, .int (iI c)), (0, .ref (ma 100)), (1, .int (iI w))]) 3 dX6_tightest_132 rfl (by decide) rfl ?_
                    refine g_iinc F (lv' := [(5, .int (iI (v + 1))), (3, .int (iI ((M 2 c - M 2 (nbM c v)).natAbs : Int))), (2, .int (iI b2)), (7, .int (iI 1)), (6, .int (iI (nbM c v))), (4, .int (iI c)), (0, .ref (ma 100)), (1, .int (iI w))]) 4 dX6_tightest_133 rfl (by decide) rfl ?_
                    refine g_goto F 40 dX6_tightest_136 (by decide) ?_
                    refine g_sub F (lv' := [(5, .int (iI (v + 1))), (4, .int (iI c)), (3, .int (iI ((M 2 c - M 2 (nbM c v)).natAbs : Int))), (2, .int (iI b2)), (0, .ref (ma 100)), (1, .int (iI w))]) [0, 5, 1, 2, 6, 7] rfl ?_
                    exact ih40 _ (by omega) (v + 1) b2 ((M 2 c - M 2 (nbM c v)).natAbs : Int) rfl (by omega) (by first | (exfalso; omega) | exact tg_t hs2 hc.1 hv.1 (by omega) (by omega) (by rw [hnb.2.2.1 (by omega)]) (by rw [hnb.2.2.1 (by omega)]) (by omega) | exact tg_f hs2 hc.1 (by omega) (by omega) (Or.inl (by omega)) | exact tg_f hs2 hc.1 (by omega) (by omega) (Or.inr (by rw [hnb.2.2.1 (by omega)]; omega))) (by omega)
                · skip
                  refine g_bipush F dX6_tightest_93 (by decide +kernel) ?_
                  refine g_iload F 3 dX6_tightest_95 rfl ?_
                  refine g_imul F dX6_tightest_97 ?_
                  refine g_iload F 1 dX6_tightest_98 rfl ?_
                  refine g_iadd F dX6_tightest_100 ?_
                  refine g_goto F 105 dX6_tightest_101 (by decide) ?_
                  refine g_istore_n F (lv' := [(2, .int (iI ((100 * c) + (nbM c v)))), (7, .int (iI 1)), (6, .int (iI (nbM c v))), (5, .int (iI v)), (4, .int (iI c)), (3, .int (iI l2)), (0, .ref (ma 100)), (1, .int (iI w))]) 2 dX6_tightest_105 rfl (by decide) rfl ?_
                  refine g_iload F 1 dX6_tightest_106 rfl ?_
                  refine g_if_eq F 131 (by omega) dX6_tightest_108 (by decide) (fun c108 => ?_) (fun c108 => ?_)
                  · skip
                    refine g_iload_n F 5 dX6_tightest_131 rfl ?_
                    refine g_istore_n F (lv' := [(3, .int (iI l2)), (2, .int (iI ((100 * c) + (nbM c v)))), (7, .int (iI 1)), (6, .int (iI (nbM c v))), (5, .int (iI v)), (4, .int (iI c)), (0, .ref (ma 100)), (1, .int (iI w))]) 3 dX6_tightest_132 rfl (by decide) rfl ?_
                    refine g_iinc F (lv' := [(5, .int (iI (v + 1))), (3, .int (iI l2)), (2, .int (iI ((100 * c) + (nbM c v)))), (7, .int (iI 1)), (6, .int (iI (nbM c v))), (4, .int (iI c)), (0, .ref (ma 100)), (1, .int (iI w))]) 4 dX6_tightest_133 rfl (by decide) rfl ?_
                    refine g_goto F 40 dX6_tightest_136 (by decide) ?_
                    refine g_sub F (lv' := [(5, .int (iI (v + 1))), (4, .int (iI c)), (3, .int (iI l2)), (2, .int (iI ((100 * c) + (nbM c v)))), (0, .ref (ma 100)), (1, .int (iI w))]) [0, 5, 1, 2, 6, 7] rfl ?_
                    exact ih40 _ (by omega) (v + 1) ((100 * c) + (nbM c v)) l2 rfl (by omega) (by first | (exfalso; omega) | exact tg_t hs2 hc.1 hv.1 (by omega) (by omega) (by rw [hnb.2.2.1 (by omega)]) (by rw [hnb.2.2.1 (by omega)]) (by omega) | exact tg_f hs2 hc.1 (by omega) (by omega) (Or.inl (by omega)) | exact tg_f hs2 hc.1 (by omega) (by omega) (Or.inr (by rw [hnb.2.2.1 (by omega)]; omega))) (by omega)
                  · skip
                    refine g_aload_n F 6 dX6_tightest_111 rfl ?_
                    refine gm_get_2 F dX6_tightest_112 ?_
                    refine g_iload F 4 dX6_tightest_115 rfl ?_
                    refine gm_ald_2 F (by omega) dX6_tightest_117 ?_
                    refine g_top (y := iI (M 2 c)) rfl ?_
                    refine g_aload_n F 6 dX6_tightest_118 rfl ?_
                    refine gm_get_2 F dX6_tightest_119 ?_
                    refine g_iload F 2 dX6_tightest_122 rfl ?_
                    refine gm_ald_2 F (by omega) dX6_tightest_124 ?_
                    refine g_top (y := iI (M 2 (nbM c v))) rfl ?_
                    refine g_callSI F (stk := [.int (iI (M 2 (nbM c v))), .int (iI (M 2 c))]) (st := []) (k_X6_apart κ (mw κ ma (mA M 10 (fun _ => 0))) (M 2 c) (M 2 (nbM c v)) (by omega)) cal_X6_apart lm_X6_108 rfl (by decide) rfl (Nat.le_of_ble_eq_true rfl) dX6_tightest_125 (fun r125 ws125 _ hr125 => ?_)
                    obtain ⟨rfl, rfl⟩ := hr125
                    refine g_top (y := iI ((M 2 c - M 2 (nbM c v)).natAbs : Int)) (iIc (by unfold aprt; omega)) ?_
                    refine g_goto F 132 dX6_tightest_128 (by decide) ?_
                    refine g_istore_n F (lv' := [(3, .int (iI ((M 2 c - M 2 (nbM c v)).natAbs : Int))), (2, .int (iI ((100 * c) + (nbM c v)))), (7, .int (iI 1)), (6, .int (iI (nbM c v))), (5, .int (iI v)), (4, .int (iI c)), (0, .ref (ma 100)), (1, .int (iI w))]) 3 dX6_tightest_132 rfl (by decide) rfl ?_
                    refine g_iinc F (lv' := [(5, .int (iI (v + 1))), (3, .int (iI ((M 2 c - M 2 (nbM c v)).natAbs : Int))), (2, .int (iI ((100 * c) + (nbM c v)))), (7, .int (iI 1)), (6, .int (iI (nbM c v))), (4, .int (iI c)), (0, .ref (ma 100)), (1, .int (iI w))]) 4 dX6_tightest_133 rfl (by decide) rfl ?_
                    refine g_goto F 40 dX6_tightest_136 (by decide) ?_
                    refine g_sub F (lv' := [(5, .int (iI (v + 1))), (4, .int (iI c)), (3, .int (iI ((M 2 c - M 2 (nbM c v)).natAbs : Int))), (2, .int (iI ((100 * c) + (nbM c v)))), (0, .ref (ma 100)), (1, .int (iI w))]) [0, 5, 1, 2, 6, 7] rfl ?_
                    exact ih40 _ (by omega) (v + 1) ((100 * c) + (nbM c v)) ((M 2 c - M 2 (nbM c v)).natAbs : Int) rfl (by omega) (by first | (exfalso; omega) | exact tg_t hs2 hc.1 hv.1 (by omega) (by omega) (by rw [hnb.2.2.1 (by omega)]) (by rw [hnb.2.2.1 (by omega)]) (by omega) | exact tg_f hs2 hc.1 (by omega) (by omega) (Or.inl (by omega)) | exact tg_f hs2 hc.1 (by omega) (by omega) (Or.inr (by rw [hnb.2.2.1 (by omega)]; omega))) (by omega)
        refine g_sub F (lv' := [(5, .int (iI 2)), (4, .int (iI c)), (3, .int (iI l)), (2, .int (iI b)), (0, .ref (ma 100)), (1, .int (iI w))]) [0, 1, 2, 3, 4, 5] rfl ?_
        exact L40 _ 2 b l rfl (by omega) (tg_2 hs hc.1) (by omega)
    refine g_sub F (lv' := [(4, .int (iI 0)), (3, .int (iI (-1))), (2, .int (iI (-9))), (0, .ref (ma 100)), (1, .int (iI w))]) [0, 1, 2, 3, 4] rfl ?_
    exact L30 _ 0 (-9) (-1) rfl (by omega) rfl (by omega)
  · skip
    have c12 : ¬ (0 ≤ w ∧ w ≤ 1) := b2i_f c12
    refine g_aload_n F 0 dX6_tightest_15 rfl ?_
    refine g_bipush F dX6_tightest_16 (by decide +kernel) ?_
    refine g_callI F (stk := [.int (iI (-2)), .ref (ma 100)]) (st := []) (k_X6_refuse κ ma (mA M 10 (fun _ => 0)) (-2) (by omega)) cal_X6_refuse lm_X6_138 0 rfl rfl rfl rfl (by decide) rfl (Nat.le_of_ble_eq_true rfl) dX6_tightest_18 (fun r18 ws18 _ hr18 => ?_)
    obtain ⟨rfl, rfl⟩ := hr18
    refine g_top (y := iI (-2)) rfl ?_
    refine g_ws (ws' := mw κ ma (mA (mA M 10 (fun _ => 0)) 11 (uI (M 11) (-(-2)) (M 11 (-(-2)) + 1)))) rfl ?_
    have hq : (-2) = qTight (M 2) w := by unfold qTight; (repeat' split) <;> omega
    exact K mw_same ⟨_, rfl, iIc hq, ⟨rfl, rfl, rfl, rfl, rfl, rfl, rfl, rfl, rfl, rfl, rfl, rfl, rfl, rfl, rfl, rfl, rfl, rfl⟩, (by rw [← hq]; exact (rfa_r (by omega)).symm)⟩ rfl dX6_tightest_21
theorem dX5_tightest_0 : decode cX5_tightest 0 = .ok (.iload_n 1, 1) := by decide +kernel
theorem dX5_tightest_1 : decode cX5_tightest 1 = .ok (.ifCond .lt 8, 3) := by decide +kernel
theorem dX5_tightest_4 : decode cX5_tightest 4 = .ok (.iload_n 1, 1) := by decide +kernel
theorem dX5_tightest_5 : decode cX5_tightest 5 = .ok (.iconst 1, 1) := by decide +kernel
theorem dX5_tightest_6 : decode cX5_tightest 6 = .ok (.if_icmp .le 10, 3) := by decide +kernel
theorem dX5_tightest_9 : decode cX5_tightest 9 = .ok (.aload_n 0, 1) := by decide +kernel
theorem dX5_tightest_10 : decode cX5_tightest 10 = .ok (.bipush (-2), 2) := by decide +kernel
theorem dX5_tightest_12 : decode cX5_tightest 12 = .ok (.invokevirtual 69, 3) := by decide +kernel
theorem dX5_tightest_15 : decode cX5_tightest 15 = .ok (.ireturn, 1) := by decide +kernel
theorem dX5_tightest_16 : decode cX5_tightest 16 = .ok (.iconst (-1), 1) := by decide +kernel
theorem dX5_tightest_17 : decode cX5_tightest 17 = .ok (.istore_n 2, 1) := by decide +kernel
theorem dX5_tightest_18 : decode cX5_tightest 18 = .ok (.iconst 0, 1) := by decide +kernel
theorem dX5_tightest_19 : decode cX5_tightest 19 = .ok (.istore_n 3, 1) := by decide +kernel
theorem dX5_tightest_20 : decode cX5_tightest 20 = .ok (.iconst 0, 1) := by decide +kernel
theorem dX5_tightest_21 : decode cX5_tightest 21 = .ok (.istore 4, 2) := by decide +kernel
theorem dX5_tightest_23 : decode cX5_tightest 23 = .ok (.iload 4, 2) := by decide +kernel
theorem dX5_tightest_25 : decode cX5_tightest 25 = .ok (.bipush 12, 2) := by decide +kernel
theorem dX5_tightest_27 : decode cX5_tightest 27 = .ok (.if_icmp .ge 91, 3) := by decide +kernel
theorem dX5_tightest_30 : decode cX5_tightest 30 = .ok (.iconst 0, 1) := by decide +kernel
theorem dX5_tightest_31 : decode cX5_tightest 31 = .ok (.istore 5, 2) := by decide +kernel
theorem dX5_tightest_33 : decode cX5_tightest 33 = .ok (.iload 5, 2) := by decide +kernel
theorem dX5_tightest_35 : decode cX5_tightest 35 = .ok (.iconst 4, 1) := by decide +kernel
theorem dX5_tightest_36 : decode cX5_tightest 36 = .ok (.if_icmp .ge 76, 3) := by decide +kernel
theorem dX5_tightest_39 : decode cX5_tightest 39 = .ok (.getstatic 308, 3) := by decide +kernel
theorem dX5_tightest_42 : decode cX5_tightest 42 = .ok (.iload 4, 2) := by decide +kernel
theorem dX5_tightest_44 : decode cX5_tightest 44 = .ok (.iconst 4, 1) := by decide +kernel
theorem dX5_tightest_45 : decode cX5_tightest 45 = .ok (.imul, 1) := by decide +kernel
theorem dX5_tightest_46 : decode cX5_tightest 46 = .ok (.iload 5, 2) := by decide +kernel
theorem dX5_tightest_48 : decode cX5_tightest 48 = .ok (.iadd, 1) := by decide +kernel
theorem dX5_tightest_49 : decode cX5_tightest 49 = .ok (.iaload, 1) := by decide +kernel
theorem dX5_tightest_50 : decode cX5_tightest 50 = .ok (.istore 6, 2) := by decide +kernel
theorem dX5_tightest_52 : decode cX5_tightest 52 = .ok (.iload 6, 2) := by decide +kernel
theorem dX5_tightest_54 : decode cX5_tightest 54 = .ok (.iload 4, 2) := by decide +kernel
theorem dX5_tightest_56 : decode cX5_tightest 56 = .ok (.if_icmp .ge 6, 3) := by decide +kernel
theorem dX5_tightest_59 : decode cX5_tightest 59 = .ok (.goto 47, 3) := by decide +kernel
theorem dX5_tightest_62 : decode cX5_tightest 62 = .ok (.aload_n 0, 1) := by decide +kernel
theorem dX5_tightest_63 : decode cX5_tightest 63 = .ok (.getfield 10, 3) := by decide +kernel
theorem dX5_tightest_66 : decode cX5_tightest 66 = .ok (.getfield 175, 3) := by decide +kernel
theorem dX5_tightest_69 : decode cX5_tightest 69 = .ok (.iload 4, 2) := by decide +kernel
theorem dX5_tightest_71 : decode cX5_tightest 71 = .ok (.iaload, 1) := by decide +kernel
theorem dX5_tightest_72 : decode cX5_tightest 72 = .ok (.aload_n 0, 1) := by decide +kernel
theorem dX5_tightest_73 : decode cX5_tightest 73 = .ok (.getfield 10, 3) := by decide +kernel
theorem dX5_tightest_76 : decode cX5_tightest 76 = .ok (.getfield 175, 3) := by decide +kernel
theorem dX5_tightest_79 : decode cX5_tightest 79 = .ok (.iload 6, 2) := by decide +kernel
theorem dX5_tightest_81 : decode cX5_tightest 81 = .ok (.iaload, 1) := by decide +kernel
theorem dX5_tightest_82 : decode cX5_tightest 82 = .ok (.isub, 1) := by decide +kernel
theorem dX5_tightest_83 : decode cX5_tightest 83 = .ok (.invokestatic 311, 3) := by decide +kernel
theorem dX5_tightest_86 : decode cX5_tightest 86 = .ok (.istore 7, 2) := by decide +kernel
theorem dX5_tightest_88 : decode cX5_tightest 88 = .ok (.iload 7, 2) := by decide +kernel
theorem dX5_tightest_90 : decode cX5_tightest 90 = .ok (.iload_n 2, 1) := by decide +kernel
theorem dX5_tightest_91 : decode cX5_tightest 91 = .ok (.if_icmp .le 15, 3) := by decide +kernel
theorem dX5_tightest_94 : decode cX5_tightest 94 = .ok (.iload 7, 2) := by decide +kernel
theorem dX5_tightest_96 : decode cX5_tightest 96 = .ok (.istore_n 2, 1) := by decide +kernel
theorem dX5_tightest_97 : decode cX5_tightest 97 = .ok (.bipush 100, 2) := by decide +kernel
theorem dX5_tightest_99 : decode cX5_tightest 99 = .ok (.iload 4, 2) := by decide +kernel
theorem dX5_tightest_101 : decode cX5_tightest 101 = .ok (.imul, 1) := by decide +kernel
theorem dX5_tightest_102 : decode cX5_tightest 102 = .ok (.iload 6, 2) := by decide +kernel
theorem dX5_tightest_104 : decode cX5_tightest 104 = .ok (.iadd, 1) := by decide +kernel
theorem dX5_tightest_105 : decode cX5_tightest 105 = .ok (.istore_n 3, 1) := by decide +kernel
theorem dX5_tightest_106 : decode cX5_tightest 106 = .ok (.iinc 5 1, 3) := by decide +kernel
theorem dX5_tightest_109 : decode cX5_tightest 109 = .ok (.goto (-76), 3) := by decide +kernel
theorem dX5_tightest_112 : decode cX5_tightest 112 = .ok (.iinc 4 1, 3) := by decide +kernel
theorem dX5_tightest_115 : decode cX5_tightest 115 = .ok (.goto (-92), 3) := by decide +kernel
theorem dX5_tightest_118 : decode cX5_tightest 118 = .ok (.iload_n 1, 1) := by decide +kernel
theorem dX5_tightest_119 : decode cX5_tightest 119 = .ok (.ifCond .ne 7, 3) := by decide +kernel
theorem dX5_tightest_122 : decode cX5_tightest 122 = .ok (.iload_n 3, 1) := by decide +kernel
theorem dX5_tightest_123 : decode cX5_tightest 123 = .ok (.goto 4, 3) := by decide +kernel
theorem dX5_tightest_126 : decode cX5_tightest 126 = .ok (.iload_n 2, 1) := by decide +kernel
theorem dX5_tightest_127 : decode cX5_tightest 127 = .ok (.ireturn, 1) := by decide +kernel
set_option maxRecDepth 100000 in
set_option maxHeartbeats 4000000 in
theorem k_X5_tightest (κ : Kp) (xa : Nat → Nat → Nat) (X : XS) (w : Int)  (ha_w : In32 w) (ok : okC (cl (X 0))) : mI κ yX5_tightest cX5_tightest 8 .int 2 [.ref (xa 18 100), .int (iI w)] (xw κ xa X) (qX κ xa X (qTight (X 0 2) w)) := by
  refine mI_of (by decide) (Nat.le_of_ble_eq_true rfl) (fun E F K => ?_)
  refine g_lv (lv' := [(0, .ref (xa 18 100)), (1, .int (iI w))]) rfl ?_
  refine g_iload_n F 1 dX5_tightest_0 rfl ?_
  refine g_if_lt F 9 (by omega) dX5_tightest_1 (by decide) (fun c1 => ?_) (fun c1 => ?_)
  · skip
    refine g_aload_n F 0 dX5_tightest_9 rfl ?_
    refine g_bipush F dX5_tightest_10 (by decide +kernel) ?_
    refine g_callI F (stk := [.int (iI (-2)), .ref (xa 18 100)]) (st := []) (k_X5_refuse κ xa X (-2) (by omega)) cal_X5_refuse lm_X5_69 81 rfl rfl rfl rfl (by decide) rfl (Nat.le_of_ble_eq_true rfl) dX5_tightest_12 (fun r12 ws12 _ hr12 => ?_)
    obtain ⟨rfl, rfl⟩ := hr12
    have hq : (-2) = qTight (X 0 2) w := by unfold qTight; (repeat' split) <;> omega
    exact K xw_same ⟨_, rfl, iIc hq, (sX_18 sX_0 rfl rfl rfl), (by rw [← hq]; exact (rfa_r (by omega)).symm)⟩ rfl dX5_tightest_15
  · skip
    refine g_iload_n F 1 dX5_tightest_4 rfl ?_
    refine g_iconst F dX5_tightest_5 ?_
    refine g_icmp_le F 16 (by omega) dX5_tightest_6 (by decide) (fun c6 => ?_) (fun c6 => ?_)
    · skip
      refine g_iconst F dX5_tightest_16 ?_
      refine g_istore_n F (lv' := [(2, .int (iI (-1))), (0, .ref (xa 18 100)), (1, .int (iI w))]) 2 dX5_tightest_17 rfl (by decide) rfl ?_
      refine g_iconst F dX5_tightest_18 ?_
      refine g_istore_n F (lv' := [(3, .int (iI 0)), (2, .int (iI (-1))), (0, .ref (xa 18 100)), (1, .int (iI w))]) 3 dX5_tightest_19 rfl (by decide) rfl ?_
      refine g_iconst F dX5_tightest_20 ?_
      refine g_istore F (lv' := [(4, .int (iI 0)), (3, .int (iI 0)), (2, .int (iI (-1))), (0, .ref (xa 18 100)), (1, .int (iI w))]) dX5_tightest_21 (by decide) rfl ?_
      have L23 : ∀ (mz23 : Nat) (c : Int) (b : Int) (l : Int), (12 - c).toNat = mz23 → (0 ≤ c ∧ c ≤ 12) → (sTight (X 0 2) (4 * c) = ((if l = -1 then -9 else b), l)) → ((-1 ≤ l ∧ l ≤ 99) ∧ (0 ≤ b ∧ b ≤ 1200) ∧ (0 < c → 0 ≤ l)) → G E (xw κ xa X) [(4, .int (iI c)), (3, .int (iI b)), (2, .int (iI l)), (0, .ref (xa 18 100)), (1, .int (iI w))] 23 [] := by
        intro mz23
        induction mz23 using Nat.strongRecOn with
        | _ mz23 ih23 =>
        intro c b l hmz23 hc hs hl
        refine g_iload F 0 dX5_tightest_23 rfl ?_
        refine g_bipush F dX5_tightest_25 (by decide +kernel) ?_
        refine g_icmp_ge F 118 (by omega) dX5_tightest_27 (by decide) (fun c27 => ?_) (fun c27 => ?_)
        · skip
          refine g_iload_n F 4 dX5_tightest_118 rfl ?_
          refine g_if_ne F 126 (by omega) dX5_tightest_119 (by decide) (fun c119 => ?_) (fun c119 => ?_)
          · skip
            refine g_iload_n F 2 dX5_tightest_126 rfl ?_
            have e : sTight (X 0 2) 48 = (b, l) := by rw [show (48 : Int) = 4 * c by omega, hs, if_neg (by omega)]
            have e1 : (sTight (X 0 2) 48).1 = b := by rw [e]
            have e2 : (sTight (X 0 2) 48).2 = l := by rw [e]
            have hq : l = qTight (X 0 2) w := by unfold qTight; (repeat' split) <;> omega
            exact K xw_same ⟨_, rfl, iIc hq, sX_0, (by rw [← hq]; exact (rfa_n (by omega)).symm)⟩ rfl dX5_tightest_127
          · skip
            refine g_iload_n F 1 dX5_tightest_122 rfl ?_
            refine g_goto F 127 dX5_tightest_123 (by decide) ?_
            have e : sTight (X 0 2) 48 = (b, l) := by rw [show (48 : Int) = 4 * c by omega, hs, if_neg (by omega)]
            have e1 : (sTight (X 0 2) 48).1 = b := by rw [e]
            have e2 : (sTight (X 0 2) 48).2 = l := by rw [e]
            have hq : b = qTight (X 0 2) w := by unfold qTight; (repeat' split) <;> omega
            exact K xw_same ⟨_, rfl, iIc hq, sX_0, (by rw [← hq]; exact (rfa_n (by omega)).symm)⟩ rfl dX5_tightest_127
        · skip
          refine g_iconst F dX5_tightest_30 ?_
          refine g_istore F (lv' := [(5, .int (iI 0)), (4, .int (iI c)), (3, .int (iI b)), (2, .int (iI l)), (0, .ref (xa 18 100)), (1, .int (iI w))]) dX5_tightest_31 (by decide) rfl ?_
          have L33 : ∀ (mz33 : Nat) (v : Int) (b2 : Int) (l2 : Int), (4 - v).toNat = mz33 → (0 ≤ v ∧ v ≤ 4) → (sTight (X 0 2) (4 * c + v) = ((if l2 = -1 then -9 else b2), l2)) → ((-1 ≤ l2 ∧ l2 ≤ 99) ∧ (0 ≤ b2 ∧ b2 ≤ 1200) ∧ (0 < c ∨ 2 < v → 0 ≤ l2)) → G E (xw κ xa X) [(5, .int (iI v)), (4, .int (iI c)), (3, .int (iI b2)), (2, .int (iI l2)), (0, .ref (xa 18 100)), (1, .int (iI w))] 33 [] := by
            intro mz33
            induction mz33 using Nat.strongRecOn with
            | _ mz33 ih33 =>
            intro v b2 l2 hmz33 hv hs2 hl2
            refine g_iload F 0 dX5_tightest_33 rfl ?_
            refine g_iconst F dX5_tightest_35 ?_
            refine g_icmp_ge F 112 (by omega) dX5_tightest_36 (by decide) (fun c36 => ?_) (fun c36 => ?_)
            · skip
              refine g_iinc F (lv' := [(4, .int (iI (c + 1))), (5, .int (iI v)), (3, .int (iI b2)), (2, .int (iI l2)), (0, .ref (xa 18 100)), (1, .int (iI w))]) 1 dX5_tightest_112 rfl (by decide) rfl ?_
              refine g_goto F 23 dX5_tightest_115 (by decide) ?_
              refine g_sub F (lv' := [(4, .int (iI (c + 1))), (3, .int (iI b2)), (2, .int (iI l2)), (0, .ref (xa 18 100)), (1, .int (iI w))]) [0, 2, 3, 4, 5] rfl ?_
              exact ih23 _ (by omega) (c + 1) b2 l2 rfl (by omega) (by rw [show 4 * (c + 1) = 4 * c + v by omega]; exact hs2) (by omega)
            · skip
              have hnb := nb_in (c := c) (w := v) (by omega) (by omega) (by omega) (by omega)
              have hgt := nb_gt (c := c) (w := v) (by omega) (by omega) (by omega) (by omega)
              have hge : c ≠ nb c v := nb_ne (by omega) (by omega) (by omega) (by omega)
              have h00 : c = 0 ∧ v = 2 → 0 ≤ nb c v := fun q => by rw [q.1, q.2]; decide
              have h1 : 0 ≤ X 0 2 c ∧ X 0 2 c ≤ 99 := ok.a c (by omega) (by omega)
              have h2 : 0 ≤ nb c v → 0 ≤ X 0 2 (nb c v) ∧ X 0 2 (nb c v) ≤ 99 := fun q => ok.a (nb c v) q (by omega)
              refine g_bes F lf_X5_308 dX5_tightest_39 ?_
              refine g_iload F 1 dX5_tightest_42 rfl ?_
              refine g_iconst F dX5_tightest_44 ?_
              refine g_imul F dX5_tightest_45 ?_
              refine g_iload F 0 dX5_tightest_46 rfl ?_
              refine g_iadd F dX5_tightest_48 ?_
              refine g_beld F (by omega) dX5_tightest_49 ?_
              refine g_top (y := iI (nb c v)) (iIc (bes_nb (by omega) (by omega))) ?_
              refine g_istore F (lv' := [(6, .int (iI (nb c v))), (5, .int (iI v)), (4, .int (iI c)), (3, .int (iI b2)), (2, .int (iI l2)), (0, .ref (xa 18 100)), (1, .int (iI w))]) dX5_tightest_50 (by decide) rfl ?_
              refine g_iload F 0 dX5_tightest_52 rfl ?_
              refine g_iload F 2 dX5_tightest_54 rfl ?_
              refine g_icmp_ge F 62 (by omega) dX5_tightest_56 (by decide) (fun c56 => ?_) (fun c56 => ?_)
              · skip
                refine g_aload_n F 5 dX5_tightest_62 rfl ?_
                refine g18_get_0 F  lf_X5_10 dX5_tightest_63 ?_
                refine gc_getN_2 F (o := 0) (by decide) nf_X5_175 dX5_tightest_66 ?_
                refine g_iload F 2 dX5_tightest_69 rfl ?_
                refine gc_ald_2 F (o := 0) (by decide) (by omega) dX5_tightest_71 ?_
                refine g_aload_n F 5 dX5_tightest_72 rfl ?_
                refine g18_get_0 F  lf_X5_10 dX5_tightest_73 ?_
                refine gc_getN_2 F (o := 0) (by decide) nf_X5_175 dX5_tightest_76 ?_
                refine g_iload F 0 dX5_tightest_79 rfl ?_
                refine gc_ald_2 F (o := 0) (by decide) (by omega) dX5_tightest_81 ?_
                refine g_isub F dX5_tightest_82 ?_
                refine g_abs F (by omega) lm_X5_311 ms_abs ms_ini mc_abs (by decide) (Nat.le_of_ble_eq_true rfl) dX5_tightest_83 ?_
                refine g_istore F (lv' := [(7, .int (iI ((((X 0) 2 c) - ((X 0) 2 (nb c v))).natAbs : Int))), (6, .int (iI (nb c v))), (5, .int (iI v)), (4, .int (iI c)), (3, .int (iI b2)), (2, .int (iI l2)), (0, .ref (xa 18 100)), (1, .int (iI w))]) dX5_tightest_86 (by decide) rfl ?_
                refine g_iload F 0 dX5_tightest_88 rfl ?_
                refine g_iload_n F 5 dX5_tightest_90 rfl ?_
                refine g_icmp_le F 106 (by omega) dX5_tightest_91 (by decide) (fun c91 => ?_) (fun c91 => ?_)
                · skip
                  refine g_iinc F (lv' := [(5, .int (iI (v + 1))), (7, .int (iI ((((X 0) 2 c) - ((X 0) 2 (nb c v))).natAbs : Int))), (6, .int (iI (nb c v))), (4, .int (iI c)), (3, .int (iI b2)), (2, .int (iI l2)), (0, .ref (xa 18 100)), (1, .int (iI w))]) 2 dX5_tightest_106 rfl (by decide) rfl ?_
                  refine g_goto F 33 dX5_tightest_109 (by decide) ?_
                  refine g_sub F (lv' := [(5, .int (iI (v + 1))), (4, .int (iI c)), (3, .int (iI b2)), (2, .int (iI l2)), (0, .ref (xa 18 100)), (1, .int (iI w))]) [0, 3, 4, 5, 6, 7] rfl ?_
                  exact ih33 _ (by omega) (v + 1) b2 l2 rfl (by omega) (by first | (exfalso; omega) | exact tg_t hs2 hc.1 (by omega) (by omega) (by omega) (by rw [if_neg (by omega)]) rfl (by omega) | exact tg_f hs2 hc.1 (by omega) (by omega) (by omega)) (by omega)
                · skip
                  refine g_iload F 0 dX5_tightest_94 rfl ?_
                  refine g_istore_n F (lv' := [(2, .int (iI ((((X 0) 2 c) - ((X 0) 2 (nb c v))).natAbs : Int))), (7, .int (iI ((((X 0) 2 c) - ((X 0) 2 (nb c v))).natAbs : Int))), (6, .int (iI (nb c v))), (5, .int (iI v)), (4, .int (iI c)), (3, .int (iI b2)), (0, .ref (xa 18 100)), (1, .int (iI w))]) 2 dX5_tightest_96 rfl (by decide) rfl ?_
                  refine g_bipush F dX5_tightest_97 (by decide +kernel) ?_
                  refine g_iload F 4 dX5_tightest_99 rfl ?_
                  refine g_imul F dX5_tightest_101 ?_
                  refine g_iload F 2 dX5_tightest_102 rfl ?_
                  refine g_iadd F dX5_tightest_104 ?_
                  refine g_istore_n F (lv' := [(3, .int (iI ((100 * c) + (nb c v)))), (2, .int (iI ((((X 0) 2 c) - ((X 0) 2 (nb c v))).natAbs : Int))), (7, .int (iI ((((X 0) 2 c) - ((X 0) 2 (nb c v))).natAbs : Int))), (6, .int (iI (nb c v))), (5, .int (iI v)), (4, .int (iI c)), (0, .ref (xa 18 100)), (1, .int (iI w))]) 3 dX5_tightest_105 rfl (by decide) rfl ?_
                  refine g_iinc F (lv' := [(5, .int (iI (v + 1))), (3, .int (iI ((100 * c) + (nb c v)))), (2, .int (iI ((((X 0) 2 c) - ((X 0) 2 (nb c v))).natAbs : Int))), (7, .int (iI ((((X 0) 2 c) - ((X 0) 2 (nb c v))).natAbs : Int))), (6, .int (iI (nb c v))), (4, .int (iI c)), (0, .ref (xa 18 100)), (1, .int (iI w))]) 4 dX5_tightest_106 rfl (by decide) rfl ?_
                  refine g_goto F 33 dX5_tightest_109 (by decide) ?_
                  refine g_sub F (lv' := [(5, .int (iI (v + 1))), (4, .int (iI c)), (3, .int (iI ((100 * c) + (nb c v)))), (2, .int (iI ((((X 0) 2 c) - ((X 0) 2 (nb c v))).natAbs : Int))), (0, .ref (xa 18 100)), (1, .int (iI w))]) [0, 5, 1, 2, 6, 7] rfl ?_
                  exact ih33 _ (by omega) (v + 1) ((100 * c) + (nb c v)) ((((X 0) 2 c) - ((X 0) 2 (nb c v))).natAbs : Int) rfl (by omega) (by first | (exfalso; omega) | exact tg_t hs2 hc.1 (by omega) (by omega) (by omega) (by rw [if_neg (by omega)]) rfl (by omega) | exact tg_f hs2 hc.1 (by omega) (by omega) (by omega)) (by omega)
              · skip
                refine g_goto F 106 dX5_tightest_59 (by decide) ?_
                refine g_iinc F (lv' := [(5, .int (iI (v + 1))), (6, .int (iI (nb c v))), (4, .int (iI c)), (3, .int (iI b2)), (2, .int (iI l2)), (0, .ref (xa 18 100)), (1, .int (iI w))]) 1 dX5_tightest_106 rfl (by decide) rfl ?_
                refine g_goto F 33 dX5_tightest_109 (by decide) ?_
                refine g_sub F (lv' := [(5, .int (iI (v + 1))), (4, .int (iI c)), (3, .int (iI b2)), (2, .int (iI l2)), (0, .ref (xa 18 100)), (1, .int (iI w))]) [0, 2, 3, 4, 5, 6] rfl ?_
                exact ih33 _ (by omega) (v + 1) b2 l2 rfl (by omega) (by first | (exfalso; omega) | exact tg_t hs2 hc.1 (by omega) (by omega) (by omega) (by rw [if_neg (by omega)]) rfl (by omega) | exact tg_f hs2 hc.1 (by omega) (by omega) (by omega)) (by omega)
          refine g_sub F (lv' := [(5, .int (iI 0)), (4, .int (iI c)), (3, .int (iI b)), (2, .int (iI l)), (0, .ref (xa 18 100)), (1, .int (iI w))]) [0, 1, 2, 3, 4, 5] rfl ?_
          exact L33 _ 0 b l rfl (by omega) (by rw [Int.add_zero]; exact hs) (by omega)
      refine g_sub F (lv' := [(4, .int (iI 0)), (3, .int (iI 0)), (2, .int (iI (-1))), (0, .ref (xa 18 100)), (1, .int (iI w))]) [0, 1, 2, 3, 4] rfl ?_
      exact L23 _ 0 0 (-1) rfl (by omega) rfl (by omega)
    · skip
      refine g_aload_n F 0 dX5_tightest_9 rfl ?_
      refine g_bipush F dX5_tightest_10 (by decide +kernel) ?_
      refine g_callI F (stk := [.int (iI (-2)), .ref (xa 18 100)]) (st := []) (k_X5_refuse κ xa X (-2) (by omega)) cal_X5_refuse lm_X5_69 81 rfl rfl rfl rfl (by decide) rfl (Nat.le_of_ble_eq_true rfl) dX5_tightest_12 (fun r12 ws12 _ hr12 => ?_)
      obtain ⟨rfl, rfl⟩ := hr12
      have hq : (-2) = qTight (X 0 2) w := by unfold qTight; (repeat' split) <;> omega
      exact K xw_same ⟨_, rfl, iIc hq, (sX_18 sX_0 rfl rfl rfl), (by rw [← hq]; exact (rfa_r (by omega)).symm)⟩ rfl dX5_tightest_15
