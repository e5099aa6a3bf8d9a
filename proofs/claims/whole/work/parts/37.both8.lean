/-- the seed after so many draws -/
def sdN (z : Int) : Nat → Int
  | 0 => z
  | n + 1 => nxt (sdN z n)
def sdI (z n : Int) : Int := sdN z n.toNat
theorem sdI_s (z : Int) {n : Int} (h : 0 ≤ n) : sdI z (n + 1) = nxt (sdI z n) := by
  unfold sdI
  rw [show (n + 1).toNat = n.toNat + 1 by omega]
  rfl
def lotA (z k c : Int) : Int := drw (sdI z (12 * k + c + 1)) 60
def lotC (C : Cl) (z k : Int) : Cl := (ki C, fi C, upTo (ag C) (lotA z k) 12, we C, yr C)
def lotV (C : Cl) (z w k : Int) : Int := if w = 0 then pcnt (hbits (goI 20 (lotC C z k))) else allWear (goI 20 (lotC C z k))
def qLots (C : Cl) (n z w : Int) : Int := if n < 1 then -4 else if 20 < n then -6 else if ¬ (0 ≤ w ∧ w ≤ 1) then -2 else sumI (lotV C z w) n
theorem lotA_bd (z k c : Int) : 0 ≤ lotA z k c ∧ lotA z k c ≤ 99 := by unfold lotA drw; omega
theorem lotC_ok {C : Cl} (ok : okC C) (z k : Int) : okC (lotC C z k) := okC.mk ok.k ok.f (fun j a b => by show 0 ≤ upTo (ag C) (lotA z k) 12 j ∧ upTo (ag C) (lotA z k) 12 j ≤ 99; rw [upTo_in a b]; exact lotA_bd z k j) ok.w ok.2
theorem pcN_le2 : ∀ a : Nat, a < 64 → ∀ b : Nat, b < 64 → pcN (64 * a + b) ≤ 12 := by decide +kernel
theorem pcnt_le {z : Int} (h0 : 0 ≤ z) (h : z < 4096) : pcnt z ≤ 12 := by
  have e : 64 * (z.toNat / 64) + z.toNat % 64 = z.toNat := by omega
  have k := pcN_le2 (z.toNat / 64) (by omega) (z.toNat % 64) (by omega)
  rw [e] at k
  unfold pcnt
  omega
theorem lotV_bd {C : Cl} (ok : okC C) (z w k : Int) : 0 ≤ lotV C z w k ∧ lotV C z w k ≤ 1188 := by
  have h1 := pcnt_bd (hbits (goI 20 (lotC C z k)))
  have h2 := pcnt_le (hbits_in (goI 20 (lotC C z k))).1 (hbits_in (goI 20 (lotC C z k))).2
  have h3 := allWear_bd (goI_ok (lotC_ok ok z k) 20)
  unfold lotV
  split <;> omega
theorem dX6_lots_0 : decode cX6_lots 0 = .ok (.aload_n 0, 1) := by decide +kernel
theorem dX6_lots_1 : decode cX6_lots 1 = .ok (.iconst 0, 1) := by decide +kernel
theorem dX6_lots_2 : decode cX6_lots 2 = .ok (.putfield 91, 3) := by decide +kernel
theorem dX6_lots_5 : decode cX6_lots 5 = .ok (.iload_n 1, 1) := by decide +kernel
theorem dX6_lots_6 : decode cX6_lots 6 = .ok (.iconst 1, 1) := by decide +kernel
theorem dX6_lots_7 : decode cX6_lots 7 = .ok (.bipush 20, 2) := by decide +kernel
theorem dX6_lots_9 : decode cX6_lots 9 = .ok (.invokestatic 237, 3) := by decide +kernel
theorem dX6_lots_12 : decode cX6_lots 12 = .ok (.iload_n 3, 1) := by decide +kernel
theorem dX6_lots_13 : decode cX6_lots 13 = .ok (.iconst 1, 1) := by decide +kernel
theorem dX6_lots_14 : decode cX6_lots 14 = .ok (.invokestatic 247, 3) := by decide +kernel
theorem dX6_lots_17 : decode cX6_lots 17 = .ok (.istore 4, 2) := by decide +kernel
theorem dX6_lots_19 : decode cX6_lots 19 = .ok (.iload 4, 2) := by decide +kernel
theorem dX6_lots_21 : decode cX6_lots 21 = .ok (.ifCond .ge 10, 3) := by decide +kernel
theorem dX6_lots_24 : decode cX6_lots 24 = .ok (.aload_n 0, 1) := by decide +kernel
theorem dX6_lots_25 : decode cX6_lots 25 = .ok (.iload 4, 2) := by decide +kernel
theorem dX6_lots_27 : decode cX6_lots 27 = .ok (.invokevirtual 138, 3) := by decide +kernel
theorem dX6_lots_30 : decode cX6_lots 30 = .ok (.ireturn, 1) := by decide +kernel
theorem dX6_lots_31 : decode cX6_lots 31 = .ok (.aload_n 0, 1) := by decide +kernel
theorem dX6_lots_32 : decode cX6_lots 32 = .ok (.iload_n 2, 1) := by decide +kernel
theorem dX6_lots_33 : decode cX6_lots 33 = .ok (.putfield 334, 3) := by decide +kernel
theorem dX6_lots_36 : decode cX6_lots 36 = .ok (.iconst 0, 1) := by decide +kernel
theorem dX6_lots_37 : decode cX6_lots 37 = .ok (.istore 5, 2) := by decide +kernel
theorem dX6_lots_39 : decode cX6_lots 39 = .ok (.aload_n 0, 1) := by decide +kernel
theorem dX6_lots_40 : decode cX6_lots 40 = .ok (.invokevirtual 191, 3) := by decide +kernel
theorem dX6_lots_43 : decode cX6_lots 43 = .ok (.iconst 0, 1) := by decide +kernel
theorem dX6_lots_44 : decode cX6_lots 44 = .ok (.istore 6, 2) := by decide +kernel
theorem dX6_lots_46 : decode cX6_lots 46 = .ok (.iload 6, 2) := by decide +kernel
theorem dX6_lots_48 : decode cX6_lots 48 = .ok (.iload_n 1, 1) := by decide +kernel
theorem dX6_lots_49 : decode cX6_lots 49 = .ok (.if_icmp .ge 71, 3) := by decide +kernel
theorem dX6_lots_52 : decode cX6_lots 52 = .ok (.iconst 0, 1) := by decide +kernel
theorem dX6_lots_53 : decode cX6_lots 53 = .ok (.istore 7, 2) := by decide +kernel
theorem dX6_lots_55 : decode cX6_lots 55 = .ok (.iload 7, 2) := by decide +kernel
theorem dX6_lots_57 : decode cX6_lots 57 = .ok (.bipush 12, 2) := by decide +kernel
theorem dX6_lots_59 : decode cX6_lots 59 = .ok (.if_icmp .ge 22, 3) := by decide +kernel
theorem dX6_lots_62 : decode cX6_lots 62 = .ok (.aload_n 0, 1) := by decide +kernel
theorem dX6_lots_63 : decode cX6_lots 63 = .ok (.getfield 16, 3) := by decide +kernel
theorem dX6_lots_66 : decode cX6_lots 66 = .ok (.iload 7, 2) := by decide +kernel
theorem dX6_lots_68 : decode cX6_lots 68 = .ok (.aload_n 0, 1) := by decide +kernel
theorem dX6_lots_69 : decode cX6_lots 69 = .ok (.bipush 60, 2) := by decide +kernel
theorem dX6_lots_71 : decode cX6_lots 71 = .ok (.invokevirtual 340, 3) := by decide +kernel
theorem dX6_lots_74 : decode cX6_lots 74 = .ok (.iastore, 1) := by decide +kernel
theorem dX6_lots_75 : decode cX6_lots 75 = .ok (.iinc 7 1, 3) := by decide +kernel
theorem dX6_lots_78 : decode cX6_lots 78 = .ok (.goto (-23), 3) := by decide +kernel
theorem dX6_lots_81 : decode cX6_lots 81 = .ok (.aload_n 0, 1) := by decide +kernel
theorem dX6_lots_82 : decode cX6_lots 82 = .ok (.bipush 20, 2) := by decide +kernel
theorem dX6_lots_84 : decode cX6_lots 84 = .ok (.invokevirtual 184, 3) := by decide +kernel
theorem dX6_lots_87 : decode cX6_lots 87 = .ok (.iload 5, 2) := by decide +kernel
theorem dX6_lots_89 : decode cX6_lots 89 = .ok (.iload_n 3, 1) := by decide +kernel
theorem dX6_lots_90 : decode cX6_lots 90 = .ok (.ifCond .ne 13, 3) := by decide +kernel
theorem dX6_lots_93 : decode cX6_lots 93 = .ok (.aload_n 0, 1) := by decide +kernel
theorem dX6_lots_94 : decode cX6_lots 94 = .ok (.invokevirtual 241, 3) := by decide +kernel
theorem dX6_lots_97 : decode cX6_lots 97 = .ok (.invokestatic 244, 3) := by decide +kernel
theorem dX6_lots_100 : decode cX6_lots 100 = .ok (.goto 7, 3) := by decide +kernel
theorem dX6_lots_103 : decode cX6_lots 103 = .ok (.aload_n 0, 1) := by decide +kernel
theorem dX6_lots_104 : decode cX6_lots 104 = .ok (.invokevirtual 250, 3) := by decide +kernel
theorem dX6_lots_107 : decode cX6_lots 107 = .ok (.iadd, 1) := by decide +kernel
theorem dX6_lots_108 : decode cX6_lots 108 = .ok (.istore 5, 2) := by decide +kernel
theorem dX6_lots_110 : decode cX6_lots 110 = .ok (.aload_n 0, 1) := by decide +kernel
theorem dX6_lots_111 : decode cX6_lots 111 = .ok (.invokevirtual 197, 3) := by decide +kernel
theorem dX6_lots_114 : decode cX6_lots 114 = .ok (.iinc 6 1, 3) := by decide +kernel
theorem dX6_lots_117 : decode cX6_lots 117 = .ok (.goto (-71), 3) := by decide +kernel
theorem dX6_lots_120 : decode cX6_lots 120 = .ok (.iload 5, 2) := by decide +kernel
theorem dX6_lots_122 : decode cX6_lots 122 = .ok (.ireturn, 1) := by decide +kernel
set_option maxRecDepth 100000 in
set_option maxHeartbeats 4000000 in
theorem k_X6_lots (κ : Kp) (ma : Nat → Nat) (M : MS) (n : Int) (z : Int) (w : Int)  (ha_n : In32 n) (ha_z : In32 z) (ha_w : In32 w) (ok : okC (cl M)) (hy : M 4 0 ≤ 999) : mI κ yX6_lots cX6_lots 8 .int 6 [.ref (ma 100), .int (iI n), .int (iI z), .int (iI w)] (mw κ ma M) (qM κ ma M (qLots (cl M) n z w)) := by
  refine mI_of (by decide) (Nat.le_of_ble_eq_true rfl) (fun E F K => ?_)
  refine g_lv (lv' := [(0, .ref (ma 100)), (1, .int (iI n)), (2, .int (iI z)), (3, .int (iI w))]) rfl ?_
  refine g_aload_n F 0 dX6_lots_0 rfl ?_
  refine g_iconst F dX6_lots_1 ?_
  refine gm_put_10 F dX6_lots_2 ?_
  refine g_iload_n F 1 dX6_lots_5 rfl ?_
  refine g_iconst F dX6_lots_6 ?_
  refine g_bipush F dX6_lots_7 (by decide +kernel) ?_
  refine g_callSI F (stk := [.int (iI 20), .int (iI 1), .int (iI n)]) (st := []) (k_X6_wrongNumber κ (mw κ ma (mA M 10 (fun _ => 0))) n 1 20 (by omega)) cal_X6_wrongNumber lm_X6_237 rfl (by decide) rfl (Nat.le_of_ble_eq_true rfl) dX6_lots_9 (fun r9 ws9 _ hr9 => ?_)
  obtain ⟨rfl, rfl⟩ := hr9
  have hwn9 := wn_spec n 1 20
  refine g_iload_n F 3 dX6_lots_12 rfl ?_
  refine g_iconst F dX6_lots_13 ?_
  refine g_callSI F (stk := [.int (iI 1), .int (iI w), .int (iI (wnum n 1 20))]) (st := []) (k_X6_wrongBit κ (mw κ ma (mA M 10 (fun _ => 0))) (wnum n 1 20) w 1 (by omega)) cal_X6_wrongBit lm_X6_247 rfl (by decide) rfl (Nat.le_of_ble_eq_true rfl) dX6_lots_14 (fun r14 ws14 _ hr14 => ?_)
  obtain ⟨rfl, rfl⟩ := hr14
  have hwb14 := wb_spec (wnum n 1 20) w 1
  refine g_istore F (lv' := [(4, .int (iI (wbit (wnum n 1 20) w 1))), (0, .ref (ma 100)), (1, .int (iI n)), (2, .int (iI z)), (3, .int (iI w))]) dX6_lots_17 (by decide) rfl ?_
  refine g_iload F 0 dX6_lots_19 rfl ?_
  refine g_if_ge F 31 (by omega) dX6_lots_21 (by decide) (fun c21 => ?_) (fun c21 => ?_)
  · skip
    refine g_aload_n F 1 dX6_lots_31 rfl ?_
    refine g_iload_n F 3 dX6_lots_32 rfl ?_
    refine gm_put_42 F dX6_lots_33 ?_
    refine g_iconst F dX6_lots_36 ?_
    refine g_istore F (lv' := [(5, .int (iI 0)), (4, .int (iI (wbit (wnum n 1 20) w 1))), (0, .ref (ma 100)), (1, .int (iI n)), (2, .int (iI z)), (3, .int (iI w))]) dX6_lots_37 (by decide) rfl ?_
    refine g_aload_n F 2 dX6_lots_39 rfl ?_
    refine g_callV F (stk := [.ref (ma 100)]) (st := []) (k_X6_think κ ma (mA (mA M 10 (fun _ => 0)) 42 (fun _ => z))) cal_X6_think lm_X6_191 0 rfl rfl rfl rfl (by decide) rfl (Nat.le_of_ble_eq_true rfl) dX6_lots_40 (fun ws40 _ hr40 => ?_)
    obtain rfl := hr40
    refine g_ws (ws' := mw κ ma (thk (mA (mA M 10 (fun _ => 0)) 42 (fun _ => z)))) rfl ?_
    refine g_iconst F dX6_lots_43 ?_
    refine g_istore F (lv' := [(6, .int (iI 0)), (5, .int (iI 0)), (4, .int (iI (wbit (wnum n 1 20) w 1))), (0, .ref (ma 100)), (1, .int (iI n)), (2, .int (iI z)), (3, .int (iI w))]) dX6_lots_44 (by decide) rfl ?_
    have L46 : ∀ (mz46 : Nat) (k : Int) (s : Int) (t : Int) (Gm : MS), (n - k).toNat = mz46 → (0 ≤ k ∧ k ≤ n) → (s = sdI z (12 * k)) → (t = sumI (lotV (cl M) z w) k) → (0 ≤ t ∧ t ≤ 1188 * k) → G E (mw κ ma (mA (tst M Gm) 42 (fun _ => s))) [(6, .int (iI k)), (5, .int (iI t)), (0, .ref (ma 100)), (1, .int (iI n)), (2, .int (iI z)), (3, .int (iI w))] 46 [] := by
      intro mz46
      induction mz46 using Nat.strongRecOn with
      | _ mz46 ih46 =>
      intro k s t Gm hmz46 hk hs ht htb
      refine g_iload F 0 dX6_lots_46 rfl ?_
      refine g_iload_n F 3 dX6_lots_48 rfl ?_
      refine g_icmp_ge F 120 (by omega) dX6_lots_49 (by decide) (fun c49 => ?_) (fun c49 => ?_)
      · skip
        refine g_iload F 1 dX6_lots_120 rfl ?_
        have hq : t = qLots (cl M) n z w := by unfold qLots; rw [if_neg (by omega), if_neg (by omega), if_neg (by omega), ht, show k = n by omega]
        exact K mw_same ⟨_, rfl, iIc hq, ⟨rfl, rfl, rfl, rfl, rfl, rfl, rfl, rfl, rfl, rfl, rfl, rfl, rfl, rfl, rfl, rfl, rfl, rfl⟩, (by rw [← hq]; show M 11 = _; exact (rfa_n (by omega)).symm)⟩ rfl dX6_lots_122
      · skip
        refine g_iconst F dX6_lots_52 ?_
        refine g_istore F (lv' := [(7, .int (iI 0)), (6, .int (iI k)), (5, .int (iI t)), (0, .ref (ma 100)), (1, .int (iI n)), (2, .int (iI z)), (3, .int (iI w))]) dX6_lots_53 (by decide) rfl ?_
        have L55 : ∀ (mz55 : Nat) (c : Int) (s2 : Int) (f : Int → Int), (12 - c).toNat = mz55 → (0 ≤ c ∧ c ≤ 12) → (s2 = sdI z (12 * k + c)) → (f = upTo (M 2) (lotA z k) c) → G E (mw κ ma (mA (mA (tst M Gm) 42 (fun _ => s2)) 2 f)) [(7, .int (iI c)), (6, .int (iI k)), (5, .int (iI t)), (0, .ref (ma 100)), (1, .int (iI n)), (2, .int (iI z)), (3, .int (iI w))] 55 [] := by
          intro mz55
          induction mz55 using Nat.strongRecOn with
          | _ mz55 ih55 =>
          intro c s2 f hmz55 hc hs2 hf
          refine g_iload F 0 dX6_lots_55 rfl ?_
          refine g_bipush F dX6_lots_57 (by decide +kernel) ?_
          refine g_icmp_ge F 81 (by omega) dX6_lots_59 (by decide) (fun c59 => ?_) (fun c59 => ?_)
          · skip
            have hC : cl (mA (mA (tst M Gm) 42 (fun _ => s2)) 2 f) = lotC (cl M) z k := by show (M 0, M 1, f, M 3, M 4 0) = (M 0, M 1, upTo (M 2) (lotA z k) 12, M 3, M 4 0); rw [hf, show c = 12 by omega]
            have hvb := lotV_bd ok z w k
            have hvu : lotV (cl M) z w k = if w = 0 then pcnt (hbits (goI 20 (lotC (cl M) z k))) else allWear (goI 20 (lotC (cl M) z k)) := rfl
            refine g_aload_n F 3 dX6_lots_81 rfl ?_
            refine g_bipush F dX6_lots_82 (by decide +kernel) ?_
            refine g_callV F (stk := [.int (iI 20), .ref (ma 100)]) (st := []) (k_X6_goYears κ ma (mA (mA (tst M Gm) 42 (fun _ => s2)) 2 f) 20 (show (0 ≤ (20 : Int) ∧ (20 : Int) ≤ 1000) ∧ M 4 0 + 20 ≤ 1000000 by omega) (by rw [hC]; exact lotC_ok ok z k)) cal_X6_goYears lm_X6_184 0 rfl rfl rfl rfl (by decide) rfl (Nat.le_of_ble_eq_true rfl) dX6_lots_84 (fun ws84 _ hr84 => ?_)
            obtain rfl := hr84
            refine g_ws (ws' := mw κ ma (stC (mA (mA (tst M Gm) 42 (fun _ => s2)) 2 f) (goI 20 (cl (mA (mA (tst M Gm) 42 (fun _ => s2)) 2 f))))) rfl ?_
            refine g_iload F 2 dX6_lots_87 rfl ?_
            refine g_iload_n F 6 dX6_lots_89 rfl ?_
            refine g_if_ne F 103 (by omega) dX6_lots_90 (by decide) (fun c90 => ?_) (fun c90 => ?_)
            · skip
              refine g_aload_n F 3 dX6_lots_103 rfl ?_
              refine g_callI F (stk := [.ref (ma 100), .int (iI t)]) (st := [.int (iI t)]) (k_X6_allWear κ ma (stC (mA (mA (tst M Gm) 42 (fun _ => s2)) 2 f) (goI 20 (cl (mA (mA (tst M Gm) 42 (fun _ => s2)) 2 f))))) cal_X6_allWear lm_X6_250 0 rfl rfl rfl rfl (by decide) rfl (Nat.le_of_ble_eq_true rfl) dX6_lots_104 (fun r104 ws104 _ hr104 => ?_)
              obtain ⟨rfl, rfl⟩ := hr104
              refine g_top (y := iI (allWear (goI 20 (cl (mA (mA (tst M Gm) 42 (fun _ => s2)) 2 f))))) rfl ?_
              refine g_iadd F dX6_lots_107 ?_
              refine g_istore F (lv' := [(5, .int (iI (t + (allWear (goI 20 (cl (mA (mA (tst M Gm) 42 (fun _ => s2)) 2 f))))))), (7, .int (iI c)), (6, .int (iI k)), (0, .ref (ma 100)), (1, .int (iI n)), (2, .int (iI z)), (3, .int (iI w))]) dX6_lots_108 (by decide) rfl ?_
              refine g_aload_n F 3 dX6_lots_110 rfl ?_
              refine g_callV F (stk := [.ref (ma 100)]) (st := []) (k_X6_again κ ma (stC (mA (mA (tst M Gm) 42 (fun _ => s2)) 2 f) (goI 20 (cl (mA (mA (tst M Gm) 42 (fun _ => s2)) 2 f)))) M (fun _ _ _ => rfl)) cal_X6_again lm_X6_197 0 rfl rfl rfl rfl (by decide) rfl (Nat.le_of_ble_eq_true rfl) dX6_lots_111 (fun ws111 _ hr111 => ?_)
              obtain rfl := hr111
              refine g_iinc F (lv' := [(6, .int (iI (k + 1))), (5, .int (iI (t + (allWear (goI 20 (cl (mA (mA (tst M Gm) 42 (fun _ => s2)) 2 f))))))), (7, .int (iI c)), (0, .ref (ma 100)), (1, .int (iI n)), (2, .int (iI z)), (3, .int (iI w))]) 2 dX6_lots_114 rfl (by decide) rfl ?_
              refine g_goto F 46 dX6_lots_117 (by decide) ?_
              refine g_sub F (lv' := [(6, .int (iI (k + 1))), (5, .int (iI (t + (allWear (goI 20 (cl (mA (mA (tst M Gm) 42 (fun _ => s2)) 2 f))))))), (0, .ref (ma 100)), (1, .int (iI n)), (2, .int (iI z)), (3, .int (iI w))]) [0, 1, 3, 4, 5, 6] rfl ?_
              refine g_ws (ws' := mw κ ma (mA (tst M (agn (stC (mA (mA (tst M Gm) 42 (fun _ => s2)) 2 f) (goI 20 (cl (mA (mA (tst M Gm) 42 (fun _ => s2)) 2 f)))) M)) 42 (fun _ => s2))) rfl ?_
              exact ih46 _ (by omega) (k + 1) s2 (t + (allWear (goI 20 (cl (mA (mA (tst M Gm) 42 (fun _ => s2)) 2 f))))) (agn (stC (mA (mA (tst M Gm) 42 (fun _ => s2)) 2 f) (goI 20 (cl (mA (mA (tst M Gm) 42 (fun _ => s2)) 2 f)))) M) rfl (by omega) (by rw [hs2, show 12 * (k + 1) = 12 * k + c by omega]) (by rw [sumI_s _ hk.1, ← ht]; unfold lotV; first | rw [if_pos (by omega), ← hC] | rw [if_neg (by omega), ← hC]) (by omega)
            · skip
              refine g_aload_n F 3 dX6_lots_93 rfl ?_
              refine g_callI F (stk := [.ref (ma 100), .int (iI t)]) (st := [.int (iI t)]) (k_X6_holeBits κ ma (stC (mA (mA (tst M Gm) 42 (fun _ => s2)) 2 f) (goI 20 (cl (mA (mA (tst M Gm) 42 (fun _ => s2)) 2 f)))) (by rw [hC]; exact goI_ok (lotC_ok ok z k) 20)) cal_X6_holeBits lm_X6_241 0 rfl rfl rfl rfl (by decide) rfl (Nat.le_of_ble_eq_true rfl) dX6_lots_94 (fun r94 ws94 _ hr94 => ?_)
              obtain ⟨rfl, rfl⟩ := hr94
              refine g_top (y := iI (hbits (goI 20 (cl (mA (mA (tst M Gm) 42 (fun _ => s2)) 2 f))))) rfl ?_
              refine g_callSI F (stk := [.int (iI (hbits (goI 20 (cl (mA (mA (tst M Gm) 42 (fun _ => s2)) 2 f))))), .int (iI t)]) (st := [.int (iI t)]) (k_X6_onesOf κ (mw κ ma (stC (mA (mA (tst M Gm) 42 (fun _ => s2)) 2 f) (goI 20 (cl (mA (mA (tst M Gm) 42 (fun _ => s2)) 2 f))))) (hbits (goI 20 (cl (mA (mA (tst M Gm) 42 (fun _ => s2)) 2 f)))) (hbits_in _)) cal_X6_onesOf lm_X6_244 rfl (by decide) rfl (Nat.le_of_ble_eq_true rfl) dX6_lots_97 (fun r97 ws97 _ hr97 => ?_)
              obtain ⟨rfl, rfl⟩ := hr97
              refine g_goto F 107 dX6_lots_100 (by decide) ?_
              refine g_iadd F dX6_lots_107 ?_
              refine g_istore F (lv' := [(5, .int (iI (t + (pcnt (hbits (goI 20 (cl (mA (mA (tst M Gm) 42 (fun _ => s2)) 2 f)))))))), (7, .int (iI c)), (6, .int (iI k)), (0, .ref (ma 100)), (1, .int (iI n)), (2, .int (iI z)), (3, .int (iI w))]) dX6_lots_108 (by decide) rfl ?_
              refine g_aload_n F 3 dX6_lots_110 rfl ?_
              refine g_callV F (stk := [.ref (ma 100)]) (st := []) (k_X6_again κ ma (stC (mA (mA (tst M Gm) 42 (fun _ => s2)) 2 f) (goI 20 (cl (mA (mA (tst M Gm) 42 (fun _ => s2)) 2 f)))) M (fun _ _ _ => rfl)) cal_X6_again lm_X6_197 0 rfl rfl rfl rfl (by decide) rfl (Nat.le_of_ble_eq_true rfl) dX6_lots_111 (fun ws111 _ hr111 => ?_)
              obtain rfl := hr111
              refine g_iinc F (lv' := [(6, .int (iI (k + 1))), (5, .int (iI (t + (pcnt (hbits (goI 20 (cl (mA (mA (tst M Gm) 42 (fun _ => s2)) 2 f)))))))), (7, .int (iI c)), (0, .ref (ma 100)), (1, .int (iI n)), (2, .int (iI z)), (3, .int (iI w))]) 2 dX6_lots_114 rfl (by decide) rfl ?_
              refine g_goto F 46 dX6_lots_117 (by decide) ?_
              refine g_sub F (lv' := [(6, .int (iI (k + 1))), (5, .int (iI (t + (pcnt (hbits (goI 20 (cl (mA (mA (tst M Gm) 42 (fun _ => s2)) 2 f)))))))), (0, .ref (ma 100)), (1, .int (iI n)), (2, .int (iI z)), (3, .int (iI w))]) [0, 1, 3, 4, 5, 6] rfl ?_
              refine g_ws (ws' := mw κ ma (mA (tst M (agn (stC (mA (mA (tst M Gm) 42 (fun _ => s2)) 2 f) (goI 20 (cl (mA (mA (tst M Gm) 42 (fun _ => s2)) 2 f)))) M)) 42 (fun _ => s2))) rfl ?_
              exact ih46 _ (by omega) (k + 1) s2 (t + (pcnt (hbits (goI 20 (cl (mA (mA (tst M Gm) 42 (fun _ => s2)) 2 f)))))) (agn (stC (mA (mA (tst M Gm) 42 (fun _ => s2)) 2 f) (goI 20 (cl (mA (mA (tst M Gm) 42 (fun _ => s2)) 2 f)))) M) rfl (by omega) (by rw [hs2, show 12 * (k + 1) = 12 * k + c by omega]) (by rw [sumI_s _ hk.1, ← ht]; unfold lotV; first | rw [if_pos (by omega), ← hC] | rw [if_neg (by omega), ← hC]) (by omega)
          · skip
            refine g_aload_n F 3 dX6_lots_62 rfl ?_
            refine gm_get_2 F dX6_lots_63 ?_
            refine g_iload F 0 dX6_lots_66 rfl ?_
            refine g_aload_n F 3 dX6_lots_68 rfl ?_
            refine g_bipush F dX6_lots_69 (by decide +kernel) ?_
            refine g_callI F (stk := [.int (iI 60), .ref (ma 100), .int (iI c), .ref (ma 2)]) (st := [.int (iI c), .ref (ma 2)]) (k_X6_drawBelow κ ma (mA (mA (tst M Gm) 42 (fun _ => s2)) 2 f) 60 (by omega)) cal_X6_drawBelow lm_X6_340 0 rfl rfl rfl rfl (by decide) rfl (Nat.le_of_ble_eq_true rfl) dX6_lots_71 (fun r71 ws71 _ hr71 => ?_)
            obtain ⟨rfl, rfl⟩ := hr71
            refine g_top (y := iI (drw (nxt (s2)) 60)) rfl ?_
            refine g_ws (ws' := mw κ ma (mA (mA (mA (tst M Gm) 42 (fun _ => s2)) 2 f) 42 (fun _ => nxt s2))) rfl ?_
            refine gm_ast_2 F (by omega) dX6_lots_74 ?_
            refine g_ws (ws' := mw κ ma (mA (mA (mA (mA (tst M Gm) 42 (fun _ => s2)) 2 f) 42 (fun _ => nxt s2)) 2 (uI f c (drw (nxt (s2)) 60)))) rfl ?_
            refine g_iinc F (lv' := [(7, .int (iI (c + 1))), (6, .int (iI k)), (5, .int (iI t)), (0, .ref (ma 100)), (1, .int (iI n)), (2, .int (iI z)), (3, .int (iI w))]) 0 dX6_lots_75 rfl (by decide) rfl ?_
            refine g_goto F 55 dX6_lots_78 (by decide) ?_
            refine g_sub F (lv' := [(7, .int (iI (c + 1))), (6, .int (iI k)), (5, .int (iI t)), (0, .ref (ma 100)), (1, .int (iI n)), (2, .int (iI z)), (3, .int (iI w))]) [0, 1, 2, 3, 4, 5, 6] rfl ?_
            refine g_ws (ws' := mw κ ma (mA (mA (tst M Gm) 42 (fun _ => (nxt s2))) 2 (uI f c (drw (nxt (s2)) 60)))) rfl ?_
            exact ih55 _ (by omega) (c + 1) (nxt s2) (uI f c (drw (nxt (s2)) 60)) rfl (by omega) (by rw [hs2, ← sdI_s z (by omega), show 12 * k + c + 1 = 12 * k + (c + 1) by omega]) (by rw [hf, ← upTo_s _ _ hc.1]; unfold lotA; rw [sdI_s z (by omega), hs2])
        refine g_sub F (lv' := [(7, .int (iI 0)), (6, .int (iI k)), (5, .int (iI t)), (0, .ref (ma 100)), (1, .int (iI n)), (2, .int (iI z)), (3, .int (iI w))]) [0, 1, 2, 3, 4, 5, 6] rfl ?_
        refine g_ws (ws' := mw κ ma (mA (mA (tst M Gm) 42 (fun _ => s)) 2 (M 2))) rfl ?_
        exact L55 _ 0 s (M 2) rfl (by omega) (by rw [hs, Int.add_zero]) (upTo_0 _ _).symm
    refine g_sub F (lv' := [(6, .int (iI 0)), (5, .int (iI 0)), (0, .ref (ma 100)), (1, .int (iI n)), (2, .int (iI z)), (3, .int (iI w))]) [0, 1, 3, 4, 5, 6] rfl ?_
    refine g_ws (ws' := mw κ ma (mA (tst M (thk (mA (mA M 10 (fun _ => 0)) 42 (fun _ => z)))) 42 (fun _ => z))) (by unfold thk; rw [snapF_mA (by decide)]; rfl) ?_
    exact L46 _ 0 z 0 (thk (mA (mA M 10 (fun _ => 0)) 42 (fun _ => z))) rfl (by omega) rfl rfl (by omega)
  · skip
    refine g_aload_n F 1 dX6_lots_24 rfl ?_
    refine g_iload F 0 dX6_lots_25 rfl ?_
    refine g_callI F (stk := [.int (iI (wbit (wnum n 1 20) w 1)), .ref (ma 100)]) (st := []) (k_X6_refuse κ ma (mA M 10 (fun _ => 0)) (wbit (wnum n 1 20) w 1) (by omega)) cal_X6_refuse lm_X6_138 0 rfl rfl rfl rfl (by decide) rfl (Nat.le_of_ble_eq_true rfl) dX6_lots_27 (fun r27 ws27 _ hr27 => ?_)
    obtain ⟨rfl, rfl⟩ := hr27
    refine g_top (y := iI (wbit (wnum n 1 20) w 1)) rfl ?_
    refine g_ws (ws' := mw κ ma (mA (mA M 10 (fun _ => 0)) 11 (uI (M 11) (-(wbit (wnum n 1 20) w 1)) (M 11 (-(wbit (wnum n 1 20) w 1)) + 1)))) rfl ?_
    have hq : (wbit (wnum n 1 20) w 1) = qLots (cl M) n z w := by unfold qLots; (repeat' split) <;> omega
    exact K mw_same ⟨_, rfl, iIc hq, ⟨rfl, rfl, rfl, rfl, rfl, rfl, rfl, rfl, rfl, rfl, rfl, rfl, rfl, rfl, rfl, rfl, rfl, rfl⟩, (by rw [← hq]; exact (rfa_r (by omega)).symm)⟩ rfl dX6_lots_30
