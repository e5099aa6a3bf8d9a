/-- the seed after so many draws -/
def sdN (z : Int) : Nat → Int
  | 0 => z
  | n + 1 => nxt (sdN z n)
def sdI (z n : Int) : Int := sdN z n.toNat
theorem sdI_s (z : Int) {n : Int} (h : 0 ≤ n) : sdI z (n + 1) = nxt (sdI z n) := by
  unfold sdI
  rw [show (n + 1).toNat = n.toNat + 1 by omega]
  rfl
def lotA (z k c : Int) : Int := drw (sdI z (12 * k + c + 1)) 60
def lotC (C : Cl) (z k : Int) : Cl := (ki C, fi C, upTo (ag C) (lotA z k) 12, we C, yr C)
def lotV (C : Cl) (z w k : Int) : Int := if w = 0 then pcnt (hbits (goI 20 (lotC C z k))) else allWear (goI 20 (lotC C z k))
def qLots (C : Cl) (n z w : Int) : Int := if n < 1 then -4 else if 20 < n then -6 else if ¬ (0 ≤ w ∧ w ≤ 1) then -2 else sumI (lotV C z w) n
theorem lotA_bd (z k c : Int) : 0 ≤ lotA z k c ∧ lotA z k c ≤ 99 := by unfold lotA drw; omega
theorem lotC_ok {C : Cl} (ok : okC C) (z k : Int) : okC (lotC C z k) := okC.mk ok.k ok.f (fun j a b => by show 0 ≤ upTo (ag C) (lotA z k) 12 j ∧ upTo (ag C) (lotA z k) 12 j ≤ 99; rw [upTo_in a b]; exact lotA_bd z k j) ok.w ok.2
theorem pcN_le2 : ∀ a : Nat, a < 64 → ∀ b : Nat, b < 64 → pcN (64 * a + b) ≤ 12 := by decide +kernel
theorem pcnt_le {z : Int} (h0 : 0 ≤ z) (h : z < 4096) : pcnt z ≤ 12 := by
  have e : 64 * (z.toNat / 64) + z.toNat % 64 = z.toNat := by omega
  have k := pcN_le2 (z.toNat / 64) (by omega) (z.toNat % 64) (by omega)
  rw [e] at k
  unfold pcnt
  omega
theorem lotV_bd {C : Cl} (ok : okC C) (z w k : Int) : 0 ≤ lotV C z w k ∧ lotV C z w k ≤ 1188 := by
  have h1 := pcnt_bd (hbits (goI 20 (lotC C z k)))
  have h2 := pcnt_le (hbits_in (goI 20 (lotC C z k))).1 (hbits_in (goI 20 (lotC C z k))).2
  have h3 := allWear_bd (goI_ok (lotC_ok ok z k) 20)
  unfold lotV
  split <;> omega
theorem dX6_lots_0 : decode cX6_lots 0 = .ok (.aload_n 0, 1) := by decide +kernel
theorem dX6_lots_1 : decode cX6_lots 1 = .ok (.iconst 0, 1) := by decide +kernel
theorem dX6_lots_2 : decode cX6_lots 2 = .ok (.putfield 91, 3) := by decide +kernel
theorem dX6_lots_5 : decode cX6_lots 5 = .ok (.iload_n 1, 1) := by decide +kernel
theorem dX6_lots_6 : decode cX6_lots 6 = .ok (.iconst 1, 1) := by decide +kernel
theorem dX6_lots_7 : decode cX6_lots 7 = .ok (.bipush 20, 2) := by decide +kernel
theorem dX6_lots_9 : decode cX6_lots 9 = .ok (.invokestatic 237, 3) := by decide +kernel
theorem dX6_lots_12 : decode cX6_lots 12 = .ok (.iload_n 3, 1) := by decide +kernel
theorem dX6_lots_13 : decode cX6_lots 13 = .ok (.iconst 1, 1) := by decide +kernel
theorem dX6_lots_14 : decode cX6_lots 14 = .ok (.invokestatic 247, 3) := by decide +kernel
theorem dX6_lots_17 : decode cX6_lots 17 = .ok (.istore 4, 2) := by decide +kernel
theorem dX6_lots_19 : decode cX6_lots 19 = .ok (.iload 4, 2) := by decide +kernel
theorem dX6_lots_21 : decode cX6_lots 21 = .ok (.ifCond .ge 10, 3) := by decide +kernel
theorem dX6_lots_24 : decode cX6_lots 24 = .ok (.aload_n 0, 1) := by decide +kernel
theorem dX6_lots_25 : decode cX6_lots 25 = .ok (.iload 4, 2) := by decide +kernel
theorem dX6_lots_27 : decode cX6_lots 27 = .ok (.invokevirtual 138, 3) := by decide +kernel
theorem dX6_lots_30 : decode cX6_lots 30 = .ok (.ireturn, 1) := by decide +kernel
theorem dX6_lots_31 : decode cX6_lots 31 = .ok (.aload_n 0, 1) := by decide +kernel
theorem dX6_lots_32 : decode cX6_lots 32 = .ok (.iload_n 2, 1) := by decide +kernel
theorem dX6_lots_33 : decode cX6_lots 33 = .ok (.putfield 334, 3) := by decide +kernel
theorem dX6_lots_36 : decode cX6_lots 36 = .ok (.iconst 0, 1) := by decide +kernel
theorem dX6_lots_37 : decode cX6_lots 37 = .ok (.istore 5, 2) := by decide +kernel
theorem dX6_lots_39 : decode cX6_lots 39 = .ok (.aload_n 0, 1) := by decide +kernel
theorem dX6_lots_40 : decode cX6_lots 40 = .ok (.invokevirtual 191, 3) := by decide +kernel
theorem dX6_lots_43 : decode cX6_lots 43 = .ok (.iconst 0, 1) := by decide +kernel
theorem dX6_lots_44 : decode cX6_lots 44 = .ok (.istore 6, 2) := by decide +kernel
theorem dX6_lots_46 : decode cX6_lots 46 = .ok (.iload 6, 2) := by decide +kernel
theorem dX6_lots_48 : decode cX6_lots 48 = .ok (.iload_n 1, 1) := by decide +kernel
theorem dX6_lots_49 : decode cX6_lots 49 = .ok (.if_icmp .ge 71, 3) := by decide +kernel
theorem dX6_lots_52 : decode cX6_lots 52 = .ok (.iconst 0, 1) := by decide +kernel
theorem dX6_lots_53 : decode cX6_lots 53 = .ok (.istore 7, 2) := by decide +kernel
theorem dX6_lots_55 : decode cX6_lots 55 = .ok (.iload 7, 2) := by decide +kernel
theorem dX6_lots_57 : decode cX6_lots 57 = .ok (.bipush 12, 2) := by decide +kernel
theorem dX6_lots_59 : decode cX6_lots 59 = .ok (.if_icmp .ge 22, 3) := by decide +kernel
theorem dX6_lots_62 : decode cX6_lots 62 = .ok (.aload_n 0, 1) := by decide +kernel
theorem dX6_lots_63 : decode cX6_lots 63 = .ok (.getfield 16, 3) := by decide +kernel
theorem dX6_lots_66 : decode cX6_lots 66 = .ok (.iload 7, 2) := by decide +kernel
theorem dX6_lots_68 : decode cX6_lots 68 = .ok (.aload_n 0, 1) := by decide +kernel
theorem dX6_lots_69 : decode cX6_lots 69 = .ok (.bipush 60, 2) := by decide +kernel
theorem dX6_lots_71 : decode cX6_lots 71 = .ok (.invokevirtual 340, 3) := by decide +kernel
theorem dX6_lots_74 : decode cX6_lots 74 = .ok (.iastore, 1) := by decide +kernel
theorem dX6_lots_75 : decode cX6_lots 75 = .ok (.iinc 7 1, 3) := by decide +kernel
theorem dX6_lots_78 : decode cX6_lots 78 = .ok (.goto (-23), 3) := by decide +kernel
theorem dX6_lots_81 : decode cX6_lots 81 = .ok (.aload_n 0, 1) := by decide +kernel
theorem dX6_lots_82 : decode cX6_lots 82 = .ok (.bipush 20, 2) := by decide +kernel
theorem dX6_lots_84 : decode cX6_lots 84 = .ok (.invokevirtual 184, 3) := by decide +kernel
theorem dX6_lots_87 : decode cX6_lots 87 = .ok (.iload 5, 2) := by decide +kernel
theorem dX6_lots_89 : decode cX6_lots 89 = .ok (.iload_n 3, 1) := by decide +kernel
theorem dX6_lots_90 : decode cX6_lots 90 = .ok (.ifCond .ne 13, 3) := by decide +kernel
theorem dX6_lots_93 : decode cX6_lots 93 = .ok (.aload_n 0, 1) := by decide +kernel
theorem dX6_lots_94 : decode cX6_lots 94 = .ok (.invokevirtual 241, 3) := by decide +kernel
theorem dX6_lots_97 : decode cX6_lots 97 = .ok (.invokestatic 244, 3) := by decide +kernel
theorem dX6_lots_100 : decode cX6_lots 100 = .ok (.goto 7, 3) := by decide +kernel
theorem dX6_lots_103 : decode cX6_lots 103 = .ok (.aload_n 0, 1) := by decide +kernel
theorem dX6_lots_104 : decode cX6_lots 104 = .ok (.invokevirtual 250, 3) := by decide +kernel
theorem dX6_lots_107 : decode cX6_lots 107 = .ok (.iadd, 1) := by decide +kernel
theorem dX6_lots_108 : decode cX6_lots 108 = .ok (.istore 5, 2) := by decide +kernel
theorem dX6_lots_110 : decode cX6_lots 110 = .ok (.aload_n 0, 1) := by decide +kernel
theorem dX6_lots_111 : decode cX6_lots 111 = .ok (.invokevirtual 197, 3) := by decide +kernel
theorem dX6_lots_114 : decode cX6_lots 114 = .ok (.iinc 6 1, 3) := by decide +kernel
theorem dX6_lots_117 : decode cX6_lots 117 = .ok (.goto (-71), 3) := by decide +kernel
theorem dX6_lots_120 : decode cX6_lots 120 = .ok (.iload 5, 2) := by decide +kernel
theorem dX6_lots_122 : decode cX6_lots 122 = .ok (.ireturn, 1) := by decide +kernel
set_option maxRecDepth 100000 in
set_option maxHeartbeats 4000000 in
theorem k_X6_lots (κ : Kp) (ma : Nat → Nat) (M : MS) (n : Int) (z : Int) (w : Int)  (ha_n : In32 n) (ha_z : In32 z) (ha_w : In32 w) (ok : okC (cl M)) (hy : M 4 0 ≤ 999) : mI κ yX6_lots cX6_lots 8 .int 6 [.ref (ma 100), .int (iI n), .int (iI z), .int (iI w)] (mw κ ma M) (qM κ ma M (qLots (cl M) n z w)) := by
  refine mI_of (by decide) (Nat.le_of_ble_eq_true rfl) (fun E F K => ?_)
  refine g_lv (lv' := [(0, .ref (ma 100)), (1, .int (iI n)), (2, .int (iI z)), (3, .int (iI w))]) rfl ?_
  obtain ⟨Y, hY⟩ : ∃ Y : Int, Y = 20 := ⟨20, rfl⟩
  refine g_aload_n F 0 dX6_lots_0 rfl ?_
  refine g_iconst F dX6_lots_1 ?_
  refine gm_put_10 F dX6_lots_2 ?_
  refine g_iload_n F 1 dX6_lots_5 rfl ?_
  refine g_iconst F dX6_lots_6 ?_
  refine g_bipush F dX6_lots_7 (by decide +kernel) ?_
  refine g_callSI F (stk := [.int (iI 20), .int (iI 1), .int (iI n)]) (st := []) (k_X6_wrongNumber κ (mw κ ma (mA M 10 (fun _ => 0))) n 1 20 (by omega)) cal_X6_wrongNumber lm_X6_237 rfl (by decide) rfl (Nat.le_of_ble_eq_true rfl) dX6_lots_9 (fun r9 ws9 _ hr9 => ?_)
  obtain ⟨rfl, rfl⟩ := hr9
  have hwn9 := wn_spec n 1 20
  refine g_iload_n F 3 dX6_lots_12 rfl ?_
  refine g_iconst F dX6_lots_13 ?_
  refine g_callSI F (stk := [.int (iI 1), .int (iI w), .int (iI (wnum n 1 20))]) (st := []) (k_X6_wrongBit κ (mw κ ma (mA M 10 (fun _ => 0))) (wnum n 1 20) w 1 (by omega)) cal_X6_wrongBit lm_X6_247 rfl (by decide) rfl (Nat.le_of_ble_eq_true rfl) dX6_lots_14 (fun r14 ws14 _ hr14 => ?_)
  obtain ⟨rfl, rfl⟩ := hr14
  have hwb14 := wb_spec (wnum n 1 20) w 1
  refine g_istore F (lv' := [(4, .int (iI (wbit (wnum n 1 20) w 1))), (0, .ref (ma 100)), (1, .int (iI n)), (2, .int (iI z)), (3, .int (iI w))]) dX6_lots_17 (by decide) rfl ?_
  refine g_iload F 0 dX6_lots_19 rfl ?_
  refine g_if_ge F 31 (by omega) dX6_lots_21 (by decide) (fun c21 => ?_) (fun c21 => ?_)
  · skip
    refine g_aload_n F 1 dX6_lots_31 rfl ?_
    refine g_iload_n F 3 dX6_lots_32 rfl ?_
    refine gm_put_42 F dX6_lots_33 ?_
    refine g_iconst F dX6_lots_36 ?_
    refine g_istore F (lv' := [(5, .int (iI 0)), (4, .int (iI (wbit (wnum n 1 20) w 1))), (0, .ref (ma 100)), (1, .int (iI n)), (2, .int (iI z)), (3, .int (iI w))]) dX6_lots_37 (by decide) rfl ?_
    refine g_aload_n F 2 dX6_lots_39 rfl ?_
    refine g_callV F (stk := [.ref (ma 100)]) (st := []) (k_X6_think κ ma (mA (mA M 10 (fun _ => 0)) 42 (fun _ => z))) cal_X6_think lm_X6_191 0 rfl rfl rfl rfl (by decide) rfl (Nat.le_of_ble_eq_true rfl) dX6_lots_40 (fun ws40 _ hr40 => ?_)
    obtain rfl := hr40
    refine g_ws (ws' := mw κ ma (thk (mA (mA M 10 (fun _ => 0)) 42 (fun _ => z)))) rfl ?_
    refine g_iconst F dX6_lots_43 ?_
    refine g_istore F (lv' := [(6, .int (iI 0)), (5, .int (iI 0)), (4, .int (iI (wbit (wnum n 1 20) w 1))), (0, .ref (ma 100)), (1, .int (iI n)), (2, .int (iI z)), (3, .int (iI w))]) dX6_lots_44 (by decide) rfl ?_
    have L46 : ∀ (mz46 : Nat) (k : Int) (s : Int) (t : Int) (Gm : MS), (n - k).toNat = mz46 → (0 ≤ k ∧ k ≤ n) → (s = sdI z (12 * k)) → (t = sumI (lotV (cl M) z w) k) → (0 ≤ t ∧ t ≤ 1188 * k) → G E (mw κ ma (mA (tst M Gm) 42 (fun _ => s))) [(6, .int (iI k)), (5, .int (iI t)), (0, .ref (ma 100)), (1, .int (iI n)), (2, .int (iI z)), (3, .int (iI w))] 46 [] := by
      intro mz46
      induction mz46 using Nat.strongRecOn with
      | _ mz46 ih46 =>
      intro k s t Gm hmz46 hk hs ht htb
      refine g_iload F 0 dX6_lots_46 rfl ?_
      refine g_iload_n F 3 dX6_lots_48 rfl ?_
      refine g_icmp_ge F 120 (by omega) dX6_lots_49 (by decide) (fun c49 => ?_) (fun c49 => ?_)
      · skip
        refine g_iload F 1 dX6_lots_120 rfl ?_
        have hq : t = qLots (cl M) n z w := by unfold qLots; rw [if_neg (by omega), if_neg (by omega), if_neg (by omega), ht, show k = n by omega]
        exact K mw_same ⟨_, rfl, iIc hq, ⟨rfl, rfl, rfl, rfl, rfl, rfl, rfl, rfl, rfl, rfl, rfl, rfl, rfl, rfl, rfl, rfl, rfl, rfl⟩, (by rw [← hq]; show M 11 = _; exact (rfa_n (by omega)).symm)⟩ rfl dX6_lots_122
      · skip
        refine g_iconst F dX6_lots_52 ?_
        refine g_istore F (lv' := [(7, .int (iI 0)), (6, .int (iI k)), (5, .int (iI t)), (0, .ref (ma 100)), (1, .int (iI n)), (2, .int (iI z)), (3, .int (iI w))]) dX6_lots_53 (by decide) rfl ?_
        have L55 : ∀ (mz55 : Nat) (c : Int) (s2 : Int) (f : Int → Int), (12 - c).toNat = mz55 → (0 ≤ c ∧ c ≤ 12) → (s2 = sdI z (12 * k + c)) → (f = upTo (M 2) (lotA z k) c) → G E (mw κ ma (mA (mA (tst M Gm) 42 (fun _ => s2)) 2 f)) [(7, .int (iI c)), (6, .int (iI k)), (5, .int (iI t)), (0, .ref (ma 100)), (1, .int (iI n)), (2, .int (iI z)), (3, .int (iI w))] 55 [] := by
          intro mz55
          induction mz55 using Nat.strongRecOn with
          | _ mz55 ih55 =>
          intro c s2 f hmz55 hc hs2 hf
          refine g_iload F 0 dX6_lots_55 rfl ?_
          refine g_bipush F dX6_lots_57 (by decide +kernel) ?_
          refine g_icmp_ge F 81 (by omega) dX6_lots_59 (by decide) (fun c59 => ?_) (fun c59 => ?_)
          · skip
            have hC : cl (mA (mA (tst M Gm) 42 (fun _ => s2)) 2 f) = lotC (cl M) z k := by show (M 0, M 1, f, M 3, M 4 0) = (M 0, M 1, upTo (M 2) (lotA z k) 12, M 3, M 4 0); rw [hf, show c = 12 by omega]
            have hvb := lotV_bd ok z w k
            have hvu : lotV (cl M) z w k = if w = 0 then pcnt (hbits (goI Y (lotC (cl M) z k))) else allWear (goI Y (lotC (cl M) z k)) := by rw [hY]; rfl
            refine g_aload_n F 3 dX6_lots_81 rfl ?_
            refine g_bipush F dX6_lots_82 (by decide +kernel) ?_
            refine g_top (y := iI Y) (by rw [hY]) ?_
            refine g_callV F (stk := [.int (iI Y), .ref (ma 100)]) (st := []) (k_X6_goYears κ ma (mA (mA (tst M Gm) 42 (fun _ => s2)) 2 f) Y (show (0 ≤ Y ∧ Y ≤ 1000) ∧ M 4 0 + Y ≤ 1000000 by omega) (by rw [hC]; exact lotC_ok ok z k)) cal_X6_goYears lm_X6_184 0 rfl rfl rfl rfl (by decide) rfl (Nat.le_of_ble_eq_true rfl) dX6_lots_84 (fun ws84 _ hr84 => ?_)
            obtain rfl := hr84
            refine g_ws (ws' := mw κ ma (stC (mA (mA (tst M Gm) 42 (fun _ => s2)) 2 f) (goI Y (cl (mA (mA (tst M Gm) 42 (fun _ => s2)) 2 f))))) rfl ?_
            refine g_iload F 2 dX6_lots_87 rfl ?_
            refine g_iload_n F 6 dX6_lots_89 rfl ?_
            refine g_if_ne F 103 (by omega) dX6_lots_90 (by decide) (fun c90 => ?_) (fun c90 => ?_)
            · skip
              refine g_aload_n F 3 dX6_lots_103 rfl ?_
              refine g_callI F (stk := [.ref (ma 100), .int (iI t)]) (st := [.int (iI t)]) (k_X6_allWear κ ma (stC (mA (mA (tst M Gm) 42 (fun _ => s2)) 2 f) (goI Y (cl (mA (mA (tst M Gm) 42 (fun _ => s2)) 2 f))))) cal_X6_allWear lm_X6_250 0 rfl rfl rfl rfl (by decide) rfl (Nat.le_of_ble_eq_true rfl) dX6_lots_104 (fun r104 ws104 _ hr104 => ?_)
              obtain ⟨rfl, rfl⟩ := hr104
              refine g_top (y := iI (allWear (goI Y (cl (mA (mA (tst M Gm) 42 (fun _ => s2)) 2 f))))) rfl ?_
              refine g_iadd F dX6_lots_107 ?_
              refine g_istore F (lv' := [(5, .int (iI (t + (allWear (goI Y (cl (mA (mA (tst M Gm) 42 (fun _ => s2)) 2 f))))))), (7, .int (iI c)), (6, .int (iI k)), (0, .ref (ma 100)), (1, .int (iI n)), (2, .int (iI z)), (3, .int (iI w))]) dX6_lots_108 (by decide) rfl ?_
              refine g_aload_n F 3 dX6_lots_110 rfl ?_
              refine g_callV F (stk := [.ref (ma 100)]) (st := []) (k_X6_again κ ma (stC (mA (mA (tst M Gm) 42 (fun _ => s2)) 2 f) (goI Y (cl (mA (mA (tst M Gm) 42 (fun _ => s2)) 2 f)))) M (fun _ _ _ => rfl)) cal_X6_again lm_X6_197 0 rfl rfl rfl rfl (by decide) rfl (Nat.le_of_ble_eq_true rfl) dX6_lots_111 (fun ws111 _ hr111 => ?_)
              obtain rfl := hr111
              refine g_iinc F (lv' := [(6, .int (iI (k + 1))), (5, .int (iI (t + (allWear (goI Y (cl (mA (mA (tst M Gm) 42 (fun _ => s2)) 2 f))))))), (7, .int (iI c)), (0, .ref (ma 100)), (1, .int (iI n)), (2, .int (iI z)), (3, .int (iI w))]) 2 dX6_lots_114 rfl (by decide) rfl ?_
              refine g_goto F 46 dX6_lots_117 (by decide) ?_
              refine g_sub F (lv' := [(6, .int (iI (k + 1))), (5, .int (iI (t + (allWear (goI Y (cl (mA (mA (tst M Gm) 42 (fun _ => s2)) 2 f))))))), (0, .ref (ma 100)), (1, .int (iI n)), (2, .int (iI z)), (3, .int (iI w))]) [0, 1, 3, 4, 5, 6] rfl ?_
              refine g_ws (ws' := mw κ ma (mA (tst M (agn (stC (mA (mA (tst M Gm) 42 (fun _ => s2)) 2 f) (goI Y (cl (mA (mA (tst M Gm) 42 (fun _ => s2)) 2 f)))) M)) 42 (fun _ => s2))) rfl ?_
              exact ih46 _ (by omega) (k + 1) s2 (t + (allWear (goI Y (cl (mA (mA (tst M Gm) 42 (fun _ => s2)) 2 f))))) (agn (stC (mA (mA (tst M Gm) 42 (fun _ => s2)) 2 f) (goI Y (cl (mA (mA (tst M Gm) 42 (fun _ => s2)) 2 f)))) M) rfl (by omega) (by rw [hs2, show 12 * (k + 1) = 12 * k + c by omega]) (by rw [sumI_s _ hk.1, ← ht, hvu]; first | rw [if_pos (by omega), ← hC] | rw [if_neg (by omega), ← hC]) (by rw [hC]; first | (rw [if_pos (by omega)] at hvu; omega) | (rw [if_neg (by omega)] at hvu; omega))
            · skip
              refine g_aload_n F 3 dX6_lots_93 rfl ?_
              refine g_callI F (stk := [.ref (ma 100), .int (iI t)]) (st := [.int (iI t)]) (k_X6_holeBits κ ma (stC (mA (mA (tst M Gm) 42 (fun _ => s2)) 2 f) (goI Y (cl (mA (mA (tst M Gm) 42 (fun _ => s2)) 2 f)))) (by rw [hC]; exact goI_ok (lotC_ok ok z k) Y)) cal_X6_holeBits lm_X6_241 0 rfl rfl rfl rfl (by decide) rfl (Nat.le_of_ble_eq_true rfl) dX6_lots_94 (fun r94 ws94 _ hr94 => ?_)
              obtain ⟨rfl, rfl⟩ := hr94
              refine g_top (y := iI (hbits (goI Y (cl (mA (mA (tst M Gm) 42 (fun _ => s2)) 2 f))))) rfl ?_
              refine g_callSI F (stk := [.int (iI (hbits (goI Y (cl (mA (mA (tst M Gm) 42 (fun _ => s2)) 2 f))))), .int (iI t)]) (st := [.int (iI t)]) (k_X6_onesOf κ (mw κ ma (stC (mA (mA (tst M Gm) 42 (fun _ => s2)) 2 f) (goI Y (cl (mA (mA (tst M Gm) 42 (fun _ => s2)) 2 f))))) (hbits (goI Y (cl (mA (mA (tst M Gm) 42 (fun _ => s2)) 2 f)))) (hbits_in _)) cal_X6_onesOf lm_X6_244 rfl (by decide) rfl (Nat.le_of_ble_eq_true rfl) dX6_lots_97 (fun r97 ws97 _ hr97 => ?_)
              obtain ⟨rfl, rfl⟩ := hr97
              refine g_goto F 107 dX6_lots_100 (by decide) ?_
              refine g_iadd F dX6_lots_107 ?_
              refine g_istore F (lv' := [(5, .int (iI (t + (pcnt (hbits (goI Y (cl (mA (mA (tst M Gm) 42 (fun _ => s2)) 2 f)))))))), (7, .int (iI c)), (6, .int (iI k)), (0, .ref (ma 100)), (1, .int (iI n)), (2, .int (iI z)), (3, .int (iI w))]) dX6_lots_108 (by decide) rfl ?_
              refine g_aload_n F 3 dX6_lots_110 rfl ?_
              refine g_callV F (stk := [.ref (ma 100)]) (st := []) (k_X6_again κ ma (stC (mA (mA (tst M Gm) 42 (fun _ => s2)) 2 f) (goI Y (cl (mA (mA (tst M Gm) 42 (fun _ => s2)) 2 f)))) M (fun _ _ _ => rfl)) cal_X6_again lm_X6_197 0 rfl rfl rfl rfl (by decide) rfl (Nat.le_of_ble_eq_true rfl) dX6_lots_111 (fun ws111 _ hr111 => ?_)
              obtain rfl := hr111
              refine g_iinc F (lv' := [(6, .int (iI (k + 1))), (5, .int (iI (t + (pcnt (hbits (goI Y (cl (mA (mA (tst M Gm) 42 (fun _ => s2)) 2 f)))))))), (7, .int (iI c)), (0, .ref (ma 100)), (1, .int (iI n)), (2, .int (iI z)), (3, .int (iI w))]) 2 dX6_lots_114 rfl (by decide) rfl ?_
              refine g_goto F 46 dX6_lots_117 (by decide) ?_
              refine g_sub F (lv' := [(6, .int (iI (k + 1))), (5, .int (iI (t + (pcnt (hbits (goI Y (cl (mA (mA (tst M Gm) 42 (fun _ => s2)) 2 f)))))))), (0, .ref (ma 100)), (1, .int (iI n)), (2, .int (iI z)), (3, .int (iI w))]) [0, 1, 3, 4, 5, 6] rfl ?_
              refine g_ws (ws' := mw κ ma (mA (tst M (agn (stC (mA (mA (tst M Gm) 42 (fun _ => s2)) 2 f) (goI Y (cl (mA (mA (tst M Gm) 42 (fun _ => s2)) 2 f)))) M)) 42 (fun _ => s2))) rfl ?_
              exact ih46 _ (by omega) (k + 1) s2 (t + (pcnt (hbits (goI Y (cl (mA (mA (tst M Gm) 42 (fun _ => s2)) 2 f)))))) (agn (stC (mA (mA (tst M Gm) 42 (fun _ => s2)) 2 f) (goI Y (cl (mA (mA (tst M Gm) 42 (fun _ => s2)) 2 f)))) M) rfl (by omega) (by rw [hs2, show 12 * (k + 1) = 12 * k + c by omega]) (by rw [sumI_s _ hk.1, ← ht, hvu]; first | rw [if_pos (by omega), ← hC] | rw [if_neg (by omega), ← hC]) (by rw [hC]; first | (rw [if_pos (by omega)] at hvu; omega) | (rw [if_neg (by omega)] at hvu; omega))
          · skip
            refine g_aload_n F 3 dX6_lots_62 rfl ?_
            refine gm_get_2 F dX6_lots_63 ?_
            refine g_iload F 0 dX6_lots_66 rfl ?_
            refine g_aload_n F 3 dX6_lots_68 rfl ?_
            refine g_bipush F dX6_lots_69 (by decide +kernel) ?_
            refine g_callI F (stk := [.int (iI 60), .ref (ma 100), .int (iI c), .ref (ma 2)]) (st := [.int (iI c), .ref (ma 2)]) (k_X6_drawBelow κ ma (mA (mA (tst M Gm) 42 (fun _ => s2)) 2 f) 60 (by omega)) cal_X6_drawBelow lm_X6_340 0 rfl rfl rfl rfl (by decide) rfl (Nat.le_of_ble_eq_true rfl) dX6_lots_71 (fun r71 ws71 _ hr71 => ?_)
            obtain ⟨rfl, rfl⟩ := hr71
            refine g_top (y := iI (drw (nxt (s2)) 60)) rfl ?_
            refine g_ws (ws' := mw κ ma (mA (mA (mA (tst M Gm) 42 (fun _ => s2)) 2 f) 42 (fun _ => nxt s2))) rfl ?_
            refine gm_ast_2 F (by omega) dX6_lots_74 ?_
            refine g_ws (ws' := mw κ ma (mA (mA (mA (mA (tst M Gm) 42 (fun _ => s2)) 2 f) 42 (fun _ => nxt s2)) 2 (uI f c (drw (nxt (s2)) 60)))) rfl ?_
            refine g_iinc F (lv' := [(7, .int (iI (c + 1))), (6, .int (iI k)), (5, .int (iI t)), (0, .ref (ma 100)), (1, .int (iI n)), (2, .int (iI z)), (3, .int (iI w))]) 0 dX6_lots_75 rfl (by decide) rfl ?_
            refine g_goto F 55 dX6_lots_78 (by decide) ?_
            refine g_sub F (lv' := [(7, .int (iI (c + 1))), (6, .int (iI k)), (5, .int (iI t)), (0, .ref (ma 100)), (1, .int (iI n)), (2, .int (iI z)), (3, .int (iI w))]) [0, 1, 2, 3, 4, 5, 6] rfl ?_
            refine g_ws (ws' := mw κ ma (mA (mA (tst M Gm) 42 (fun _ => (nxt s2))) 2 (uI f c (drw (nxt (s2)) 60)))) rfl ?_
            exact ih55 _ (by omega) (c + 1) (nxt s2) (uI f c (drw (nxt (s2)) 60)) rfl (by omega) (by rw [hs2, ← sdI_s z (by omega), show 12 * k + c + 1 = 12 * k + (c + 1) by omega]) (by rw [hf, ← upTo_s _ _ hc.1]; unfold lotA; rw [sdI_s z (by omega), hs2])
        refine g_sub F (lv' := [(7, .int (iI 0)), (6, .int (iI k)), (5, .int (iI t)), (0, .ref (ma 100)), (1, .int (iI n)), (2, .int (iI z)), (3, .int (iI w))]) [0, 1, 2, 3, 4, 5, 6] rfl ?_
        refine g_ws (ws' := mw κ ma (mA (mA (tst M Gm) 42 (fun _ => s)) 2 (M 2))) rfl ?_
        exact L55 _ 0 s (M 2) rfl (by omega) (by rw [hs, Int.add_zero]) (upTo_0 _ _).symm
    refine g_sub F (lv' := [(6, .int (iI 0)), (5, .int (iI 0)), (0, .ref (ma 100)), (1, .int (iI n)), (2, .int (iI z)), (3, .int (iI w))]) [0, 1, 3, 4, 5, 6] rfl ?_
    refine g_ws (ws' := mw κ ma (mA (tst M (thk (mA (mA M 10 (fun _ => 0)) 42 (fun _ => z)))) 42 (fun _ => z))) (by unfold thk; rw [snapF_mA (by decide), snapF_mA (by decide)]; rfl) ?_
    exact L46 _ 0 z 0 (thk (mA (mA M 10 (fun _ => 0)) 42 (fun _ => z))) rfl (by omega) rfl rfl (by omega)
  · skip
    refine g_aload_n F 1 dX6_lots_24 rfl ?_
    refine g_iload F 0 dX6_lots_25 rfl ?_
    refine g_callI F (stk := [.int (iI (wbit (wnum n 1 20) w 1)), .ref (ma 100)]) (st := []) (k_X6_refuse κ ma (mA M 10 (fun _ => 0)) (wbit (wnum n 1 20) w 1) (by omega)) cal_X6_refuse lm_X6_138 0 rfl rfl rfl rfl (by decide) rfl (Nat.le_of_ble_eq_true rfl) dX6_lots_27 (fun r27 ws27 _ hr27 => ?_)
    obtain ⟨rfl, rfl⟩ := hr27
    refine g_top (y := iI (wbit (wnum n 1 20) w 1)) rfl ?_
    refine g_ws (ws' := mw κ ma (mA (mA M 10 (fun _ => 0)) 11 (uI (M 11) (-(wbit (wnum n 1 20) w 1)) (M 11 (-(wbit (wnum n 1 20) w 1)) + 1)))) rfl ?_
    have hq : (wbit (wnum n 1 20) w 1) = qLots (cl M) n z w := by unfold qLots; (repeat' split) <;> omega
    exact K mw_same ⟨_, rfl, iIc hq, ⟨rfl, rfl, rfl, rfl, rfl, rfl, rfl, rfl, rfl, rfl, rfl, rfl, rfl, rfl, rfl, rfl, rfl, rfl⟩, (by rw [← hq]; exact (rfa_r (by omega)).symm)⟩ rfl dX6_lots_30
theorem dX5_lots_0 : decode cX5_lots 0 = .ok (.iload_n 1, 1) := by decide +kernel
theorem dX5_lots_1 : decode cX5_lots 1 = .ok (.iconst 1, 1) := by decide +kernel
theorem dX5_lots_2 : decode cX5_lots 2 = .ok (.if_icmp .ge 10, 3) := by decide +kernel
theorem dX5_lots_5 : decode cX5_lots 5 = .ok (.aload_n 0, 1) := by decide +kernel
theorem dX5_lots_6 : decode cX5_lots 6 = .ok (.bipush (-4), 2) := by decide +kernel
theorem dX5_lots_8 : decode cX5_lots 8 = .ok (.invokevirtual 69, 3) := by decide +kernel
theorem dX5_lots_11 : decode cX5_lots 11 = .ok (.ireturn, 1) := by decide +kernel
theorem dX5_lots_12 : decode cX5_lots 12 = .ok (.iload_n 1, 1) := by decide +kernel
theorem dX5_lots_13 : decode cX5_lots 13 = .ok (.bipush 20, 2) := by decide +kernel
theorem dX5_lots_15 : decode cX5_lots 15 = .ok (.if_icmp .le 10, 3) := by decide +kernel
theorem dX5_lots_18 : decode cX5_lots 18 = .ok (.aload_n 0, 1) := by decide +kernel
theorem dX5_lots_19 : decode cX5_lots 19 = .ok (.bipush (-6), 2) := by decide +kernel
theorem dX5_lots_21 : decode cX5_lots 21 = .ok (.invokevirtual 69, 3) := by decide +kernel
theorem dX5_lots_24 : decode cX5_lots 24 = .ok (.ireturn, 1) := by decide +kernel
theorem dX5_lots_25 : decode cX5_lots 25 = .ok (.iload_n 3, 1) := by decide +kernel
theorem dX5_lots_26 : decode cX5_lots 26 = .ok (.ifCond .lt 8, 3) := by decide +kernel
theorem dX5_lots_29 : decode cX5_lots 29 = .ok (.iload_n 3, 1) := by decide +kernel
theorem dX5_lots_30 : decode cX5_lots 30 = .ok (.iconst 1, 1) := by decide +kernel
theorem dX5_lots_31 : decode cX5_lots 31 = .ok (.if_icmp .le 10, 3) := by decide +kernel
theorem dX5_lots_34 : decode cX5_lots 34 = .ok (.aload_n 0, 1) := by decide +kernel
theorem dX5_lots_35 : decode cX5_lots 35 = .ok (.bipush (-2), 2) := by decide +kernel
theorem dX5_lots_37 : decode cX5_lots 37 = .ok (.invokevirtual 69, 3) := by decide +kernel
theorem dX5_lots_40 : decode cX5_lots 40 = .ok (.ireturn, 1) := by decide +kernel
theorem dX5_lots_41 : decode cX5_lots 41 = .ok (.iload_n 2, 1) := by decide +kernel
theorem dX5_lots_42 : decode cX5_lots 42 = .ok (.istore 4, 2) := by decide +kernel
theorem dX5_lots_44 : decode cX5_lots 44 = .ok (.iconst 0, 1) := by decide +kernel
theorem dX5_lots_45 : decode cX5_lots 45 = .ok (.istore 5, 2) := by decide +kernel
theorem dX5_lots_47 : decode cX5_lots 47 = .ok (.iconst 0, 1) := by decide +kernel
theorem dX5_lots_48 : decode cX5_lots 48 = .ok (.istore 6, 2) := by decide +kernel
theorem dX5_lots_50 : decode cX5_lots 50 = .ok (.iload 6, 2) := by decide +kernel
theorem dX5_lots_52 : decode cX5_lots 52 = .ok (.iload_n 1, 1) := by decide +kernel
theorem dX5_lots_53 : decode cX5_lots 53 = .ok (.if_icmp .ge 108, 3) := by decide +kernel
theorem dX5_lots_56 : decode cX5_lots 56 = .ok (.aload_n 0, 1) := by decide +kernel
theorem dX5_lots_57 : decode cX5_lots 57 = .ok (.getfield 50, 3) := by decide +kernel
theorem dX5_lots_60 : decode cX5_lots 60 = .ok (.aload_n 0, 1) := by decide +kernel
theorem dX5_lots_61 : decode cX5_lots 61 = .ok (.getfield 10, 3) := by decide +kernel
theorem dX5_lots_64 : decode cX5_lots 64 = .ok (.invokevirtual 88, 3) := by decide +kernel
theorem dX5_lots_67 : decode cX5_lots 67 = .ok (.iconst 0, 1) := by decide +kernel
theorem dX5_lots_68 : decode cX5_lots 68 = .ok (.istore 7, 2) := by decide +kernel
theorem dX5_lots_70 : decode cX5_lots 70 = .ok (.iload 7, 2) := by decide +kernel
theorem dX5_lots_72 : decode cX5_lots 72 = .ok (.bipush 12, 2) := by decide +kernel
theorem dX5_lots_74 : decode cX5_lots 74 = .ok (.if_icmp .ge 43, 3) := by decide +kernel
theorem dX5_lots_77 : decode cX5_lots 77 = .ok (.iload 4, 2) := by decide +kernel
theorem dX5_lots_79 : decode cX5_lots 79 = .ok (.ldc_w 334, 3) := by decide +kernel
theorem dX5_lots_82 : decode cX5_lots 82 = .ok (.imul, 1) := by decide +kernel
theorem dX5_lots_83 : decode cX5_lots 83 = .ok (.sipush 12345, 3) := by decide +kernel
theorem dX5_lots_86 : decode cX5_lots 86 = .ok (.iadd, 1) := by decide +kernel
theorem dX5_lots_87 : decode cX5_lots 87 = .ok (.istore 4, 2) := by decide +kernel
theorem dX5_lots_89 : decode cX5_lots 89 = .ok (.aload_n 0, 1) := by decide +kernel
theorem dX5_lots_90 : decode cX5_lots 90 = .ok (.getfield 50, 3) := by decide +kernel
theorem dX5_lots_93 : decode cX5_lots 93 = .ok (.getfield 175, 3) := by decide +kernel
theorem dX5_lots_96 : decode cX5_lots 96 = .ok (.iload 7, 2) := by decide +kernel
theorem dX5_lots_98 : decode cX5_lots 98 = .ok (.iload 4, 2) := by decide +kernel
theorem dX5_lots_100 : decode cX5_lots 100 = .ok (.ldc 234, 2) := by decide +kernel
theorem dX5_lots_102 : decode cX5_lots 102 = .ok (.iand, 1) := by decide +kernel
theorem dX5_lots_103 : decode cX5_lots 103 = .ok (.ldc_w 335, 3) := by decide +kernel
theorem dX5_lots_106 : decode cX5_lots 106 = .ok (.idiv, 1) := by decide +kernel
theorem dX5_lots_107 : decode cX5_lots 107 = .ok (.bipush 60, 2) := by decide +kernel
theorem dX5_lots_109 : decode cX5_lots 109 = .ok (.irem, 1) := by decide +kernel
theorem dX5_lots_110 : decode cX5_lots 110 = .ok (.iastore, 1) := by decide +kernel
theorem dX5_lots_111 : decode cX5_lots 111 = .ok (.iinc 7 1, 3) := by decide +kernel
theorem dX5_lots_114 : decode cX5_lots 114 = .ok (.goto (-44), 3) := by decide +kernel
theorem dX5_lots_117 : decode cX5_lots 117 = .ok (.aload_n 0, 1) := by decide +kernel
theorem dX5_lots_118 : decode cX5_lots 118 = .ok (.getfield 50, 3) := by decide +kernel
theorem dX5_lots_121 : decode cX5_lots 121 = .ok (.bipush 20, 2) := by decide +kernel
theorem dX5_lots_123 : decode cX5_lots 123 = .ok (.invokevirtual 166, 3) := by decide +kernel
theorem dX5_lots_126 : decode cX5_lots 126 = .ok (.iload 5, 2) := by decide +kernel
theorem dX5_lots_128 : decode cX5_lots 128 = .ok (.iload_n 3, 1) := by decide +kernel
theorem dX5_lots_129 : decode cX5_lots 129 = .ok (.ifCond .ne 16, 3) := by decide +kernel
theorem dX5_lots_132 : decode cX5_lots 132 = .ok (.aload_n 0, 1) := by decide +kernel
theorem dX5_lots_133 : decode cX5_lots 133 = .ok (.getfield 50, 3) := by decide +kernel
theorem dX5_lots_136 : decode cX5_lots 136 = .ok (.invokevirtual 203, 3) := by decide +kernel
theorem dX5_lots_139 : decode cX5_lots 139 = .ok (.invokestatic 206, 3) := by decide +kernel
theorem dX5_lots_142 : decode cX5_lots 142 = .ok (.goto 10, 3) := by decide +kernel
theorem dX5_lots_145 : decode cX5_lots 145 = .ok (.aload_n 0, 1) := by decide +kernel
theorem dX5_lots_146 : decode cX5_lots 146 = .ok (.getfield 50, 3) := by decide +kernel
theorem dX5_lots_149 : decode cX5_lots 149 = .ok (.invokevirtual 218, 3) := by decide +kernel
theorem dX5_lots_152 : decode cX5_lots 152 = .ok (.iadd, 1) := by decide +kernel
theorem dX5_lots_153 : decode cX5_lots 153 = .ok (.istore 5, 2) := by decide +kernel
theorem dX5_lots_155 : decode cX5_lots 155 = .ok (.iinc 6 1, 3) := by decide +kernel
theorem dX5_lots_158 : decode cX5_lots 158 = .ok (.goto (-108), 3) := by decide +kernel
theorem dX5_lots_161 : decode cX5_lots 161 = .ok (.iload 5, 2) := by decide +kernel
theorem dX5_lots_163 : decode cX5_lots 163 = .ok (.ireturn, 1) := by decide +kernel
set_option maxRecDepth 100000 in
set_option maxHeartbeats 4000000 in
theorem k_X5_lots (κ : Kp) (xa : Nat → Nat → Nat) (X : XS) (n : Int) (z : Int) (w : Int)  (ha_n : In32 n) (ha_z : In32 z) (ha_w : In32 w) (ok : okC (cl (X 0))) (hy : X 0 4 0 ≤ 999) : mI κ yX5_lots cX5_lots 8 .int 5 [.ref (xa 18 100), .int (iI n), .int (iI z), .int (iI w)] (xw κ xa X) (qX κ xa X (qLots (cl (X 0)) n z w)) := by
  refine mI_of (by decide) (Nat.le_of_ble_eq_true rfl) (fun E F K => ?_)
  refine g_lv (lv' := [(0, .ref (xa 18 100)), (1, .int (iI n)), (2, .int (iI z)), (3, .int (iI w))]) rfl ?_
  obtain ⟨Y, hY⟩ : ∃ Y : Int, Y = 20 := ⟨20, rfl⟩
  refine g_iload_n F 1 dX5_lots_0 rfl ?_
  refine g_iconst F dX5_lots_1 ?_
  refine g_icmp_ge F 12 (by omega) dX5_lots_2 (by decide) (fun c2 => ?_) (fun c2 => ?_)
  · skip
    refine g_iload_n F 1 dX5_lots_12 rfl ?_
    refine g_bipush F dX5_lots_13 (by decide +kernel) ?_
    refine g_icmp_le F 25 (by omega) dX5_lots_15 (by decide) (fun c15 => ?_) (fun c15 => ?_)
    · skip
      refine g_iload_n F 3 dX5_lots_25 rfl ?_
      refine g_if_lt F 34 (by omega) dX5_lots_26 (by decide) (fun c26 => ?_) (fun c26 => ?_)
      · skip
        refine g_aload_n F 0 dX5_lots_34 rfl ?_
        refine g_bipush F dX5_lots_35 (by decide +kernel) ?_
        refine g_callI F (stk := [.int (iI (-2)), .ref (xa 18 100)]) (st := []) (k_X5_refuse κ xa X (-2) (by omega)) cal_X5_refuse lm_X5_69 81 rfl rfl rfl rfl (by decide) rfl (Nat.le_of_ble_eq_true rfl) dX5_lots_37 (fun r37 ws37 _ hr37 => ?_)
        obtain ⟨rfl, rfl⟩ := hr37
        have hq : (-2) = qLots (cl (X 0)) n z w := by unfold qLots; (repeat' split) <;> omega
        exact K xw_same ⟨_, rfl, iIc hq, (sX_18 sX_0 rfl rfl rfl), (by rw [← hq]; exact (rfa_r (by omega)).symm)⟩ rfl dX5_lots_40
      · skip
        refine g_iload_n F 3 dX5_lots_29 rfl ?_
        refine g_iconst F dX5_lots_30 ?_
        refine g_icmp_le F 41 (by omega) dX5_lots_31 (by decide) (fun c31 => ?_) (fun c31 => ?_)
        · skip
          refine g_iload_n F 2 dX5_lots_41 rfl ?_
          refine g_istore F (lv' := [(4, .int (iI z)), (0, .ref (xa 18 100)), (1, .int (iI n)), (2, .int (iI z)), (3, .int (iI w))]) dX5_lots_42 (by decide) rfl ?_
          refine g_iconst F dX5_lots_44 ?_
          refine g_istore F (lv' := [(5, .int (iI 0)), (4, .int (iI z)), (0, .ref (xa 18 100)), (1, .int (iI n)), (2, .int (iI z)), (3, .int (iI w))]) dX5_lots_45 (by decide) rfl ?_
          refine g_iconst F dX5_lots_47 ?_
          refine g_istore F (lv' := [(6, .int (iI 0)), (5, .int (iI 0)), (4, .int (iI z)), (0, .ref (xa 18 100)), (1, .int (iI n)), (2, .int (iI z)), (3, .int (iI w))]) dX5_lots_48 (by decide) rfl ?_
          have L50 : ∀ (mz50 : Nat) (k : Int) (s : Int) (t : Int) (D : MS), (n - k).toNat = mz50 → (0 ≤ k ∧ k ≤ n) → (s = sdI z (12 * k)) → (t = sumI (lotV (cl (X 0)) z w) k) → (0 ≤ t ∧ t ≤ 1188 * k) → G E (xw κ xa (setO X 2 D)) [(6, .int (iI k)), (5, .int (iI t)), (4, .int (iI s)), (0, .ref (xa 18 100)), (1, .int (iI n)), (2, .int (iI z)), (3, .int (iI w))] 50 [] := by
            intro mz50
            induction mz50 using Nat.strongRecOn with
            | _ mz50 ih50 =>
            intro k s t D hmz50 hk hs ht htb
            refine g_iload F 0 dX5_lots_50 rfl ?_
            refine g_iload_n F 4 dX5_lots_52 rfl ?_
            refine g_icmp_ge F 161 (by omega) dX5_lots_53 (by decide) (fun c53 => ?_) (fun c53 => ?_)
            · skip
              refine g_iload F 1 dX5_lots_161 rfl ?_
              have hq : t = qLots (cl (X 0)) n z w := by unfold qLots; rw [if_neg (by omega), if_neg (by omega), if_neg (by omega), ht, show k = n by omega]
              exact K xw_same ⟨_, rfl, iIc hq, (sX_o sX_0 (by decide)), (by rw [← hq]; exact (rfa_n (by omega)).symm)⟩ rfl dX5_lots_163
            · skip
              refine g_aload_n F 3 dX5_lots_56 rfl ?_
              refine g18_get_10 F  lf_X5_50 dX5_lots_57 ?_
              refine g_aload_n F 3 dX5_lots_60 rfl ?_
              refine g18_get_0 F  lf_X5_10 dX5_lots_61 ?_
              refine g_callNV F (stk := [.ref (xa 0 100), .ref (xa 2 100)]) (st := []) (k_X0_become κ xa (setO X 2 D) 2 (by decide) 0 (by decide) (by decide)) cal_X0_become nm_X5_88 10 rfl rfl rfl rfl (by decide) rfl (Nat.le_of_ble_eq_true rfl) dX5_lots_64 (fun ws64 _ hr64 => ?_)
              obtain rfl := hr64
              refine g_ws (ws' := xw κ xa (setO X 2 (stC D (cl (X 0))))) rfl ?_
              refine g_iconst F dX5_lots_67 ?_
              refine g_istore F (lv' := [(7, .int (iI 0)), (6, .int (iI k)), (5, .int (iI t)), (4, .int (iI s)), (0, .ref (xa 18 100)), (1, .int (iI n)), (2, .int (iI z)), (3, .int (iI w))]) dX5_lots_68 (by decide) rfl ?_
              have L70 : ∀ (mz70 : Nat) (c : Int) (s2 : Int) (f : Int → Int), (12 - c).toNat = mz70 → (0 ≤ c ∧ c ≤ 12) → (s2 = sdI z (12 * k + c)) → (f = upTo (X 0 2) (lotA z k) c) → G E (xw κ xa (setO X 2 (mA (stC D (cl (X 0))) 2 f))) [(7, .int (iI c)), (6, .int (iI k)), (5, .int (iI t)), (4, .int (iI s2)), (0, .ref (xa 18 100)), (1, .int (iI n)), (2, .int (iI z)), (3, .int (iI w))] 70 [] := by
                intro mz70
                induction mz70 using Nat.strongRecOn with
                | _ mz70 ih70 =>
                intro c s2 f hmz70 hc hs2 hf
                refine g_iload F 0 dX5_lots_70 rfl ?_
                refine g_bipush F dX5_lots_72 (by decide +kernel) ?_
                refine g_icmp_ge F 117 (by omega) dX5_lots_74 (by decide) (fun c74 => ?_) (fun c74 => ?_)
                · skip
                  have hC : cl (mA (stC D (cl (X 0))) 2 f) = lotC (cl (X 0)) z k := by show (X 0 0, X 0 1, f, X 0 3, X 0 4 0) = (X 0 0, X 0 1, upTo (X 0 2) (lotA z k) 12, X 0 3, X 0 4 0); rw [hf, show c = 12 by omega]
                  have hvb := lotV_bd ok z w k
                  have hvu : lotV (cl (X 0)) z w k = if w = 0 then pcnt (hbits (goI Y (lotC (cl (X 0)) z k))) else allWear (goI Y (lotC (cl (X 0)) z k)) := by rw [hY]; rfl
                  refine g_aload_n F 4 dX5_lots_117 rfl ?_
                  refine g18_get_10 F  lf_X5_50 dX5_lots_118 ?_
                  refine g_bipush F dX5_lots_121 (by decide +kernel) ?_
                  refine g_top (y := iI Y) (by rw [hY]) ?_
                  refine g_callNV F (stk := [.int (iI Y), .ref (xa 2 100)]) (st := []) (kS_X0_goOn κ xa X 2 (by decide) (mA (stC D (cl (X 0))) 2 f) Y (show (0 ≤ Y ∧ Y ≤ 1000) ∧ X 0 4 0 + Y ≤ 1000000 by omega) (by rw [hC]; exact lotC_ok ok z k)) cal_X0_goOn nm_X5_166 10 rfl rfl rfl rfl (by decide) rfl (Nat.le_of_ble_eq_true rfl) dX5_lots_123 (fun ws123 _ hr123 => ?_)
                  obtain rfl := hr123
                  refine g_ws (ws' := xw κ xa (setO X 2 (stC (mA (stC D (cl (X 0))) 2 f) (goI Y (cl (mA (stC D (cl (X 0))) 2 f)))))) rfl ?_
                  refine g_iload F 2 dX5_lots_126 rfl ?_
                  refine g_iload_n F 7 dX5_lots_128 rfl ?_
                  refine g_if_ne F 145 (by omega) dX5_lots_129 (by decide) (fun c129 => ?_) (fun c129 => ?_)
                  · skip
                    refine g_aload_n F 4 dX5_lots_145 rfl ?_
                    refine g18_get_10 F  lf_X5_50 dX5_lots_146 ?_
                    refine g_callNI F (stk := [.ref (xa 2 100), .int (iI t)]) (st := [.int (iI t)]) (kS_X0_wearTogether κ xa X 2 (by decide) (stC (mA (stC D (cl (X 0))) 2 f) (goI Y (cl (mA (stC D (cl (X 0))) 2 f))))) cal_X0_wearTogether nm_X5_218 10 rfl rfl rfl rfl (by decide) rfl (Nat.le_of_ble_eq_true rfl) dX5_lots_149 (fun r149 ws149 _ hr149 => ?_)
                    obtain ⟨rfl, rfl⟩ := hr149
                    refine g_top (y := iI (allWear (goI Y (cl (mA (stC D (cl (X 0))) 2 f))))) rfl ?_
                    refine g_iadd F dX5_lots_152 ?_
                    refine g_istore F (lv' := [(5, .int (iI (t + (allWear (goI Y (cl (mA (stC D (cl (X 0))) 2 f))))))), (7, .int (iI c)), (6, .int (iI k)), (4, .int (iI s2)), (0, .ref (xa 18 100)), (1, .int (iI n)), (2, .int (iI z)), (3, .int (iI w))]) dX5_lots_153 (by decide) rfl ?_
                    refine g_iinc F (lv' := [(6, .int (iI (k + 1))), (5, .int (iI (t + (allWear (goI Y (cl (mA (stC D (cl (X 0))) 2 f))))))), (7, .int (iI c)), (4, .int (iI s2)), (0, .ref (xa 18 100)), (1, .int (iI n)), (2, .int (iI z)), (3, .int (iI w))]) 2 dX5_lots_155 rfl (by decide) rfl ?_
                    refine g_goto F 50 dX5_lots_158 (by decide) ?_
                    refine g_sub F (lv' := [(6, .int (iI (k + 1))), (5, .int (iI (t + (allWear (goI Y (cl (mA (stC D (cl (X 0))) 2 f))))))), (4, .int (iI s2)), (0, .ref (xa 18 100)), (1, .int (iI n)), (2, .int (iI z)), (3, .int (iI w))]) [0, 1, 3, 4, 5, 6, 7] rfl ?_
                    exact ih50 _ (by omega) (k + 1) s2 (t + (allWear (goI Y (cl (mA (stC D (cl (X 0))) 2 f))))) (stC (mA (stC D (cl (X 0))) 2 f) (goI Y (cl (mA (stC D (cl (X 0))) 2 f)))) rfl (by omega) (by rw [hs2, show 12 * (k + 1) = 12 * k + c by omega]) (by rw [sumI_s _ hk.1, ← ht, hvu]; first | rw [if_pos (by omega), ← hC] | rw [if_neg (by omega), ← hC]) (by rw [hC]; first | (rw [if_pos (by omega)] at hvu; omega) | (rw [if_neg (by omega)] at hvu; omega))
                  · skip
                    refine g_aload_n F 4 dX5_lots_132 rfl ?_
                    refine g18_get_10 F  lf_X5_50 dX5_lots_133 ?_
                    refine g_callNI F (stk := [.ref (xa 2 100), .int (iI t)]) (st := [.int (iI t)]) (kS_X0_holeBits κ xa X 2 (by decide) (stC (mA (stC D (cl (X 0))) 2 f) (goI Y (cl (mA (stC D (cl (X 0))) 2 f)))) (by rw [hC]; exact goI_ok (lotC_ok ok z k) Y)) cal_X0_holeBits nm_X5_203 10 rfl rfl rfl rfl (by decide) rfl (Nat.le_of_ble_eq_true rfl) dX5_lots_136 (fun r136 ws136 _ hr136 => ?_)
                    obtain ⟨rfl, rfl⟩ := hr136
                    refine g_top (y := iI (hbits (goI Y (cl (mA (stC D (cl (X 0))) 2 f))))) rfl ?_
                    refine g_callSI F (stk := [.int (iI (hbits (goI Y (cl (mA (stC D (cl (X 0))) 2 f))))), .int (iI t)]) (st := [.int (iI t)]) (k_J6_bitCount_0f7a4 κ (xw κ xa (setO X 2 (stC (mA (stC D (cl (X 0))) 2 f) (goI Y (cl (mA (stC D (cl (X 0))) 2 f)))))) (hbits (goI Y (cl (mA (stC D (cl (X 0))) 2 f)))) (hbits_in _)) cal_J6_bitCount_0f7a4 lm_X5_206 rfl (by decide) rfl (Nat.le_of_ble_eq_true rfl) dX5_lots_139 (fun r139 ws139 _ hr139 => ?_)
                    obtain ⟨rfl, rfl⟩ := hr139
                    refine g_goto F 152 dX5_lots_142 (by decide) ?_
                    refine g_iadd F dX5_lots_152 ?_
                    refine g_istore F (lv' := [(5, .int (iI (t + (pcnt (hbits (goI Y (cl (mA (stC D (cl (X 0))) 2 f)))))))), (7, .int (iI c)), (6, .int (iI k)), (4, .int (iI s2)), (0, .ref (xa 18 100)), (1, .int (iI n)), (2, .int (iI z)), (3, .int (iI w))]) dX5_lots_153 (by decide) rfl ?_
                    refine g_iinc F (lv' := [(6, .int (iI (k + 1))), (5, .int (iI (t + (pcnt (hbits (goI Y (cl (mA (stC D (cl (X 0))) 2 f)))))))), (7, .int (iI c)), (4, .int (iI s2)), (0, .ref (xa 18 100)), (1, .int (iI n)), (2, .int (iI z)), (3, .int (iI w))]) 2 dX5_lots_155 rfl (by decide) rfl ?_
                    refine g_goto F 50 dX5_lots_158 (by decide) ?_
                    refine g_sub F (lv' := [(6, .int (iI (k + 1))), (5, .int (iI (t + (pcnt (hbits (goI Y (cl (mA (stC D (cl (X 0))) 2 f)))))))), (4, .int (iI s2)), (0, .ref (xa 18 100)), (1, .int (iI n)), (2, .int (iI z)), (3, .int (iI w))]) [0, 1, 3, 4, 5, 6, 7] rfl ?_
                    exact ih50 _ (by omega) (k + 1) s2 (t + (pcnt (hbits (goI Y (cl (mA (stC D (cl (X 0))) 2 f)))))) (stC (mA (stC D (cl (X 0))) 2 f) (goI Y (cl (mA (stC D (cl (X 0))) 2 f)))) rfl (by omega) (by rw [hs2, show 12 * (k + 1) = 12 * k + c by omega]) (by rw [sumI_s _ hk.1, ← ht, hvu]; first | rw [if_pos (by omega), ← hC] | rw [if_neg (by omega), ← hC]) (by rw [hC]; first | (rw [if_pos (by omega)] at hvu; omega) | (rw [if_neg (by omega)] at hvu; omega))
                · skip
                  refine g_iload F 3 dX5_lots_77 rfl ?_
                  refine g_ldcw F (z := 1103515245) lc_X5_334 (by decide +kernel) dX5_lots_79 ?_
                  refine g_imul F dX5_lots_82 ?_
                  refine g_sipush F dX5_lots_83 (by decide +kernel) ?_
                  refine g_iadd F dX5_lots_86 ?_
                  refine g_istore F (lv' := [(4, .int (iI ((s2 * 1103515245) + 12345))), (7, .int (iI c)), (6, .int (iI k)), (5, .int (iI t)), (0, .ref (xa 18 100)), (1, .int (iI n)), (2, .int (iI z)), (3, .int (iI w))]) dX5_lots_87 (by decide) rfl ?_
                  refine g_aload_n F 4 dX5_lots_89 rfl ?_
                  refine g18_get_10 F  lf_X5_50 dX5_lots_90 ?_
                  refine gcS_getN_2 F (o := 2) (by decide) nf_X5_175 dX5_lots_93 ?_
                  refine g_iload F 1 dX5_lots_96 rfl ?_
                  refine g_iload F 0 dX5_lots_98 rfl ?_
                  refine g_ldc F (z := 2147483647) lc_X5_234 (by decide +kernel) dX5_lots_100 ?_
                  refine g_iand F dX5_lots_102 ?_
                  refine g_top (y := iI (((s2 * 1103515245) + 12345) % 2147483648)) (iI_and31 _) ?_
                  refine g_ldcw F (z := 65536) lc_X5_335 (by decide +kernel) dX5_lots_103 ?_
                  refine g_idiv F dX5_lots_106 (by omega) ?_
                  refine g_bipush F dX5_lots_107 (by decide +kernel) ?_
                  refine g_irem F dX5_lots_109 (by omega) ?_
                  refine gcSS_ast_2 F (o := 2) (by decide) (by omega) dX5_lots_110 ?_
                  refine g_iinc F (lv' := [(7, .int (iI (c + 1))), (4, .int (iI ((s2 * 1103515245) + 12345))), (6, .int (iI k)), (5, .int (iI t)), (0, .ref (xa 18 100)), (1, .int (iI n)), (2, .int (iI z)), (3, .int (iI w))]) 1 dX5_lots_111 rfl (by decide) rfl ?_
                  refine g_goto F 70 dX5_lots_114 (by decide) ?_
                  refine g_sub F (lv' := [(7, .int (iI (c + 1))), (6, .int (iI k)), (5, .int (iI t)), (4, .int (iI ((s2 * 1103515245) + 12345))), (0, .ref (xa 18 100)), (1, .int (iI n)), (2, .int (iI z)), (3, .int (iI w))]) [0, 2, 3, 1, 4, 5, 6, 7] rfl ?_
                  exact ih70 _ (by omega) (c + 1) ((s2 * 1103515245) + 12345) (uI f c (((((s2 * 1103515245) + 12345) % 2147483648) / 65536) % 60)) rfl (by omega) (by rw [← show 12 * k + c + 1 = 12 * k + (c + 1) by omega, sdI_s z (by omega), ← hs2]; rfl) (by rw [hf, ← upTo_s _ _ hc.1]; unfold lotA; rw [sdI_s z (by omega), ← hs2]; rfl)
              refine g_sub F (lv' := [(7, .int (iI 0)), (6, .int (iI k)), (5, .int (iI t)), (4, .int (iI s)), (0, .ref (xa 18 100)), (1, .int (iI n)), (2, .int (iI z)), (3, .int (iI w))]) [0, 1, 2, 3, 4, 5, 6, 7] rfl ?_
              refine g_ws (ws' := xw κ xa (setO X 2 (mA (stC D (cl (X 0))) 2 (ag (cl (X 0)))))) rfl ?_
              exact L70 _ 0 s (ag (cl (X 0))) rfl (by omega) (by rw [hs, Int.add_zero]) (upTo_0 _ _).symm
          refine g_sub F (lv' := [(6, .int (iI 0)), (5, .int (iI 0)), (4, .int (iI z)), (0, .ref (xa 18 100)), (1, .int (iI n)), (2, .int (iI z)), (3, .int (iI w))]) [0, 1, 2, 3, 4, 5, 6] rfl ?_
          refine g_ws (ws' := xw κ xa (setO X 2 (X 2))) rfl ?_
          exact L50 _ 0 z 0 (X 2) rfl (by omega) rfl rfl (by omega)
        · skip
          refine g_aload_n F 0 dX5_lots_34 rfl ?_
          refine g_bipush F dX5_lots_35 (by decide +kernel) ?_
          refine g_callI F (stk := [.int (iI (-2)), .ref (xa 18 100)]) (st := []) (k_X5_refuse κ xa X (-2) (by omega)) cal_X5_refuse lm_X5_69 81 rfl rfl rfl rfl (by decide) rfl (Nat.le_of_ble_eq_true rfl) dX5_lots_37 (fun r37 ws37 _ hr37 => ?_)
          obtain ⟨rfl, rfl⟩ := hr37
          have hq : (-2) = qLots (cl (X 0)) n z w := by unfold qLots; (repeat' split) <;> omega
          exact K xw_same ⟨_, rfl, iIc hq, (sX_18 sX_0 rfl rfl rfl), (by rw [← hq]; exact (rfa_r (by omega)).symm)⟩ rfl dX5_lots_40
    · skip
      refine g_aload_n F 0 dX5_lots_18 rfl ?_
      refine g_bipush F dX5_lots_19 (by decide +kernel) ?_
      refine g_callI F (stk := [.int (iI (-6)), .ref (xa 18 100)]) (st := []) (k_X5_refuse κ xa X (-6) (by omega)) cal_X5_refuse lm_X5_69 81 rfl rfl rfl rfl (by decide) rfl (Nat.le_of_ble_eq_true rfl) dX5_lots_21 (fun r21 ws21 _ hr21 => ?_)
      obtain ⟨rfl, rfl⟩ := hr21
      have hq : (-6) = qLots (cl (X 0)) n z w := by unfold qLots; (repeat' split) <;> omega
      exact K xw_same ⟨_, rfl, iIc hq, (sX_18 sX_0 rfl rfl rfl), (by rw [← hq]; exact (rfa_r (by omega)).symm)⟩ rfl dX5_lots_24
  · skip
    refine g_aload_n F 0 dX5_lots_5 rfl ?_
    refine g_bipush F dX5_lots_6 (by decide +kernel) ?_
    refine g_callI F (stk := [.int (iI (-4)), .ref (xa 18 100)]) (st := []) (k_X5_refuse κ xa X (-4) (by omega)) cal_X5_refuse lm_X5_69 81 rfl rfl rfl rfl (by decide) rfl (Nat.le_of_ble_eq_true rfl) dX5_lots_8 (fun r8 ws8 _ hr8 => ?_)
    obtain ⟨rfl, rfl⟩ := hr8
    have hq : (-4) = qLots (cl (X 0)) n z w := by unfold qLots; (repeat' split) <;> omega
    exact K xw_same ⟨_, rfl, iIc hq, (sX_18 sX_0 rfl rfl rfl), (by rw [← hq]; exact (rfa_r (by omega)).symm)⟩ rfl dX5_lots_11
