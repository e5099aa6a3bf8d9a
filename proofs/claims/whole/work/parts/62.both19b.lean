theorem dX5_tellAll_0 : decode cX5_tellAll 0 = .ok (.aload_n 0, 1) := by decide +kernel
theorem dX5_tellAll_1 : decode cX5_tellAll 1 = .ok (.getfield 50, 3) := by decide +kernel
theorem dX5_tellAll_4 : decode cX5_tellAll 4 = .ok (.aload_n 0, 1) := by decide +kernel
theorem dX5_tellAll_5 : decode cX5_tellAll 5 = .ok (.getfield 10, 3) := by decide +kernel
theorem dX5_tellAll_8 : decode cX5_tellAll 8 = .ok (.invokevirtual 88, 3) := by decide +kernel
theorem dX5_tellAll_11 : decode cX5_tellAll 11 = .ok (.aload_n 0, 1) := by decide +kernel
theorem dX5_tellAll_12 : decode cX5_tellAll 12 = .ok (.getfield 56, 3) := by decide +kernel
theorem dX5_tellAll_15 : decode cX5_tellAll 15 = .ok (.aload_n 0, 1) := by decide +kernel
theorem dX5_tellAll_16 : decode cX5_tellAll 16 = .ok (.getfield 19, 3) := by decide +kernel
theorem dX5_tellAll_19 : decode cX5_tellAll 19 = .ok (.invokevirtual 92, 3) := by decide +kernel
theorem dX5_tellAll_22 : decode cX5_tellAll 22 = .ok (.iconst 0, 1) := by decide +kernel
theorem dX5_tellAll_23 : decode cX5_tellAll 23 = .ok (.istore_n 1, 1) := by decide +kernel
theorem dX5_tellAll_24 : decode cX5_tellAll 24 = .ok (.iconst 0, 1) := by decide +kernel
theorem dX5_tellAll_25 : decode cX5_tellAll 25 = .ok (.istore_n 2, 1) := by decide +kernel
theorem dX5_tellAll_26 : decode cX5_tellAll 26 = .ok (.iload_n 2, 1) := by decide +kernel
theorem dX5_tellAll_27 : decode cX5_tellAll 27 = .ok (.aload_n 0, 1) := by decide +kernel
theorem dX5_tellAll_28 : decode cX5_tellAll 28 = .ok (.getfield 33, 3) := by decide +kernel
theorem dX5_tellAll_31 : decode cX5_tellAll 31 = .ok (.getfield 73, 3) := by decide +kernel
theorem dX5_tellAll_34 : decode cX5_tellAll 34 = .ok (.if_icmp .ge 38, 3) := by decide +kernel
theorem dX5_tellAll_37 : decode cX5_tellAll 37 = .ok (.aload_n 0, 1) := by decide +kernel
theorem dX5_tellAll_38 : decode cX5_tellAll 38 = .ok (.iload_n 2, 1) := by decide +kernel
theorem dX5_tellAll_39 : decode cX5_tellAll 39 = .ok (.invokevirtual 95, 3) := by decide +kernel
theorem dX5_tellAll_42 : decode cX5_tellAll 42 = .ok (.ifCond .ne 9, 3) := by decide +kernel
theorem dX5_tellAll_45 : decode cX5_tellAll 45 = .ok (.sipush (-2000), 3) := by decide +kernel
theorem dX5_tellAll_48 : decode cX5_tellAll 48 = .ok (.iload_n 2, 1) := by decide +kernel
theorem dX5_tellAll_49 : decode cX5_tellAll 49 = .ok (.isub, 1) := by decide +kernel
theorem dX5_tellAll_50 : decode cX5_tellAll 50 = .ok (.ireturn, 1) := by decide +kernel
theorem dX5_tellAll_51 : decode cX5_tellAll 51 = .ok (.iinc 1 1, 3) := by decide +kernel
theorem dX5_tellAll_54 : decode cX5_tellAll 54 = .ok (.iload_n 2, 1) := by decide +kernel
theorem dX5_tellAll_55 : decode cX5_tellAll 55 = .ok (.iconst 1, 1) := by decide +kernel
theorem dX5_tellAll_56 : decode cX5_tellAll 56 = .ok (.aload_n 0, 1) := by decide +kernel
theorem dX5_tellAll_57 : decode cX5_tellAll 57 = .ok (.getfield 33, 3) := by decide +kernel
theorem dX5_tellAll_60 : decode cX5_tellAll 60 = .ok (.iload_n 2, 1) := by decide +kernel
theorem dX5_tellAll_61 : decode cX5_tellAll 61 = .ok (.invokevirtual 99, 3) := by decide +kernel
theorem dX5_tellAll_64 : decode cX5_tellAll 64 = .ok (.invokestatic 102, 3) := by decide +kernel
theorem dX5_tellAll_67 : decode cX5_tellAll 67 = .ok (.iadd, 1) := by decide +kernel
theorem dX5_tellAll_68 : decode cX5_tellAll 68 = .ok (.istore_n 2, 1) := by decide +kernel
theorem dX5_tellAll_69 : decode cX5_tellAll 69 = .ok (.goto (-43), 3) := by decide +kernel
theorem dX5_tellAll_72 : decode cX5_tellAll 72 = .ok (.aload_n 0, 1) := by decide +kernel
theorem dX5_tellAll_73 : decode cX5_tellAll 73 = .ok (.getfield 10, 3) := by decide +kernel
theorem dX5_tellAll_76 : decode cX5_tellAll 76 = .ok (.aload_n 0, 1) := by decide +kernel
theorem dX5_tellAll_77 : decode cX5_tellAll 77 = .ok (.getfield 50, 3) := by decide +kernel
theorem dX5_tellAll_80 : decode cX5_tellAll 80 = .ok (.invokevirtual 88, 3) := by decide +kernel
theorem dX5_tellAll_83 : decode cX5_tellAll 83 = .ok (.aload_n 0, 1) := by decide +kernel
theorem dX5_tellAll_84 : decode cX5_tellAll 84 = .ok (.getfield 19, 3) := by decide +kernel
theorem dX5_tellAll_87 : decode cX5_tellAll 87 = .ok (.aload_n 0, 1) := by decide +kernel
theorem dX5_tellAll_88 : decode cX5_tellAll 88 = .ok (.getfield 56, 3) := by decide +kernel
theorem dX5_tellAll_91 : decode cX5_tellAll 91 = .ok (.invokevirtual 92, 3) := by decide +kernel
theorem dX5_tellAll_94 : decode cX5_tellAll 94 = .ok (.aload_n 0, 1) := by decide +kernel
theorem dX5_tellAll_95 : decode cX5_tellAll 95 = .ok (.getfield 26, 3) := by decide +kernel
theorem dX5_tellAll_98 : decode cX5_tellAll 98 = .ok (.invokevirtual 108, 3) := by decide +kernel
theorem dX5_tellAll_101 : decode cX5_tellAll 101 = .ok (.iload_n 1, 1) := by decide +kernel
theorem dX5_tellAll_102 : decode cX5_tellAll 102 = .ok (.ireturn, 1) := by decide +kernel
set_option maxRecDepth 100000 in
set_option maxHeartbeats 4000000 in
theorem k_X5_tellAll (κ : Kp) (xa : Nat → Nat → Nat) (X : XS) (GG : Nat) (hn : 0 ≤ X 16 1 0 ∧ X 16 1 0 ≤ 96) (hlr : ∀ j : Int, 0 ≤ j → j < 96 → 0 ≤ X 16 0 j ∧ X 16 0 j ≤ 255) (okt : okT (x0S X)) (okr : okRl (X 12)) (hub : X 12 4 0 < p2 (X 12 3 0)) (hG : gd (X 16 0) (X 16 1 0) GG ∧ X 16 1 0 ≤ ps (X 16 0) (X 16 1 0) GG) : mI κ yX5_tellAll cX5_tellAll 3 .int 7 [.ref (xa 18 100)] (xw κ xa X) (fun r w => ∃ (q : Int) (t : Sx) (X2 : XS), r = iI q ∧ w = xw κ xa X2 ∧ TR (X 16 0) (X 16 1 0) (x0S X) q t ∧ ((0 ≤ q ∧ cl (X2 0) = t.1 ∧ rolR (X2 12) t.2 ∧ X2 15 = mA (X 15) 3 (fun _ => 0)) ∨ (q < 0 ∧ X2 0 = X 0 ∧ X2 12 = X 12 ∧ X2 15 = X 15)) ∧ X2 16 = X 16 ∧ X2 18 = X 18 ∧ X2 1 = X 1 ∧ X2 13 = X 13 ∧ ∀ o, 4 ≤ o → o < 12 → X2 o = X o) := by
  refine mI_of (by decide) (Nat.le_of_ble_eq_true rfl) (fun E F K => ?_)
  refine g_lv (lv' := [(0, .ref (xa 18 100))]) rfl ?_
  refine g_aload_n F 0 dX5_tellAll_0 rfl ?_
  refine g18_get_10 F  lf_X5_50 dX5_tellAll_1 ?_
  refine g_aload_n F 0 dX5_tellAll_4 rfl ?_
  refine g18_get_0 F  lf_X5_10 dX5_tellAll_5 ?_
  refine g_callNV F (stk := [.ref (xa 0 100), .ref (xa 2 100)]) (st := []) (k_X0_become κ xa X 2 (by decide) 0 (by decide) (by decide)) cal_X0_become nm_X5_88 10 rfl rfl rfl rfl (by decide) rfl (Nat.le_of_ble_eq_true rfl) dX5_tellAll_8 (fun ws8 _ hr8 => ?_)
  obtain rfl := hr8
  refine g_aload_n F 0 dX5_tellAll_11 rfl ?_
  refine g18_get_12 F  lf_X5_56 dX5_tellAll_12 ?_
  refine g_aload_n F 0 dX5_tellAll_15 rfl ?_
  refine g18_get_1 F  lf_X5_19 dX5_tellAll_16 ?_
  refine g_callNV F (stk := [.ref (xa 12 100), .ref (xa 14 100)]) (st := []) (k_X2_become κ xa (setO X 2 (stC (X 2) (cl (X 0)))) 2 (by decide) 0 (by decide) (by decide)) cal_X2_become nm_X5_92 68 rfl rfl rfl rfl (by decide) rfl (Nat.le_of_ble_eq_true rfl) dX5_tellAll_19 (fun ws19 _ hr19 => ?_)
  obtain rfl := hr19
  refine g_ws (ws' := xw κ xa (setO (setO X 2 (stC (X 2) (cl (X 0)))) 14 (stR (X 14) (rl (X 12))))) rfl ?_
  refine g_iconst F dX5_tellAll_22 ?_
  refine g_istore_n F (lv' := [(1, .int (iI 0)), (0, .ref (xa 18 100))]) 1 dX5_tellAll_23 rfl (by decide) rfl ?_
  refine g_iconst F dX5_tellAll_24 ?_
  refine g_istore_n F (lv' := [(2, .int (iI 0)), (1, .int (iI 0)), (0, .ref (xa 18 100))]) 2 dX5_tellAll_25 rfl (by decide) rfl ?_
  have L26 : ∀ (mz26 : Nat) (a : Int) (t : Int) (D2 : MS) (D14 : MS) (KK : Nat), (96 - a).toNat = mz26 → (a = ps (X 16 0) (X 16 1 0) KK) → (0 ≤ a ∧ a ≤ 96) → (t = (KK : Int)) → (∀ j : Nat, j < KK → ps (X 16 0) (X 16 1 0) j < X 16 1 0 ∧ okS (X 16 0) (X 16 1 0) (ps (X 16 0) (X 16 1 0) j) (sS (X 16 0) (X 16 1 0) (x0S X) j)) → (cl D2 = (sS (X 16 0) (X 16 1 0) (x0S X) KK).1) → (rolR D14 (sS (X 16 0) (X 16 1 0) (x0S X) KK).2) → G E (xw κ xa (setO (setO X 2 D2) 14 D14)) [(2, .int (iI a)), (1, .int (iI t)), (0, .ref (xa 18 100))] 26 [] := by
    intro mz26
    induction mz26 using Nat.strongRecOn with
    | _ mz26 ih26 =>
    intro a t D2 D14 KK hmz26 ha hab ht hK hE1 hE2
    refine g_iload_n F 0 dX5_tellAll_26 rfl ?_
    refine g_aload_n F 2 dX5_tellAll_27 rfl ?_
    refine g18_get_3 F  lf_X5_33 dX5_tellAll_28 ?_
    refine g16_getN_1 F  nf_X5_73 dX5_tellAll_31 ?_
    refine g_top (y := iI ((X 16) 1 0)) rfl ?_
    refine g_icmp_ge F 72 (by omega) dX5_tellAll_34 (by decide) (fun c34 => ?_) (fun c34 => ?_)
    · skip
      refine g_aload_n F 2 dX5_tellAll_72 rfl ?_
      refine g18_get_0 F  lf_X5_10 dX5_tellAll_73 ?_
      refine g_aload_n F 2 dX5_tellAll_76 rfl ?_
      refine g18_get_10 F  lf_X5_50 dX5_tellAll_77 ?_
      refine g_callNV F (stk := [.ref (xa 2 100), .ref (xa 0 100)]) (st := []) (k_X0_become κ xa (setO (setO X 2 D2) 14 D14) 0 (by decide) 2 (by decide) (by decide)) cal_X0_become nm_X5_88 0 rfl rfl rfl rfl (by decide) rfl (Nat.le_of_ble_eq_true rfl) dX5_tellAll_80 (fun ws80 _ hr80 => ?_)
      obtain rfl := hr80
      refine g_ws (ws' := xw κ xa (setO (setO (setO X 2 D2) 14 D14) 0 (stC (X 0) (cl D2)))) rfl ?_
      refine g_aload_n F 2 dX5_tellAll_83 rfl ?_
      refine g18_get_1 F  lf_X5_19 dX5_tellAll_84 ?_
      refine g_aload_n F 2 dX5_tellAll_87 rfl ?_
      refine g18_get_12 F  lf_X5_56 dX5_tellAll_88 ?_
      refine g_callNV F (stk := [.ref (xa 14 100), .ref (xa 12 100)]) (st := []) (k_X2_become κ xa (setO (setO (setO X 2 D2) 14 D14) 0 (stC (X 0) (cl D2))) 0 (by decide) 2 (by decide) (by decide)) cal_X2_become nm_X5_92 60 rfl rfl rfl rfl (by decide) rfl (Nat.le_of_ble_eq_true rfl) dX5_tellAll_91 (fun ws91 _ hr91 => ?_)
      obtain rfl := hr91
      refine g_ws (ws' := xw κ xa (setO (setO (setO (setO X 2 D2) 14 D14) 0 (stC (X 0) (cl D2))) 12 (stR (X 12) (rl D14)))) rfl ?_
      refine g_aload_n F 2 dX5_tellAll_94 rfl ?_
      refine g18_get_2 F  lf_X5_26 dX5_tellAll_95 ?_
      refine g_callNV F (stk := [.ref (xa 15 100)]) (st := []) (k_X1_forget κ xa (setO (setO (setO (setO X 2 D2) 14 D14) 0 (stC (X 0) (cl D2))) 12 (stR (X 12) (rl D14)))) cal_X1_forget nm_X5_108 72 rfl rfl rfl rfl (by decide) rfl (Nat.le_of_ble_eq_true rfl) dX5_tellAll_98 (fun ws98 _ hr98 => ?_)
      obtain rfl := hr98
      refine g_ws (ws' := xw κ xa (setO (setO (setO (setO (setO X 2 D2) 14 D14) 0 (stC (X 0) (cl D2))) 12 (stR (X 12) (rl D14))) 15 (mA (X 15) 3 (fun _ => 0)))) rfl ?_
      refine g_iload_n F 1 dX5_tellAll_101 rfl ?_
      exact K xw_same ⟨t, (sS (X 16 0) (X 16 1 0) (x0S X) KK), (setO (setO (setO (setO (setO X 2 D2) 14 D14) 0 (stC (X 0) (cl D2))) 12 (stR (X 12) (rl D14))) 15 (mA (X 15) 3 (fun _ => 0))), rfl, rfl, ⟨KK, hK, Or.inl ⟨by omega, ht, rfl⟩⟩, Or.inl ⟨by omega, hE1, hE2, rfl⟩, rfl, rfl, rfl, rfl, fun o h1 h2 => by rw [setO_n (by omega), setO_n (by omega), setO_n (by omega), setO_n (by omega), setO_n (by omega)]⟩ rfl dX5_tellAll_102
    · skip
      have hKG := gd_in hG.1 hG.2 (fun j q => (hK j q).1)
      have hKG2 : KK < GG := by rcases Nat.lt_or_ge KK GG with q | q; exact q; (have e : KK = GG := by omega); rw [e] at ha; have := hG.2; omega
      have hsf : stF (X 16 0) (X 16 1 0) a = -1 := by rw [ha]; exact (hG.1 KK hKG2).2
      have hsz := stF_ok hsf hab.1
      have hokT : okT (sS (X 16 0) (X 16 1 0) (x0S X) KK) := sS_ok okt KK (fun j q => hG.1 j (by omega)) (fun j q => (hK j q).2)
      have hok2 : okC (cl D2) ∧ yr (cl D2) ≤ 999 := by rw [hE1]; exact ⟨hokT.1, hokT.2.1⟩
      have hE : sE (xS (setO (setO X 2 D2) 14 D14)) (sS (X 16 0) (X 16 1 0) (x0S X) KK) := ⟨hE1, hE2.1, hE2.2.1, hE2.2.2.1, hE2.2.2.2.1, hE2.2.2.2.2.1⟩
      have hokx : okT (xS (setO (setO X 2 D2) 14 D14)) := ⟨hok2.1, hok2.2, hE2.2.2.2.2.2.1.1.1, fun p x y => ⟨(hE2.2.2.2.2.2.1.2 p x y).1, (hE2.2.2.2.2.2.1.2 p x y).2.1, (hE2.2.2.2.2.2.1.2 p x y).2.2, by show 0 ≤ D14 4 0 / p2 p % 2 ∧ D14 4 0 / p2 p % 2 ≤ 1; omega⟩⟩
      have hoE := okS_E hE hokx hsf hab.1
      refine g_aload_n F 2 dX5_tellAll_37 rfl ?_
      refine g_iload_n F 0 dX5_tellAll_38 rfl ?_
      refine g_callI F (stk := [.int (iI a), .ref (xa 18 100)]) (st := []) (k_X5_tellOne κ xa (setO (setO X 2 D2) 14 D14) a hn hlr hsf (by omega) hok2.1 (show 0 ≤ D2 4 0 ∧ D2 4 0 ≤ 999 from ⟨hok2.1.2, hok2.2⟩) hE2.2.2.2.2.2.1) cal_X5_tellOne lm_X5_95 81 rfl rfl rfl rfl (by decide) rfl (Nat.le_of_ble_eq_true rfl) dX5_tellAll_39 (fun r39 ws39 _ hr39 => ?_)
      obtain ⟨rfl, rfl⟩ := hr39
      refine g_if_ne F 51 (b2i_in _) dX5_tellAll_42 (by decide) (fun c42 => ?_) (fun c42 => ?_)
      · skip
        have c42 : okB (X 16 0) (X 16 1 0) a (xS (setO (setO X 2 D2) 14 D14)) = true := b2i_t c42
        have hoS : okS (X 16 0) (X 16 1 0) a (sS (X 16 0) (X 16 1 0) (x0S X) KK) := hoE.mp ((okB_S _ _ _ _).mp c42)
        refine g_iinc F (lv' := [(1, .int (iI (t + 1))), (2, .int (iI a)), (0, .ref (xa 18 100))]) 1 dX5_tellAll_51 rfl (by decide) rfl ?_
        refine g_ws (ws' := xw κ xa (setO (setO X 2 (stC D2 (apC (X 16 0) (X 16 1 0) a (xS (setO (setO X 2 D2) 14 D14))))) 14 (ap14 (X 16 0) (X 16 1 0) a D14))) (by rw [if_pos (show okB ((setO (setO X 2 D2) 14 D14) 16 0) ((setO (setO X 2 D2) 14 D14) 16 1 0) a (xS (setO (setO X 2 D2) 14 D14)) = true from c42)]; rfl) ?_
        refine g_iload_n F 1 dX5_tellAll_54 rfl ?_
        refine g_iconst F dX5_tellAll_55 ?_
        refine g_aload_n F 2 dX5_tellAll_56 rfl ?_
        refine g18_get_3 F  lf_X5_33 dX5_tellAll_57 ?_
        refine g_iload_n F 1 dX5_tellAll_60 rfl ?_
        refine g_callNI F (stk := [.int (iI a), .ref (xa 16 100), .int (iI 1), .int (iI a)]) (st := [.int (iI 1), .int (iI a)]) (k_X3_sizeAt κ xa (setO (setO X 2 (stC D2 (apC (X 16 0) (X 16 1 0) a (xS (setO (setO X 2 D2) 14 D14))))) 14 (ap14 (X 16 0) (X 16 1 0) a D14)) a (by omega) (show 0 ≤ ((X 16) 1 0) ∧ ((X 16) 1 0) ≤ 96 from by omega) hlr) cal_X3_sizeAt nm_X5_99 75 rfl rfl rfl rfl (by decide) rfl (Nat.le_of_ble_eq_true rfl) dX5_tellAll_61 (fun r61 ws61 _ hr61 => ?_)
        obtain ⟨rfl, rfl⟩ := hr61
        refine g_top (y := iI (szC (lt ((X 16) 0) (((X 16) 1 0)) a))) rfl ?_
        refine g_max F (by omega) lm_X5_102 ms_max ms_ini mc_max (by decide) (Nat.le_of_ble_eq_true rfl) dX5_tellAll_64 ?_
        refine g_iadd F dX5_tellAll_67 ?_
        refine g_istore_n F (lv' := [(2, .int (iI (a + (max 1 (szC (lt ((X 16) 0) (((X 16) 1 0)) a)))))), (1, .int (iI (t + 1))), (0, .ref (xa 18 100))]) 2 dX5_tellAll_68 rfl (by decide) rfl ?_
        refine g_goto F 26 dX5_tellAll_69 (by decide) ?_
        refine g_sub F (lv' := [(2, .int (iI (a + (max 1 (szC (lt ((X 16) 0) (((X 16) 1 0)) a)))))), (1, .int (iI (t + 1))), (0, .ref (xa 18 100))]) [0, 1, 2] rfl ?_
        exact ih26 _ (by omega) (a + (max 1 (szC (lt ((X 16) 0) (((X 16) 1 0)) a)))) (t + 1) (stC D2 (apC (X 16 0) (X 16 1 0) a (xS (setO (setO X 2 D2) 14 D14)))) (ap14 (X 16 0) (X 16 1 0) a D14) (KK + 1) rfl (by show (a + (max 1 (szC (lt ((X 16) 0) (((X 16) 1 0)) a)))) = ps (X 16 0) (X 16 1 0) KK + szC (lt (X 16 0) (X 16 1 0) (ps (X 16 0) (X 16 1 0) KK)); rw [← ha]; omega) (by omega) (by omega) (fun j h => by by_cases q : j = KK <;> first | (rw [q, ← ha]; exact ⟨by omega, hoS⟩) | exact hK j (by omega)) (by show apC _ _ _ _ = (apS (X 16 0) (X 16 1 0) (ps (X 16 0) (X 16 1 0) KK) (sS (X 16 0) (X 16 1 0) (x0S X) KK)).1; rw [← ha]; exact (apS_E hE).1) (by show rolR _ (apR (X 16 0) (X 16 1 0) (ps (X 16 0) (X 16 1 0) KK) (sS (X 16 0) (X 16 1 0) (x0S X) KK)); rw [← ha]; exact rolR_s hE2 hokT hoS hsf hab.1)
      · skip
        have c42 : ¬ (okB (X 16 0) (X 16 1 0) a (xS (setO (setO X 2 D2) 14 D14)) = true) := b2i_f c42
        have hoN : ¬ okS (X 16 0) (X 16 1 0) a (sS (X 16 0) (X 16 1 0) (x0S X) KK) := fun z => c42 ((okB_S _ _ _ _).mpr (hoE.mpr z))
        refine g_sipush F dX5_tellAll_45 (by decide +kernel) ?_
        refine g_ws (ws' := xw κ xa (setO (setO X 2 D2) 14 D14)) (by rw [if_neg (show ¬ okB ((setO (setO X 2 D2) 14 D14) 16 0) ((setO (setO X 2 D2) 14 D14) 16 1 0) a (xS (setO (setO X 2 D2) 14 D14)) = true from c42)]) ?_
        refine g_iload_n F 0 dX5_tellAll_48 rfl ?_
        refine g_isub F dX5_tellAll_49 ?_
        exact K xw_same ⟨_, (x0S X), (setO (setO X 2 D2) 14 D14), rfl, rfl, ⟨KK, hK, Or.inr ⟨by omega, by rw [← ha]; exact hoN, by omega, rfl⟩⟩, Or.inr ⟨by omega, rfl, rfl, rfl⟩, rfl, rfl, rfl, rfl, fun o h1 h2 => by rw [setO_n (by omega), setO_n (by omega)]⟩ rfl dX5_tellAll_50
  refine g_sub F (lv' := [(2, .int (iI 0)), (1, .int (iI 0)), (0, .ref (xa 18 100))]) [0, 1, 2] rfl ?_
  exact L26 _ 0 0 (stC (X 2) (cl (X 0))) (stR (X 14) (rl (X 12))) 0 rfl rfl (by omega) rfl (fun j h => absurd h (by omega)) rfl ⟨rfl, rfl, rfl, rfl, fun _ _ => rfl, okr, hub⟩
