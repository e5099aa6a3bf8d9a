theorem tdF_eq {L : Int → Int} {n p c : Int} {t u : Int → Int} (h : ∀ i : Int, 0 ≤ i → i ≤ 4 → u i = t i) (k : tdF L n p c t) : tdF L n p c u := by
  have h0 := h 0 (by decide) (by decide)
  have h1 := h 1 (by decide) (by decide)
  have h2 := h 2 (by decide) (by decide)
  have h3 := h 3 (by decide) (by decide)
  have h4 := h 4 (by decide) (by decide)
  unfold tdF at *
  rw [h0, h1, h2, h3, h4]
  exact k
abbrev recT (L : Int → Int) (n : Int) (KK : Nat) (P Lo T : Int → Int) : Prop := ∀ j : Nat, j < KK → P (j : Int) = ps L n j ∧ Lo (j : Int) = lt L n (ps L n j) ∧ tdF L n (ps L n j + 1) (lt L n (ps L n j)) (fun i => T (5 * (j : Int) + i))
def trJ (L : Int → Int) (n : Int) (KK : Nat) (a b : Int) (P Lo T : Int → Int) : Prop := (b = 0 ∧ a = ps L n KK ∧ gd L n KK ∧ recT L n KK P Lo T) ∨ (b = 1 ∧ FFR L n a ∧ 0 ≤ a)
theorem trJ_in {L : Int → Int} {n : Int} {KK : Nat} {a b : Int} {P Lo T : Int → Int} (h : trJ L n KK a b P Lo T) (hn : n ≤ 96) : (b = 0 ∨ b = 1) ∧ (-1 ≤ a ∧ a ≤ 105) ∧ (b = 0 → (0 ≤ a ∧ a ≤ 96) ∧ 4 * (KK : Int) ≤ a) := by
  rcases h with ⟨h1, h2, h3, _⟩ | ⟨h1, h2, _⟩
  · have k := ps_0 h3 h2 hn
    have k2 := (gd_ps h3).1
    omega
  · have := FFR_in h2 hn
    omega
theorem trJ_s {L : Int → Int} {n : Int} {KK : Nat} {a b p2 b2 s : Int} {P Lo T T2 : Int → Int} (h : trJ L n KK a b P Lo T) (hb : b = 0) (hc : a < n ∨ KK = 0) (hs : s = (KK : Int)) (hS : RS L n a p2 b2 (fun j => T2 (5 * s + j))) (hU : ∀ z, z < 5 * s → T2 z = T z) : trJ L n (KK + 1) p2 b2 (uI P s a) (uI Lo s (lt L n a)) T2 := by
  rcases h with ⟨_, h2, h3, h4⟩ | ⟨h1, _⟩
  · rcases hS with ⟨q1, q2, q3, q4⟩ | ⟨q1, q2, q3⟩
    · refine Or.inl ⟨q2, ?_, gd_s h3 (by rw [← h2]; exact hc) (by rw [← h2]; exact q1), fun j hj => ?_⟩
      · show p2 = ps L n KK + szC (lt L n (ps L n KK))
        rw [← h2]; exact q3
      · by_cases r : j = KK
        · rw [r, ← hs, uI_s, uI_s, ← h2]
          exact ⟨rfl, rfl, q4⟩
        · have k := h4 j (by omega)
          rw [uI_n (by omega), uI_n (by omega)]
          exact ⟨k.1, k.2.1, tdF_eq (fun i x y => hU _ (by omega)) k.2.2⟩
    · refine Or.inr ⟨q2, ⟨KK, h3, Or.inr ⟨by rw [← h2]; exact hc, by rw [← h2]; exact q1, by rw [← h2]; exact q3⟩⟩, by have y := (gd_ps h3).1; have z := stF_bd (L := L) (n := n) (p := a) (by omega); omega⟩
  · omega
def trM (M M2 : MS) (q : Int) : Prop := (∃ f, FFR (M 12) (M 13 0) f ∧ ((0 ≤ f ∧ q = -1000 - f ∧ mS M2 = mS M ∧ M2 28 = M 28) ∨ (f = -1 ∧ ∃ t, TR (M 12) (M 13 0) (mS M) q t ∧ ((0 ≤ q ∧ mS M2 = t ∧ M2 28 0 = 0) ∨ (q < 0 ∧ mS M2 = mS M ∧ M2 28 = M 28))))) ∧ M2 13 0 = 0 ∧ M2 12 = M 12 ∧ M2 11 = M 11 ∧ M2 21 = M 21 ∧ M2 22 = M 22 ∧ M2 26 = M 26 ∧ M2 37 = M 37 ∧ M2 38 = M 38
theorem lyS_lyS (B : MS) (s t : Sx) : lyS (lyS B s) t = lyS B t := by
  funext a
  unfold lyS
  by_cases h9 : a = 9
  · rw [h9, mA_s, mA_s]
  · rw [mA_n h9, mA_n h9]
    by_cases h8 : a = 8
    · rw [h8, mA_s, mA_s]
    · rw [mA_n h8, mA_n h8]
      by_cases h7 : a = 7
      · rw [h7, mA_s, mA_s]
      · rw [mA_n h7, mA_n h7]
        by_cases h6 : a = 6
        · rw [h6, mA_s, mA_s]
        · rw [mA_n h6, mA_n h6]
          by_cases h5 : a = 5
          · rw [h5, mA_s, mA_s]
          · rw [mA_n h5, mA_n h5]
            unfold stC
            repeat' split
            all_goals first | rfl | (rw [mA_n h9, mA_n h8, mA_n h7, mA_n h6, mA_n h5]; rw [if_neg (by omega), if_neg (by omega), if_neg (by omega), if_neg (by omega), if_neg (by omega)])
theorem dX6_trousers_0 : decode cX6_trousers 0 = .ok (.aload_n 0, 1) := by decide +kernel
theorem dX6_trousers_1 : decode cX6_trousers 1 = .ok (.iconst 0, 1) := by decide +kernel
theorem dX6_trousers_2 : decode cX6_trousers 2 = .ok (.putfield 91, 3) := by decide +kernel
theorem dX6_trousers_5 : decode cX6_trousers 5 = .ok (.aload_n 0, 1) := by decide +kernel
theorem dX6_trousers_6 : decode cX6_trousers 6 = .ok (.iconst 0, 1) := by decide +kernel
theorem dX6_trousers_7 : decode cX6_trousers 7 = .ok (.putfield 144, 3) := by decide +kernel
theorem dX6_trousers_10 : decode cX6_trousers 10 = .ok (.aload_n 0, 1) := by decide +kernel
theorem dX6_trousers_11 : decode cX6_trousers 11 = .ok (.iconst 0, 1) := by decide +kernel
theorem dX6_trousers_12 : decode cX6_trousers 12 = .ok (.putfield 147, 3) := by decide +kernel
theorem dX6_trousers_15 : decode cX6_trousers 15 = .ok (.aload_n 0, 1) := by decide +kernel
theorem dX6_trousers_16 : decode cX6_trousers 16 = .ok (.iconst 0, 1) := by decide +kernel
theorem dX6_trousers_17 : decode cX6_trousers 17 = .ok (.putfield 162, 3) := by decide +kernel
theorem dX6_trousers_20 : decode cX6_trousers 20 = .ok (.aload_n 0, 1) := by decide +kernel
theorem dX6_trousers_21 : decode cX6_trousers 21 = .ok (.getfield 147, 3) := by decide +kernel
theorem dX6_trousers_24 : decode cX6_trousers 24 = .ok (.ifCond .ne 28, 3) := by decide +kernel
theorem dX6_trousers_27 : decode cX6_trousers 27 = .ok (.aload_n 0, 1) := by decide +kernel
theorem dX6_trousers_28 : decode cX6_trousers 28 = .ok (.getfield 162, 3) := by decide +kernel
theorem dX6_trousers_31 : decode cX6_trousers 31 = .ok (.ifCond .eq 14, 3) := by decide +kernel
theorem dX6_trousers_34 : decode cX6_trousers 34 = .ok (.aload_n 0, 1) := by decide +kernel
theorem dX6_trousers_35 : decode cX6_trousers 35 = .ok (.getfield 144, 3) := by decide +kernel
theorem dX6_trousers_38 : decode cX6_trousers 38 = .ok (.aload_n 0, 1) := by decide +kernel
theorem dX6_trousers_39 : decode cX6_trousers 39 = .ok (.getfield 141, 3) := by decide +kernel
theorem dX6_trousers_42 : decode cX6_trousers 42 = .ok (.if_icmp .ge 10, 3) := by decide +kernel
theorem dX6_trousers_45 : decode cX6_trousers 45 = .ok (.aload_n 0, 1) := by decide +kernel
theorem dX6_trousers_46 : decode cX6_trousers 46 = .ok (.invokevirtual 188, 3) := by decide +kernel
theorem dX6_trousers_49 : decode cX6_trousers 49 = .ok (.goto (-29), 3) := by decide +kernel
theorem dX6_trousers_52 : decode cX6_trousers 52 = .ok (.aload_n 0, 1) := by decide +kernel
theorem dX6_trousers_53 : decode cX6_trousers 53 = .ok (.iconst 0, 1) := by decide +kernel
theorem dX6_trousers_54 : decode cX6_trousers 54 = .ok (.putfield 141, 3) := by decide +kernel
theorem dX6_trousers_57 : decode cX6_trousers 57 = .ok (.aload_n 0, 1) := by decide +kernel
theorem dX6_trousers_58 : decode cX6_trousers 58 = .ok (.getfield 147, 3) := by decide +kernel
theorem dX6_trousers_61 : decode cX6_trousers 61 = .ok (.ifCond .eq 12, 3) := by decide +kernel
theorem dX6_trousers_64 : decode cX6_trousers 64 = .ok (.sipush (-1000), 3) := by decide +kernel
theorem dX6_trousers_67 : decode cX6_trousers 67 = .ok (.aload_n 0, 1) := by decide +kernel
theorem dX6_trousers_68 : decode cX6_trousers 68 = .ok (.getfield 144, 3) := by decide +kernel
theorem dX6_trousers_71 : decode cX6_trousers 71 = .ok (.isub, 1) := by decide +kernel
theorem dX6_trousers_72 : decode cX6_trousers 72 = .ok (.ireturn, 1) := by decide +kernel
theorem dX6_trousers_73 : decode cX6_trousers 73 = .ok (.aload_n 0, 1) := by decide +kernel
theorem dX6_trousers_74 : decode cX6_trousers 74 = .ok (.invokevirtual 191, 3) := by decide +kernel
theorem dX6_trousers_77 : decode cX6_trousers 77 = .ok (.iconst 0, 1) := by decide +kernel
theorem dX6_trousers_78 : decode cX6_trousers 78 = .ok (.istore_n 1, 1) := by decide +kernel
theorem dX6_trousers_79 : decode cX6_trousers 79 = .ok (.iload_n 1, 1) := by decide +kernel
theorem dX6_trousers_80 : decode cX6_trousers 80 = .ok (.aload_n 0, 1) := by decide +kernel
theorem dX6_trousers_81 : decode cX6_trousers 81 = .ok (.getfield 162, 3) := by decide +kernel
theorem dX6_trousers_84 : decode cX6_trousers 84 = .ok (.if_icmp .ge 32, 3) := by decide +kernel
theorem dX6_trousers_87 : decode cX6_trousers 87 = .ok (.aload_n 0, 1) := by decide +kernel
theorem dX6_trousers_88 : decode cX6_trousers 88 = .ok (.iload_n 1, 1) := by decide +kernel
theorem dX6_trousers_89 : decode cX6_trousers 89 = .ok (.invokevirtual 194, 3) := by decide +kernel
theorem dX6_trousers_92 : decode cX6_trousers 92 = .ok (.ifCond .ne 18, 3) := by decide +kernel
theorem dX6_trousers_95 : decode cX6_trousers 95 = .ok (.aload_n 0, 1) := by decide +kernel
theorem dX6_trousers_96 : decode cX6_trousers 96 = .ok (.invokevirtual 197, 3) := by decide +kernel
theorem dX6_trousers_99 : decode cX6_trousers 99 = .ok (.sipush (-2000), 3) := by decide +kernel
theorem dX6_trousers_102 : decode cX6_trousers 102 = .ok (.aload_n 0, 1) := by decide +kernel
theorem dX6_trousers_103 : decode cX6_trousers 103 = .ok (.getfield 40, 3) := by decide +kernel
theorem dX6_trousers_106 : decode cX6_trousers 106 = .ok (.iload_n 1, 1) := by decide +kernel
theorem dX6_trousers_107 : decode cX6_trousers 107 = .ok (.iaload, 1) := by decide +kernel
theorem dX6_trousers_108 : decode cX6_trousers 108 = .ok (.isub, 1) := by decide +kernel
theorem dX6_trousers_109 : decode cX6_trousers 109 = .ok (.ireturn, 1) := by decide +kernel
theorem dX6_trousers_110 : decode cX6_trousers 110 = .ok (.iinc 1 1, 3) := by decide +kernel
theorem dX6_trousers_113 : decode cX6_trousers 113 = .ok (.goto (-34), 3) := by decide +kernel
theorem dX6_trousers_116 : decode cX6_trousers 116 = .ok (.aload_n 0, 1) := by decide +kernel
theorem dX6_trousers_117 : decode cX6_trousers 117 = .ok (.iconst 0, 1) := by decide +kernel
theorem dX6_trousers_118 : decode cX6_trousers 118 = .ok (.putfield 200, 3) := by decide +kernel
theorem dX6_trousers_121 : decode cX6_trousers 121 = .ok (.aload_n 0, 1) := by decide +kernel
theorem dX6_trousers_122 : decode cX6_trousers 122 = .ok (.getfield 162, 3) := by decide +kernel
theorem dX6_trousers_125 : decode cX6_trousers 125 = .ok (.ireturn, 1) := by decide +kernel
set_option maxRecDepth 100000 in
set_option maxHeartbeats 4000000 in
theorem k_X6_trousers (κ : Kp) (ma : Nat → Nat) (M : MS) (hn : 0 ≤ M 13 0 ∧ M 13 0 ≤ 96) (hlr : ∀ j : Int, 0 ≤ j → j < 96 → 0 ≤ M 12 j ∧ M 12 j ≤ 255) (okt : okT (mS M)) : mI κ yX6_trousers cX6_trousers 2 .int 6 [.ref (ma 100)] (mw κ ma M) (fun r w => ∃ (q : Int) (M2 : MS), r = iI q ∧ w = mw κ ma M2 ∧ trM M M2 q) := by
  refine mI_of (by decide) (Nat.le_of_ble_eq_true rfl) (fun E F K => ?_)
  refine g_lv (lv' := [(0, .ref (ma 100))]) rfl ?_
  refine g_aload_n F 0 dX6_trousers_0 rfl ?_
  refine g_iconst F dX6_trousers_1 ?_
  refine gm_put_10 F dX6_trousers_2 ?_
  refine g_aload_n F 0 dX6_trousers_5 rfl ?_
  refine g_iconst F dX6_trousers_6 ?_
  refine gm_put_14 F dX6_trousers_7 ?_
  refine g_aload_n F 0 dX6_trousers_10 rfl ?_
  refine g_iconst F dX6_trousers_11 ?_
  refine gm_put_15 F (by omega) dX6_trousers_12 ?_
  refine g_aload_n F 0 dX6_trousers_15 rfl ?_
  refine g_iconst F dX6_trousers_16 ?_
  refine gm_put_16 F dX6_trousers_17 ?_
  have L20 : ∀ (mz20 : Nat) (a : Int) (b : Int) (s : Int) (P : Int → Int) (Lo : Int → Int) (T : Int → Int) (KK : Nat), (60 - s).toNat = mz20 → (s = (KK : Int)) → (0 ≤ s ∧ s ≤ 48) → (trJ (M 12) (M 13 0) KK a b P Lo T) → G E (mw κ ma (mA (mA (mA (mA (mA (mA (mA M 10 (fun _ => 0)) 14 (fun _ => a)) 15 (fun _ => b)) 16 (fun _ => s)) 17 P) 18 Lo) 19 T)) [(0, .ref (ma 100))] 20 [] := by
    intro mz20
    induction mz20 using Nat.strongRecOn with
    | _ mz20 ih20 =>
    intro a b s P Lo T KK hmz20 hs hsb hJ
    refine g_aload_n F 0 dX6_trousers_20 rfl ?_
    refine gm_get_15 F dX6_trousers_21 ?_
    refine g_top (y := iI b) rfl ?_
    have hJi := trJ_in hJ hn.2
    refine g_if_ne F 52 (by omega) dX6_trousers_24 (by decide) (fun c24 => ?_) (fun c24 => ?_)
    · skip
      refine g_aload_n F 0 dX6_trousers_52 rfl ?_
      refine g_iconst F dX6_trousers_53 ?_
      refine gm_put_13 F dX6_trousers_54 ?_
      refine g_aload_n F 0 dX6_trousers_57 rfl ?_
      refine gm_get_15 F dX6_trousers_58 ?_
      refine g_top (y := iI b) rfl ?_
      refine g_if_eq F 73 (by omega) dX6_trousers_61 (by decide) (fun c61 => ?_) (fun c61 => ?_)
      · skip
        exact absurd trivial (by omega)
      · skip
        have hj1 : FFR (M 12) (M 13 0) a ∧ 0 ≤ a := by rcases hJ with ⟨h, _⟩ | ⟨_, h⟩; omega; exact h
        refine g_sipush F dX6_trousers_64 (by decide +kernel) ?_
        refine g_aload_n F 0 dX6_trousers_67 rfl ?_
        refine gm_get_14 F dX6_trousers_68 ?_
        refine g_top (y := iI a) rfl ?_
        refine g_isub F dX6_trousers_71 ?_
        exact K mw_same ⟨_, _, rfl, rfl, ⟨a, hj1.1, Or.inl ⟨hj1.2, rfl, rfl, rfl⟩⟩, rfl, rfl, rfl, rfl, rfl, rfl, rfl, rfl⟩ rfl dX6_trousers_72
    · skip
      refine g_aload_n F 0 dX6_trousers_27 rfl ?_
      refine gm_get_16 F dX6_trousers_28 ?_
      refine g_top (y := iI s) rfl ?_
      refine g_if_eq F 45 (by omega) dX6_trousers_31 (by decide) (fun c31 => ?_) (fun c31 => ?_)
      · skip
        refine g_aload_n F 0 dX6_trousers_45 rfl ?_
        refine g_callV F (stk := [.ref (ma 100)]) (st := []) (k_X6_readStatement κ ma (mA (mA (mA (mA (mA (mA (mA M 10 (fun _ => 0)) 14 (fun _ => a)) 15 (fun _ => b)) 16 (fun _ => s)) 17 P) 18 Lo) 19 T) hn hlr (show 0 ≤ a ∧ a ≤ 96 by omega) (show b = 0 by omega) (show 0 ≤ s ∧ s ≤ 47 by omega)) cal_X6_readStatement lm_X6_188 0 rfl rfl rfl rfl (by decide) rfl (Nat.le_of_ble_eq_true rfl) dX6_trousers_46 (fun ws46 _ hr46 => ?_)
        obtain ⟨p46, b46, T46, rfl, hS, hU⟩ := hr46
        have hS : RS (M 12) (M 13 0) a p46 b46 (fun j => T46 (5 * s + j)) := hS
        have hU : ∀ z, z < 5 * s → T46 z = T z := hU
        refine g_ws (ws' := mw κ ma (mA (mA (mA (mA (mA (mA (mA M 10 (fun _ => 0)) 14 (fun _ => p46)) 15 (fun _ => b46)) 16 (fun _ => s + 1)) 17 (uI P s a)) 18 (uI Lo s (lt (M 12) (M 13 0) a))) 19 T46)) rfl ?_
        refine g_goto F 20 dX6_trousers_49 (by decide) ?_
        refine g_sub F (lv' := [(0, .ref (ma 100))]) [0] rfl ?_
        refine g_ws (ws' := mw κ ma (mA (mA (mA (mA (mA (mA (mA M 10 (fun _ => 0)) 14 (fun _ => p46)) 15 (fun _ => b46)) 16 (fun _ => (s + 1))) 17 (uI P s a)) 18 (uI Lo s (lt (M 12) (M 13 0) a))) 19 T46)) rfl ?_
        exact ih20 _ (by omega) p46 b46 (s + 1) (uI P s a) (uI Lo s (lt (M 12) (M 13 0) a)) T46 (KK + 1) rfl (by omega) (by omega) (trJ_s hJ (by omega) (by omega) hs hS hU)
      · skip
        refine g_aload_n F 0 dX6_trousers_34 rfl ?_
        refine gm_get_14 F dX6_trousers_35 ?_
        refine g_top (y := iI a) rfl ?_
        refine g_aload_n F 0 dX6_trousers_38 rfl ?_
        refine gm_get_13 F dX6_trousers_39 ?_
        refine g_top (y := iI (M 13 0)) rfl ?_
        refine g_icmp_ge F 52 (by omega) dX6_trousers_42 (by decide) (fun c42 => ?_) (fun c42 => ?_)
        · skip
          refine g_aload_n F 0 dX6_trousers_52 rfl ?_
          refine g_iconst F dX6_trousers_53 ?_
          refine gm_put_13 F dX6_trousers_54 ?_
          refine g_aload_n F 0 dX6_trousers_57 rfl ?_
          refine gm_get_15 F dX6_trousers_58 ?_
          refine g_top (y := iI b) rfl ?_
          refine g_if_eq F 73 (by omega) dX6_trousers_61 (by decide) (fun c61 => ?_) (fun c61 => ?_)
          · skip
            have hj : a = ps (M 12) (M 13 0) KK ∧ gd (M 12) (M 13 0) KK ∧ recT (M 12) (M 13 0) KK P Lo T := by rcases hJ with ⟨_, h⟩ | ⟨h, _⟩; exact h; omega
            have hF : FFR (M 12) (M 13 0) (-1) := ⟨KK, hj.2.1, Or.inl ⟨by omega, by rw [← hj.1]; omega, rfl⟩⟩
            refine g_aload_n F 0 dX6_trousers_73 rfl ?_
            refine g_callV F (stk := [.ref (ma 100)]) (st := []) (k_X6_think κ ma (mA (mA (mA (mA (mA (mA (mA (mA M 10 (fun _ => 0)) 14 (fun _ => a)) 15 (fun _ => b)) 16 (fun _ => s)) 17 P) 18 Lo) 19 T) 13 (fun _ => 0))) cal_X6_think lm_X6_191 0 rfl rfl rfl rfl (by decide) rfl (Nat.le_of_ble_eq_true rfl) dX6_trousers_74 (fun ws74 _ hr74 => ?_)
            obtain rfl := hr74
            refine g_ws (ws' := mw κ ma (thk (mA (mA (mA (mA (mA (mA (mA (mA M 10 (fun _ => 0)) 14 (fun _ => a)) 15 (fun _ => b)) 16 (fun _ => s)) 17 P) 18 Lo) 19 T) 13 (fun _ => 0)))) rfl ?_
            refine g_iconst F dX6_trousers_77 ?_
            refine g_istore_n F (lv' := [(1, .int (iI 0)), (0, .ref (ma 100))]) 1 dX6_trousers_78 rfl (by decide) rfl ?_
            have L79 : ∀ (mz79 : Nat) (k : Int) (B : MS) (sx : Sx) (KJ : Nat), (60 - k).toNat = mz79 → (k = (KJ : Int) ∧ KJ ≤ KK) → (sx = sS (M 12) (M 13 0) (mS M) KJ) → (∀ j : Nat, j < KJ → ps (M 12) (M 13 0) j < M 13 0 ∧ okS (M 12) (M 13 0) (ps (M 12) (M 13 0) j) (sS (M 12) (M 13 0) (mS M) j)) → (B 16 0 = s ∧ B 17 = P ∧ B 18 = Lo ∧ B 19 = T ∧ (∀ z : Int, 0 ≤ z → z < 74 → B 20 z = snapF M z) ∧ B 13 0 = 0 ∧ B 12 = M 12 ∧ B 11 = M 11 ∧ B 21 = M 21 ∧ B 22 = M 22 ∧ B 26 = M 26 ∧ B 37 = M 37 ∧ B 38 = M 38 ∧ B 28 = M 28) → G E (mw κ ma (lyS B sx)) [(1, .int (iI k)), (0, .ref (ma 100))] 79 [] := by
              intro mz79
              induction mz79 using Nat.strongRecOn with
              | _ mz79 ih79 =>
              intro k B sx KJ hmz79 hk hsx hok hB
              refine g_iload_n F 0 dX6_trousers_79 rfl ?_
              refine g_aload_n F 1 dX6_trousers_80 rfl ?_
              refine gm_get_16 F dX6_trousers_81 ?_
              refine g_top (y := iI (B 16 0)) rfl ?_
              refine g_top (y := iI s) (iIc hB.1) ?_
              refine g_icmp_ge F 116 (by omega) dX6_trousers_84 (by decide) (fun c84 => ?_) (fun c84 => ?_)
              · skip
                have hKe : KJ = KK := by omega
                have hKge : M 13 0 ≤ ps (M 12) (M 13 0) KJ := by rw [hKe, ← hj.1]; omega
                have hsk : s = (KJ : Int) := by omega
                refine g_aload_n F 1 dX6_trousers_116 rfl ?_
                refine g_iconst F dX6_trousers_117 ?_
                refine gm_put_28 F dX6_trousers_118 ?_
                refine g_aload_n F 1 dX6_trousers_121 rfl ?_
                refine gm_get_16 F dX6_trousers_122 ?_
                refine g_top (y := iI (B 16 0)) rfl ?_
                refine g_top (y := iI s) (iIc hB.1) ?_
                exact K mw_same ⟨_, _, rfl, rfl, ⟨-1, hF, Or.inr ⟨rfl, sx, ⟨KJ, hok, Or.inl ⟨hKge, hsk, hsx⟩⟩, Or.inl ⟨by omega, rfl, rfl⟩⟩⟩, hB.2.2.2.2.2.1, hB.2.2.2.2.2.2.1, hB.2.2.2.2.2.2.2.1, hB.2.2.2.2.2.2.2.2.1, hB.2.2.2.2.2.2.2.2.2.1, hB.2.2.2.2.2.2.2.2.2.2.1, hB.2.2.2.2.2.2.2.2.2.2.2.1, hB.2.2.2.2.2.2.2.2.2.2.2.2.1⟩ rfl dX6_trousers_125
              · skip
                have hKl : KJ < KK := by omega
                have hr := hj.2.2 KJ hKl
                have hgJ := hj.2.1 KJ hKl
                have hpJ := gd_ps (fun i (q : i < KJ) => hj.2.1 i (by omega))
                have hsf : stF (M 12) (M 13 0) (ps (M 12) (M 13 0) KJ) = -1 := hgJ.2
                have hKlt : (ps (M 12) (M 13 0) KJ) < M 13 0 := by have z := stF_ok hsf (by omega); omega
                have e18 : (lyS B sx) 18 k = lt (M 12) (M 13 0) (ps (M 12) (M 13 0) KJ) := by show B 18 k = _; rw [hB.2.2.1, hk.1]; exact hr.2.1
                have e19 : tdF (M 12) (M 13 0) ((ps (M 12) (M 13 0) KJ) + 1) (lt (M 12) (M 13 0) (ps (M 12) (M 13 0) KJ)) (fun j => (lyS B sx) 19 (5 * k + j)) := by show tdF _ _ _ _ (fun j => B 19 (5 * k + j)); rw [hB.2.2.2.1, hk.1]; exact hr.2.2
                have hokS : okT (sS (M 12) (M 13 0) (mS M) KJ) := sS_ok okt KJ (fun i q => hj.2.1 i (by omega)) (fun i q => (hok i q).2)
                have hokx : okT (mS (lyS B sx)) := by show okT sx; rw [hsx]; exact hokS
                have hltk := lt_bd (L := M 12) (n := M 13 0) hlr (by omega) (ps (M 12) (M 13 0) KJ)
                refine g_aload_n F 1 dX6_trousers_87 rfl ?_
                refine g_iload_n F 0 dX6_trousers_88 rfl ?_
                refine g_callI F (stk := [.int (iI k), .ref (ma 100)]) (st := []) (k_X6_comesTold κ ma (lyS B sx) (M 12) (M 13 0) (ps (M 12) (M 13 0) KJ) k e18 e19 hsf (by omega) (by omega) hokx hltk) cal_X6_comesTold lm_X6_194 0 rfl rfl rfl rfl (by decide) rfl (Nat.le_of_ble_eq_true rfl) dX6_trousers_89 (fun r89 ws89 _ hr89 => ?_)
                obtain ⟨rfl, rfl⟩ := hr89
                refine g_if_ne F 110 (b2i_in _) dX6_trousers_92 (by decide) (fun c92 => ?_) (fun c92 => ?_)
                · skip
                  have c92 : okB (M 12) (M 13 0) (ps (M 12) (M 13 0) KJ) (mS (lyS B sx)) = true := b2i_t c92
                  have hoS : okS (M 12) (M 13 0) (ps (M 12) (M 13 0) KJ) sx := (okB_S _ _ _ _).mp c92
                  refine g_iinc F (lv' := [(1, .int (iI (k + 1))), (0, .ref (ma 100))]) 0 dX6_trousers_110 rfl (by decide) rfl ?_
                  refine g_ws (ws' := mw κ ma (lyS B (apS (M 12) (M 13 0) (ps (M 12) (M 13 0) KJ) sx))) (by rw [if_pos c92, lyS_lyS]; rfl) ?_
                  refine g_goto F 79 dX6_trousers_113 (by decide) ?_
                  refine g_sub F (lv' := [(1, .int (iI (k + 1))), (0, .ref (ma 100))]) [0, 1] rfl ?_
                  exact ih79 _ (by omega) (k + 1) B (apS (M 12) (M 13 0) (ps (M 12) (M 13 0) KJ) sx) (KJ + 1) rfl ⟨by omega, by omega⟩ (by rw [hsx]; rfl) (fun j h => by by_cases q : j = KJ <;> first | (rw [q, ← hsx]; exact ⟨hKlt, hoS⟩) | exact hok j (by omega)) hB
                · skip
                  have c92 : ¬ (okB (M 12) (M 13 0) (ps (M 12) (M 13 0) KJ) (mS (lyS B sx)) = true) := b2i_f c92
                  have hoN : ¬ okS (M 12) (M 13 0) (ps (M 12) (M 13 0) KJ) (sS (M 12) (M 13 0) (mS M) KJ) := fun z => c92 ((okB_S _ _ _ _).mpr (by show okS _ _ _ sx; rw [hsx]; exact z))
                  refine g_aload_n F 1 dX6_trousers_95 rfl ?_
                  refine g_ws (ws' := mw κ ma (lyS B sx)) (by rw [if_neg c92]) ?_
                  refine g_callV F (stk := [.ref (ma 100)]) (st := []) (k_X6_again κ ma (lyS B sx) M (fun z x y => hB.2.2.2.2.1 z x y)) cal_X6_again lm_X6_197 0 rfl rfl rfl rfl (by decide) rfl (Nat.le_of_ble_eq_true rfl) dX6_trousers_96 (fun ws96 _ hr96 => ?_)
                  obtain rfl := hr96
                  refine g_sipush F dX6_trousers_99 (by decide +kernel) ?_
                  refine g_aload_n F 1 dX6_trousers_102 rfl ?_
                  refine gm_get_17 F dX6_trousers_103 ?_
                  refine g_iload_n F 0 dX6_trousers_106 rfl ?_
                  refine gm_ald_17 F (by omega) dX6_trousers_107 ?_
                  refine g_top (y := iI (B 17 k)) rfl ?_
                  refine g_top (y := iI (ps (M 12) (M 13 0) KJ)) (iIc (by show B 17 k = _; rw [hB.2.1, hk.1]; exact hr.1)) ?_
                  refine g_isub F dX6_trousers_108 ?_
                  exact K mw_same ⟨_, _, rfl, rfl, ⟨-1, hF, Or.inr ⟨rfl, mS M, ⟨KJ, hok, Or.inr ⟨hKlt, hoN, rfl, rfl⟩⟩, Or.inr ⟨by omega, rfl, hB.2.2.2.2.2.2.2.2.2.2.2.2.2⟩⟩⟩, hB.2.2.2.2.2.1, hB.2.2.2.2.2.2.1, hB.2.2.2.2.2.2.2.1, hB.2.2.2.2.2.2.2.2.1, hB.2.2.2.2.2.2.2.2.2.1, hB.2.2.2.2.2.2.2.2.2.2.1, hB.2.2.2.2.2.2.2.2.2.2.2.1, hB.2.2.2.2.2.2.2.2.2.2.2.2.1⟩ rfl dX6_trousers_109
            refine g_sub F (lv' := [(1, .int (iI 0)), (0, .ref (ma 100))]) [0, 1] rfl ?_
            refine g_ws (ws' := mw κ ma (lyS (thk (mA (mA (mA (mA (mA (mA (mA (mA M 10 (fun _ => 0)) 14 (fun _ => a)) 15 (fun _ => b)) 16 (fun _ => s)) 17 P) 18 Lo) 19 T) 13 (fun _ => 0))) (mS M))) rfl ?_
            exact L79 _ 0 (thk (mA (mA (mA (mA (mA (mA (mA (mA M 10 (fun _ => 0)) 14 (fun _ => a)) 15 (fun _ => b)) 16 (fun _ => s)) 17 P) 18 Lo) 19 T) 13 (fun _ => 0))) (mS M) 0 rfl ⟨rfl, Nat.zero_le _⟩ rfl (fun j h => absurd h (by omega)) ⟨rfl, rfl, rfl, rfl, fun z _ _ => (by show snapF _ z = snapF M z; rw [snapF_mA (by decide), snapF_mA (by decide), snapF_mA (by decide), snapF_mA (by decide), snapF_mA (by decide), snapF_mA (by decide), snapF_mA (by decide), snapF_mA (by decide)]), rfl, rfl, rfl, rfl, rfl, rfl, rfl, rfl, rfl⟩
          · skip
            exact absurd trivial (by omega)
        · skip
          refine g_aload_n F 0 dX6_trousers_45 rfl ?_
          refine g_callV F (stk := [.ref (ma 100)]) (st := []) (k_X6_readStatement κ ma (mA (mA (mA (mA (mA (mA (mA M 10 (fun _ => 0)) 14 (fun _ => a)) 15 (fun _ => b)) 16 (fun _ => s)) 17 P) 18 Lo) 19 T) hn hlr (show 0 ≤ a ∧ a ≤ 96 by omega) (show b = 0 by omega) (show 0 ≤ s ∧ s ≤ 47 by omega)) cal_X6_readStatement lm_X6_188 0 rfl rfl rfl rfl (by decide) rfl (Nat.le_of_ble_eq_true rfl) dX6_trousers_46 (fun ws46 _ hr46 => ?_)
          obtain ⟨p46, b46, T46, rfl, hS, hU⟩ := hr46
          have hS : RS (M 12) (M 13 0) a p46 b46 (fun j => T46 (5 * s + j)) := hS
          have hU : ∀ z, z < 5 * s → T46 z = T z := hU
          refine g_ws (ws' := mw κ ma (mA (mA (mA (mA (mA (mA (mA M 10 (fun _ => 0)) 14 (fun _ => p46)) 15 (fun _ => b46)) 16 (fun _ => s + 1)) 17 (uI P s a)) 18 (uI Lo s (lt (M 12) (M 13 0) a))) 19 T46)) rfl ?_
          refine g_goto F 20 dX6_trousers_49 (by decide) ?_
          refine g_sub F (lv' := [(0, .ref (ma 100))]) [0] rfl ?_
          refine g_ws (ws' := mw κ ma (mA (mA (mA (mA (mA (mA (mA M 10 (fun _ => 0)) 14 (fun _ => p46)) 15 (fun _ => b46)) 16 (fun _ => (s + 1))) 17 (uI P s a)) 18 (uI Lo s (lt (M 12) (M 13 0) a))) 19 T46)) rfl ?_
          exact ih20 _ (by omega) p46 b46 (s + 1) (uI P s a) (uI Lo s (lt (M 12) (M 13 0) a)) T46 (KK + 1) rfl (by omega) (by omega) (trJ_s hJ (by omega) (by omega) hs hS hU)
  refine g_sub F (lv' := [(0, .ref (ma 100))]) [0] rfl ?_
  refine g_ws (ws' := mw κ ma (mA (mA (mA (mA (mA (mA (mA M 10 (fun _ => 0)) 14 (fun _ => 0)) 15 (fun _ => 0)) 16 (fun _ => 0)) 17 (M 17)) 18 (M 18)) 19 (M 19))) rfl ?_
  exact L20 _ 0 0 0 (M 17) (M 18) (M 19) 0 rfl rfl (by omega) (Or.inl ⟨rfl, rfl, gd_0 _ _, fun j h => absurd h (by omega)⟩)
