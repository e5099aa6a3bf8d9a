theorem FFR_in {L : Int → Int} {n f : Int} (h : FFR L n f) (hn : n ≤ 96) : -1 ≤ f ∧ f ≤ 105 := by
  obtain ⟨K, hK, h⟩ := h
  rcases h with ⟨_, _, h⟩ | ⟨_, h1, h⟩
  · omega
  · have k := ps_0 hK rfl hn
    have := stF_bd (L := L) (n := n) (p := ps L n K) k.1
    omega
def trX (X X2 : XS) (q : Int) : Prop := (∃ f, FFR (X 16 0) (X 16 1 0) f ∧ ((0 ≤ f ∧ q = -1000 - f ∧ X2 0 = X 0 ∧ X2 12 = X 12 ∧ X2 15 = X 15) ∨ (f = -1 ∧ ∃ t, TR (X 16 0) (X 16 1 0) (x0S X) q t ∧ ((0 ≤ q ∧ cl (X2 0) = t.1 ∧ rolR (X2 12) t.2 ∧ X2 15 = mA (X 15) 3 (fun _ => 0)) ∨ (q < 0 ∧ X2 0 = X 0 ∧ X2 12 = X 12 ∧ X2 15 = X 15))))) ∧ X2 16 = mA (X 16) 1 (fun _ => 0) ∧ X2 18 = X 18 ∧ X2 1 = X 1 ∧ X2 13 = X 13 ∧ ∀ o, 4 ≤ o → o < 12 → X2 o = X o
theorem dX5_trousers_0 : decode cX5_trousers 0 = .ok (.aload_n 0, 1) := by decide +kernel
theorem dX5_trousers_1 : decode cX5_trousers 1 = .ok (.getfield 33, 3) := by decide +kernel
theorem dX5_trousers_4 : decode cX5_trousers 4 = .ok (.invokevirtual 81, 3) := by decide +kernel
theorem dX5_trousers_7 : decode cX5_trousers 7 = .ok (.istore_n 1, 1) := by decide +kernel
theorem dX5_trousers_8 : decode cX5_trousers 8 = .ok (.iload_n 1, 1) := by decide +kernel
theorem dX5_trousers_9 : decode cX5_trousers 9 = .ok (.ifCond .lt 11, 3) := by decide +kernel
theorem dX5_trousers_12 : decode cX5_trousers 12 = .ok (.sipush (-1000), 3) := by decide +kernel
theorem dX5_trousers_15 : decode cX5_trousers 15 = .ok (.iload_n 1, 1) := by decide +kernel
theorem dX5_trousers_16 : decode cX5_trousers 16 = .ok (.isub, 1) := by decide +kernel
theorem dX5_trousers_17 : decode cX5_trousers 17 = .ok (.goto 7, 3) := by decide +kernel
theorem dX5_trousers_20 : decode cX5_trousers 20 = .ok (.aload_n 0, 1) := by decide +kernel
theorem dX5_trousers_21 : decode cX5_trousers 21 = .ok (.invokevirtual 85, 3) := by decide +kernel
theorem dX5_trousers_24 : decode cX5_trousers 24 = .ok (.istore_n 2, 1) := by decide +kernel
theorem dX5_trousers_25 : decode cX5_trousers 25 = .ok (.aload_n 0, 1) := by decide +kernel
theorem dX5_trousers_26 : decode cX5_trousers 26 = .ok (.getfield 33, 3) := by decide +kernel
theorem dX5_trousers_29 : decode cX5_trousers 29 = .ok (.iconst 0, 1) := by decide +kernel
theorem dX5_trousers_30 : decode cX5_trousers 30 = .ok (.putfield 73, 3) := by decide +kernel
theorem dX5_trousers_33 : decode cX5_trousers 33 = .ok (.iload_n 2, 1) := by decide +kernel
theorem dX5_trousers_34 : decode cX5_trousers 34 = .ok (.ireturn, 1) := by decide +kernel
set_option maxRecDepth 100000 in
set_option maxHeartbeats 4000000 in
theorem k_X5_trousers (κ : Kp) (xa : Nat → Nat → Nat) (X : XS) (hn : 0 ≤ X 16 1 0 ∧ X 16 1 0 ≤ 96) (hlr : ∀ j : Int, 0 ≤ j → j < 96 → 0 ≤ X 16 0 j ∧ X 16 0 j ≤ 255) (okt : okT (x0S X)) (okr : okRl (X 12)) (hub : X 12 4 0 < p2 (X 12 3 0)) : mI κ yX5_trousers cX5_trousers 3 .int 8 [.ref (xa 18 100)] (xw κ xa X) (fun r w => ∃ (q : Int) (X2 : XS), r = iI q ∧ w = xw κ xa X2 ∧ trX X X2 q) := by
  refine mI_of (by decide) (Nat.le_of_ble_eq_true rfl) (fun E F K => ?_)
  refine g_lv (lv' := [(0, .ref (xa 18 100))]) rfl ?_
  refine g_aload_n F 0 dX5_trousers_0 rfl ?_
  refine g18_get_3 F  lf_X5_33 dX5_trousers_1 ?_
  refine g_callNI F (stk := [.ref (xa 16 100)]) (st := []) (k_X3_formFault κ xa X hn hlr) cal_X3_formFault nm_X5_81 75 rfl rfl rfl rfl (by decide) rfl (Nat.le_of_ble_eq_true rfl) dX5_trousers_4 (fun r4 ws4 _ hr4 => ?_)
  obtain ⟨f4, rfl, rfl, hF4⟩ := hr4
  have hfi := FFR_in hF4 hn.2
  refine g_istore_n F (lv' := [(1, .int (iI f4)), (0, .ref (xa 18 100))]) 1 dX5_trousers_7 rfl (by decide) rfl ?_
  refine g_iload_n F 0 dX5_trousers_8 rfl ?_
  refine g_if_lt F 20 (by omega) dX5_trousers_9 (by decide) (fun c9 => ?_) (fun c9 => ?_)
  · skip
    have hf1 : f4 = -1 := by omega
    obtain ⟨GG, hGG⟩ : ∃ GG : Nat, gd (X 16 0) (X 16 1 0) GG ∧ X 16 1 0 ≤ ps (X 16 0) (X 16 1 0) GG := by obtain ⟨KK, h1, h2⟩ := hF4; rcases h2 with ⟨a, b, c⟩ | ⟨a, b, c⟩; exact ⟨KK, h1, b⟩; exact absurd (c.symm.trans hf1) b
    refine g_aload_n F 1 dX5_trousers_20 rfl ?_
    refine g_callI F (stk := [.ref (xa 18 100)]) (st := []) (k_X5_tellAll κ xa X GG hn hlr okt okr hub hGG) cal_X5_tellAll lm_X5_85 81 rfl rfl rfl rfl (by decide) rfl (Nat.le_of_ble_eq_true rfl) dX5_trousers_21 (fun r21 ws21 _ hr21 => ?_)
    obtain ⟨q21, t21, X2, rfl, rfl, hT, hC, h16, h18, h1, h13, hp⟩ := hr21
    refine g_istore_n F (lv' := [(2, .int (iI q21)), (1, .int (iI f4)), (0, .ref (xa 18 100))]) 2 dX5_trousers_24 rfl (by decide) rfl ?_
    refine g_aload_n F 2 dX5_trousers_25 rfl ?_
    refine g18_get_3 F  lf_X5_33 dX5_trousers_26 ?_
    refine g_iconst F dX5_trousers_29 ?_
    refine g16_putN_1 F   nf_X5_73 dX5_trousers_30 ?_
    refine g_iload_n F 0 dX5_trousers_33 rfl ?_
    exact K xw_same ⟨q21, _, rfl, rfl, ⟨-1, hf1 ▸ hF4, Or.inr ⟨rfl, t21, hT, hC⟩⟩, by show mA (X2 16) 1 _ = _; rw [h16], h18, h1, h13, fun o a b => by rw [setO_n (by omega)]; exact hp o a b⟩ rfl dX5_trousers_34
  · skip
    refine g_sipush F dX5_trousers_12 (by decide +kernel) ?_
    refine g_iload_n F 0 dX5_trousers_15 rfl ?_
    refine g_isub F dX5_trousers_16 ?_
    refine g_goto F 24 dX5_trousers_17 (by decide) ?_
    refine g_istore_n F (lv' := [(2, .int (iI ((-1000) - f4))), (1, .int (iI f4)), (0, .ref (xa 18 100))]) 2 dX5_trousers_24 rfl (by decide) rfl ?_
    refine g_aload_n F 2 dX5_trousers_25 rfl ?_
    refine g18_get_3 F  lf_X5_33 dX5_trousers_26 ?_
    refine g_iconst F dX5_trousers_29 ?_
    refine g16_putN_1 F   nf_X5_73 dX5_trousers_30 ?_
    refine g_iload_n F 0 dX5_trousers_33 rfl ?_
    exact K xw_same ⟨_, _, rfl, rfl, ⟨f4, hF4, Or.inl ⟨by omega, rfl, rfl, rfl, rfl⟩⟩, rfl, rfl, rfl, rfl, fun o a b => setO_n (by omega)⟩ rfl dX5_trousers_34
