
theorem goI_yrM {M : MS} {k : Int} (h : 0 ≤ k) (h2 : M 4 0 + k < 1000000) : stC M (goI k (cl M)) 4 0 < 1000000 := by
  have e := goI_yr (C := cl M) h
  have e2 : yr (cl M) = M 4 0 := rfl
  show yr (goI k (cl M)) < 1000000
  omega
theorem div_p2 {b k : Int} (h : 0 ≤ b) : 0 ≤ b / p2 k := Int.ediv_nonneg h (by have := p2_pos k; omega)
theorem dX6_refuse_0 : decode cX6_refuse 0 = .ok (.aload_n 0, 1) := by decide +kernel
theorem dX6_refuse_1 : decode cX6_refuse 1 = .ok (.getfield 34, 3) := by decide +kernel
theorem dX6_refuse_4 : decode cX6_refuse 4 = .ok (.iload_n 1, 1) := by decide +kernel
theorem dX6_refuse_5 : decode cX6_refuse 5 = .ok (.ineg, 1) := by decide +kernel
theorem dX6_refuse_6 : decode cX6_refuse 6 = .ok (.dup2, 1) := by decide +kernel
theorem dX6_refuse_7 : decode cX6_refuse 7 = .ok (.iaload, 1) := by decide +kernel
theorem dX6_refuse_8 : decode cX6_refuse 8 = .ok (.iconst 1, 1) := by decide +kernel
theorem dX6_refuse_9 : decode cX6_refuse 9 = .ok (.iadd, 1) := by decide +kernel
theorem dX6_refuse_10 : decode cX6_refuse 10 = .ok (.iastore, 1) := by decide +kernel
theorem dX6_refuse_11 : decode cX6_refuse 11 = .ok (.iload_n 1, 1) := by decide +kernel
theorem dX6_refuse_12 : decode cX6_refuse 12 = .ok (.ireturn, 1) := by decide +kernel
set_option maxRecDepth 100000 in
set_option maxHeartbeats 4000000 in
theorem k_X6_refuse (κ : Kp) (ma : Nat → Nat) (M : MS) (m : Int)  (hm : -6 ≤ m ∧ m ≤ 0) : mI κ yX6_refuse cX6_refuse 2 .int 0 [.ref (ma 100), .int (iI m)] (mw κ ma M) (is1 (iI (m)) (mw κ ma (mA M 11 (uI (M 11) (-m) (M 11 (-m) + 1))))) := by
  refine mI_of (by decide) (Nat.le_of_ble_eq_true rfl) (fun E F K => ?_)
  refine g_lv (lv' := [(0, .ref (ma 100)), (1, .int (iI m))]) rfl ?_
  refine g_aload_n F 0 dX6_refuse_0 rfl ?_
  refine gm_get_11 F dX6_refuse_1 ?_
  refine g_iload_n F 1 dX6_refuse_4 rfl ?_
  refine g_ineg F dX6_refuse_5 ?_
  refine g_dup2 F dX6_refuse_6 rfl rfl ?_
  refine gm_ald_11 F (by omega) dX6_refuse_7 ?_
  refine g_iconst F dX6_refuse_8 ?_
  refine g_iadd F dX6_refuse_9 ?_
  refine gm_ast_11 F (by omega) dX6_refuse_10 ?_
  refine g_iload_n F 1 dX6_refuse_11 rfl ?_
  exact K mw_same ⟨rfl, rfl⟩ rfl dX6_refuse_12
theorem dX6_isPiece_0 : decode cX6_isPiece 0 = .ok (.iload_n 1, 1) := by decide +kernel
theorem dX6_isPiece_1 : decode cX6_isPiece 1 = .ok (.i2l, 1) := by decide +kernel
theorem dX6_isPiece_2 : decode cX6_isPiece 2 = .ok (.lconst 0, 1) := by decide +kernel
theorem dX6_isPiece_3 : decode cX6_isPiece 3 = .ok (.aload_n 0, 1) := by decide +kernel
theorem dX6_isPiece_4 : decode cX6_isPiece 4 = .ok (.getfield 101, 3) := by decide +kernel
theorem dX6_isPiece_7 : decode cX6_isPiece 7 = .ok (.iconst 1, 1) := by decide +kernel
theorem dX6_isPiece_8 : decode cX6_isPiece 8 = .ok (.isub, 1) := by decide +kernel
theorem dX6_isPiece_9 : decode cX6_isPiece 9 = .ok (.i2l, 1) := by decide +kernel
theorem dX6_isPiece_10 : decode cX6_isPiece 10 = .ok (.invokestatic 97, 3) := by decide +kernel
theorem dX6_isPiece_13 : decode cX6_isPiece 13 = .ok (.ireturn, 1) := by decide +kernel
set_option maxRecDepth 100000 in
set_option maxHeartbeats 4000000 in
theorem k_X6_isPiece (κ : Kp) (ma : Nat → Nat) (M : MS) (p : Int)  (hp : In32 p ∧ 0 ≤ M 5 0 ∧ M 5 0 ≤ 6) : mI κ yX6_isPiece cX6_isPiece 2 .boolean 1 [.ref (ma 100), .int (iI p)] (mw κ ma M) (is1 (iI (b2i (0 ≤ p ∧ p < M 5 0))) (mw κ ma M)) := by
  refine mI_of (by decide) (Nat.le_of_ble_eq_true rfl) (fun E F K => ?_)
  refine g_lv (lv' := [(0, .ref (ma 100)), (1, .int (iI p))]) rfl ?_
  refine g_iload_n F 1 dX6_isPiece_0 rfl ?_
  refine g_i2l F (by omega) dX6_isPiece_1 ?_
  refine g_lconst F (z := 0) dX6_isPiece_2 rfl ?_
  refine g_aload_n F 0 dX6_isPiece_3 rfl ?_
  refine gm_get_5 F dX6_isPiece_4 ?_
  refine g_iconst F dX6_isPiece_7 ?_
  refine g_isub F dX6_isPiece_8 ?_
  refine g_i2l F (by omega) dX6_isPiece_9 ?_
  refine g_callSI F (stk := [.long (iL ((M 5 0) - 1)), .long (iL 0), .long (iL p)]) (st := []) (k_X6_in κ (mw κ ma M) p 0 ((M 5 0) - 1) (by omega)) cal_X6_in lm_X6_97 rfl (by decide) rfl (Nat.le_of_ble_eq_true rfl) dX6_isPiece_10 (fun r10 ws10 _ hr10 => ?_)
  obtain ⟨rfl, rfl⟩ := hr10
  exact K mw_same ⟨b2i_c (by omega), rfl⟩ (b2i_nar _) dX6_isPiece_13
theorem dX6_hasBit_0 : decode cX6_hasBit 0 = .ok (.iload_n 0, 1) := by decide +kernel
theorem dX6_hasBit_1 : decode cX6_hasBit 1 = .ok (.iload_n 1, 1) := by decide +kernel
theorem dX6_hasBit_2 : decode cX6_hasBit 2 = .ok (.ishr, 1) := by decide +kernel
theorem dX6_hasBit_3 : decode cX6_hasBit 3 = .ok (.iconst 1, 1) := by decide +kernel
theorem dX6_hasBit_4 : decode cX6_hasBit 4 = .ok (.iand, 1) := by decide +kernel
theorem dX6_hasBit_5 : decode cX6_hasBit 5 = .ok (.iconst 1, 1) := by decide +kernel
theorem dX6_hasBit_6 : decode cX6_hasBit 6 = .ok (.if_icmp .ne 7, 3) := by decide +kernel
theorem dX6_hasBit_9 : decode cX6_hasBit 9 = .ok (.iconst 1, 1) := by decide +kernel
theorem dX6_hasBit_10 : decode cX6_hasBit 10 = .ok (.goto 4, 3) := by decide +kernel
theorem dX6_hasBit_13 : decode cX6_hasBit 13 = .ok (.iconst 0, 1) := by decide +kernel
theorem dX6_hasBit_14 : decode cX6_hasBit 14 = .ok (.ireturn, 1) := by decide +kernel
set_option maxRecDepth 100000 in
set_option maxHeartbeats 4000000 in
theorem k_X6_hasBit (κ : Kp) (ws : va_W) (b : Int) (k : Int)  (hb : (0 ≤ b ∧ b ≤ 65535) ∧ 0 ≤ k ∧ k ≤ 15) : mI κ yX6_hasBit cX6_hasBit 2 .boolean 0 [.int (iI b), .int (iI k)] ws (is1 (iI (b2i (b / p2 k % 2 = 1))) ws) := by
  refine mI_of (by decide) (Nat.le_of_ble_eq_true rfl) (fun E F K => ?_)
  refine g_lv (lv' := [(0, .int (iI b)), (1, .int (iI k))]) rfl ?_
  refine g_iload_n F 0 dX6_hasBit_0 rfl ?_
  refine g_iload_n F 1 dX6_hasBit_1 rfl ?_
  refine g_ishr F dX6_hasBit_2 ?_
  refine g_top (y := iI (b / p2 k)) (iI_shr (by omega) (by omega) (by omega) (by omega)) ?_
  refine g_iconst F dX6_hasBit_3 ?_
  refine g_iand F dX6_hasBit_4 ?_
  refine g_top (y := iI (b / p2 k % 2)) (iI_and1 (div_p2 hb.1.1)) ?_
  refine g_iconst F dX6_hasBit_5 ?_
  refine g_icmp_ne F 13 (by omega) dX6_hasBit_6 (by decide) (fun c6 => ?_) (fun c6 => ?_)
  · skip
    refine g_iconst F dX6_hasBit_13 ?_
    exact K sameA.rf ⟨b2i_0 (by omega), rfl⟩ (by decide +kernel) dX6_hasBit_14
  · skip
    refine g_iconst F dX6_hasBit_9 ?_
    refine g_goto F 14 dX6_hasBit_10 (by decide) ?_
    exact K sameA.rf ⟨b2i_1 (by omega), rfl⟩ (by decide +kernel) dX6_hasBit_14
theorem dX6_wearsIn_0 : decode cX6_wearsIn 0 = .ok (.aload_n 0, 1) := by decide +kernel
theorem dX6_wearsIn_1 : decode cX6_wearsIn 1 = .ok (.iload_n 1, 1) := by decide +kernel
theorem dX6_wearsIn_2 : decode cX6_wearsIn 2 = .ok (.invokevirtual 114, 3) := by decide +kernel
theorem dX6_wearsIn_5 : decode cX6_wearsIn 5 = .ok (.iconst 5, 1) := by decide +kernel
theorem dX6_wearsIn_6 : decode cX6_wearsIn 6 = .ok (.idiv, 1) := by decide +kernel
theorem dX6_wearsIn_7 : decode cX6_wearsIn 7 = .ok (.istore_n 3, 1) := by decide +kernel
theorem dX6_wearsIn_8 : decode cX6_wearsIn 8 = .ok (.aload_n 0, 1) := by decide +kernel
theorem dX6_wearsIn_9 : decode cX6_wearsIn 9 = .ok (.getfield 7, 3) := by decide +kernel
theorem dX6_wearsIn_12 : decode cX6_wearsIn 12 = .ok (.iload_n 1, 1) := by decide +kernel
theorem dX6_wearsIn_13 : decode cX6_wearsIn 13 = .ok (.iaload, 1) := by decide +kernel
theorem dX6_wearsIn_14 : decode cX6_wearsIn 14 = .ok (.tableswitch 50 2 5 #[30, 34, 50, 48], 30) := by decide +kernel
theorem dX6_wearsIn_44 : decode cX6_wearsIn 44 = .ok (.iconst 2, 1) := by decide +kernel
theorem dX6_wearsIn_45 : decode cX6_wearsIn 45 = .ok (.iload_n 3, 1) := by decide +kernel
theorem dX6_wearsIn_46 : decode cX6_wearsIn 46 = .ok (.iadd, 1) := by decide +kernel
theorem dX6_wearsIn_47 : decode cX6_wearsIn 47 = .ok (.ireturn, 1) := by decide +kernel
theorem dX6_wearsIn_48 : decode cX6_wearsIn 48 = .ok (.iload_n 2, 1) := by decide +kernel
theorem dX6_wearsIn_49 : decode cX6_wearsIn 49 = .ok (.iconst 2, 1) := by decide +kernel
theorem dX6_wearsIn_50 : decode cX6_wearsIn 50 = .ok (.irem, 1) := by decide +kernel
theorem dX6_wearsIn_51 : decode cX6_wearsIn 51 = .ok (.ifCond .ne 7, 3) := by decide +kernel
theorem dX6_wearsIn_54 : decode cX6_wearsIn 54 = .ok (.iconst 0, 1) := by decide +kernel
theorem dX6_wearsIn_55 : decode cX6_wearsIn 55 = .ok (.goto 6, 3) := by decide +kernel
theorem dX6_wearsIn_58 : decode cX6_wearsIn 58 = .ok (.iconst 1, 1) := by decide +kernel
theorem dX6_wearsIn_59 : decode cX6_wearsIn 59 = .ok (.iload_n 3, 1) := by decide +kernel
theorem dX6_wearsIn_60 : decode cX6_wearsIn 60 = .ok (.iadd, 1) := by decide +kernel
theorem dX6_wearsIn_61 : decode cX6_wearsIn 61 = .ok (.ireturn, 1) := by decide +kernel
theorem dX6_wearsIn_62 : decode cX6_wearsIn 62 = .ok (.iload_n 3, 1) := by decide +kernel
theorem dX6_wearsIn_63 : decode cX6_wearsIn 63 = .ok (.ireturn, 1) := by decide +kernel
theorem dX6_wearsIn_64 : decode cX6_wearsIn 64 = .ok (.iconst 1, 1) := by decide +kernel
theorem dX6_wearsIn_65 : decode cX6_wearsIn 65 = .ok (.iload_n 3, 1) := by decide +kernel
theorem dX6_wearsIn_66 : decode cX6_wearsIn 66 = .ok (.iadd, 1) := by decide +kernel
theorem dX6_wearsIn_67 : decode cX6_wearsIn 67 = .ok (.ireturn, 1) := by decide +kernel
set_option maxRecDepth 100000 in
set_option maxHeartbeats 4000000 in
theorem k_X6_wearsIn (κ : Kp) (ma : Nat → Nat) (M : MS) (c : Int) (y : Int)  (h0 : 0 ≤ c ∧ c < 12) (hy : 0 ≤ y ∧ y ≤ 1000000) (ok : okA (cl M)) : mI κ yX6_wearsIn cX6_wearsIn 4 .int 2 [.ref (ma 100), .int (iI c), .int (iI y)] (mw κ ma M) (is1 (iI (wearing (cl M) y c)) (mw κ ma M)) := by
  refine mI_of (by decide) (Nat.le_of_ble_eq_true rfl) (fun E F K => ?_)
  refine g_lv (lv' := [(0, .ref (ma 100)), (1, .int (iI c)), (2, .int (iI y))]) rfl ?_
  refine g_aload_n F 0 dX6_wearsIn_0 rfl ?_
  refine g_iload_n F 1 dX6_wearsIn_1 rfl ?_
  refine g_callI F (stk := [.int (iI c), .ref (ma 100)]) (st := []) (k_X6_pullOf κ ma M c (by omega) ok) cal_X6_pullOf lm_X6_114 0 rfl rfl rfl rfl (by decide) rfl (Nat.le_of_ble_eq_true rfl) dX6_wearsIn_2 (fun r2 ws2 _ hr2 => ?_)
  obtain ⟨rfl, rfl⟩ := hr2
  have hp := pull_bd ok h0.1 h0.2
  refine g_iconst F dX6_wearsIn_5 ?_
  refine g_idiv F dX6_wearsIn_6 (by omega) ?_
  refine g_istore_n F (lv' := [(3, .int (iI ((pull (cl M) c) / 5))), (0, .ref (ma 100)), (1, .int (iI c)), (2, .int (iI y))]) 3 dX6_wearsIn_7 rfl (by decide) rfl ?_
  refine g_aload_n F 1 dX6_wearsIn_8 rfl ?_
  refine gm_get_0 F dX6_wearsIn_9 ?_
  refine g_iload_n F 2 dX6_wearsIn_12 rfl ?_
  refine gm_ald_0 F (by omega) dX6_wearsIn_13 ?_
  have hk : (0 ≤ M 0 c ∧ M 0 c ≤ 5) ∧ (0 ≤ M 1 c ∧ M 1 c ≤ 9) ∧ 0 ≤ M 2 c ∧ M 2 c ≤ 99 := ok c (by omega) (by omega)
  by_cases c14_2 : (M 0 c) = 2
  · skip
    refine g_tsw_in F 44 (by omega) dX6_wearsIn_14 (by omega) (by omega) (by rw [c14_2]; rfl) (by decide) ?_
    refine g_iconst F dX6_wearsIn_44 ?_
    refine g_iload_n F 0 dX6_wearsIn_45 rfl ?_
    refine g_iadd F dX6_wearsIn_46 ?_
    exact K mw_same ⟨congrArg iI (show 2 + ((pull (cl M) c) / 5) = wearing (cl M) y c from by unfold wearing; rw [if_pos c14_2]), rfl⟩ rfl dX6_wearsIn_47
  by_cases c14_3 : (M 0 c) = 3
  · skip
    refine g_tsw_in F 48 (by omega) dX6_wearsIn_14 (by omega) (by omega) (by rw [c14_3]; rfl) (by decide) ?_
    refine g_iload_n F 3 dX6_wearsIn_48 rfl ?_
    refine g_iconst F dX6_wearsIn_49 ?_
    refine g_irem F dX6_wearsIn_50 (by omega) ?_
    refine g_if_ne F 58 (by omega) dX6_wearsIn_51 (by decide) (fun c51 => ?_) (fun c51 => ?_)
    · skip
      refine g_iconst F dX6_wearsIn_58 ?_
      refine g_iload_n F 0 dX6_wearsIn_59 rfl ?_
      refine g_iadd F dX6_wearsIn_60 ?_
      exact K mw_same ⟨congrArg iI (show 1 + ((pull (cl M) c) / 5) = wearing (cl M) y c from by unfold wearing; first | rw [if_neg c14_2, if_pos c14_3, if_neg c51] | rw [if_neg c14_2, if_pos c14_3, if_pos c51]), rfl⟩ rfl dX6_wearsIn_61
    · skip
      refine g_iconst F dX6_wearsIn_54 ?_
      refine g_goto F 61 dX6_wearsIn_55 (by decide) ?_
      exact K mw_same ⟨congrArg iI (show 0 = wearing (cl M) y c from by unfold wearing; first | rw [if_neg c14_2, if_pos c14_3, if_neg c51] | rw [if_neg c14_2, if_pos c14_3, if_pos c51]), rfl⟩ rfl dX6_wearsIn_61
  by_cases c14_5 : (M 0 c) = 5
  · skip
    refine g_tsw_in F 62 (by omega) dX6_wearsIn_14 (by omega) (by omega) (by rw [c14_5]; rfl) (by decide) ?_
    refine g_iload_n F 0 dX6_wearsIn_62 rfl ?_
    exact K mw_same ⟨congrArg iI (show (pull (cl M) c) / 5 = wearing (cl M) y c from by unfold wearing; rw [if_neg c14_2, if_neg c14_3, if_pos c14_5]), rfl⟩ rfl dX6_wearsIn_63
  by_cases c14_4 : (M 0 c) = 4
  · skip
    refine g_tsw_in F 64 (by omega) dX6_wearsIn_14 (by omega) (by omega) (by rw [c14_4]; rfl) (by decide) ?_
    refine g_iconst F dX6_wearsIn_64 ?_
    refine g_iload_n F 0 dX6_wearsIn_65 rfl ?_
    refine g_iadd F dX6_wearsIn_66 ?_
    exact K mw_same ⟨congrArg iI (show 1 + ((pull (cl M) c) / 5) = wearing (cl M) y c from by unfold wearing; rw [if_neg c14_2, if_neg c14_3, if_neg c14_5]), rfl⟩ rfl dX6_wearsIn_67
  refine g_tsw_out F 64 (by omega) dX6_wearsIn_14 (by omega) (by decide) ?_
  refine g_iconst F dX6_wearsIn_64 ?_
  refine g_iload_n F 0 dX6_wearsIn_65 rfl ?_
  refine g_iadd F dX6_wearsIn_66 ?_
  exact K mw_same ⟨congrArg iI (show 1 + ((pull (cl M) c) / 5) = wearing (cl M) y c from by unfold wearing; rw [if_neg c14_2, if_neg c14_3, if_neg c14_5]), rfl⟩ rfl dX6_wearsIn_67
theorem dX6_holdsOf_0 : decode cX6_holdsOf 0 = .ok (.aload_n 0, 1) := by decide +kernel
theorem dX6_holdsOf_1 : decode cX6_holdsOf 1 = .ok (.getfield 7, 3) := by decide +kernel
theorem dX6_holdsOf_4 : decode cX6_holdsOf 4 = .ok (.iload_n 1, 1) := by decide +kernel
theorem dX6_holdsOf_5 : decode cX6_holdsOf 5 = .ok (.iaload, 1) := by decide +kernel
theorem dX6_holdsOf_6 : decode cX6_holdsOf 6 = .ok (.tableswitch 61 1 5 #[34, 44, 34, 56, 58], 34) := by decide +kernel
theorem dX6_holdsOf_40 : decode cX6_holdsOf 40 = .ok (.bipush 15, 2) := by decide +kernel
theorem dX6_holdsOf_42 : decode cX6_holdsOf 42 = .ok (.aload_n 0, 1) := by decide +kernel
theorem dX6_holdsOf_43 : decode cX6_holdsOf 43 = .ok (.getfield 13, 3) := by decide +kernel
theorem dX6_holdsOf_46 : decode cX6_holdsOf 46 = .ok (.iload_n 1, 1) := by decide +kernel
theorem dX6_holdsOf_47 : decode cX6_holdsOf 47 = .ok (.iaload, 1) := by decide +kernel
theorem dX6_holdsOf_48 : decode cX6_holdsOf 48 = .ok (.iadd, 1) := by decide +kernel
theorem dX6_holdsOf_49 : decode cX6_holdsOf 49 = .ok (.ireturn, 1) := by decide +kernel
theorem dX6_holdsOf_50 : decode cX6_holdsOf 50 = .ok (.bipush 10, 2) := by decide +kernel
theorem dX6_holdsOf_52 : decode cX6_holdsOf 52 = .ok (.aload_n 0, 1) := by decide +kernel
theorem dX6_holdsOf_53 : decode cX6_holdsOf 53 = .ok (.getfield 13, 3) := by decide +kernel
theorem dX6_holdsOf_56 : decode cX6_holdsOf 56 = .ok (.iload_n 1, 1) := by decide +kernel
theorem dX6_holdsOf_57 : decode cX6_holdsOf 57 = .ok (.iaload, 1) := by decide +kernel
theorem dX6_holdsOf_58 : decode cX6_holdsOf 58 = .ok (.iadd, 1) := by decide +kernel
theorem dX6_holdsOf_59 : decode cX6_holdsOf 59 = .ok (.iconst 2, 1) := by decide +kernel
theorem dX6_holdsOf_60 : decode cX6_holdsOf 60 = .ok (.idiv, 1) := by decide +kernel
theorem dX6_holdsOf_61 : decode cX6_holdsOf 61 = .ok (.ireturn, 1) := by decide +kernel
theorem dX6_holdsOf_62 : decode cX6_holdsOf 62 = .ok (.iconst 5, 1) := by decide +kernel
theorem dX6_holdsOf_63 : decode cX6_holdsOf 63 = .ok (.ireturn, 1) := by decide +kernel
theorem dX6_holdsOf_64 : decode cX6_holdsOf 64 = .ok (.bipush 10, 2) := by decide +kernel
theorem dX6_holdsOf_66 : decode cX6_holdsOf 66 = .ok (.ireturn, 1) := by decide +kernel
theorem dX6_holdsOf_67 : decode cX6_holdsOf 67 = .ok (.bipush 10, 2) := by decide +kernel
theorem dX6_holdsOf_69 : decode cX6_holdsOf 69 = .ok (.aload_n 0, 1) := by decide +kernel
theorem dX6_holdsOf_70 : decode cX6_holdsOf 70 = .ok (.getfield 13, 3) := by decide +kernel
theorem dX6_holdsOf_73 : decode cX6_holdsOf 73 = .ok (.iload_n 1, 1) := by decide +kernel
theorem dX6_holdsOf_74 : decode cX6_holdsOf 74 = .ok (.iaload, 1) := by decide +kernel
theorem dX6_holdsOf_75 : decode cX6_holdsOf 75 = .ok (.iadd, 1) := by decide +kernel
theorem dX6_holdsOf_76 : decode cX6_holdsOf 76 = .ok (.ireturn, 1) := by decide +kernel
set_option maxRecDepth 100000 in
set_option maxHeartbeats 4000000 in
theorem k_X6_holdsOf (κ : Kp) (ma : Nat → Nat) (M : MS) (c : Int)  (h0 : 0 ≤ c ∧ c < 12) (ok : okA (cl M)) : mI κ yX6_holdsOf cX6_holdsOf 2 .int 0 [.ref (ma 100), .int (iI c)] (mw κ ma M) (is1 (iI (hold (cl M) c)) (mw κ ma M)) := by
  refine mI_of (by decide) (Nat.le_of_ble_eq_true rfl) (fun E F K => ?_)
  refine g_lv (lv' := [(0, .ref (ma 100)), (1, .int (iI c))]) rfl ?_
  refine g_aload_n F 0 dX6_holdsOf_0 rfl ?_
  refine gm_get_0 F dX6_holdsOf_1 ?_
  have hk : (0 ≤ M 0 c ∧ M 0 c ≤ 5) ∧ (0 ≤ M 1 c ∧ M 1 c ≤ 9) ∧ 0 ≤ M 2 c ∧ M 2 c ≤ 99 := ok c (by omega) (by omega)
  refine g_iload_n F 1 dX6_holdsOf_4 rfl ?_
  refine gm_ald_0 F (by omega) dX6_holdsOf_5 ?_
  by_cases c6_1 : (M 0 c) = 1
  · skip
    refine g_tsw_in F 40 (by omega) dX6_holdsOf_6 (by omega) (by omega) (by rw [c6_1]; rfl) (by decide) ?_
    refine g_bipush F dX6_holdsOf_40 (by decide +kernel) ?_
    refine g_aload_n F 0 dX6_holdsOf_42 rfl ?_
    refine gm_get_1 F dX6_holdsOf_43 ?_
    refine g_iload_n F 1 dX6_holdsOf_46 rfl ?_
    refine gm_ald_1 F (by omega) dX6_holdsOf_47 ?_
    refine g_iadd F dX6_holdsOf_48 ?_
    exact K mw_same ⟨congrArg iI (show 15 + (M 1 c) = hold (cl M) c from by unfold hold; first | rw [if_pos (Or.inl c6_1)] | rw [if_pos (Or.inr c6_3)]), rfl⟩ rfl dX6_holdsOf_49
  by_cases c6_2 : (M 0 c) = 2
  · skip
    refine g_tsw_in F 50 (by omega) dX6_holdsOf_6 (by omega) (by omega) (by rw [c6_2]; rfl) (by decide) ?_
    refine g_bipush F dX6_holdsOf_50 (by decide +kernel) ?_
    refine g_aload_n F 0 dX6_holdsOf_52 rfl ?_
    refine gm_get_1 F dX6_holdsOf_53 ?_
    refine g_iload_n F 1 dX6_holdsOf_56 rfl ?_
    refine gm_ald_1 F (by omega) dX6_holdsOf_57 ?_
    refine g_iadd F dX6_holdsOf_58 ?_
    refine g_iconst F dX6_holdsOf_59 ?_
    refine g_idiv F dX6_holdsOf_60 (by omega) ?_
    exact K mw_same ⟨congrArg iI (show (10 + (M 1 c)) / 2 = hold (cl M) c from by unfold hold; rw [if_neg (by show ¬ (M 0 c = 1 ∨ M 0 c = 3); omega), if_pos c6_2]), rfl⟩ rfl dX6_holdsOf_61
  by_cases c6_3 : (M 0 c) = 3
  · skip
    refine g_tsw_in F 40 (by omega) dX6_holdsOf_6 (by omega) (by omega) (by rw [c6_3]; rfl) (by decide) ?_
    refine g_bipush F dX6_holdsOf_40 (by decide +kernel) ?_
    refine g_aload_n F 0 dX6_holdsOf_42 rfl ?_
    refine gm_get_1 F dX6_holdsOf_43 ?_
    refine g_iload_n F 1 dX6_holdsOf_46 rfl ?_
    refine gm_ald_1 F (by omega) dX6_holdsOf_47 ?_
    refine g_iadd F dX6_holdsOf_48 ?_
    exact K mw_same ⟨congrArg iI (show 15 + (M 1 c) = hold (cl M) c from by unfold hold; first | rw [if_pos (Or.inl c6_1)] | rw [if_pos (Or.inr c6_3)]), rfl⟩ rfl dX6_holdsOf_49
  by_cases c6_4 : (M 0 c) = 4
  · skip
    refine g_tsw_in F 62 (by omega) dX6_holdsOf_6 (by omega) (by omega) (by rw [c6_4]; rfl) (by decide) ?_
    refine g_iconst F dX6_holdsOf_62 ?_
    exact K mw_same ⟨congrArg iI (show 5 = hold (cl M) c from by unfold hold; rw [if_neg (by show ¬ (M 0 c = 1 ∨ M 0 c = 3); omega), if_neg c6_2, if_pos c6_4]), rfl⟩ rfl dX6_holdsOf_63
  by_cases c6_5 : (M 0 c) = 5
  · skip
    refine g_tsw_in F 64 (by omega) dX6_holdsOf_6 (by omega) (by omega) (by rw [c6_5]; rfl) (by decide) ?_
    refine g_bipush F dX6_holdsOf_64 (by decide +kernel) ?_
    exact K mw_same ⟨congrArg iI (show 10 = hold (cl M) c from by unfold hold; rw [if_neg (by show ¬ (M 0 c = 1 ∨ M 0 c = 3); omega), if_neg c6_2, if_neg c6_4, if_pos c6_5]), rfl⟩ rfl dX6_holdsOf_66
  refine g_tsw_out F 67 (by omega) dX6_holdsOf_6 (by omega) (by decide) ?_
  refine g_bipush F dX6_holdsOf_67 (by decide +kernel) ?_
  refine g_aload_n F 0 dX6_holdsOf_69 rfl ?_
  refine gm_get_1 F dX6_holdsOf_70 ?_
  refine g_iload_n F 1 dX6_holdsOf_73 rfl ?_
  refine gm_ald_1 F (by omega) dX6_holdsOf_74 ?_
  refine g_iadd F dX6_holdsOf_75 ?_
  exact K mw_same ⟨congrArg iI (show 10 + (M 1 c) = hold (cl M) c from by unfold hold; rw [if_neg (by show ¬ (M 0 c = 1 ∨ M 0 c = 3); omega), if_neg c6_2, if_neg c6_4, if_neg c6_5]), rfl⟩ rfl dX6_holdsOf_76
theorem dX6_isHole_0 : decode cX6_isHole 0 = .ok (.aload_n 0, 1) := by decide +kernel
theorem dX6_isHole_1 : decode cX6_isHole 1 = .ok (.getfield 19, 3) := by decide +kernel
theorem dX6_isHole_4 : decode cX6_isHole 4 = .ok (.iload_n 1, 1) := by decide +kernel
theorem dX6_isHole_5 : decode cX6_isHole 5 = .ok (.iaload, 1) := by decide +kernel
theorem dX6_isHole_6 : decode cX6_isHole 6 = .ok (.aload_n 0, 1) := by decide +kernel
theorem dX6_isHole_7 : decode cX6_isHole 7 = .ok (.iload_n 1, 1) := by decide +kernel
theorem dX6_isHole_8 : decode cX6_isHole 8 = .ok (.invokevirtual 118, 3) := by decide +kernel
theorem dX6_isHole_11 : decode cX6_isHole 11 = .ok (.if_icmp .lt 7, 3) := by decide +kernel
theorem dX6_isHole_14 : decode cX6_isHole 14 = .ok (.iconst 1, 1) := by decide +kernel
theorem dX6_isHole_15 : decode cX6_isHole 15 = .ok (.goto 4, 3) := by decide +kernel
theorem dX6_isHole_18 : decode cX6_isHole 18 = .ok (.iconst 0, 1) := by decide +kernel
theorem dX6_isHole_19 : decode cX6_isHole 19 = .ok (.ireturn, 1) := by decide +kernel
set_option maxRecDepth 100000 in
set_option maxHeartbeats 4000000 in
theorem k_X6_isHole (κ : Kp) (ma : Nat → Nat) (M : MS) (c : Int)  (h0 : 0 ≤ c ∧ c < 12) (ok : okC (cl M)) : mI κ yX6_isHole cX6_isHole 2 .boolean 1 [.ref (ma 100), .int (iI c)] (mw κ ma M) (is1 (iI (b2i (hole (cl M) c))) (mw κ ma M)) := by
  refine mI_of (by decide) (Nat.le_of_ble_eq_true rfl) (fun E F K => ?_)
  refine g_lv (lv' := [(0, .ref (ma 100)), (1, .int (iI c))]) rfl ?_
  refine g_aload_n F 0 dX6_isHole_0 rfl ?_
  refine gm_get_3 F dX6_isHole_1 ?_
  refine g_iload_n F 1 dX6_isHole_4 rfl ?_
  refine gm_ald_3 F (by omega) dX6_isHole_5 ?_
  refine g_aload_n F 0 dX6_isHole_6 rfl ?_
  refine g_iload_n F 1 dX6_isHole_7 rfl ?_
  refine g_callI F (stk := [.int (iI c), .ref (ma 100), .int (iI (M 3 c))]) (st := [.int (iI (M 3 c))]) (k_X6_holdsOf κ ma M c (by omega) ok.A) cal_X6_holdsOf lm_X6_118 0 rfl rfl rfl rfl (by decide) rfl (Nat.le_of_ble_eq_true rfl) dX6_isHole_8 (fun r8 ws8 _ hr8 => ?_)
  obtain ⟨rfl, rfl⟩ := hr8
  have hk : (0 ≤ M 0 c ∧ M 0 c ≤ 5) ∧ (0 ≤ M 1 c ∧ M 1 c ≤ 9) ∧ (0 ≤ M 2 c ∧ M 2 c ≤ 99) ∧ 0 ≤ M 3 c ∧ M 3 c ≤ 99 := ok.r (by omega) (by omega)
  have hd := hold_bd ok.A h0.1 h0.2
  refine g_icmp_lt F 18 (by omega) dX6_isHole_11 (by decide) (fun c11 => ?_) (fun c11 => ?_)
  · skip
    refine g_iconst F dX6_isHole_18 ?_
    exact K mw_same ⟨b2i_0 (show ¬ hold (cl M) c ≤ M 3 c by omega), rfl⟩ (by decide +kernel) dX6_isHole_19
  · skip
    refine g_iconst F dX6_isHole_14 ?_
    refine g_goto F 19 dX6_isHole_15 (by decide) ?_
    exact K mw_same ⟨b2i_1 (show hold (cl M) c ≤ M 3 c by omega), rfl⟩ (by decide +kernel) dX6_isHole_19
theorem dX6_holeBits_0 : decode cX6_holeBits 0 = .ok (.iconst 0, 1) := by decide +kernel
theorem dX6_holeBits_1 : decode cX6_holeBits 1 = .ok (.istore_n 1, 1) := by decide +kernel
theorem dX6_holeBits_2 : decode cX6_holeBits 2 = .ok (.iconst 0, 1) := by decide +kernel
theorem dX6_holeBits_3 : decode cX6_holeBits 3 = .ok (.istore_n 2, 1) := by decide +kernel
theorem dX6_holeBits_4 : decode cX6_holeBits 4 = .ok (.iload_n 2, 1) := by decide +kernel
theorem dX6_holeBits_5 : decode cX6_holeBits 5 = .ok (.bipush 12, 2) := by decide +kernel
theorem dX6_holeBits_7 : decode cX6_holeBits 7 = .ok (.if_icmp .ge 27, 3) := by decide +kernel
theorem dX6_holeBits_10 : decode cX6_holeBits 10 = .ok (.iload_n 1, 1) := by decide +kernel
theorem dX6_holeBits_11 : decode cX6_holeBits 11 = .ok (.aload_n 0, 1) := by decide +kernel
theorem dX6_holeBits_12 : decode cX6_holeBits 12 = .ok (.iload_n 2, 1) := by decide +kernel
theorem dX6_holeBits_13 : decode cX6_holeBits 13 = .ok (.invokevirtual 121, 3) := by decide +kernel
theorem dX6_holeBits_16 : decode cX6_holeBits 16 = .ok (.ifCond .eq 9, 3) := by decide +kernel
theorem dX6_holeBits_19 : decode cX6_holeBits 19 = .ok (.iconst 1, 1) := by decide +kernel
theorem dX6_holeBits_20 : decode cX6_holeBits 20 = .ok (.iload_n 2, 1) := by decide +kernel
theorem dX6_holeBits_21 : decode cX6_holeBits 21 = .ok (.ishl, 1) := by decide +kernel
theorem dX6_holeBits_22 : decode cX6_holeBits 22 = .ok (.goto 4, 3) := by decide +kernel
theorem dX6_holeBits_25 : decode cX6_holeBits 25 = .ok (.iconst 0, 1) := by decide +kernel
theorem dX6_holeBits_26 : decode cX6_holeBits 26 = .ok (.ior, 1) := by decide +kernel
theorem dX6_holeBits_27 : decode cX6_holeBits 27 = .ok (.istore_n 1, 1) := by decide +kernel
theorem dX6_holeBits_28 : decode cX6_holeBits 28 = .ok (.iinc 2 1, 3) := by decide +kernel
theorem dX6_holeBits_31 : decode cX6_holeBits 31 = .ok (.goto (-27), 3) := by decide +kernel
theorem dX6_holeBits_34 : decode cX6_holeBits 34 = .ok (.iload_n 1, 1) := by decide +kernel
theorem dX6_holeBits_35 : decode cX6_holeBits 35 = .ok (.ireturn, 1) := by decide +kernel
set_option maxRecDepth 100000 in
set_option maxHeartbeats 4000000 in
theorem k_X6_holeBits (κ : Kp) (ma : Nat → Nat) (M : MS)  (ok : okC (cl M)) : mI κ yX6_holeBits cX6_holeBits 3 .int 2 [.ref (ma 100)] (mw κ ma M) (is1 (iI (hbits (cl M))) (mw κ ma M)) := by
  refine mI_of (by decide) (Nat.le_of_ble_eq_true rfl) (fun E F K => ?_)
  refine g_lv (lv' := [(0, .ref (ma 100))]) rfl ?_
  refine g_iconst F dX6_holeBits_0 ?_
  refine g_istore_n F (lv' := [(1, .int (iI 0)), (0, .ref (ma 100))]) 1 dX6_holeBits_1 rfl (by decide) rfl ?_
  refine g_iconst F dX6_holeBits_2 ?_
  refine g_istore_n F (lv' := [(2, .int (iI 0)), (1, .int (iI 0)), (0, .ref (ma 100))]) 2 dX6_holeBits_3 rfl (by decide) rfl ?_
  have L4 : ∀ (mz4 : Nat) (i : Int) (b : Int), (12 - i).toNat = mz4 → (0 ≤ i ∧ i ≤ 12) → (b = sumI (hbf (cl M)) i) → G E (mw κ ma M) [(2, .int (iI i)), (1, .int (iI b)), (0, .ref (ma 100))] 4 [] := by
    intro mz4
    induction mz4 using Nat.strongRecOn with
    | _ mz4 ih4 =>
    intro i b hmz4 hi hb
    refine g_iload_n F 0 dX6_holeBits_4 rfl ?_
    refine g_bipush F dX6_holeBits_5 (by decide +kernel) ?_
    refine g_icmp_ge F 34 (by omega) dX6_holeBits_7 (by decide) (fun c7 => ?_) (fun c7 => ?_)
    · skip
      refine g_iload_n F 1 dX6_holeBits_34 rfl ?_
      exact K mw_same ⟨congrArg iI (show b = hbits (cl M) from by rw [hb, show i = 12 by omega]; rfl), rfl⟩ rfl dX6_holeBits_35
    · skip
      have hbb : 0 ≤ b ∧ b < p2 i := by rw [hb]; exact hbits_bd _ hi.1
      refine g_iload_n F 1 dX6_holeBits_10 rfl ?_
      refine g_aload_n F 2 dX6_holeBits_11 rfl ?_
      refine g_iload_n F 0 dX6_holeBits_12 rfl ?_
      refine g_callI F (stk := [.int (iI i), .ref (ma 100), .int (iI b)]) (st := [.int (iI b)]) (k_X6_isHole κ ma M i (by omega) ok) cal_X6_isHole lm_X6_121 0 rfl rfl rfl rfl (by decide) rfl (Nat.le_of_ble_eq_true rfl) dX6_holeBits_13 (fun r13 ws13 _ hr13 => ?_)
      obtain ⟨rfl, rfl⟩ := hr13
      refine g_if_eq F 25 (b2i_in _) dX6_holeBits_16 (by decide) (fun c16 => ?_) (fun c16 => ?_)
      · skip
        have c16 : ¬ (hole (cl M) i) := b2i_f c16
        refine g_iconst F dX6_holeBits_25 ?_
        refine g_ior F dX6_holeBits_26 ?_
        refine g_top (y := iI b) (by rw [iI_bor hbb.1 (by decide), bor_0 hbb.1]) ?_
        refine g_istore_n F (lv' := [(1, .int (iI b)), (2, .int (iI i)), (0, .ref (ma 100))]) 1 dX6_holeBits_27 rfl (by decide) rfl ?_
        refine g_iinc F (lv' := [(2, .int (iI (i + 1))), (1, .int (iI b)), (0, .ref (ma 100))]) 1 dX6_holeBits_28 rfl (by decide) rfl ?_
        refine g_goto F 4 dX6_holeBits_31 (by decide) ?_
        refine g_sub F (lv' := [(2, .int (iI (i + 1))), (1, .int (iI b)), (0, .ref (ma 100))]) [0, 1, 2] rfl ?_
        exact ih4 _ (by omega) (i + 1) b rfl (by omega) (by rw [sumI_s _ hi.1, ← hb]; unfold hbf; first | rw [if_pos c16] | (rw [if_neg c16]; omega))
      · skip
        have c16 : hole (cl M) i := b2i_t c16
        refine g_iconst F dX6_holeBits_19 ?_
        refine g_iload_n F 0 dX6_holeBits_20 rfl ?_
        refine g_ishl F dX6_holeBits_21 ?_
        refine g_top (y := iI (p2 i)) (iI_shl1 (by omega) (by omega)) ?_
        refine g_goto F 26 dX6_holeBits_22 (by decide) ?_
        refine g_ior F dX6_holeBits_26 ?_
        refine g_top (y := iI (b + p2 i)) (by rw [iI_bor hbb.1 (by have := p2_pos i; omega), bor_p2 hbb.1 hbb.2]) ?_
        refine g_istore_n F (lv' := [(1, .int (iI (b + p2 i))), (2, .int (iI i)), (0, .ref (ma 100))]) 1 dX6_holeBits_27 rfl (by decide) rfl ?_
        refine g_iinc F (lv' := [(2, .int (iI (i + 1))), (1, .int (iI (b + p2 i))), (0, .ref (ma 100))]) 1 dX6_holeBits_28 rfl (by decide) rfl ?_
        refine g_goto F 4 dX6_holeBits_31 (by decide) ?_
        refine g_sub F (lv' := [(2, .int (iI (i + 1))), (1, .int (iI (b + p2 i))), (0, .ref (ma 100))]) [0, 1, 2] rfl ?_
        exact ih4 _ (by omega) (i + 1) (b + p2 i) rfl (by omega) (by rw [sumI_s _ hi.1, ← hb]; unfold hbf; first | rw [if_pos c16] | (rw [if_neg c16]; omega))
  refine g_sub F (lv' := [(2, .int (iI 0)), (1, .int (iI 0)), (0, .ref (ma 100))]) [0, 1, 2] rfl ?_
  exact L4 _ 0 0 rfl (by omega) (sumI_0 _).symm
theorem dX6_allPull_0 : decode cX6_allPull 0 = .ok (.iconst 0, 1) := by decide +kernel
theorem dX6_allPull_1 : decode cX6_allPull 1 = .ok (.istore_n 1, 1) := by decide +kernel
theorem dX6_allPull_2 : decode cX6_allPull 2 = .ok (.iconst 0, 1) := by decide +kernel
theorem dX6_allPull_3 : decode cX6_allPull 3 = .ok (.istore_n 2, 1) := by decide +kernel
theorem dX6_allPull_4 : decode cX6_allPull 4 = .ok (.iload_n 2, 1) := by decide +kernel
theorem dX6_allPull_5 : decode cX6_allPull 5 = .ok (.bipush 12, 2) := by decide +kernel
theorem dX6_allPull_7 : decode cX6_allPull 7 = .ok (.if_icmp .ge 17, 3) := by decide +kernel
theorem dX6_allPull_10 : decode cX6_allPull 10 = .ok (.iload_n 1, 1) := by decide +kernel
theorem dX6_allPull_11 : decode cX6_allPull 11 = .ok (.aload_n 0, 1) := by decide +kernel
theorem dX6_allPull_12 : decode cX6_allPull 12 = .ok (.iload_n 2, 1) := by decide +kernel
theorem dX6_allPull_13 : decode cX6_allPull 13 = .ok (.invokevirtual 114, 3) := by decide +kernel
theorem dX6_allPull_16 : decode cX6_allPull 16 = .ok (.iadd, 1) := by decide +kernel
theorem dX6_allPull_17 : decode cX6_allPull 17 = .ok (.istore_n 1, 1) := by decide +kernel
theorem dX6_allPull_18 : decode cX6_allPull 18 = .ok (.iinc 2 1, 3) := by decide +kernel
theorem dX6_allPull_21 : decode cX6_allPull 21 = .ok (.goto (-17), 3) := by decide +kernel
theorem dX6_allPull_24 : decode cX6_allPull 24 = .ok (.iload_n 1, 1) := by decide +kernel
theorem dX6_allPull_25 : decode cX6_allPull 25 = .ok (.ireturn, 1) := by decide +kernel
set_option maxRecDepth 100000 in
set_option maxHeartbeats 4000000 in
theorem k_X6_allPull (κ : Kp) (ma : Nat → Nat) (M : MS)  (ok : okA (cl M)) : mI κ yX6_allPull cX6_allPull 3 .int 2 [.ref (ma 100)] (mw κ ma M) (is1 (iI (allPull (cl M))) (mw κ ma M)) := by
  refine mI_of (by decide) (Nat.le_of_ble_eq_true rfl) (fun E F K => ?_)
  refine g_lv (lv' := [(0, .ref (ma 100))]) rfl ?_
  refine g_iconst F dX6_allPull_0 ?_
  refine g_istore_n F (lv' := [(1, .int (iI 0)), (0, .ref (ma 100))]) 1 dX6_allPull_1 rfl (by decide) rfl ?_
  refine g_iconst F dX6_allPull_2 ?_
  refine g_istore_n F (lv' := [(2, .int (iI 0)), (1, .int (iI 0)), (0, .ref (ma 100))]) 2 dX6_allPull_3 rfl (by decide) rfl ?_
  have L4 : ∀ (mz4 : Nat) (i : Int) (sm : Int), (12 - i).toNat = mz4 → (0 ≤ i ∧ i ≤ 12) → (sm = sumI (pull (cl M)) i) → G E (mw κ ma M) [(2, .int (iI i)), (1, .int (iI sm)), (0, .ref (ma 100))] 4 [] := by
    intro mz4
    induction mz4 using Nat.strongRecOn with
    | _ mz4 ih4 =>
    intro i sm hmz4 hi hs
    refine g_iload_n F 0 dX6_allPull_4 rfl ?_
    refine g_bipush F dX6_allPull_5 (by decide +kernel) ?_
    refine g_icmp_ge F 24 (by omega) dX6_allPull_7 (by decide) (fun c7 => ?_) (fun c7 => ?_)
    · skip
      refine g_iload_n F 1 dX6_allPull_24 rfl ?_
      exact K mw_same ⟨congrArg iI (show sm = allPull (cl M) from by rw [hs, show i = 12 by omega]; rfl), rfl⟩ rfl dX6_allPull_25
    · skip
      refine g_iload_n F 1 dX6_allPull_10 rfl ?_
      refine g_aload_n F 2 dX6_allPull_11 rfl ?_
      refine g_iload_n F 0 dX6_allPull_12 rfl ?_
      refine g_callI F (stk := [.int (iI i), .ref (ma 100), .int (iI sm)]) (st := [.int (iI sm)]) (k_X6_pullOf κ ma M i (by omega) ok) cal_X6_pullOf lm_X6_114 0 rfl rfl rfl rfl (by decide) rfl (Nat.le_of_ble_eq_true rfl) dX6_allPull_13 (fun r13 ws13 _ hr13 => ?_)
      obtain ⟨rfl, rfl⟩ := hr13
      refine g_iadd F dX6_allPull_16 ?_
      refine g_istore_n F (lv' := [(1, .int (iI (sm + (pull (cl M) i)))), (2, .int (iI i)), (0, .ref (ma 100))]) 1 dX6_allPull_17 rfl (by decide) rfl ?_
      refine g_iinc F (lv' := [(2, .int (iI (i + 1))), (1, .int (iI (sm + (pull (cl M) i)))), (0, .ref (ma 100))]) 1 dX6_allPull_18 rfl (by decide) rfl ?_
      refine g_goto F 4 dX6_allPull_21 (by decide) ?_
      refine g_sub F (lv' := [(2, .int (iI (i + 1))), (1, .int (iI (sm + (pull (cl M) i)))), (0, .ref (ma 100))]) [0, 1, 2] rfl ?_
      exact ih4 _ (by omega) (i + 1) (sm + (pull (cl M) i)) rfl (by omega) (by rw [sumI_s _ hi.1, ← hs])
  refine g_sub F (lv' := [(2, .int (iI 0)), (1, .int (iI 0)), (0, .ref (ma 100))]) [0, 1, 2] rfl ?_
  exact L4 _ 0 0 rfl (by omega) (sumI_0 _).symm
theorem dX6_allWear_0 : decode cX6_allWear 0 = .ok (.iconst 0, 1) := by decide +kernel
theorem dX6_allWear_1 : decode cX6_allWear 1 = .ok (.istore_n 1, 1) := by decide +kernel
theorem dX6_allWear_2 : decode cX6_allWear 2 = .ok (.iconst 0, 1) := by decide +kernel
theorem dX6_allWear_3 : decode cX6_allWear 3 = .ok (.istore_n 2, 1) := by decide +kernel
theorem dX6_allWear_4 : decode cX6_allWear 4 = .ok (.iload_n 2, 1) := by decide +kernel
theorem dX6_allWear_5 : decode cX6_allWear 5 = .ok (.bipush 12, 2) := by decide +kernel
theorem dX6_allWear_7 : decode cX6_allWear 7 = .ok (.if_icmp .ge 18, 3) := by decide +kernel
theorem dX6_allWear_10 : decode cX6_allWear 10 = .ok (.iload_n 1, 1) := by decide +kernel
theorem dX6_allWear_11 : decode cX6_allWear 11 = .ok (.aload_n 0, 1) := by decide +kernel
theorem dX6_allWear_12 : decode cX6_allWear 12 = .ok (.getfield 19, 3) := by decide +kernel
theorem dX6_allWear_15 : decode cX6_allWear 15 = .ok (.iload_n 2, 1) := by decide +kernel
theorem dX6_allWear_16 : decode cX6_allWear 16 = .ok (.iaload, 1) := by decide +kernel
theorem dX6_allWear_17 : decode cX6_allWear 17 = .ok (.iadd, 1) := by decide +kernel
theorem dX6_allWear_18 : decode cX6_allWear 18 = .ok (.istore_n 1, 1) := by decide +kernel
theorem dX6_allWear_19 : decode cX6_allWear 19 = .ok (.iinc 2 1, 3) := by decide +kernel
theorem dX6_allWear_22 : decode cX6_allWear 22 = .ok (.goto (-18), 3) := by decide +kernel
theorem dX6_allWear_25 : decode cX6_allWear 25 = .ok (.iload_n 1, 1) := by decide +kernel
theorem dX6_allWear_26 : decode cX6_allWear 26 = .ok (.ireturn, 1) := by decide +kernel
set_option maxRecDepth 100000 in
set_option maxHeartbeats 4000000 in
theorem k_X6_allWear (κ : Kp) (ma : Nat → Nat) (M : MS)   : mI κ yX6_allWear cX6_allWear 3 .int 2 [.ref (ma 100)] (mw κ ma M) (is1 (iI (allWear (cl M))) (mw κ ma M)) := by
  refine mI_of (by decide) (Nat.le_of_ble_eq_true rfl) (fun E F K => ?_)
  refine g_lv (lv' := [(0, .ref (ma 100))]) rfl ?_
  refine g_iconst F dX6_allWear_0 ?_
  refine g_istore_n F (lv' := [(1, .int (iI 0)), (0, .ref (ma 100))]) 1 dX6_allWear_1 rfl (by decide) rfl ?_
  refine g_iconst F dX6_allWear_2 ?_
  refine g_istore_n F (lv' := [(2, .int (iI 0)), (1, .int (iI 0)), (0, .ref (ma 100))]) 2 dX6_allWear_3 rfl (by decide) rfl ?_
  have L4 : ∀ (mz4 : Nat) (i : Int) (sm : Int), (12 - i).toNat = mz4 → (0 ≤ i ∧ i ≤ 12) → (sm = sumI (M 3) i) → G E (mw κ ma M) [(2, .int (iI i)), (1, .int (iI sm)), (0, .ref (ma 100))] 4 [] := by
    intro mz4
    induction mz4 using Nat.strongRecOn with
    | _ mz4 ih4 =>
    intro i sm hmz4 hi hs
    refine g_iload_n F 0 dX6_allWear_4 rfl ?_
    refine g_bipush F dX6_allWear_5 (by decide +kernel) ?_
    refine g_icmp_ge F 25 (by omega) dX6_allWear_7 (by decide) (fun c7 => ?_) (fun c7 => ?_)
    · skip
      refine g_iload_n F 1 dX6_allWear_25 rfl ?_
      exact K mw_same ⟨congrArg iI (show sm = allWear (cl M) from by rw [hs, show i = 12 by omega]; rfl), rfl⟩ rfl dX6_allWear_26
    · skip
      refine g_iload_n F 1 dX6_allWear_10 rfl ?_
      refine g_aload_n F 2 dX6_allWear_11 rfl ?_
      refine gm_get_3 F dX6_allWear_12 ?_
      refine g_iload_n F 0 dX6_allWear_15 rfl ?_
      refine gm_ald_3 F (by omega) dX6_allWear_16 ?_
      refine g_iadd F dX6_allWear_17 ?_
      refine g_istore_n F (lv' := [(1, .int (iI (sm + (M 3 i)))), (2, .int (iI i)), (0, .ref (ma 100))]) 1 dX6_allWear_18 rfl (by decide) rfl ?_
      refine g_iinc F (lv' := [(2, .int (iI (i + 1))), (1, .int (iI (sm + (M 3 i)))), (0, .ref (ma 100))]) 1 dX6_allWear_19 rfl (by decide) rfl ?_
      refine g_goto F 4 dX6_allWear_22 (by decide) ?_
      refine g_sub F (lv' := [(2, .int (iI (i + 1))), (1, .int (iI (sm + (M 3 i)))), (0, .ref (ma 100))]) [0, 1, 2] rfl ?_
      exact ih4 _ (by omega) (i + 1) (sm + (M 3 i)) rfl (by omega) (by rw [sumI_s _ hi.1, ← hs])
  refine g_sub F (lv' := [(2, .int (iI 0)), (1, .int (iI 0)), (0, .ref (ma 100))]) [0, 1, 2] rfl ?_
  exact L4 _ 0 0 rfl (by omega) (sumI_0 _).symm
theorem dX6_allAges_0 : decode cX6_allAges 0 = .ok (.iconst 0, 1) := by decide +kernel
theorem dX6_allAges_1 : decode cX6_allAges 1 = .ok (.istore_n 1, 1) := by decide +kernel
theorem dX6_allAges_2 : decode cX6_allAges 2 = .ok (.iconst 0, 1) := by decide +kernel
theorem dX6_allAges_3 : decode cX6_allAges 3 = .ok (.istore_n 2, 1) := by decide +kernel
theorem dX6_allAges_4 : decode cX6_allAges 4 = .ok (.iload_n 2, 1) := by decide +kernel
theorem dX6_allAges_5 : decode cX6_allAges 5 = .ok (.bipush 12, 2) := by decide +kernel
theorem dX6_allAges_7 : decode cX6_allAges 7 = .ok (.if_icmp .ge 18, 3) := by decide +kernel
theorem dX6_allAges_10 : decode cX6_allAges 10 = .ok (.iload_n 1, 1) := by decide +kernel
theorem dX6_allAges_11 : decode cX6_allAges 11 = .ok (.aload_n 0, 1) := by decide +kernel
theorem dX6_allAges_12 : decode cX6_allAges 12 = .ok (.getfield 16, 3) := by decide +kernel
theorem dX6_allAges_15 : decode cX6_allAges 15 = .ok (.iload_n 2, 1) := by decide +kernel
theorem dX6_allAges_16 : decode cX6_allAges 16 = .ok (.iaload, 1) := by decide +kernel
theorem dX6_allAges_17 : decode cX6_allAges 17 = .ok (.iadd, 1) := by decide +kernel
theorem dX6_allAges_18 : decode cX6_allAges 18 = .ok (.istore_n 1, 1) := by decide +kernel
theorem dX6_allAges_19 : decode cX6_allAges 19 = .ok (.iinc 2 1, 3) := by decide +kernel
theorem dX6_allAges_22 : decode cX6_allAges 22 = .ok (.goto (-18), 3) := by decide +kernel
theorem dX6_allAges_25 : decode cX6_allAges 25 = .ok (.iload_n 1, 1) := by decide +kernel
theorem dX6_allAges_26 : decode cX6_allAges 26 = .ok (.ireturn, 1) := by decide +kernel
set_option maxRecDepth 100000 in
set_option maxHeartbeats 4000000 in
theorem k_X6_allAges (κ : Kp) (ma : Nat → Nat) (M : MS)   : mI κ yX6_allAges cX6_allAges 3 .int 2 [.ref (ma 100)] (mw κ ma M) (is1 (iI (allAge (cl M))) (mw κ ma M)) := by
  refine mI_of (by decide) (Nat.le_of_ble_eq_true rfl) (fun E F K => ?_)
  refine g_lv (lv' := [(0, .ref (ma 100))]) rfl ?_
  refine g_iconst F dX6_allAges_0 ?_
  refine g_istore_n F (lv' := [(1, .int (iI 0)), (0, .ref (ma 100))]) 1 dX6_allAges_1 rfl (by decide) rfl ?_
  refine g_iconst F dX6_allAges_2 ?_
  refine g_istore_n F (lv' := [(2, .int (iI 0)), (1, .int (iI 0)), (0, .ref (ma 100))]) 2 dX6_allAges_3 rfl (by decide) rfl ?_
  have L4 : ∀ (mz4 : Nat) (i : Int) (sm : Int), (12 - i).toNat = mz4 → (0 ≤ i ∧ i ≤ 12) → (sm = sumI (M 2) i) → G E (mw κ ma M) [(2, .int (iI i)), (1, .int (iI sm)), (0, .ref (ma 100))] 4 [] := by
    intro mz4
    induction mz4 using Nat.strongRecOn with
    | _ mz4 ih4 =>
    intro i sm hmz4 hi hs
    refine g_iload_n F 0 dX6_allAges_4 rfl ?_
    refine g_bipush F dX6_allAges_5 (by decide +kernel) ?_
    refine g_icmp_ge F 25 (by omega) dX6_allAges_7 (by decide) (fun c7 => ?_) (fun c7 => ?_)
    · skip
      refine g_iload_n F 1 dX6_allAges_25 rfl ?_
      exact K mw_same ⟨congrArg iI (show sm = allAge (cl M) from by rw [hs, show i = 12 by omega]; rfl), rfl⟩ rfl dX6_allAges_26
    · skip
      refine g_iload_n F 1 dX6_allAges_10 rfl ?_
      refine g_aload_n F 2 dX6_allAges_11 rfl ?_
      refine gm_get_2 F dX6_allAges_12 ?_
      refine g_iload_n F 0 dX6_allAges_15 rfl ?_
      refine gm_ald_2 F (by omega) dX6_allAges_16 ?_
      refine g_iadd F dX6_allAges_17 ?_
      refine g_istore_n F (lv' := [(1, .int (iI (sm + (M 2 i)))), (2, .int (iI i)), (0, .ref (ma 100))]) 1 dX6_allAges_18 rfl (by decide) rfl ?_
      refine g_iinc F (lv' := [(2, .int (iI (i + 1))), (1, .int (iI (sm + (M 2 i)))), (0, .ref (ma 100))]) 1 dX6_allAges_19 rfl (by decide) rfl ?_
      refine g_goto F 4 dX6_allAges_22 (by decide) ?_
      refine g_sub F (lv' := [(2, .int (iI (i + 1))), (1, .int (iI (sm + (M 2 i)))), (0, .ref (ma 100))]) [0, 1, 2] rfl ?_
      exact ih4 _ (by omega) (i + 1) (sm + (M 2 i)) rfl (by omega) (by rw [sumI_s _ hi.1, ← hs])
  refine g_sub F (lv' := [(2, .int (iI 0)), (1, .int (iI 0)), (0, .ref (ma 100))]) [0, 1, 2] rfl ?_
  exact L4 _ 0 0 rfl (by omega) (sumI_0 _).symm
theorem dX6_yearOn_0 : decode cX6_yearOn 0 = .ok (.aload_n 0, 1) := by decide +kernel
theorem dX6_yearOn_1 : decode cX6_yearOn 1 = .ok (.dup, 1) := by decide +kernel
theorem dX6_yearOn_2 : decode cX6_yearOn 2 = .ok (.getfield 125, 3) := by decide +kernel
theorem dX6_yearOn_5 : decode cX6_yearOn 5 = .ok (.iconst 1, 1) := by decide +kernel
theorem dX6_yearOn_6 : decode cX6_yearOn 6 = .ok (.iadd, 1) := by decide +kernel
theorem dX6_yearOn_7 : decode cX6_yearOn 7 = .ok (.putfield 125, 3) := by decide +kernel
theorem dX6_yearOn_10 : decode cX6_yearOn 10 = .ok (.iconst 0, 1) := by decide +kernel
theorem dX6_yearOn_11 : decode cX6_yearOn 11 = .ok (.istore_n 1, 1) := by decide +kernel
theorem dX6_yearOn_12 : decode cX6_yearOn 12 = .ok (.iload_n 1, 1) := by decide +kernel
theorem dX6_yearOn_13 : decode cX6_yearOn 13 = .ok (.bipush 12, 2) := by decide +kernel
theorem dX6_yearOn_15 : decode cX6_yearOn 15 = .ok (.if_icmp .ge 36, 3) := by decide +kernel
theorem dX6_yearOn_18 : decode cX6_yearOn 18 = .ok (.aload_n 0, 1) := by decide +kernel
theorem dX6_yearOn_19 : decode cX6_yearOn 19 = .ok (.getfield 19, 3) := by decide +kernel
theorem dX6_yearOn_22 : decode cX6_yearOn 22 = .ok (.iload_n 1, 1) := by decide +kernel
theorem dX6_yearOn_23 : decode cX6_yearOn 23 = .ok (.aload_n 0, 1) := by decide +kernel
theorem dX6_yearOn_24 : decode cX6_yearOn 24 = .ok (.getfield 19, 3) := by decide +kernel
theorem dX6_yearOn_27 : decode cX6_yearOn 27 = .ok (.iload_n 1, 1) := by decide +kernel
theorem dX6_yearOn_28 : decode cX6_yearOn 28 = .ok (.iaload, 1) := by decide +kernel
theorem dX6_yearOn_29 : decode cX6_yearOn 29 = .ok (.aload_n 0, 1) := by decide +kernel
theorem dX6_yearOn_30 : decode cX6_yearOn 30 = .ok (.iload_n 1, 1) := by decide +kernel
theorem dX6_yearOn_31 : decode cX6_yearOn 31 = .ok (.aload_n 0, 1) := by decide +kernel
theorem dX6_yearOn_32 : decode cX6_yearOn 32 = .ok (.getfield 125, 3) := by decide +kernel
theorem dX6_yearOn_35 : decode cX6_yearOn 35 = .ok (.invokevirtual 128, 3) := by decide +kernel
theorem dX6_yearOn_38 : decode cX6_yearOn 38 = .ok (.iadd, 1) := by decide +kernel
theorem dX6_yearOn_39 : decode cX6_yearOn 39 = .ok (.bipush 99, 2) := by decide +kernel
theorem dX6_yearOn_41 : decode cX6_yearOn 41 = .ok (.invokestatic 111, 3) := by decide +kernel
theorem dX6_yearOn_44 : decode cX6_yearOn 44 = .ok (.iastore, 1) := by decide +kernel
theorem dX6_yearOn_45 : decode cX6_yearOn 45 = .ok (.iinc 1 1, 3) := by decide +kernel
theorem dX6_yearOn_48 : decode cX6_yearOn 48 = .ok (.goto (-36), 3) := by decide +kernel
theorem dX6_yearOn_51 : decode cX6_yearOn 51 = .ok (.iconst 0, 1) := by decide +kernel
theorem dX6_yearOn_52 : decode cX6_yearOn 52 = .ok (.istore_n 1, 1) := by decide +kernel
theorem dX6_yearOn_53 : decode cX6_yearOn 53 = .ok (.iload_n 1, 1) := by decide +kernel
theorem dX6_yearOn_54 : decode cX6_yearOn 54 = .ok (.bipush 12, 2) := by decide +kernel
theorem dX6_yearOn_56 : decode cX6_yearOn 56 = .ok (.if_icmp .ge 28, 3) := by decide +kernel
theorem dX6_yearOn_59 : decode cX6_yearOn 59 = .ok (.aload_n 0, 1) := by decide +kernel
theorem dX6_yearOn_60 : decode cX6_yearOn 60 = .ok (.getfield 16, 3) := by decide +kernel
theorem dX6_yearOn_63 : decode cX6_yearOn 63 = .ok (.iload_n 1, 1) := by decide +kernel
theorem dX6_yearOn_64 : decode cX6_yearOn 64 = .ok (.aload_n 0, 1) := by decide +kernel
theorem dX6_yearOn_65 : decode cX6_yearOn 65 = .ok (.getfield 16, 3) := by decide +kernel
theorem dX6_yearOn_68 : decode cX6_yearOn 68 = .ok (.iload_n 1, 1) := by decide +kernel
theorem dX6_yearOn_69 : decode cX6_yearOn 69 = .ok (.iaload, 1) := by decide +kernel
theorem dX6_yearOn_70 : decode cX6_yearOn 70 = .ok (.iconst 1, 1) := by decide +kernel
theorem dX6_yearOn_71 : decode cX6_yearOn 71 = .ok (.iadd, 1) := by decide +kernel
theorem dX6_yearOn_72 : decode cX6_yearOn 72 = .ok (.bipush 99, 2) := by decide +kernel
theorem dX6_yearOn_74 : decode cX6_yearOn 74 = .ok (.invokestatic 111, 3) := by decide +kernel
theorem dX6_yearOn_77 : decode cX6_yearOn 77 = .ok (.iastore, 1) := by decide +kernel
theorem dX6_yearOn_78 : decode cX6_yearOn 78 = .ok (.iinc 1 1, 3) := by decide +kernel
theorem dX6_yearOn_81 : decode cX6_yearOn 81 = .ok (.goto (-28), 3) := by decide +kernel
theorem dX6_yearOn_84 : decode cX6_yearOn 84 = .ok (.return_, 1) := by decide +kernel
set_option maxRecDepth 100000 in
set_option maxHeartbeats 4000000 in
theorem k_X6_yearOn (κ : Kp) (ma : Nat → Nat) (M : MS)  (hy : M 4 0 < 1000000) (ok : okC (cl M)) : mV κ yX6_yearOn cX6_yearOn 2 3 [.ref (ma 100)] (mw κ ma M) (is0 (mw κ ma (stC M (yearOn (cl M))))) := by
  refine mV_of (by decide) (Nat.le_of_ble_eq_true rfl) (fun E F K => ?_)
  refine g_lv (lv' := [(0, .ref (ma 100))]) rfl ?_
  have hy0 : 0 ≤ M 4 0 := ok.2
  refine g_aload_n F 0 dX6_yearOn_0 rfl ?_
  refine g_dup F dX6_yearOn_1 rfl ?_
  refine gm_get_4 F dX6_yearOn_2 ?_
  refine g_iconst F dX6_yearOn_5 ?_
  refine g_iadd F dX6_yearOn_6 ?_
  refine gm_put_4 F dX6_yearOn_7 ?_
  refine g_iconst F dX6_yearOn_10 ?_
  refine g_istore_n F (lv' := [(1, .int (iI 0)), (0, .ref (ma 100))]) 1 dX6_yearOn_11 rfl (by decide) rfl ?_
  have L12 : ∀ (mz12 : Nat) (i : Int) (f : Int → Int), (12 - i).toNat = mz12 → (0 ≤ i ∧ i ≤ 12) → (f = upTo (M 3) (wearOn (cl M)) i) → G E (mw κ ma (mA (mA M 4 (fun _ => M 4 0 + 1)) 3 f)) [(1, .int (iI i)), (0, .ref (ma 100))] 12 [] := by
    intro mz12
    induction mz12 using Nat.strongRecOn with
    | _ mz12 ih12 =>
    intro i f hmz12 hi hf
    refine g_iload_n F 0 dX6_yearOn_12 rfl ?_
    refine g_bipush F dX6_yearOn_13 (by decide +kernel) ?_
    refine g_icmp_ge F 51 (by omega) dX6_yearOn_15 (by decide) (fun c15 => ?_) (fun c15 => ?_)
    · skip
      refine g_iconst F dX6_yearOn_51 ?_
      refine g_istore_n F (lv' := [(1, .int (iI 0)), (0, .ref (ma 100))]) 1 dX6_yearOn_52 rfl (by decide) rfl ?_
      have L53 : ∀ (mz53 : Nat) (j : Int) (g : Int → Int), (12 - j).toNat = mz53 → (0 ≤ j ∧ j ≤ 12) → (g = upTo (M 2) (ageOn (cl M) 1) j) → G E (mw κ ma (mA (mA (mA M 4 (fun _ => M 4 0 + 1)) 3 f) 2 g)) [(1, .int (iI j)), (0, .ref (ma 100))] 53 [] := by
        intro mz53
        induction mz53 using Nat.strongRecOn with
        | _ mz53 ih53 =>
        intro j g hmz53 hj hg
        refine g_iload_n F 0 dX6_yearOn_53 rfl ?_
        refine g_bipush F dX6_yearOn_54 (by decide +kernel) ?_
        refine g_icmp_ge F 84 (by omega) dX6_yearOn_56 (by decide) (fun c56 => ?_) (fun c56 => ?_)
        · skip
          exact K mw_same (by rw [hg, hf, show j = 12 by omega, show i = 12 by omega]; rfl) dX6_yearOn_84
        · skip
          refine g_aload_n F 1 dX6_yearOn_59 rfl ?_
          refine gm_get_2 F dX6_yearOn_60 ?_
          refine g_iload_n F 0 dX6_yearOn_63 rfl ?_
          refine g_aload_n F 1 dX6_yearOn_64 rfl ?_
          refine gm_get_2 F dX6_yearOn_65 ?_
          refine g_iload_n F 0 dX6_yearOn_68 rfl ?_
          refine gm_ald_2 F (by omega) dX6_yearOn_69 ?_
          refine g_top (y := iI (g j)) rfl ?_
          refine g_top (y := iI (M 2 j)) (iIc (by rw [hg, upTo_out (by omega)])) ?_
          have hk : (0 ≤ M 0 j ∧ M 0 j ≤ 5) ∧ (0 ≤ M 1 j ∧ M 1 j ≤ 9) ∧ (0 ≤ M 2 j ∧ M 2 j ≤ 99) ∧ 0 ≤ M 3 j ∧ M 3 j ≤ 99 := ok.r (by omega) (by omega)
          refine g_iconst F dX6_yearOn_70 ?_
          refine g_iadd F dX6_yearOn_71 ?_
          refine g_bipush F dX6_yearOn_72 (by decide +kernel) ?_
          refine g_callSI F (stk := [.int (iI 99), .int (iI ((M 2 j) + 1)), .int (iI j), .ref (ma 2)]) (st := [.int (iI j), .ref (ma 2)]) (k_X6_held κ (mw κ ma (mA (mA (mA M 4 (fun _ => M 4 0 + 1)) 3 f) 2 g)) ((M 2 j) + 1) 99 (by omega)) cal_X6_held lm_X6_111 rfl (by decide) rfl (Nat.le_of_ble_eq_true rfl) dX6_yearOn_74 (fun r74 ws74 _ hr74 => ?_)
          obtain ⟨rfl, rfl⟩ := hr74
          refine g_top (y := iI (ageOn (cl M) 1 j)) (iIc (held_age ok (by omega) (by omega))) ?_
          refine gm_astS_2 F (by omega) dX6_yearOn_77 ?_
          refine g_iinc F (lv' := [(1, .int (iI (j + 1))), (0, .ref (ma 100))]) 0 dX6_yearOn_78 rfl (by decide) rfl ?_
          refine g_goto F 53 dX6_yearOn_81 (by decide) ?_
          refine g_sub F (lv' := [(1, .int (iI (j + 1))), (0, .ref (ma 100))]) [0, 1] rfl ?_
          exact ih53 _ (by omega) (j + 1) (uI g j (ageOn (cl M) 1 j)) rfl (by omega) (by rw [hg, upTo_s _ _ hj.1])
      refine g_sub F (lv' := [(1, .int (iI 0)), (0, .ref (ma 100))]) [0, 1] rfl ?_
      refine g_ws (ws' := mw κ ma (mA (mA (mA M 4 (fun _ => M 4 0 + 1)) 3 f) 2 (M 2))) rfl ?_
      exact L53 _ 0 (M 2) rfl (by omega) (upTo_0 _ _).symm
    · skip
      refine g_aload_n F 1 dX6_yearOn_18 rfl ?_
      refine gm_get_3 F dX6_yearOn_19 ?_
      refine g_iload_n F 0 dX6_yearOn_22 rfl ?_
      refine g_aload_n F 1 dX6_yearOn_23 rfl ?_
      refine gm_get_3 F dX6_yearOn_24 ?_
      refine g_iload_n F 0 dX6_yearOn_27 rfl ?_
      refine gm_ald_3 F (by omega) dX6_yearOn_28 ?_
      refine g_top (y := iI (f i)) rfl ?_
      refine g_top (y := iI (M 3 i)) (iIc (by rw [hf, upTo_out (by omega)])) ?_
      refine g_aload_n F 1 dX6_yearOn_29 rfl ?_
      refine g_iload_n F 0 dX6_yearOn_30 rfl ?_
      refine g_aload_n F 1 dX6_yearOn_31 rfl ?_
      refine gm_get_4 F dX6_yearOn_32 ?_
      refine g_top (y := iI (M 4 0 + 1)) rfl ?_
      refine g_callI F (stk := [.int (iI (M 4 0 + 1)), .int (iI i), .ref (ma 100), .int (iI (M 3 i)), .int (iI i), .ref (ma 3)]) (st := [.int (iI (M 3 i)), .int (iI i), .ref (ma 3)]) (k_X6_wearsIn κ ma (mA (mA M 4 (fun _ => M 4 0 + 1)) 3 f) i (M 4 0 + 1) (by omega) (by omega) ok.A) cal_X6_wearsIn lm_X6_128 0 rfl rfl rfl rfl (by decide) rfl (Nat.le_of_ble_eq_true rfl) dX6_yearOn_35 (fun r35 ws35 _ hr35 => ?_)
      obtain ⟨rfl, rfl⟩ := hr35
      refine g_top (y := iI (wearing (cl (mA (mA M 4 (fun _ => M 4 0 + 1)) 3 f)) (M 4 0 + 1) i)) rfl ?_
      refine g_top (y := iI (wearing (cl M) (M 4 0 + 1) i)) rfl ?_
      have hw := wearing_bd ok.A (y := M 4 0 + 1) hi.1 c15
      have hk : (0 ≤ M 0 i ∧ M 0 i ≤ 5) ∧ (0 ≤ M 1 i ∧ M 1 i ≤ 9) ∧ (0 ≤ M 2 i ∧ M 2 i ≤ 99) ∧ 0 ≤ M 3 i ∧ M 3 i ≤ 99 := ok.r (by omega) (by omega)
      refine g_iadd F dX6_yearOn_38 ?_
      refine g_bipush F dX6_yearOn_39 (by decide +kernel) ?_
      refine g_callSI F (stk := [.int (iI 99), .int (iI ((M 3 i) + (wearing (cl M) (M 4 0 + 1) i))), .int (iI i), .ref (ma 3)]) (st := [.int (iI i), .ref (ma 3)]) (k_X6_held κ (mw κ ma (mA (mA M 4 (fun _ => M 4 0 + 1)) 3 f)) ((M 3 i) + (wearing (cl M) (M 4 0 + 1) i)) 99 (by omega)) cal_X6_held lm_X6_111 rfl (by decide) rfl (Nat.le_of_ble_eq_true rfl) dX6_yearOn_41 (fun r41 ws41 _ hr41 => ?_)
      obtain ⟨rfl, rfl⟩ := hr41
      refine g_top (y := iI (wearOn (cl M) i)) (iIc (held_wear ok (by omega) (by omega))) ?_
      refine gm_astS_3 F (by omega) dX6_yearOn_44 ?_
      refine g_iinc F (lv' := [(1, .int (iI (i + 1))), (0, .ref (ma 100))]) 0 dX6_yearOn_45 rfl (by decide) rfl ?_
      refine g_goto F 12 dX6_yearOn_48 (by decide) ?_
      refine g_sub F (lv' := [(1, .int (iI (i + 1))), (0, .ref (ma 100))]) [0, 1] rfl ?_
      exact ih12 _ (by omega) (i + 1) (uI f i (wearOn (cl M) i)) rfl (by omega) (by rw [hf, upTo_s _ _ hi.1])
  refine g_sub F (lv' := [(1, .int (iI 0)), (0, .ref (ma 100))]) [0, 1] rfl ?_
  refine g_ws (ws' := mw κ ma (mA (mA M 4 (fun _ => M 4 0 + 1)) 3 (M 3))) rfl ?_
  exact L12 _ 0 (M 3) rfl (by omega) (upTo_0 _ _).symm
theorem dX6_goYears_0 : decode cX6_goYears 0 = .ok (.iconst 0, 1) := by decide +kernel
theorem dX6_goYears_1 : decode cX6_goYears 1 = .ok (.istore_n 2, 1) := by decide +kernel
theorem dX6_goYears_2 : decode cX6_goYears 2 = .ok (.iload_n 2, 1) := by decide +kernel
theorem dX6_goYears_3 : decode cX6_goYears 3 = .ok (.iload_n 1, 1) := by decide +kernel
theorem dX6_goYears_4 : decode cX6_goYears 4 = .ok (.if_icmp .ge 13, 3) := by decide +kernel
theorem dX6_goYears_7 : decode cX6_goYears 7 = .ok (.aload_n 0, 1) := by decide +kernel
theorem dX6_goYears_8 : decode cX6_goYears 8 = .ok (.invokevirtual 131, 3) := by decide +kernel
theorem dX6_goYears_11 : decode cX6_goYears 11 = .ok (.iinc 2 1, 3) := by decide +kernel
theorem dX6_goYears_14 : decode cX6_goYears 14 = .ok (.goto (-12), 3) := by decide +kernel
theorem dX6_goYears_17 : decode cX6_goYears 17 = .ok (.return_, 1) := by decide +kernel
set_option maxRecDepth 100000 in
set_option maxHeartbeats 4000000 in
theorem k_X6_goYears (κ : Kp) (ma : Nat → Nat) (M : MS) (n : Int)  (hn : (0 ≤ n ∧ n ≤ 1000) ∧ M 4 0 + n ≤ 1000000) (ok : okC (cl M)) : mV κ yX6_goYears cX6_goYears 3 4 [.ref (ma 100), .int (iI n)] (mw κ ma M) (is0 (mw κ ma (stC M (goI n (cl M))))) := by
  refine mV_of (by decide) (Nat.le_of_ble_eq_true rfl) (fun E F K => ?_)
  refine g_lv (lv' := [(0, .ref (ma 100)), (1, .int (iI n))]) rfl ?_
  refine g_iconst F dX6_goYears_0 ?_
  refine g_istore_n F (lv' := [(2, .int (iI 0)), (0, .ref (ma 100)), (1, .int (iI n))]) 2 dX6_goYears_1 rfl (by decide) rfl ?_
  have L2 : ∀ (mz2 : Nat) (k : Int), (n - k).toNat = mz2 → (0 ≤ k ∧ k ≤ n) → G E (mw κ ma (stC M (goI k (cl M)))) [(2, .int (iI k)), (0, .ref (ma 100)), (1, .int (iI n))] 2 [] := by
    intro mz2
    induction mz2 using Nat.strongRecOn with
    | _ mz2 ih2 =>
    intro k hmz2 hk
    refine g_iload_n F 0 dX6_goYears_2 rfl ?_
    refine g_iload_n F 2 dX6_goYears_3 rfl ?_
    refine g_icmp_ge F 17 (by omega) dX6_goYears_4 (by decide) (fun c4 => ?_) (fun c4 => ?_)
    · skip
      exact K mw_same (by rw [show k = n by omega]) dX6_goYears_17
    · skip
      refine g_aload_n F 1 dX6_goYears_7 rfl ?_
      refine g_callV F (stk := [.ref (ma 100)]) (st := []) (k_X6_yearOn κ ma (stC M (goI k (cl M))) (goI_yrM hk.1 (by omega)) (goI_ok ok k)) cal_X6_yearOn lm_X6_131 0 rfl rfl rfl rfl (by decide) rfl (Nat.le_of_ble_eq_true rfl) dX6_goYears_8 (fun ws8 _ hr8 => ?_)
      obtain rfl := hr8
      refine g_ws (ws' := mw κ ma (stC M (yearOn (goI k (cl M))))) rfl ?_
      refine g_ws (ws' := mw κ ma (stC M (goI (k + 1) (cl M)))) (by rw [goI_s hk.1]) ?_
      refine g_iinc F (lv' := [(2, .int (iI (k + 1))), (0, .ref (ma 100)), (1, .int (iI n))]) 0 dX6_goYears_11 rfl (by decide) rfl ?_
      refine g_goto F 2 dX6_goYears_14 (by decide) ?_
      refine g_sub F (lv' := [(2, .int (iI (k + 1))), (0, .ref (ma 100)), (1, .int (iI n))]) [0, 1, 2] rfl ?_
      exact ih2 _ (by omega) (k + 1) rfl (by omega)
  refine g_sub F (lv' := [(2, .int (iI 0)), (0, .ref (ma 100)), (1, .int (iI n))]) [0, 1, 2] rfl ?_
  refine g_ws (ws' := mw κ ma (stC M (goI 0 (cl M)))) rfl ?_
  exact L2 _ 0 rfl (by omega)
theorem dX6_makeCell_0 : decode cX6_makeCell 0 = .ok (.aload_n 0, 1) := by decide +kernel
theorem dX6_makeCell_1 : decode cX6_makeCell 1 = .ok (.getfield 7, 3) := by decide +kernel
theorem dX6_makeCell_4 : decode cX6_makeCell 4 = .ok (.iload_n 1, 1) := by decide +kernel
theorem dX6_makeCell_5 : decode cX6_makeCell 5 = .ok (.iload_n 2, 1) := by decide +kernel
theorem dX6_makeCell_6 : decode cX6_makeCell 6 = .ok (.iastore, 1) := by decide +kernel
theorem dX6_makeCell_7 : decode cX6_makeCell 7 = .ok (.aload_n 0, 1) := by decide +kernel
theorem dX6_makeCell_8 : decode cX6_makeCell 8 = .ok (.getfield 13, 3) := by decide +kernel
theorem dX6_makeCell_11 : decode cX6_makeCell 11 = .ok (.iload_n 1, 1) := by decide +kernel
theorem dX6_makeCell_12 : decode cX6_makeCell 12 = .ok (.iload_n 3, 1) := by decide +kernel
theorem dX6_makeCell_13 : decode cX6_makeCell 13 = .ok (.iastore, 1) := by decide +kernel
theorem dX6_makeCell_14 : decode cX6_makeCell 14 = .ok (.aload_n 0, 1) := by decide +kernel
theorem dX6_makeCell_15 : decode cX6_makeCell 15 = .ok (.getfield 16, 3) := by decide +kernel
theorem dX6_makeCell_18 : decode cX6_makeCell 18 = .ok (.iload_n 1, 1) := by decide +kernel
theorem dX6_makeCell_19 : decode cX6_makeCell 19 = .ok (.iload 4, 2) := by decide +kernel
theorem dX6_makeCell_21 : decode cX6_makeCell 21 = .ok (.iastore, 1) := by decide +kernel
theorem dX6_makeCell_22 : decode cX6_makeCell 22 = .ok (.aload_n 0, 1) := by decide +kernel
theorem dX6_makeCell_23 : decode cX6_makeCell 23 = .ok (.getfield 19, 3) := by decide +kernel
theorem dX6_makeCell_26 : decode cX6_makeCell 26 = .ok (.iload_n 1, 1) := by decide +kernel
theorem dX6_makeCell_27 : decode cX6_makeCell 27 = .ok (.iconst 0, 1) := by decide +kernel
theorem dX6_makeCell_28 : decode cX6_makeCell 28 = .ok (.iastore, 1) := by decide +kernel
theorem dX6_makeCell_29 : decode cX6_makeCell 29 = .ok (.return_, 1) := by decide +kernel
set_option maxRecDepth 100000 in
set_option maxHeartbeats 4000000 in
theorem k_X6_makeCell (κ : Kp) (ma : Nat → Nat) (M : MS) (c : Int) (k : Int) (f : Int) (a : Int)  (h0 : 0 ≤ c ∧ c < 12) : mV κ yX6_makeCell cX6_makeCell 5 0 [.ref (ma 100), .int (iI c), .int (iI k), .int (iI f), .int (iI a)] (mw κ ma M) (is0 (mw κ ma (stC M (make (cl M) c k f a)))) := by
  refine mV_of (by decide) (Nat.le_of_ble_eq_true rfl) (fun E F K => ?_)
  refine g_lv (lv' := [(0, .ref (ma 100)), (1, .int (iI c)), (2, .int (iI k)), (3, .int (iI f)), (4, .int (iI a))]) rfl ?_
  refine g_aload_n F 0 dX6_makeCell_0 rfl ?_
  refine gm_get_0 F dX6_makeCell_1 ?_
  refine g_iload_n F 1 dX6_makeCell_4 rfl ?_
  refine g_iload_n F 2 dX6_makeCell_5 rfl ?_
  refine gm_ast_0 F (by omega) dX6_makeCell_6 ?_
  refine g_aload_n F 0 dX6_makeCell_7 rfl ?_
  refine gm_get_1 F dX6_makeCell_8 ?_
  refine g_iload_n F 1 dX6_makeCell_11 rfl ?_
  refine g_iload_n F 3 dX6_makeCell_12 rfl ?_
  refine gm_ast_1 F (by omega) dX6_makeCell_13 ?_
  refine g_ws (ws' := mw κ ma (mA (mA M 0 (uI (M 0) c k)) 1 (uI (M 1) c f))) rfl ?_
  refine g_aload_n F 0 dX6_makeCell_14 rfl ?_
  refine gm_get_2 F dX6_makeCell_15 ?_
  refine g_iload_n F 1 dX6_makeCell_18 rfl ?_
  refine g_iload F 4 dX6_makeCell_19 rfl ?_
  refine gm_ast_2 F (by omega) dX6_makeCell_21 ?_
  refine g_ws (ws' := mw κ ma (mA (mA (mA M 0 (uI (M 0) c k)) 1 (uI (M 1) c f)) 2 (uI (M 2) c a))) rfl ?_
  refine g_aload_n F 0 dX6_makeCell_22 rfl ?_
  refine gm_get_3 F dX6_makeCell_23 ?_
  refine g_iload_n F 1 dX6_makeCell_26 rfl ?_
  refine g_iconst F dX6_makeCell_27 ?_
  refine gm_ast_3 F (by omega) dX6_makeCell_28 ?_
  refine g_ws (ws' := mw κ ma (mA (mA (mA (mA M 0 (uI (M 0) c k)) 1 (uI (M 1) c f)) 2 (uI (M 2) c a)) 3 (uI (M 3) c 0))) rfl ?_
  exact K mw_same rfl dX6_makeCell_29
theorem dX6_putOn_0 : decode cX6_putOn 0 = .ok (.aload_n 0, 1) := by decide +kernel
theorem dX6_putOn_1 : decode cX6_putOn 1 = .ok (.iload_n 2, 1) := by decide +kernel
theorem dX6_putOn_2 : decode cX6_putOn 2 = .ok (.aload_n 0, 1) := by decide +kernel
theorem dX6_putOn_3 : decode cX6_putOn 3 = .ok (.getfield 22, 3) := by decide +kernel
theorem dX6_putOn_6 : decode cX6_putOn 6 = .ok (.iload_n 1, 1) := by decide +kernel
theorem dX6_putOn_7 : decode cX6_putOn 7 = .ok (.iaload, 1) := by decide +kernel
theorem dX6_putOn_8 : decode cX6_putOn 8 = .ok (.aload_n 0, 1) := by decide +kernel
theorem dX6_putOn_9 : decode cX6_putOn 9 = .ok (.getfield 25, 3) := by decide +kernel
theorem dX6_putOn_12 : decode cX6_putOn 12 = .ok (.iload_n 1, 1) := by decide +kernel
theorem dX6_putOn_13 : decode cX6_putOn 13 = .ok (.iaload, 1) := by decide +kernel
theorem dX6_putOn_14 : decode cX6_putOn 14 = .ok (.aload_n 0, 1) := by decide +kernel
theorem dX6_putOn_15 : decode cX6_putOn 15 = .ok (.getfield 28, 3) := by decide +kernel
theorem dX6_putOn_18 : decode cX6_putOn 18 = .ok (.iload_n 1, 1) := by decide +kernel
theorem dX6_putOn_19 : decode cX6_putOn 19 = .ok (.iaload, 1) := by decide +kernel
theorem dX6_putOn_20 : decode cX6_putOn 20 = .ok (.invokevirtual 134, 3) := by decide +kernel
theorem dX6_putOn_23 : decode cX6_putOn 23 = .ok (.aload_n 0, 1) := by decide +kernel
theorem dX6_putOn_24 : decode cX6_putOn 24 = .ok (.getfield 31, 3) := by decide +kernel
theorem dX6_putOn_27 : decode cX6_putOn 27 = .ok (.iload_n 1, 1) := by decide +kernel
theorem dX6_putOn_28 : decode cX6_putOn 28 = .ok (.iconst 1, 1) := by decide +kernel
theorem dX6_putOn_29 : decode cX6_putOn 29 = .ok (.iastore, 1) := by decide +kernel
theorem dX6_putOn_30 : decode cX6_putOn 30 = .ok (.return_, 1) := by decide +kernel
set_option maxRecDepth 100000 in
set_option maxHeartbeats 4000000 in
theorem k_X6_putOn (κ : Kp) (ma : Nat → Nat) (M : MS) (p : Int) (c : Int)  (hp : 0 ≤ p ∧ p < 6) (h0 : 0 ≤ c ∧ c < 12) : mV κ yX6_putOn cX6_putOn 3 1 [.ref (ma 100), .int (iI p), .int (iI c)] (mw κ ma M) (is0 (mw κ ma (mA (stC M (make (cl M) c (M 6 p) (M 7 p) (M 8 p))) 9 (uI (M 9) p 1)))) := by
  refine mV_of (by decide) (Nat.le_of_ble_eq_true rfl) (fun E F K => ?_)
  refine g_lv (lv' := [(0, .ref (ma 100)), (1, .int (iI p)), (2, .int (iI c))]) rfl ?_
  refine g_aload_n F 0 dX6_putOn_0 rfl ?_
  refine g_iload_n F 2 dX6_putOn_1 rfl ?_
  refine g_aload_n F 0 dX6_putOn_2 rfl ?_
  refine gm_get_6 F dX6_putOn_3 ?_
  refine g_iload_n F 1 dX6_putOn_6 rfl ?_
  refine gm_ald_6 F (by omega) dX6_putOn_7 ?_
  refine g_aload_n F 0 dX6_putOn_8 rfl ?_
  refine gm_get_7 F dX6_putOn_9 ?_
  refine g_iload_n F 1 dX6_putOn_12 rfl ?_
  refine gm_ald_7 F (by omega) dX6_putOn_13 ?_
  refine g_aload_n F 0 dX6_putOn_14 rfl ?_
  refine gm_get_8 F dX6_putOn_15 ?_
  refine g_iload_n F 1 dX6_putOn_18 rfl ?_
  refine gm_ald_8 F (by omega) dX6_putOn_19 ?_
  refine g_callV F (stk := [.int (iI (M 8 p)), .int (iI (M 7 p)), .int (iI (M 6 p)), .int (iI c), .ref (ma 100)]) (st := []) (k_X6_makeCell κ ma M c (M 6 p) (M 7 p) (M 8 p) (by omega)) cal_X6_makeCell lm_X6_134 0 rfl rfl rfl rfl (by decide) rfl (Nat.le_of_ble_eq_true rfl) dX6_putOn_20 (fun ws20 _ hr20 => ?_)
  obtain rfl := hr20
  refine g_aload_n F 0 dX6_putOn_23 rfl ?_
  refine gm_get_9 F dX6_putOn_24 ?_
  refine g_iload_n F 1 dX6_putOn_27 rfl ?_
  refine g_iconst F dX6_putOn_28 ?_
  refine gm_ast_9 F (by omega) dX6_putOn_29 ?_
  refine g_ws (ws' := mw κ ma (mA (stC M (make (cl M) c (M 6 p) (M 7 p) (M 8 p))) 9 (uI (M 9) p 1))) rfl ?_
  exact K mw_same rfl dX6_putOn_30
