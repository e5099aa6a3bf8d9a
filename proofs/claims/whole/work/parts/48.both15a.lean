theorem dX6_areApart_0 : decode cX6_areApart 0 = .ok (.iconst 1, 1) := by decide +kernel
theorem dX6_areApart_1 : decode cX6_areApart 1 = .ok (.istore_n 1, 1) := by decide +kernel
theorem dX6_areApart_2 : decode cX6_areApart 2 = .ok (.iconst 0, 1) := by decide +kernel
theorem dX6_areApart_3 : decode cX6_areApart 3 = .ok (.istore_n 2, 1) := by decide +kernel
theorem dX6_areApart_4 : decode cX6_areApart 4 = .ok (.iload_n 2, 1) := by decide +kernel
theorem dX6_areApart_5 : decode cX6_areApart 5 = .ok (.aload_n 0, 1) := by decide +kernel
theorem dX6_areApart_6 : decode cX6_areApart 6 = .ok (.getfield 264, 3) := by decide +kernel
theorem dX6_areApart_9 : decode cX6_areApart 9 = .ok (.if_icmp .ge 47, 3) := by decide +kernel
theorem dX6_areApart_12 : decode cX6_areApart 12 = .ok (.iconst 0, 1) := by decide +kernel
theorem dX6_areApart_13 : decode cX6_areApart 13 = .ok (.istore_n 3, 1) := by decide +kernel
theorem dX6_areApart_14 : decode cX6_areApart 14 = .ok (.iload_n 3, 1) := by decide +kernel
theorem dX6_areApart_15 : decode cX6_areApart 15 = .ok (.iload_n 2, 1) := by decide +kernel
theorem dX6_areApart_16 : decode cX6_areApart 16 = .ok (.if_icmp .ge 34, 3) := by decide +kernel
theorem dX6_areApart_19 : decode cX6_areApart 19 = .ok (.iload_n 1, 1) := by decide +kernel
theorem dX6_areApart_20 : decode cX6_areApart 20 = .ok (.ifCond .eq 22, 3) := by decide +kernel
theorem dX6_areApart_23 : decode cX6_areApart 23 = .ok (.aload_n 0, 1) := by decide +kernel
theorem dX6_areApart_24 : decode cX6_areApart 24 = .ok (.getfield 67, 3) := by decide +kernel
theorem dX6_areApart_27 : decode cX6_areApart 27 = .ok (.iload_n 2, 1) := by decide +kernel
theorem dX6_areApart_28 : decode cX6_areApart 28 = .ok (.iaload, 1) := by decide +kernel
theorem dX6_areApart_29 : decode cX6_areApart 29 = .ok (.aload_n 0, 1) := by decide +kernel
theorem dX6_areApart_30 : decode cX6_areApart 30 = .ok (.getfield 67, 3) := by decide +kernel
theorem dX6_areApart_33 : decode cX6_areApart 33 = .ok (.iload_n 3, 1) := by decide +kernel
theorem dX6_areApart_34 : decode cX6_areApart 34 = .ok (.iaload, 1) := by decide +kernel
theorem dX6_areApart_35 : decode cX6_areApart 35 = .ok (.if_icmp .eq 7, 3) := by decide +kernel
theorem dX6_areApart_38 : decode cX6_areApart 38 = .ok (.iconst 1, 1) := by decide +kernel
theorem dX6_areApart_39 : decode cX6_areApart 39 = .ok (.goto 4, 3) := by decide +kernel
theorem dX6_areApart_42 : decode cX6_areApart 42 = .ok (.iconst 0, 1) := by decide +kernel
theorem dX6_areApart_43 : decode cX6_areApart 43 = .ok (.istore_n 1, 1) := by decide +kernel
theorem dX6_areApart_44 : decode cX6_areApart 44 = .ok (.iinc 3 1, 3) := by decide +kernel
theorem dX6_areApart_47 : decode cX6_areApart 47 = .ok (.goto (-33), 3) := by decide +kernel
theorem dX6_areApart_50 : decode cX6_areApart 50 = .ok (.iinc 2 1, 3) := by decide +kernel
theorem dX6_areApart_53 : decode cX6_areApart 53 = .ok (.goto (-49), 3) := by decide +kernel
theorem dX6_areApart_56 : decode cX6_areApart 56 = .ok (.iload_n 1, 1) := by decide +kernel
theorem dX6_areApart_57 : decode cX6_areApart 57 = .ok (.ireturn, 1) := by decide +kernel
set_option maxRecDepth 100000 in
set_option maxHeartbeats 4000000 in
theorem k_X6_areApart (κ : Kp) (ma : Nat → Nat) (M : MS)  (hn : 0 ≤ M 31 0 ∧ M 31 0 ≤ 3) (hr : ∀ j : Int, 0 ≤ j → j < M 31 0 → 0 ≤ M 32 j ∧ M 32 j < 12) : mI κ yX6_areApart cX6_areApart 4 .boolean 0 [.ref (ma 100)] (mw κ ma M) (is1 (iI (b2i (apP (M 32) (M 31 0)))) (mw κ ma M)) := by
  refine mI_of (by decide) (Nat.le_of_ble_eq_true rfl) (fun E F K => ?_)
  refine g_lv (lv' := [(0, .ref (ma 100))]) rfl ?_
  refine g_iconst F dX6_areApart_0 ?_
  refine g_istore_n F (lv' := [(1, .int (iI 1)), (0, .ref (ma 100))]) 1 dX6_areApart_1 rfl (by decide) rfl ?_
  refine g_iconst F dX6_areApart_2 ?_
  refine g_istore_n F (lv' := [(2, .int (iI 0)), (1, .int (iI 1)), (0, .ref (ma 100))]) 2 dX6_areApart_3 rfl (by decide) rfl ?_
  have L4 : ∀ (mz4 : Nat) (i : Int) (ar : Int), (M 31 0 - i).toNat = mz4 → (0 ≤ i ∧ i ≤ M 31 0) → ((ar = 1 ∧ apQ (M 32) i 0) ∨ (ar = 0 ∧ ¬ apQ (M 32) i 0)) → G E (mw κ ma M) [(2, .int (iI i)), (1, .int (iI ar)), (0, .ref (ma 100))] 4 [] := by
    intro mz4
    induction mz4 using Nat.strongRecOn with
    | _ mz4 ih4 =>
    intro i ar hmz4 hi hr2
    refine g_iload_n F 0 dX6_areApart_4 rfl ?_
    refine g_aload_n F 2 dX6_areApart_5 rfl ?_
    refine gm_get_31 F dX6_areApart_6 ?_
    refine g_icmp_ge F 56 (by omega) dX6_areApart_9 (by decide) (fun c9 => ?_) (fun c9 => ?_)
    · skip
      refine g_iload_n F 1 dX6_areApart_56 rfl ?_
      have hie : i = M 31 0 := by omega
      have hpp := apQ_P (M 32) (M 31 0)
      rw [hie] at hr2
      exact K mw_same ⟨iIc (by unfold b2i; rcases hr2 with ⟨q1, q2⟩ | ⟨q1, q2⟩ <;> first | (rw [if_pos (hpp.mp q2)]; exact q1) | (rw [if_neg (fun z => q2 (hpp.mpr z))]; exact q1)), rfl⟩ (by rcases (show ar = 0 ∨ ar = 1 by omega) with q | q <;> rw [q] <;> decide +kernel) dX6_areApart_57
    · skip
      refine g_iconst F dX6_areApart_12 ?_
      refine g_istore_n F (lv' := [(3, .int (iI 0)), (2, .int (iI i)), (1, .int (iI ar)), (0, .ref (ma 100))]) 3 dX6_areApart_13 rfl (by decide) rfl ?_
      have L14 : ∀ (mz14 : Nat) (j : Int) (a2 : Int), (i - j).toNat = mz14 → (0 ≤ j ∧ j ≤ i) → ((a2 = 1 ∧ apQ (M 32) i j) ∨ (a2 = 0 ∧ ¬ apQ (M 32) i j)) → G E (mw κ ma M) [(3, .int (iI j)), (2, .int (iI i)), (1, .int (iI a2)), (0, .ref (ma 100))] 14 [] := by
        intro mz14
        induction mz14 using Nat.strongRecOn with
        | _ mz14 ih14 =>
        intro j a2 hmz14 hj hr3
        refine g_iload_n F 0 dX6_areApart_14 rfl ?_
        refine g_iload_n F 1 dX6_areApart_15 rfl ?_
        refine g_icmp_ge F 50 (by omega) dX6_areApart_16 (by decide) (fun c16 => ?_) (fun c16 => ?_)
        · skip
          refine g_iinc F (lv' := [(2, .int (iI (i + 1))), (3, .int (iI j)), (1, .int (iI a2)), (0, .ref (ma 100))]) 1 dX6_areApart_50 rfl (by decide) rfl ?_
          refine g_goto F 4 dX6_areApart_53 (by decide) ?_
          refine g_sub F (lv' := [(2, .int (iI (i + 1))), (1, .int (iI a2)), (0, .ref (ma 100))]) [0, 2, 3] rfl ?_
          exact ih4 _ (by omega) (i + 1) a2 rfl (by omega) (by have hji : j = i := (by omega); unfold apQ at hr3 ⊢; omega)
        · skip
          refine g_iload_n F 2 dX6_areApart_19 rfl ?_
          refine g_if_eq F 42 (by omega) dX6_areApart_20 (by decide) (fun c20 => ?_) (fun c20 => ?_)
          · skip
            refine g_iconst F dX6_areApart_42 ?_
            refine g_istore_n F (lv' := [(1, .int (iI 0)), (3, .int (iI j)), (2, .int (iI i)), (0, .ref (ma 100))]) 1 dX6_areApart_43 rfl (by decide) rfl ?_
            refine g_iinc F (lv' := [(3, .int (iI (j + 1))), (1, .int (iI 0)), (2, .int (iI i)), (0, .ref (ma 100))]) 1 dX6_areApart_44 rfl (by decide) rfl ?_
            refine g_goto F 14 dX6_areApart_47 (by decide) ?_
            refine g_sub F (lv' := [(3, .int (iI (j + 1))), (2, .int (iI i)), (1, .int (iI 0)), (0, .ref (ma 100))]) [0, 2, 1, 3] rfl ?_
            exact ih14 _ (by omega) (j + 1) 0 rfl (by omega) (by have q : (i = 1 ∧ j = 0) ∨ (i = 2 ∧ j = 0) ∨ (i = 2 ∧ j = 1) := (by omega); unfold apQ at hr3 ⊢; rcases q with ⟨rfl, rfl⟩ | ⟨rfl, rfl⟩ | ⟨rfl, rfl⟩ <;> omega)
          · skip
            have h1 := hr i (by omega) (by omega)
            have h2 := hr j (by omega) (by omega)
            refine g_aload_n F 3 dX6_areApart_23 rfl ?_
            refine gm_get_32 F dX6_areApart_24 ?_
            refine g_iload_n F 1 dX6_areApart_27 rfl ?_
            refine gm_ald_32 F (by omega) dX6_areApart_28 ?_
            refine g_aload_n F 3 dX6_areApart_29 rfl ?_
            refine gm_get_32 F dX6_areApart_30 ?_
            refine g_iload_n F 0 dX6_areApart_33 rfl ?_
            refine gm_ald_32 F (by omega) dX6_areApart_34 ?_
            refine g_icmp_eq F 42 (by omega) dX6_areApart_35 (by decide) (fun c35 => ?_) (fun c35 => ?_)
            · skip
              refine g_iconst F dX6_areApart_42 ?_
              refine g_istore_n F (lv' := [(1, .int (iI 0)), (3, .int (iI j)), (2, .int (iI i)), (0, .ref (ma 100))]) 1 dX6_areApart_43 rfl (by decide) rfl ?_
              refine g_iinc F (lv' := [(3, .int (iI (j + 1))), (1, .int (iI 0)), (2, .int (iI i)), (0, .ref (ma 100))]) 1 dX6_areApart_44 rfl (by decide) rfl ?_
              refine g_goto F 14 dX6_areApart_47 (by decide) ?_
              refine g_sub F (lv' := [(3, .int (iI (j + 1))), (2, .int (iI i)), (1, .int (iI 0)), (0, .ref (ma 100))]) [0, 2, 1, 3] rfl ?_
              exact ih14 _ (by omega) (j + 1) 0 rfl (by omega) (by have q : (i = 1 ∧ j = 0) ∨ (i = 2 ∧ j = 0) ∨ (i = 2 ∧ j = 1) := (by omega); unfold apQ at hr3 ⊢; rcases q with ⟨rfl, rfl⟩ | ⟨rfl, rfl⟩ | ⟨rfl, rfl⟩ <;> omega)
            · skip
              refine g_iconst F dX6_areApart_38 ?_
              refine g_goto F 43 dX6_areApart_39 (by decide) ?_
              refine g_istore_n F (lv' := [(1, .int (iI 1)), (3, .int (iI j)), (2, .int (iI i)), (0, .ref (ma 100))]) 1 dX6_areApart_43 rfl (by decide) rfl ?_
              refine g_iinc F (lv' := [(3, .int (iI (j + 1))), (1, .int (iI 1)), (2, .int (iI i)), (0, .ref (ma 100))]) 1 dX6_areApart_44 rfl (by decide) rfl ?_
              refine g_goto F 14 dX6_areApart_47 (by decide) ?_
              refine g_sub F (lv' := [(3, .int (iI (j + 1))), (2, .int (iI i)), (1, .int (iI 1)), (0, .ref (ma 100))]) [0, 2, 1, 3] rfl ?_
              exact ih14 _ (by omega) (j + 1) 1 rfl (by omega) (by have q : (i = 1 ∧ j = 0) ∨ (i = 2 ∧ j = 0) ∨ (i = 2 ∧ j = 1) := (by omega); unfold apQ at hr3 ⊢; rcases q with ⟨rfl, rfl⟩ | ⟨rfl, rfl⟩ | ⟨rfl, rfl⟩ <;> omega)
      refine g_sub F (lv' := [(3, .int (iI 0)), (2, .int (iI i)), (1, .int (iI ar)), (0, .ref (ma 100))]) [0, 1, 2, 3] rfl ?_
      exact L14 _ 0 ar rfl (by omega) hr2
  refine g_sub F (lv' := [(2, .int (iI 0)), (1, .int (iI 1)), (0, .ref (ma 100))]) [0, 1, 2] rfl ?_
  exact L4 _ 0 1 rfl (by omega) (Or.inl ⟨rfl, by unfold apQ; omega⟩)
theorem lw_f {P : Int → Int} {k b : Int} (h : (b = -1 ∧ lwS P k = (0, MAXI)) ∨ ((0 ≤ b ∧ b < k) ∧ lwS P k = (b, P b))) (k0 : 0 ≤ k) (hp : P k = -1) : (b = -1 ∧ lwS P (k + 1) = (0, MAXI)) ∨ ((0 ≤ b ∧ b < k + 1) ∧ lwS P (k + 1) = (b, P b)) := by
  have hd : decide (P k ≠ -1) = false := decide_eq_false (fun z => z hp)
  rcases h with ⟨q1, q2⟩ | ⟨q1, q2⟩
  · exact Or.inl ⟨q1, smn_f q2 k0 (Or.inl hd)⟩
  · exact Or.inr ⟨⟨q1.1, by omega⟩, smn_f q2 k0 (Or.inl hd)⟩
theorem lw_w {P : Int → Int} {k b : Int} (h : (b = -1 ∧ lwS P k = (0, MAXI)) ∨ ((0 ≤ b ∧ b < k) ∧ lwS P k = (b, P b))) (k0 : 0 ≤ k) (hb : 0 ≤ b) (hp : P b ≤ P k) : (b = -1 ∧ lwS P (k + 1) = (0, MAXI)) ∨ ((0 ≤ b ∧ b < k + 1) ∧ lwS P (k + 1) = (b, P b)) := by
  rcases h with ⟨q1, q2⟩ | ⟨q1, q2⟩
  · omega
  · exact Or.inr ⟨⟨q1.1, by omega⟩, smn_f q2 k0 (Or.inr hp)⟩
theorem lw_t {P : Int → Int} {k b : Int} (h : (b = -1 ∧ lwS P k = (0, MAXI)) ∨ ((0 ≤ b ∧ b < k) ∧ lwS P k = (b, P b))) (k0 : 0 ≤ k) (hp : P k ≠ -1) (hm : P k ≤ 3000) (hb : b = -1 ∨ (0 ≤ b ∧ P k < P b)) : (k = -1 ∧ lwS P (k + 1) = (0, MAXI)) ∨ ((0 ≤ k ∧ k < k + 1) ∧ lwS P (k + 1) = (k, P k)) := by
  have hd : decide (P k ≠ -1) = true := decide_eq_true hp
  refine Or.inr ⟨⟨k0, by omega⟩, ?_⟩
  rcases h with ⟨q1, q2⟩ | ⟨q1, q2⟩
  · exact smn_t q2 k0 hd (by unfold MAXI; omega)
  · exact smn_t q2 k0 hd (by omega)
theorem dX4_gather_0 : decode cX4_gather 0 = .ok (.aload_n 0, 1) := by decide +kernel
theorem dX4_gather_1 : decode cX4_gather 1 = .ok (.iconst 0, 1) := by decide +kernel
theorem dX4_gather_2 : decode cX4_gather 2 = .ok (.putfield 21, 3) := by decide +kernel
theorem dX4_gather_5 : decode cX4_gather 5 = .ok (.iconst 0, 1) := by decide +kernel
theorem dX4_gather_6 : decode cX4_gather 6 = .ok (.istore_n 2, 1) := by decide +kernel
theorem dX4_gather_7 : decode cX4_gather 7 = .ok (.iload_n 2, 1) := by decide +kernel
theorem dX4_gather_8 : decode cX4_gather 8 = .ok (.aload_n 1, 1) := by decide +kernel
theorem dX4_gather_9 : decode cX4_gather 9 = .ok (.getfield 25, 3) := by decide +kernel
theorem dX4_gather_12 : decode cX4_gather 12 = .ok (.if_icmp .ge 48, 3) := by decide +kernel
theorem dX4_gather_15 : decode cX4_gather 15 = .ok (.aload_n 0, 1) := by decide +kernel
theorem dX4_gather_16 : decode cX4_gather 16 = .ok (.getfield 21, 3) := by decide +kernel
theorem dX4_gather_19 : decode cX4_gather 19 = .ok (.iconst 3, 1) := by decide +kernel
theorem dX4_gather_20 : decode cX4_gather 20 = .ok (.if_icmp .ge 40, 3) := by decide +kernel
theorem dX4_gather_23 : decode cX4_gather 23 = .ok (.aload_n 1, 1) := by decide +kernel
theorem dX4_gather_24 : decode cX4_gather 24 = .ok (.iload_n 2, 1) := by decide +kernel
theorem dX4_gather_25 : decode cX4_gather 25 = .ok (.invokevirtual 28, 3) := by decide +kernel
theorem dX4_gather_28 : decode cX4_gather 28 = .ok (.ifCond .ne 6, 3) := by decide +kernel
theorem dX4_gather_31 : decode cX4_gather 31 = .ok (.goto 23, 3) := by decide +kernel
theorem dX4_gather_34 : decode cX4_gather 34 = .ok (.aload_n 0, 1) := by decide +kernel
theorem dX4_gather_35 : decode cX4_gather 35 = .ok (.getfield 9, 3) := by decide +kernel
theorem dX4_gather_38 : decode cX4_gather 38 = .ok (.aload_n 0, 1) := by decide +kernel
theorem dX4_gather_39 : decode cX4_gather 39 = .ok (.getfield 21, 3) := by decide +kernel
theorem dX4_gather_42 : decode cX4_gather 42 = .ok (.iload_n 2, 1) := by decide +kernel
theorem dX4_gather_43 : decode cX4_gather 43 = .ok (.iastore, 1) := by decide +kernel
theorem dX4_gather_44 : decode cX4_gather 44 = .ok (.aload_n 0, 1) := by decide +kernel
theorem dX4_gather_45 : decode cX4_gather 45 = .ok (.dup, 1) := by decide +kernel
theorem dX4_gather_46 : decode cX4_gather 46 = .ok (.getfield 21, 3) := by decide +kernel
theorem dX4_gather_49 : decode cX4_gather 49 = .ok (.iconst 1, 1) := by decide +kernel
theorem dX4_gather_50 : decode cX4_gather 50 = .ok (.iadd, 1) := by decide +kernel
theorem dX4_gather_51 : decode cX4_gather 51 = .ok (.putfield 21, 3) := by decide +kernel
theorem dX4_gather_54 : decode cX4_gather 54 = .ok (.iinc 2 1, 3) := by decide +kernel
theorem dX4_gather_57 : decode cX4_gather 57 = .ok (.goto (-50), 3) := by decide +kernel
theorem dX4_gather_60 : decode cX4_gather 60 = .ok (.return_, 1) := by decide +kernel
set_option maxRecDepth 100000 in
set_option maxHeartbeats 4000000 in
theorem k_X4_gather (κ : Kp) (xa : Nat → Nat → Nat) (X : XS) (okr : okRl (X 12)) (hf3 : frc (uR (X 12)) (X 12 3 0) ≤ 3) : mV κ yX4_gather cX4_gather 3 2 [.ref (xa 17 100), .ref (xa 12 100)] (xw κ xa X) (is0 (xw κ xa (setO X 17 (mA (mA (X 17) 3 (fun _ => frc (uR (X 12)) (X 12 3 0))) 0 (flA (X 17 0) (uR (X 12)) (X 12 3 0)))))) := by
  refine mV_of (by decide) (Nat.le_of_ble_eq_true rfl) (fun E F K => ?_)
  refine g_lv (lv' := [(0, .ref (xa 17 100)), (1, .ref (xa 12 100))]) rfl ?_
  have hn := okr.1
  refine g_aload_n F 0 dX4_gather_0 rfl ?_
  refine g_iconst F dX4_gather_1 ?_
  refine g17_put_3 F   lf_X4_21 dX4_gather_2 ?_
  refine g_iconst F dX4_gather_5 ?_
  refine g_istore_n F (lv' := [(2, .int (iI 0)), (0, .ref (xa 17 100)), (1, .ref (xa 12 100))]) 2 dX4_gather_6 rfl (by decide) rfl ?_
  have L7 : ∀ (mz7 : Nat) (p : Int) (m : Int) (f : Int → Int), (X 12 3 0 - p).toNat = mz7 → (0 ≤ p ∧ p ≤ X 12 3 0) → (m = frc (uR (X 12)) p) → (f = flA (X 17 0) (uR (X 12)) p) → G E (xw κ xa (setO X 17 (mA (mA (X 17) 3 (fun _ => m)) 0 f))) [(2, .int (iI p)), (0, .ref (xa 17 100)), (1, .ref (xa 12 100))] 7 [] := by
    intro mz7
    induction mz7 using Nat.strongRecOn with
    | _ mz7 ih7 =>
    intro p m f hmz7 hp hm hf
    refine g_iload_n F 0 dX4_gather_7 rfl ?_
    refine g_aload_n F 2 dX4_gather_8 rfl ?_
    refine gr_getN_3 F (o := 0) (by decide) nf_X4_25 dX4_gather_9 ?_
    refine g_top (y := iI ((X 12) 3 0)) rfl ?_
    refine g_icmp_ge F 60 (by omega) dX4_gather_12 (by decide) (fun c12 => ?_) (fun c12 => ?_)
    · skip
      exact K xw_same (by have e : frc (uR (X 12)) p = frc (uR (X 12)) (X 12 3 0) := (by first | (rw [show p = X 12 3 0 by omega]; done) | omega); rw [hm, hf, e, fl_stop _ _ hp.1 hp.2 e]) dX4_gather_60
    · skip
      have hmb := frc_bd (uR (X 12)) hp.1
      have hmm := frc_mono (uR (X 12)) hp.1 hp.2
      have hu : uR (X 12) p = X 12 4 0 / p2 p % 2 := rfl
      have hmb2 : 0 ≤ m ∧ m ≤ 3 := by omega
      refine g_aload_n F 1 dX4_gather_15 rfl ?_
      refine g17_get_3 F  lf_X4_21 dX4_gather_16 ?_
      refine g_top (y := iI m) rfl ?_
      refine g_iconst F dX4_gather_19 ?_
      refine g_icmp_ge F 60 (by omega) dX4_gather_20 (by decide) (fun c20 => ?_) (fun c20 => ?_)
      · skip
        exact K xw_same (by have e : frc (uR (X 12)) p = frc (uR (X 12)) (X 12 3 0) := (by first | (rw [show p = X 12 3 0 by omega]; done) | omega); rw [hm, hf, e, fl_stop _ _ hp.1 hp.2 e]) dX4_gather_60
      · skip
        refine g_aload_n F 2 dX4_gather_23 rfl ?_
        refine g_iload_n F 0 dX4_gather_24 rfl ?_
        refine g_callNI F (stk := [.int (iI p), .ref (xa 12 100)]) (st := []) (k_X2_isFree κ xa (setO X 17 (mA (mA (X 17) 3 (fun _ => m)) 0 f)) 0 (by decide) p (show In32 p ∧ (0 ≤ ((X 12) 3 0) ∧ ((X 12) 3 0) ≤ 6) ∧ 0 ≤ ((X 12) 4 0) ∧ ((X 12) 4 0) < 64 from by omega)) cal_X2_isFree nm_X4_28 60 rfl rfl rfl rfl (by decide) rfl (Nat.le_of_ble_eq_true rfl) dX4_gather_25 (fun r25 ws25 _ hr25 => ?_)
        obtain ⟨rfl, rfl⟩ := hr25
        refine g_top (y := iI (b2i ((0 ≤ p ∧ p < (X 12) 3 0) ∧ (X 12) 4 0 / p2 p % 2 = 0))) rfl ?_
        refine g_if_ne F 34 (b2i_in _) dX4_gather_28 (by decide) (fun c28 => ?_) (fun c28 => ?_)
        · skip
          have c28 : (0 ≤ p ∧ p < (X 12) 3 0) ∧ (X 12) 4 0 / p2 p % 2 = 0 := b2i_t c28
          refine g_aload_n F 1 dX4_gather_34 rfl ?_
          refine g17_get_0 F  lf_X4_9 dX4_gather_35 ?_
          refine g_aload_n F 1 dX4_gather_38 rfl ?_
          refine g17_get_3 F  lf_X4_21 dX4_gather_39 ?_
          refine g_top (y := iI m) rfl ?_
          refine g_iload_n F 0 dX4_gather_42 rfl ?_
          refine g17_ast_0 F  (by omega) dX4_gather_43 ?_
          refine g_ws (ws' := xw κ xa (setO X 17 (mA (mA (X 17) 3 (fun _ => m)) 0 (uI f m p)))) rfl ?_
          refine g_aload_n F 1 dX4_gather_44 rfl ?_
          refine g_dup F dX4_gather_45 rfl ?_
          refine g17_get_3 F  lf_X4_21 dX4_gather_46 ?_
          refine g_top (y := iI m) rfl ?_
          refine g_iconst F dX4_gather_49 ?_
          refine g_iadd F dX4_gather_50 ?_
          refine g17_put_3 F   lf_X4_21 dX4_gather_51 ?_
          refine g_ws (ws' := xw κ xa (setO X 17 (mA (mA (mA (X 17) 3 (fun _ => m)) 0 (uI f m p)) 3 (fun _ => m + 1)))) rfl ?_
          refine g_iinc F (lv' := [(2, .int (iI (p + 1))), (0, .ref (xa 17 100)), (1, .ref (xa 12 100))]) 0 dX4_gather_54 rfl (by decide) rfl ?_
          refine g_goto F 7 dX4_gather_57 (by decide) ?_
          refine g_sub F (lv' := [(2, .int (iI (p + 1))), (0, .ref (xa 17 100)), (1, .ref (xa 12 100))]) [0, 1, 2] rfl ?_
          refine g_ws (ws' := xw κ xa (setO X 17 (mA (mA (X 17) 3 (fun _ => (m + 1))) 0 (uI f m p)))) rfl ?_
          exact ih7 _ (by omega) (p + 1) (m + 1) (uI f m p) rfl (by omega) (by rw [frc_s _ hp.1, ← hm]; unfold fr1; first | rw [if_pos (by omega)] | (rw [if_neg (by omega)]; omega)) (by rw [flA_s _ _ hp.1, ← hm, ← hf]; first | rw [if_pos (by omega)] | rw [if_neg (by omega)])
        · skip
          have c28 : ¬ ((0 ≤ p ∧ p < (X 12) 3 0) ∧ (X 12) 4 0 / p2 p % 2 = 0) := b2i_f c28
          refine g_goto F 54 dX4_gather_31 (by decide) ?_
          refine g_iinc F (lv' := [(2, .int (iI (p + 1))), (0, .ref (xa 17 100)), (1, .ref (xa 12 100))]) 0 dX4_gather_54 rfl (by decide) rfl ?_
          refine g_goto F 7 dX4_gather_57 (by decide) ?_
          refine g_sub F (lv' := [(2, .int (iI (p + 1))), (0, .ref (xa 17 100)), (1, .ref (xa 12 100))]) [0, 1, 2] rfl ?_
          exact ih7 _ (by omega) (p + 1) m f rfl (by omega) (by rw [frc_s _ hp.1, ← hm]; unfold fr1; first | rw [if_pos (by omega)] | (rw [if_neg (by omega)]; omega)) (by rw [flA_s _ _ hp.1, ← hm, ← hf]; first | rw [if_pos (by omega)] | rw [if_neg (by omega)])
  refine g_sub F (lv' := [(2, .int (iI 0)), (0, .ref (xa 17 100)), (1, .ref (xa 12 100))]) [0, 1, 2] rfl ?_
  refine g_ws (ws' := xw κ xa (setO X 17 (mA (mA (X 17) 3 (fun _ => 0)) 0 ((X 17) 0)))) rfl ?_
  exact L7 _ 0 0 ((X 17) 0) rfl (by omega) rfl rfl
theorem dX4_takeOff_0 : decode cX4_takeOff 0 = .ok (.iconst 0, 1) := by decide +kernel
theorem dX4_takeOff_1 : decode cX4_takeOff 1 = .ok (.istore_n 1, 1) := by decide +kernel
theorem dX4_takeOff_2 : decode cX4_takeOff 2 = .ok (.iload_n 1, 1) := by decide +kernel
theorem dX4_takeOff_3 : decode cX4_takeOff 3 = .ok (.iconst 3, 1) := by decide +kernel
theorem dX4_takeOff_4 : decode cX4_takeOff 4 = .ok (.if_icmp .ge 16, 3) := by decide +kernel
theorem dX4_takeOff_7 : decode cX4_takeOff 7 = .ok (.aload_n 0, 1) := by decide +kernel
theorem dX4_takeOff_8 : decode cX4_takeOff 8 = .ok (.getfield 15, 3) := by decide +kernel
theorem dX4_takeOff_11 : decode cX4_takeOff 11 = .ok (.iload_n 1, 1) := by decide +kernel
theorem dX4_takeOff_12 : decode cX4_takeOff 12 = .ok (.iconst (-1), 1) := by decide +kernel
theorem dX4_takeOff_13 : decode cX4_takeOff 13 = .ok (.iastore, 1) := by decide +kernel
theorem dX4_takeOff_14 : decode cX4_takeOff 14 = .ok (.iinc 1 1, 3) := by decide +kernel
theorem dX4_takeOff_17 : decode cX4_takeOff 17 = .ok (.goto (-15), 3) := by decide +kernel
theorem dX4_takeOff_20 : decode cX4_takeOff 20 = .ok (.return_, 1) := by decide +kernel
set_option maxRecDepth 100000 in
set_option maxHeartbeats 4000000 in
theorem k_X4_takeOff (κ : Kp) (xa : Nat → Nat → Nat) (X : XS)   : mV κ yX4_takeOff cX4_takeOff 2 0 [.ref (xa 17 100)] (xw κ xa X) (is0 (xw κ xa (setO X 17 (mA (X 17) 1 (upTo ((X 17) 1) (fun _ => -1) 3))))) := by
  refine mV_of (by decide) (Nat.le_of_ble_eq_true rfl) (fun E F K => ?_)
  refine g_lv (lv' := [(0, .ref (xa 17 100))]) rfl ?_
  refine g_iconst F dX4_takeOff_0 ?_
  refine g_istore_n F (lv' := [(1, .int (iI 0)), (0, .ref (xa 17 100))]) 1 dX4_takeOff_1 rfl (by decide) rfl ?_
  have L2 : ∀ (mz2 : Nat) (i : Int) (f : Int → Int), (3 - i).toNat = mz2 → (0 ≤ i ∧ i ≤ 3) → (f = upTo (X 17 1) (fun _ => -1) i) → G E (xw κ xa (setO X 17 (mA (X 17) 1 f))) [(1, .int (iI i)), (0, .ref (xa 17 100))] 2 [] := by
    intro mz2
    induction mz2 using Nat.strongRecOn with
    | _ mz2 ih2 =>
    intro i f hmz2 hi hf
    refine g_iload_n F 0 dX4_takeOff_2 rfl ?_
    refine g_iconst F dX4_takeOff_3 ?_
    refine g_icmp_ge F 20 (by omega) dX4_takeOff_4 (by decide) (fun c4 => ?_) (fun c4 => ?_)
    · skip
      exact K xw_same (by rw [hf, show i = 3 by omega]) dX4_takeOff_20
    · skip
      refine g_aload_n F 1 dX4_takeOff_7 rfl ?_
      refine g17_get_1 F  lf_X4_15 dX4_takeOff_8 ?_
      refine g_iload_n F 0 dX4_takeOff_11 rfl ?_
      refine g_iconst F dX4_takeOff_12 ?_
      refine g17_ast_1 F  (by omega) dX4_takeOff_13 ?_
      refine g_ws (ws' := xw κ xa (setO X 17 (mA (X 17) 1 (uI f i (-1))))) rfl ?_
      refine g_iinc F (lv' := [(1, .int (iI (i + 1))), (0, .ref (xa 17 100))]) 0 dX4_takeOff_14 rfl (by decide) rfl ?_
      refine g_goto F 2 dX4_takeOff_17 (by decide) ?_
      refine g_sub F (lv' := [(1, .int (iI (i + 1))), (0, .ref (xa 17 100))]) [0, 1] rfl ?_
      exact ih2 _ (by omega) (i + 1) (uI f i (-1)) rfl (by omega) (by rw [hf]; exact upTo_s _ (fun _ => -1) hi.1)
  refine g_sub F (lv' := [(1, .int (iI 0)), (0, .ref (xa 17 100))]) [0, 1] rfl ?_
  refine g_ws (ws' := xw κ xa (setO X 17 (mA (X 17) 1 ((X 17) 1)))) (by rw [mA_self, setO_self]) ?_
  exact L2 _ 0 ((X 17) 1) rfl (by omega) (upTo_0 _ _).symm
theorem dX4_many_0 : decode cX4_many 0 = .ok (.iconst 1, 1) := by decide +kernel
theorem dX4_many_1 : decode cX4_many 1 = .ok (.istore_n 1, 1) := by decide +kernel
theorem dX4_many_2 : decode cX4_many 2 = .ok (.iconst 0, 1) := by decide +kernel
theorem dX4_many_3 : decode cX4_many 3 = .ok (.istore_n 2, 1) := by decide +kernel
theorem dX4_many_4 : decode cX4_many 4 = .ok (.iload_n 2, 1) := by decide +kernel
theorem dX4_many_5 : decode cX4_many 5 = .ok (.aload_n 0, 1) := by decide +kernel
theorem dX4_many_6 : decode cX4_many 6 = .ok (.getfield 21, 3) := by decide +kernel
theorem dX4_many_9 : decode cX4_many 9 = .ok (.if_icmp .ge 14, 3) := by decide +kernel
theorem dX4_many_12 : decode cX4_many 12 = .ok (.iload_n 1, 1) := by decide +kernel
theorem dX4_many_13 : decode cX4_many 13 = .ok (.bipush 12, 2) := by decide +kernel
theorem dX4_many_15 : decode cX4_many 15 = .ok (.imul, 1) := by decide +kernel
theorem dX4_many_16 : decode cX4_many 16 = .ok (.istore_n 1, 1) := by decide +kernel
theorem dX4_many_17 : decode cX4_many 17 = .ok (.iinc 2 1, 3) := by decide +kernel
theorem dX4_many_20 : decode cX4_many 20 = .ok (.goto (-16), 3) := by decide +kernel
theorem dX4_many_23 : decode cX4_many 23 = .ok (.iload_n 1, 1) := by decide +kernel
theorem dX4_many_24 : decode cX4_many 24 = .ok (.ireturn, 1) := by decide +kernel
set_option maxRecDepth 100000 in
set_option maxHeartbeats 4000000 in
theorem k_X4_many (κ : Kp) (xa : Nat → Nat → Nat) (X : XS)  (hn : 0 ≤ X 17 3 0 ∧ X 17 3 0 ≤ 3) : mI κ yX4_many cX4_many 3 .int 0 [.ref (xa 17 100)] (xw κ xa X) (is1 (iI (pwT (X 17 3 0))) (xw κ xa X)) := by
  refine mI_of (by decide) (Nat.le_of_ble_eq_true rfl) (fun E F K => ?_)
  refine g_lv (lv' := [(0, .ref (xa 17 100))]) rfl ?_
  refine g_iconst F dX4_many_0 ?_
  refine g_istore_n F (lv' := [(1, .int (iI 1)), (0, .ref (xa 17 100))]) 1 dX4_many_1 rfl (by decide) rfl ?_
  refine g_iconst F dX4_many_2 ?_
  refine g_istore_n F (lv' := [(2, .int (iI 0)), (1, .int (iI 1)), (0, .ref (xa 17 100))]) 2 dX4_many_3 rfl (by decide) rfl ?_
  have L4 : ∀ (mz4 : Nat) (i : Int) (cd : Int), (X 17 3 0 - i).toNat = mz4 → (0 ≤ i ∧ i ≤ X 17 3 0) → (cd = pwT i) → (1 ≤ cd ∧ cd ≤ 1728) → G E (xw κ xa X) [(2, .int (iI i)), (1, .int (iI cd)), (0, .ref (xa 17 100))] 4 [] := by
    intro mz4
    induction mz4 using Nat.strongRecOn with
    | _ mz4 ih4 =>
    intro i cd hmz4 hi hcd hcdb
    refine g_iload_n F 0 dX4_many_4 rfl ?_
    refine g_aload_n F 2 dX4_many_5 rfl ?_
    refine g17_get_3 F  lf_X4_21 dX4_many_6 ?_
    refine g_icmp_ge F 23 (by omega) dX4_many_9 (by decide) (fun c9 => ?_) (fun c9 => ?_)
    · skip
      refine g_iload_n F 1 dX4_many_23 rfl ?_
      exact K xw_same ⟨iIc (by rw [hcd, show i = X 17 3 0 by omega]), rfl⟩ rfl dX4_many_24
    · skip
      refine g_iload_n F 1 dX4_many_12 rfl ?_
      refine g_bipush F dX4_many_13 (by decide +kernel) ?_
      refine g_imul F dX4_many_15 ?_
      refine g_istore_n F (lv' := [(1, .int (iI (cd * 12))), (2, .int (iI i)), (0, .ref (xa 17 100))]) 1 dX4_many_16 rfl (by decide) rfl ?_
      refine g_iinc F (lv' := [(2, .int (iI (i + 1))), (1, .int (iI (cd * 12))), (0, .ref (xa 17 100))]) 1 dX4_many_17 rfl (by decide) rfl ?_
      refine g_goto F 4 dX4_many_20 (by decide) ?_
      refine g_sub F (lv' := [(2, .int (iI (i + 1))), (1, .int (iI (cd * 12))), (0, .ref (xa 17 100))]) [0, 1, 2] rfl ?_
      exact ih4 _ (by omega) (i + 1) (cd * 12) rfl (by omega) (by rw [pwT_s hi.1 (by omega)]; omega) (by have e := pwT_s (j := i) hi.1 (by omega); have e2 := pwT_bd (i + 1); omega)
  refine g_sub F (lv' := [(2, .int (iI 0)), (1, .int (iI 1)), (0, .ref (xa 17 100))]) [0, 1, 2] rfl ?_
  exact L4 _ 0 1 rfl (by omega) (by decide) (by omega)
theorem dX4_cellIn_0 : decode cX4_cellIn 0 = .ok (.iload_n 1, 1) := by decide +kernel
theorem dX4_cellIn_1 : decode cX4_cellIn 1 = .ok (.istore_n 3, 1) := by decide +kernel
theorem dX4_cellIn_2 : decode cX4_cellIn 2 = .ok (.aload_n 0, 1) := by decide +kernel
theorem dX4_cellIn_3 : decode cX4_cellIn 3 = .ok (.getfield 21, 3) := by decide +kernel
theorem dX4_cellIn_6 : decode cX4_cellIn 6 = .ok (.iconst 1, 1) := by decide +kernel
theorem dX4_cellIn_7 : decode cX4_cellIn 7 = .ok (.isub, 1) := by decide +kernel
theorem dX4_cellIn_8 : decode cX4_cellIn 8 = .ok (.istore 4, 2) := by decide +kernel
theorem dX4_cellIn_10 : decode cX4_cellIn 10 = .ok (.iload 4, 2) := by decide +kernel
theorem dX4_cellIn_12 : decode cX4_cellIn 12 = .ok (.iload_n 2, 1) := by decide +kernel
theorem dX4_cellIn_13 : decode cX4_cellIn 13 = .ok (.if_icmp .le 14, 3) := by decide +kernel
theorem dX4_cellIn_16 : decode cX4_cellIn 16 = .ok (.iload_n 3, 1) := by decide +kernel
theorem dX4_cellIn_17 : decode cX4_cellIn 17 = .ok (.bipush 12, 2) := by decide +kernel
theorem dX4_cellIn_19 : decode cX4_cellIn 19 = .ok (.idiv, 1) := by decide +kernel
theorem dX4_cellIn_20 : decode cX4_cellIn 20 = .ok (.istore_n 3, 1) := by decide +kernel
theorem dX4_cellIn_21 : decode cX4_cellIn 21 = .ok (.iinc 4 (-1), 3) := by decide +kernel
theorem dX4_cellIn_24 : decode cX4_cellIn 24 = .ok (.goto (-14), 3) := by decide +kernel
theorem dX4_cellIn_27 : decode cX4_cellIn 27 = .ok (.iload_n 3, 1) := by decide +kernel
theorem dX4_cellIn_28 : decode cX4_cellIn 28 = .ok (.bipush 12, 2) := by decide +kernel
theorem dX4_cellIn_30 : decode cX4_cellIn 30 = .ok (.irem, 1) := by decide +kernel
theorem dX4_cellIn_31 : decode cX4_cellIn 31 = .ok (.ireturn, 1) := by decide +kernel
set_option maxRecDepth 100000 in
set_option maxHeartbeats 4000000 in
theorem k_X4_cellIn (κ : Kp) (xa : Nat → Nat → Nat) (X : XS) (w : Int) (i : Int)  (hn : (0 ≤ X 17 3 0 ∧ X 17 3 0 ≤ 3) ∧ (0 ≤ w ∧ w < 1728) ∧ 0 ≤ i ∧ i < X 17 3 0) : mI κ yX4_cellIn cX4_cellIn 5 .int 0 [.ref (xa 17 100), .int (iI w), .int (iI i)] (xw κ xa X) (is1 (iI (dgA (X 17 3 0) w i)) (xw κ xa X)) := by
  refine mI_of (by decide) (Nat.le_of_ble_eq_true rfl) (fun E F K => ?_)
  refine g_lv (lv' := [(0, .ref (xa 17 100)), (1, .int (iI w)), (2, .int (iI i))]) rfl ?_
  refine g_iload_n F 1 dX4_cellIn_0 rfl ?_
  refine g_istore_n F (lv' := [(3, .int (iI w)), (0, .ref (xa 17 100)), (1, .int (iI w)), (2, .int (iI i))]) 3 dX4_cellIn_1 rfl (by decide) rfl ?_
  refine g_aload_n F 1 dX4_cellIn_2 rfl ?_
  refine g17_get_3 F  lf_X4_21 dX4_cellIn_3 ?_
  refine g_iconst F dX4_cellIn_6 ?_
  refine g_isub F dX4_cellIn_7 ?_
  refine g_istore F (lv' := [(4, .int (iI (((X 17) 3 0) - 1))), (3, .int (iI w)), (0, .ref (xa 17 100)), (1, .int (iI w)), (2, .int (iI i))]) dX4_cellIn_8 (by decide) rfl ?_
  have L10 : ∀ (mz10 : Nat) (h : Int) (r : Int), (h - i).toNat = mz10 → (i ≤ h ∧ h ≤ X 17 3 0 - 1) → (r = w / pwT (X 17 3 0 - 1 - h)) → (0 ≤ r ∧ r < 1728) → G E (xw κ xa X) [(4, .int (iI h)), (3, .int (iI r)), (0, .ref (xa 17 100)), (1, .int (iI w)), (2, .int (iI i))] 10 [] := by
    intro mz10
    induction mz10 using Nat.strongRecOn with
    | _ mz10 ih10 =>
    intro h r hmz10 hh hr hrb
    refine g_iload F 0 dX4_cellIn_10 rfl ?_
    refine g_iload_n F 4 dX4_cellIn_12 rfl ?_
    refine g_icmp_le F 27 (by omega) dX4_cellIn_13 (by decide) (fun c13 => ?_) (fun c13 => ?_)
    · skip
      refine g_iload_n F 1 dX4_cellIn_27 rfl ?_
      refine g_bipush F dX4_cellIn_28 (by decide +kernel) ?_
      refine g_irem F dX4_cellIn_30 (by omega) ?_
      exact K xw_same ⟨iIc (by rw [dg_in (by omega) (by omega), hr, show h = i by omega]), rfl⟩ rfl dX4_cellIn_31
    · skip
      refine g_iload_n F 1 dX4_cellIn_16 rfl ?_
      refine g_bipush F dX4_cellIn_17 (by decide +kernel) ?_
      refine g_idiv F dX4_cellIn_19 (by omega) ?_
      refine g_istore_n F (lv' := [(3, .int (iI (r / 12))), (4, .int (iI h)), (0, .ref (xa 17 100)), (1, .int (iI w)), (2, .int (iI i))]) 3 dX4_cellIn_20 rfl (by decide) rfl ?_
      refine g_iinc F (lv' := [(4, .int (iI (h + (-1)))), (3, .int (iI (r / 12))), (0, .ref (xa 17 100)), (1, .int (iI w)), (2, .int (iI i))]) 1 dX4_cellIn_21 rfl (by decide) rfl ?_
      refine g_goto F 10 dX4_cellIn_24 (by decide) ?_
      refine g_sub F (lv' := [(4, .int (iI (h + (-1)))), (3, .int (iI (r / 12))), (0, .ref (xa 17 100)), (1, .int (iI w)), (2, .int (iI i))]) [0, 1, 2, 3, 4] rfl ?_
      exact ih10 _ (by omega) (h + (-1)) (r / 12) rfl (by omega) (by rw [hr, pw_div (by omega) (by omega) (by omega), show X 17 3 0 - 1 - h + 1 = X 17 3 0 - 1 - (h + (-1)) by omega]) (by omega)
  refine g_sub F (lv' := [(4, .int (iI (((X 17) 3 0) - 1))), (3, .int (iI w)), (0, .ref (xa 17 100)), (1, .int (iI w)), (2, .int (iI i))]) [0, 1, 2, 3, 4] rfl ?_
  exact L10 _ (((X 17) 3 0) - 1) w rfl (by omega) (by rw [show X 17 3 0 - 1 - (X 17 3 0 - 1) = 0 by omega]; show w = w / 1; omega) (by omega)
theorem dX4_isTaken_0 : decode cX4_isTaken 0 = .ok (.iconst 0, 1) := by decide +kernel
theorem dX4_isTaken_1 : decode cX4_isTaken 1 = .ok (.istore_n 2, 1) := by decide +kernel
theorem dX4_isTaken_2 : decode cX4_isTaken 2 = .ok (.iload_n 2, 1) := by decide +kernel
theorem dX4_isTaken_3 : decode cX4_isTaken 3 = .ok (.aload_n 0, 1) := by decide +kernel
theorem dX4_isTaken_4 : decode cX4_isTaken 4 = .ok (.getfield 21, 3) := by decide +kernel
theorem dX4_isTaken_7 : decode cX4_isTaken 7 = .ok (.if_icmp .ge 21, 3) := by decide +kernel
theorem dX4_isTaken_10 : decode cX4_isTaken 10 = .ok (.aload_n 0, 1) := by decide +kernel
theorem dX4_isTaken_11 : decode cX4_isTaken 11 = .ok (.getfield 15, 3) := by decide +kernel
theorem dX4_isTaken_14 : decode cX4_isTaken 14 = .ok (.iload_n 2, 1) := by decide +kernel
theorem dX4_isTaken_15 : decode cX4_isTaken 15 = .ok (.iaload, 1) := by decide +kernel
theorem dX4_isTaken_16 : decode cX4_isTaken 16 = .ok (.iload_n 1, 1) := by decide +kernel
theorem dX4_isTaken_17 : decode cX4_isTaken 17 = .ok (.if_icmp .ne 5, 3) := by decide +kernel
theorem dX4_isTaken_20 : decode cX4_isTaken 20 = .ok (.iconst 1, 1) := by decide +kernel
theorem dX4_isTaken_21 : decode cX4_isTaken 21 = .ok (.ireturn, 1) := by decide +kernel
theorem dX4_isTaken_22 : decode cX4_isTaken 22 = .ok (.iinc 2 1, 3) := by decide +kernel
theorem dX4_isTaken_25 : decode cX4_isTaken 25 = .ok (.goto (-23), 3) := by decide +kernel
theorem dX4_isTaken_28 : decode cX4_isTaken 28 = .ok (.iconst 0, 1) := by decide +kernel
theorem dX4_isTaken_29 : decode cX4_isTaken 29 = .ok (.ireturn, 1) := by decide +kernel
set_option maxRecDepth 100000 in
set_option maxHeartbeats 4000000 in
theorem k_X4_isTaken (κ : Kp) (xa : Nat → Nat → Nat) (X : XS) (c : Int)  (hn : 0 ≤ X 17 3 0 ∧ X 17 3 0 ≤ 3) (hr : ∀ j : Int, 0 ≤ j → j < 3 → -1 ≤ X 17 1 j ∧ X 17 1 j ≤ 11) (hc : 0 ≤ c ∧ c < 12) : mI κ yX4_isTaken cX4_isTaken 3 .boolean 0 [.ref (xa 17 100), .int (iI c)] (xw κ xa X) (is1 (iI (b2i (tkn (X 17 1) (X 17 3 0) c))) (xw κ xa X)) := by
  refine mI_of (by decide) (Nat.le_of_ble_eq_true rfl) (fun E F K => ?_)
  refine g_lv (lv' := [(0, .ref (xa 17 100)), (1, .int (iI c))]) rfl ?_
  refine g_iconst F dX4_isTaken_0 ?_
  refine g_istore_n F (lv' := [(2, .int (iI 0)), (0, .ref (xa 17 100)), (1, .int (iI c))]) 2 dX4_isTaken_1 rfl (by decide) rfl ?_
  have L2 : ∀ (mz2 : Nat) (i : Int), (X 17 3 0 - i).toNat = mz2 → (0 ≤ i ∧ i ≤ X 17 3 0) → (nfr (X 17 1) i c) → G E (xw κ xa X) [(2, .int (iI i)), (0, .ref (xa 17 100)), (1, .int (iI c))] 2 [] := by
    intro mz2
    induction mz2 using Nat.strongRecOn with
    | _ mz2 ih2 =>
    intro i hmz2 hi hf
    refine g_iload_n F 0 dX4_isTaken_2 rfl ?_
    refine g_aload_n F 1 dX4_isTaken_3 rfl ?_
    refine g17_get_3 F  lf_X4_21 dX4_isTaken_4 ?_
    refine g_icmp_ge F 28 (by omega) dX4_isTaken_7 (by decide) (fun c7 => ?_) (fun c7 => ?_)
    · skip
      refine g_iconst F dX4_isTaken_28 ?_
      exact K xw_same ⟨b2i_0 (nfr_n (by rw [← show i = X 17 3 0 by omega]; exact hf)), rfl⟩ (by decide +kernel) dX4_isTaken_29
    · skip
      have h1 := hr i (by omega) (by omega)
      refine g_aload_n F 1 dX4_isTaken_10 rfl ?_
      refine g17_get_1 F  lf_X4_15 dX4_isTaken_11 ?_
      refine g_iload_n F 0 dX4_isTaken_14 rfl ?_
      refine g17_ald_1 F  (by omega) dX4_isTaken_15 ?_
      refine g_iload_n F 2 dX4_isTaken_16 rfl ?_
      refine g_icmp_ne F 22 (by omega) dX4_isTaken_17 (by decide) (fun c17 => ?_) (fun c17 => ?_)
      · skip
        refine g_iinc F (lv' := [(2, .int (iI (i + 1))), (0, .ref (xa 17 100)), (1, .int (iI c))]) 0 dX4_isTaken_22 rfl (by decide) rfl ?_
        refine g_goto F 2 dX4_isTaken_25 (by decide) ?_
        refine g_sub F (lv' := [(2, .int (iI (i + 1))), (0, .ref (xa 17 100)), (1, .int (iI c))]) [0, 1, 2] rfl ?_
        exact ih2 _ (by omega) (i + 1) rfl (by omega) (nfr_s hf hi.1 (by omega) c17)
      · skip
        refine g_iconst F dX4_isTaken_20 ?_
        exact K xw_same ⟨b2i_1 (tkn_y hi.1 (by omega) (by omega) c17), rfl⟩ (by decide +kernel) dX4_isTaken_21
  refine g_sub F (lv' := [(2, .int (iI 0)), (0, .ref (xa 17 100)), (1, .int (iI c))]) [0, 1, 2] rfl ?_
  exact L2 _ 0 rfl (by omega) (by unfold nfr; omega)
theorem dX4_number_0 : decode cX4_number 0 = .ok (.iconst 0, 1) := by decide +kernel
theorem dX4_number_1 : decode cX4_number 1 = .ok (.istore_n 1, 1) := by decide +kernel
theorem dX4_number_2 : decode cX4_number 2 = .ok (.iconst 0, 1) := by decide +kernel
theorem dX4_number_3 : decode cX4_number 3 = .ok (.istore_n 2, 1) := by decide +kernel
theorem dX4_number_4 : decode cX4_number 4 = .ok (.iload_n 2, 1) := by decide +kernel
theorem dX4_number_5 : decode cX4_number 5 = .ok (.aload_n 0, 1) := by decide +kernel
theorem dX4_number_6 : decode cX4_number 6 = .ok (.getfield 21, 3) := by decide +kernel
theorem dX4_number_9 : decode cX4_number 9 = .ok (.if_icmp .ge 25, 3) := by decide +kernel
theorem dX4_number_12 : decode cX4_number 12 = .ok (.iload_n 1, 1) := by decide +kernel
theorem dX4_number_13 : decode cX4_number 13 = .ok (.bipush 12, 2) := by decide +kernel
theorem dX4_number_15 : decode cX4_number 15 = .ok (.imul, 1) := by decide +kernel
theorem dX4_number_16 : decode cX4_number 16 = .ok (.iconst 0, 1) := by decide +kernel
theorem dX4_number_17 : decode cX4_number 17 = .ok (.aload_n 0, 1) := by decide +kernel
theorem dX4_number_18 : decode cX4_number 18 = .ok (.getfield 15, 3) := by decide +kernel
theorem dX4_number_21 : decode cX4_number 21 = .ok (.iload_n 2, 1) := by decide +kernel
theorem dX4_number_22 : decode cX4_number 22 = .ok (.iaload, 1) := by decide +kernel
theorem dX4_number_23 : decode cX4_number 23 = .ok (.invokestatic 59, 3) := by decide +kernel
theorem dX4_number_26 : decode cX4_number 26 = .ok (.iadd, 1) := by decide +kernel
theorem dX4_number_27 : decode cX4_number 27 = .ok (.istore_n 1, 1) := by decide +kernel
theorem dX4_number_28 : decode cX4_number 28 = .ok (.iinc 2 1, 3) := by decide +kernel
theorem dX4_number_31 : decode cX4_number 31 = .ok (.goto (-27), 3) := by decide +kernel
theorem dX4_number_34 : decode cX4_number 34 = .ok (.iload_n 1, 1) := by decide +kernel
theorem dX4_number_35 : decode cX4_number 35 = .ok (.ireturn, 1) := by decide +kernel
set_option maxRecDepth 100000 in
set_option maxHeartbeats 4000000 in
theorem k_X4_number (κ : Kp) (xa : Nat → Nat → Nat) (X : XS)  (hn : 0 ≤ X 17 3 0 ∧ X 17 3 0 ≤ 3) (hr : ∀ j : Int, 0 ≤ j → j < 3 → -1 ≤ X 17 1 j ∧ X 17 1 j ≤ 11) : mI κ yX4_number cX4_number 3 .int 1 [.ref (xa 17 100)] (xw κ xa X) (is1 (iI (nmI (X 17 1) (X 17 3 0))) (xw κ xa X)) := by
  refine mI_of (by decide) (Nat.le_of_ble_eq_true rfl) (fun E F K => ?_)
  refine g_lv (lv' := [(0, .ref (xa 17 100))]) rfl ?_
  refine g_iconst F dX4_number_0 ?_
  refine g_istore_n F (lv' := [(1, .int (iI 0)), (0, .ref (xa 17 100))]) 1 dX4_number_1 rfl (by decide) rfl ?_
  refine g_iconst F dX4_number_2 ?_
  refine g_istore_n F (lv' := [(2, .int (iI 0)), (1, .int (iI 0)), (0, .ref (xa 17 100))]) 2 dX4_number_3 rfl (by decide) rfl ?_
  have L4 : ∀ (mz4 : Nat) (i : Int) (m : Int), (X 17 3 0 - i).toNat = mz4 → (0 ≤ i ∧ i ≤ X 17 3 0) → (m = nmI (X 17 1) i) → (0 ≤ m ∧ m < pwT i) → G E (xw κ xa X) [(2, .int (iI i)), (1, .int (iI m)), (0, .ref (xa 17 100))] 4 [] := by
    intro mz4
    induction mz4 using Nat.strongRecOn with
    | _ mz4 ih4 =>
    intro i m hmz4 hi hm hmb
    refine g_iload_n F 0 dX4_number_4 rfl ?_
    refine g_aload_n F 2 dX4_number_5 rfl ?_
    refine g17_get_3 F  lf_X4_21 dX4_number_6 ?_
    refine g_icmp_ge F 34 (by omega) dX4_number_9 (by decide) (fun c9 => ?_) (fun c9 => ?_)
    · skip
      refine g_iload_n F 1 dX4_number_34 rfl ?_
      exact K xw_same ⟨iIc (by rw [hm, show i = X 17 3 0 by omega]), rfl⟩ rfl dX4_number_35
    · skip
      have h1 := hr i (by omega) (by omega)
      have hpb := pwT_bd i
      refine g_iload_n F 1 dX4_number_12 rfl ?_
      refine g_bipush F dX4_number_13 (by decide +kernel) ?_
      refine g_imul F dX4_number_15 ?_
      refine g_iconst F dX4_number_16 ?_
      refine g_aload_n F 2 dX4_number_17 rfl ?_
      refine g17_get_1 F  lf_X4_15 dX4_number_18 ?_
      refine g_iload_n F 0 dX4_number_21 rfl ?_
      refine g17_ald_1 F  (by omega) dX4_number_22 ?_
      refine g_max F (by omega) lm_X4_59 ms_max ms_ini mc_max (by decide) (Nat.le_of_ble_eq_true rfl) dX4_number_23 ?_
      refine g_iadd F dX4_number_26 ?_
      refine g_istore_n F (lv' := [(1, .int (iI ((m * 12) + (max 0 ((X 17) 1 i))))), (2, .int (iI i)), (0, .ref (xa 17 100))]) 1 dX4_number_27 rfl (by decide) rfl ?_
      refine g_iinc F (lv' := [(2, .int (iI (i + 1))), (1, .int (iI ((m * 12) + (max 0 ((X 17) 1 i))))), (0, .ref (xa 17 100))]) 1 dX4_number_28 rfl (by decide) rfl ?_
      refine g_goto F 4 dX4_number_31 (by decide) ?_
      refine g_sub F (lv' := [(2, .int (iI (i + 1))), (1, .int (iI ((m * 12) + (max 0 ((X 17) 1 i))))), (0, .ref (xa 17 100))]) [0, 1, 2] rfl ?_
      exact ih4 _ (by omega) (i + 1) ((m * 12) + (max 0 ((X 17) 1 i))) rfl (by omega) (by rw [nm_s _ hi.1, ← hm]) (by have e := nm_bd (a := X 17 1) (n := i + 1) (fun j a b => (hr j a b).2) (by omega) (by omega); rw [nm_s _ hi.1, ← hm] at e; exact e)
  refine g_sub F (lv' := [(2, .int (iI 0)), (1, .int (iI 0)), (0, .ref (xa 17 100))]) [0, 1, 2] rfl ?_
  exact L4 _ 0 0 rfl (by omega) rfl (by decide)
theorem dX4_placeOf_0 : decode cX4_placeOf 0 = .ok (.iconst 0, 1) := by decide +kernel
theorem dX4_placeOf_1 : decode cX4_placeOf 1 = .ok (.istore_n 2, 1) := by decide +kernel
theorem dX4_placeOf_2 : decode cX4_placeOf 2 = .ok (.iload_n 2, 1) := by decide +kernel
theorem dX4_placeOf_3 : decode cX4_placeOf 3 = .ok (.aload_n 0, 1) := by decide +kernel
theorem dX4_placeOf_4 : decode cX4_placeOf 4 = .ok (.getfield 21, 3) := by decide +kernel
theorem dX4_placeOf_7 : decode cX4_placeOf 7 = .ok (.if_icmp .ge 21, 3) := by decide +kernel
theorem dX4_placeOf_10 : decode cX4_placeOf 10 = .ok (.aload_n 0, 1) := by decide +kernel
theorem dX4_placeOf_11 : decode cX4_placeOf 11 = .ok (.getfield 9, 3) := by decide +kernel
theorem dX4_placeOf_14 : decode cX4_placeOf 14 = .ok (.iload_n 2, 1) := by decide +kernel
theorem dX4_placeOf_15 : decode cX4_placeOf 15 = .ok (.iaload, 1) := by decide +kernel
theorem dX4_placeOf_16 : decode cX4_placeOf 16 = .ok (.iload_n 1, 1) := by decide +kernel
theorem dX4_placeOf_17 : decode cX4_placeOf 17 = .ok (.if_icmp .ne 5, 3) := by decide +kernel
theorem dX4_placeOf_20 : decode cX4_placeOf 20 = .ok (.iload_n 2, 1) := by decide +kernel
theorem dX4_placeOf_21 : decode cX4_placeOf 21 = .ok (.ireturn, 1) := by decide +kernel
theorem dX4_placeOf_22 : decode cX4_placeOf 22 = .ok (.iinc 2 1, 3) := by decide +kernel
theorem dX4_placeOf_25 : decode cX4_placeOf 25 = .ok (.goto (-23), 3) := by decide +kernel
theorem dX4_placeOf_28 : decode cX4_placeOf 28 = .ok (.iconst 0, 1) := by decide +kernel
theorem dX4_placeOf_29 : decode cX4_placeOf 29 = .ok (.ireturn, 1) := by decide +kernel
set_option maxRecDepth 100000 in
set_option maxHeartbeats 4000000 in
theorem k_X4_placeOf (κ : Kp) (xa : Nat → Nat → Nat) (X : XS) (u : Int → Int) (N p : Int) (hF : isFr (X 17 0) u N) (hN : X 17 3 0 = frc u N ∧ frc u N ≤ 3) (hp : (0 ≤ p ∧ p < N) ∧ N ≤ 6) (hu : u p = 0) : mI κ yX4_placeOf cX4_placeOf 3 .int 0 [.ref (xa 17 100), .int (iI p)] (xw κ xa X) (is1 (iI (frc u p)) (xw κ xa X)) := by
  refine mI_of (by decide) (Nat.le_of_ble_eq_true rfl) (fun E F K => ?_)
  refine g_lv (lv' := [(0, .ref (xa 17 100)), (1, .int (iI p))]) rfl ?_
  have hP := hF.2 p hp.1.1 hp.1.2 hu
  refine g_iconst F dX4_placeOf_0 ?_
  refine g_istore_n F (lv' := [(2, .int (iI 0)), (0, .ref (xa 17 100)), (1, .int (iI p))]) 2 dX4_placeOf_1 rfl (by decide) rfl ?_
  have L2 : ∀ (mz2 : Nat) (i : Int), (X 17 3 0 - i).toNat = mz2 → (0 ≤ i ∧ i ≤ frc u p) → G E (xw κ xa X) [(2, .int (iI i)), (0, .ref (xa 17 100)), (1, .int (iI p))] 2 [] := by
    intro mz2
    induction mz2 using Nat.strongRecOn with
    | _ mz2 ih2 =>
    intro i hmz2 hi
    refine g_iload_n F 0 dX4_placeOf_2 rfl ?_
    refine g_aload_n F 1 dX4_placeOf_3 rfl ?_
    refine g17_get_3 F  lf_X4_21 dX4_placeOf_4 ?_
    refine g_icmp_ge F 28 (by omega) dX4_placeOf_7 (by decide) (fun c7 => ?_) (fun c7 => ?_)
    · skip
      exact absurd trivial (by omega)
    · skip
      have hfi := hF.1 i hi.1 (by omega)
      refine g_aload_n F 1 dX4_placeOf_10 rfl ?_
      refine g17_get_0 F  lf_X4_9 dX4_placeOf_11 ?_
      refine g_iload_n F 0 dX4_placeOf_14 rfl ?_
      refine g17_ald_0 F  (by omega) dX4_placeOf_15 ?_
      refine g_iload_n F 2 dX4_placeOf_16 rfl ?_
      refine g_icmp_ne F 22 (by omega) dX4_placeOf_17 (by decide) (fun c17 => ?_) (fun c17 => ?_)
      · skip
        refine g_iinc F (lv' := [(2, .int (iI (i + 1))), (0, .ref (xa 17 100)), (1, .int (iI p))]) 0 dX4_placeOf_22 rfl (by decide) rfl ?_
        refine g_goto F 2 dX4_placeOf_25 (by decide) ?_
        refine g_sub F (lv' := [(2, .int (iI (i + 1))), (0, .ref (xa 17 100)), (1, .int (iI p))]) [0, 1, 2] rfl ?_
        exact ih2 _ (by omega) (i + 1) rfl (by have q : i ≠ frc u p := (fun z => c17 (by rw [z]; exact hP.1)); omega)
      · skip
        refine g_iload_n F 0 dX4_placeOf_20 rfl ?_
        exact K xw_same ⟨iIc (by have h := hfi.2.2; rw [c17] at h; exact h.symm), rfl⟩ rfl dX4_placeOf_21
  refine g_sub F (lv' := [(2, .int (iI 0)), (0, .ref (xa 17 100)), (1, .int (iI p))]) [0, 1, 2] rfl ?_
  exact L2 _ 0 rfl (by have := (frc_bd u (n := p) (by omega)).1; omega)
theorem dX4_leastWay_0 : decode cX4_leastWay 0 = .ok (.iconst (-1), 1) := by decide +kernel
theorem dX4_leastWay_1 : decode cX4_leastWay 1 = .ok (.istore_n 1, 1) := by decide +kernel
theorem dX4_leastWay_2 : decode cX4_leastWay 2 = .ok (.iconst 0, 1) := by decide +kernel
theorem dX4_leastWay_3 : decode cX4_leastWay 3 = .ok (.istore_n 2, 1) := by decide +kernel
theorem dX4_leastWay_4 : decode cX4_leastWay 4 = .ok (.iload_n 2, 1) := by decide +kernel
theorem dX4_leastWay_5 : decode cX4_leastWay 5 = .ok (.aload_n 0, 1) := by decide +kernel
theorem dX4_leastWay_6 : decode cX4_leastWay 6 = .ok (.invokevirtual 32, 3) := by decide +kernel
theorem dX4_leastWay_9 : decode cX4_leastWay 9 = .ok (.if_icmp .ge 44, 3) := by decide +kernel
theorem dX4_leastWay_12 : decode cX4_leastWay 12 = .ok (.aload_n 0, 1) := by decide +kernel
theorem dX4_leastWay_13 : decode cX4_leastWay 13 = .ok (.getfield 18, 3) := by decide +kernel
theorem dX4_leastWay_16 : decode cX4_leastWay 16 = .ok (.iload_n 2, 1) := by decide +kernel
theorem dX4_leastWay_17 : decode cX4_leastWay 17 = .ok (.iaload, 1) := by decide +kernel
theorem dX4_leastWay_18 : decode cX4_leastWay 18 = .ok (.iconst (-1), 1) := by decide +kernel
theorem dX4_leastWay_19 : decode cX4_leastWay 19 = .ok (.if_icmp .ne 6, 3) := by decide +kernel
theorem dX4_leastWay_22 : decode cX4_leastWay 22 = .ok (.goto 25, 3) := by decide +kernel
theorem dX4_leastWay_25 : decode cX4_leastWay 25 = .ok (.iload_n 1, 1) := by decide +kernel
theorem dX4_leastWay_26 : decode cX4_leastWay 26 = .ok (.iconst (-1), 1) := by decide +kernel
theorem dX4_leastWay_27 : decode cX4_leastWay 27 = .ok (.if_icmp .eq 18, 3) := by decide +kernel
theorem dX4_leastWay_30 : decode cX4_leastWay 30 = .ok (.aload_n 0, 1) := by decide +kernel
theorem dX4_leastWay_31 : decode cX4_leastWay 31 = .ok (.getfield 18, 3) := by decide +kernel
theorem dX4_leastWay_34 : decode cX4_leastWay 34 = .ok (.iload_n 2, 1) := by decide +kernel
theorem dX4_leastWay_35 : decode cX4_leastWay 35 = .ok (.iaload, 1) := by decide +kernel
theorem dX4_leastWay_36 : decode cX4_leastWay 36 = .ok (.aload_n 0, 1) := by decide +kernel
theorem dX4_leastWay_37 : decode cX4_leastWay 37 = .ok (.getfield 18, 3) := by decide +kernel
theorem dX4_leastWay_40 : decode cX4_leastWay 40 = .ok (.iload_n 1, 1) := by decide +kernel
theorem dX4_leastWay_41 : decode cX4_leastWay 41 = .ok (.iaload, 1) := by decide +kernel
theorem dX4_leastWay_42 : decode cX4_leastWay 42 = .ok (.if_icmp .ge 5, 3) := by decide +kernel
theorem dX4_leastWay_45 : decode cX4_leastWay 45 = .ok (.iload_n 2, 1) := by decide +kernel
theorem dX4_leastWay_46 : decode cX4_leastWay 46 = .ok (.istore_n 1, 1) := by decide +kernel
theorem dX4_leastWay_47 : decode cX4_leastWay 47 = .ok (.iinc 2 1, 3) := by decide +kernel
theorem dX4_leastWay_50 : decode cX4_leastWay 50 = .ok (.goto (-46), 3) := by decide +kernel
theorem dX4_leastWay_53 : decode cX4_leastWay 53 = .ok (.iconst 0, 1) := by decide +kernel
theorem dX4_leastWay_54 : decode cX4_leastWay 54 = .ok (.iload_n 1, 1) := by decide +kernel
theorem dX4_leastWay_55 : decode cX4_leastWay 55 = .ok (.invokestatic 59, 3) := by decide +kernel
theorem dX4_leastWay_58 : decode cX4_leastWay 58 = .ok (.ireturn, 1) := by decide +kernel
set_option maxRecDepth 100000 in
set_option maxHeartbeats 4000000 in
theorem k_X4_leastWay (κ : Kp) (xa : Nat → Nat → Nat) (X : XS)  (hn : 0 ≤ X 17 3 0 ∧ X 17 3 0 ≤ 3) (hP : ∀ k : Int, 0 ≤ k → k < pwT (X 17 3 0) → -1 ≤ X 17 2 k ∧ X 17 2 k ≤ 3000) : mI κ yX4_leastWay cX4_leastWay 3 .int 2 [.ref (xa 17 100)] (xw κ xa X) (is1 (iI ((lwS (X 17 2) (pwT (X 17 3 0))).1)) (xw κ xa X)) := by
  refine mI_of (by decide) (Nat.le_of_ble_eq_true rfl) (fun E F K => ?_)
  refine g_lv (lv' := [(0, .ref (xa 17 100))]) rfl ?_
  have hpb := pwT_bd (X 17 3 0)
  refine g_iconst F dX4_leastWay_0 ?_
  refine g_istore_n F (lv' := [(1, .int (iI (-1))), (0, .ref (xa 17 100))]) 1 dX4_leastWay_1 rfl (by decide) rfl ?_
  refine g_iconst F dX4_leastWay_2 ?_
  refine g_istore_n F (lv' := [(2, .int (iI 0)), (1, .int (iI (-1))), (0, .ref (xa 17 100))]) 2 dX4_leastWay_3 rfl (by decide) rfl ?_
  have L4 : ∀ (mz4 : Nat) (k : Int) (b : Int), (pwT (X 17 3 0) - k).toNat = mz4 → (0 ≤ k ∧ k ≤ pwT (X 17 3 0)) → ((b = -1 ∧ lwS (X 17 2) k = (0, MAXI)) ∨ ((0 ≤ b ∧ b < k) ∧ lwS (X 17 2) k = (b, X 17 2 b))) → G E (xw κ xa X) [(2, .int (iI k)), (1, .int (iI b)), (0, .ref (xa 17 100))] 4 [] := by
    intro mz4
    induction mz4 using Nat.strongRecOn with
    | _ mz4 ih4 =>
    intro k b hmz4 hk hb
    refine g_iload_n F 0 dX4_leastWay_4 rfl ?_
    refine g_aload_n F 2 dX4_leastWay_5 rfl ?_
    refine g_callI F (stk := [.ref (xa 17 100), .int (iI k)]) (st := [.int (iI k)]) (k_X4_many κ xa X (show 0 ≤ ((X 17) 3 0) ∧ ((X 17) 3 0) ≤ 3 from by omega)) cal_X4_many lm_X4_32 77 rfl rfl rfl rfl (by decide) rfl (Nat.le_of_ble_eq_true rfl) dX4_leastWay_6 (fun r6 ws6 _ hr6 => ?_)
    obtain ⟨rfl, rfl⟩ := hr6
    refine g_icmp_ge F 53 (by omega) dX4_leastWay_9 (by decide) (fun c9 => ?_) (fun c9 => ?_)
    · skip
      have hke : k = pwT (X 17 3 0) := by omega
      refine g_iconst F dX4_leastWay_53 ?_
      refine g_iload_n F 1 dX4_leastWay_54 rfl ?_
      refine g_max F (by omega) lm_X4_59 ms_max ms_ini mc_max (by decide) (Nat.le_of_ble_eq_true rfl) dX4_leastWay_55 ?_
      exact K xw_same ⟨iIc (by rw [← hke]; rcases hb with ⟨q1, q2⟩ | ⟨q1, q2⟩ <;> rw [q2] <;> first | (show max 0 b = 0; omega) | (show max 0 b = b; omega)), rfl⟩ rfl dX4_leastWay_58
    · skip
      have h1 := hP k hk.1 (by omega)
      refine g_aload_n F 2 dX4_leastWay_12 rfl ?_
      refine g17_get_2 F  lf_X4_18 dX4_leastWay_13 ?_
      refine g_iload_n F 0 dX4_leastWay_16 rfl ?_
      refine g17_ald_2 F  (by omega) dX4_leastWay_17 ?_
      refine g_iconst F dX4_leastWay_18 ?_
      refine g_icmp_ne F 25 (by omega) dX4_leastWay_19 (by decide) (fun c19 => ?_) (fun c19 => ?_)
      · skip
        refine g_iload_n F 1 dX4_leastWay_25 rfl ?_
        refine g_iconst F dX4_leastWay_26 ?_
        refine g_icmp_eq F 45 (by omega) dX4_leastWay_27 (by decide) (fun c27 => ?_) (fun c27 => ?_)
        · skip
          refine g_iload_n F 0 dX4_leastWay_45 rfl ?_
          refine g_istore_n F (lv' := [(1, .int (iI k)), (2, .int (iI k)), (0, .ref (xa 17 100))]) 1 dX4_leastWay_46 rfl (by decide) rfl ?_
          refine g_iinc F (lv' := [(2, .int (iI (k + 1))), (1, .int (iI k)), (0, .ref (xa 17 100))]) 1 dX4_leastWay_47 rfl (by decide) rfl ?_
          refine g_goto F 4 dX4_leastWay_50 (by decide) ?_
          refine g_sub F (lv' := [(2, .int (iI (k + 1))), (1, .int (iI k)), (0, .ref (xa 17 100))]) [0, 1, 2] rfl ?_
          exact ih4 _ (by omega) (k + 1) k rfl (by omega) (by first | exact lw_f hb hk.1 c19 | exact lw_t hb hk.1 c19 (by omega) (Or.inl (by omega)) | exact lw_t hb hk.1 c19 (by omega) (Or.inr ⟨by omega, by omega⟩) | exact lw_w hb hk.1 (by omega) (by omega))
        · skip
          have h2 := hP b (by omega) (by omega)
          refine g_aload_n F 2 dX4_leastWay_30 rfl ?_
          refine g17_get_2 F  lf_X4_18 dX4_leastWay_31 ?_
          refine g_iload_n F 0 dX4_leastWay_34 rfl ?_
          refine g17_ald_2 F  (by omega) dX4_leastWay_35 ?_
          refine g_aload_n F 2 dX4_leastWay_36 rfl ?_
          refine g17_get_2 F  lf_X4_18 dX4_leastWay_37 ?_
          refine g_iload_n F 1 dX4_leastWay_40 rfl ?_
          refine g17_ald_2 F  (by omega) dX4_leastWay_41 ?_
          refine g_icmp_ge F 47 (by omega) dX4_leastWay_42 (by decide) (fun c42 => ?_) (fun c42 => ?_)
          · skip
            refine g_iinc F (lv' := [(2, .int (iI (k + 1))), (1, .int (iI b)), (0, .ref (xa 17 100))]) 0 dX4_leastWay_47 rfl (by decide) rfl ?_
            refine g_goto F 4 dX4_leastWay_50 (by decide) ?_
            refine g_sub F (lv' := [(2, .int (iI (k + 1))), (1, .int (iI b)), (0, .ref (xa 17 100))]) [0, 1, 2] rfl ?_
            exact ih4 _ (by omega) (k + 1) b rfl (by omega) (by first | exact lw_f hb hk.1 c19 | exact lw_t hb hk.1 c19 (by omega) (Or.inl (by omega)) | exact lw_t hb hk.1 c19 (by omega) (Or.inr ⟨by omega, by omega⟩) | exact lw_w hb hk.1 (by omega) (by omega))
          · skip
            refine g_iload_n F 0 dX4_leastWay_45 rfl ?_
            refine g_istore_n F (lv' := [(1, .int (iI k)), (2, .int (iI k)), (0, .ref (xa 17 100))]) 1 dX4_leastWay_46 rfl (by decide) rfl ?_
            refine g_iinc F (lv' := [(2, .int (iI (k + 1))), (1, .int (iI k)), (0, .ref (xa 17 100))]) 1 dX4_leastWay_47 rfl (by decide) rfl ?_
            refine g_goto F 4 dX4_leastWay_50 (by decide) ?_
            refine g_sub F (lv' := [(2, .int (iI (k + 1))), (1, .int (iI k)), (0, .ref (xa 17 100))]) [0, 1, 2] rfl ?_
            exact ih4 _ (by omega) (k + 1) k rfl (by omega) (by first | exact lw_f hb hk.1 c19 | exact lw_t hb hk.1 c19 (by omega) (Or.inl (by omega)) | exact lw_t hb hk.1 c19 (by omega) (Or.inr ⟨by omega, by omega⟩) | exact lw_w hb hk.1 (by omega) (by omega))
      · skip
        refine g_goto F 47 dX4_leastWay_22 (by decide) ?_
        refine g_iinc F (lv' := [(2, .int (iI (k + 1))), (1, .int (iI b)), (0, .ref (xa 17 100))]) 0 dX4_leastWay_47 rfl (by decide) rfl ?_
        refine g_goto F 4 dX4_leastWay_50 (by decide) ?_
        refine g_sub F (lv' := [(2, .int (iI (k + 1))), (1, .int (iI b)), (0, .ref (xa 17 100))]) [0, 1, 2] rfl ?_
        exact ih4 _ (by omega) (k + 1) b rfl (by omega) (by first | exact lw_f hb hk.1 c19 | exact lw_t hb hk.1 c19 (by omega) (Or.inl (by omega)) | exact lw_t hb hk.1 c19 (by omega) (Or.inr ⟨by omega, by omega⟩) | exact lw_w hb hk.1 (by omega) (by omega))
  refine g_sub F (lv' := [(2, .int (iI 0)), (1, .int (iI (-1))), (0, .ref (xa 17 100))]) [0, 1, 2] rfl ?_
  exact L4 _ 0 (-1) rfl (by omega) (Or.inl ⟨rfl, rfl⟩)
