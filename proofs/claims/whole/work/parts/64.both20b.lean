def RD (L : Int → Int) (n p b d v p2 b2 : Int) : Prop := (b = 1 ∧ p2 = p ∧ b2 = 1 ∧ v = 0) ∨ (b = 0 ∧ ndg L n p d = -1 ∧ p2 = p + d ∧ b2 = 0 ∧ v = num L n p d) ∨ (b = 0 ∧ ndg L n p d ≠ -1 ∧ p2 = ndg L n p d ∧ b2 = 1 ∧ v = 0)
def RB (L : Int → Int) (n p b d p2 b2 : Int) : Prop := (b = 1 ∧ p2 = p ∧ b2 = 1) ∨ (b = 0 ∧ ndg L n p d = -1 ∧ p2 = p + d ∧ b2 = 0) ∨ (b = 0 ∧ ndg L n p d ≠ -1 ∧ p2 = ndg L n p d ∧ b2 = 1)
theorem RD_B {L : Int → Int} {n p b d v p2 b2 : Int} (h : RD L n p b d v p2 b2) : RB L n p b d p2 b2 ∧ (b2 = 0 → v = num L n p d) := by
  rcases h with ⟨a1, a2, a3, a4⟩ | ⟨a1, a2, a3, a4, a5⟩ | ⟨a1, a2, a3, a4, a5⟩
  · exact ⟨Or.inl ⟨a1, a2, a3⟩, fun q => by omega⟩
  · exact ⟨Or.inr (Or.inl ⟨a1, a2, a3, a4⟩), fun _ => a5⟩
  · exact ⟨Or.inr (Or.inr ⟨a1, a2, a3, a4⟩), fun q => by omega⟩
theorem RB_in {L : Int → Int} {n p b d p2 b2 : Int} (h : RB L n p b d p2 b2) (hd : 0 ≤ d) : (p ≤ p2 ∧ p2 ≤ p + d) ∧ (b2 = 0 ∨ b2 = 1) := by
  have k := ndg_bd L n p d
  rcases h with ⟨a1, a2, a3⟩ | ⟨a1, a2, a3, a4⟩ | ⟨a1, a2, a3, a4⟩
  · omega
  · omega
  · have : p ≤ ndg L n p d ∧ ndg L n p d < p + d := k.resolve_left a2
    omega
theorem RB_add {L : Int → Int} {n p b d p1 b1 e p2 b2 : Int} (h : RB L n p b d p1 b1) (k : RB L n p1 b1 e p2 b2) (hp : 0 ≤ p) (hd : 0 ≤ d) (he : 0 ≤ e) : RB L n p b (d + e) p2 b2 ∧ (b2 = 0 → b1 = 0 ∧ p1 = p + d) := by
  have q := ndg_add L n hd he hp
  rcases h with ⟨a1, a2, a3⟩ | ⟨a1, a2, a3, a4⟩ | ⟨a1, a2, a3, a4⟩
  · rcases k with ⟨c1, c2, c3⟩ | ⟨c1, c2, c3, c4⟩ | ⟨c1, c2, c3, c4⟩
    · exact ⟨Or.inl ⟨a1, by omega, c3⟩, fun z => by omega⟩
    · omega
    · omega
  · rw [if_pos a2, ← a3] at q
    rcases k with ⟨c1, c2, c3⟩ | ⟨c1, c2, c3, c4⟩ | ⟨c1, c2, c3, c4⟩
    · omega
    · exact ⟨Or.inr (Or.inl ⟨a1, by rw [q]; exact c2, by omega, c4⟩), fun _ => ⟨a4, a3⟩⟩
    · exact ⟨Or.inr (Or.inr ⟨a1, by rw [q]; exact c2, by rw [q]; exact c3, c4⟩), fun z => by omega⟩
  · rw [if_neg a2] at q
    rcases k with ⟨c1, c2, c3⟩ | ⟨c1, c2, c3, c4⟩ | ⟨c1, c2, c3, c4⟩
    · exact ⟨Or.inr (Or.inr ⟨a1, by rw [q]; exact a2, by rw [q, c2]; exact a3, c3⟩), fun z => by omega⟩
    · omega
    · omega
theorem RD_b {L : Int → Int} {n p b k v p2 : Int} (h : RD L n p b k v p2 1) (hp : 0 ≤ p) (hk : 0 ≤ k) : RD L n p b (k + 1) 0 p2 1 := by
  have q := ndg_add L n hk (show (0 : Int) ≤ 1 by decide) hp
  rcases h with ⟨a1, a2, a3, a4⟩ | ⟨a1, a2, a3, a4, a5⟩ | ⟨a1, a2, a3, a4, a5⟩
  · exact Or.inl ⟨a1, a2, rfl, rfl⟩
  · omega
  · rw [if_neg a2] at q
    exact Or.inr (Or.inr ⟨a1, by rw [q]; exact a2, by rw [q]; exact a3, rfl, rfl⟩)
theorem RD_d {L : Int → Int} {n p b k v p2 : Int} (h : RD L n p b k v p2 0) (hp : 0 ≤ p) (hk : 0 ≤ k) (hd : dig (lt L n p2)) : RD L n p b (k + 1) (10 * v + lt L n p2 - 48) (p2 + 1) 0 := by
  have q := ndg_add L n hk (show (0 : Int) ≤ 1 by decide) hp
  rcases h with ⟨a1, a2, a3, a4⟩ | ⟨a1, a2, a3, a4, a5⟩ | ⟨a1, a2, a3, a4, a5⟩
  · omega
  · rw [if_pos a2, ← a3, ndg_s L n p2 (by decide), if_pos hd] at q
    exact Or.inr (Or.inl ⟨a1, q, by omega, rfl, by rw [num_s _ _ _ hk, ← a5, ← a3]⟩)
  · omega
theorem RD_n {L : Int → Int} {n p b k v p2 : Int} (h : RD L n p b k v p2 0) (hp : 0 ≤ p) (hk : 0 ≤ k) (hd : ¬ dig (lt L n p2)) : RD L n p b (k + 1) 0 p2 1 := by
  have q := ndg_add L n hk (show (0 : Int) ≤ 1 by decide) hp
  rcases h with ⟨a1, a2, a3, a4⟩ | ⟨a1, a2, a3, a4, a5⟩ | ⟨a1, a2, a3, a4, a5⟩
  · omega
  · rw [if_pos a2, ← a3, ndg_s L n p2 (by decide), if_neg hd] at q
    exact Or.inr (Or.inr ⟨a1, by rw [q]; omega, q.symm, rfl, rfl⟩)
  · omega
def tdF (L : Int → Int) (n p c : Int) (t : Int → Int) : Prop := (c = 99 → t 0 = num L n p 2 ∧ t 1 = num L n (p + 2) 2 ∧ t 2 = num L n (p + 4) 1 ∧ t 3 = num L n (p + 5) 1 ∧ t 4 = num L n (p + 6) 2) ∧ (c = 114 → t 0 = num L n p 1 ∧ t 1 = num L n (p + 1) 1 ∧ t 2 = num L n (p + 2) 2) ∧ (c = 112 → t 0 = num L n p 1 ∧ t 1 = num L n (p + 1) 2) ∧ (c = 119 → t 0 = num L n p 2 ∧ t 1 = num L n (p + 2) 2) ∧ (c = 121 → t 0 = num L n p 2)
def RN (L : Int → Int) (n p c p2 b2 : Int) (t : Int → Int) : Prop := (ndg L n p (szC c - 2) = -1 ∧ b2 = 0 ∧ p2 = p + (szC c - 2) ∧ tdF L n p c t) ∨ (ndg L n p (szC c - 2) ≠ -1 ∧ b2 = 1 ∧ p2 = ndg L n p (szC c - 2))
theorem RN_of {L : Int → Int} {n p c p2 b2 d : Int} {t : Int → Int} (h : RB L n p 0 d p2 b2) (hd : d = szC c - 2) (ht : b2 = 0 → tdF L n p c t) : RN L n p c p2 b2 t := by
  subst hd
  rcases h with ⟨a1, a2, a3⟩ | ⟨a1, a2, a3, a4⟩ | ⟨a1, a2, a3, a4⟩
  · omega
  · exact Or.inl ⟨a2, a4, a3, ht a4⟩
  · exact Or.inr ⟨a2, a4, a3⟩
abbrev letr (c : Int) : Prop := c = 99 ∨ c = 114 ∨ c = 112 ∨ c = 119 ∨ c = 121
theorem szC_let {c : Int} (h : letr c) : 4 ≤ szC c := by
  unfold szC
  (repeat' split) <;> omega
theorem szC_no {c : Int} (h : ¬ letr c) : szC c = 0 := by
  have k := szC_in c
  by_cases q : 4 ≤ szC c
  · exact absurd (sz_let q) h
  · omega
theorem dX6_here_0 : decode cX6_here 0 = .ok (.aload_n 0, 1) := by decide +kernel
theorem dX6_here_1 : decode cX6_here 1 = .ok (.getfield 144, 3) := by decide +kernel
theorem dX6_here_4 : decode cX6_here 4 = .ok (.aload_n 0, 1) := by decide +kernel
theorem dX6_here_5 : decode cX6_here 5 = .ok (.getfield 141, 3) := by decide +kernel
theorem dX6_here_8 : decode cX6_here 8 = .ok (.if_icmp .ge 15, 3) := by decide +kernel
theorem dX6_here_11 : decode cX6_here 11 = .ok (.aload_n 0, 1) := by decide +kernel
theorem dX6_here_12 : decode cX6_here 12 = .ok (.getfield 37, 3) := by decide +kernel
theorem dX6_here_15 : decode cX6_here 15 = .ok (.aload_n 0, 1) := by decide +kernel
theorem dX6_here_16 : decode cX6_here 16 = .ok (.getfield 144, 3) := by decide +kernel
theorem dX6_here_19 : decode cX6_here 19 = .ok (.iaload, 1) := by decide +kernel
theorem dX6_here_20 : decode cX6_here 20 = .ok (.goto 4, 3) := by decide +kernel
theorem dX6_here_23 : decode cX6_here 23 = .ok (.iconst (-1), 1) := by decide +kernel
theorem dX6_here_24 : decode cX6_here 24 = .ok (.ireturn, 1) := by decide +kernel
set_option maxRecDepth 100000 in
set_option maxHeartbeats 4000000 in
theorem k_X6_here (κ : Kp) (ma : Nat → Nat) (M : MS)  (hn : 0 ≤ M 13 0 ∧ M 13 0 ≤ 96) (hp : 0 ≤ M 14 0 ∧ M 14 0 ≤ 200) : mI κ yX6_here cX6_here 1 .int 0 [.ref (ma 100)] (mw κ ma M) (is1 (iI (lt (M 12) (M 13 0) (M 14 0))) (mw κ ma M)) := by
  refine mI_of (by decide) (Nat.le_of_ble_eq_true rfl) (fun E F K => ?_)
  refine g_lv (lv' := [(0, .ref (ma 100))]) rfl ?_
  refine g_aload_n F 0 dX6_here_0 rfl ?_
  refine gm_get_14 F dX6_here_1 ?_
  refine g_aload_n F 0 dX6_here_4 rfl ?_
  refine gm_get_13 F dX6_here_5 ?_
  refine g_icmp_ge F 23 (by omega) dX6_here_8 (by decide) (fun c8 => ?_) (fun c8 => ?_)
  · skip
    refine g_iconst F dX6_here_23 ?_
    exact K mw_same ⟨iIc (by unfold lt; first | rw [if_pos (show 0 ≤ M 14 0 ∧ M 14 0 < M 13 0 by omega)] | rw [if_neg (show ¬ (0 ≤ M 14 0 ∧ M 14 0 < M 13 0) by omega)]), rfl⟩ rfl dX6_here_24
  · skip
    refine g_aload_n F 0 dX6_here_11 rfl ?_
    refine gm_get_12 F dX6_here_12 ?_
    refine g_aload_n F 0 dX6_here_15 rfl ?_
    refine gm_get_14 F dX6_here_16 ?_
    refine gm_ald_12 F (by omega) dX6_here_19 ?_
    refine g_goto F 24 dX6_here_20 (by decide) ?_
    exact K mw_same ⟨iIc (by unfold lt; first | rw [if_pos (show 0 ≤ M 14 0 ∧ M 14 0 < M 13 0 by omega)] | rw [if_neg (show ¬ (0 ≤ M 14 0 ∧ M 14 0 < M 13 0) by omega)]), rfl⟩ rfl dX6_here_24
theorem dX6_isLetter_0 : decode cX6_isLetter 0 = .ok (.iload_n 0, 1) := by decide +kernel
theorem dX6_isLetter_1 : decode cX6_isLetter 1 = .ok (.bipush 99, 2) := by decide +kernel
theorem dX6_isLetter_3 : decode cX6_isLetter 3 = .ok (.if_icmp .eq 27, 3) := by decide +kernel
theorem dX6_isLetter_6 : decode cX6_isLetter 6 = .ok (.iload_n 0, 1) := by decide +kernel
theorem dX6_isLetter_7 : decode cX6_isLetter 7 = .ok (.bipush 114, 2) := by decide +kernel
theorem dX6_isLetter_9 : decode cX6_isLetter 9 = .ok (.if_icmp .eq 21, 3) := by decide +kernel
theorem dX6_isLetter_12 : decode cX6_isLetter 12 = .ok (.iload_n 0, 1) := by decide +kernel
theorem dX6_isLetter_13 : decode cX6_isLetter 13 = .ok (.bipush 112, 2) := by decide +kernel
theorem dX6_isLetter_15 : decode cX6_isLetter 15 = .ok (.if_icmp .eq 15, 3) := by decide +kernel
theorem dX6_isLetter_18 : decode cX6_isLetter 18 = .ok (.iload_n 0, 1) := by decide +kernel
theorem dX6_isLetter_19 : decode cX6_isLetter 19 = .ok (.bipush 119, 2) := by decide +kernel
theorem dX6_isLetter_21 : decode cX6_isLetter 21 = .ok (.if_icmp .eq 9, 3) := by decide +kernel
theorem dX6_isLetter_24 : decode cX6_isLetter 24 = .ok (.iload_n 0, 1) := by decide +kernel
theorem dX6_isLetter_25 : decode cX6_isLetter 25 = .ok (.bipush 121, 2) := by decide +kernel
theorem dX6_isLetter_27 : decode cX6_isLetter 27 = .ok (.if_icmp .ne 7, 3) := by decide +kernel
theorem dX6_isLetter_30 : decode cX6_isLetter 30 = .ok (.iconst 1, 1) := by decide +kernel
theorem dX6_isLetter_31 : decode cX6_isLetter 31 = .ok (.goto 4, 3) := by decide +kernel
theorem dX6_isLetter_34 : decode cX6_isLetter 34 = .ok (.iconst 0, 1) := by decide +kernel
theorem dX6_isLetter_35 : decode cX6_isLetter 35 = .ok (.ireturn, 1) := by decide +kernel
set_option maxRecDepth 100000 in
set_option maxHeartbeats 4000000 in
theorem k_X6_isLetter (κ : Kp) (ws : va_W) (c : Int)  (hr : In32 c) : mI κ yX6_isLetter cX6_isLetter 1 .boolean 0 [.int (iI c)] ws (is1 (iI (b2i (letr c))) ws) := by
  refine mI_of (by decide) (Nat.le_of_ble_eq_true rfl) (fun E F K => ?_)
  refine g_lv (lv' := [(0, .int (iI c))]) rfl ?_
  refine g_iload_n F 0 dX6_isLetter_0 rfl ?_
  refine g_bipush F dX6_isLetter_1 (by decide +kernel) ?_
  refine g_icmp_eq F 30 (by omega) dX6_isLetter_3 (by decide) (fun c3 => ?_) (fun c3 => ?_)
  · skip
    refine g_iconst F dX6_isLetter_30 ?_
    refine g_goto F 35 dX6_isLetter_31 (by decide) ?_
    exact K sameA.rf ⟨b2i_1 (by omega), rfl⟩ (by decide +kernel) dX6_isLetter_35
  · skip
    refine g_iload_n F 0 dX6_isLetter_6 rfl ?_
    refine g_bipush F dX6_isLetter_7 (by decide +kernel) ?_
    refine g_icmp_eq F 30 (by omega) dX6_isLetter_9 (by decide) (fun c9 => ?_) (fun c9 => ?_)
    · skip
      refine g_iconst F dX6_isLetter_30 ?_
      refine g_goto F 35 dX6_isLetter_31 (by decide) ?_
      exact K sameA.rf ⟨b2i_1 (by omega), rfl⟩ (by decide +kernel) dX6_isLetter_35
    · skip
      refine g_iload_n F 0 dX6_isLetter_12 rfl ?_
      refine g_bipush F dX6_isLetter_13 (by decide +kernel) ?_
      refine g_icmp_eq F 30 (by omega) dX6_isLetter_15 (by decide) (fun c15 => ?_) (fun c15 => ?_)
      · skip
        refine g_iconst F dX6_isLetter_30 ?_
        refine g_goto F 35 dX6_isLetter_31 (by decide) ?_
        exact K sameA.rf ⟨b2i_1 (by omega), rfl⟩ (by decide +kernel) dX6_isLetter_35
      · skip
        refine g_iload_n F 0 dX6_isLetter_18 rfl ?_
        refine g_bipush F dX6_isLetter_19 (by decide +kernel) ?_
        refine g_icmp_eq F 30 (by omega) dX6_isLetter_21 (by decide) (fun c21 => ?_) (fun c21 => ?_)
        · skip
          refine g_iconst F dX6_isLetter_30 ?_
          refine g_goto F 35 dX6_isLetter_31 (by decide) ?_
          exact K sameA.rf ⟨b2i_1 (by omega), rfl⟩ (by decide +kernel) dX6_isLetter_35
        · skip
          refine g_iload_n F 0 dX6_isLetter_24 rfl ?_
          refine g_bipush F dX6_isLetter_25 (by decide +kernel) ?_
          refine g_icmp_ne F 34 (by omega) dX6_isLetter_27 (by decide) (fun c27 => ?_) (fun c27 => ?_)
          · skip
            refine g_iconst F dX6_isLetter_34 ?_
            exact K sameA.rf ⟨b2i_0 (by omega), rfl⟩ (by decide +kernel) dX6_isLetter_35
          · skip
            refine g_iconst F dX6_isLetter_30 ?_
            refine g_goto F 35 dX6_isLetter_31 (by decide) ?_
            exact K sameA.rf ⟨b2i_1 (by omega), rfl⟩ (by decide +kernel) dX6_isLetter_35
theorem dX6_readDigits_0 : decode cX6_readDigits 0 = .ok (.iconst 0, 1) := by decide +kernel
theorem dX6_readDigits_1 : decode cX6_readDigits 1 = .ok (.istore_n 2, 1) := by decide +kernel
theorem dX6_readDigits_2 : decode cX6_readDigits 2 = .ok (.iconst 0, 1) := by decide +kernel
theorem dX6_readDigits_3 : decode cX6_readDigits 3 = .ok (.istore_n 3, 1) := by decide +kernel
theorem dX6_readDigits_4 : decode cX6_readDigits 4 = .ok (.iload_n 3, 1) := by decide +kernel
theorem dX6_readDigits_5 : decode cX6_readDigits 5 = .ok (.iload_n 1, 1) := by decide +kernel
theorem dX6_readDigits_6 : decode cX6_readDigits 6 = .ok (.if_icmp .ge 92, 3) := by decide +kernel
theorem dX6_readDigits_9 : decode cX6_readDigits 9 = .ok (.aload_n 0, 1) := by decide +kernel
theorem dX6_readDigits_10 : decode cX6_readDigits 10 = .ok (.aload_n 0, 1) := by decide +kernel
theorem dX6_readDigits_11 : decode cX6_readDigits 11 = .ok (.getfield 147, 3) := by decide +kernel
theorem dX6_readDigits_14 : decode cX6_readDigits 14 = .ok (.ifCond .ne 20, 3) := by decide +kernel
theorem dX6_readDigits_17 : decode cX6_readDigits 17 = .ok (.aload_n 0, 1) := by decide +kernel
theorem dX6_readDigits_18 : decode cX6_readDigits 18 = .ok (.invokevirtual 151, 3) := by decide +kernel
theorem dX6_readDigits_21 : decode cX6_readDigits 21 = .ok (.i2l, 1) := by decide +kernel
theorem dX6_readDigits_22 : decode cX6_readDigits 22 = .ok (.ldc2_w 155, 3) := by decide +kernel
theorem dX6_readDigits_25 : decode cX6_readDigits 25 = .ok (.ldc2_w 157, 3) := by decide +kernel
theorem dX6_readDigits_28 : decode cX6_readDigits 28 = .ok (.invokestatic 97, 3) := by decide +kernel
theorem dX6_readDigits_31 : decode cX6_readDigits 31 = .ok (.ifCond .ne 7, 3) := by decide +kernel
theorem dX6_readDigits_34 : decode cX6_readDigits 34 = .ok (.iconst 1, 1) := by decide +kernel
theorem dX6_readDigits_35 : decode cX6_readDigits 35 = .ok (.goto 4, 3) := by decide +kernel
theorem dX6_readDigits_38 : decode cX6_readDigits 38 = .ok (.iconst 0, 1) := by decide +kernel
theorem dX6_readDigits_39 : decode cX6_readDigits 39 = .ok (.putfield 147, 3) := by decide +kernel
theorem dX6_readDigits_42 : decode cX6_readDigits 42 = .ok (.aload_n 0, 1) := by decide +kernel
theorem dX6_readDigits_43 : decode cX6_readDigits 43 = .ok (.getfield 147, 3) := by decide +kernel
theorem dX6_readDigits_46 : decode cX6_readDigits 46 = .ok (.ifCond .eq 7, 3) := by decide +kernel
theorem dX6_readDigits_49 : decode cX6_readDigits 49 = .ok (.iconst 0, 1) := by decide +kernel
theorem dX6_readDigits_50 : decode cX6_readDigits 50 = .ok (.goto 20, 3) := by decide +kernel
theorem dX6_readDigits_53 : decode cX6_readDigits 53 = .ok (.bipush 10, 2) := by decide +kernel
theorem dX6_readDigits_55 : decode cX6_readDigits 55 = .ok (.iload_n 2, 1) := by decide +kernel
theorem dX6_readDigits_56 : decode cX6_readDigits 56 = .ok (.imul, 1) := by decide +kernel
theorem dX6_readDigits_57 : decode cX6_readDigits 57 = .ok (.aload_n 0, 1) := by decide +kernel
theorem dX6_readDigits_58 : decode cX6_readDigits 58 = .ok (.getfield 37, 3) := by decide +kernel
theorem dX6_readDigits_61 : decode cX6_readDigits 61 = .ok (.aload_n 0, 1) := by decide +kernel
theorem dX6_readDigits_62 : decode cX6_readDigits 62 = .ok (.getfield 144, 3) := by decide +kernel
theorem dX6_readDigits_65 : decode cX6_readDigits 65 = .ok (.iaload, 1) := by decide +kernel
theorem dX6_readDigits_66 : decode cX6_readDigits 66 = .ok (.iadd, 1) := by decide +kernel
theorem dX6_readDigits_67 : decode cX6_readDigits 67 = .ok (.bipush 48, 2) := by decide +kernel
theorem dX6_readDigits_69 : decode cX6_readDigits 69 = .ok (.isub, 1) := by decide +kernel
theorem dX6_readDigits_70 : decode cX6_readDigits 70 = .ok (.istore_n 2, 1) := by decide +kernel
theorem dX6_readDigits_71 : decode cX6_readDigits 71 = .ok (.aload_n 0, 1) := by decide +kernel
theorem dX6_readDigits_72 : decode cX6_readDigits 72 = .ok (.dup, 1) := by decide +kernel
theorem dX6_readDigits_73 : decode cX6_readDigits 73 = .ok (.getfield 144, 3) := by decide +kernel
theorem dX6_readDigits_76 : decode cX6_readDigits 76 = .ok (.aload_n 0, 1) := by decide +kernel
theorem dX6_readDigits_77 : decode cX6_readDigits 77 = .ok (.getfield 147, 3) := by decide +kernel
theorem dX6_readDigits_80 : decode cX6_readDigits 80 = .ok (.ifCond .eq 7, 3) := by decide +kernel
theorem dX6_readDigits_83 : decode cX6_readDigits 83 = .ok (.iconst 0, 1) := by decide +kernel
theorem dX6_readDigits_84 : decode cX6_readDigits 84 = .ok (.goto 4, 3) := by decide +kernel
theorem dX6_readDigits_87 : decode cX6_readDigits 87 = .ok (.iconst 1, 1) := by decide +kernel
theorem dX6_readDigits_88 : decode cX6_readDigits 88 = .ok (.iadd, 1) := by decide +kernel
theorem dX6_readDigits_89 : decode cX6_readDigits 89 = .ok (.putfield 144, 3) := by decide +kernel
theorem dX6_readDigits_92 : decode cX6_readDigits 92 = .ok (.iinc 3 1, 3) := by decide +kernel
theorem dX6_readDigits_95 : decode cX6_readDigits 95 = .ok (.goto (-91), 3) := by decide +kernel
theorem dX6_readDigits_98 : decode cX6_readDigits 98 = .ok (.iload_n 2, 1) := by decide +kernel
theorem dX6_readDigits_99 : decode cX6_readDigits 99 = .ok (.ireturn, 1) := by decide +kernel
set_option maxRecDepth 100000 in
set_option maxHeartbeats 4000000 in
theorem k_X6_readDigits (κ : Kp) (ma : Nat → Nat) (M : MS) (d : Int) (hn : 0 ≤ M 13 0 ∧ M 13 0 ≤ 96) (hlr : ∀ j : Int, 0 ≤ j → j < 96 → 0 ≤ M 12 j ∧ M 12 j ≤ 255) (hp : 0 ≤ M 14 0 ∧ M 14 0 ≤ 120) (hb : M 15 0 = 0 ∨ M 15 0 = 1) (hd : 1 ≤ d ∧ d ≤ 2) : mI κ yX6_readDigits cX6_readDigits 4 .int 1 [.ref (ma 100), .int (iI d)] (mw κ ma M) (fun r w => ∃ (v p2 b2 : Int), r = iI v ∧ w = mw κ ma (mA (mA M 15 (fun _ => b2)) 14 (fun _ => p2)) ∧ RD (M 12) (M 13 0) (M 14 0) (M 15 0) d v p2 b2) := by
  refine mI_of (by decide) (Nat.le_of_ble_eq_true rfl) (fun E F K => ?_)
  refine g_lv (lv' := [(0, .ref (ma 100)), (1, .int (iI d))]) rfl ?_
  refine g_iconst F dX6_readDigits_0 ?_
  refine g_istore_n F (lv' := [(2, .int (iI 0)), (0, .ref (ma 100)), (1, .int (iI d))]) 2 dX6_readDigits_1 rfl (by decide) rfl ?_
  refine g_iconst F dX6_readDigits_2 ?_
  refine g_istore_n F (lv' := [(3, .int (iI 0)), (2, .int (iI 0)), (0, .ref (ma 100)), (1, .int (iI d))]) 3 dX6_readDigits_3 rfl (by decide) rfl ?_
  have L4 : ∀ (mz4 : Nat) (k : Int) (v : Int) (b : Int) (p : Int), (d - k).toNat = mz4 → (0 ≤ k ∧ k ≤ d) → (b = 0 ∨ b = 1) → (0 ≤ p ∧ p ≤ 120 + k) → (RD (M 12) (M 13 0) (M 14 0) (M 15 0) k v p b) → G E (mw κ ma (mA (mA M 15 (fun _ => b)) 14 (fun _ => p))) [(3, .int (iI k)), (2, .int (iI v)), (0, .ref (ma 100)), (1, .int (iI d))] 4 [] := by
    intro mz4
    induction mz4 using Nat.strongRecOn with
    | _ mz4 ih4 =>
    intro k v b p hmz4 hk hbb hpp hR
    refine g_iload_n F 0 dX6_readDigits_4 rfl ?_
    refine g_iload_n F 3 dX6_readDigits_5 rfl ?_
    refine g_icmp_ge F 98 (by omega) dX6_readDigits_6 (by decide) (fun c6 => ?_) (fun c6 => ?_)
    · skip
      refine g_iload_n F 1 dX6_readDigits_98 rfl ?_
      exact K mw_same ⟨v, p, b, rfl, rfl, by rw [← show k = d by omega]; exact hR⟩ rfl dX6_readDigits_99
    · skip
      refine g_aload_n F 2 dX6_readDigits_9 rfl ?_
      refine g_aload_n F 2 dX6_readDigits_10 rfl ?_
      refine gm_get_15 F dX6_readDigits_11 ?_
      refine g_top (y := iI b) rfl ?_
      refine g_if_ne F 34 (by omega) dX6_readDigits_14 (by decide) (fun c14 => ?_) (fun c14 => ?_)
      · skip
        refine g_iconst F dX6_readDigits_34 ?_
        refine g_goto F 39 dX6_readDigits_35 (by decide) ?_
        refine gm_put_15 F (by omega) dX6_readDigits_39 ?_
        refine g_aload_n F 2 dX6_readDigits_42 rfl ?_
        refine gm_get_15 F dX6_readDigits_43 ?_
        refine g_top (y := iI 1) rfl ?_
        refine g_if_eq F 53 (by omega) dX6_readDigits_46 (by decide) (fun c46 => ?_) (fun c46 => ?_)
        · skip
          exact absurd trivial (by omega)
        · skip
          refine g_iconst F dX6_readDigits_49 ?_
          refine g_goto F 70 dX6_readDigits_50 (by decide) ?_
          refine g_istore_n F (lv' := [(2, .int (iI 0)), (3, .int (iI k)), (0, .ref (ma 100)), (1, .int (iI d))]) 2 dX6_readDigits_70 rfl (by decide) rfl ?_
          refine g_aload_n F 2 dX6_readDigits_71 rfl ?_
          refine g_dup F dX6_readDigits_72 rfl ?_
          refine gm_get_14 F dX6_readDigits_73 ?_
          refine g_top (y := iI p) rfl ?_
          refine g_aload_n F 2 dX6_readDigits_76 rfl ?_
          refine gm_get_15 F dX6_readDigits_77 ?_
          refine g_top (y := iI 1) rfl ?_
          refine g_if_eq F 87 (by omega) dX6_readDigits_80 (by decide) (fun c80 => ?_) (fun c80 => ?_)
          · skip
            exact absurd trivial (by omega)
          · skip
            refine g_iconst F dX6_readDigits_83 ?_
            refine g_goto F 88 dX6_readDigits_84 (by decide) ?_
            refine g_iadd F dX6_readDigits_88 ?_
            refine gm_put_14 F dX6_readDigits_89 ?_
            refine g_iinc F (lv' := [(3, .int (iI (k + 1))), (2, .int (iI 0)), (0, .ref (ma 100)), (1, .int (iI d))]) 1 dX6_readDigits_92 rfl (by decide) rfl ?_
            refine g_goto F 4 dX6_readDigits_95 (by decide) ?_
            refine g_sub F (lv' := [(3, .int (iI (k + 1))), (2, .int (iI 0)), (0, .ref (ma 100)), (1, .int (iI d))]) [0, 1, 2, 3] rfl ?_
            refine g_ws (ws' := mw κ ma (mA (mA M 15 (fun _ => 1)) 14 (fun _ => (p + 0)))) rfl ?_
            exact ih4 _ (by omega) (k + 1) 0 1 (p + 0) rfl (by omega) (by omega) (by omega) (by rw [Int.add_zero]; exact RD_b (by rw [show b = 1 by omega] at hR; exact hR) hp.1 hk.1)
      · skip
        refine g_aload_n F 2 dX6_readDigits_17 rfl ?_
        refine g_callI F (stk := [.ref (ma 100), .ref (ma 100)]) (st := [.ref (ma 100)]) (k_X6_here κ ma (mA (mA M 15 (fun _ => b)) 14 (fun _ => p)) (show 0 ≤ (M 13 0) ∧ (M 13 0) ≤ 96 from by omega) (show 0 ≤ p ∧ p ≤ 200 from by omega)) cal_X6_here lm_X6_151 0 rfl rfl rfl rfl (by decide) rfl (Nat.le_of_ble_eq_true rfl) dX6_readDigits_18 (fun r18 ws18 _ hr18 => ?_)
        obtain ⟨rfl, rfl⟩ := hr18
        refine g_top (y := iI (lt (M 12) ((M 13 0)) (p))) rfl ?_
        have hlt := lt_bd (L := M 12) (n := M 13 0) hlr (by omega) p
        refine g_i2l F (by omega) dX6_readDigits_21 ?_
        refine g_ldc2 F (z := 48) ll_X6_155 (by decide +kernel) dX6_readDigits_22 ?_
        refine g_ldc2 F (z := 57) ll_X6_157 (by decide +kernel) dX6_readDigits_25 ?_
        refine g_callSI F (stk := [.long (iL 57), .long (iL 48), .long (iL (lt (M 12) ((M 13 0)) (p))), .ref (ma 100)]) (st := [.ref (ma 100)]) (k_X6_in κ (mw κ ma (mA (mA M 15 (fun _ => b)) 14 (fun _ => p))) (lt (M 12) ((M 13 0)) (p)) 48 57 (by omega)) cal_X6_in lm_X6_97 rfl (by decide) rfl (Nat.le_of_ble_eq_true rfl) dX6_readDigits_28 (fun r28 ws28 _ hr28 => ?_)
        obtain ⟨rfl, rfl⟩ := hr28
        refine g_if_ne F 38 (b2i_in _) dX6_readDigits_31 (by decide) (fun c31 => ?_) (fun c31 => ?_)
        · skip
          have c31 : 48 ≤ (lt (M 12) ((M 13 0)) (p)) ∧ (lt (M 12) ((M 13 0)) (p)) ≤ 57 := b2i_t c31
          refine g_iconst F dX6_readDigits_38 ?_
          refine gm_put_15 F (by omega) dX6_readDigits_39 ?_
          refine g_aload_n F 2 dX6_readDigits_42 rfl ?_
          refine gm_get_15 F dX6_readDigits_43 ?_
          refine g_top (y := iI 0) rfl ?_
          refine g_if_eq F 53 (by omega) dX6_readDigits_46 (by decide) (fun c46 => ?_) (fun c46 => ?_)
          · skip
            refine g_bipush F dX6_readDigits_53 (by decide +kernel) ?_
            refine g_iload_n F 1 dX6_readDigits_55 rfl ?_
            refine g_imul F dX6_readDigits_56 ?_
            refine g_aload_n F 2 dX6_readDigits_57 rfl ?_
            have hin := lt_in (L := M 12) (n := M 13 0) (p := p) (by omega)
            refine gm_get_12 F dX6_readDigits_58 ?_
            refine g_aload_n F 2 dX6_readDigits_61 rfl ?_
            refine gm_get_14 F dX6_readDigits_62 ?_
            refine g_top (y := iI p) rfl ?_
            refine gm_ald_12 F (by omega) dX6_readDigits_65 ?_
            refine g_top (y := iI (M 12 p)) rfl ?_
            refine g_iadd F dX6_readDigits_66 ?_
            refine g_bipush F dX6_readDigits_67 (by decide +kernel) ?_
            refine g_isub F dX6_readDigits_69 ?_
            refine g_istore_n F (lv' := [(2, .int (iI (((10 * v) + (M 12 p)) - 48))), (3, .int (iI k)), (0, .ref (ma 100)), (1, .int (iI d))]) 2 dX6_readDigits_70 rfl (by decide) rfl ?_
            refine g_aload_n F 2 dX6_readDigits_71 rfl ?_
            refine g_dup F dX6_readDigits_72 rfl ?_
            refine gm_get_14 F dX6_readDigits_73 ?_
            refine g_top (y := iI p) rfl ?_
            refine g_aload_n F 2 dX6_readDigits_76 rfl ?_
            refine gm_get_15 F dX6_readDigits_77 ?_
            refine g_top (y := iI 0) rfl ?_
            refine g_if_eq F 87 (by omega) dX6_readDigits_80 (by decide) (fun c80 => ?_) (fun c80 => ?_)
            · skip
              refine g_iconst F dX6_readDigits_87 ?_
              refine g_iadd F dX6_readDigits_88 ?_
              refine gm_put_14 F dX6_readDigits_89 ?_
              refine g_iinc F (lv' := [(3, .int (iI (k + 1))), (2, .int (iI (((10 * v) + (M 12 p)) - 48))), (0, .ref (ma 100)), (1, .int (iI d))]) 1 dX6_readDigits_92 rfl (by decide) rfl ?_
              refine g_goto F 4 dX6_readDigits_95 (by decide) ?_
              refine g_sub F (lv' := [(3, .int (iI (k + 1))), (2, .int (iI (((10 * v) + (M 12 p)) - 48))), (0, .ref (ma 100)), (1, .int (iI d))]) [0, 1, 2, 3] rfl ?_
              refine g_ws (ws' := mw κ ma (mA (mA M 15 (fun _ => 0)) 14 (fun _ => (p + 1)))) rfl ?_
              exact ih4 _ (by omega) (k + 1) (((10 * v) + (M 12 p)) - 48) 0 (p + 1) rfl (by omega) (by omega) (by omega) (by have e : M 12 p = lt (M 12) (M 13 0) p := (if_pos hin).symm; rw [e]; exact RD_d (by rw [show b = 0 by omega] at hR; exact hR) hp.1 hk.1 c31)
            · skip
              exact absurd trivial (by omega)
          · skip
            exact absurd trivial (by omega)
        · skip
          have c31 : ¬ (48 ≤ (lt (M 12) ((M 13 0)) (p)) ∧ (lt (M 12) ((M 13 0)) (p)) ≤ 57) := b2i_f c31
          refine g_iconst F dX6_readDigits_34 ?_
          refine g_goto F 39 dX6_readDigits_35 (by decide) ?_
          refine gm_put_15 F (by omega) dX6_readDigits_39 ?_
          refine g_aload_n F 2 dX6_readDigits_42 rfl ?_
          refine gm_get_15 F dX6_readDigits_43 ?_
          refine g_top (y := iI 1) rfl ?_
          refine g_if_eq F 53 (by omega) dX6_readDigits_46 (by decide) (fun c46 => ?_) (fun c46 => ?_)
          · skip
            exact absurd trivial (by omega)
          · skip
            refine g_iconst F dX6_readDigits_49 ?_
            refine g_goto F 70 dX6_readDigits_50 (by decide) ?_
            refine g_istore_n F (lv' := [(2, .int (iI 0)), (3, .int (iI k)), (0, .ref (ma 100)), (1, .int (iI d))]) 2 dX6_readDigits_70 rfl (by decide) rfl ?_
            refine g_aload_n F 2 dX6_readDigits_71 rfl ?_
            refine g_dup F dX6_readDigits_72 rfl ?_
            refine gm_get_14 F dX6_readDigits_73 ?_
            refine g_top (y := iI p) rfl ?_
            refine g_aload_n F 2 dX6_readDigits_76 rfl ?_
            refine gm_get_15 F dX6_readDigits_77 ?_
            refine g_top (y := iI 1) rfl ?_
            refine g_if_eq F 87 (by omega) dX6_readDigits_80 (by decide) (fun c80 => ?_) (fun c80 => ?_)
            · skip
              exact absurd trivial (by omega)
            · skip
              refine g_iconst F dX6_readDigits_83 ?_
              refine g_goto F 88 dX6_readDigits_84 (by decide) ?_
              refine g_iadd F dX6_readDigits_88 ?_
              refine gm_put_14 F dX6_readDigits_89 ?_
              refine g_iinc F (lv' := [(3, .int (iI (k + 1))), (2, .int (iI 0)), (0, .ref (ma 100)), (1, .int (iI d))]) 1 dX6_readDigits_92 rfl (by decide) rfl ?_
              refine g_goto F 4 dX6_readDigits_95 (by decide) ?_
              refine g_sub F (lv' := [(3, .int (iI (k + 1))), (2, .int (iI 0)), (0, .ref (ma 100)), (1, .int (iI d))]) [0, 1, 2, 3] rfl ?_
              refine g_ws (ws' := mw κ ma (mA (mA M 15 (fun _ => 1)) 14 (fun _ => (p + 0)))) rfl ?_
              exact ih4 _ (by omega) (k + 1) 0 1 (p + 0) rfl (by omega) (by omega) (by omega) (by rw [Int.add_zero]; exact RD_n (by rw [show b = 0 by omega] at hR; exact hR) hp.1 hk.1 c31)
  refine g_sub F (lv' := [(3, .int (iI 0)), (2, .int (iI 0)), (0, .ref (ma 100)), (1, .int (iI d))]) [0, 1, 2, 3] rfl ?_
  refine g_ws (ws' := mw κ ma (mA (mA M 15 (fun _ => (M 15 0))) 14 (fun _ => (M 14 0)))) rfl ?_
  exact L4 _ 0 0 (M 15 0) (M 14 0) rfl (by omega) hb (by omega) (by rcases hb with q | q; exact Or.inr (Or.inl ⟨q, rfl, by omega, q, rfl⟩); exact Or.inl ⟨q, rfl, q, rfl⟩)
theorem dX6_readNumbers_0 : decode cX6_readNumbers 0 = .ok (.iload_n 1, 1) := by decide +kernel
theorem dX6_readNumbers_1 : decode cX6_readNumbers 1 = .ok (.lookupswitch 203 #[(99, 43), (112, 149), (114, 109), (119, 176)], 43) := by decide +kernel
theorem dX6_readNumbers_44 : decode cX6_readNumbers 44 = .ok (.aload_n 0, 1) := by decide +kernel
theorem dX6_readNumbers_45 : decode cX6_readNumbers 45 = .ok (.getfield 46, 3) := by decide +kernel
theorem dX6_readNumbers_48 : decode cX6_readNumbers 48 = .ok (.iload_n 2, 1) := by decide +kernel
theorem dX6_readNumbers_49 : decode cX6_readNumbers 49 = .ok (.aload_n 0, 1) := by decide +kernel
theorem dX6_readNumbers_50 : decode cX6_readNumbers 50 = .ok (.iconst 2, 1) := by decide +kernel
theorem dX6_readNumbers_51 : decode cX6_readNumbers 51 = .ok (.invokevirtual 159, 3) := by decide +kernel
theorem dX6_readNumbers_54 : decode cX6_readNumbers 54 = .ok (.iastore, 1) := by decide +kernel
theorem dX6_readNumbers_55 : decode cX6_readNumbers 55 = .ok (.aload_n 0, 1) := by decide +kernel
theorem dX6_readNumbers_56 : decode cX6_readNumbers 56 = .ok (.getfield 46, 3) := by decide +kernel
theorem dX6_readNumbers_59 : decode cX6_readNumbers 59 = .ok (.iload_n 2, 1) := by decide +kernel
theorem dX6_readNumbers_60 : decode cX6_readNumbers 60 = .ok (.iconst 1, 1) := by decide +kernel
theorem dX6_readNumbers_61 : decode cX6_readNumbers 61 = .ok (.iadd, 1) := by decide +kernel
theorem dX6_readNumbers_62 : decode cX6_readNumbers 62 = .ok (.aload_n 0, 1) := by decide +kernel
theorem dX6_readNumbers_63 : decode cX6_readNumbers 63 = .ok (.iconst 2, 1) := by decide +kernel
theorem dX6_readNumbers_64 : decode cX6_readNumbers 64 = .ok (.invokevirtual 159, 3) := by decide +kernel
theorem dX6_readNumbers_67 : decode cX6_readNumbers 67 = .ok (.iastore, 1) := by decide +kernel
theorem dX6_readNumbers_68 : decode cX6_readNumbers 68 = .ok (.aload_n 0, 1) := by decide +kernel
theorem dX6_readNumbers_69 : decode cX6_readNumbers 69 = .ok (.getfield 46, 3) := by decide +kernel
theorem dX6_readNumbers_72 : decode cX6_readNumbers 72 = .ok (.iload_n 2, 1) := by decide +kernel
theorem dX6_readNumbers_73 : decode cX6_readNumbers 73 = .ok (.iconst 2, 1) := by decide +kernel
theorem dX6_readNumbers_74 : decode cX6_readNumbers 74 = .ok (.iadd, 1) := by decide +kernel
theorem dX6_readNumbers_75 : decode cX6_readNumbers 75 = .ok (.aload_n 0, 1) := by decide +kernel
theorem dX6_readNumbers_76 : decode cX6_readNumbers 76 = .ok (.iconst 1, 1) := by decide +kernel
theorem dX6_readNumbers_77 : decode cX6_readNumbers 77 = .ok (.invokevirtual 159, 3) := by decide +kernel
theorem dX6_readNumbers_80 : decode cX6_readNumbers 80 = .ok (.iastore, 1) := by decide +kernel
theorem dX6_readNumbers_81 : decode cX6_readNumbers 81 = .ok (.aload_n 0, 1) := by decide +kernel
theorem dX6_readNumbers_82 : decode cX6_readNumbers 82 = .ok (.getfield 46, 3) := by decide +kernel
theorem dX6_readNumbers_85 : decode cX6_readNumbers 85 = .ok (.iload_n 2, 1) := by decide +kernel
theorem dX6_readNumbers_86 : decode cX6_readNumbers 86 = .ok (.iconst 3, 1) := by decide +kernel
theorem dX6_readNumbers_87 : decode cX6_readNumbers 87 = .ok (.iadd, 1) := by decide +kernel
theorem dX6_readNumbers_88 : decode cX6_readNumbers 88 = .ok (.aload_n 0, 1) := by decide +kernel
theorem dX6_readNumbers_89 : decode cX6_readNumbers 89 = .ok (.iconst 1, 1) := by decide +kernel
theorem dX6_readNumbers_90 : decode cX6_readNumbers 90 = .ok (.invokevirtual 159, 3) := by decide +kernel
theorem dX6_readNumbers_93 : decode cX6_readNumbers 93 = .ok (.iastore, 1) := by decide +kernel
theorem dX6_readNumbers_94 : decode cX6_readNumbers 94 = .ok (.aload_n 0, 1) := by decide +kernel
theorem dX6_readNumbers_95 : decode cX6_readNumbers 95 = .ok (.getfield 46, 3) := by decide +kernel
theorem dX6_readNumbers_98 : decode cX6_readNumbers 98 = .ok (.iload_n 2, 1) := by decide +kernel
theorem dX6_readNumbers_99 : decode cX6_readNumbers 99 = .ok (.iconst 4, 1) := by decide +kernel
theorem dX6_readNumbers_100 : decode cX6_readNumbers 100 = .ok (.iadd, 1) := by decide +kernel
theorem dX6_readNumbers_101 : decode cX6_readNumbers 101 = .ok (.aload_n 0, 1) := by decide +kernel
theorem dX6_readNumbers_102 : decode cX6_readNumbers 102 = .ok (.iconst 2, 1) := by decide +kernel
theorem dX6_readNumbers_103 : decode cX6_readNumbers 103 = .ok (.invokevirtual 159, 3) := by decide +kernel
theorem dX6_readNumbers_106 : decode cX6_readNumbers 106 = .ok (.iastore, 1) := by decide +kernel
theorem dX6_readNumbers_107 : decode cX6_readNumbers 107 = .ok (.goto 108, 3) := by decide +kernel
theorem dX6_readNumbers_110 : decode cX6_readNumbers 110 = .ok (.aload_n 0, 1) := by decide +kernel
theorem dX6_readNumbers_111 : decode cX6_readNumbers 111 = .ok (.getfield 46, 3) := by decide +kernel
theorem dX6_readNumbers_114 : decode cX6_readNumbers 114 = .ok (.iload_n 2, 1) := by decide +kernel
theorem dX6_readNumbers_115 : decode cX6_readNumbers 115 = .ok (.aload_n 0, 1) := by decide +kernel
theorem dX6_readNumbers_116 : decode cX6_readNumbers 116 = .ok (.iconst 1, 1) := by decide +kernel
theorem dX6_readNumbers_117 : decode cX6_readNumbers 117 = .ok (.invokevirtual 159, 3) := by decide +kernel
theorem dX6_readNumbers_120 : decode cX6_readNumbers 120 = .ok (.iastore, 1) := by decide +kernel
theorem dX6_readNumbers_121 : decode cX6_readNumbers 121 = .ok (.aload_n 0, 1) := by decide +kernel
theorem dX6_readNumbers_122 : decode cX6_readNumbers 122 = .ok (.getfield 46, 3) := by decide +kernel
theorem dX6_readNumbers_125 : decode cX6_readNumbers 125 = .ok (.iload_n 2, 1) := by decide +kernel
theorem dX6_readNumbers_126 : decode cX6_readNumbers 126 = .ok (.iconst 1, 1) := by decide +kernel
theorem dX6_readNumbers_127 : decode cX6_readNumbers 127 = .ok (.iadd, 1) := by decide +kernel
theorem dX6_readNumbers_128 : decode cX6_readNumbers 128 = .ok (.aload_n 0, 1) := by decide +kernel
theorem dX6_readNumbers_129 : decode cX6_readNumbers 129 = .ok (.iconst 1, 1) := by decide +kernel
theorem dX6_readNumbers_130 : decode cX6_readNumbers 130 = .ok (.invokevirtual 159, 3) := by decide +kernel
theorem dX6_readNumbers_133 : decode cX6_readNumbers 133 = .ok (.iastore, 1) := by decide +kernel
theorem dX6_readNumbers_134 : decode cX6_readNumbers 134 = .ok (.aload_n 0, 1) := by decide +kernel
theorem dX6_readNumbers_135 : decode cX6_readNumbers 135 = .ok (.getfield 46, 3) := by decide +kernel
theorem dX6_readNumbers_138 : decode cX6_readNumbers 138 = .ok (.iload_n 2, 1) := by decide +kernel
theorem dX6_readNumbers_139 : decode cX6_readNumbers 139 = .ok (.iconst 2, 1) := by decide +kernel
theorem dX6_readNumbers_140 : decode cX6_readNumbers 140 = .ok (.iadd, 1) := by decide +kernel
theorem dX6_readNumbers_141 : decode cX6_readNumbers 141 = .ok (.aload_n 0, 1) := by decide +kernel
theorem dX6_readNumbers_142 : decode cX6_readNumbers 142 = .ok (.iconst 2, 1) := by decide +kernel
theorem dX6_readNumbers_143 : decode cX6_readNumbers 143 = .ok (.invokevirtual 159, 3) := by decide +kernel
theorem dX6_readNumbers_146 : decode cX6_readNumbers 146 = .ok (.iastore, 1) := by decide +kernel
theorem dX6_readNumbers_147 : decode cX6_readNumbers 147 = .ok (.goto 68, 3) := by decide +kernel
theorem dX6_readNumbers_150 : decode cX6_readNumbers 150 = .ok (.aload_n 0, 1) := by decide +kernel
theorem dX6_readNumbers_151 : decode cX6_readNumbers 151 = .ok (.getfield 46, 3) := by decide +kernel
theorem dX6_readNumbers_154 : decode cX6_readNumbers 154 = .ok (.iload_n 2, 1) := by decide +kernel
theorem dX6_readNumbers_155 : decode cX6_readNumbers 155 = .ok (.aload_n 0, 1) := by decide +kernel
theorem dX6_readNumbers_156 : decode cX6_readNumbers 156 = .ok (.iconst 1, 1) := by decide +kernel
theorem dX6_readNumbers_157 : decode cX6_readNumbers 157 = .ok (.invokevirtual 159, 3) := by decide +kernel
theorem dX6_readNumbers_160 : decode cX6_readNumbers 160 = .ok (.iastore, 1) := by decide +kernel
theorem dX6_readNumbers_161 : decode cX6_readNumbers 161 = .ok (.aload_n 0, 1) := by decide +kernel
theorem dX6_readNumbers_162 : decode cX6_readNumbers 162 = .ok (.getfield 46, 3) := by decide +kernel
theorem dX6_readNumbers_165 : decode cX6_readNumbers 165 = .ok (.iload_n 2, 1) := by decide +kernel
theorem dX6_readNumbers_166 : decode cX6_readNumbers 166 = .ok (.iconst 1, 1) := by decide +kernel
theorem dX6_readNumbers_167 : decode cX6_readNumbers 167 = .ok (.iadd, 1) := by decide +kernel
theorem dX6_readNumbers_168 : decode cX6_readNumbers 168 = .ok (.aload_n 0, 1) := by decide +kernel
theorem dX6_readNumbers_169 : decode cX6_readNumbers 169 = .ok (.iconst 2, 1) := by decide +kernel
theorem dX6_readNumbers_170 : decode cX6_readNumbers 170 = .ok (.invokevirtual 159, 3) := by decide +kernel
theorem dX6_readNumbers_173 : decode cX6_readNumbers 173 = .ok (.iastore, 1) := by decide +kernel
theorem dX6_readNumbers_174 : decode cX6_readNumbers 174 = .ok (.goto 41, 3) := by decide +kernel
theorem dX6_readNumbers_177 : decode cX6_readNumbers 177 = .ok (.aload_n 0, 1) := by decide +kernel
theorem dX6_readNumbers_178 : decode cX6_readNumbers 178 = .ok (.getfield 46, 3) := by decide +kernel
theorem dX6_readNumbers_181 : decode cX6_readNumbers 181 = .ok (.iload_n 2, 1) := by decide +kernel
theorem dX6_readNumbers_182 : decode cX6_readNumbers 182 = .ok (.aload_n 0, 1) := by decide +kernel
theorem dX6_readNumbers_183 : decode cX6_readNumbers 183 = .ok (.iconst 2, 1) := by decide +kernel
theorem dX6_readNumbers_184 : decode cX6_readNumbers 184 = .ok (.invokevirtual 159, 3) := by decide +kernel
theorem dX6_readNumbers_187 : decode cX6_readNumbers 187 = .ok (.iastore, 1) := by decide +kernel
theorem dX6_readNumbers_188 : decode cX6_readNumbers 188 = .ok (.aload_n 0, 1) := by decide +kernel
theorem dX6_readNumbers_189 : decode cX6_readNumbers 189 = .ok (.getfield 46, 3) := by decide +kernel
theorem dX6_readNumbers_192 : decode cX6_readNumbers 192 = .ok (.iload_n 2, 1) := by decide +kernel
theorem dX6_readNumbers_193 : decode cX6_readNumbers 193 = .ok (.iconst 1, 1) := by decide +kernel
theorem dX6_readNumbers_194 : decode cX6_readNumbers 194 = .ok (.iadd, 1) := by decide +kernel
theorem dX6_readNumbers_195 : decode cX6_readNumbers 195 = .ok (.aload_n 0, 1) := by decide +kernel
theorem dX6_readNumbers_196 : decode cX6_readNumbers 196 = .ok (.iconst 2, 1) := by decide +kernel
theorem dX6_readNumbers_197 : decode cX6_readNumbers 197 = .ok (.invokevirtual 159, 3) := by decide +kernel
theorem dX6_readNumbers_200 : decode cX6_readNumbers 200 = .ok (.iastore, 1) := by decide +kernel
theorem dX6_readNumbers_201 : decode cX6_readNumbers 201 = .ok (.goto 14, 3) := by decide +kernel
theorem dX6_readNumbers_204 : decode cX6_readNumbers 204 = .ok (.aload_n 0, 1) := by decide +kernel
theorem dX6_readNumbers_205 : decode cX6_readNumbers 205 = .ok (.getfield 46, 3) := by decide +kernel
theorem dX6_readNumbers_208 : decode cX6_readNumbers 208 = .ok (.iload_n 2, 1) := by decide +kernel
theorem dX6_readNumbers_209 : decode cX6_readNumbers 209 = .ok (.aload_n 0, 1) := by decide +kernel
theorem dX6_readNumbers_210 : decode cX6_readNumbers 210 = .ok (.iconst 2, 1) := by decide +kernel
theorem dX6_readNumbers_211 : decode cX6_readNumbers 211 = .ok (.invokevirtual 159, 3) := by decide +kernel
theorem dX6_readNumbers_214 : decode cX6_readNumbers 214 = .ok (.iastore, 1) := by decide +kernel
theorem dX6_readNumbers_215 : decode cX6_readNumbers 215 = .ok (.return_, 1) := by decide +kernel
set_option maxRecDepth 100000 in
set_option maxHeartbeats 4000000 in
theorem k_X6_readNumbers (κ : Kp) (ma : Nat → Nat) (M : MS) (c i : Int) (hn : 0 ≤ M 13 0 ∧ M 13 0 ≤ 96) (hlr : ∀ j : Int, 0 ≤ j → j < 96 → 0 ≤ M 12 j ∧ M 12 j ≤ 255) (hp : 0 ≤ M 14 0 ∧ M 14 0 ≤ 97) (hb : M 15 0 = 0) (hi : 0 ≤ i ∧ i ≤ 240) (hc : c = 99 ∨ c = 114 ∨ c = 112 ∨ c = 119 ∨ c = 121) : mV κ yX6_readNumbers cX6_readNumbers 3 2 [.ref (ma 100), .int (iI c), .int (iI i)] (mw κ ma M) (fun w => ∃ (p2 b2 : Int) (T : Int → Int), w = mw κ ma (mA (mA (mA M 15 (fun _ => b2)) 14 (fun _ => p2)) 19 T) ∧ RN (M 12) (M 13 0) (M 14 0) c p2 b2 (fun j => T (i + j)) ∧ ∀ z, (z < i ∨ i + 5 ≤ z) → T z = M 19 z) := by
  refine mV_of (by decide) (Nat.le_of_ble_eq_true rfl) (fun E F K => ?_)
  refine g_lv (lv' := [(0, .ref (ma 100)), (1, .int (iI c)), (2, .int (iI i))]) rfl ?_
  refine g_iload_n F 1 dX6_readNumbers_0 rfl ?_
  by_cases c1_99 : c = 99
  · skip
    refine g_lsw F 44 (by omega) dX6_readNumbers_1 (by decide +kernel) (off := 43) (by rw [c1_99]; decide +kernel) (by decide) ?_
    refine g_aload_n F 0 dX6_readNumbers_44 rfl ?_
    refine gm_get_19 F dX6_readNumbers_45 ?_
    refine g_iload_n F 2 dX6_readNumbers_48 rfl ?_
    refine g_aload_n F 0 dX6_readNumbers_49 rfl ?_
    refine g_iconst F dX6_readNumbers_50 ?_
    refine g_callI F (stk := [.int (iI 2), .ref (ma 100), .int (iI i), .ref (ma 19)]) (st := [.int (iI i), .ref (ma 19)]) (k_X6_readDigits κ ma M 2 hn hlr (show 0 ≤ (M 14 0) ∧ (M 14 0) ≤ 120 by omega) (show (M 15 0) = 0 ∨ (M 15 0) = 1 by omega) (by decide)) cal_X6_readDigits lm_X6_159 0 rfl rfl rfl rfl (by decide) rfl (Nat.le_of_ble_eq_true rfl) dX6_readNumbers_51 (fun r51 ws51 _ hr51 => ?_)
    obtain ⟨v51, p51, b51, rfl, rfl, hR51⟩ := hr51
    have hR51 : RD (M 12) (M 13 0) (M 14 0) (M 15 0) 2 v51 p51 b51 := hR51
    have hB51 := RD_B hR51
    have hI51 := RB_in hB51.1 (by decide)
    refine g_ws (ws' := mw κ ma (mA (mA M 15 (fun _ => b51)) 14 (fun _ => p51))) rfl ?_
    refine gm_ast_19 F (by omega) dX6_readNumbers_54 ?_
    refine g_ws (ws' := mw κ ma (mA (mA (mA M 15 (fun _ => b51)) 14 (fun _ => p51)) 19 (uI (M 19) i v51))) rfl ?_
    refine g_aload_n F 0 dX6_readNumbers_55 rfl ?_
    refine gm_get_19 F dX6_readNumbers_56 ?_
    refine g_iload_n F 2 dX6_readNumbers_59 rfl ?_
    refine g_iconst F dX6_readNumbers_60 ?_
    refine g_iadd F dX6_readNumbers_61 ?_
    refine g_aload_n F 0 dX6_readNumbers_62 rfl ?_
    refine g_iconst F dX6_readNumbers_63 ?_
    refine g_callI F (stk := [.int (iI 2), .ref (ma 100), .int (iI (i + 1)), .ref (ma 19)]) (st := [.int (iI (i + 1)), .ref (ma 19)]) (k_X6_readDigits κ ma (mA (mA (mA M 15 (fun _ => b51)) 14 (fun _ => p51)) 19 (uI (M 19) i v51)) 2 hn hlr (show 0 ≤ p51 ∧ p51 ≤ 120 by omega) (show b51 = 0 ∨ b51 = 1 by omega) (by decide)) cal_X6_readDigits lm_X6_159 0 rfl rfl rfl rfl (by decide) rfl (Nat.le_of_ble_eq_true rfl) dX6_readNumbers_64 (fun r64 ws64 _ hr64 => ?_)
    obtain ⟨v64, p64, b64, rfl, rfl, hR64⟩ := hr64
    have hR64 : RD (M 12) (M 13 0) p51 b51 2 v64 p64 b64 := hR64
    have hB64 := RD_B hR64
    have hI64 := RB_in hB64.1 (by decide)
    refine g_ws (ws' := mw κ ma (mA (mA (mA M 15 (fun _ => b64)) 14 (fun _ => p64)) 19 (uI (M 19) i v51))) rfl ?_
    refine gm_astS_19 F (by omega) dX6_readNumbers_67 ?_
    refine g_aload_n F 0 dX6_readNumbers_68 rfl ?_
    refine gm_get_19 F dX6_readNumbers_69 ?_
    refine g_iload_n F 2 dX6_readNumbers_72 rfl ?_
    refine g_iconst F dX6_readNumbers_73 ?_
    refine g_iadd F dX6_readNumbers_74 ?_
    refine g_aload_n F 0 dX6_readNumbers_75 rfl ?_
    refine g_iconst F dX6_readNumbers_76 ?_
    refine g_callI F (stk := [.int (iI 1), .ref (ma 100), .int (iI (i + 2)), .ref (ma 19)]) (st := [.int (iI (i + 2)), .ref (ma 19)]) (k_X6_readDigits κ ma (mA (mA (mA M 15 (fun _ => b64)) 14 (fun _ => p64)) 19 (uI (uI (M 19) i v51) (i + 1) v64)) 1 hn hlr (show 0 ≤ p64 ∧ p64 ≤ 120 by omega) (show b64 = 0 ∨ b64 = 1 by omega) (by decide)) cal_X6_readDigits lm_X6_159 0 rfl rfl rfl rfl (by decide) rfl (Nat.le_of_ble_eq_true rfl) dX6_readNumbers_77 (fun r77 ws77 _ hr77 => ?_)
    obtain ⟨v77, p77, b77, rfl, rfl, hR77⟩ := hr77
    have hR77 : RD (M 12) (M 13 0) p64 b64 1 v77 p77 b77 := hR77
    have hB77 := RD_B hR77
    have hI77 := RB_in hB77.1 (by decide)
    refine g_ws (ws' := mw κ ma (mA (mA (mA M 15 (fun _ => b77)) 14 (fun _ => p77)) 19 (uI (uI (M 19) i v51) (i + 1) v64))) rfl ?_
    refine gm_astS_19 F (by omega) dX6_readNumbers_80 ?_
    refine g_aload_n F 0 dX6_readNumbers_81 rfl ?_
    refine gm_get_19 F dX6_readNumbers_82 ?_
    refine g_iload_n F 2 dX6_readNumbers_85 rfl ?_
    refine g_iconst F dX6_readNumbers_86 ?_
    refine g_iadd F dX6_readNumbers_87 ?_
    refine g_aload_n F 0 dX6_readNumbers_88 rfl ?_
    refine g_iconst F dX6_readNumbers_89 ?_
    refine g_callI F (stk := [.int (iI 1), .ref (ma 100), .int (iI (i + 3)), .ref (ma 19)]) (st := [.int (iI (i + 3)), .ref (ma 19)]) (k_X6_readDigits κ ma (mA (mA (mA M 15 (fun _ => b77)) 14 (fun _ => p77)) 19 (uI (uI (uI (M 19) i v51) (i + 1) v64) (i + 2) v77)) 1 hn hlr (show 0 ≤ p77 ∧ p77 ≤ 120 by omega) (show b77 = 0 ∨ b77 = 1 by omega) (by decide)) cal_X6_readDigits lm_X6_159 0 rfl rfl rfl rfl (by decide) rfl (Nat.le_of_ble_eq_true rfl) dX6_readNumbers_90 (fun r90 ws90 _ hr90 => ?_)
    obtain ⟨v90, p90, b90, rfl, rfl, hR90⟩ := hr90
    have hR90 : RD (M 12) (M 13 0) p77 b77 1 v90 p90 b90 := hR90
    have hB90 := RD_B hR90
    have hI90 := RB_in hB90.1 (by decide)
    refine g_ws (ws' := mw κ ma (mA (mA (mA M 15 (fun _ => b90)) 14 (fun _ => p90)) 19 (uI (uI (uI (M 19) i v51) (i + 1) v64) (i + 2) v77))) rfl ?_
    refine gm_astS_19 F (by omega) dX6_readNumbers_93 ?_
    refine g_aload_n F 0 dX6_readNumbers_94 rfl ?_
    refine gm_get_19 F dX6_readNumbers_95 ?_
    refine g_iload_n F 2 dX6_readNumbers_98 rfl ?_
    refine g_iconst F dX6_readNumbers_99 ?_
    refine g_iadd F dX6_readNumbers_100 ?_
    refine g_aload_n F 0 dX6_readNumbers_101 rfl ?_
    refine g_iconst F dX6_readNumbers_102 ?_
    refine g_callI F (stk := [.int (iI 2), .ref (ma 100), .int (iI (i + 4)), .ref (ma 19)]) (st := [.int (iI (i + 4)), .ref (ma 19)]) (k_X6_readDigits κ ma (mA (mA (mA M 15 (fun _ => b90)) 14 (fun _ => p90)) 19 (uI (uI (uI (uI (M 19) i v51) (i + 1) v64) (i + 2) v77) (i + 3) v90)) 2 hn hlr (show 0 ≤ p90 ∧ p90 ≤ 120 by omega) (show b90 = 0 ∨ b90 = 1 by omega) (by decide)) cal_X6_readDigits lm_X6_159 0 rfl rfl rfl rfl (by decide) rfl (Nat.le_of_ble_eq_true rfl) dX6_readNumbers_103 (fun r103 ws103 _ hr103 => ?_)
    obtain ⟨v103, p103, b103, rfl, rfl, hR103⟩ := hr103
    have hR103 : RD (M 12) (M 13 0) p90 b90 2 v103 p103 b103 := hR103
    have hB103 := RD_B hR103
    have hI103 := RB_in hB103.1 (by decide)
    refine g_ws (ws' := mw κ ma (mA (mA (mA M 15 (fun _ => b103)) 14 (fun _ => p103)) 19 (uI (uI (uI (uI (M 19) i v51) (i + 1) v64) (i + 2) v77) (i + 3) v90))) rfl ?_
    refine gm_astS_19 F (by omega) dX6_readNumbers_106 ?_
    refine g_goto F 215 dX6_readNumbers_107 (by decide) ?_
    have hA0 := hB51.1
    have hA1 := RB_add (d := 2) (e := 2) hA0 hB64.1 hp.1 (by decide) (by decide)
    have hA2 := RB_add (d := 4) (e := 1) hA1.1 hB77.1 hp.1 (by decide) (by decide)
    have hA3 := RB_add (d := 5) (e := 1) hA2.1 hB90.1 hp.1 (by decide) (by decide)
    have hA4 := RB_add (d := 6) (e := 2) hA3.1 hB103.1 hp.1 (by decide) (by decide)
    have hc2 : c = 99 := c1_99
    rw [hb] at hA4
    exact K mw_same ⟨p103, b103, _, rfl, RN_of hA4.1 (by rw [hc2]; decide) (fun hz => by
          have z4 := hA4.2 hz
          have z3 := hA3.2 z4.1
          have z2 := hA2.2 z3.1
          have z1 := hA1.2 z2.1
          have w0 := hB51.2 z1.1
          have w1 := hB64.2 z2.1
          rw [z1.2] at w1
          have w2 := hB77.2 z3.1
          rw [z2.2] at w2
          have w3 := hB90.2 z4.1
          rw [z3.2] at w3
          have w4 := hB103.2 hz
          rw [z4.2] at w4
          exact ⟨fun _ => ⟨(by show (uI (uI (uI (uI (uI (M 19) i v51) (i + 1) v64) (i + 2) v77) (i + 3) v90) (i + 4) v103) (i + 0) = _; rw [Int.add_zero, uI_n (by omega), uI_n (by omega), uI_n (by omega), uI_n (by omega), uI_s]; exact w0), (by show (uI (uI (uI (uI (uI (M 19) i v51) (i + 1) v64) (i + 2) v77) (i + 3) v90) (i + 4) v103) (i + 1) = _; rw [uI_n (by omega), uI_n (by omega), uI_n (by omega), uI_s]; exact w1), (by show (uI (uI (uI (uI (uI (M 19) i v51) (i + 1) v64) (i + 2) v77) (i + 3) v90) (i + 4) v103) (i + 2) = _; rw [uI_n (by omega), uI_n (by omega), uI_s]; exact w2), (by show (uI (uI (uI (uI (uI (M 19) i v51) (i + 1) v64) (i + 2) v77) (i + 3) v90) (i + 4) v103) (i + 3) = _; rw [uI_n (by omega), uI_s]; exact w3), (by show (uI (uI (uI (uI (uI (M 19) i v51) (i + 1) v64) (i + 2) v77) (i + 3) v90) (i + 4) v103) (i + 4) = _; rw [uI_s]; exact w4)⟩, fun q => absurd (hc2.symm.trans q) (by decide), fun q => absurd (hc2.symm.trans q) (by decide), fun q => absurd (hc2.symm.trans q) (by decide), fun q => absurd (hc2.symm.trans q) (by decide)⟩), fun z hz => by show (uI (uI (uI (uI (uI (M 19) i v51) (i + 1) v64) (i + 2) v77) (i + 3) v90) (i + 4) v103) z = _; rw [uI_n (by omega), uI_n (by omega), uI_n (by omega), uI_n (by omega), uI_n (by omega)]⟩ dX6_readNumbers_215
  by_cases c1_112 : c = 112
  · skip
    refine g_lsw F 150 (by omega) dX6_readNumbers_1 (by decide +kernel) (off := 149) (by rw [c1_112]; decide +kernel) (by decide) ?_
    refine g_aload_n F 0 dX6_readNumbers_150 rfl ?_
    refine gm_get_19 F dX6_readNumbers_151 ?_
    refine g_iload_n F 2 dX6_readNumbers_154 rfl ?_
    refine g_aload_n F 0 dX6_readNumbers_155 rfl ?_
    refine g_iconst F dX6_readNumbers_156 ?_
    refine g_callI F (stk := [.int (iI 1), .ref (ma 100), .int (iI i), .ref (ma 19)]) (st := [.int (iI i), .ref (ma 19)]) (k_X6_readDigits κ ma M 1 hn hlr (show 0 ≤ (M 14 0) ∧ (M 14 0) ≤ 120 by omega) (show (M 15 0) = 0 ∨ (M 15 0) = 1 by omega) (by decide)) cal_X6_readDigits lm_X6_159 0 rfl rfl rfl rfl (by decide) rfl (Nat.le_of_ble_eq_true rfl) dX6_readNumbers_157 (fun r157 ws157 _ hr157 => ?_)
    obtain ⟨v157, p157, b157, rfl, rfl, hR157⟩ := hr157
    have hR157 : RD (M 12) (M 13 0) (M 14 0) (M 15 0) 1 v157 p157 b157 := hR157
    have hB157 := RD_B hR157
    have hI157 := RB_in hB157.1 (by decide)
    refine g_ws (ws' := mw κ ma (mA (mA M 15 (fun _ => b157)) 14 (fun _ => p157))) rfl ?_
    refine gm_ast_19 F (by omega) dX6_readNumbers_160 ?_
    refine g_ws (ws' := mw κ ma (mA (mA (mA M 15 (fun _ => b157)) 14 (fun _ => p157)) 19 (uI (M 19) i v157))) rfl ?_
    refine g_aload_n F 0 dX6_readNumbers_161 rfl ?_
    refine gm_get_19 F dX6_readNumbers_162 ?_
    refine g_iload_n F 2 dX6_readNumbers_165 rfl ?_
    refine g_iconst F dX6_readNumbers_166 ?_
    refine g_iadd F dX6_readNumbers_167 ?_
    refine g_aload_n F 0 dX6_readNumbers_168 rfl ?_
    refine g_iconst F dX6_readNumbers_169 ?_
    refine g_callI F (stk := [.int (iI 2), .ref (ma 100), .int (iI (i + 1)), .ref (ma 19)]) (st := [.int (iI (i + 1)), .ref (ma 19)]) (k_X6_readDigits κ ma (mA (mA (mA M 15 (fun _ => b157)) 14 (fun _ => p157)) 19 (uI (M 19) i v157)) 2 hn hlr (show 0 ≤ p157 ∧ p157 ≤ 120 by omega) (show b157 = 0 ∨ b157 = 1 by omega) (by decide)) cal_X6_readDigits lm_X6_159 0 rfl rfl rfl rfl (by decide) rfl (Nat.le_of_ble_eq_true rfl) dX6_readNumbers_170 (fun r170 ws170 _ hr170 => ?_)
    obtain ⟨v170, p170, b170, rfl, rfl, hR170⟩ := hr170
    have hR170 : RD (M 12) (M 13 0) p157 b157 2 v170 p170 b170 := hR170
    have hB170 := RD_B hR170
    have hI170 := RB_in hB170.1 (by decide)
    refine g_ws (ws' := mw κ ma (mA (mA (mA M 15 (fun _ => b170)) 14 (fun _ => p170)) 19 (uI (M 19) i v157))) rfl ?_
    refine gm_astS_19 F (by omega) dX6_readNumbers_173 ?_
    refine g_goto F 215 dX6_readNumbers_174 (by decide) ?_
    have hA0 := hB157.1
    have hA1 := RB_add (d := 1) (e := 2) hA0 hB170.1 hp.1 (by decide) (by decide)
    have hc2 : c = 112 := c1_112
    rw [hb] at hA1
    exact K mw_same ⟨p170, b170, _, rfl, RN_of hA1.1 (by rw [hc2]; decide) (fun hz => by
          have z1 := hA1.2 hz
          have w0 := hB157.2 z1.1
          have w1 := hB170.2 hz
          rw [z1.2] at w1
          exact ⟨fun q => absurd (hc2.symm.trans q) (by decide), fun q => absurd (hc2.symm.trans q) (by decide), fun _ => ⟨(by show (uI (uI (M 19) i v157) (i + 1) v170) (i + 0) = _; rw [Int.add_zero, uI_n (by omega), uI_s]; exact w0), (by show (uI (uI (M 19) i v157) (i + 1) v170) (i + 1) = _; rw [uI_s]; exact w1)⟩, fun q => absurd (hc2.symm.trans q) (by decide), fun q => absurd (hc2.symm.trans q) (by decide)⟩), fun z hz => by show (uI (uI (M 19) i v157) (i + 1) v170) z = _; rw [uI_n (by omega), uI_n (by omega)]⟩ dX6_readNumbers_215
  by_cases c1_114 : c = 114
  · skip
    refine g_lsw F 110 (by omega) dX6_readNumbers_1 (by decide +kernel) (off := 109) (by rw [c1_114]; decide +kernel) (by decide) ?_
    refine g_aload_n F 0 dX6_readNumbers_110 rfl ?_
    refine gm_get_19 F dX6_readNumbers_111 ?_
    refine g_iload_n F 2 dX6_readNumbers_114 rfl ?_
    refine g_aload_n F 0 dX6_readNumbers_115 rfl ?_
    refine g_iconst F dX6_readNumbers_116 ?_
    refine g_callI F (stk := [.int (iI 1), .ref (ma 100), .int (iI i), .ref (ma 19)]) (st := [.int (iI i), .ref (ma 19)]) (k_X6_readDigits κ ma M 1 hn hlr (show 0 ≤ (M 14 0) ∧ (M 14 0) ≤ 120 by omega) (show (M 15 0) = 0 ∨ (M 15 0) = 1 by omega) (by decide)) cal_X6_readDigits lm_X6_159 0 rfl rfl rfl rfl (by decide) rfl (Nat.le_of_ble_eq_true rfl) dX6_readNumbers_117 (fun r117 ws117 _ hr117 => ?_)
    obtain ⟨v117, p117, b117, rfl, rfl, hR117⟩ := hr117
    have hR117 : RD (M 12) (M 13 0) (M 14 0) (M 15 0) 1 v117 p117 b117 := hR117
    have hB117 := RD_B hR117
    have hI117 := RB_in hB117.1 (by decide)
    refine g_ws (ws' := mw κ ma (mA (mA M 15 (fun _ => b117)) 14 (fun _ => p117))) rfl ?_
    refine gm_ast_19 F (by omega) dX6_readNumbers_120 ?_
    refine g_ws (ws' := mw κ ma (mA (mA (mA M 15 (fun _ => b117)) 14 (fun _ => p117)) 19 (uI (M 19) i v117))) rfl ?_
    refine g_aload_n F 0 dX6_readNumbers_121 rfl ?_
    refine gm_get_19 F dX6_readNumbers_122 ?_
    refine g_iload_n F 2 dX6_readNumbers_125 rfl ?_
    refine g_iconst F dX6_readNumbers_126 ?_
    refine g_iadd F dX6_readNumbers_127 ?_
    refine g_aload_n F 0 dX6_readNumbers_128 rfl ?_
    refine g_iconst F dX6_readNumbers_129 ?_
    refine g_callI F (stk := [.int (iI 1), .ref (ma 100), .int (iI (i + 1)), .ref (ma 19)]) (st := [.int (iI (i + 1)), .ref (ma 19)]) (k_X6_readDigits κ ma (mA (mA (mA M 15 (fun _ => b117)) 14 (fun _ => p117)) 19 (uI (M 19) i v117)) 1 hn hlr (show 0 ≤ p117 ∧ p117 ≤ 120 by omega) (show b117 = 0 ∨ b117 = 1 by omega) (by decide)) cal_X6_readDigits lm_X6_159 0 rfl rfl rfl rfl (by decide) rfl (Nat.le_of_ble_eq_true rfl) dX6_readNumbers_130 (fun r130 ws130 _ hr130 => ?_)
    obtain ⟨v130, p130, b130, rfl, rfl, hR130⟩ := hr130
    have hR130 : RD (M 12) (M 13 0) p117 b117 1 v130 p130 b130 := hR130
    have hB130 := RD_B hR130
    have hI130 := RB_in hB130.1 (by decide)
    refine g_ws (ws' := mw κ ma (mA (mA (mA M 15 (fun _ => b130)) 14 (fun _ => p130)) 19 (uI (M 19) i v117))) rfl ?_
    refine gm_astS_19 F (by omega) dX6_readNumbers_133 ?_
    refine g_aload_n F 0 dX6_readNumbers_134 rfl ?_
    refine gm_get_19 F dX6_readNumbers_135 ?_
    refine g_iload_n F 2 dX6_readNumbers_138 rfl ?_
    refine g_iconst F dX6_readNumbers_139 ?_
    refine g_iadd F dX6_readNumbers_140 ?_
    refine g_aload_n F 0 dX6_readNumbers_141 rfl ?_
    refine g_iconst F dX6_readNumbers_142 ?_
    refine g_callI F (stk := [.int (iI 2), .ref (ma 100), .int (iI (i + 2)), .ref (ma 19)]) (st := [.int (iI (i + 2)), .ref (ma 19)]) (k_X6_readDigits κ ma (mA (mA (mA M 15 (fun _ => b130)) 14 (fun _ => p130)) 19 (uI (uI (M 19) i v117) (i + 1) v130)) 2 hn hlr (show 0 ≤ p130 ∧ p130 ≤ 120 by omega) (show b130 = 0 ∨ b130 = 1 by omega) (by decide)) cal_X6_readDigits lm_X6_159 0 rfl rfl rfl rfl (by decide) rfl (Nat.le_of_ble_eq_true rfl) dX6_readNumbers_143 (fun r143 ws143 _ hr143 => ?_)
    obtain ⟨v143, p143, b143, rfl, rfl, hR143⟩ := hr143
    have hR143 : RD (M 12) (M 13 0) p130 b130 2 v143 p143 b143 := hR143
    have hB143 := RD_B hR143
    have hI143 := RB_in hB143.1 (by decide)
    refine g_ws (ws' := mw κ ma (mA (mA (mA M 15 (fun _ => b143)) 14 (fun _ => p143)) 19 (uI (uI (M 19) i v117) (i + 1) v130))) rfl ?_
    refine gm_astS_19 F (by omega) dX6_readNumbers_146 ?_
    refine g_goto F 215 dX6_readNumbers_147 (by decide) ?_
    have hA0 := hB117.1
    have hA1 := RB_add (d := 1) (e := 1) hA0 hB130.1 hp.1 (by decide) (by decide)
    have hA2 := RB_add (d := 2) (e := 2) hA1.1 hB143.1 hp.1 (by decide) (by decide)
    have hc2 : c = 114 := c1_114
    rw [hb] at hA2
    exact K mw_same ⟨p143, b143, _, rfl, RN_of hA2.1 (by rw [hc2]; decide) (fun hz => by
          have z2 := hA2.2 hz
          have z1 := hA1.2 z2.1
          have w0 := hB117.2 z1.1
          have w1 := hB130.2 z2.1
          rw [z1.2] at w1
          have w2 := hB143.2 hz
          rw [z2.2] at w2
          exact ⟨fun q => absurd (hc2.symm.trans q) (by decide), fun _ => ⟨(by show (uI (uI (uI (M 19) i v117) (i + 1) v130) (i + 2) v143) (i + 0) = _; rw [Int.add_zero, uI_n (by omega), uI_n (by omega), uI_s]; exact w0), (by show (uI (uI (uI (M 19) i v117) (i + 1) v130) (i + 2) v143) (i + 1) = _; rw [uI_n (by omega), uI_s]; exact w1), (by show (uI (uI (uI (M 19) i v117) (i + 1) v130) (i + 2) v143) (i + 2) = _; rw [uI_s]; exact w2)⟩, fun q => absurd (hc2.symm.trans q) (by decide), fun q => absurd (hc2.symm.trans q) (by decide), fun q => absurd (hc2.symm.trans q) (by decide)⟩), fun z hz => by show (uI (uI (uI (M 19) i v117) (i + 1) v130) (i + 2) v143) z = _; rw [uI_n (by omega), uI_n (by omega), uI_n (by omega)]⟩ dX6_readNumbers_215
  by_cases c1_119 : c = 119
  · skip
    refine g_lsw F 177 (by omega) dX6_readNumbers_1 (by decide +kernel) (off := 176) (by rw [c1_119]; decide +kernel) (by decide) ?_
    refine g_aload_n F 0 dX6_readNumbers_177 rfl ?_
    refine gm_get_19 F dX6_readNumbers_178 ?_
    refine g_iload_n F 2 dX6_readNumbers_181 rfl ?_
    refine g_aload_n F 0 dX6_readNumbers_182 rfl ?_
    refine g_iconst F dX6_readNumbers_183 ?_
    refine g_callI F (stk := [.int (iI 2), .ref (ma 100), .int (iI i), .ref (ma 19)]) (st := [.int (iI i), .ref (ma 19)]) (k_X6_readDigits κ ma M 2 hn hlr (show 0 ≤ (M 14 0) ∧ (M 14 0) ≤ 120 by omega) (show (M 15 0) = 0 ∨ (M 15 0) = 1 by omega) (by decide)) cal_X6_readDigits lm_X6_159 0 rfl rfl rfl rfl (by decide) rfl (Nat.le_of_ble_eq_true rfl) dX6_readNumbers_184 (fun r184 ws184 _ hr184 => ?_)
    obtain ⟨v184, p184, b184, rfl, rfl, hR184⟩ := hr184
    have hR184 : RD (M 12) (M 13 0) (M 14 0) (M 15 0) 2 v184 p184 b184 := hR184
    have hB184 := RD_B hR184
    have hI184 := RB_in hB184.1 (by decide)
    refine g_ws (ws' := mw κ ma (mA (mA M 15 (fun _ => b184)) 14 (fun _ => p184))) rfl ?_
    refine gm_ast_19 F (by omega) dX6_readNumbers_187 ?_
    refine g_ws (ws' := mw κ ma (mA (mA (mA M 15 (fun _ => b184)) 14 (fun _ => p184)) 19 (uI (M 19) i v184))) rfl ?_
    refine g_aload_n F 0 dX6_readNumbers_188 rfl ?_
    refine gm_get_19 F dX6_readNumbers_189 ?_
    refine g_iload_n F 2 dX6_readNumbers_192 rfl ?_
    refine g_iconst F dX6_readNumbers_193 ?_
    refine g_iadd F dX6_readNumbers_194 ?_
    refine g_aload_n F 0 dX6_readNumbers_195 rfl ?_
    refine g_iconst F dX6_readNumbers_196 ?_
    refine g_callI F (stk := [.int (iI 2), .ref (ma 100), .int (iI (i + 1)), .ref (ma 19)]) (st := [.int (iI (i + 1)), .ref (ma 19)]) (k_X6_readDigits κ ma (mA (mA (mA M 15 (fun _ => b184)) 14 (fun _ => p184)) 19 (uI (M 19) i v184)) 2 hn hlr (show 0 ≤ p184 ∧ p184 ≤ 120 by omega) (show b184 = 0 ∨ b184 = 1 by omega) (by decide)) cal_X6_readDigits lm_X6_159 0 rfl rfl rfl rfl (by decide) rfl (Nat.le_of_ble_eq_true rfl) dX6_readNumbers_197 (fun r197 ws197 _ hr197 => ?_)
    obtain ⟨v197, p197, b197, rfl, rfl, hR197⟩ := hr197
    have hR197 : RD (M 12) (M 13 0) p184 b184 2 v197 p197 b197 := hR197
    have hB197 := RD_B hR197
    have hI197 := RB_in hB197.1 (by decide)
    refine g_ws (ws' := mw κ ma (mA (mA (mA M 15 (fun _ => b197)) 14 (fun _ => p197)) 19 (uI (M 19) i v184))) rfl ?_
    refine gm_astS_19 F (by omega) dX6_readNumbers_200 ?_
    refine g_goto F 215 dX6_readNumbers_201 (by decide) ?_
    have hA0 := hB184.1
    have hA1 := RB_add (d := 2) (e := 2) hA0 hB197.1 hp.1 (by decide) (by decide)
    have hc2 : c = 119 := c1_119
    rw [hb] at hA1
    exact K mw_same ⟨p197, b197, _, rfl, RN_of hA1.1 (by rw [hc2]; decide) (fun hz => by
          have z1 := hA1.2 hz
          have w0 := hB184.2 z1.1
          have w1 := hB197.2 hz
          rw [z1.2] at w1
          exact ⟨fun q => absurd (hc2.symm.trans q) (by decide), fun q => absurd (hc2.symm.trans q) (by decide), fun q => absurd (hc2.symm.trans q) (by decide), fun _ => ⟨(by show (uI (uI (M 19) i v184) (i + 1) v197) (i + 0) = _; rw [Int.add_zero, uI_n (by omega), uI_s]; exact w0), (by show (uI (uI (M 19) i v184) (i + 1) v197) (i + 1) = _; rw [uI_s]; exact w1)⟩, fun q => absurd (hc2.symm.trans q) (by decide)⟩), fun z hz => by show (uI (uI (M 19) i v184) (i + 1) v197) z = _; rw [uI_n (by omega), uI_n (by omega)]⟩ dX6_readNumbers_215
  refine g_lsw F 204 (by omega) dX6_readNumbers_1 (by decide +kernel) (off := 203) (by simp [Op.lookupswitch.offset, List.find?]; omega) (by decide) ?_
  refine g_aload_n F 0 dX6_readNumbers_204 rfl ?_
  refine gm_get_19 F dX6_readNumbers_205 ?_
  refine g_iload_n F 2 dX6_readNumbers_208 rfl ?_
  refine g_aload_n F 0 dX6_readNumbers_209 rfl ?_
  refine g_iconst F dX6_readNumbers_210 ?_
  refine g_callI F (stk := [.int (iI 2), .ref (ma 100), .int (iI i), .ref (ma 19)]) (st := [.int (iI i), .ref (ma 19)]) (k_X6_readDigits κ ma M 2 hn hlr (show 0 ≤ (M 14 0) ∧ (M 14 0) ≤ 120 by omega) (show (M 15 0) = 0 ∨ (M 15 0) = 1 by omega) (by decide)) cal_X6_readDigits lm_X6_159 0 rfl rfl rfl rfl (by decide) rfl (Nat.le_of_ble_eq_true rfl) dX6_readNumbers_211 (fun r211 ws211 _ hr211 => ?_)
  obtain ⟨v211, p211, b211, rfl, rfl, hR211⟩ := hr211
  have hR211 : RD (M 12) (M 13 0) (M 14 0) (M 15 0) 2 v211 p211 b211 := hR211
  have hB211 := RD_B hR211
  have hI211 := RB_in hB211.1 (by decide)
  refine g_ws (ws' := mw κ ma (mA (mA M 15 (fun _ => b211)) 14 (fun _ => p211))) rfl ?_
  refine gm_ast_19 F (by omega) dX6_readNumbers_214 ?_
  refine g_ws (ws' := mw κ ma (mA (mA (mA M 15 (fun _ => b211)) 14 (fun _ => p211)) 19 (uI (M 19) i v211))) rfl ?_
  have hA0 := hB211.1
  have hc2 : c = 121 := by omega
  rw [hb] at hA0
  exact K mw_same ⟨p211, b211, _, rfl, RN_of hA0 (by rw [hc2]; decide) (fun hz => by
        have w0 := hB211.2 hz
        exact ⟨fun q => absurd (hc2.symm.trans q) (by decide), fun q => absurd (hc2.symm.trans q) (by decide), fun q => absurd (hc2.symm.trans q) (by decide), fun q => absurd (hc2.symm.trans q) (by decide), fun _ => (by show (uI (M 19) i v211) (i + 0) = _; rw [Int.add_zero, uI_s]; exact w0)⟩), fun z hz => by show (uI (M 19) i v211) z = _; rw [uI_n (by omega)]⟩ dX6_readNumbers_215
