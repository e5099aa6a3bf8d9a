
def older (C : Cl) (v : Int) : Cl := (ki C, fi C, upTo (ag C) (ageOn C v) 12, we C, yr C)
/-- the first year, from n on, with a hole among the cells of m (61: none to 60) -/
def yth (m : Int) : Nat → Cl → Int → Int
  | 0, _, _ => 61
  | k + 1, C, n => if band (hbits C) m = 0 then yth m k (yearOn C) (n + 1) else n
def ythI (C : Cl) (m s : Int) : Int := yth m (61 - s).toNat C s
theorem yth_s {m n : Int} {C : Cl} (h : n ≤ 60) : ythI C m n = if band (hbits C) m = 0 then ythI (yearOn C) m (n + 1) else n := by
  unfold ythI
  rw [show (61 - n).toNat = (61 - (n + 1)).toNat + 1 by omega]
  rfl
theorem yth_61 {m : Int} {C : Cl} : ythI C m 61 = 61 := rfl
theorem band_bd (a b : Int) : 0 ≤ band a b := by unfold band; omega
theorem band_le {a b : Int} (h : 0 ≤ a) : band a b ≤ a := by
  unfold band
  have := @Nat.and_le_left a.toNat b.toNat
  omega
theorem dX0_pull_0 : decode cX0_pull 0 = .ok (.iconst 0, 1) := by decide +kernel
theorem dX0_pull_1 : decode cX0_pull 1 = .ok (.istore_n 2, 1) := by decide +kernel
theorem dX0_pull_2 : decode cX0_pull 2 = .ok (.iconst 0, 1) := by decide +kernel
theorem dX0_pull_3 : decode cX0_pull 3 = .ok (.istore_n 3, 1) := by decide +kernel
theorem dX0_pull_4 : decode cX0_pull 4 = .ok (.iconst 0, 1) := by decide +kernel
theorem dX0_pull_5 : decode cX0_pull 5 = .ok (.istore 4, 2) := by decide +kernel
theorem dX0_pull_7 : decode cX0_pull 7 = .ok (.iload 4, 2) := by decide +kernel
theorem dX0_pull_9 : decode cX0_pull 9 = .ok (.iconst 4, 1) := by decide +kernel
theorem dX0_pull_10 : decode cX0_pull 10 = .ok (.if_icmp .ge 53, 3) := by decide +kernel
theorem dX0_pull_13 : decode cX0_pull 13 = .ok (.getstatic 47, 3) := by decide +kernel
theorem dX0_pull_16 : decode cX0_pull 16 = .ok (.iload_n 1, 1) := by decide +kernel
theorem dX0_pull_17 : decode cX0_pull 17 = .ok (.iconst 4, 1) := by decide +kernel
theorem dX0_pull_18 : decode cX0_pull 18 = .ok (.imul, 1) := by decide +kernel
theorem dX0_pull_19 : decode cX0_pull 19 = .ok (.iload 4, 2) := by decide +kernel
theorem dX0_pull_21 : decode cX0_pull 21 = .ok (.iadd, 1) := by decide +kernel
theorem dX0_pull_22 : decode cX0_pull 22 = .ok (.iaload, 1) := by decide +kernel
theorem dX0_pull_23 : decode cX0_pull 23 = .ok (.istore 5, 2) := by decide +kernel
theorem dX0_pull_25 : decode cX0_pull 25 = .ok (.iload 5, 2) := by decide +kernel
theorem dX0_pull_27 : decode cX0_pull 27 = .ok (.iconst (-1), 1) := by decide +kernel
theorem dX0_pull_28 : decode cX0_pull 28 = .ok (.if_icmp .ne 6, 3) := by decide +kernel
theorem dX0_pull_31 : decode cX0_pull 31 = .ok (.goto 26, 3) := by decide +kernel
theorem dX0_pull_34 : decode cX0_pull 34 = .ok (.iload_n 2, 1) := by decide +kernel
theorem dX0_pull_35 : decode cX0_pull 35 = .ok (.aload_n 0, 1) := by decide +kernel
theorem dX0_pull_36 : decode cX0_pull 36 = .ok (.getfield 18, 3) := by decide +kernel
theorem dX0_pull_39 : decode cX0_pull 39 = .ok (.iload_n 1, 1) := by decide +kernel
theorem dX0_pull_40 : decode cX0_pull 40 = .ok (.iaload, 1) := by decide +kernel
theorem dX0_pull_41 : decode cX0_pull 41 = .ok (.aload_n 0, 1) := by decide +kernel
theorem dX0_pull_42 : decode cX0_pull 42 = .ok (.getfield 18, 3) := by decide +kernel
theorem dX0_pull_45 : decode cX0_pull 45 = .ok (.iload 5, 2) := by decide +kernel
theorem dX0_pull_47 : decode cX0_pull 47 = .ok (.iaload, 1) := by decide +kernel
theorem dX0_pull_48 : decode cX0_pull 48 = .ok (.isub, 1) := by decide +kernel
theorem dX0_pull_49 : decode cX0_pull 49 = .ok (.invokestatic 50, 3) := by decide +kernel
theorem dX0_pull_52 : decode cX0_pull 52 = .ok (.iadd, 1) := by decide +kernel
theorem dX0_pull_53 : decode cX0_pull 53 = .ok (.istore_n 2, 1) := by decide +kernel
theorem dX0_pull_54 : decode cX0_pull 54 = .ok (.iinc 3 1, 3) := by decide +kernel
theorem dX0_pull_57 : decode cX0_pull 57 = .ok (.iinc 4 1, 3) := by decide +kernel
theorem dX0_pull_60 : decode cX0_pull 60 = .ok (.goto (-53), 3) := by decide +kernel
theorem dX0_pull_63 : decode cX0_pull 63 = .ok (.iload_n 2, 1) := by decide +kernel
theorem dX0_pull_64 : decode cX0_pull 64 = .ok (.iconst 4, 1) := by decide +kernel
theorem dX0_pull_65 : decode cX0_pull 65 = .ok (.idiv, 1) := by decide +kernel
theorem dX0_pull_66 : decode cX0_pull 66 = .ok (.istore 4, 2) := by decide +kernel
theorem dX0_pull_68 : decode cX0_pull 68 = .ok (.aload_n 0, 1) := by decide +kernel
theorem dX0_pull_69 : decode cX0_pull 69 = .ok (.getfield 9, 3) := by decide +kernel
theorem dX0_pull_72 : decode cX0_pull 72 = .ok (.iload_n 1, 1) := by decide +kernel
theorem dX0_pull_73 : decode cX0_pull 73 = .ok (.iaload, 1) := by decide +kernel
theorem dX0_pull_74 : decode cX0_pull 74 = .ok (.tableswitch 83 0 5 #[83, 38, 43, 48, 62, 67], 38) := by decide +kernel
theorem dX0_pull_112 : decode cX0_pull 112 = .ok (.iload 4, 2) := by decide +kernel
theorem dX0_pull_114 : decode cX0_pull 114 = .ok (.iconst 2, 1) := by decide +kernel
theorem dX0_pull_115 : decode cX0_pull 115 = .ok (.idiv, 1) := by decide +kernel
theorem dX0_pull_116 : decode cX0_pull 116 = .ok (.ireturn, 1) := by decide +kernel
theorem dX0_pull_117 : decode cX0_pull 117 = .ok (.iload 4, 2) := by decide +kernel
theorem dX0_pull_119 : decode cX0_pull 119 = .ok (.iload_n 3, 1) := by decide +kernel
theorem dX0_pull_120 : decode cX0_pull 120 = .ok (.iadd, 1) := by decide +kernel
theorem dX0_pull_121 : decode cX0_pull 121 = .ok (.ireturn, 1) := by decide +kernel
theorem dX0_pull_122 : decode cX0_pull 122 = .ok (.iload 4, 2) := by decide +kernel
theorem dX0_pull_124 : decode cX0_pull 124 = .ok (.iconst 2, 1) := by decide +kernel
theorem dX0_pull_125 : decode cX0_pull 125 = .ok (.idiv, 1) := by decide +kernel
theorem dX0_pull_126 : decode cX0_pull 126 = .ok (.aload_n 0, 1) := by decide +kernel
theorem dX0_pull_127 : decode cX0_pull 127 = .ok (.getfield 15, 3) := by decide +kernel
theorem dX0_pull_130 : decode cX0_pull 130 = .ok (.iload_n 1, 1) := by decide +kernel
theorem dX0_pull_131 : decode cX0_pull 131 = .ok (.iaload, 1) := by decide +kernel
theorem dX0_pull_132 : decode cX0_pull 132 = .ok (.iconst 3, 1) := by decide +kernel
theorem dX0_pull_133 : decode cX0_pull 133 = .ok (.idiv, 1) := by decide +kernel
theorem dX0_pull_134 : decode cX0_pull 134 = .ok (.iadd, 1) := by decide +kernel
theorem dX0_pull_135 : decode cX0_pull 135 = .ok (.ireturn, 1) := by decide +kernel
theorem dX0_pull_136 : decode cX0_pull 136 = .ok (.iconst 2, 1) := by decide +kernel
theorem dX0_pull_137 : decode cX0_pull 137 = .ok (.iload 4, 2) := by decide +kernel
theorem dX0_pull_139 : decode cX0_pull 139 = .ok (.imul, 1) := by decide +kernel
theorem dX0_pull_140 : decode cX0_pull 140 = .ok (.ireturn, 1) := by decide +kernel
theorem dX0_pull_141 : decode cX0_pull 141 = .ok (.iconst 0, 1) := by decide +kernel
theorem dX0_pull_142 : decode cX0_pull 142 = .ok (.iconst 2, 1) := by decide +kernel
theorem dX0_pull_143 : decode cX0_pull 143 = .ok (.iload 4, 2) := by decide +kernel
theorem dX0_pull_145 : decode cX0_pull 145 = .ok (.imul, 1) := by decide +kernel
theorem dX0_pull_146 : decode cX0_pull 146 = .ok (.aload_n 0, 1) := by decide +kernel
theorem dX0_pull_147 : decode cX0_pull 147 = .ok (.getfield 15, 3) := by decide +kernel
theorem dX0_pull_150 : decode cX0_pull 150 = .ok (.iload_n 1, 1) := by decide +kernel
theorem dX0_pull_151 : decode cX0_pull 151 = .ok (.iaload, 1) := by decide +kernel
theorem dX0_pull_152 : decode cX0_pull 152 = .ok (.isub, 1) := by decide +kernel
theorem dX0_pull_153 : decode cX0_pull 153 = .ok (.invokestatic 56, 3) := by decide +kernel
theorem dX0_pull_156 : decode cX0_pull 156 = .ok (.ireturn, 1) := by decide +kernel
theorem dX0_pull_157 : decode cX0_pull 157 = .ok (.iload 4, 2) := by decide +kernel
theorem dX0_pull_159 : decode cX0_pull 159 = .ok (.ireturn, 1) := by decide +kernel
set_option maxRecDepth 100000 in
set_option maxHeartbeats 4000000 in
theorem kS_X0_pull (κ : Kp) (xa : Nat → Nat → Nat) (X : XS) (o : Nat) (ho : o < 12) (C : MS) (c : Int)  (h0 : 0 ≤ c ∧ c < 12) (ok : okA (cl C)) : mI κ yX0_pull cX0_pull 6 .int 1 [.ref (xa o 100), .int (iI c)] (xw κ xa (setO X o C)) (is1 (iI (pull (cl C) c)) (xw κ xa (setO X o C))) := by
  refine mI_of (by decide) (Nat.le_of_ble_eq_true rfl) (fun E F K => ?_)
  refine g_lv (lv' := [(0, .ref (xa o 100)), (1, .int (iI c))]) rfl ?_
  refine g_iconst F dX0_pull_0 ?_
  refine g_istore_n F (lv' := [(2, .int (iI 0)), (0, .ref (xa o 100)), (1, .int (iI c))]) 2 dX0_pull_1 rfl (by decide) rfl ?_
  refine g_iconst F dX0_pull_2 ?_
  refine g_istore_n F (lv' := [(3, .int (iI 0)), (2, .int (iI 0)), (0, .ref (xa o 100)), (1, .int (iI c))]) 3 dX0_pull_3 rfl (by decide) rfl ?_
  refine g_iconst F dX0_pull_4 ?_
  refine g_istore F (lv' := [(4, .int (iI 0)), (3, .int (iI 0)), (2, .int (iI 0)), (0, .ref (xa o 100)), (1, .int (iI c))]) dX0_pull_5 (by decide) rfl ?_
  have L7 : ∀ (mz7 : Nat) (i : Int) (sm : Int) (mn : Int), (4 - i).toNat = mz7 → (0 ≤ i ∧ i ≤ 4) → (sm = sumI (apt (C 2) c) i) → (mn = sumI (cnt1 c) i) → G E (xw κ xa (setO X o C)) [(4, .int (iI i)), (3, .int (iI mn)), (2, .int (iI sm)), (0, .ref (xa o 100)), (1, .int (iI c))] 7 [] := by
    intro mz7
    induction mz7 using Nat.strongRecOn with
    | _ mz7 ih7 =>
    intro i sm mn hmz7 hi hs hm
    refine g_iload F 0 dX0_pull_7 rfl ?_
    refine g_iconst F dX0_pull_9 ?_
    refine g_icmp_ge F 63 (by omega) dX0_pull_10 (by decide) (fun c10 => ?_) (fun c10 => ?_)
    · skip
      have hi4 : i = 4 := by omega
      have hsb := aptSum_bd ok h0.1 h0.2 hi.1 hi.2
      have hsm : 0 ≤ sm ∧ sm ≤ 396 := by rw [hs]; exact hsb
      have hc := clo_bd ok h0.1 h0.2
      refine g_iload_n F 2 dX0_pull_63 rfl ?_
      refine g_iconst F dX0_pull_64 ?_
      refine g_idiv F dX0_pull_65 (by omega) ?_
      refine g_top (y := iI (clo (cl C) c)) (congrArg iI (clo_sum (C := cl C) hs hi4)) ?_
      refine g_istore F (lv' := [(4, .int (iI (clo (cl C) c))), (3, .int (iI mn)), (2, .int (iI sm)), (0, .ref (xa o 100)), (1, .int (iI c))]) dX0_pull_66 (by decide) rfl ?_
      refine g_aload_n F 3 dX0_pull_68 rfl ?_
      refine gcS_get_0 F ho lf_X0_9 dX0_pull_69 ?_
      refine g_iload_n F 4 dX0_pull_72 rfl ?_
      refine gcS_ald_0 F ho (by omega) dX0_pull_73 ?_
      refine g_top (y := iI (C 0 c)) rfl ?_
      have hk : (0 ≤ C 0 c ∧ C 0 c ≤ 5) ∧ (0 ≤ C 1 c ∧ C 1 c ≤ 9) ∧ 0 ≤ C 2 c ∧ C 2 c ≤ 99 := ok c (by omega) (by omega)
      by_cases c74_1 : (C 0 c) = 1
      · skip
        refine g_tsw_in F 112 (by omega) dX0_pull_74 (by omega) (by omega) (by rw [c74_1]; rfl) (by decide) ?_
        refine g_iload F 0 dX0_pull_112 rfl ?_
        refine g_iconst F dX0_pull_114 ?_
        refine g_idiv F dX0_pull_115 (by omega) ?_
        exact K xw_same ⟨congrArg iI (show (clo (cl C) c) / 2 = pull (cl C) c from by unfold pull; rw [if_pos c74_1]), rfl⟩ rfl dX0_pull_116
      by_cases c74_2 : (C 0 c) = 2
      · skip
        refine g_tsw_in F 117 (by omega) dX0_pull_74 (by omega) (by omega) (by rw [c74_2]; rfl) (by decide) ?_
        refine g_iload F 0 dX0_pull_117 rfl ?_
        refine g_iload_n F 1 dX0_pull_119 rfl ?_
        refine g_iadd F dX0_pull_120 ?_
        exact K xw_same ⟨congrArg iI (show (clo (cl C) c) + mn = pull (cl C) c from by unfold pull; rw [if_neg c74_1, if_pos c74_2, hm, hi4]), rfl⟩ rfl dX0_pull_121
      by_cases c74_3 : (C 0 c) = 3
      · skip
        refine g_tsw_in F 122 (by omega) dX0_pull_74 (by omega) (by omega) (by rw [c74_3]; rfl) (by decide) ?_
        refine g_iload F 0 dX0_pull_122 rfl ?_
        refine g_iconst F dX0_pull_124 ?_
        refine g_idiv F dX0_pull_125 (by omega) ?_
        refine g_aload_n F 3 dX0_pull_126 rfl ?_
        refine gcS_get_1 F ho lf_X0_15 dX0_pull_127 ?_
        refine g_iload_n F 4 dX0_pull_130 rfl ?_
        refine gcS_ald_1 F ho (by omega) dX0_pull_131 ?_
        refine g_top (y := iI (C 1 c)) rfl ?_
        refine g_iconst F dX0_pull_132 ?_
        refine g_idiv F dX0_pull_133 (by omega) ?_
        refine g_iadd F dX0_pull_134 ?_
        exact K xw_same ⟨congrArg iI (show ((clo (cl C) c) / 2) + ((C 1 c) / 3) = pull (cl C) c from by unfold pull; rw [if_neg c74_1, if_neg c74_2, if_pos c74_3]), rfl⟩ rfl dX0_pull_135
      by_cases c74_4 : (C 0 c) = 4
      · skip
        refine g_tsw_in F 136 (by omega) dX0_pull_74 (by omega) (by omega) (by rw [c74_4]; rfl) (by decide) ?_
        refine g_iconst F dX0_pull_136 ?_
        refine g_iload F 0 dX0_pull_137 rfl ?_
        refine g_imul F dX0_pull_139 ?_
        exact K xw_same ⟨congrArg iI (show 2 * (clo (cl C) c) = pull (cl C) c from by unfold pull; rw [if_neg c74_1, if_neg c74_2, if_neg c74_3, if_pos c74_4]), rfl⟩ rfl dX0_pull_140
      by_cases c74_5 : (C 0 c) = 5
      · skip
        refine g_tsw_in F 141 (by omega) dX0_pull_74 (by omega) (by omega) (by rw [c74_5]; rfl) (by decide) ?_
        refine g_iconst F dX0_pull_141 ?_
        refine g_iconst F dX0_pull_142 ?_
        refine g_iload F 0 dX0_pull_143 rfl ?_
        refine g_imul F dX0_pull_145 ?_
        refine g_aload_n F 3 dX0_pull_146 rfl ?_
        refine gcS_get_1 F ho lf_X0_15 dX0_pull_147 ?_
        refine g_iload_n F 4 dX0_pull_150 rfl ?_
        refine gcS_ald_1 F ho (by omega) dX0_pull_151 ?_
        refine g_top (y := iI (C 1 c)) rfl ?_
        refine g_isub F dX0_pull_152 ?_
        refine g_max F (by omega) lm_X0_56 ms_max ms_ini mc_max (by decide) (Nat.le_of_ble_eq_true rfl) dX0_pull_153 ?_
        exact K xw_same ⟨congrArg iI (show max 0 ((2 * (clo (cl C) c)) - (C 1 c)) = pull (cl C) c from by unfold pull; rw [if_neg c74_1, if_neg c74_2, if_neg c74_3, if_neg c74_4, if_pos c74_5]), rfl⟩ rfl dX0_pull_156
      by_cases c74_0 : (C 0 c) = 0
      · skip
        refine g_tsw_in F 157 (by omega) dX0_pull_74 (by omega) (by omega) (by rw [c74_0]; rfl) (by decide) ?_
        refine g_iload F 0 dX0_pull_157 rfl ?_
        exact K xw_same ⟨congrArg iI (show clo (cl C) c = pull (cl C) c from by unfold pull; rw [if_neg c74_1, if_neg c74_2, if_neg c74_3, if_neg c74_4, if_neg c74_5]), rfl⟩ rfl dX0_pull_159
      refine g_tsw_out F 157 (by omega) dX0_pull_74 (by omega) (by decide) ?_
      refine g_iload F 0 dX0_pull_157 rfl ?_
      exact K xw_same ⟨congrArg iI (show clo (cl C) c = pull (cl C) c from by unfold pull; rw [if_neg c74_1, if_neg c74_2, if_neg c74_3, if_neg c74_4, if_neg c74_5]), rfl⟩ rfl dX0_pull_159
    · skip
      refine g_besN F nf_X0_47 dX0_pull_13 ?_
      refine g_iload_n F 4 dX0_pull_16 rfl ?_
      refine g_iconst F dX0_pull_17 ?_
      refine g_imul F dX0_pull_18 ?_
      refine g_iload F 0 dX0_pull_19 rfl ?_
      refine g_iadd F dX0_pull_21 ?_
      refine g_beld F (by omega) dX0_pull_22 ?_
      refine g_top (y := iI (nb c i)) (iIc (bes_nb (by omega) (by omega))) ?_
      refine g_istore F (lv' := [(5, .int (iI (nb c i))), (4, .int (iI i)), (3, .int (iI mn)), (2, .int (iI sm)), (0, .ref (xa o 100)), (1, .int (iI c))]) dX0_pull_23 (by decide) rfl ?_
      have hn := nb_in h0.1 h0.2 (w := i) (by omega) (by omega)
      have hk : (0 ≤ C 0 c ∧ C 0 c ≤ 5) ∧ (0 ≤ C 1 c ∧ C 1 c ≤ 9) ∧ 0 ≤ C 2 c ∧ C 2 c ≤ 99 := ok c (by omega) (by omega)
      refine g_iload F 0 dX0_pull_25 rfl ?_
      refine g_iconst F dX0_pull_27 ?_
      refine g_icmp_ne F 34 (by omega) dX0_pull_28 (by decide) (fun c28 => ?_) (fun c28 => ?_)
      · skip
        refine g_iload_n F 3 dX0_pull_34 rfl ?_
        refine g_aload_n F 4 dX0_pull_35 rfl ?_
        refine gcS_get_2 F ho lf_X0_18 dX0_pull_36 ?_
        refine g_iload_n F 5 dX0_pull_39 rfl ?_
        refine gcS_ald_2 F ho (by omega) dX0_pull_40 ?_
        refine g_top (y := iI (C 2 c)) rfl ?_
        refine g_aload_n F 4 dX0_pull_41 rfl ?_
        refine gcS_get_2 F ho lf_X0_18 dX0_pull_42 ?_
        refine g_iload F 0 dX0_pull_45 rfl ?_
        refine gcS_ald_2 F ho (by omega) dX0_pull_47 ?_
        refine g_top (y := iI (C 2 (nb c i))) rfl ?_
        have hk2 : (0 ≤ C 0 (nb c i) ∧ C 0 (nb c i) ≤ 5) ∧ (0 ≤ C 1 (nb c i) ∧ C 1 (nb c i) ≤ 9) ∧ 0 ≤ C 2 (nb c i) ∧ C 2 (nb c i) ≤ 99 := ok (nb c i) (by omega) (by omega)
        refine g_isub F dX0_pull_48 ?_
        refine g_abs F (by omega) lm_X0_50 ms_abs ms_ini mc_abs (by decide) (Nat.le_of_ble_eq_true rfl) dX0_pull_49 ?_
        refine g_iadd F dX0_pull_52 ?_
        refine g_istore_n F (lv' := [(2, .int (iI (sm + (((C 2 c) - (C 2 (nb c i))).natAbs : Int)))), (5, .int (iI (nb c i))), (4, .int (iI i)), (3, .int (iI mn)), (0, .ref (xa o 100)), (1, .int (iI c))]) 2 dX0_pull_53 rfl (by decide) rfl ?_
        refine g_iinc F (lv' := [(3, .int (iI (mn + 1))), (2, .int (iI (sm + (((C 2 c) - (C 2 (nb c i))).natAbs : Int)))), (5, .int (iI (nb c i))), (4, .int (iI i)), (0, .ref (xa o 100)), (1, .int (iI c))]) 3 dX0_pull_54 rfl (by decide) rfl ?_
        refine g_iinc F (lv' := [(4, .int (iI (i + 1))), (3, .int (iI (mn + 1))), (2, .int (iI (sm + (((C 2 c) - (C 2 (nb c i))).natAbs : Int)))), (5, .int (iI (nb c i))), (0, .ref (xa o 100)), (1, .int (iI c))]) 3 dX0_pull_57 rfl (by decide) rfl ?_
        refine g_goto F 7 dX0_pull_60 (by decide) ?_
        refine g_sub F (lv' := [(4, .int (iI (i + 1))), (3, .int (iI (mn + 1))), (2, .int (iI (sm + (((C 2 c) - (C 2 (nb c i))).natAbs : Int)))), (0, .ref (xa o 100)), (1, .int (iI c))]) [0, 1, 2, 4, 5] rfl ?_
        exact ih7 _ (by omega) (i + 1) (sm + (((C 2 c) - (C 2 (nb c i))).natAbs : Int)) (mn + 1) rfl (by omega) (by rw [sumI_s _ hi.1]; first | (rw [apt_pos (by omega)]; omega) | (rw [apt_neg (by omega)]; omega)) (by rw [sumI_s _ hi.1]; first | (rw [cnt1_pos (by omega)]; omega) | (rw [cnt1_neg (by omega)]; omega))
      · skip
        refine g_goto F 57 dX0_pull_31 (by decide) ?_
        refine g_iinc F (lv' := [(4, .int (iI (i + 1))), (5, .int (iI (nb c i))), (3, .int (iI mn)), (2, .int (iI sm)), (0, .ref (xa o 100)), (1, .int (iI c))]) 1 dX0_pull_57 rfl (by decide) rfl ?_
        refine g_goto F 7 dX0_pull_60 (by decide) ?_
        refine g_sub F (lv' := [(4, .int (iI (i + 1))), (3, .int (iI mn)), (2, .int (iI sm)), (0, .ref (xa o 100)), (1, .int (iI c))]) [0, 2, 3, 4, 5] rfl ?_
        exact ih7 _ (by omega) (i + 1) sm mn rfl (by omega) (by rw [sumI_s _ hi.1]; first | (rw [apt_pos (by omega)]; omega) | (rw [apt_neg (by omega)]; omega)) (by rw [sumI_s _ hi.1]; first | (rw [cnt1_pos (by omega)]; omega) | (rw [cnt1_neg (by omega)]; omega))
  refine g_sub F (lv' := [(4, .int (iI 0)), (3, .int (iI 0)), (2, .int (iI 0)), (0, .ref (xa o 100)), (1, .int (iI c))]) [0, 1, 2, 3, 4] rfl ?_
  exact L7 _ 0 0 0 rfl (by omega) (sumI_0 _).symm (sumI_0 _).symm
theorem k_X0_pull (κ : Kp) (xa : Nat → Nat → Nat) (X : XS) (o : Nat) (ho : o < 12) (c : Int) (h0 : 0 ≤ c ∧ c < 12) (ok : okA (cl (X o))) : mI κ yX0_pull cX0_pull 6 .int 1 [.ref (xa o 100), .int (iI c)] (xw κ xa X) (is1 (iI (pull (cl (X o)) c)) (xw κ xa X)) := by
  have h := kS_X0_pull κ xa X o ho (X o) c h0 ok
  rw [setO_self] at h
  exact h
theorem dX0_pullTogether_0 : decode cX0_pullTogether 0 = .ok (.iconst 0, 1) := by decide +kernel
theorem dX0_pullTogether_1 : decode cX0_pullTogether 1 = .ok (.istore_n 1, 1) := by decide +kernel
theorem dX0_pullTogether_2 : decode cX0_pullTogether 2 = .ok (.iconst 0, 1) := by decide +kernel
theorem dX0_pullTogether_3 : decode cX0_pullTogether 3 = .ok (.istore_n 2, 1) := by decide +kernel
theorem dX0_pullTogether_4 : decode cX0_pullTogether 4 = .ok (.iload_n 2, 1) := by decide +kernel
theorem dX0_pullTogether_5 : decode cX0_pullTogether 5 = .ok (.bipush 12, 2) := by decide +kernel
theorem dX0_pullTogether_7 : decode cX0_pullTogether 7 = .ok (.if_icmp .ge 17, 3) := by decide +kernel
theorem dX0_pullTogether_10 : decode cX0_pullTogether 10 = .ok (.iload_n 1, 1) := by decide +kernel
theorem dX0_pullTogether_11 : decode cX0_pullTogether 11 = .ok (.aload_n 0, 1) := by decide +kernel
theorem dX0_pullTogether_12 : decode cX0_pullTogether 12 = .ok (.iload_n 2, 1) := by decide +kernel
theorem dX0_pullTogether_13 : decode cX0_pullTogether 13 = .ok (.invokevirtual 60, 3) := by decide +kernel
theorem dX0_pullTogether_16 : decode cX0_pullTogether 16 = .ok (.iadd, 1) := by decide +kernel
theorem dX0_pullTogether_17 : decode cX0_pullTogether 17 = .ok (.istore_n 1, 1) := by decide +kernel
theorem dX0_pullTogether_18 : decode cX0_pullTogether 18 = .ok (.iinc 2 1, 3) := by decide +kernel
theorem dX0_pullTogether_21 : decode cX0_pullTogether 21 = .ok (.goto (-17), 3) := by decide +kernel
theorem dX0_pullTogether_24 : decode cX0_pullTogether 24 = .ok (.iload_n 1, 1) := by decide +kernel
theorem dX0_pullTogether_25 : decode cX0_pullTogether 25 = .ok (.ireturn, 1) := by decide +kernel
set_option maxRecDepth 100000 in
set_option maxHeartbeats 4000000 in
theorem kS_X0_pullTogether (κ : Kp) (xa : Nat → Nat → Nat) (X : XS) (o : Nat) (ho : o < 12) (C : MS)  (ok : okA (cl C)) : mI κ yX0_pullTogether cX0_pullTogether 3 .int 2 [.ref (xa o 100)] (xw κ xa (setO X o C)) (is1 (iI (allPull (cl C))) (xw κ xa (setO X o C))) := by
  refine mI_of (by decide) (Nat.le_of_ble_eq_true rfl) (fun E F K => ?_)
  refine g_lv (lv' := [(0, .ref (xa o 100))]) rfl ?_
  refine g_iconst F dX0_pullTogether_0 ?_
  refine g_istore_n F (lv' := [(1, .int (iI 0)), (0, .ref (xa o 100))]) 1 dX0_pullTogether_1 rfl (by decide) rfl ?_
  refine g_iconst F dX0_pullTogether_2 ?_
  refine g_istore_n F (lv' := [(2, .int (iI 0)), (1, .int (iI 0)), (0, .ref (xa o 100))]) 2 dX0_pullTogether_3 rfl (by decide) rfl ?_
  have L4 : ∀ (mz4 : Nat) (i : Int) (sm : Int), (12 - i).toNat = mz4 → (0 ≤ i ∧ i ≤ 12) → (sm = sumI (pull (cl C)) i) → G E (xw κ xa (setO X o C)) [(2, .int (iI i)), (1, .int (iI sm)), (0, .ref (xa o 100))] 4 [] := by
    intro mz4
    induction mz4 using Nat.strongRecOn with
    | _ mz4 ih4 =>
    intro i sm hmz4 hi hs
    refine g_iload_n F 0 dX0_pullTogether_4 rfl ?_
    refine g_bipush F dX0_pullTogether_5 (by decide +kernel) ?_
    refine g_icmp_ge F 24 (by omega) dX0_pullTogether_7 (by decide) (fun c7 => ?_) (fun c7 => ?_)
    · skip
      refine g_iload_n F 1 dX0_pullTogether_24 rfl ?_
      exact K xw_same ⟨congrArg iI (show sm = allPull (cl C) from by rw [hs, show i = 12 by omega]; rfl), rfl⟩ rfl dX0_pullTogether_25
    · skip
      refine g_iload_n F 1 dX0_pullTogether_10 rfl ?_
      refine g_aload_n F 2 dX0_pullTogether_11 rfl ?_
      refine g_iload_n F 0 dX0_pullTogether_12 rfl ?_
      refine g_callI F (stk := [.int (iI i), .ref (xa o 100), .int (iI sm)]) (st := [.int (iI sm)]) (kS_X0_pull κ xa X o ho C i (by omega) ok) cal_X0_pull lm_X0_60 (5 * o + 0) (xc_obj ho) rfl rfl rfl (by decide) rfl (Nat.le_of_ble_eq_true rfl) dX0_pullTogether_13 (fun r13 ws13 _ hr13 => ?_)
      obtain ⟨rfl, rfl⟩ := hr13
      refine g_iadd F dX0_pullTogether_16 ?_
      refine g_istore_n F (lv' := [(1, .int (iI (sm + (pull (cl C) i)))), (2, .int (iI i)), (0, .ref (xa o 100))]) 1 dX0_pullTogether_17 rfl (by decide) rfl ?_
      refine g_iinc F (lv' := [(2, .int (iI (i + 1))), (1, .int (iI (sm + (pull (cl C) i)))), (0, .ref (xa o 100))]) 1 dX0_pullTogether_18 rfl (by decide) rfl ?_
      refine g_goto F 4 dX0_pullTogether_21 (by decide) ?_
      refine g_sub F (lv' := [(2, .int (iI (i + 1))), (1, .int (iI (sm + (pull (cl C) i)))), (0, .ref (xa o 100))]) [0, 1, 2] rfl ?_
      exact ih4 _ (by omega) (i + 1) (sm + (pull (cl C) i)) rfl (by omega) (by rw [sumI_s _ hi.1, ← hs])
  refine g_sub F (lv' := [(2, .int (iI 0)), (1, .int (iI 0)), (0, .ref (xa o 100))]) [0, 1, 2] rfl ?_
  exact L4 _ 0 0 rfl (by omega) (sumI_0 _).symm
theorem k_X0_pullTogether (κ : Kp) (xa : Nat → Nat → Nat) (X : XS) (o : Nat) (ho : o < 12)  (ok : okA (cl (X o))) : mI κ yX0_pullTogether cX0_pullTogether 3 .int 2 [.ref (xa o 100)] (xw κ xa X) (is1 (iI (allPull (cl (X o)))) (xw κ xa X)) := by
  have h := kS_X0_pullTogether κ xa X o ho (X o) ok
  rw [setO_self] at h
  exact h
theorem dX0_ageTogether_0 : decode cX0_ageTogether 0 = .ok (.iconst 0, 1) := by decide +kernel
theorem dX0_ageTogether_1 : decode cX0_ageTogether 1 = .ok (.istore_n 1, 1) := by decide +kernel
theorem dX0_ageTogether_2 : decode cX0_ageTogether 2 = .ok (.iconst 0, 1) := by decide +kernel
theorem dX0_ageTogether_3 : decode cX0_ageTogether 3 = .ok (.istore_n 2, 1) := by decide +kernel
theorem dX0_ageTogether_4 : decode cX0_ageTogether 4 = .ok (.iload_n 2, 1) := by decide +kernel
theorem dX0_ageTogether_5 : decode cX0_ageTogether 5 = .ok (.bipush 12, 2) := by decide +kernel
theorem dX0_ageTogether_7 : decode cX0_ageTogether 7 = .ok (.if_icmp .ge 18, 3) := by decide +kernel
theorem dX0_ageTogether_10 : decode cX0_ageTogether 10 = .ok (.iload_n 1, 1) := by decide +kernel
theorem dX0_ageTogether_11 : decode cX0_ageTogether 11 = .ok (.aload_n 0, 1) := by decide +kernel
theorem dX0_ageTogether_12 : decode cX0_ageTogether 12 = .ok (.getfield 18, 3) := by decide +kernel
theorem dX0_ageTogether_15 : decode cX0_ageTogether 15 = .ok (.iload_n 2, 1) := by decide +kernel
theorem dX0_ageTogether_16 : decode cX0_ageTogether 16 = .ok (.iaload, 1) := by decide +kernel
theorem dX0_ageTogether_17 : decode cX0_ageTogether 17 = .ok (.iadd, 1) := by decide +kernel
theorem dX0_ageTogether_18 : decode cX0_ageTogether 18 = .ok (.istore_n 1, 1) := by decide +kernel
theorem dX0_ageTogether_19 : decode cX0_ageTogether 19 = .ok (.iinc 2 1, 3) := by decide +kernel
theorem dX0_ageTogether_22 : decode cX0_ageTogether 22 = .ok (.goto (-18), 3) := by decide +kernel
theorem dX0_ageTogether_25 : decode cX0_ageTogether 25 = .ok (.iload_n 1, 1) := by decide +kernel
theorem dX0_ageTogether_26 : decode cX0_ageTogether 26 = .ok (.ireturn, 1) := by decide +kernel
set_option maxRecDepth 100000 in
set_option maxHeartbeats 4000000 in
theorem kS_X0_ageTogether (κ : Kp) (xa : Nat → Nat → Nat) (X : XS) (o : Nat) (ho : o < 12) (C : MS)   : mI κ yX0_ageTogether cX0_ageTogether 3 .int 2 [.ref (xa o 100)] (xw κ xa (setO X o C)) (is1 (iI (allAge (cl C))) (xw κ xa (setO X o C))) := by
  refine mI_of (by decide) (Nat.le_of_ble_eq_true rfl) (fun E F K => ?_)
  refine g_lv (lv' := [(0, .ref (xa o 100))]) rfl ?_
  refine g_iconst F dX0_ageTogether_0 ?_
  refine g_istore_n F (lv' := [(1, .int (iI 0)), (0, .ref (xa o 100))]) 1 dX0_ageTogether_1 rfl (by decide) rfl ?_
  refine g_iconst F dX0_ageTogether_2 ?_
  refine g_istore_n F (lv' := [(2, .int (iI 0)), (1, .int (iI 0)), (0, .ref (xa o 100))]) 2 dX0_ageTogether_3 rfl (by decide) rfl ?_
  have L4 : ∀ (mz4 : Nat) (i : Int) (sm : Int), (12 - i).toNat = mz4 → (0 ≤ i ∧ i ≤ 12) → (sm = sumI (C 2) i) → G E (xw κ xa (setO X o C)) [(2, .int (iI i)), (1, .int (iI sm)), (0, .ref (xa o 100))] 4 [] := by
    intro mz4
    induction mz4 using Nat.strongRecOn with
    | _ mz4 ih4 =>
    intro i sm hmz4 hi hs
    refine g_iload_n F 0 dX0_ageTogether_4 rfl ?_
    refine g_bipush F dX0_ageTogether_5 (by decide +kernel) ?_
    refine g_icmp_ge F 25 (by omega) dX0_ageTogether_7 (by decide) (fun c7 => ?_) (fun c7 => ?_)
    · skip
      refine g_iload_n F 1 dX0_ageTogether_25 rfl ?_
      exact K xw_same ⟨congrArg iI (show sm = allAge (cl C) from by rw [hs, show i = 12 by omega]; rfl), rfl⟩ rfl dX0_ageTogether_26
    · skip
      refine g_iload_n F 1 dX0_ageTogether_10 rfl ?_
      refine g_aload_n F 2 dX0_ageTogether_11 rfl ?_
      refine gcS_get_2 F ho lf_X0_18 dX0_ageTogether_12 ?_
      refine g_iload_n F 0 dX0_ageTogether_15 rfl ?_
      refine gcS_ald_2 F ho (by omega) dX0_ageTogether_16 ?_
      refine g_top (y := iI (C 2 i)) rfl ?_
      refine g_iadd F dX0_ageTogether_17 ?_
      refine g_istore_n F (lv' := [(1, .int (iI (sm + (C 2 i)))), (2, .int (iI i)), (0, .ref (xa o 100))]) 1 dX0_ageTogether_18 rfl (by decide) rfl ?_
      refine g_iinc F (lv' := [(2, .int (iI (i + 1))), (1, .int (iI (sm + (C 2 i)))), (0, .ref (xa o 100))]) 1 dX0_ageTogether_19 rfl (by decide) rfl ?_
      refine g_goto F 4 dX0_ageTogether_22 (by decide) ?_
      refine g_sub F (lv' := [(2, .int (iI (i + 1))), (1, .int (iI (sm + (C 2 i)))), (0, .ref (xa o 100))]) [0, 1, 2] rfl ?_
      exact ih4 _ (by omega) (i + 1) (sm + (C 2 i)) rfl (by omega) (by rw [sumI_s _ hi.1, ← hs])
  refine g_sub F (lv' := [(2, .int (iI 0)), (1, .int (iI 0)), (0, .ref (xa o 100))]) [0, 1, 2] rfl ?_
  exact L4 _ 0 0 rfl (by omega) (sumI_0 _).symm
theorem k_X0_ageTogether (κ : Kp) (xa : Nat → Nat → Nat) (X : XS) (o : Nat) (ho : o < 12)   : mI κ yX0_ageTogether cX0_ageTogether 3 .int 2 [.ref (xa o 100)] (xw κ xa X) (is1 (iI (allAge (cl (X o)))) (xw κ xa X)) := by
  have h := kS_X0_ageTogether κ xa X o ho (X o) 
  rw [setO_self] at h
  exact h
theorem dX0_wearTogether_0 : decode cX0_wearTogether 0 = .ok (.iconst 0, 1) := by decide +kernel
theorem dX0_wearTogether_1 : decode cX0_wearTogether 1 = .ok (.istore_n 1, 1) := by decide +kernel
theorem dX0_wearTogether_2 : decode cX0_wearTogether 2 = .ok (.iconst 0, 1) := by decide +kernel
theorem dX0_wearTogether_3 : decode cX0_wearTogether 3 = .ok (.istore_n 2, 1) := by decide +kernel
theorem dX0_wearTogether_4 : decode cX0_wearTogether 4 = .ok (.iload_n 2, 1) := by decide +kernel
theorem dX0_wearTogether_5 : decode cX0_wearTogether 5 = .ok (.bipush 12, 2) := by decide +kernel
theorem dX0_wearTogether_7 : decode cX0_wearTogether 7 = .ok (.if_icmp .ge 18, 3) := by decide +kernel
theorem dX0_wearTogether_10 : decode cX0_wearTogether 10 = .ok (.iload_n 1, 1) := by decide +kernel
theorem dX0_wearTogether_11 : decode cX0_wearTogether 11 = .ok (.aload_n 0, 1) := by decide +kernel
theorem dX0_wearTogether_12 : decode cX0_wearTogether 12 = .ok (.getfield 21, 3) := by decide +kernel
theorem dX0_wearTogether_15 : decode cX0_wearTogether 15 = .ok (.iload_n 2, 1) := by decide +kernel
theorem dX0_wearTogether_16 : decode cX0_wearTogether 16 = .ok (.iaload, 1) := by decide +kernel
theorem dX0_wearTogether_17 : decode cX0_wearTogether 17 = .ok (.iadd, 1) := by decide +kernel
theorem dX0_wearTogether_18 : decode cX0_wearTogether 18 = .ok (.istore_n 1, 1) := by decide +kernel
theorem dX0_wearTogether_19 : decode cX0_wearTogether 19 = .ok (.iinc 2 1, 3) := by decide +kernel
theorem dX0_wearTogether_22 : decode cX0_wearTogether 22 = .ok (.goto (-18), 3) := by decide +kernel
theorem dX0_wearTogether_25 : decode cX0_wearTogether 25 = .ok (.iload_n 1, 1) := by decide +kernel
theorem dX0_wearTogether_26 : decode cX0_wearTogether 26 = .ok (.ireturn, 1) := by decide +kernel
set_option maxRecDepth 100000 in
set_option maxHeartbeats 4000000 in
theorem kS_X0_wearTogether (κ : Kp) (xa : Nat → Nat → Nat) (X : XS) (o : Nat) (ho : o < 12) (C : MS)   : mI κ yX0_wearTogether cX0_wearTogether 3 .int 2 [.ref (xa o 100)] (xw κ xa (setO X o C)) (is1 (iI (allWear (cl C))) (xw κ xa (setO X o C))) := by
  refine mI_of (by decide) (Nat.le_of_ble_eq_true rfl) (fun E F K => ?_)
  refine g_lv (lv' := [(0, .ref (xa o 100))]) rfl ?_
  refine g_iconst F dX0_wearTogether_0 ?_
  refine g_istore_n F (lv' := [(1, .int (iI 0)), (0, .ref (xa o 100))]) 1 dX0_wearTogether_1 rfl (by decide) rfl ?_
  refine g_iconst F dX0_wearTogether_2 ?_
  refine g_istore_n F (lv' := [(2, .int (iI 0)), (1, .int (iI 0)), (0, .ref (xa o 100))]) 2 dX0_wearTogether_3 rfl (by decide) rfl ?_
  have L4 : ∀ (mz4 : Nat) (i : Int) (sm : Int), (12 - i).toNat = mz4 → (0 ≤ i ∧ i ≤ 12) → (sm = sumI (C 3) i) → G E (xw κ xa (setO X o C)) [(2, .int (iI i)), (1, .int (iI sm)), (0, .ref (xa o 100))] 4 [] := by
    intro mz4
    induction mz4 using Nat.strongRecOn with
    | _ mz4 ih4 =>
    intro i sm hmz4 hi hs
    refine g_iload_n F 0 dX0_wearTogether_4 rfl ?_
    refine g_bipush F dX0_wearTogether_5 (by decide +kernel) ?_
    refine g_icmp_ge F 25 (by omega) dX0_wearTogether_7 (by decide) (fun c7 => ?_) (fun c7 => ?_)
    · skip
      refine g_iload_n F 1 dX0_wearTogether_25 rfl ?_
      exact K xw_same ⟨congrArg iI (show sm = allWear (cl C) from by rw [hs, show i = 12 by omega]; rfl), rfl⟩ rfl dX0_wearTogether_26
    · skip
      refine g_iload_n F 1 dX0_wearTogether_10 rfl ?_
      refine g_aload_n F 2 dX0_wearTogether_11 rfl ?_
      refine gcS_get_3 F ho lf_X0_21 dX0_wearTogether_12 ?_
      refine g_iload_n F 0 dX0_wearTogether_15 rfl ?_
      refine gcS_ald_3 F ho (by omega) dX0_wearTogether_16 ?_
      refine g_top (y := iI (C 3 i)) rfl ?_
      refine g_iadd F dX0_wearTogether_17 ?_
      refine g_istore_n F (lv' := [(1, .int (iI (sm + (C 3 i)))), (2, .int (iI i)), (0, .ref (xa o 100))]) 1 dX0_wearTogether_18 rfl (by decide) rfl ?_
      refine g_iinc F (lv' := [(2, .int (iI (i + 1))), (1, .int (iI (sm + (C 3 i)))), (0, .ref (xa o 100))]) 1 dX0_wearTogether_19 rfl (by decide) rfl ?_
      refine g_goto F 4 dX0_wearTogether_22 (by decide) ?_
      refine g_sub F (lv' := [(2, .int (iI (i + 1))), (1, .int (iI (sm + (C 3 i)))), (0, .ref (xa o 100))]) [0, 1, 2] rfl ?_
      exact ih4 _ (by omega) (i + 1) (sm + (C 3 i)) rfl (by omega) (by rw [sumI_s _ hi.1, ← hs])
  refine g_sub F (lv' := [(2, .int (iI 0)), (1, .int (iI 0)), (0, .ref (xa o 100))]) [0, 1, 2] rfl ?_
  exact L4 _ 0 0 rfl (by omega) (sumI_0 _).symm
theorem k_X0_wearTogether (κ : Kp) (xa : Nat → Nat → Nat) (X : XS) (o : Nat) (ho : o < 12)   : mI κ yX0_wearTogether cX0_wearTogether 3 .int 2 [.ref (xa o 100)] (xw κ xa X) (is1 (iI (allWear (cl (X o)))) (xw κ xa X)) := by
  have h := kS_X0_wearTogether κ xa X o ho (X o) 
  rw [setO_self] at h
  exact h
theorem dX0_wearing_0 : decode cX0_wearing 0 = .ok (.iconst 1, 1) := by decide +kernel
theorem dX0_wearing_1 : decode cX0_wearing 1 = .ok (.aload_n 0, 1) := by decide +kernel
theorem dX0_wearing_2 : decode cX0_wearing 2 = .ok (.iload_n 1, 1) := by decide +kernel
theorem dX0_wearing_3 : decode cX0_wearing 3 = .ok (.invokevirtual 60, 3) := by decide +kernel
theorem dX0_wearing_6 : decode cX0_wearing 6 = .ok (.iconst 5, 1) := by decide +kernel
theorem dX0_wearing_7 : decode cX0_wearing 7 = .ok (.idiv, 1) := by decide +kernel
theorem dX0_wearing_8 : decode cX0_wearing 8 = .ok (.iadd, 1) := by decide +kernel
theorem dX0_wearing_9 : decode cX0_wearing 9 = .ok (.istore_n 2, 1) := by decide +kernel
theorem dX0_wearing_10 : decode cX0_wearing 10 = .ok (.aload_n 0, 1) := by decide +kernel
theorem dX0_wearing_11 : decode cX0_wearing 11 = .ok (.getfield 9, 3) := by decide +kernel
theorem dX0_wearing_14 : decode cX0_wearing 14 = .ok (.iload_n 1, 1) := by decide +kernel
theorem dX0_wearing_15 : decode cX0_wearing 15 = .ok (.iaload, 1) := by decide +kernel
theorem dX0_wearing_16 : decode cX0_wearing 16 = .ok (.tableswitch 57 2 5 #[32, 36, 57, 53], 32) := by decide +kernel
theorem dX0_wearing_48 : decode cX0_wearing 48 = .ok (.iload_n 2, 1) := by decide +kernel
theorem dX0_wearing_49 : decode cX0_wearing 49 = .ok (.iconst 1, 1) := by decide +kernel
theorem dX0_wearing_50 : decode cX0_wearing 50 = .ok (.iadd, 1) := by decide +kernel
theorem dX0_wearing_51 : decode cX0_wearing 51 = .ok (.ireturn, 1) := by decide +kernel
theorem dX0_wearing_52 : decode cX0_wearing 52 = .ok (.aload_n 0, 1) := by decide +kernel
theorem dX0_wearing_53 : decode cX0_wearing 53 = .ok (.getfield 30, 3) := by decide +kernel
theorem dX0_wearing_56 : decode cX0_wearing 56 = .ok (.iconst 1, 1) := by decide +kernel
theorem dX0_wearing_57 : decode cX0_wearing 57 = .ok (.iadd, 1) := by decide +kernel
theorem dX0_wearing_58 : decode cX0_wearing 58 = .ok (.iconst 2, 1) := by decide +kernel
theorem dX0_wearing_59 : decode cX0_wearing 59 = .ok (.irem, 1) := by decide +kernel
theorem dX0_wearing_60 : decode cX0_wearing 60 = .ok (.ifCond .ne 7, 3) := by decide +kernel
theorem dX0_wearing_63 : decode cX0_wearing 63 = .ok (.iconst 0, 1) := by decide +kernel
theorem dX0_wearing_64 : decode cX0_wearing 64 = .ok (.goto 4, 3) := by decide +kernel
theorem dX0_wearing_67 : decode cX0_wearing 67 = .ok (.iload_n 2, 1) := by decide +kernel
theorem dX0_wearing_68 : decode cX0_wearing 68 = .ok (.ireturn, 1) := by decide +kernel
theorem dX0_wearing_69 : decode cX0_wearing 69 = .ok (.iload_n 2, 1) := by decide +kernel
theorem dX0_wearing_70 : decode cX0_wearing 70 = .ok (.iconst 1, 1) := by decide +kernel
theorem dX0_wearing_71 : decode cX0_wearing 71 = .ok (.isub, 1) := by decide +kernel
theorem dX0_wearing_72 : decode cX0_wearing 72 = .ok (.ireturn, 1) := by decide +kernel
theorem dX0_wearing_73 : decode cX0_wearing 73 = .ok (.iload_n 2, 1) := by decide +kernel
theorem dX0_wearing_74 : decode cX0_wearing 74 = .ok (.ireturn, 1) := by decide +kernel
set_option maxRecDepth 100000 in
set_option maxHeartbeats 4000000 in
theorem kS_X0_wearing (κ : Kp) (xa : Nat → Nat → Nat) (X : XS) (o : Nat) (ho : o < 12) (C : MS) (c : Int)  (h0 : 0 ≤ c ∧ c < 12) (hy : 0 ≤ C 4 0 ∧ C 4 0 < 1000000) (ok : okA (cl C)) : mI κ yX0_wearing cX0_wearing 3 .int 2 [.ref (xa o 100), .int (iI c)] (xw κ xa (setO X o C)) (is1 (iI (wearing (cl C) (C 4 0 + 1) c)) (xw κ xa (setO X o C))) := by
  refine mI_of (by decide) (Nat.le_of_ble_eq_true rfl) (fun E F K => ?_)
  refine g_lv (lv' := [(0, .ref (xa o 100)), (1, .int (iI c))]) rfl ?_
  refine g_iconst F dX0_wearing_0 ?_
  refine g_aload_n F 0 dX0_wearing_1 rfl ?_
  refine g_iload_n F 1 dX0_wearing_2 rfl ?_
  refine g_callI F (stk := [.int (iI c), .ref (xa o 100), .int (iI 1)]) (st := [.int (iI 1)]) (kS_X0_pull κ xa X o ho C c (by omega) ok) cal_X0_pull lm_X0_60 (5 * o + 0) (xc_obj ho) rfl rfl rfl (by decide) rfl (Nat.le_of_ble_eq_true rfl) dX0_wearing_3 (fun r3 ws3 _ hr3 => ?_)
  obtain ⟨rfl, rfl⟩ := hr3
  have hp := pull_bd ok h0.1 h0.2
  refine g_iconst F dX0_wearing_6 ?_
  refine g_idiv F dX0_wearing_7 (by omega) ?_
  refine g_iadd F dX0_wearing_8 ?_
  refine g_istore_n F (lv' := [(2, .int (iI (1 + ((pull (cl C) c) / 5)))), (0, .ref (xa o 100)), (1, .int (iI c))]) 2 dX0_wearing_9 rfl (by decide) rfl ?_
  refine g_aload_n F 1 dX0_wearing_10 rfl ?_
  refine gcS_get_0 F ho lf_X0_9 dX0_wearing_11 ?_
  refine g_iload_n F 2 dX0_wearing_14 rfl ?_
  refine gcS_ald_0 F ho (by omega) dX0_wearing_15 ?_
  refine g_top (y := iI (C 0 c)) rfl ?_
  have hk : (0 ≤ C 0 c ∧ C 0 c ≤ 5) ∧ (0 ≤ C 1 c ∧ C 1 c ≤ 9) ∧ 0 ≤ C 2 c ∧ C 2 c ≤ 99 := ok c (by omega) (by omega)
  by_cases c16_2 : (C 0 c) = 2
  · skip
    refine g_tsw_in F 48 (by omega) dX0_wearing_16 (by omega) (by omega) (by rw [c16_2]; rfl) (by decide) ?_
    refine g_iload_n F 0 dX0_wearing_48 rfl ?_
    refine g_iconst F dX0_wearing_49 ?_
    refine g_iadd F dX0_wearing_50 ?_
    exact K xw_same ⟨congrArg iI (show (1 + ((pull (cl C) c) / 5)) + 1 = wearing (cl C) (C 4 0 + 1) c from by unfold wearing; rw [if_pos c16_2]; omega), rfl⟩ rfl dX0_wearing_51
  by_cases c16_3 : (C 0 c) = 3
  · skip
    refine g_tsw_in F 52 (by omega) dX0_wearing_16 (by omega) (by omega) (by rw [c16_3]; rfl) (by decide) ?_
    refine g_aload_n F 1 dX0_wearing_52 rfl ?_
    refine gcS_get_4 F ho lf_X0_30 dX0_wearing_53 ?_
    refine g_top (y := iI (C 4 0)) rfl ?_
    refine g_iconst F dX0_wearing_56 ?_
    refine g_iadd F dX0_wearing_57 ?_
    refine g_iconst F dX0_wearing_58 ?_
    refine g_irem F dX0_wearing_59 (by omega) ?_
    refine g_if_ne F 67 (by omega) dX0_wearing_60 (by decide) (fun c60 => ?_) (fun c60 => ?_)
    · skip
      refine g_iload_n F 0 dX0_wearing_67 rfl ?_
      exact K xw_same ⟨congrArg iI (show 1 + ((pull (cl C) c) / 5) = wearing (cl C) (C 4 0 + 1) c from by unfold wearing; first | (rw [if_neg c16_2, if_pos c16_3, if_neg c60]) | (rw [if_neg c16_2, if_pos c16_3, if_pos c60])), rfl⟩ rfl dX0_wearing_68
    · skip
      refine g_iconst F dX0_wearing_63 ?_
      refine g_goto F 68 dX0_wearing_64 (by decide) ?_
      exact K xw_same ⟨congrArg iI (show 0 = wearing (cl C) (C 4 0 + 1) c from by unfold wearing; first | (rw [if_neg c16_2, if_pos c16_3, if_neg c60]) | (rw [if_neg c16_2, if_pos c16_3, if_pos c60])), rfl⟩ rfl dX0_wearing_68
  by_cases c16_5 : (C 0 c) = 5
  · skip
    refine g_tsw_in F 69 (by omega) dX0_wearing_16 (by omega) (by omega) (by rw [c16_5]; rfl) (by decide) ?_
    refine g_iload_n F 0 dX0_wearing_69 rfl ?_
    refine g_iconst F dX0_wearing_70 ?_
    refine g_isub F dX0_wearing_71 ?_
    exact K xw_same ⟨congrArg iI (show (1 + ((pull (cl C) c) / 5)) - 1 = wearing (cl C) (C 4 0 + 1) c from by unfold wearing; rw [if_neg c16_2, if_neg c16_3, if_pos c16_5]; omega), rfl⟩ rfl dX0_wearing_72
  by_cases c16_4 : (C 0 c) = 4
  · skip
    refine g_tsw_in F 73 (by omega) dX0_wearing_16 (by omega) (by omega) (by rw [c16_4]; rfl) (by decide) ?_
    refine g_iload_n F 0 dX0_wearing_73 rfl ?_
    exact K xw_same ⟨congrArg iI (show 1 + ((pull (cl C) c) / 5) = wearing (cl C) (C 4 0 + 1) c from by unfold wearing; rw [if_neg c16_2, if_neg c16_3, if_neg c16_5]), rfl⟩ rfl dX0_wearing_74
  refine g_tsw_out F 73 (by omega) dX0_wearing_16 (by omega) (by decide) ?_
  refine g_iload_n F 0 dX0_wearing_73 rfl ?_
  exact K xw_same ⟨congrArg iI (show 1 + ((pull (cl C) c) / 5) = wearing (cl C) (C 4 0 + 1) c from by unfold wearing; rw [if_neg c16_2, if_neg c16_3, if_neg c16_5]), rfl⟩ rfl dX0_wearing_74
theorem k_X0_wearing (κ : Kp) (xa : Nat → Nat → Nat) (X : XS) (o : Nat) (ho : o < 12) (c : Int) (h0 : 0 ≤ c ∧ c < 12) (hy : 0 ≤ (X o) 4 0 ∧ (X o) 4 0 < 1000000) (ok : okA (cl (X o))) : mI κ yX0_wearing cX0_wearing 3 .int 2 [.ref (xa o 100), .int (iI c)] (xw κ xa X) (is1 (iI (wearing (cl (X o)) ((X o) 4 0 + 1) c)) (xw κ xa X)) := by
  have h := kS_X0_wearing κ xa X o ho (X o) c h0 hy ok
  rw [setO_self] at h
  exact h
theorem dX0_hold_0 : decode cX0_hold 0 = .ok (.bipush 10, 2) := by decide +kernel
theorem dX0_hold_2 : decode cX0_hold 2 = .ok (.aload_n 0, 1) := by decide +kernel
theorem dX0_hold_3 : decode cX0_hold 3 = .ok (.getfield 15, 3) := by decide +kernel
theorem dX0_hold_6 : decode cX0_hold 6 = .ok (.iload_n 1, 1) := by decide +kernel
theorem dX0_hold_7 : decode cX0_hold 7 = .ok (.iaload, 1) := by decide +kernel
theorem dX0_hold_8 : decode cX0_hold 8 = .ok (.iadd, 1) := by decide +kernel
theorem dX0_hold_9 : decode cX0_hold 9 = .ok (.istore_n 2, 1) := by decide +kernel
theorem dX0_hold_10 : decode cX0_hold 10 = .ok (.aload_n 0, 1) := by decide +kernel
theorem dX0_hold_11 : decode cX0_hold 11 = .ok (.getfield 9, 3) := by decide +kernel
theorem dX0_hold_14 : decode cX0_hold 14 = .ok (.iload_n 1, 1) := by decide +kernel
theorem dX0_hold_15 : decode cX0_hold 15 = .ok (.iaload, 1) := by decide +kernel
theorem dX0_hold_16 : decode cX0_hold 16 = .ok (.tableswitch 49 1 5 #[36, 40, 36, 44, 46], 36) := by decide +kernel
theorem dX0_hold_52 : decode cX0_hold 52 = .ok (.iload_n 2, 1) := by decide +kernel
theorem dX0_hold_53 : decode cX0_hold 53 = .ok (.iconst 5, 1) := by decide +kernel
theorem dX0_hold_54 : decode cX0_hold 54 = .ok (.iadd, 1) := by decide +kernel
theorem dX0_hold_55 : decode cX0_hold 55 = .ok (.ireturn, 1) := by decide +kernel
theorem dX0_hold_56 : decode cX0_hold 56 = .ok (.iload_n 2, 1) := by decide +kernel
theorem dX0_hold_57 : decode cX0_hold 57 = .ok (.iconst 2, 1) := by decide +kernel
theorem dX0_hold_58 : decode cX0_hold 58 = .ok (.idiv, 1) := by decide +kernel
theorem dX0_hold_59 : decode cX0_hold 59 = .ok (.ireturn, 1) := by decide +kernel
theorem dX0_hold_60 : decode cX0_hold 60 = .ok (.iconst 5, 1) := by decide +kernel
theorem dX0_hold_61 : decode cX0_hold 61 = .ok (.ireturn, 1) := by decide +kernel
theorem dX0_hold_62 : decode cX0_hold 62 = .ok (.bipush 10, 2) := by decide +kernel
theorem dX0_hold_64 : decode cX0_hold 64 = .ok (.ireturn, 1) := by decide +kernel
theorem dX0_hold_65 : decode cX0_hold 65 = .ok (.iload_n 2, 1) := by decide +kernel
theorem dX0_hold_66 : decode cX0_hold 66 = .ok (.ireturn, 1) := by decide +kernel
set_option maxRecDepth 100000 in
set_option maxHeartbeats 4000000 in
theorem kS_X0_hold (κ : Kp) (xa : Nat → Nat → Nat) (X : XS) (o : Nat) (ho : o < 12) (C : MS) (c : Int)  (h0 : 0 ≤ c ∧ c < 12) (ok : okA (cl C)) : mI κ yX0_hold cX0_hold 3 .int 0 [.ref (xa o 100), .int (iI c)] (xw κ xa (setO X o C)) (is1 (iI (hold (cl C) c)) (xw κ xa (setO X o C))) := by
  refine mI_of (by decide) (Nat.le_of_ble_eq_true rfl) (fun E F K => ?_)
  refine g_lv (lv' := [(0, .ref (xa o 100)), (1, .int (iI c))]) rfl ?_
  refine g_bipush F dX0_hold_0 (by decide +kernel) ?_
  refine g_aload_n F 0 dX0_hold_2 rfl ?_
  refine gcS_get_1 F ho lf_X0_15 dX0_hold_3 ?_
  refine g_iload_n F 1 dX0_hold_6 rfl ?_
  refine gcS_ald_1 F ho (by omega) dX0_hold_7 ?_
  refine g_top (y := iI (C 1 c)) rfl ?_
  have hk : (0 ≤ C 0 c ∧ C 0 c ≤ 5) ∧ (0 ≤ C 1 c ∧ C 1 c ≤ 9) ∧ 0 ≤ C 2 c ∧ C 2 c ≤ 99 := ok c (by omega) (by omega)
  refine g_iadd F dX0_hold_8 ?_
  refine g_istore_n F (lv' := [(2, .int (iI (10 + (C 1 c)))), (0, .ref (xa o 100)), (1, .int (iI c))]) 2 dX0_hold_9 rfl (by decide) rfl ?_
  refine g_aload_n F 1 dX0_hold_10 rfl ?_
  refine gcS_get_0 F ho lf_X0_9 dX0_hold_11 ?_
  refine g_iload_n F 2 dX0_hold_14 rfl ?_
  refine gcS_ald_0 F ho (by omega) dX0_hold_15 ?_
  refine g_top (y := iI (C 0 c)) rfl ?_
  by_cases c16_1 : (C 0 c) = 1
  · skip
    refine g_tsw_in F 52 (by omega) dX0_hold_16 (by omega) (by omega) (by rw [c16_1]; rfl) (by decide) ?_
    refine g_iload_n F 0 dX0_hold_52 rfl ?_
    refine g_iconst F dX0_hold_53 ?_
    refine g_iadd F dX0_hold_54 ?_
    exact K xw_same ⟨congrArg iI (show (10 + (C 1 c)) + 5 = hold (cl C) c from by unfold hold; first | (rw [if_pos (Or.inl c16_1)]; show 10 + C 1 c + 5 = 15 + C 1 c; omega) | (rw [if_pos (Or.inr c16_3)]; show 10 + C 1 c + 5 = 15 + C 1 c; omega)), rfl⟩ rfl dX0_hold_55
  by_cases c16_2 : (C 0 c) = 2
  · skip
    refine g_tsw_in F 56 (by omega) dX0_hold_16 (by omega) (by omega) (by rw [c16_2]; rfl) (by decide) ?_
    refine g_iload_n F 0 dX0_hold_56 rfl ?_
    refine g_iconst F dX0_hold_57 ?_
    refine g_idiv F dX0_hold_58 (by omega) ?_
    exact K xw_same ⟨congrArg iI (show (10 + (C 1 c)) / 2 = hold (cl C) c from by unfold hold; rw [if_neg (by show ¬ (C 0 c = 1 ∨ C 0 c = 3); omega), if_pos c16_2]), rfl⟩ rfl dX0_hold_59
  by_cases c16_3 : (C 0 c) = 3
  · skip
    refine g_tsw_in F 52 (by omega) dX0_hold_16 (by omega) (by omega) (by rw [c16_3]; rfl) (by decide) ?_
    refine g_iload_n F 0 dX0_hold_52 rfl ?_
    refine g_iconst F dX0_hold_53 ?_
    refine g_iadd F dX0_hold_54 ?_
    exact K xw_same ⟨congrArg iI (show (10 + (C 1 c)) + 5 = hold (cl C) c from by unfold hold; first | (rw [if_pos (Or.inl c16_1)]; show 10 + C 1 c + 5 = 15 + C 1 c; omega) | (rw [if_pos (Or.inr c16_3)]; show 10 + C 1 c + 5 = 15 + C 1 c; omega)), rfl⟩ rfl dX0_hold_55
  by_cases c16_4 : (C 0 c) = 4
  · skip
    refine g_tsw_in F 60 (by omega) dX0_hold_16 (by omega) (by omega) (by rw [c16_4]; rfl) (by decide) ?_
    refine g_iconst F dX0_hold_60 ?_
    exact K xw_same ⟨congrArg iI (show 5 = hold (cl C) c from by unfold hold; rw [if_neg (by show ¬ (C 0 c = 1 ∨ C 0 c = 3); omega), if_neg c16_2, if_pos c16_4]), rfl⟩ rfl dX0_hold_61
  by_cases c16_5 : (C 0 c) = 5
  · skip
    refine g_tsw_in F 62 (by omega) dX0_hold_16 (by omega) (by omega) (by rw [c16_5]; rfl) (by decide) ?_
    refine g_bipush F dX0_hold_62 (by decide +kernel) ?_
    exact K xw_same ⟨congrArg iI (show 10 = hold (cl C) c from by unfold hold; rw [if_neg (by show ¬ (C 0 c = 1 ∨ C 0 c = 3); omega), if_neg c16_2, if_neg c16_4, if_pos c16_5]), rfl⟩ rfl dX0_hold_64
  refine g_tsw_out F 65 (by omega) dX0_hold_16 (by omega) (by decide) ?_
  refine g_iload_n F 0 dX0_hold_65 rfl ?_
  exact K xw_same ⟨congrArg iI (show 10 + (C 1 c) = hold (cl C) c from by unfold hold; rw [if_neg (by show ¬ (C 0 c = 1 ∨ C 0 c = 3); omega), if_neg c16_2, if_neg c16_4, if_neg c16_5]), rfl⟩ rfl dX0_hold_66
theorem k_X0_hold (κ : Kp) (xa : Nat → Nat → Nat) (X : XS) (o : Nat) (ho : o < 12) (c : Int) (h0 : 0 ≤ c ∧ c < 12) (ok : okA (cl (X o))) : mI κ yX0_hold cX0_hold 3 .int 0 [.ref (xa o 100), .int (iI c)] (xw κ xa X) (is1 (iI (hold (cl (X o)) c)) (xw κ xa X)) := by
  have h := kS_X0_hold κ xa X o ho (X o) c h0 ok
  rw [setO_self] at h
  exact h
theorem dX0_isHole_0 : decode cX0_isHole 0 = .ok (.aload_n 0, 1) := by decide +kernel
theorem dX0_isHole_1 : decode cX0_isHole 1 = .ok (.getfield 21, 3) := by decide +kernel
theorem dX0_isHole_4 : decode cX0_isHole 4 = .ok (.iload_n 1, 1) := by decide +kernel
theorem dX0_isHole_5 : decode cX0_isHole 5 = .ok (.iaload, 1) := by decide +kernel
theorem dX0_isHole_6 : decode cX0_isHole 6 = .ok (.aload_n 0, 1) := by decide +kernel
theorem dX0_isHole_7 : decode cX0_isHole 7 = .ok (.iload_n 1, 1) := by decide +kernel
theorem dX0_isHole_8 : decode cX0_isHole 8 = .ok (.invokevirtual 63, 3) := by decide +kernel
theorem dX0_isHole_11 : decode cX0_isHole 11 = .ok (.if_icmp .lt 7, 3) := by decide +kernel
theorem dX0_isHole_14 : decode cX0_isHole 14 = .ok (.iconst 1, 1) := by decide +kernel
theorem dX0_isHole_15 : decode cX0_isHole 15 = .ok (.goto 4, 3) := by decide +kernel
theorem dX0_isHole_18 : decode cX0_isHole 18 = .ok (.iconst 0, 1) := by decide +kernel
theorem dX0_isHole_19 : decode cX0_isHole 19 = .ok (.ireturn, 1) := by decide +kernel
set_option maxRecDepth 100000 in
set_option maxHeartbeats 4000000 in
theorem kS_X0_isHole (κ : Kp) (xa : Nat → Nat → Nat) (X : XS) (o : Nat) (ho : o < 12) (C : MS) (c : Int)  (h0 : 0 ≤ c ∧ c < 12) (ok : okC (cl C)) : mI κ yX0_isHole cX0_isHole 2 .boolean 1 [.ref (xa o 100), .int (iI c)] (xw κ xa (setO X o C)) (is1 (iI (b2i (hole (cl C) c))) (xw κ xa (setO X o C))) := by
  refine mI_of (by decide) (Nat.le_of_ble_eq_true rfl) (fun E F K => ?_)
  refine g_lv (lv' := [(0, .ref (xa o 100)), (1, .int (iI c))]) rfl ?_
  refine g_aload_n F 0 dX0_isHole_0 rfl ?_
  refine gcS_get_3 F ho lf_X0_21 dX0_isHole_1 ?_
  refine g_iload_n F 1 dX0_isHole_4 rfl ?_
  refine gcS_ald_3 F ho (by omega) dX0_isHole_5 ?_
  refine g_top (y := iI (C 3 c)) rfl ?_
  refine g_aload_n F 0 dX0_isHole_6 rfl ?_
  refine g_iload_n F 1 dX0_isHole_7 rfl ?_
  refine g_callI F (stk := [.int (iI c), .ref (xa o 100), .int (iI (C 3 c))]) (st := [.int (iI (C 3 c))]) (kS_X0_hold κ xa X o ho C c (by omega) ok.A) cal_X0_hold lm_X0_63 (5 * o + 0) (xc_obj ho) rfl rfl rfl (by decide) rfl (Nat.le_of_ble_eq_true rfl) dX0_isHole_8 (fun r8 ws8 _ hr8 => ?_)
  obtain ⟨rfl, rfl⟩ := hr8
  have hk : (0 ≤ C 0 c ∧ C 0 c ≤ 5) ∧ (0 ≤ C 1 c ∧ C 1 c ≤ 9) ∧ (0 ≤ C 2 c ∧ C 2 c ≤ 99) ∧ 0 ≤ C 3 c ∧ C 3 c ≤ 99 := ok.r (by omega) (by omega)
  have hd := hold_bd ok.A h0.1 h0.2
  refine g_icmp_lt F 18 (by omega) dX0_isHole_11 (by decide) (fun c11 => ?_) (fun c11 => ?_)
  · skip
    refine g_iconst F dX0_isHole_18 ?_
    exact K xw_same ⟨b2i_0 (show ¬ hold (cl C) c ≤ C 3 c by omega), rfl⟩ (by decide +kernel) dX0_isHole_19
  · skip
    refine g_iconst F dX0_isHole_14 ?_
    refine g_goto F 19 dX0_isHole_15 (by decide) ?_
    exact K xw_same ⟨b2i_1 (show hold (cl C) c ≤ C 3 c by omega), rfl⟩ (by decide +kernel) dX0_isHole_19
theorem k_X0_isHole (κ : Kp) (xa : Nat → Nat → Nat) (X : XS) (o : Nat) (ho : o < 12) (c : Int) (h0 : 0 ≤ c ∧ c < 12) (ok : okC (cl (X o))) : mI κ yX0_isHole cX0_isHole 2 .boolean 1 [.ref (xa o 100), .int (iI c)] (xw κ xa X) (is1 (iI (b2i (hole (cl (X o)) c))) (xw κ xa X)) := by
  have h := kS_X0_isHole κ xa X o ho (X o) c h0 ok
  rw [setO_self] at h
  exact h
theorem dX0_holeBits_0 : decode cX0_holeBits 0 = .ok (.iconst 0, 1) := by decide +kernel
theorem dX0_holeBits_1 : decode cX0_holeBits 1 = .ok (.istore_n 1, 1) := by decide +kernel
theorem dX0_holeBits_2 : decode cX0_holeBits 2 = .ok (.iconst 0, 1) := by decide +kernel
theorem dX0_holeBits_3 : decode cX0_holeBits 3 = .ok (.istore_n 2, 1) := by decide +kernel
theorem dX0_holeBits_4 : decode cX0_holeBits 4 = .ok (.iload_n 2, 1) := by decide +kernel
theorem dX0_holeBits_5 : decode cX0_holeBits 5 = .ok (.bipush 12, 2) := by decide +kernel
theorem dX0_holeBits_7 : decode cX0_holeBits 7 = .ok (.if_icmp .ge 23, 3) := by decide +kernel
theorem dX0_holeBits_10 : decode cX0_holeBits 10 = .ok (.aload_n 0, 1) := by decide +kernel
theorem dX0_holeBits_11 : decode cX0_holeBits 11 = .ok (.iload_n 2, 1) := by decide +kernel
theorem dX0_holeBits_12 : decode cX0_holeBits 12 = .ok (.invokevirtual 66, 3) := by decide +kernel
theorem dX0_holeBits_15 : decode cX0_holeBits 15 = .ok (.ifCond .eq 9, 3) := by decide +kernel
theorem dX0_holeBits_18 : decode cX0_holeBits 18 = .ok (.iload_n 1, 1) := by decide +kernel
theorem dX0_holeBits_19 : decode cX0_holeBits 19 = .ok (.iconst 1, 1) := by decide +kernel
theorem dX0_holeBits_20 : decode cX0_holeBits 20 = .ok (.iload_n 2, 1) := by decide +kernel
theorem dX0_holeBits_21 : decode cX0_holeBits 21 = .ok (.ishl, 1) := by decide +kernel
theorem dX0_holeBits_22 : decode cX0_holeBits 22 = .ok (.ior, 1) := by decide +kernel
theorem dX0_holeBits_23 : decode cX0_holeBits 23 = .ok (.istore_n 1, 1) := by decide +kernel
theorem dX0_holeBits_24 : decode cX0_holeBits 24 = .ok (.iinc 2 1, 3) := by decide +kernel
theorem dX0_holeBits_27 : decode cX0_holeBits 27 = .ok (.goto (-23), 3) := by decide +kernel
theorem dX0_holeBits_30 : decode cX0_holeBits 30 = .ok (.iload_n 1, 1) := by decide +kernel
theorem dX0_holeBits_31 : decode cX0_holeBits 31 = .ok (.ireturn, 1) := by decide +kernel
set_option maxRecDepth 100000 in
set_option maxHeartbeats 4000000 in
theorem kS_X0_holeBits (κ : Kp) (xa : Nat → Nat → Nat) (X : XS) (o : Nat) (ho : o < 12) (C : MS)  (ok : okC (cl C)) : mI κ yX0_holeBits cX0_holeBits 3 .int 2 [.ref (xa o 100)] (xw κ xa (setO X o C)) (is1 (iI (hbits (cl C))) (xw κ xa (setO X o C))) := by
  refine mI_of (by decide) (Nat.le_of_ble_eq_true rfl) (fun E F K => ?_)
  refine g_lv (lv' := [(0, .ref (xa o 100))]) rfl ?_
  refine g_iconst F dX0_holeBits_0 ?_
  refine g_istore_n F (lv' := [(1, .int (iI 0)), (0, .ref (xa o 100))]) 1 dX0_holeBits_1 rfl (by decide) rfl ?_
  refine g_iconst F dX0_holeBits_2 ?_
  refine g_istore_n F (lv' := [(2, .int (iI 0)), (1, .int (iI 0)), (0, .ref (xa o 100))]) 2 dX0_holeBits_3 rfl (by decide) rfl ?_
  have L4 : ∀ (mz4 : Nat) (i : Int) (b : Int), (12 - i).toNat = mz4 → (0 ≤ i ∧ i ≤ 12) → (b = sumI (hbf (cl C)) i) → G E (xw κ xa (setO X o C)) [(2, .int (iI i)), (1, .int (iI b)), (0, .ref (xa o 100))] 4 [] := by
    intro mz4
    induction mz4 using Nat.strongRecOn with
    | _ mz4 ih4 =>
    intro i b hmz4 hi hb
    refine g_iload_n F 0 dX0_holeBits_4 rfl ?_
    refine g_bipush F dX0_holeBits_5 (by decide +kernel) ?_
    refine g_icmp_ge F 30 (by omega) dX0_holeBits_7 (by decide) (fun c7 => ?_) (fun c7 => ?_)
    · skip
      refine g_iload_n F 1 dX0_holeBits_30 rfl ?_
      exact K xw_same ⟨congrArg iI (show b = hbits (cl C) from by rw [hb, show i = 12 by omega]; rfl), rfl⟩ rfl dX0_holeBits_31
    · skip
      have hbb : 0 ≤ b ∧ b < p2 i := by rw [hb]; exact hbits_bd _ hi.1
      refine g_aload_n F 2 dX0_holeBits_10 rfl ?_
      refine g_iload_n F 0 dX0_holeBits_11 rfl ?_
      refine g_callI F (stk := [.int (iI i), .ref (xa o 100)]) (st := []) (kS_X0_isHole κ xa X o ho C i (by omega) ok) cal_X0_isHole lm_X0_66 (5 * o + 0) (xc_obj ho) rfl rfl rfl (by decide) rfl (Nat.le_of_ble_eq_true rfl) dX0_holeBits_12 (fun r12 ws12 _ hr12 => ?_)
      obtain ⟨rfl, rfl⟩ := hr12
      refine g_if_eq F 24 (b2i_in _) dX0_holeBits_15 (by decide) (fun c15 => ?_) (fun c15 => ?_)
      · skip
        have c15 : ¬ (hole (cl C) i) := b2i_f c15
        refine g_iinc F (lv' := [(2, .int (iI (i + 1))), (1, .int (iI b)), (0, .ref (xa o 100))]) 0 dX0_holeBits_24 rfl (by decide) rfl ?_
        refine g_goto F 4 dX0_holeBits_27 (by decide) ?_
        refine g_sub F (lv' := [(2, .int (iI (i + 1))), (1, .int (iI b)), (0, .ref (xa o 100))]) [0, 1, 2] rfl ?_
        exact ih4 _ (by omega) (i + 1) b rfl (by omega) (by rw [sumI_s _ hi.1, ← hb]; unfold hbf; first | rw [if_pos c15] | (rw [if_neg c15]; omega))
      · skip
        have c15 : hole (cl C) i := b2i_t c15
        refine g_iload_n F 1 dX0_holeBits_18 rfl ?_
        refine g_iconst F dX0_holeBits_19 ?_
        refine g_iload_n F 0 dX0_holeBits_20 rfl ?_
        refine g_ishl F dX0_holeBits_21 ?_
        refine g_top (y := iI (p2 i)) (iI_shl1 (by omega) (by omega)) ?_
        refine g_ior F dX0_holeBits_22 ?_
        refine g_top (y := iI (b + p2 i)) (by rw [iI_bor hbb.1 (by have := p2_pos i; omega), bor_p2 hbb.1 hbb.2]) ?_
        refine g_istore_n F (lv' := [(1, .int (iI (b + p2 i))), (2, .int (iI i)), (0, .ref (xa o 100))]) 1 dX0_holeBits_23 rfl (by decide) rfl ?_
        refine g_iinc F (lv' := [(2, .int (iI (i + 1))), (1, .int (iI (b + p2 i))), (0, .ref (xa o 100))]) 1 dX0_holeBits_24 rfl (by decide) rfl ?_
        refine g_goto F 4 dX0_holeBits_27 (by decide) ?_
        refine g_sub F (lv' := [(2, .int (iI (i + 1))), (1, .int (iI (b + p2 i))), (0, .ref (xa o 100))]) [0, 1, 2] rfl ?_
        exact ih4 _ (by omega) (i + 1) (b + p2 i) rfl (by omega) (by rw [sumI_s _ hi.1, ← hb]; unfold hbf; first | rw [if_pos c15] | (rw [if_neg c15]; omega))
  refine g_sub F (lv' := [(2, .int (iI 0)), (1, .int (iI 0)), (0, .ref (xa o 100))]) [0, 1, 2] rfl ?_
  exact L4 _ 0 0 rfl (by omega) (sumI_0 _).symm
theorem k_X0_holeBits (κ : Kp) (xa : Nat → Nat → Nat) (X : XS) (o : Nat) (ho : o < 12)  (ok : okC (cl (X o))) : mI κ yX0_holeBits cX0_holeBits 3 .int 2 [.ref (xa o 100)] (xw κ xa X) (is1 (iI (hbits (cl (X o)))) (xw κ xa X)) := by
  have h := kS_X0_holeBits κ xa X o ho (X o) ok
  rw [setO_self] at h
  exact h
theorem dX0_growOlder_0 : decode cX0_growOlder 0 = .ok (.iconst 0, 1) := by decide +kernel
theorem dX0_growOlder_1 : decode cX0_growOlder 1 = .ok (.istore_n 2, 1) := by decide +kernel
theorem dX0_growOlder_2 : decode cX0_growOlder 2 = .ok (.iload_n 2, 1) := by decide +kernel
theorem dX0_growOlder_3 : decode cX0_growOlder 3 = .ok (.bipush 12, 2) := by decide +kernel
theorem dX0_growOlder_5 : decode cX0_growOlder 5 = .ok (.if_icmp .ge 28, 3) := by decide +kernel
theorem dX0_growOlder_8 : decode cX0_growOlder 8 = .ok (.aload_n 0, 1) := by decide +kernel
theorem dX0_growOlder_9 : decode cX0_growOlder 9 = .ok (.getfield 18, 3) := by decide +kernel
theorem dX0_growOlder_12 : decode cX0_growOlder 12 = .ok (.iload_n 2, 1) := by decide +kernel
theorem dX0_growOlder_13 : decode cX0_growOlder 13 = .ok (.bipush 99, 2) := by decide +kernel
theorem dX0_growOlder_15 : decode cX0_growOlder 15 = .ok (.aload_n 0, 1) := by decide +kernel
theorem dX0_growOlder_16 : decode cX0_growOlder 16 = .ok (.getfield 18, 3) := by decide +kernel
theorem dX0_growOlder_19 : decode cX0_growOlder 19 = .ok (.iload_n 2, 1) := by decide +kernel
theorem dX0_growOlder_20 : decode cX0_growOlder 20 = .ok (.iaload, 1) := by decide +kernel
theorem dX0_growOlder_21 : decode cX0_growOlder 21 = .ok (.iload_n 1, 1) := by decide +kernel
theorem dX0_growOlder_22 : decode cX0_growOlder 22 = .ok (.iadd, 1) := by decide +kernel
theorem dX0_growOlder_23 : decode cX0_growOlder 23 = .ok (.invokestatic 73, 3) := by decide +kernel
theorem dX0_growOlder_26 : decode cX0_growOlder 26 = .ok (.iastore, 1) := by decide +kernel
theorem dX0_growOlder_27 : decode cX0_growOlder 27 = .ok (.iinc 2 1, 3) := by decide +kernel
theorem dX0_growOlder_30 : decode cX0_growOlder 30 = .ok (.goto (-28), 3) := by decide +kernel
theorem dX0_growOlder_33 : decode cX0_growOlder 33 = .ok (.return_, 1) := by decide +kernel
set_option maxRecDepth 100000 in
set_option maxHeartbeats 4000000 in
theorem kS_X0_growOlder (κ : Kp) (xa : Nat → Nat → Nat) (X : XS) (o : Nat) (ho : o < 12) (C : MS) (v : Int)  (hv : 0 ≤ v ∧ v ≤ 1000) (hag : ∀ c : Int, 0 ≤ c → c < 12 → 0 ≤ C 2 c ∧ C 2 c ≤ 99) : mV κ yX0_growOlder cX0_growOlder 3 1 [.ref (xa o 100), .int (iI v)] (xw κ xa (setO X o C)) (is0 (xw κ xa (setO X o (stC C (older (cl C) v))))) := by
  refine mV_of (by decide) (Nat.le_of_ble_eq_true rfl) (fun E F K => ?_)
  refine g_lv (lv' := [(0, .ref (xa o 100)), (1, .int (iI v))]) rfl ?_
  refine g_iconst F dX0_growOlder_0 ?_
  refine g_istore_n F (lv' := [(2, .int (iI 0)), (0, .ref (xa o 100)), (1, .int (iI v))]) 2 dX0_growOlder_1 rfl (by decide) rfl ?_
  have L2 : ∀ (mz2 : Nat) (j : Int) (g : Int → Int), (12 - j).toNat = mz2 → (0 ≤ j ∧ j ≤ 12) → (g = upTo (C 2) (ageOn (cl C) v) j) → G E (xw κ xa (setO X o (mA C 2 g))) [(2, .int (iI j)), (0, .ref (xa o 100)), (1, .int (iI v))] 2 [] := by
    intro mz2
    induction mz2 using Nat.strongRecOn with
    | _ mz2 ih2 =>
    intro j g hmz2 hj hg
    refine g_iload_n F 0 dX0_growOlder_2 rfl ?_
    refine g_bipush F dX0_growOlder_3 (by decide +kernel) ?_
    refine g_icmp_ge F 33 (by omega) dX0_growOlder_5 (by decide) (fun c5 => ?_) (fun c5 => ?_)
    · skip
      exact K xw_same (by rw [hg, show j = 12 by omega]; exact xc_ext ho rfl) dX0_growOlder_33
    · skip
      refine g_aload_n F 1 dX0_growOlder_8 rfl ?_
      refine gcS_get_2 F ho lf_X0_18 dX0_growOlder_9 ?_
      refine g_iload_n F 0 dX0_growOlder_12 rfl ?_
      refine g_bipush F dX0_growOlder_13 (by decide +kernel) ?_
      refine g_aload_n F 1 dX0_growOlder_15 rfl ?_
      refine gcS_get_2 F ho lf_X0_18 dX0_growOlder_16 ?_
      refine g_iload_n F 0 dX0_growOlder_19 rfl ?_
      refine gcS_ald_2 F ho (by omega) dX0_growOlder_20 ?_
      refine g_top (y := iI (g j)) rfl ?_
      refine g_top (y := iI (C 2 j)) (iIc (by rw [hg, upTo_out (by omega)])) ?_
      refine g_iload_n F 2 dX0_growOlder_21 rfl ?_
      have hk := hag j hj.1 (by omega)
      refine g_iadd F dX0_growOlder_22 ?_
      refine g_min F (by omega) lm_X0_73 ms_min ms_ini mc_min (by decide) (Nat.le_of_ble_eq_true rfl) dX0_growOlder_23 ?_
      refine g_top (y := iI (ageOn (cl C) v j)) rfl ?_
      refine gcSS_ast_2 F ho (by omega) dX0_growOlder_26 ?_
      refine g_iinc F (lv' := [(2, .int (iI (j + 1))), (0, .ref (xa o 100)), (1, .int (iI v))]) 0 dX0_growOlder_27 rfl (by decide) rfl ?_
      refine g_goto F 2 dX0_growOlder_30 (by decide) ?_
      refine g_sub F (lv' := [(2, .int (iI (j + 1))), (0, .ref (xa o 100)), (1, .int (iI v))]) [0, 1, 2] rfl ?_
      exact ih2 _ (by omega) (j + 1) (uI g j (ageOn (cl C) v j)) rfl (by omega) (by rw [hg, upTo_s _ _ hj.1])
  refine g_sub F (lv' := [(2, .int (iI 0)), (0, .ref (xa o 100)), (1, .int (iI v))]) [0, 1, 2] rfl ?_
  refine g_ws (ws' := xw κ xa (setO X o (mA C 2 (C 2)))) (by rw [mA_self]) ?_
  exact L2 _ 0 (C 2) rfl (by omega) (upTo_0 _ _).symm
theorem k_X0_growOlder (κ : Kp) (xa : Nat → Nat → Nat) (X : XS) (o : Nat) (ho : o < 12) (v : Int) (hv : 0 ≤ v ∧ v ≤ 1000) (hag : ∀ c : Int, 0 ≤ c → c < 12 → 0 ≤ (X o) 2 c ∧ (X o) 2 c ≤ 99) : mV κ yX0_growOlder cX0_growOlder 3 1 [.ref (xa o 100), .int (iI v)] (xw κ xa X) (is0 (xw κ xa (setO X o (stC (X o) (older (cl (X o)) v))))) := by
  have h := kS_X0_growOlder κ xa X o ho (X o) v hv hag
  rw [setO_self] at h
  exact h
