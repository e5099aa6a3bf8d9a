/-! THE LAW'S CASES -/
theorem lc_strip {E : gE} {κ : Kp} {xa : Nat → Nat → Nat} {ma : Nat → Nat} {X : XS} {M : MS} {b L : Nat} {xs : Nat → Int32} {i : Int} (F : Fx E κ cL_law "PatchesSameAgeLaw" 4 9) (hX : ScrX E b L xs) (hL : L ≤ 2560) (hi : 0 ≤ i ∧ i + 5 ≤ (L : Int)) (h : relT X M) (K : ∀ (X2 : XS) (M2 : MS), relT X2 M2 → G E (xw κ xa X2 ++ mw κ ma M2) [(3, .int (iI i)), (2, .ref (ma 100)), (1, .ref (xa 18 100)), (0, .ref b)] 1392 []) : G E (xw κ xa X ++ mw κ ma M) [(3, .int (iI i)), (2, .ref (ma 100)), (1, .ref (xa 18 100)), (0, .ref b)] 881 [] := by
  have hL2 : L ≤ 2147483647 := by omega
  refine g_aload_n F 2 dL_law_881 rfl ?_
  refine g_aload_n F 3 dL_law_882 rfl ?_
  refine g_iload_n F 0 dL_law_883 rfl ?_
  refine g_iconst F dL_law_884 ?_
  refine g_iadd F dL_law_885 ?_
  refine g_sld F hX hL2 (by omega) dL_law_886 ?_
  refine f_callI_L F (stk := [.int (iI (scI xs (i + 1))), .ref (xa 18 100)]) (st := []) (k_X5_strip κ xa X (scI xs (i + 1)) (scI_in _ _) (rel_okX h)) cal_X5_strip lm_L_110 81 rfl rfl rfl rfl (by decide) rfl (Nat.le_of_ble_eq_true rfl) dL_law_887 (fun r1 u1 hr1 => ?_)
  refine g_aload_n F 1 dL_law_890 rfl ?_
  refine g_aload_n F 3 dL_law_891 rfl ?_
  refine g_iload_n F 0 dL_law_892 rfl ?_
  refine g_iconst F dL_law_893 ?_
  refine g_iadd F dL_law_894 ?_
  refine g_sld F hX hL2 (by omega) dL_law_895 ?_
  refine f_callI_R F (stk := [.int (iI (scI xs (i + 1))), .ref (ma 100), .int r1]) (st := [.int r1]) (k_X6_strip κ ma M (scI xs (i + 1)) (scI_in _ _) (rel_okM h)) cal_X6_strip lm_L_113 0 rfl rfl rfl rfl (by decide) rfl (Nat.le_of_ble_eq_true rfl) dL_law_896 (fun r2 u2 hr2 => ?_)
  obtain ⟨e, X2, M2, e1, e2, hT⟩ := opl_q h (by rw [relU_a h.1]) hr1 hr2
  subst e e1 e2
  exact g_icmp_same F 1392 dL_law_899 (by decide) (K X2 M2 hT)
theorem lc_swap {E : gE} {κ : Kp} {xa : Nat → Nat → Nat} {ma : Nat → Nat} {X : XS} {M : MS} {b L : Nat} {xs : Nat → Int32} {i : Int} (F : Fx E κ cL_law "PatchesSameAgeLaw" 4 9) (hX : ScrX E b L xs) (hL : L ≤ 2560) (hi : 0 ≤ i ∧ i + 5 ≤ (L : Int)) (h : relT X M) (K : ∀ (X2 : XS) (M2 : MS), relT X2 M2 → G E (xw κ xa X2 ++ mw κ ma M2) [(3, .int (iI i)), (2, .ref (ma 100)), (1, .ref (xa 18 100)), (0, .ref b)] 1392 []) : G E (xw κ xa X ++ mw κ ma M) [(3, .int (iI i)), (2, .ref (ma 100)), (1, .ref (xa 18 100)), (0, .ref b)] 904 [] := by
  have hL2 : L ≤ 2147483647 := by omega
  refine g_aload_n F 2 dL_law_904 rfl ?_
  refine f_callI_L F (stk := [.ref (xa 18 100)]) (st := []) (k_X5_swap κ xa X (rel_okX h) (rel_yX h)) cal_X5_swap lm_L_114 81 rfl rfl rfl rfl (by decide) rfl (Nat.le_of_ble_eq_true rfl) dL_law_905 (fun r1 u1 hr1 => ?_)
  refine g_aload_n F 1 dL_law_908 rfl ?_
  refine f_callI_R F (stk := [.ref (ma 100), .int r1]) (st := [.int r1]) (k_X6_swap κ ma M (rel_okM h) (rel_yM h)) cal_X6_swap lm_L_117 0 rfl rfl rfl rfl (by decide) rfl (Nat.le_of_ble_eq_true rfl) dL_law_909 (fun r2 u2 hr2 => ?_)
  obtain ⟨e, X2, M2, e1, e2, hT⟩ := opl_q h (by rw [rel_cl0 h]) hr1 hr2
  subst e e1 e2
  exact g_icmp_same F 1392 dL_law_912 (by decide) (K X2 M2 hT)
theorem lc_chance {E : gE} {κ : Kp} {xa : Nat → Nat → Nat} {ma : Nat → Nat} {X : XS} {M : MS} {b L : Nat} {xs : Nat → Int32} {i : Int} (F : Fx E κ cL_law "PatchesSameAgeLaw" 4 9) (hX : ScrX E b L xs) (hL : L ≤ 2560) (hi : 0 ≤ i ∧ i + 5 ≤ (L : Int)) (h : relT X M) (K : ∀ (X2 : XS) (M2 : MS), relT X2 M2 → G E (xw κ xa X2 ++ mw κ ma M2) [(3, .int (iI i)), (2, .ref (ma 100)), (1, .ref (xa 18 100)), (0, .ref b)] 1392 []) : G E (xw κ xa X ++ mw κ ma M) [(3, .int (iI i)), (2, .ref (ma 100)), (1, .ref (xa 18 100)), (0, .ref b)] 917 [] := by
  have hL2 : L ≤ 2147483647 := by omega
  refine g_aload_n F 2 dL_law_917 rfl ?_
  refine g_aload_n F 3 dL_law_918 rfl ?_
  refine g_iload_n F 0 dL_law_919 rfl ?_
  refine g_iconst F dL_law_920 ?_
  refine g_iadd F dL_law_921 ?_
  refine g_sld F hX hL2 (by omega) dL_law_922 ?_
  refine g_aload_n F 3 dL_law_923 rfl ?_
  refine g_iload_n F 0 dL_law_924 rfl ?_
  refine g_iconst F dL_law_925 ?_
  refine g_iadd F dL_law_926 ?_
  refine g_sld F hX hL2 (by omega) dL_law_927 ?_
  refine g_aload_n F 3 dL_law_928 rfl ?_
  refine g_iload_n F 0 dL_law_929 rfl ?_
  refine g_iconst F dL_law_930 ?_
  refine g_iadd F dL_law_931 ?_
  refine g_sld F hX hL2 (by omega) dL_law_932 ?_
  refine g_aload_n F 3 dL_law_933 rfl ?_
  refine g_iload_n F 0 dL_law_934 rfl ?_
  refine g_iconst F dL_law_935 ?_
  refine g_iadd F dL_law_936 ?_
  refine g_sld F hX hL2 (by omega) dL_law_937 ?_
  refine f_callL_L F (stk := [.int (iI (scI xs (i + 4))), .int (iI (scI xs (i + 3))), .int (iI (scI xs (i + 2))), .int (iI (scI xs (i + 1))), .ref (xa 18 100)]) (st := []) (k_X5_chance κ xa X (scI xs (i + 1)) (scI xs (i + 2)) (scI xs (i + 3)) (scI xs (i + 4)) (scI_in _ _) (scI_in _ _) (scI_in _ _) (scI_in _ _) (rel_okX h) (rel_yX h)) cal_X5_chance lm_L_118 81 rfl rfl rfl rfl (by decide) rfl (Nat.le_of_ble_eq_true rfl) dL_law_938 (fun r1 u1 hr1 => ?_)
  refine g_aload_n F 1 dL_law_941 rfl ?_
  refine g_aload_n F 3 dL_law_942 rfl ?_
  refine g_iload_n F 0 dL_law_943 rfl ?_
  refine g_iconst F dL_law_944 ?_
  refine g_iadd F dL_law_945 ?_
  refine g_sld F hX hL2 (by omega) dL_law_946 ?_
  refine g_aload_n F 3 dL_law_947 rfl ?_
  refine g_iload_n F 0 dL_law_948 rfl ?_
  refine g_iconst F dL_law_949 ?_
  refine g_iadd F dL_law_950 ?_
  refine g_sld F hX hL2 (by omega) dL_law_951 ?_
  refine g_aload_n F 3 dL_law_952 rfl ?_
  refine g_iload_n F 0 dL_law_953 rfl ?_
  refine g_iconst F dL_law_954 ?_
  refine g_iadd F dL_law_955 ?_
  refine g_sld F hX hL2 (by omega) dL_law_956 ?_
  refine g_aload_n F 3 dL_law_957 rfl ?_
  refine g_iload_n F 0 dL_law_958 rfl ?_
  refine g_iconst F dL_law_959 ?_
  refine g_iadd F dL_law_960 ?_
  refine g_sld F hX hL2 (by omega) dL_law_961 ?_
  refine f_callL_R F (stk := [.int (iI (scI xs (i + 4))), .int (iI (scI xs (i + 3))), .int (iI (scI xs (i + 2))), .int (iI (scI xs (i + 1))), .ref (ma 100), .long r1]) (st := [.long r1]) (k_X6_chance κ ma M (scI xs (i + 1)) (scI xs (i + 2)) (scI xs (i + 3)) (scI xs (i + 4)) (scI_in _ _) (scI_in _ _) (scI_in _ _) (scI_in _ _) (rel_okM h) (rel_yM h)) cal_X6_chance lm_L_122 0 rfl rfl rfl rfl (by decide) rfl (Nat.le_of_ble_eq_true rfl) dL_law_962 (fun r2 u2 hr2 => ?_)
  obtain ⟨e, X2, M2, e1, e2, hT⟩ := opl_L h (by rw [rel_cl0 h]; exact (chance_eq _ _ _ _ _).symm) hr1 hr2
  subst e e1 e2
  refine g_lcmp_same F dL_law_965 ?_
  exact g_if_eq F 1392 (by decide) dL_law_966 (by decide) (fun _ => K X2 M2 hT) (fun q => absurd rfl q)
theorem lc_oldest {E : gE} {κ : Kp} {xa : Nat → Nat → Nat} {ma : Nat → Nat} {X : XS} {M : MS} {b L : Nat} {xs : Nat → Int32} {i : Int} (F : Fx E κ cL_law "PatchesSameAgeLaw" 4 9) (hX : ScrX E b L xs) (hL : L ≤ 2560) (hi : 0 ≤ i ∧ i + 5 ≤ (L : Int)) (h : relT X M) (K : ∀ (X2 : XS) (M2 : MS), relT X2 M2 → G E (xw κ xa X2 ++ mw κ ma M2) [(3, .int (iI i)), (2, .ref (ma 100)), (1, .ref (xa 18 100)), (0, .ref b)] 1392 []) : G E (xw κ xa X ++ mw κ ma M) [(3, .int (iI i)), (2, .ref (ma 100)), (1, .ref (xa 18 100)), (0, .ref b)] 971 [] := by
  have hL2 : L ≤ 2147483647 := by omega
  refine g_aload_n F 2 dL_law_971 rfl ?_
  refine g_aload_n F 3 dL_law_972 rfl ?_
  refine g_iload_n F 0 dL_law_973 rfl ?_
  refine g_iconst F dL_law_974 ?_
  refine g_iadd F dL_law_975 ?_
  refine g_sld F hX hL2 (by omega) dL_law_976 ?_
  refine f_callI_L F (stk := [.int (iI (scI xs (i + 1))), .ref (xa 18 100)]) (st := []) (k_X5_oldest κ xa X (scI xs (i + 1)) (scI_in _ _) (rel_okX h)) cal_X5_oldest lm_L_123 81 rfl rfl rfl rfl (by decide) rfl (Nat.le_of_ble_eq_true rfl) dL_law_977 (fun r1 u1 hr1 => ?_)
  refine g_aload_n F 1 dL_law_980 rfl ?_
  refine g_aload_n F 3 dL_law_981 rfl ?_
  refine g_iload_n F 0 dL_law_982 rfl ?_
  refine g_iconst F dL_law_983 ?_
  refine g_iadd F dL_law_984 ?_
  refine g_sld F hX hL2 (by omega) dL_law_985 ?_
  refine f_callI_R F (stk := [.int (iI (scI xs (i + 1))), .ref (ma 100), .int r1]) (st := [.int r1]) (k_X6_oldest κ ma M (scI xs (i + 1)) (scI_in _ _) (rel_okM h)) cal_X6_oldest lm_L_126 0 rfl rfl rfl rfl (by decide) rfl (Nat.le_of_ble_eq_true rfl) dL_law_986 (fun r2 u2 hr2 => ?_)
  obtain ⟨e, X2, M2, e1, e2, hT⟩ := opl_q h (by rw [relU_a h.1]) hr1 hr2
  subst e e1 e2
  exact g_icmp_same F 1392 dL_law_989 (by decide) (K X2 M2 hT)
theorem lc_tightest {E : gE} {κ : Kp} {xa : Nat → Nat → Nat} {ma : Nat → Nat} {X : XS} {M : MS} {b L : Nat} {xs : Nat → Int32} {i : Int} (F : Fx E κ cL_law "PatchesSameAgeLaw" 4 9) (hX : ScrX E b L xs) (hL : L ≤ 2560) (hi : 0 ≤ i ∧ i + 5 ≤ (L : Int)) (h : relT X M) (K : ∀ (X2 : XS) (M2 : MS), relT X2 M2 → G E (xw κ xa X2 ++ mw κ ma M2) [(3, .int (iI i)), (2, .ref (ma 100)), (1, .ref (xa 18 100)), (0, .ref b)] 1392 []) : G E (xw κ xa X ++ mw κ ma M) [(3, .int (iI i)), (2, .ref (ma 100)), (1, .ref (xa 18 100)), (0, .ref b)] 994 [] := by
  have hL2 : L ≤ 2147483647 := by omega
  refine g_aload_n F 2 dL_law_994 rfl ?_
  refine g_aload_n F 3 dL_law_995 rfl ?_
  refine g_iload_n F 0 dL_law_996 rfl ?_
  refine g_iconst F dL_law_997 ?_
  refine g_iadd F dL_law_998 ?_
  refine g_sld F hX hL2 (by omega) dL_law_999 ?_
  refine f_callI_L F (stk := [.int (iI (scI xs (i + 1))), .ref (xa 18 100)]) (st := []) (k_X5_tightest κ xa X (scI xs (i + 1)) (scI_in _ _) (rel_okX h)) cal_X5_tightest lm_L_127 81 rfl rfl rfl rfl (by decide) rfl (Nat.le_of_ble_eq_true rfl) dL_law_1000 (fun r1 u1 hr1 => ?_)
  refine g_aload_n F 1 dL_law_1003 rfl ?_
  refine g_aload_n F 3 dL_law_1004 rfl ?_
  refine g_iload_n F 0 dL_law_1005 rfl ?_
  refine g_iconst F dL_law_1006 ?_
  refine g_iadd F dL_law_1007 ?_
  refine g_sld F hX hL2 (by omega) dL_law_1008 ?_
  refine f_callI_R F (stk := [.int (iI (scI xs (i + 1))), .ref (ma 100), .int r1]) (st := [.int r1]) (k_X6_tightest κ ma M (scI xs (i + 1)) (scI_in _ _) (rel_okM h)) cal_X6_tightest lm_L_130 0 rfl rfl rfl rfl (by decide) rfl (Nat.le_of_ble_eq_true rfl) dL_law_1009 (fun r2 u2 hr2 => ?_)
  obtain ⟨e, X2, M2, e1, e2, hT⟩ := opl_q h (by rw [relU_a h.1]) hr1 hr2
  subst e e1 e2
  exact g_icmp_same F 1392 dL_law_1012 (by decide) (K X2 M2 hT)
theorem lc_ageFor {E : gE} {κ : Kp} {xa : Nat → Nat → Nat} {ma : Nat → Nat} {X : XS} {M : MS} {b L : Nat} {xs : Nat → Int32} {i : Int} (F : Fx E κ cL_law "PatchesSameAgeLaw" 4 9) (hX : ScrX E b L xs) (hL : L ≤ 2560) (hi : 0 ≤ i ∧ i + 5 ≤ (L : Int)) (h : relT X M) (K : ∀ (X2 : XS) (M2 : MS), relT X2 M2 → G E (xw κ xa X2 ++ mw κ ma M2) [(3, .int (iI i)), (2, .ref (ma 100)), (1, .ref (xa 18 100)), (0, .ref b)] 1392 []) : G E (xw κ xa X ++ mw κ ma M) [(3, .int (iI i)), (2, .ref (ma 100)), (1, .ref (xa 18 100)), (0, .ref b)] 1017 [] := by
  have hL2 : L ≤ 2147483647 := by omega
  refine g_aload_n F 2 dL_law_1017 rfl ?_
  refine g_aload_n F 3 dL_law_1018 rfl ?_
  refine g_iload_n F 0 dL_law_1019 rfl ?_
  refine g_iconst F dL_law_1020 ?_
  refine g_iadd F dL_law_1021 ?_
  refine g_sld F hX hL2 (by omega) dL_law_1022 ?_
  refine f_callI_L F (stk := [.int (iI (scI xs (i + 1))), .ref (xa 18 100)]) (st := []) (k_X5_ageFor κ xa X (scI xs (i + 1)) (scI_in _ _) (rel_okX h) (rel_yX h)) cal_X5_ageFor lm_L_131 81 rfl rfl rfl rfl (by decide) rfl (Nat.le_of_ble_eq_true rfl) dL_law_1023 (fun r1 u1 hr1 => ?_)
  refine g_aload_n F 1 dL_law_1026 rfl ?_
  refine g_aload_n F 3 dL_law_1027 rfl ?_
  refine g_iload_n F 0 dL_law_1028 rfl ?_
  refine g_iconst F dL_law_1029 ?_
  refine g_iadd F dL_law_1030 ?_
  refine g_sld F hX hL2 (by omega) dL_law_1031 ?_
  refine f_callI_R F (stk := [.int (iI (scI xs (i + 1))), .ref (ma 100), .int r1]) (st := [.int r1]) (k_X6_ageFor κ ma M (scI xs (i + 1)) (scI_in _ _) (rel_okM h) (rel_yM h)) cal_X6_ageFor lm_L_134 0 rfl rfl rfl rfl (by decide) rfl (Nat.le_of_ble_eq_true rfl) dL_law_1032 (fun r2 u2 hr2 => ?_)
  obtain ⟨e, X2, M2, e1, e2, hT⟩ := opl_q h (by rw [rel_cl0 h]) hr1 hr2
  subst e e1 e2
  exact g_icmp_same F 1392 dL_law_1035 (by decide) (K X2 M2 hT)
theorem lc_entire {E : gE} {κ : Kp} {xa : Nat → Nat → Nat} {ma : Nat → Nat} {X : XS} {M : MS} {b L : Nat} {xs : Nat → Int32} {i : Int} (F : Fx E κ cL_law "PatchesSameAgeLaw" 4 9) (hX : ScrX E b L xs) (hL : L ≤ 2560) (hi : 0 ≤ i ∧ i + 5 ≤ (L : Int)) (h : relT X M) (K : ∀ (X2 : XS) (M2 : MS), relT X2 M2 → G E (xw κ xa X2 ++ mw κ ma M2) [(3, .int (iI i)), (2, .ref (ma 100)), (1, .ref (xa 18 100)), (0, .ref b)] 1392 []) : G E (xw κ xa X ++ mw κ ma M) [(3, .int (iI i)), (2, .ref (ma 100)), (1, .ref (xa 18 100)), (0, .ref b)] 1040 [] := by
  have hL2 : L ≤ 2147483647 := by omega
  refine g_aload_n F 2 dL_law_1040 rfl ?_
  refine f_callI_L F (stk := [.ref (xa 18 100)]) (st := []) (k_X5_entire κ xa X (rel_okX h)) cal_X5_entire lm_L_135 81 rfl rfl rfl rfl (by decide) rfl (Nat.le_of_ble_eq_true rfl) dL_law_1041 (fun r1 u1 hr1 => ?_)
  refine g_aload_n F 1 dL_law_1044 rfl ?_
  refine f_callI_R F (stk := [.ref (ma 100), .int r1]) (st := [.int r1]) (k_X6_entire κ ma M (rel_okM h)) cal_X6_entire lm_L_138 0 rfl rfl rfl rfl (by decide) rfl (Nat.le_of_ble_eq_true rfl) dL_law_1045 (fun r2 u2 hr2 => ?_)
  obtain ⟨e, X2, M2, e1, e2, hT⟩ := opl_q h (by rw [rel_cl0 h]) hr1 hr2
  subst e e1 e2
  exact g_icmp_same F 1392 dL_law_1048 (by decide) (K X2 M2 hT)
theorem lc_bestOf {E : gE} {κ : Kp} {xa : Nat → Nat → Nat} {ma : Nat → Nat} {X : XS} {M : MS} {b L : Nat} {xs : Nat → Int32} {i : Int} (F : Fx E κ cL_law "PatchesSameAgeLaw" 4 9) (hX : ScrX E b L xs) (hL : L ≤ 2560) (hi : 0 ≤ i ∧ i + 5 ≤ (L : Int)) (h : relT X M) (K : ∀ (X2 : XS) (M2 : MS), relT X2 M2 → G E (xw κ xa X2 ++ mw κ ma M2) [(3, .int (iI i)), (2, .ref (ma 100)), (1, .ref (xa 18 100)), (0, .ref b)] 1392 []) : G E (xw κ xa X ++ mw κ ma M) [(3, .int (iI i)), (2, .ref (ma 100)), (1, .ref (xa 18 100)), (0, .ref b)] 1053 [] := by
  have hL2 : L ≤ 2147483647 := by omega
  refine g_aload_n F 2 dL_law_1053 rfl ?_
  refine g_aload_n F 3 dL_law_1054 rfl ?_
  refine g_iload_n F 0 dL_law_1055 rfl ?_
  refine g_iconst F dL_law_1056 ?_
  refine g_iadd F dL_law_1057 ?_
  refine g_sld F hX hL2 (by omega) dL_law_1058 ?_
  refine g_aload_n F 3 dL_law_1059 rfl ?_
  refine g_iload_n F 0 dL_law_1060 rfl ?_
  refine g_iconst F dL_law_1061 ?_
  refine g_iadd F dL_law_1062 ?_
  refine g_sld F hX hL2 (by omega) dL_law_1063 ?_
  refine f_callI_L F (stk := [.int (iI (scI xs (i + 2))), .int (iI (scI xs (i + 1))), .ref (xa 18 100)]) (st := []) (k_X5_bestOf κ xa X (scI xs (i + 1)) (scI xs (i + 2)) (scI_in _ _) (scI_in _ _) (rel_okX h) (rel_yX h)) cal_X5_bestOf lm_L_139 81 rfl rfl rfl rfl (by decide) rfl (Nat.le_of_ble_eq_true rfl) dL_law_1064 (fun r1 u1 hr1 => ?_)
  refine g_aload_n F 1 dL_law_1067 rfl ?_
  refine g_aload_n F 3 dL_law_1068 rfl ?_
  refine g_iload_n F 0 dL_law_1069 rfl ?_
  refine g_iconst F dL_law_1070 ?_
  refine g_iadd F dL_law_1071 ?_
  refine g_sld F hX hL2 (by omega) dL_law_1072 ?_
  refine g_aload_n F 3 dL_law_1073 rfl ?_
  refine g_iload_n F 0 dL_law_1074 rfl ?_
  refine g_iconst F dL_law_1075 ?_
  refine g_iadd F dL_law_1076 ?_
  refine g_sld F hX hL2 (by omega) dL_law_1077 ?_
  refine f_callI_R F (stk := [.int (iI (scI xs (i + 2))), .int (iI (scI xs (i + 1))), .ref (ma 100), .int r1]) (st := [.int r1]) (k_X6_bestOf κ ma M (scI xs (i + 1)) (scI xs (i + 2)) (scI_in _ _) (scI_in _ _) (rel_okM h) (rel_yM h)) cal_X6_bestOf lm_L_142 0 rfl rfl rfl rfl (by decide) rfl (Nat.le_of_ble_eq_true rfl) dL_law_1078 (fun r2 u2 hr2 => ?_)
  obtain ⟨e, X2, M2, e1, e2, hT⟩ := opl_q h (by rw [rel_cl0 h]) hr1 hr2
  subst e e1 e2
  exact g_icmp_same F 1392 dL_law_1081 (by decide) (K X2 M2 hT)
theorem lc_harm {E : gE} {κ : Kp} {xa : Nat → Nat → Nat} {ma : Nat → Nat} {X : XS} {M : MS} {b L : Nat} {xs : Nat → Int32} {i : Int} (F : Fx E κ cL_law "PatchesSameAgeLaw" 4 9) (hX : ScrX E b L xs) (hL : L ≤ 2560) (hi : 0 ≤ i ∧ i + 5 ≤ (L : Int)) (h : relT X M) (K : ∀ (X2 : XS) (M2 : MS), relT X2 M2 → G E (xw κ xa X2 ++ mw κ ma M2) [(3, .int (iI i)), (2, .ref (ma 100)), (1, .ref (xa 18 100)), (0, .ref b)] 1392 []) : G E (xw κ xa X ++ mw κ ma M) [(3, .int (iI i)), (2, .ref (ma 100)), (1, .ref (xa 18 100)), (0, .ref b)] 1086 [] := by
  have hL2 : L ≤ 2147483647 := by omega
  refine g_aload_n F 2 dL_law_1086 rfl ?_
  refine g_aload_n F 3 dL_law_1087 rfl ?_
  refine g_iload_n F 0 dL_law_1088 rfl ?_
  refine g_iconst F dL_law_1089 ?_
  refine g_iadd F dL_law_1090 ?_
  refine g_sld F hX hL2 (by omega) dL_law_1091 ?_
  refine f_callI_L F (stk := [.int (iI (scI xs (i + 1))), .ref (xa 18 100)]) (st := []) (k_X5_harm κ xa X (scI xs (i + 1)) (scI_in _ _) (rel_okX h)) cal_X5_harm lm_L_143 81 rfl rfl rfl rfl (by decide) rfl (Nat.le_of_ble_eq_true rfl) dL_law_1092 (fun r1 u1 hr1 => ?_)
  refine g_aload_n F 1 dL_law_1095 rfl ?_
  refine g_aload_n F 3 dL_law_1096 rfl ?_
  refine g_iload_n F 0 dL_law_1097 rfl ?_
  refine g_iconst F dL_law_1098 ?_
  refine g_iadd F dL_law_1099 ?_
  refine g_sld F hX hL2 (by omega) dL_law_1100 ?_
  refine f_callI_R F (stk := [.int (iI (scI xs (i + 1))), .ref (ma 100), .int r1]) (st := [.int r1]) (k_X6_harm κ ma M (scI xs (i + 1)) (scI_in _ _) (rel_okM h)) cal_X6_harm lm_L_146 0 rfl rfl rfl rfl (by decide) rfl (Nat.le_of_ble_eq_true rfl) dL_law_1101 (fun r2 u2 hr2 => ?_)
  obtain ⟨e, X2, M2, e1, e2, hT⟩ := opl_2 h (by rw [rel_cl0 h]) hr1 hr2
  subst e e1 e2
  exact g_icmp_same F 1392 dL_law_1104 (by decide) (K X2 M2 hT)
theorem lc_pairs {E : gE} {κ : Kp} {xa : Nat → Nat → Nat} {ma : Nat → Nat} {X : XS} {M : MS} {b L : Nat} {xs : Nat → Int32} {i : Int} (F : Fx E κ cL_law "PatchesSameAgeLaw" 4 9) (hX : ScrX E b L xs) (hL : L ≤ 2560) (hi : 0 ≤ i ∧ i + 5 ≤ (L : Int)) (h : relT X M) (K : ∀ (X2 : XS) (M2 : MS), relT X2 M2 → G E (xw κ xa X2 ++ mw κ ma M2) [(3, .int (iI i)), (2, .ref (ma 100)), (1, .ref (xa 18 100)), (0, .ref b)] 1392 []) : G E (xw κ xa X ++ mw κ ma M) [(3, .int (iI i)), (2, .ref (ma 100)), (1, .ref (xa 18 100)), (0, .ref b)] 1109 [] := by
  have hL2 : L ≤ 2147483647 := by omega
  refine g_aload_n F 2 dL_law_1109 rfl ?_
  refine f_callI_L F (stk := [.ref (xa 18 100)]) (st := []) (k_X5_pairs κ xa X (rel_okX h)) cal_X5_pairs lm_L_147 81 rfl rfl rfl rfl (by decide) rfl (Nat.le_of_ble_eq_true rfl) dL_law_1110 (fun r1 u1 hr1 => ?_)
  refine g_aload_n F 1 dL_law_1113 rfl ?_
  refine f_callI_R F (stk := [.ref (ma 100), .int r1]) (st := [.int r1]) (k_X6_pairs κ ma M (rel_okM h)) cal_X6_pairs lm_L_150 0 rfl rfl rfl rfl (by decide) rfl (Nat.le_of_ble_eq_true rfl) dL_law_1114 (fun r2 u2 hr2 => ?_)
  obtain ⟨e, X2, M2, e1, e2, hT⟩ := opl_q h (by rw [relU_k h.1]) hr1 hr2
  subst e e1 e2
  exact g_icmp_same F 1392 dL_law_1117 (by decide) (K X2 M2 hT)
theorem lc_sumOf {E : gE} {κ : Kp} {xa : Nat → Nat → Nat} {ma : Nat → Nat} {X : XS} {M : MS} {b L : Nat} {xs : Nat → Int32} {i : Int} (F : Fx E κ cL_law "PatchesSameAgeLaw" 4 9) (hX : ScrX E b L xs) (hL : L ≤ 2560) (hi : 0 ≤ i ∧ i + 5 ≤ (L : Int)) (h : relT X M) (K : ∀ (X2 : XS) (M2 : MS), relT X2 M2 → G E (xw κ xa X2 ++ mw κ ma M2) [(3, .int (iI i)), (2, .ref (ma 100)), (1, .ref (xa 18 100)), (0, .ref b)] 1392 []) : G E (xw κ xa X ++ mw κ ma M) [(3, .int (iI i)), (2, .ref (ma 100)), (1, .ref (xa 18 100)), (0, .ref b)] 1122 [] := by
  have hL2 : L ≤ 2147483647 := by omega
  refine g_aload_n F 2 dL_law_1122 rfl ?_
  refine g_aload_n F 3 dL_law_1123 rfl ?_
  refine g_iload_n F 0 dL_law_1124 rfl ?_
  refine g_iconst F dL_law_1125 ?_
  refine g_iadd F dL_law_1126 ?_
  refine g_sld F hX hL2 (by omega) dL_law_1127 ?_
  refine f_callI_L F (stk := [.int (iI (scI xs (i + 1))), .ref (xa 18 100)]) (st := []) (k_X5_sumOf κ xa X (scI xs (i + 1)) (scI_in _ _) (rel_okX h)) cal_X5_sumOf lm_L_151 81 rfl rfl rfl rfl (by decide) rfl (Nat.le_of_ble_eq_true rfl) dL_law_1128 (fun r1 u1 hr1 => ?_)
  refine g_aload_n F 1 dL_law_1131 rfl ?_
  refine g_aload_n F 3 dL_law_1132 rfl ?_
  refine g_iload_n F 0 dL_law_1133 rfl ?_
  refine g_iconst F dL_law_1134 ?_
  refine g_iadd F dL_law_1135 ?_
  refine g_sld F hX hL2 (by omega) dL_law_1136 ?_
  refine f_callI_R F (stk := [.int (iI (scI xs (i + 1))), .ref (ma 100), .int r1]) (st := [.int r1]) (k_X6_sumOf κ ma M (scI xs (i + 1)) (scI_in _ _) (rel_okM h)) cal_X6_sumOf lm_L_154 0 rfl rfl rfl rfl (by decide) rfl (Nat.le_of_ble_eq_true rfl) dL_law_1137 (fun r2 u2 hr2 => ?_)
  obtain ⟨e, X2, M2, e1, e2, hT⟩ := opl_q h (by rw [relU_a h.1]) hr1 hr2
  subst e e1 e2
  exact g_icmp_same F 1392 dL_law_1140 (by decide) (K X2 M2 hT)
theorem lc_rank {E : gE} {κ : Kp} {xa : Nat → Nat → Nat} {ma : Nat → Nat} {X : XS} {M : MS} {b L : Nat} {xs : Nat → Int32} {i : Int} (F : Fx E κ cL_law "PatchesSameAgeLaw" 4 9) (hX : ScrX E b L xs) (hL : L ≤ 2560) (hi : 0 ≤ i ∧ i + 5 ≤ (L : Int)) (h : relT X M) (K : ∀ (X2 : XS) (M2 : MS), relT X2 M2 → G E (xw κ xa X2 ++ mw κ ma M2) [(3, .int (iI i)), (2, .ref (ma 100)), (1, .ref (xa 18 100)), (0, .ref b)] 1392 []) : G E (xw κ xa X ++ mw κ ma M) [(3, .int (iI i)), (2, .ref (ma 100)), (1, .ref (xa 18 100)), (0, .ref b)] 1145 [] := by
  have hL2 : L ≤ 2147483647 := by omega
  refine g_aload_n F 2 dL_law_1145 rfl ?_
  refine g_aload_n F 3 dL_law_1146 rfl ?_
  refine g_iload_n F 0 dL_law_1147 rfl ?_
  refine g_iconst F dL_law_1148 ?_
  refine g_iadd F dL_law_1149 ?_
  refine g_sld F hX hL2 (by omega) dL_law_1150 ?_
  refine f_callI_L F (stk := [.int (iI (scI xs (i + 1))), .ref (xa 18 100)]) (st := []) (k_X5_rank κ xa X (scI xs (i + 1)) (scI_in _ _) (rel_okX h)) cal_X5_rank lm_L_155 81 rfl rfl rfl rfl (by decide) rfl (Nat.le_of_ble_eq_true rfl) dL_law_1151 (fun r1 u1 hr1 => ?_)
  refine g_aload_n F 1 dL_law_1154 rfl ?_
  refine g_aload_n F 3 dL_law_1155 rfl ?_
  refine g_iload_n F 0 dL_law_1156 rfl ?_
  refine g_iconst F dL_law_1157 ?_
  refine g_iadd F dL_law_1158 ?_
  refine g_sld F hX hL2 (by omega) dL_law_1159 ?_
  refine f_callI_R F (stk := [.int (iI (scI xs (i + 1))), .ref (ma 100), .int r1]) (st := [.int r1]) (k_X6_rank κ ma M (scI xs (i + 1)) (scI_in _ _) (rel_okM h)) cal_X6_rank lm_L_158 0 rfl rfl rfl rfl (by decide) rfl (Nat.le_of_ble_eq_true rfl) dL_law_1160 (fun r2 u2 hr2 => ?_)
  obtain ⟨e, X2, M2, e1, e2, hT⟩ := opl_q h (by rw [relU_w h.1]) hr1 hr2
  subst e e1 e2
  exact g_icmp_same F 1392 dL_law_1163 (by decide) (K X2 M2 hT)
theorem lc_doomed {E : gE} {κ : Kp} {xa : Nat → Nat → Nat} {ma : Nat → Nat} {X : XS} {M : MS} {b L : Nat} {xs : Nat → Int32} {i : Int} (F : Fx E κ cL_law "PatchesSameAgeLaw" 4 9) (hX : ScrX E b L xs) (hL : L ≤ 2560) (hi : 0 ≤ i ∧ i + 5 ≤ (L : Int)) (h : relT X M) (K : ∀ (X2 : XS) (M2 : MS), relT X2 M2 → G E (xw κ xa X2 ++ mw κ ma M2) [(3, .int (iI i)), (2, .ref (ma 100)), (1, .ref (xa 18 100)), (0, .ref b)] 1392 []) : G E (xw κ xa X ++ mw κ ma M) [(3, .int (iI i)), (2, .ref (ma 100)), (1, .ref (xa 18 100)), (0, .ref b)] 1168 [] := by
  have hL2 : L ≤ 2147483647 := by omega
  refine g_aload_n F 2 dL_law_1168 rfl ?_
  refine g_aload_n F 3 dL_law_1169 rfl ?_
  refine g_iload_n F 0 dL_law_1170 rfl ?_
  refine g_iconst F dL_law_1171 ?_
  refine g_iadd F dL_law_1172 ?_
  refine g_sld F hX hL2 (by omega) dL_law_1173 ?_
  refine f_callI_L F (stk := [.int (iI (scI xs (i + 1))), .ref (xa 18 100)]) (st := []) (k_X5_doomed κ xa X (scI xs (i + 1)) (scI_in _ _) (rel_okX h) (rel_yX h)) cal_X5_doomed lm_L_159 81 rfl rfl rfl rfl (by decide) rfl (Nat.le_of_ble_eq_true rfl) dL_law_1174 (fun r1 u1 hr1 => ?_)
  refine g_aload_n F 1 dL_law_1177 rfl ?_
  refine g_aload_n F 3 dL_law_1178 rfl ?_
  refine g_iload_n F 0 dL_law_1179 rfl ?_
  refine g_iconst F dL_law_1180 ?_
  refine g_iadd F dL_law_1181 ?_
  refine g_sld F hX hL2 (by omega) dL_law_1182 ?_
  refine f_callI_R F (stk := [.int (iI (scI xs (i + 1))), .ref (ma 100), .int r1]) (st := [.int r1]) (k_X6_doomed κ ma M (scI xs (i + 1)) (scI_in _ _) (rel_okM h) (rel_yM h)) cal_X6_doomed lm_L_162 0 rfl rfl rfl rfl (by decide) rfl (Nat.le_of_ble_eq_true rfl) dL_law_1183 (fun r2 u2 hr2 => ?_)
  obtain ⟨e, X2, M2, e1, e2, hT⟩ := opl_q h (by rw [rel_cl0 h]) hr1 hr2
  subst e e1 e2
  exact g_icmp_same F 1392 dL_law_1186 (by decide) (K X2 M2 hT)
theorem lc_mean {E : gE} {κ : Kp} {xa : Nat → Nat → Nat} {ma : Nat → Nat} {X : XS} {M : MS} {b L : Nat} {xs : Nat → Int32} {i : Int} (F : Fx E κ cL_law "PatchesSameAgeLaw" 4 9) (hX : ScrX E b L xs) (hL : L ≤ 2560) (hi : 0 ≤ i ∧ i + 5 ≤ (L : Int)) (h : relT X M) (K : ∀ (X2 : XS) (M2 : MS), relT X2 M2 → G E (xw κ xa X2 ++ mw κ ma M2) [(3, .int (iI i)), (2, .ref (ma 100)), (1, .ref (xa 18 100)), (0, .ref b)] 1392 []) : G E (xw κ xa X ++ mw κ ma M) [(3, .int (iI i)), (2, .ref (ma 100)), (1, .ref (xa 18 100)), (0, .ref b)] 1191 [] := by
  have hL2 : L ≤ 2147483647 := by omega
  refine g_aload_n F 2 dL_law_1191 rfl ?_
  refine g_aload_n F 3 dL_law_1192 rfl ?_
  refine g_iload_n F 0 dL_law_1193 rfl ?_
  refine g_iconst F dL_law_1194 ?_
  refine g_iadd F dL_law_1195 ?_
  refine g_sld F hX hL2 (by omega) dL_law_1196 ?_
  refine f_callL_L F (stk := [.int (iI (scI xs (i + 1))), .ref (xa 18 100)]) (st := []) (k_X5_mean κ xa X (scI xs (i + 1)) (scI_in _ _) (rel_okX h)) cal_X5_mean lm_L_163 81 rfl rfl rfl rfl (by decide) rfl (Nat.le_of_ble_eq_true rfl) dL_law_1197 (fun r1 u1 hr1 => ?_)
  refine g_aload_n F 1 dL_law_1200 rfl ?_
  refine g_aload_n F 3 dL_law_1201 rfl ?_
  refine g_iload_n F 0 dL_law_1202 rfl ?_
  refine g_iconst F dL_law_1203 ?_
  refine g_iadd F dL_law_1204 ?_
  refine g_sld F hX hL2 (by omega) dL_law_1205 ?_
  refine f_callL_R F (stk := [.int (iI (scI xs (i + 1))), .ref (ma 100), .long r1]) (st := [.long r1]) (k_X6_mean κ ma M (scI xs (i + 1)) (scI_in _ _) (rel_okM h)) cal_X6_mean lm_L_167 0 rfl rfl rfl rfl (by decide) rfl (Nat.le_of_ble_eq_true rfl) dL_law_1206 (fun r2 u2 hr2 => ?_)
  obtain ⟨e, X2, M2, e1, e2, hT⟩ := opl_L h (by rw [rel_cl0 h]) hr1 hr2
  subst e e1 e2
  refine g_lcmp_same F dL_law_1209 ?_
  exact g_if_eq F 1392 (by decide) dL_law_1210 (by decide) (fun _ => K X2 M2 hT) (fun q => absurd rfl q)
theorem lc_younger {E : gE} {κ : Kp} {xa : Nat → Nat → Nat} {ma : Nat → Nat} {X : XS} {M : MS} {b L : Nat} {xs : Nat → Int32} {i : Int} (F : Fx E κ cL_law "PatchesSameAgeLaw" 4 9) (hX : ScrX E b L xs) (hL : L ≤ 2560) (hi : 0 ≤ i ∧ i + 5 ≤ (L : Int)) (h : relT X M) (K : ∀ (X2 : XS) (M2 : MS), relT X2 M2 → G E (xw κ xa X2 ++ mw κ ma M2) [(3, .int (iI i)), (2, .ref (ma 100)), (1, .ref (xa 18 100)), (0, .ref b)] 1392 []) : G E (xw κ xa X ++ mw κ ma M) [(3, .int (iI i)), (2, .ref (ma 100)), (1, .ref (xa 18 100)), (0, .ref b)] 1215 [] := by
  have hL2 : L ≤ 2147483647 := by omega
  refine g_aload_n F 2 dL_law_1215 rfl ?_
  refine g_aload_n F 3 dL_law_1216 rfl ?_
  refine g_iload_n F 0 dL_law_1217 rfl ?_
  refine g_iconst F dL_law_1218 ?_
  refine g_iadd F dL_law_1219 ?_
  refine g_sld F hX hL2 (by omega) dL_law_1220 ?_
  refine f_callI_L F (stk := [.int (iI (scI xs (i + 1))), .ref (xa 18 100)]) (st := []) (k_X5_younger κ xa X (scI xs (i + 1)) (scI_in _ _) (rel_okX h) (rel_yX h)) cal_X5_younger lm_L_168 81 rfl rfl rfl rfl (by decide) rfl (Nat.le_of_ble_eq_true rfl) dL_law_1221 (fun r1 u1 hr1 => ?_)
  refine g_aload_n F 1 dL_law_1224 rfl ?_
  refine g_aload_n F 3 dL_law_1225 rfl ?_
  refine g_iload_n F 0 dL_law_1226 rfl ?_
  refine g_iconst F dL_law_1227 ?_
  refine g_iadd F dL_law_1228 ?_
  refine g_sld F hX hL2 (by omega) dL_law_1229 ?_
  refine f_callI_R F (stk := [.int (iI (scI xs (i + 1))), .ref (ma 100), .int r1]) (st := [.int r1]) (k_X6_younger κ ma M (scI xs (i + 1)) (scI_in _ _) (rel_okM h) (rel_yM h)) cal_X6_younger lm_L_171 0 rfl rfl rfl rfl (by decide) rfl (Nat.le_of_ble_eq_true rfl) dL_law_1230 (fun r2 u2 hr2 => ?_)
  obtain ⟨e, X2, M2, e1, e2, hT⟩ := opl_2 h (by rw [rel_cl0 h]) hr1 hr2
  subst e e1 e2
  exact g_icmp_same F 1392 dL_law_1233 (by decide) (K X2 M2 hT)
theorem lc_unlike {E : gE} {κ : Kp} {xa : Nat → Nat → Nat} {ma : Nat → Nat} {X : XS} {M : MS} {b L : Nat} {xs : Nat → Int32} {i : Int} (F : Fx E κ cL_law "PatchesSameAgeLaw" 4 9) (hX : ScrX E b L xs) (hL : L ≤ 2560) (hi : 0 ≤ i ∧ i + 5 ≤ (L : Int)) (h : relT X M) (K : ∀ (X2 : XS) (M2 : MS), relT X2 M2 → G E (xw κ xa X2 ++ mw κ ma M2) [(3, .int (iI i)), (2, .ref (ma 100)), (1, .ref (xa 18 100)), (0, .ref b)] 1392 []) : G E (xw κ xa X ++ mw κ ma M) [(3, .int (iI i)), (2, .ref (ma 100)), (1, .ref (xa 18 100)), (0, .ref b)] 1238 [] := by
  have hL2 : L ≤ 2147483647 := by omega
  refine g_aload_n F 2 dL_law_1238 rfl ?_
  refine f_callI_L F (stk := [.ref (xa 18 100)]) (st := []) (k_X5_unlike κ xa X (rel_okX h)) cal_X5_unlike lm_L_172 81 rfl rfl rfl rfl (by decide) rfl (Nat.le_of_ble_eq_true rfl) dL_law_1239 (fun r1 u1 hr1 => ?_)
  refine g_aload_n F 1 dL_law_1242 rfl ?_
  refine f_callI_R F (stk := [.ref (ma 100), .int r1]) (st := [.int r1]) (k_X6_unlike κ ma M (rel_okM h)) cal_X6_unlike lm_L_175 0 rfl rfl rfl rfl (by decide) rfl (Nat.le_of_ble_eq_true rfl) dL_law_1243 (fun r2 u2 hr2 => ?_)
  obtain ⟨e, X2, M2, e1, e2, hT⟩ := opl_q h (by rw [relU_a h.1]) hr1 hr2
  subst e e1 e2
  exact g_icmp_same F 1392 dL_law_1246 (by decide) (K X2 M2 hT)
theorem lc_row {E : gE} {κ : Kp} {xa : Nat → Nat → Nat} {ma : Nat → Nat} {X : XS} {M : MS} {b L : Nat} {xs : Nat → Int32} {i : Int} (F : Fx E κ cL_law "PatchesSameAgeLaw" 4 9) (hX : ScrX E b L xs) (hL : L ≤ 2560) (hi : 0 ≤ i ∧ i + 5 ≤ (L : Int)) (h : relT X M) (K : ∀ (X2 : XS) (M2 : MS), relT X2 M2 → G E (xw κ xa X2 ++ mw κ ma M2) [(3, .int (iI i)), (2, .ref (ma 100)), (1, .ref (xa 18 100)), (0, .ref b)] 1392 []) : G E (xw κ xa X ++ mw κ ma M) [(3, .int (iI i)), (2, .ref (ma 100)), (1, .ref (xa 18 100)), (0, .ref b)] 1251 [] := by
  have hL2 : L ≤ 2147483647 := by omega
  refine g_aload_n F 2 dL_law_1251 rfl ?_
  refine g_aload_n F 3 dL_law_1252 rfl ?_
  refine g_iload_n F 0 dL_law_1253 rfl ?_
  refine g_iconst F dL_law_1254 ?_
  refine g_iadd F dL_law_1255 ?_
  refine g_sld F hX hL2 (by omega) dL_law_1256 ?_
  refine f_callI_L F (stk := [.int (iI (scI xs (i + 1))), .ref (xa 18 100)]) (st := []) (k_X5_row κ xa X (scI xs (i + 1)) (scI_in _ _) (rel_nX h)) cal_X5_row lm_L_176 81 rfl rfl rfl rfl (by decide) rfl (Nat.le_of_ble_eq_true rfl) dL_law_1257 (fun r1 u1 hr1 => ?_)
  refine g_aload_n F 1 dL_law_1260 rfl ?_
  refine g_aload_n F 3 dL_law_1261 rfl ?_
  refine g_iload_n F 0 dL_law_1262 rfl ?_
  refine g_iconst F dL_law_1263 ?_
  refine g_iadd F dL_law_1264 ?_
  refine g_sld F hX hL2 (by omega) dL_law_1265 ?_
  refine f_callI_R F (stk := [.int (iI (scI xs (i + 1))), .ref (ma 100), .int r1]) (st := [.int r1]) (k_X6_row κ ma M (scI xs (i + 1)) (scI_in _ _) (rel_nM h)) cal_X6_row lm_L_179 0 rfl rfl rfl rfl (by decide) rfl (Nat.le_of_ble_eq_true rfl) dL_law_1266 (fun r2 u2 hr2 => ?_)
  obtain ⟨e, X2, M2, e1, e2, hT⟩ := opl_s h (eff_row h.1 _) (by rw [h.1.2.2.2.1.2.1]) hr1 hr2
  subst e e1 e2
  exact g_icmp_same F 1392 dL_law_1269 (by decide) (K X2 M2 hT)
theorem lc_judge {E : gE} {κ : Kp} {xa : Nat → Nat → Nat} {ma : Nat → Nat} {X : XS} {M : MS} {b L : Nat} {xs : Nat → Int32} {i : Int} (F : Fx E κ cL_law "PatchesSameAgeLaw" 4 9) (hX : ScrX E b L xs) (hL : L ≤ 2560) (hi : 0 ≤ i ∧ i + 5 ≤ (L : Int)) (h : relT X M) (K : ∀ (X2 : XS) (M2 : MS), relT X2 M2 → G E (xw κ xa X2 ++ mw κ ma M2) [(3, .int (iI i)), (2, .ref (ma 100)), (1, .ref (xa 18 100)), (0, .ref b)] 1392 []) : G E (xw κ xa X ++ mw κ ma M) [(3, .int (iI i)), (2, .ref (ma 100)), (1, .ref (xa 18 100)), (0, .ref b)] 1274 [] := by
  have hL2 : L ≤ 2147483647 := by omega
  refine g_aload_n F 2 dL_law_1274 rfl ?_
  refine f_callI_L F (stk := [.ref (xa 18 100)]) (st := []) (k_X5_judge κ xa X (rel_okX h) (rel_nX h) (rel_roX h)) cal_X5_judge lm_L_180 81 rfl rfl rfl rfl (by decide) rfl (Nat.le_of_ble_eq_true rfl) dL_law_1275 (fun r1 u1 hr1 => ?_)
  refine g_aload_n F 1 dL_law_1278 rfl ?_
  refine f_callI_R F (stk := [.ref (ma 100), .int r1]) (st := [.int r1]) (k_X6_judge κ ma M (rel_okM h) (rel_nM h) (rel_roM h)) cal_X6_judge lm_L_183 0 rfl rfl rfl rfl (by decide) rfl (Nat.le_of_ble_eq_true rfl) dL_law_1279 (fun r2 u2 hr2 => ?_)
  obtain ⟨e, X2, M2, e1, e2, hT⟩ := opl_s h (eff_judge h.1) (by rw [relU_a h.1, h.1.2.2.2.1.1, h.1.2.2.2.1.2.1]) hr1 hr2
  subst e e1 e2
  exact g_icmp_same F 1392 dL_law_1282 (by decide) (K X2 M2 hT)
theorem lc_clear {E : gE} {κ : Kp} {xa : Nat → Nat → Nat} {ma : Nat → Nat} {X : XS} {M : MS} {b L : Nat} {xs : Nat → Int32} {i : Int} (F : Fx E κ cL_law "PatchesSameAgeLaw" 4 9) (hX : ScrX E b L xs) (hL : L ≤ 2560) (hi : 0 ≤ i ∧ i + 5 ≤ (L : Int)) (h : relT X M) (K : ∀ (X2 : XS) (M2 : MS), relT X2 M2 → G E (xw κ xa X2 ++ mw κ ma M2) [(3, .int (iI i)), (2, .ref (ma 100)), (1, .ref (xa 18 100)), (0, .ref b)] 1392 []) : G E (xw κ xa X ++ mw κ ma M) [(3, .int (iI i)), (2, .ref (ma 100)), (1, .ref (xa 18 100)), (0, .ref b)] 1287 [] := by
  have hL2 : L ≤ 2147483647 := by omega
  refine g_aload_n F 2 dL_law_1287 rfl ?_
  refine f_callI_L F (stk := [.ref (xa 18 100)]) (st := []) (k_X5_clear κ xa X (rel_nX h)) cal_X5_clear lm_L_184 81 rfl rfl rfl rfl (by decide) rfl (Nat.le_of_ble_eq_true rfl) dL_law_1288 (fun r1 u1 hr1 => ?_)
  refine g_aload_n F 1 dL_law_1291 rfl ?_
  refine f_callI_R F (stk := [.ref (ma 100), .int r1]) (st := [.int r1]) (k_X6_clear κ ma M (rel_nM h)) cal_X6_clear lm_L_187 0 rfl rfl rfl rfl (by decide) rfl (Nat.le_of_ble_eq_true rfl) dL_law_1292 (fun r2 u2 hr2 => ?_)
  obtain ⟨e, X2, M2, e1, e2, hT⟩ := opl_s h (eff_judge h.1) (by rw [h.1.2.2.2.1.2.1]) hr1 hr2
  subst e e1 e2
  exact g_icmp_same F 1392 dL_law_1295 (by decide) (K X2 M2 hT)
theorem lc_lots {E : gE} {κ : Kp} {xa : Nat → Nat → Nat} {ma : Nat → Nat} {X : XS} {M : MS} {b L : Nat} {xs : Nat → Int32} {i : Int} (F : Fx E κ cL_law "PatchesSameAgeLaw" 4 9) (hX : ScrX E b L xs) (hL : L ≤ 2560) (hi : 0 ≤ i ∧ i + 5 ≤ (L : Int)) (h : relT X M) (K : ∀ (X2 : XS) (M2 : MS), relT X2 M2 → G E (xw κ xa X2 ++ mw κ ma M2) [(3, .int (iI i)), (2, .ref (ma 100)), (1, .ref (xa 18 100)), (0, .ref b)] 1392 []) : G E (xw κ xa X ++ mw κ ma M) [(3, .int (iI i)), (2, .ref (ma 100)), (1, .ref (xa 18 100)), (0, .ref b)] 1300 [] := by
  have hL2 : L ≤ 2147483647 := by omega
  refine g_aload_n F 2 dL_law_1300 rfl ?_
  refine g_aload_n F 3 dL_law_1301 rfl ?_
  refine g_iload_n F 0 dL_law_1302 rfl ?_
  refine g_iconst F dL_law_1303 ?_
  refine g_iadd F dL_law_1304 ?_
  refine g_sld F hX hL2 (by omega) dL_law_1305 ?_
  refine g_aload_n F 3 dL_law_1306 rfl ?_
  refine g_iload_n F 0 dL_law_1307 rfl ?_
  refine g_iconst F dL_law_1308 ?_
  refine g_iadd F dL_law_1309 ?_
  refine g_sld F hX hL2 (by omega) dL_law_1310 ?_
  refine g_aload_n F 3 dL_law_1311 rfl ?_
  refine g_iload_n F 0 dL_law_1312 rfl ?_
  refine g_iconst F dL_law_1313 ?_
  refine g_iadd F dL_law_1314 ?_
  refine g_sld F hX hL2 (by omega) dL_law_1315 ?_
  refine f_callI_L F (stk := [.int (iI (scI xs (i + 3))), .int (iI (scI xs (i + 2))), .int (iI (scI xs (i + 1))), .ref (xa 18 100)]) (st := []) (k_X5_lots κ xa X (scI xs (i + 1)) (scI xs (i + 2)) (scI xs (i + 3)) (scI_in _ _) (scI_in _ _) (scI_in _ _) (rel_okX h) (rel_yX h)) cal_X5_lots lm_L_188 81 rfl rfl rfl rfl (by decide) rfl (Nat.le_of_ble_eq_true rfl) dL_law_1316 (fun r1 u1 hr1 => ?_)
  refine g_aload_n F 1 dL_law_1319 rfl ?_
  refine g_aload_n F 3 dL_law_1320 rfl ?_
  refine g_iload_n F 0 dL_law_1321 rfl ?_
  refine g_iconst F dL_law_1322 ?_
  refine g_iadd F dL_law_1323 ?_
  refine g_sld F hX hL2 (by omega) dL_law_1324 ?_
  refine g_aload_n F 3 dL_law_1325 rfl ?_
  refine g_iload_n F 0 dL_law_1326 rfl ?_
  refine g_iconst F dL_law_1327 ?_
  refine g_iadd F dL_law_1328 ?_
  refine g_sld F hX hL2 (by omega) dL_law_1329 ?_
  refine g_aload_n F 3 dL_law_1330 rfl ?_
  refine g_iload_n F 0 dL_law_1331 rfl ?_
  refine g_iconst F dL_law_1332 ?_
  refine g_iadd F dL_law_1333 ?_
  refine g_sld F hX hL2 (by omega) dL_law_1334 ?_
  refine f_callI_R F (stk := [.int (iI (scI xs (i + 3))), .int (iI (scI xs (i + 2))), .int (iI (scI xs (i + 1))), .ref (ma 100), .int r1]) (st := [.int r1]) (k_X6_lots κ ma M (scI xs (i + 1)) (scI xs (i + 2)) (scI xs (i + 3)) (scI_in _ _) (scI_in _ _) (scI_in _ _) (rel_okM h) (rel_yM h)) cal_X6_lots lm_L_191 0 rfl rfl rfl rfl (by decide) rfl (Nat.le_of_ble_eq_true rfl) dL_law_1335 (fun r2 u2 hr2 => ?_)
  obtain ⟨e, X2, M2, e1, e2, hT⟩ := opl_q h (by rw [rel_cl0 h]) hr1 hr2
  subst e e1 e2
  exact g_icmp_same F 1392 dL_law_1338 (by decide) (K X2 M2 hT)
theorem lc_image {E : gE} {κ : Kp} {xa : Nat → Nat → Nat} {ma : Nat → Nat} {X : XS} {M : MS} {b L : Nat} {xs : Nat → Int32} {i : Int} (F : Fx E κ cL_law "PatchesSameAgeLaw" 4 9) (hX : ScrX E b L xs) (hL : L ≤ 2560) (hi : 0 ≤ i ∧ i + 5 ≤ (L : Int)) (h : relT X M) (K : ∀ (X2 : XS) (M2 : MS), relT X2 M2 → G E (xw κ xa X2 ++ mw κ ma M2) [(3, .int (iI i)), (2, .ref (ma 100)), (1, .ref (xa 18 100)), (0, .ref b)] 1392 []) : G E (xw κ xa X ++ mw κ ma M) [(3, .int (iI i)), (2, .ref (ma 100)), (1, .ref (xa 18 100)), (0, .ref b)] 1343 [] := by
  have hL2 : L ≤ 2147483647 := by omega
  refine g_aload_n F 2 dL_law_1343 rfl ?_
  refine f_callI_L F (stk := [.ref (xa 18 100)]) (st := []) (k_X5_image κ xa X (rel_okX h)) cal_X5_image lm_L_192 81 rfl rfl rfl rfl (by decide) rfl (Nat.le_of_ble_eq_true rfl) dL_law_1344 (fun r1 u1 hr1 => ?_)
  refine g_aload_n F 1 dL_law_1347 rfl ?_
  refine f_callI_R F (stk := [.ref (ma 100), .int r1]) (st := [.int r1]) (k_X6_image κ ma M (rel_okM h)) cal_X6_image lm_L_195 0 rfl rfl rfl rfl (by decide) rfl (Nat.le_of_ble_eq_true rfl) dL_law_1348 (fun r2 u2 hr2 => ?_)
  obtain ⟨e, X2, M2, e1, e2, hT⟩ := opl_s h (eff_image h.1) (by rw [relU_y h.1]) hr1 hr2
  subst e e1 e2
  exact g_icmp_same F 1392 dL_law_1351 (by decide) (K X2 M2 hT)
theorem lc_restore {E : gE} {κ : Kp} {xa : Nat → Nat → Nat} {ma : Nat → Nat} {X : XS} {M : MS} {b L : Nat} {xs : Nat → Int32} {i : Int} (F : Fx E κ cL_law "PatchesSameAgeLaw" 4 9) (hX : ScrX E b L xs) (hL : L ≤ 2560) (hi : 0 ≤ i ∧ i + 5 ≤ (L : Int)) (h : relT X M) (K : ∀ (X2 : XS) (M2 : MS), relT X2 M2 → G E (xw κ xa X2 ++ mw κ ma M2) [(3, .int (iI i)), (2, .ref (ma 100)), (1, .ref (xa 18 100)), (0, .ref b)] 1392 []) : G E (xw κ xa X ++ mw κ ma M) [(3, .int (iI i)), (2, .ref (ma 100)), (1, .ref (xa 18 100)), (0, .ref b)] 1356 [] := by
  have hL2 : L ≤ 2147483647 := by omega
  obtain ⟨S, hS, hy, he, hN⟩ := restore_S h.1
  refine g_aload_n F 2 dL_law_1356 rfl ?_
  refine f_callI_L F (stk := [.ref (xa 18 100)]) (st := []) (k_X5_restore κ xa X (rel_iX h) (rel_y1X h)) cal_X5_restore lm_L_196 81 rfl rfl rfl rfl (by decide) rfl (Nat.le_of_ble_eq_true rfl) dL_law_1357 (fun r1 u1 hr1 => ?_)
  refine g_aload_n F 1 dL_law_1360 rfl ?_
  refine f_callI_R F (stk := [.ref (ma 100), .int r1]) (st := [.int r1]) (k_X6_restore κ ma M S (rel_iM h) hS hy) cal_X6_restore lm_L_199 0 rfl rfl rfl rfl (by decide) rfl (Nat.le_of_ble_eq_true rfl) dL_law_1361 (fun r2 u2 hr2 => ?_)
  obtain ⟨e, X2, M2, e1, e2, hT⟩ := opl_s h hN (rel_rest h he) hr1 hr2
  subst e e1 e2
  exact g_icmp_same F 1392 dL_law_1364 (by decide) (K X2 M2 hT)
theorem lc_count {E : gE} {κ : Kp} {xa : Nat → Nat → Nat} {ma : Nat → Nat} {X : XS} {M : MS} {b L : Nat} {xs : Nat → Int32} {i : Int} (F : Fx E κ cL_law "PatchesSameAgeLaw" 4 9) (hX : ScrX E b L xs) (hL : L ≤ 2560) (hi : 0 ≤ i ∧ i + 5 ≤ (L : Int)) (h : relT X M) (K : ∀ (X2 : XS) (M2 : MS), relT X2 M2 → G E (xw κ xa X2 ++ mw κ ma M2) [(3, .int (iI i)), (2, .ref (ma 100)), (1, .ref (xa 18 100)), (0, .ref b)] 1392 []) : G E (xw κ xa X ++ mw κ ma M) [(3, .int (iI i)), (2, .ref (ma 100)), (1, .ref (xa 18 100)), (0, .ref b)] 1369 [] := by
  have hL2 : L ≤ 2147483647 := by omega
  refine g_aload_n F 2 dL_law_1369 rfl ?_
  refine g_aload_n F 3 dL_law_1370 rfl ?_
  refine g_iload_n F 0 dL_law_1371 rfl ?_
  refine g_iconst F dL_law_1372 ?_
  refine g_iadd F dL_law_1373 ?_
  refine g_sld F hX hL2 (by omega) dL_law_1374 ?_
  refine f_callI_L F (stk := [.int (iI (scI xs (i + 1))), .ref (xa 18 100)]) (st := []) (k_X5_count κ xa X (scI xs (i + 1)) (scI_in _ _) (rel_okX h) (rel_rX h)) cal_X5_count lm_L_200 81 rfl rfl rfl rfl (by decide) rfl (Nat.le_of_ble_eq_true rfl) dL_law_1375 (fun r1 u1 hr1 => ?_)
  refine g_aload_n F 1 dL_law_1378 rfl ?_
  refine g_aload_n F 3 dL_law_1379 rfl ?_
  refine g_iload_n F 0 dL_law_1380 rfl ?_
  refine g_iconst F dL_law_1381 ?_
  refine g_iadd F dL_law_1382 ?_
  refine g_sld F hX hL2 (by omega) dL_law_1383 ?_
  refine f_callI_R F (stk := [.int (iI (scI xs (i + 1))), .ref (ma 100), .int r1]) (st := [.int r1]) (k_X6_count κ ma M (scI xs (i + 1)) (scI_in _ _) (rel_okM h) (rel_rM h)) cal_X6_count lm_L_203 0 rfl rfl rfl rfl (by decide) rfl (Nat.le_of_ble_eq_true rfl) dL_law_1384 (fun r2 u2 hr2 => ?_)
  obtain ⟨e, X2, M2, e1, e2, hT⟩ := opl_2 h (by rw [rel_free h, rel_p5 h, rel_cl0 h, h.1.2.2.1.2.1, h.1.2.2.2.1.2.1, rel_28 h, h.2]) hr1 hr2
  subst e e1 e2
  exact g_icmp_same F 1392 dL_law_1387 (by decide) (K X2 M2 hT)
