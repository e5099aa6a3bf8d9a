def qM2 (κ : Kp) (ma : Nat → Nat) (M : MS) (q s : Int) : Int32 → va_W → Prop := fun r w => ∃ M2, w = mw κ ma M2 ∧ r = iI q ∧ sameM M M2 ∧ M2 11 = rfa (M 11) s
def qX2 (κ : Kp) (xa : Nat → Nat → Nat) (X : XS) (q s : Int) : Int32 → va_W → Prop := fun r w => ∃ X2, w = xw κ xa X2 ∧ r = iI q ∧ sameX X X2 ∧ X2 18 6 = rfa (X 18 6) s
/-- the bits of a that b has not -/
def dm (a b : Int) : Int := (iI a &&& (iI b ^^^ iI (-1))).toInt
theorem dm_bd {a : Int} (b : Int) (h0 : 0 ≤ a) (h1 : a < 4096) : 0 ≤ dm a b := by
  have e : dm a b = ((iI a).toBitVec &&& (iI b ^^^ iI (-1)).toBitVec).toInt := by unfold dm Int32.toInt; rw [Int32.toBitVec_and]
  rw [e, BitVec.toInt_pos_iff, BitVec.toNat_and]
  have k : 0 ≤ (iI a).toBitVec.toInt := by
    have := iI_toInt (z := a) (by omega)
    unfold Int32.toInt at this
    omega
  have k2 := BitVec.toInt_pos_iff.mp k
  have k3 := @Nat.and_le_left (iI a).toBitVec.toNat (iI b ^^^ iI (-1)).toBitVec.toNat
  omega
def qDoomed (C : Cl) (n : Int) : Int := if n < 0 then -4 else if 60 < n then -6 else dm (hbits (goI n C)) (hbits C)
def sYounger (v : Int) : Int := if v < 0 then -4 else if 99 < v then -6 else 0
def qYounger (C : Cl) (v : Int) : Int := if v < 0 then 1000000004 else if 99 < v then 1000000006 else mn C - mn (older C v)
theorem ageOn_bd {C : Cl} (ok : okC C) {v : Int} (hv : 0 ≤ v) : ∀ c : Int, 0 ≤ c → c < 12 → 0 ≤ ageOn C v c ∧ ageOn C v c ≤ 99 := fun c a b => by have := ok.a c a b; unfold ageOn; omega
theorem older_ok {C : Cl} (ok : okC C) {v : Int} (hv : 0 ≤ v) : okC (older C v) := okC.mk ok.k ok.f (fun j a b => by show 0 ≤ upTo (ag C) (ageOn C v) 12 j ∧ upTo (ag C) (ageOn C v) 12 j ≤ 99; rw [upTo_in a b]; exact ageOn_bd ok hv j a b) ok.w ok.2
theorem held_ageV {C : Cl} (ok : okC C) {c v : Int} (h0 : 0 ≤ c) (h1 : c < 12) (hv : 0 ≤ v) : held (ag C c + v) 99 = ageOn C v c := by
  have := ok.a c h0 h1
  unfold held ageOn
  repeat' split
  all_goals omega
theorem mn_bd (C : Cl) : 0 ≤ mn C ∧ mn C ≤ 61 := lasts_bd _ _
/-- from year s on, the first with a hole there (61: none to 60) -/
def ycN (c : Int) : Nat → Cl → Int → Int
  | 0, _, _ => 61
  | k + 1, C, n => if hole C c then n else ycN c k (yearOn C) (n + 1)
def ych (C : Cl) (c s : Int) : Int := ycN c (61 - s).toNat C s
theorem ych_s {C : Cl} {c n : Int} (h : n ≤ 60) : ych C c n = if hole C c then n else ych (yearOn C) c (n + 1) := by
  unfold ych
  rw [show (61 - n).toNat = (61 - (n + 1)).toNat + 1 by omega]
  rfl
theorem yth_ych {c : Int} (hc : 0 ≤ c) (h : c < 12) : ∀ (k : Nat) (C : Cl) (s : Int), yth (p2 c) k C s = ycN c k C s
  | 0, _, _ => rfl
  | k + 1, C, s => by
    show (if band (hbits C) (p2 c) = 0 then yth (p2 c) k (yearOn C) (s + 1) else s) = if hole C c then s else ycN c k (yearOn C) (s + 1)
    rw [yth_ych hc h k (yearOn C) (s + 1)]
    by_cases q : hole C c
    · rw [if_pos q, if_neg (fun z => absurd q ((hb_p2 C hc h).mp z))]
    · rw [if_neg q, if_pos ((hb_p2 C hc h).mpr q)]
theorem yth_ch {C : Cl} {c s : Int} (hc : 0 ≤ c) (h : c < 12) : ythI C (p2 c) s = ych C c s := yth_ych hc h _ C s
theorem ycN_bd (c : Int) : ∀ (k : Nat) (C : Cl) (s : Int), s + k = 61 → 0 ≤ s → 0 ≤ ycN c k C s ∧ ycN c k C s ≤ 61
  | 0, _, _, _, _ => ⟨by show (0 : Int) ≤ 61; decide, by show (61 : Int) ≤ 61; decide⟩
  | k + 1, C, s, h, h0 => by
    have ih := ycN_bd c k (yearOn C) (s + 1) (by omega) (by omega)
    unfold ycN
    split <;> omega
theorem ych_bd (C : Cl) (c : Int) {s : Int} (h0 : 0 ≤ s) (h : s ≤ 61) : 0 ≤ ych C c s ∧ ych C c s ≤ 61 := ycN_bd c _ C s (by omega) h0
def sWhen (C : Cl) (pk pf pa : Int → Int) (p c n : Int) : Int × Int := smx yes (fun y => ych (mkp (goI y C) pk pf pa p c) c y) (fun y => y) (0, -1) n
def qWhen (C : Cl) (pk pf pa u : Int → Int) (n p c : Int) : Int := if ¬ ((0 ≤ p ∧ p < n) ∧ 0 ≤ c ∧ c < 12) then -1 else if u p = 1 then -3 else (sWhen C pk pf pa p c 31).1
theorem dX6_doomed_0 : decode cX6_doomed 0 = .ok (.aload_n 0, 1) := by decide +kernel
theorem dX6_doomed_1 : decode cX6_doomed 1 = .ok (.iconst 0, 1) := by decide +kernel
theorem dX6_doomed_2 : decode cX6_doomed 2 = .ok (.putfield 91, 3) := by decide +kernel
theorem dX6_doomed_5 : decode cX6_doomed 5 = .ok (.iload_n 1, 1) := by decide +kernel
theorem dX6_doomed_6 : decode cX6_doomed 6 = .ok (.iconst 0, 1) := by decide +kernel
theorem dX6_doomed_7 : decode cX6_doomed 7 = .ok (.bipush 60, 2) := by decide +kernel
theorem dX6_doomed_9 : decode cX6_doomed 9 = .ok (.invokestatic 237, 3) := by decide +kernel
theorem dX6_doomed_12 : decode cX6_doomed 12 = .ok (.ifCond .ge 15, 3) := by decide +kernel
theorem dX6_doomed_15 : decode cX6_doomed 15 = .ok (.aload_n 0, 1) := by decide +kernel
theorem dX6_doomed_16 : decode cX6_doomed 16 = .ok (.iload_n 1, 1) := by decide +kernel
theorem dX6_doomed_17 : decode cX6_doomed 17 = .ok (.iconst 0, 1) := by decide +kernel
theorem dX6_doomed_18 : decode cX6_doomed 18 = .ok (.bipush 60, 2) := by decide +kernel
theorem dX6_doomed_20 : decode cX6_doomed 20 = .ok (.invokestatic 237, 3) := by decide +kernel
theorem dX6_doomed_23 : decode cX6_doomed 23 = .ok (.invokevirtual 138, 3) := by decide +kernel
theorem dX6_doomed_26 : decode cX6_doomed 26 = .ok (.ireturn, 1) := by decide +kernel
theorem dX6_doomed_27 : decode cX6_doomed 27 = .ok (.aload_n 0, 1) := by decide +kernel
theorem dX6_doomed_28 : decode cX6_doomed 28 = .ok (.invokevirtual 241, 3) := by decide +kernel
theorem dX6_doomed_31 : decode cX6_doomed 31 = .ok (.istore_n 2, 1) := by decide +kernel
theorem dX6_doomed_32 : decode cX6_doomed 32 = .ok (.aload_n 0, 1) := by decide +kernel
theorem dX6_doomed_33 : decode cX6_doomed 33 = .ok (.invokevirtual 191, 3) := by decide +kernel
theorem dX6_doomed_36 : decode cX6_doomed 36 = .ok (.aload_n 0, 1) := by decide +kernel
theorem dX6_doomed_37 : decode cX6_doomed 37 = .ok (.iload_n 1, 1) := by decide +kernel
theorem dX6_doomed_38 : decode cX6_doomed 38 = .ok (.invokevirtual 184, 3) := by decide +kernel
theorem dX6_doomed_41 : decode cX6_doomed 41 = .ok (.aload_n 0, 1) := by decide +kernel
theorem dX6_doomed_42 : decode cX6_doomed 42 = .ok (.invokevirtual 241, 3) := by decide +kernel
theorem dX6_doomed_45 : decode cX6_doomed 45 = .ok (.istore_n 3, 1) := by decide +kernel
theorem dX6_doomed_46 : decode cX6_doomed 46 = .ok (.aload_n 0, 1) := by decide +kernel
theorem dX6_doomed_47 : decode cX6_doomed 47 = .ok (.invokevirtual 197, 3) := by decide +kernel
theorem dX6_doomed_50 : decode cX6_doomed 50 = .ok (.iload_n 3, 1) := by decide +kernel
theorem dX6_doomed_51 : decode cX6_doomed 51 = .ok (.iload_n 2, 1) := by decide +kernel
theorem dX6_doomed_52 : decode cX6_doomed 52 = .ok (.iconst (-1), 1) := by decide +kernel
theorem dX6_doomed_53 : decode cX6_doomed 53 = .ok (.ixor, 1) := by decide +kernel
theorem dX6_doomed_54 : decode cX6_doomed 54 = .ok (.iand, 1) := by decide +kernel
theorem dX6_doomed_55 : decode cX6_doomed 55 = .ok (.ireturn, 1) := by decide +kernel
set_option maxRecDepth 100000 in
set_option maxHeartbeats 4000000 in
theorem k_X6_doomed (κ : Kp) (ma : Nat → Nat) (M : MS) (n : Int)  (ha_n : In32 n) (ok : okC (cl M)) (hy : M 4 0 ≤ 999) : mI κ yX6_doomed cX6_doomed 4 .int 5 [.ref (ma 100), .int (iI n)] (mw κ ma M) (qM κ ma M (qDoomed (cl M) n)) := by
  refine mI_of (by decide) (Nat.le_of_ble_eq_true rfl) (fun E F K => ?_)
  refine g_lv (lv' := [(0, .ref (ma 100)), (1, .int (iI n))]) rfl ?_
  refine g_aload_n F 0 dX6_doomed_0 rfl ?_
  refine g_iconst F dX6_doomed_1 ?_
  refine gm_put_10 F dX6_doomed_2 ?_
  refine g_iload_n F 1 dX6_doomed_5 rfl ?_
  refine g_iconst F dX6_doomed_6 ?_
  refine g_bipush F dX6_doomed_7 (by decide +kernel) ?_
  refine g_callSI F (stk := [.int (iI 60), .int (iI 0), .int (iI n)]) (st := []) (k_X6_wrongNumber κ (mw κ ma (mA M 10 (fun _ => 0))) n 0 60 (by omega)) cal_X6_wrongNumber lm_X6_237 rfl (by decide) rfl (Nat.le_of_ble_eq_true rfl) dX6_doomed_9 (fun r9 ws9 _ hr9 => ?_)
  obtain ⟨rfl, rfl⟩ := hr9
  have hwn9 := wn_spec n 0 60
  refine g_if_ge F 27 (by omega) dX6_doomed_12 (by decide) (fun c12 => ?_) (fun c12 => ?_)
  · skip
    refine g_aload_n F 0 dX6_doomed_27 rfl ?_
    refine g_callI F (stk := [.ref (ma 100)]) (st := []) (k_X6_holeBits κ ma (mA M 10 (fun _ => 0)) ok) cal_X6_holeBits lm_X6_241 0 rfl rfl rfl rfl (by decide) rfl (Nat.le_of_ble_eq_true rfl) dX6_doomed_28 (fun r28 ws28 _ hr28 => ?_)
    obtain ⟨rfl, rfl⟩ := hr28
    refine g_top (y := iI (hbits (cl M))) rfl ?_
    refine g_istore_n F (lv' := [(2, .int (iI (hbits (cl M)))), (0, .ref (ma 100)), (1, .int (iI n))]) 2 dX6_doomed_31 rfl (by decide) rfl ?_
    refine g_aload_n F 1 dX6_doomed_32 rfl ?_
    refine g_callV F (stk := [.ref (ma 100)]) (st := []) (k_X6_think κ ma (mA M 10 (fun _ => 0))) cal_X6_think lm_X6_191 0 rfl rfl rfl rfl (by decide) rfl (Nat.le_of_ble_eq_true rfl) dX6_doomed_33 (fun ws33 _ hr33 => ?_)
    obtain rfl := hr33
    refine g_ws (ws' := mw κ ma (thk (mA M 10 (fun _ => 0)))) rfl ?_
    refine g_aload_n F 1 dX6_doomed_36 rfl ?_
    refine g_iload_n F 2 dX6_doomed_37 rfl ?_
    refine g_callV F (stk := [.int (iI n), .ref (ma 100)]) (st := []) (k_X6_goYears κ ma (thk (mA M 10 (fun _ => 0))) n (show (0 ≤ n ∧ n ≤ 1000) ∧ (M 4 0) + n ≤ 1000000 from by omega) ok) cal_X6_goYears lm_X6_184 0 rfl rfl rfl rfl (by decide) rfl (Nat.le_of_ble_eq_true rfl) dX6_doomed_38 (fun ws38 _ hr38 => ?_)
    obtain rfl := hr38
    refine g_ws (ws' := mw κ ma (stC (thk (mA M 10 (fun _ => 0))) (goI n (cl M)))) rfl ?_
    refine g_aload_n F 1 dX6_doomed_41 rfl ?_
    refine g_callI F (stk := [.ref (ma 100)]) (st := []) (k_X6_holeBits κ ma (stC (thk (mA M 10 (fun _ => 0))) (goI n (cl M))) (goI_ok ok n)) cal_X6_holeBits lm_X6_241 0 rfl rfl rfl rfl (by decide) rfl (Nat.le_of_ble_eq_true rfl) dX6_doomed_42 (fun r42 ws42 _ hr42 => ?_)
    obtain ⟨rfl, rfl⟩ := hr42
    refine g_top (y := iI (hbits (goI n (cl M)))) rfl ?_
    refine g_istore_n F (lv' := [(3, .int (iI (hbits (goI n (cl M))))), (2, .int (iI (hbits (cl M)))), (0, .ref (ma 100)), (1, .int (iI n))]) 3 dX6_doomed_45 rfl (by decide) rfl ?_
    refine g_aload_n F 2 dX6_doomed_46 rfl ?_
    refine g_callV F (stk := [.ref (ma 100)]) (st := []) (k_X6_again κ ma (stC (thk (mA M 10 (fun _ => 0))) (goI n (cl M))) (mA M 10 (fun _ => 0)) (fun _ _ _ => rfl)) cal_X6_again lm_X6_197 0 rfl rfl rfl rfl (by decide) rfl (Nat.le_of_ble_eq_true rfl) dX6_doomed_47 (fun ws47 _ hr47 => ?_)
    obtain rfl := hr47
    have hb := hbits_in (goI n (cl M))
    have hd := dm_bd (hbits (cl M)) hb.1 hb.2
    refine g_iload_n F 0 dX6_doomed_50 rfl ?_
    refine g_iload_n F 1 dX6_doomed_51 rfl ?_
    refine g_iconst F dX6_doomed_52 ?_
    refine g_ixor F dX6_doomed_53 ?_
    refine g_iand F dX6_doomed_54 ?_
    refine g_top (y := iI (dm (hbits (goI n (cl M))) (hbits (cl M)))) (iI_self _).symm ?_
    have hq : dm (hbits (goI n (cl M))) (hbits (cl M)) = qDoomed (cl M) n := by unfold qDoomed; (repeat' split) <;> omega
    exact K mw_same ⟨_, rfl, iIc hq, ⟨rfl, rfl, rfl, rfl, rfl, rfl, rfl, rfl, rfl, rfl, rfl, rfl, rfl, rfl, rfl, rfl, rfl, rfl⟩, (by rw [← hq]; show M 11 = _; exact (rfa_n (by omega)).symm)⟩ rfl dX6_doomed_55
  · skip
    refine g_aload_n F 0 dX6_doomed_15 rfl ?_
    refine g_iload_n F 1 dX6_doomed_16 rfl ?_
    refine g_iconst F dX6_doomed_17 ?_
    refine g_bipush F dX6_doomed_18 (by decide +kernel) ?_
    refine g_callSI F (stk := [.int (iI 60), .int (iI 0), .int (iI n), .ref (ma 100)]) (st := [.ref (ma 100)]) (k_X6_wrongNumber κ (mw κ ma (mA M 10 (fun _ => 0))) n 0 60 (by omega)) cal_X6_wrongNumber lm_X6_237 rfl (by decide) rfl (Nat.le_of_ble_eq_true rfl) dX6_doomed_20 (fun r20 ws20 _ hr20 => ?_)
    obtain ⟨rfl, rfl⟩ := hr20
    have hwn20 := wn_spec n 0 60
    refine g_callI F (stk := [.int (iI (wnum n 0 60)), .ref (ma 100)]) (st := []) (k_X6_refuse κ ma (mA M 10 (fun _ => 0)) (wnum n 0 60) (by omega)) cal_X6_refuse lm_X6_138 0 rfl rfl rfl rfl (by decide) rfl (Nat.le_of_ble_eq_true rfl) dX6_doomed_23 (fun r23 ws23 _ hr23 => ?_)
    obtain ⟨rfl, rfl⟩ := hr23
    refine g_top (y := iI (wnum n 0 60)) rfl ?_
    refine g_ws (ws' := mw κ ma (mA (mA M 10 (fun _ => 0)) 11 (uI (M 11) (-(wnum n 0 60)) (M 11 (-(wnum n 0 60)) + 1)))) rfl ?_
    have hq : (wnum n 0 60) = qDoomed (cl M) n := by unfold qDoomed; (repeat' split) <;> omega
    exact K mw_same ⟨_, rfl, iIc hq, ⟨rfl, rfl, rfl, rfl, rfl, rfl, rfl, rfl, rfl, rfl, rfl, rfl, rfl, rfl, rfl, rfl, rfl, rfl⟩, (by rw [← hq]; exact (rfa_r (by omega)).symm)⟩ rfl dX6_doomed_26
theorem dX5_doomed_0 : decode cX5_doomed 0 = .ok (.iload_n 1, 1) := by decide +kernel
theorem dX5_doomed_1 : decode cX5_doomed 1 = .ok (.ifCond .ge 10, 3) := by decide +kernel
theorem dX5_doomed_4 : decode cX5_doomed 4 = .ok (.aload_n 0, 1) := by decide +kernel
theorem dX5_doomed_5 : decode cX5_doomed 5 = .ok (.bipush (-4), 2) := by decide +kernel
theorem dX5_doomed_7 : decode cX5_doomed 7 = .ok (.invokevirtual 69, 3) := by decide +kernel
theorem dX5_doomed_10 : decode cX5_doomed 10 = .ok (.ireturn, 1) := by decide +kernel
theorem dX5_doomed_11 : decode cX5_doomed 11 = .ok (.iload_n 1, 1) := by decide +kernel
theorem dX5_doomed_12 : decode cX5_doomed 12 = .ok (.bipush 60, 2) := by decide +kernel
theorem dX5_doomed_14 : decode cX5_doomed 14 = .ok (.if_icmp .le 10, 3) := by decide +kernel
theorem dX5_doomed_17 : decode cX5_doomed 17 = .ok (.aload_n 0, 1) := by decide +kernel
theorem dX5_doomed_18 : decode cX5_doomed 18 = .ok (.bipush (-6), 2) := by decide +kernel
theorem dX5_doomed_20 : decode cX5_doomed 20 = .ok (.invokevirtual 69, 3) := by decide +kernel
theorem dX5_doomed_23 : decode cX5_doomed 23 = .ok (.ireturn, 1) := by decide +kernel
theorem dX5_doomed_24 : decode cX5_doomed 24 = .ok (.aload_n 0, 1) := by decide +kernel
theorem dX5_doomed_25 : decode cX5_doomed 25 = .ok (.iload_n 1, 1) := by decide +kernel
theorem dX5_doomed_26 : decode cX5_doomed 26 = .ok (.invokevirtual 215, 3) := by decide +kernel
theorem dX5_doomed_29 : decode cX5_doomed 29 = .ok (.aload_n 0, 1) := by decide +kernel
theorem dX5_doomed_30 : decode cX5_doomed 30 = .ok (.getfield 50, 3) := by decide +kernel
theorem dX5_doomed_33 : decode cX5_doomed 33 = .ok (.invokevirtual 203, 3) := by decide +kernel
theorem dX5_doomed_36 : decode cX5_doomed 36 = .ok (.aload_n 0, 1) := by decide +kernel
theorem dX5_doomed_37 : decode cX5_doomed 37 = .ok (.getfield 10, 3) := by decide +kernel
theorem dX5_doomed_40 : decode cX5_doomed 40 = .ok (.invokevirtual 203, 3) := by decide +kernel
theorem dX5_doomed_43 : decode cX5_doomed 43 = .ok (.iconst (-1), 1) := by decide +kernel
theorem dX5_doomed_44 : decode cX5_doomed 44 = .ok (.ixor, 1) := by decide +kernel
theorem dX5_doomed_45 : decode cX5_doomed 45 = .ok (.iand, 1) := by decide +kernel
theorem dX5_doomed_46 : decode cX5_doomed 46 = .ok (.ireturn, 1) := by decide +kernel
set_option maxRecDepth 100000 in
set_option maxHeartbeats 4000000 in
theorem k_X5_doomed (κ : Kp) (xa : Nat → Nat → Nat) (X : XS) (n : Int)  (ha_n : In32 n) (ok : okC (cl (X 0))) (hy : X 0 4 0 ≤ 999) : mI κ yX5_doomed cX5_doomed 2 .int 5 [.ref (xa 18 100), .int (iI n)] (xw κ xa X) (qX κ xa X (qDoomed (cl (X 0)) n)) := by
  refine mI_of (by decide) (Nat.le_of_ble_eq_true rfl) (fun E F K => ?_)
  refine g_lv (lv' := [(0, .ref (xa 18 100)), (1, .int (iI n))]) rfl ?_
  refine g_iload_n F 1 dX5_doomed_0 rfl ?_
  refine g_if_ge F 11 (by omega) dX5_doomed_1 (by decide) (fun c1 => ?_) (fun c1 => ?_)
  · skip
    refine g_iload_n F 1 dX5_doomed_11 rfl ?_
    refine g_bipush F dX5_doomed_12 (by decide +kernel) ?_
    refine g_icmp_le F 24 (by omega) dX5_doomed_14 (by decide) (fun c14 => ?_) (fun c14 => ?_)
    · skip
      refine g_aload_n F 0 dX5_doomed_24 rfl ?_
      refine g_iload_n F 1 dX5_doomed_25 rfl ?_
      refine g_callV F (stk := [.int (iI n), .ref (xa 18 100)]) (st := []) (k_X5_thinkYears κ xa X n (show (0 ≤ n ∧ n ≤ 1000) ∧ ((X 0) 4 0) + n ≤ 1000000 from by omega) ok) cal_X5_thinkYears lm_X5_215 81 rfl rfl rfl rfl (by decide) rfl (Nat.le_of_ble_eq_true rfl) dX5_doomed_26 (fun ws26 _ hr26 => ?_)
      obtain rfl := hr26
      refine g_aload_n F 0 dX5_doomed_29 rfl ?_
      refine g18_get_10 F  lf_X5_50 dX5_doomed_30 ?_
      refine g_callNI F (stk := [.ref (xa 2 100)]) (st := []) (kS_X0_holeBits κ xa X 2 (by decide) (stC (X 2) (goI n (cl (X 0)))) (goI_ok ok n)) cal_X0_holeBits nm_X5_203 10 rfl rfl rfl rfl (by decide) rfl (Nat.le_of_ble_eq_true rfl) dX5_doomed_33 (fun r33 ws33 _ hr33 => ?_)
      obtain ⟨rfl, rfl⟩ := hr33
      refine g_top (y := iI (hbits (goI n (cl (X 0))))) rfl ?_
      have hb := hbits_in (goI n (cl (X 0)))
      have hd := dm_bd (hbits (cl (X 0))) hb.1 hb.2
      refine g_aload_n F 0 dX5_doomed_36 rfl ?_
      refine g18_get_0 F  lf_X5_10 dX5_doomed_37 ?_
      refine g_callNI F (stk := [.ref (xa 0 100), .int (iI (hbits (goI n (cl (X 0)))))]) (st := [.int (iI (hbits (goI n (cl (X 0)))))]) (k_X0_holeBits κ xa (setO X 2 (stC (X 2) (goI n (cl (X 0))))) 0 (by decide) ok) cal_X0_holeBits nm_X5_203 0 rfl rfl rfl rfl (by decide) rfl (Nat.le_of_ble_eq_true rfl) dX5_doomed_40 (fun r40 ws40 _ hr40 => ?_)
      obtain ⟨rfl, rfl⟩ := hr40
      refine g_top (y := iI (hbits (cl (X 0)))) rfl ?_
      refine g_iconst F dX5_doomed_43 ?_
      refine g_ixor F dX5_doomed_44 ?_
      refine g_iand F dX5_doomed_45 ?_
      refine g_top (y := iI (dm (hbits (goI n (cl (X 0)))) (hbits (cl (X 0))))) (iI_self _).symm ?_
      have hq : dm (hbits (goI n (cl (X 0)))) (hbits (cl (X 0))) = qDoomed (cl (X 0)) n := by unfold qDoomed; (repeat' split) <;> omega
      exact K xw_same ⟨_, rfl, iIc hq, (sX_o sX_0 (by decide)), (by rw [← hq]; exact (rfa_n (by omega)).symm)⟩ rfl dX5_doomed_46
    · skip
      refine g_aload_n F 0 dX5_doomed_17 rfl ?_
      refine g_bipush F dX5_doomed_18 (by decide +kernel) ?_
      refine g_callI F (stk := [.int (iI (-6)), .ref (xa 18 100)]) (st := []) (k_X5_refuse κ xa X (-6) (by omega)) cal_X5_refuse lm_X5_69 81 rfl rfl rfl rfl (by decide) rfl (Nat.le_of_ble_eq_true rfl) dX5_doomed_20 (fun r20 ws20 _ hr20 => ?_)
      obtain ⟨rfl, rfl⟩ := hr20
      have hq : (-6) = qDoomed (cl (X 0)) n := by unfold qDoomed; (repeat' split) <;> omega
      exact K xw_same ⟨_, rfl, iIc hq, (sX_18 sX_0 rfl rfl rfl), (by rw [← hq]; exact (rfa_r (by omega)).symm)⟩ rfl dX5_doomed_23
  · skip
    refine g_aload_n F 0 dX5_doomed_4 rfl ?_
    refine g_bipush F dX5_doomed_5 (by decide +kernel) ?_
    refine g_callI F (stk := [.int (iI (-4)), .ref (xa 18 100)]) (st := []) (k_X5_refuse κ xa X (-4) (by omega)) cal_X5_refuse lm_X5_69 81 rfl rfl rfl rfl (by decide) rfl (Nat.le_of_ble_eq_true rfl) dX5_doomed_7 (fun r7 ws7 _ hr7 => ?_)
    obtain ⟨rfl, rfl⟩ := hr7
    have hq : (-4) = qDoomed (cl (X 0)) n := by unfold qDoomed; (repeat' split) <;> omega
    exact K xw_same ⟨_, rfl, iIc hq, (sX_18 sX_0 rfl rfl rfl), (by rw [← hq]; exact (rfa_r (by omega)).symm)⟩ rfl dX5_doomed_10
theorem dX6_younger_0 : decode cX6_younger 0 = .ok (.aload_n 0, 1) := by decide +kernel
theorem dX6_younger_1 : decode cX6_younger 1 = .ok (.iconst 0, 1) := by decide +kernel
theorem dX6_younger_2 : decode cX6_younger 2 = .ok (.putfield 91, 3) := by decide +kernel
theorem dX6_younger_5 : decode cX6_younger 5 = .ok (.iload_n 1, 1) := by decide +kernel
theorem dX6_younger_6 : decode cX6_younger 6 = .ok (.iconst 0, 1) := by decide +kernel
theorem dX6_younger_7 : decode cX6_younger 7 = .ok (.bipush 99, 2) := by decide +kernel
theorem dX6_younger_9 : decode cX6_younger 9 = .ok (.invokestatic 237, 3) := by decide +kernel
theorem dX6_younger_12 : decode cX6_younger 12 = .ok (.ifCond .ge 19, 3) := by decide +kernel
theorem dX6_younger_15 : decode cX6_younger 15 = .ok (.ldc_w 328, 3) := by decide +kernel
theorem dX6_younger_18 : decode cX6_younger 18 = .ok (.aload_n 0, 1) := by decide +kernel
theorem dX6_younger_19 : decode cX6_younger 19 = .ok (.iload_n 1, 1) := by decide +kernel
theorem dX6_younger_20 : decode cX6_younger 20 = .ok (.iconst 0, 1) := by decide +kernel
theorem dX6_younger_21 : decode cX6_younger 21 = .ok (.bipush 99, 2) := by decide +kernel
theorem dX6_younger_23 : decode cX6_younger 23 = .ok (.invokestatic 237, 3) := by decide +kernel
theorem dX6_younger_26 : decode cX6_younger 26 = .ok (.invokevirtual 138, 3) := by decide +kernel
theorem dX6_younger_29 : decode cX6_younger 29 = .ok (.isub, 1) := by decide +kernel
theorem dX6_younger_30 : decode cX6_younger 30 = .ok (.ireturn, 1) := by decide +kernel
theorem dX6_younger_31 : decode cX6_younger 31 = .ok (.aload_n 0, 1) := by decide +kernel
theorem dX6_younger_32 : decode cX6_younger 32 = .ok (.invokevirtual 191, 3) := by decide +kernel
theorem dX6_younger_35 : decode cX6_younger 35 = .ok (.aload_n 0, 1) := by decide +kernel
theorem dX6_younger_36 : decode cX6_younger 36 = .ok (.invokevirtual 255, 3) := by decide +kernel
theorem dX6_younger_39 : decode cX6_younger 39 = .ok (.aload_n 0, 1) := by decide +kernel
theorem dX6_younger_40 : decode cX6_younger 40 = .ok (.invokevirtual 197, 3) := by decide +kernel
theorem dX6_younger_43 : decode cX6_younger 43 = .ok (.aload_n 0, 1) := by decide +kernel
theorem dX6_younger_44 : decode cX6_younger 44 = .ok (.getfield 61, 3) := by decide +kernel
theorem dX6_younger_47 : decode cX6_younger 47 = .ok (.aload_n 0, 1) := by decide +kernel
theorem dX6_younger_48 : decode cX6_younger 48 = .ok (.invokevirtual 258, 3) := by decide +kernel
theorem dX6_younger_51 : decode cX6_younger 51 = .ok (.iaload, 1) := by decide +kernel
theorem dX6_younger_52 : decode cX6_younger 52 = .ok (.istore_n 2, 1) := by decide +kernel
theorem dX6_younger_53 : decode cX6_younger 53 = .ok (.iconst 0, 1) := by decide +kernel
theorem dX6_younger_54 : decode cX6_younger 54 = .ok (.istore_n 3, 1) := by decide +kernel
theorem dX6_younger_55 : decode cX6_younger 55 = .ok (.iload_n 3, 1) := by decide +kernel
theorem dX6_younger_56 : decode cX6_younger 56 = .ok (.bipush 12, 2) := by decide +kernel
theorem dX6_younger_58 : decode cX6_younger 58 = .ok (.if_icmp .ge 28, 3) := by decide +kernel
theorem dX6_younger_61 : decode cX6_younger 61 = .ok (.aload_n 0, 1) := by decide +kernel
theorem dX6_younger_62 : decode cX6_younger 62 = .ok (.getfield 16, 3) := by decide +kernel
theorem dX6_younger_65 : decode cX6_younger 65 = .ok (.iload_n 3, 1) := by decide +kernel
theorem dX6_younger_66 : decode cX6_younger 66 = .ok (.aload_n 0, 1) := by decide +kernel
theorem dX6_younger_67 : decode cX6_younger 67 = .ok (.getfield 16, 3) := by decide +kernel
theorem dX6_younger_70 : decode cX6_younger 70 = .ok (.iload_n 3, 1) := by decide +kernel
theorem dX6_younger_71 : decode cX6_younger 71 = .ok (.iaload, 1) := by decide +kernel
theorem dX6_younger_72 : decode cX6_younger 72 = .ok (.iload_n 1, 1) := by decide +kernel
theorem dX6_younger_73 : decode cX6_younger 73 = .ok (.iadd, 1) := by decide +kernel
theorem dX6_younger_74 : decode cX6_younger 74 = .ok (.bipush 99, 2) := by decide +kernel
theorem dX6_younger_76 : decode cX6_younger 76 = .ok (.invokestatic 111, 3) := by decide +kernel
theorem dX6_younger_79 : decode cX6_younger 79 = .ok (.iastore, 1) := by decide +kernel
theorem dX6_younger_80 : decode cX6_younger 80 = .ok (.iinc 3 1, 3) := by decide +kernel
theorem dX6_younger_83 : decode cX6_younger 83 = .ok (.goto (-28), 3) := by decide +kernel
theorem dX6_younger_86 : decode cX6_younger 86 = .ok (.aload_n 0, 1) := by decide +kernel
theorem dX6_younger_87 : decode cX6_younger 87 = .ok (.invokevirtual 255, 3) := by decide +kernel
theorem dX6_younger_90 : decode cX6_younger 90 = .ok (.aload_n 0, 1) := by decide +kernel
theorem dX6_younger_91 : decode cX6_younger 91 = .ok (.invokevirtual 197, 3) := by decide +kernel
theorem dX6_younger_94 : decode cX6_younger 94 = .ok (.iload_n 2, 1) := by decide +kernel
theorem dX6_younger_95 : decode cX6_younger 95 = .ok (.aload_n 0, 1) := by decide +kernel
theorem dX6_younger_96 : decode cX6_younger 96 = .ok (.getfield 61, 3) := by decide +kernel
theorem dX6_younger_99 : decode cX6_younger 99 = .ok (.aload_n 0, 1) := by decide +kernel
theorem dX6_younger_100 : decode cX6_younger 100 = .ok (.invokevirtual 258, 3) := by decide +kernel
theorem dX6_younger_103 : decode cX6_younger 103 = .ok (.iaload, 1) := by decide +kernel
theorem dX6_younger_104 : decode cX6_younger 104 = .ok (.isub, 1) := by decide +kernel
theorem dX6_younger_105 : decode cX6_younger 105 = .ok (.ireturn, 1) := by decide +kernel
set_option maxRecDepth 100000 in
set_option maxHeartbeats 4000000 in
theorem k_X6_younger (κ : Kp) (ma : Nat → Nat) (M : MS) (v : Int)  (ha_v : In32 v) (ok : okC (cl M)) (hy : M 4 0 ≤ 999) : mI κ yX6_younger cX6_younger 4 .int 5 [.ref (ma 100), .int (iI v)] (mw κ ma M) (qM2 κ ma M (qYounger (cl M) v) (sYounger v)) := by
  refine mI_of (by decide) (Nat.le_of_ble_eq_true rfl) (fun E F K => ?_)
  refine g_lv (lv' := [(0, .ref (ma 100)), (1, .int (iI v))]) rfl ?_
  refine g_aload_n F 0 dX6_younger_0 rfl ?_
  refine g_iconst F dX6_younger_1 ?_
  refine gm_put_10 F dX6_younger_2 ?_
  refine g_iload_n F 1 dX6_younger_5 rfl ?_
  refine g_iconst F dX6_younger_6 ?_
  refine g_bipush F dX6_younger_7 (by decide +kernel) ?_
  refine g_callSI F (stk := [.int (iI 99), .int (iI 0), .int (iI v)]) (st := []) (k_X6_wrongNumber κ (mw κ ma (mA M 10 (fun _ => 0))) v 0 99 (by omega)) cal_X6_wrongNumber lm_X6_237 rfl (by decide) rfl (Nat.le_of_ble_eq_true rfl) dX6_younger_9 (fun r9 ws9 _ hr9 => ?_)
  obtain ⟨rfl, rfl⟩ := hr9
  have hwn9 := wn_spec v 0 99
  refine g_if_ge F 31 (by omega) dX6_younger_12 (by decide) (fun c12 => ?_) (fun c12 => ?_)
  · skip
    refine g_aload_n F 0 dX6_younger_31 rfl ?_
    refine g_callV F (stk := [.ref (ma 100)]) (st := []) (k_X6_think κ ma (mA M 10 (fun _ => 0))) cal_X6_think lm_X6_191 0 rfl rfl rfl rfl (by decide) rfl (Nat.le_of_ble_eq_true rfl) dX6_younger_32 (fun ws32 _ hr32 => ?_)
    obtain rfl := hr32
    refine g_ws (ws' := mw κ ma (thk (mA M 10 (fun _ => 0)))) rfl ?_
    refine g_aload_n F 0 dX6_younger_35 rfl ?_
    refine g_callV F (stk := [.ref (ma 100)]) (st := []) (k_X6_layLasts κ ma (thk (mA M 10 (fun _ => 0))) (show (M 4 0) ≤ 990000 from by omega) ok) cal_X6_layLasts lm_X6_255 0 rfl rfl rfl rfl (by decide) rfl (Nat.le_of_ble_eq_true rfl) dX6_younger_36 (fun ws36 _ hr36 => ?_)
    obtain rfl := hr36
    refine g_ws (ws' := mw κ ma (mA (stC (thk (mA M 10 (fun _ => 0))) (goI 61 (cl M))) 29 (lasts (cl M)))) rfl ?_
    refine g_aload_n F 0 dX6_younger_39 rfl ?_
    refine g_callV F (stk := [.ref (ma 100)]) (st := []) (k_X6_again κ ma (mA (stC (thk (mA M 10 (fun _ => 0))) (goI 61 (cl M))) 29 (lasts (cl M))) (mA M 10 (fun _ => 0)) (fun _ _ _ => rfl)) cal_X6_again lm_X6_197 0 rfl rfl rfl rfl (by decide) rfl (Nat.le_of_ble_eq_true rfl) dX6_younger_40 (fun ws40 _ hr40 => ?_)
    obtain rfl := hr40
    refine g_aload_n F 0 dX6_younger_43 rfl ?_
    refine gm_get_29 F dX6_younger_44 ?_
    refine g_aload_n F 0 dX6_younger_47 rfl ?_
    have hif := amin_in (lasts (cl M)) (n := 12) (by decide)
    refine g_callI F (stk := [.ref (ma 100), .ref (ma 29)]) (st := [.ref (ma 29)]) (k_X6_firstOf κ ma (agn (mA (stC (thk (mA M 10 (fun _ => 0))) (goI 61 (cl M))) 29 (lasts (cl M))) (mA M 10 (fun _ => 0))) (fun j _ _ => lasts_bd _ j)) cal_X6_firstOf lm_X6_258 0 rfl rfl rfl rfl (by decide) rfl (Nat.le_of_ble_eq_true rfl) dX6_younger_48 (fun r48 ws48 _ hr48 => ?_)
    obtain ⟨rfl, rfl⟩ := hr48
    refine g_top (y := iI (amin (lasts (cl M)) 12)) rfl ?_
    refine gm_ald_29 F (by omega) dX6_younger_51 ?_
    refine g_top (y := iI ((lasts (cl M)) (amin (lasts (cl M)) 12))) rfl ?_
    refine g_istore_n F (lv' := [(2, .int (iI ((lasts (cl M)) (amin (lasts (cl M)) 12)))), (0, .ref (ma 100)), (1, .int (iI v))]) 2 dX6_younger_52 rfl (by decide) rfl ?_
    refine g_iconst F dX6_younger_53 ?_
    refine g_istore_n F (lv' := [(3, .int (iI 0)), (2, .int (iI ((lasts (cl M)) (amin (lasts (cl M)) 12)))), (0, .ref (ma 100)), (1, .int (iI v))]) 3 dX6_younger_54 rfl (by decide) rfl ?_
    have L55 : ∀ (mz55 : Nat) (i : Int) (f : Int → Int), (12 - i).toNat = mz55 → (0 ≤ i ∧ i ≤ 12) → (f = upTo (M 2) (ageOn (cl M) v) i) → G E (mw κ ma (mA (agn (mA (stC (thk (mA M 10 (fun _ => 0))) (goI 61 (cl M))) 29 (lasts (cl M))) (mA M 10 (fun _ => 0))) 2 f)) [(3, .int (iI i)), (2, .int (iI ((lasts (cl M)) (amin (lasts (cl M)) 12)))), (0, .ref (ma 100)), (1, .int (iI v))] 55 [] := by
      intro mz55
      induction mz55 using Nat.strongRecOn with
      | _ mz55 ih55 =>
      intro i f hmz55 hi hf
      refine g_iload_n F 0 dX6_younger_55 rfl ?_
      refine g_bipush F dX6_younger_56 (by decide +kernel) ?_
      refine g_icmp_ge F 86 (by omega) dX6_younger_58 (by decide) (fun c58 => ?_) (fun c58 => ?_)
      · skip
        refine g_aload_n F 2 dX6_younger_86 rfl ?_
        have hC : cl (mA (agn (mA (stC (thk (mA M 10 (fun _ => 0))) (goI 61 (cl M))) 29 (lasts (cl M))) (mA M 10 (fun _ => 0))) 2 f) = older (cl M) v := by show (M 0, M 1, f, M 3, M 4 0) = (M 0, M 1, upTo (M 2) (ageOn (cl M) v) 12, M 3, M 4 0); rw [hf, show i = 12 by omega]
        have hif2 := amin_in (lasts (cl (mA (agn (mA (stC (thk (mA M 10 (fun _ => 0))) (goI 61 (cl M))) 29 (lasts (cl M))) (mA M 10 (fun _ => 0))) 2 f))) (n := 12) (by decide)
        refine g_callV F (stk := [.ref (ma 100)]) (st := []) (k_X6_layLasts κ ma (mA (agn (mA (stC (thk (mA M 10 (fun _ => 0))) (goI 61 (cl M))) 29 (lasts (cl M))) (mA M 10 (fun _ => 0))) 2 f) (show M 4 0 ≤ 990000 by omega) (by rw [hC]; exact older_ok ok (by omega))) cal_X6_layLasts lm_X6_255 0 rfl rfl rfl rfl (by decide) rfl (Nat.le_of_ble_eq_true rfl) dX6_younger_87 (fun ws87 _ hr87 => ?_)
        obtain rfl := hr87
        refine g_ws (ws' := mw κ ma (mA (stC (mA (agn (mA (stC (thk (mA M 10 (fun _ => 0))) (goI 61 (cl M))) 29 (lasts (cl M))) (mA M 10 (fun _ => 0))) 2 f) (goI 61 (cl (mA (agn (mA (stC (thk (mA M 10 (fun _ => 0))) (goI 61 (cl M))) 29 (lasts (cl M))) (mA M 10 (fun _ => 0))) 2 f)))) 29 (lasts (cl (mA (agn (mA (stC (thk (mA M 10 (fun _ => 0))) (goI 61 (cl M))) 29 (lasts (cl M))) (mA M 10 (fun _ => 0))) 2 f))))) rfl ?_
        refine g_aload_n F 2 dX6_younger_90 rfl ?_
        refine g_callV F (stk := [.ref (ma 100)]) (st := []) (k_X6_again κ ma (mA (stC (mA (agn (mA (stC (thk (mA M 10 (fun _ => 0))) (goI 61 (cl M))) 29 (lasts (cl M))) (mA M 10 (fun _ => 0))) 2 f) (goI 61 (cl (mA (agn (mA (stC (thk (mA M 10 (fun _ => 0))) (goI 61 (cl M))) 29 (lasts (cl M))) (mA M 10 (fun _ => 0))) 2 f)))) 29 (lasts (cl (mA (agn (mA (stC (thk (mA M 10 (fun _ => 0))) (goI 61 (cl M))) 29 (lasts (cl M))) (mA M 10 (fun _ => 0))) 2 f)))) (mA M 10 (fun _ => 0)) (fun _ _ _ => rfl)) cal_X6_again lm_X6_197 0 rfl rfl rfl rfl (by decide) rfl (Nat.le_of_ble_eq_true rfl) dX6_younger_91 (fun ws91 _ hr91 => ?_)
        obtain rfl := hr91
        refine g_iload_n F 1 dX6_younger_94 rfl ?_
        refine g_aload_n F 2 dX6_younger_95 rfl ?_
        refine gm_get_29 F dX6_younger_96 ?_
        refine g_aload_n F 2 dX6_younger_99 rfl ?_
        refine g_callI F (stk := [.ref (ma 100), .ref (ma 29), .int (iI ((lasts (cl M)) (amin (lasts (cl M)) 12)))]) (st := [.ref (ma 29), .int (iI ((lasts (cl M)) (amin (lasts (cl M)) 12)))]) (k_X6_firstOf κ ma (agn (mA (stC (mA (agn (mA (stC (thk (mA M 10 (fun _ => 0))) (goI 61 (cl M))) 29 (lasts (cl M))) (mA M 10 (fun _ => 0))) 2 f) (goI 61 (cl (mA (agn (mA (stC (thk (mA M 10 (fun _ => 0))) (goI 61 (cl M))) 29 (lasts (cl M))) (mA M 10 (fun _ => 0))) 2 f)))) 29 (lasts (cl (mA (agn (mA (stC (thk (mA M 10 (fun _ => 0))) (goI 61 (cl M))) 29 (lasts (cl M))) (mA M 10 (fun _ => 0))) 2 f)))) (mA M 10 (fun _ => 0))) (fun j _ _ => lasts_bd _ j)) cal_X6_firstOf lm_X6_258 0 rfl rfl rfl rfl (by decide) rfl (Nat.le_of_ble_eq_true rfl) dX6_younger_100 (fun r100 ws100 _ hr100 => ?_)
        obtain ⟨rfl, rfl⟩ := hr100
        refine g_top (y := iI (amin (lasts (cl (mA (agn (mA (stC (thk (mA M 10 (fun _ => 0))) (goI 61 (cl M))) 29 (lasts (cl M))) (mA M 10 (fun _ => 0))) 2 f))) 12)) rfl ?_
        refine gm_ald_29 F (by omega) dX6_younger_103 ?_
        refine g_top (y := iI ((lasts (cl (mA (agn (mA (stC (thk (mA M 10 (fun _ => 0))) (goI 61 (cl M))) 29 (lasts (cl M))) (mA M 10 (fun _ => 0))) 2 f))) (amin (lasts (cl (mA (agn (mA (stC (thk (mA M 10 (fun _ => 0))) (goI 61 (cl M))) 29 (lasts (cl M))) (mA M 10 (fun _ => 0))) 2 f))) 12))) rfl ?_
        refine g_isub F dX6_younger_104 ?_
        have hq : ((lasts (cl M)) (amin (lasts (cl M)) 12)) - ((lasts (cl (mA (agn (mA (stC (thk (mA M 10 (fun _ => 0))) (goI 61 (cl M))) 29 (lasts (cl M))) (mA M 10 (fun _ => 0))) 2 f))) (amin (lasts (cl (mA (agn (mA (stC (thk (mA M 10 (fun _ => 0))) (goI 61 (cl M))) 29 (lasts (cl M))) (mA M 10 (fun _ => 0))) 2 f))) 12)) = qYounger (cl M) v := by unfold qYounger; rw [if_neg (by omega), if_neg (by omega), ← hC]; rfl
        have hsr : ¬ (-6 ≤ sYounger v ∧ sYounger v ≤ -1) := by unfold sYounger; (repeat' split) <;> omega
        exact K mw_same ⟨_, rfl, iIc hq, ⟨rfl, rfl, rfl, rfl, rfl, rfl, rfl, rfl, rfl, rfl, rfl, rfl, rfl, rfl, rfl, rfl, rfl, rfl⟩, (by show M 11 = _; exact (rfa_n hsr).symm)⟩ rfl dX6_younger_105
      · skip
        refine g_aload_n F 2 dX6_younger_61 rfl ?_
        refine gm_get_2 F dX6_younger_62 ?_
        refine g_iload_n F 0 dX6_younger_65 rfl ?_
        refine g_aload_n F 2 dX6_younger_66 rfl ?_
        refine gm_get_2 F dX6_younger_67 ?_
        refine g_iload_n F 0 dX6_younger_70 rfl ?_
        have hva : 0 ≤ M 2 i ∧ M 2 i ≤ 99 := ok.a i (by omega) (by omega)
        refine gm_ald_2 F (by omega) dX6_younger_71 ?_
        refine g_top (y := iI (f i)) rfl ?_
        refine g_top (y := iI (M 2 i)) (iIc (by rw [hf, upTo_out (by omega)])) ?_
        refine g_iload_n F 3 dX6_younger_72 rfl ?_
        refine g_iadd F dX6_younger_73 ?_
        refine g_bipush F dX6_younger_74 (by decide +kernel) ?_
        refine g_callSI F (stk := [.int (iI 99), .int (iI ((M 2 i) + v)), .int (iI i), .ref (ma 2)]) (st := [.int (iI i), .ref (ma 2)]) (k_X6_held κ (mw κ ma (mA (agn (mA (stC (thk (mA M 10 (fun _ => 0))) (goI 61 (cl M))) 29 (lasts (cl M))) (mA M 10 (fun _ => 0))) 2 f)) ((M 2 i) + v) 99 (by omega)) cal_X6_held lm_X6_111 rfl (by decide) rfl (Nat.le_of_ble_eq_true rfl) dX6_younger_76 (fun r76 ws76 _ hr76 => ?_)
        obtain ⟨rfl, rfl⟩ := hr76
        refine g_top (y := iI (ageOn (cl M) v i)) (iIc (held_ageV ok (by omega) (by omega) (by omega))) ?_
        refine gm_astS_2 F (by omega) dX6_younger_79 ?_
        refine g_iinc F (lv' := [(3, .int (iI (i + 1))), (2, .int (iI ((lasts (cl M)) (amin (lasts (cl M)) 12)))), (0, .ref (ma 100)), (1, .int (iI v))]) 0 dX6_younger_80 rfl (by decide) rfl ?_
        refine g_goto F 55 dX6_younger_83 (by decide) ?_
        refine g_sub F (lv' := [(3, .int (iI (i + 1))), (2, .int (iI ((lasts (cl M)) (amin (lasts (cl M)) 12)))), (0, .ref (ma 100)), (1, .int (iI v))]) [0, 1, 2, 3] rfl ?_
        exact ih55 _ (by omega) (i + 1) (uI f i (ageOn (cl M) v i)) rfl (by omega) (by rw [hf, upTo_s _ _ hi.1])
    refine g_sub F (lv' := [(3, .int (iI 0)), (2, .int (iI ((lasts (cl M)) (amin (lasts (cl M)) 12)))), (0, .ref (ma 100)), (1, .int (iI v))]) [0, 1, 2, 3] rfl ?_
    refine g_ws (ws' := mw κ ma (mA (agn (mA (stC (thk (mA M 10 (fun _ => 0))) (goI 61 (cl M))) 29 (lasts (cl M))) (mA M 10 (fun _ => 0))) 2 (M 2))) rfl ?_
    exact L55 _ 0 (M 2) rfl (by omega) (upTo_0 _ _).symm
  · skip
    refine g_ldcw F (z := 1000000000) lc_X6_328 (by decide +kernel) dX6_younger_15 ?_
    refine g_aload_n F 0 dX6_younger_18 rfl ?_
    refine g_iload_n F 1 dX6_younger_19 rfl ?_
    refine g_iconst F dX6_younger_20 ?_
    refine g_bipush F dX6_younger_21 (by decide +kernel) ?_
    refine g_callSI F (stk := [.int (iI 99), .int (iI 0), .int (iI v), .ref (ma 100), .int (iI 1000000000)]) (st := [.ref (ma 100), .int (iI 1000000000)]) (k_X6_wrongNumber κ (mw κ ma (mA M 10 (fun _ => 0))) v 0 99 (by omega)) cal_X6_wrongNumber lm_X6_237 rfl (by decide) rfl (Nat.le_of_ble_eq_true rfl) dX6_younger_23 (fun r23 ws23 _ hr23 => ?_)
    obtain ⟨rfl, rfl⟩ := hr23
    have hwn23 := wn_spec v 0 99
    refine g_callI F (stk := [.int (iI (wnum v 0 99)), .ref (ma 100), .int (iI 1000000000)]) (st := [.int (iI 1000000000)]) (k_X6_refuse κ ma (mA M 10 (fun _ => 0)) (wnum v 0 99) (by omega)) cal_X6_refuse lm_X6_138 0 rfl rfl rfl rfl (by decide) rfl (Nat.le_of_ble_eq_true rfl) dX6_younger_26 (fun r26 ws26 _ hr26 => ?_)
    obtain ⟨rfl, rfl⟩ := hr26
    refine g_top (y := iI (wnum v 0 99)) rfl ?_
    refine g_ws (ws' := mw κ ma (mA (mA M 10 (fun _ => 0)) 11 (uI (M 11) (-(wnum v 0 99)) (M 11 (-(wnum v 0 99)) + 1)))) rfl ?_
    refine g_isub F dX6_younger_29 ?_
    have hq : 1000000000 - (wnum v 0 99) = qYounger (cl M) v := by unfold qYounger; (repeat' split) <;> omega
    have hsr : sYounger v = (wnum v 0 99) := by unfold sYounger; (repeat' split) <;> omega
    exact K mw_same ⟨_, rfl, iIc hq, ⟨rfl, rfl, rfl, rfl, rfl, rfl, rfl, rfl, rfl, rfl, rfl, rfl, rfl, rfl, rfl, rfl, rfl, rfl⟩, (by rw [hsr]; exact (rfa_r (by omega)).symm)⟩ rfl dX6_younger_30
theorem dX5_younger_0 : decode cX5_younger 0 = .ok (.iload_n 1, 1) := by decide +kernel
theorem dX5_younger_1 : decode cX5_younger 1 = .ok (.ifCond .ge 13, 3) := by decide +kernel
theorem dX5_younger_4 : decode cX5_younger 4 = .ok (.ldc 230, 2) := by decide +kernel
theorem dX5_younger_6 : decode cX5_younger 6 = .ok (.aload_n 0, 1) := by decide +kernel
theorem dX5_younger_7 : decode cX5_younger 7 = .ok (.bipush (-4), 2) := by decide +kernel
theorem dX5_younger_9 : decode cX5_younger 9 = .ok (.invokevirtual 69, 3) := by decide +kernel
theorem dX5_younger_12 : decode cX5_younger 12 = .ok (.isub, 1) := by decide +kernel
theorem dX5_younger_13 : decode cX5_younger 13 = .ok (.ireturn, 1) := by decide +kernel
theorem dX5_younger_14 : decode cX5_younger 14 = .ok (.iload_n 1, 1) := by decide +kernel
theorem dX5_younger_15 : decode cX5_younger 15 = .ok (.bipush 100, 2) := by decide +kernel
theorem dX5_younger_17 : decode cX5_younger 17 = .ok (.if_icmp .lt 13, 3) := by decide +kernel
theorem dX5_younger_20 : decode cX5_younger 20 = .ok (.ldc 230, 2) := by decide +kernel
theorem dX5_younger_22 : decode cX5_younger 22 = .ok (.aload_n 0, 1) := by decide +kernel
theorem dX5_younger_23 : decode cX5_younger 23 = .ok (.bipush (-6), 2) := by decide +kernel
theorem dX5_younger_25 : decode cX5_younger 25 = .ok (.invokevirtual 69, 3) := by decide +kernel
theorem dX5_younger_28 : decode cX5_younger 28 = .ok (.isub, 1) := by decide +kernel
theorem dX5_younger_29 : decode cX5_younger 29 = .ok (.ireturn, 1) := by decide +kernel
theorem dX5_younger_30 : decode cX5_younger 30 = .ok (.aload_n 0, 1) := by decide +kernel
theorem dX5_younger_31 : decode cX5_younger 31 = .ok (.getfield 50, 3) := by decide +kernel
theorem dX5_younger_34 : decode cX5_younger 34 = .ok (.aload_n 0, 1) := by decide +kernel
theorem dX5_younger_35 : decode cX5_younger 35 = .ok (.getfield 10, 3) := by decide +kernel
theorem dX5_younger_38 : decode cX5_younger 38 = .ok (.invokevirtual 88, 3) := by decide +kernel
theorem dX5_younger_41 : decode cX5_younger 41 = .ok (.aload_n 0, 1) := by decide +kernel
theorem dX5_younger_42 : decode cX5_younger 42 = .ok (.getfield 50, 3) := by decide +kernel
theorem dX5_younger_45 : decode cX5_younger 45 = .ok (.sipush 4095, 3) := by decide +kernel
theorem dX5_younger_48 : decode cX5_younger 48 = .ok (.iconst 0, 1) := by decide +kernel
theorem dX5_younger_49 : decode cX5_younger 49 = .ok (.invokevirtual 224, 3) := by decide +kernel
theorem dX5_younger_52 : decode cX5_younger 52 = .ok (.istore_n 2, 1) := by decide +kernel
theorem dX5_younger_53 : decode cX5_younger 53 = .ok (.aload_n 0, 1) := by decide +kernel
theorem dX5_younger_54 : decode cX5_younger 54 = .ok (.getfield 50, 3) := by decide +kernel
theorem dX5_younger_57 : decode cX5_younger 57 = .ok (.aload_n 0, 1) := by decide +kernel
theorem dX5_younger_58 : decode cX5_younger 58 = .ok (.getfield 10, 3) := by decide +kernel
theorem dX5_younger_61 : decode cX5_younger 61 = .ok (.invokevirtual 88, 3) := by decide +kernel
theorem dX5_younger_64 : decode cX5_younger 64 = .ok (.aload_n 0, 1) := by decide +kernel
theorem dX5_younger_65 : decode cX5_younger 65 = .ok (.getfield 50, 3) := by decide +kernel
theorem dX5_younger_68 : decode cX5_younger 68 = .ok (.iload_n 1, 1) := by decide +kernel
theorem dX5_younger_69 : decode cX5_younger 69 = .ok (.invokevirtual 231, 3) := by decide +kernel
theorem dX5_younger_72 : decode cX5_younger 72 = .ok (.iload_n 2, 1) := by decide +kernel
theorem dX5_younger_73 : decode cX5_younger 73 = .ok (.aload_n 0, 1) := by decide +kernel
theorem dX5_younger_74 : decode cX5_younger 74 = .ok (.getfield 50, 3) := by decide +kernel
theorem dX5_younger_77 : decode cX5_younger 77 = .ok (.sipush 4095, 3) := by decide +kernel
theorem dX5_younger_80 : decode cX5_younger 80 = .ok (.iconst 0, 1) := by decide +kernel
theorem dX5_younger_81 : decode cX5_younger 81 = .ok (.invokevirtual 224, 3) := by decide +kernel
theorem dX5_younger_84 : decode cX5_younger 84 = .ok (.isub, 1) := by decide +kernel
theorem dX5_younger_85 : decode cX5_younger 85 = .ok (.ireturn, 1) := by decide +kernel
set_option maxRecDepth 100000 in
set_option maxHeartbeats 4000000 in
theorem k_X5_younger (κ : Kp) (xa : Nat → Nat → Nat) (X : XS) (v : Int)  (ha_v : In32 v) (ok : okC (cl (X 0))) (hy : X 0 4 0 ≤ 999) : mI κ yX5_younger cX5_younger 3 .int 5 [.ref (xa 18 100), .int (iI v)] (xw κ xa X) (qX2 κ xa X (qYounger (cl (X 0)) v) (sYounger v)) := by
  refine mI_of (by decide) (Nat.le_of_ble_eq_true rfl) (fun E F K => ?_)
  refine g_lv (lv' := [(0, .ref (xa 18 100)), (1, .int (iI v))]) rfl ?_
  refine g_iload_n F 1 dX5_younger_0 rfl ?_
  refine g_if_ge F 14 (by omega) dX5_younger_1 (by decide) (fun c1 => ?_) (fun c1 => ?_)
  · skip
    refine g_iload_n F 1 dX5_younger_14 rfl ?_
    refine g_bipush F dX5_younger_15 (by decide +kernel) ?_
    refine g_icmp_lt F 30 (by omega) dX5_younger_17 (by decide) (fun c17 => ?_) (fun c17 => ?_)
    · skip
      have h1 := mn_bd (cl (X 0))
      have h2 := mn_bd (older (cl (X 0)) v)
      refine g_aload_n F 0 dX5_younger_30 rfl ?_
      refine g18_get_10 F  lf_X5_50 dX5_younger_31 ?_
      refine g_aload_n F 0 dX5_younger_34 rfl ?_
      refine g18_get_0 F  lf_X5_10 dX5_younger_35 ?_
      refine g_callNV F (stk := [.ref (xa 0 100), .ref (xa 2 100)]) (st := []) (k_X0_become κ xa X 2 (by decide) 0 (by decide) (by decide)) cal_X0_become nm_X5_88 10 rfl rfl rfl rfl (by decide) rfl (Nat.le_of_ble_eq_true rfl) dX5_younger_38 (fun ws38 _ hr38 => ?_)
      obtain rfl := hr38
      refine g_aload_n F 0 dX5_younger_41 rfl ?_
      refine g18_get_10 F  lf_X5_50 dX5_younger_42 ?_
      refine g_sipush F dX5_younger_45 (by decide +kernel) ?_
      refine g_iconst F dX5_younger_48 ?_
      refine g_callNI F (stk := [.int (iI 0), .int (iI 4095), .ref (xa 2 100)]) (st := []) (kS_X0_yearsToHole κ xa X 2 (by decide) (stC (X 2) (cl (X 0))) 4095 0 (by omega) (show X 0 4 0 ≤ 990000 by omega) ok) cal_X0_yearsToHole nm_X5_224 10 rfl rfl rfl rfl (by decide) rfl (Nat.le_of_ble_eq_true rfl) dX5_younger_49 (fun r49 ws49 _ hr49 => ?_)
      obtain ⟨rfl, rfl⟩ := hr49
      refine g_top (y := iI (ythI (cl (X 0)) 4095 0)) rfl ?_
      refine g_ws (ws' := xw κ xa (setO X 2 (stC (X 2) (goI (ythI (cl (X 0)) 4095 0 - 0) (cl (X 0)))))) rfl ?_
      refine g_top (y := iI (mn (cl (X 0)))) (iIc (yth_all _)) ?_
      refine g_istore_n F (lv' := [(2, .int (iI (mn (cl (X 0))))), (0, .ref (xa 18 100)), (1, .int (iI v))]) 2 dX5_younger_52 rfl (by decide) rfl ?_
      refine g_aload_n F 1 dX5_younger_53 rfl ?_
      refine g18_get_10 F  lf_X5_50 dX5_younger_54 ?_
      refine g_aload_n F 1 dX5_younger_57 rfl ?_
      refine g18_get_0 F  lf_X5_10 dX5_younger_58 ?_
      refine g_callNV F (stk := [.ref (xa 0 100), .ref (xa 2 100)]) (st := []) (k_X0_become κ xa (setO X 2 (stC (X 2) (goI (ythI (cl (X 0)) 4095 0 - 0) (cl (X 0))))) 2 (by decide) 0 (by decide) (by decide)) cal_X0_become nm_X5_88 10 rfl rfl rfl rfl (by decide) rfl (Nat.le_of_ble_eq_true rfl) dX5_younger_61 (fun ws61 _ hr61 => ?_)
      obtain rfl := hr61
      refine g_ws (ws' := xw κ xa (setO X 2 (stC (X 2) (cl (X 0))))) rfl ?_
      refine g_aload_n F 1 dX5_younger_64 rfl ?_
      refine g18_get_10 F  lf_X5_50 dX5_younger_65 ?_
      refine g_iload_n F 2 dX5_younger_68 rfl ?_
      refine g_callNV F (stk := [.int (iI v), .ref (xa 2 100)]) (st := []) (kS_X0_growOlder κ xa X 2 (by decide) (stC (X 2) (cl (X 0))) v (by omega) (fun c a b => (ok.r a b).2.2.1)) cal_X0_growOlder nm_X5_231 10 rfl rfl rfl rfl (by decide) rfl (Nat.le_of_ble_eq_true rfl) dX5_younger_69 (fun ws69 _ hr69 => ?_)
      obtain rfl := hr69
      refine g_ws (ws' := xw κ xa (setO X 2 (stC (X 2) (older (cl (X 0)) v)))) rfl ?_
      refine g_iload_n F 0 dX5_younger_72 rfl ?_
      refine g_aload_n F 1 dX5_younger_73 rfl ?_
      refine g18_get_10 F  lf_X5_50 dX5_younger_74 ?_
      refine g_sipush F dX5_younger_77 (by decide +kernel) ?_
      refine g_iconst F dX5_younger_80 ?_
      refine g_callNI F (stk := [.int (iI 0), .int (iI 4095), .ref (xa 2 100), .int (iI (mn (cl (X 0))))]) (st := [.int (iI (mn (cl (X 0))))]) (kS_X0_yearsToHole κ xa X 2 (by decide) (stC (X 2) (older (cl (X 0)) v)) 4095 0 (by omega) (show X 0 4 0 ≤ 990000 by omega) (older_ok ok (by omega))) cal_X0_yearsToHole nm_X5_224 10 rfl rfl rfl rfl (by decide) rfl (Nat.le_of_ble_eq_true rfl) dX5_younger_81 (fun r81 ws81 _ hr81 => ?_)
      obtain ⟨rfl, rfl⟩ := hr81
      refine g_top (y := iI (ythI (older (cl (X 0)) v) 4095 0)) rfl ?_
      refine g_ws (ws' := xw κ xa (setO X 2 (stC (X 2) (goI (ythI (older (cl (X 0)) v) 4095 0 - 0) (older (cl (X 0)) v))))) rfl ?_
      refine g_top (y := iI (mn (older (cl (X 0)) v))) (iIc (yth_all _)) ?_
      refine g_isub F dX5_younger_84 ?_
      have hq : (mn (cl (X 0))) - (mn (older (cl (X 0)) v)) = qYounger (cl (X 0)) v := by unfold qYounger; (repeat' split) <;> omega
      have hsr : ¬ (-6 ≤ sYounger v ∧ sYounger v ≤ -1) := by unfold sYounger; (repeat' split) <;> omega
      exact K xw_same ⟨_, rfl, iIc hq, (sX_o sX_0 (by decide)), (by exact (rfa_n hsr).symm)⟩ rfl dX5_younger_85
    · skip
      refine g_ldc F (z := 1000000000) lc_X5_230 (by decide +kernel) dX5_younger_20 ?_
      refine g_aload_n F 0 dX5_younger_22 rfl ?_
      refine g_bipush F dX5_younger_23 (by decide +kernel) ?_
      refine g_callI F (stk := [.int (iI (-6)), .ref (xa 18 100), .int (iI 1000000000)]) (st := [.int (iI 1000000000)]) (k_X5_refuse κ xa X (-6) (by omega)) cal_X5_refuse lm_X5_69 81 rfl rfl rfl rfl (by decide) rfl (Nat.le_of_ble_eq_true rfl) dX5_younger_25 (fun r25 ws25 _ hr25 => ?_)
      obtain ⟨rfl, rfl⟩ := hr25
      refine g_isub F dX5_younger_28 ?_
      have hq : 1000000000 - (-6) = qYounger (cl (X 0)) v := by unfold qYounger; (repeat' split) <;> omega
      have hsr : sYounger v = (-6) := by unfold sYounger; (repeat' split) <;> omega
      exact K xw_same ⟨_, rfl, iIc hq, (sX_18 sX_0 rfl rfl rfl), (by rw [hsr]; exact (rfa_r (by omega)).symm)⟩ rfl dX5_younger_29
  · skip
    refine g_ldc F (z := 1000000000) lc_X5_230 (by decide +kernel) dX5_younger_4 ?_
    refine g_aload_n F 0 dX5_younger_6 rfl ?_
    refine g_bipush F dX5_younger_7 (by decide +kernel) ?_
    refine g_callI F (stk := [.int (iI (-4)), .ref (xa 18 100), .int (iI 1000000000)]) (st := [.int (iI 1000000000)]) (k_X5_refuse κ xa X (-4) (by omega)) cal_X5_refuse lm_X5_69 81 rfl rfl rfl rfl (by decide) rfl (Nat.le_of_ble_eq_true rfl) dX5_younger_9 (fun r9 ws9 _ hr9 => ?_)
    obtain ⟨rfl, rfl⟩ := hr9
    refine g_isub F dX5_younger_12 ?_
    have hq : 1000000000 - (-4) = qYounger (cl (X 0)) v := by unfold qYounger; (repeat' split) <;> omega
    have hsr : sYounger v = (-4) := by unfold sYounger; (repeat' split) <;> omega
    exact K xw_same ⟨_, rfl, iIc hq, (sX_18 sX_0 rfl rfl rfl), (by rw [hsr]; exact (rfa_r (by omega)).symm)⟩ rfl dX5_younger_13
theorem dX6_when_0 : decode cX6_when 0 = .ok (.aload_n 0, 1) := by decide +kernel
theorem dX6_when_1 : decode cX6_when 1 = .ok (.iconst 0, 1) := by decide +kernel
theorem dX6_when_2 : decode cX6_when 2 = .ok (.putfield 91, 3) := by decide +kernel
theorem dX6_when_5 : decode cX6_when 5 = .ok (.aload_n 0, 1) := by decide +kernel
theorem dX6_when_6 : decode cX6_when 6 = .ok (.iload_n 1, 1) := by decide +kernel
theorem dX6_when_7 : decode cX6_when 7 = .ok (.invokevirtual 176, 3) := by decide +kernel
theorem dX6_when_10 : decode cX6_when 10 = .ok (.ifCond .eq 10, 3) := by decide +kernel
theorem dX6_when_13 : decode cX6_when 13 = .ok (.iload_n 2, 1) := by decide +kernel
theorem dX6_when_14 : decode cX6_when 14 = .ok (.invokestatic 222, 3) := by decide +kernel
theorem dX6_when_17 : decode cX6_when 17 = .ok (.ifCond .ne 7, 3) := by decide +kernel
theorem dX6_when_20 : decode cX6_when 20 = .ok (.iconst (-1), 1) := by decide +kernel
theorem dX6_when_21 : decode cX6_when 21 = .ok (.goto 19, 3) := by decide +kernel
theorem dX6_when_24 : decode cX6_when 24 = .ok (.aload_n 0, 1) := by decide +kernel
theorem dX6_when_25 : decode cX6_when 25 = .ok (.getfield 31, 3) := by decide +kernel
theorem dX6_when_28 : decode cX6_when 28 = .ok (.iload_n 1, 1) := by decide +kernel
theorem dX6_when_29 : decode cX6_when 29 = .ok (.iaload, 1) := by decide +kernel
theorem dX6_when_30 : decode cX6_when 30 = .ok (.iconst 1, 1) := by decide +kernel
theorem dX6_when_31 : decode cX6_when 31 = .ok (.if_icmp .ne 8, 3) := by decide +kernel
theorem dX6_when_34 : decode cX6_when 34 = .ok (.bipush (-3), 2) := by decide +kernel
theorem dX6_when_36 : decode cX6_when 36 = .ok (.goto 4, 3) := by decide +kernel
theorem dX6_when_39 : decode cX6_when 39 = .ok (.iconst 0, 1) := by decide +kernel
theorem dX6_when_40 : decode cX6_when 40 = .ok (.istore_n 3, 1) := by decide +kernel
theorem dX6_when_41 : decode cX6_when 41 = .ok (.iload_n 3, 1) := by decide +kernel
theorem dX6_when_42 : decode cX6_when 42 = .ok (.ifCond .ge 9, 3) := by decide +kernel
theorem dX6_when_45 : decode cX6_when 45 = .ok (.aload_n 0, 1) := by decide +kernel
theorem dX6_when_46 : decode cX6_when 46 = .ok (.iload_n 3, 1) := by decide +kernel
theorem dX6_when_47 : decode cX6_when 47 = .ok (.invokevirtual 138, 3) := by decide +kernel
theorem dX6_when_50 : decode cX6_when 50 = .ok (.ireturn, 1) := by decide +kernel
theorem dX6_when_51 : decode cX6_when 51 = .ok (.iconst 0, 1) := by decide +kernel
theorem dX6_when_52 : decode cX6_when 52 = .ok (.istore 4, 2) := by decide +kernel
theorem dX6_when_54 : decode cX6_when 54 = .ok (.iconst (-1), 1) := by decide +kernel
theorem dX6_when_55 : decode cX6_when 55 = .ok (.istore 5, 2) := by decide +kernel
theorem dX6_when_57 : decode cX6_when 57 = .ok (.aload_n 0, 1) := by decide +kernel
theorem dX6_when_58 : decode cX6_when 58 = .ok (.invokevirtual 191, 3) := by decide +kernel
theorem dX6_when_61 : decode cX6_when 61 = .ok (.iconst 0, 1) := by decide +kernel
theorem dX6_when_62 : decode cX6_when 62 = .ok (.istore 6, 2) := by decide +kernel
theorem dX6_when_64 : decode cX6_when 64 = .ok (.iload 6, 2) := by decide +kernel
theorem dX6_when_66 : decode cX6_when 66 = .ok (.bipush 30, 2) := by decide +kernel
theorem dX6_when_68 : decode cX6_when 68 = .ok (.if_icmp .gt 86, 3) := by decide +kernel
theorem dX6_when_71 : decode cX6_when 71 = .ok (.aload_n 0, 1) := by decide +kernel
theorem dX6_when_72 : decode cX6_when 72 = .ok (.iload 6, 2) := by decide +kernel
theorem dX6_when_74 : decode cX6_when 74 = .ok (.invokevirtual 184, 3) := by decide +kernel
theorem dX6_when_77 : decode cX6_when 77 = .ok (.aload_n 0, 1) := by decide +kernel
theorem dX6_when_78 : decode cX6_when 78 = .ok (.iload_n 1, 1) := by decide +kernel
theorem dX6_when_79 : decode cX6_when 79 = .ok (.iload_n 2, 1) := by decide +kernel
theorem dX6_when_80 : decode cX6_when 80 = .ok (.invokevirtual 179, 3) := by decide +kernel
theorem dX6_when_83 : decode cX6_when 83 = .ok (.iload 6, 2) := by decide +kernel
theorem dX6_when_85 : decode cX6_when 85 = .ok (.istore 7, 2) := by decide +kernel
theorem dX6_when_87 : decode cX6_when 87 = .ok (.iload 7, 2) := by decide +kernel
theorem dX6_when_89 : decode cX6_when 89 = .ok (.bipush 60, 2) := by decide +kernel
theorem dX6_when_91 : decode cX6_when 91 = .ok (.if_icmp .gt 21, 3) := by decide +kernel
theorem dX6_when_94 : decode cX6_when 94 = .ok (.aload_n 0, 1) := by decide +kernel
theorem dX6_when_95 : decode cX6_when 95 = .ok (.iload_n 2, 1) := by decide +kernel
theorem dX6_when_96 : decode cX6_when 96 = .ok (.invokevirtual 121, 3) := by decide +kernel
theorem dX6_when_99 : decode cX6_when 99 = .ok (.ifCond .ne 13, 3) := by decide +kernel
theorem dX6_when_102 : decode cX6_when 102 = .ok (.aload_n 0, 1) := by decide +kernel
theorem dX6_when_103 : decode cX6_when 103 = .ok (.invokevirtual 131, 3) := by decide +kernel
theorem dX6_when_106 : decode cX6_when 106 = .ok (.iinc 7 1, 3) := by decide +kernel
theorem dX6_when_109 : decode cX6_when 109 = .ok (.goto (-22), 3) := by decide +kernel
theorem dX6_when_112 : decode cX6_when 112 = .ok (.aload_n 0, 1) := by decide +kernel
theorem dX6_when_113 : decode cX6_when 113 = .ok (.invokevirtual 197, 3) := by decide +kernel
theorem dX6_when_116 : decode cX6_when 116 = .ok (.iload 7, 2) := by decide +kernel
theorem dX6_when_118 : decode cX6_when 118 = .ok (.iload 5, 2) := by decide +kernel
theorem dX6_when_120 : decode cX6_when 120 = .ok (.if_icmp .le 8, 3) := by decide +kernel
theorem dX6_when_123 : decode cX6_when 123 = .ok (.iload 6, 2) := by decide +kernel
theorem dX6_when_125 : decode cX6_when 125 = .ok (.goto 5, 3) := by decide +kernel
theorem dX6_when_128 : decode cX6_when 128 = .ok (.iload 4, 2) := by decide +kernel
theorem dX6_when_130 : decode cX6_when 130 = .ok (.istore 4, 2) := by decide +kernel
theorem dX6_when_132 : decode cX6_when 132 = .ok (.iload 7, 2) := by decide +kernel
theorem dX6_when_134 : decode cX6_when 134 = .ok (.iload 5, 2) := by decide +kernel
theorem dX6_when_136 : decode cX6_when 136 = .ok (.if_icmp .le 8, 3) := by decide +kernel
theorem dX6_when_139 : decode cX6_when 139 = .ok (.iload 7, 2) := by decide +kernel
theorem dX6_when_141 : decode cX6_when 141 = .ok (.goto 5, 3) := by decide +kernel
theorem dX6_when_144 : decode cX6_when 144 = .ok (.iload 5, 2) := by decide +kernel
theorem dX6_when_146 : decode cX6_when 146 = .ok (.istore 5, 2) := by decide +kernel
theorem dX6_when_148 : decode cX6_when 148 = .ok (.iinc 6 1, 3) := by decide +kernel
theorem dX6_when_151 : decode cX6_when 151 = .ok (.goto (-87), 3) := by decide +kernel
theorem dX6_when_154 : decode cX6_when 154 = .ok (.iload 4, 2) := by decide +kernel
theorem dX6_when_156 : decode cX6_when 156 = .ok (.ireturn, 1) := by decide +kernel
set_option maxRecDepth 100000 in
set_option maxHeartbeats 4000000 in
theorem k_X6_when (κ : Kp) (ma : Nat → Nat) (M : MS) (p : Int) (c : Int)  (ha_p : In32 p) (ha_c : In32 c) (ok : okC (cl M)) (hy : M 4 0 ≤ 999) (okr : okR M) : mI κ yX6_when cX6_when 8 .int 5 [.ref (ma 100), .int (iI p), .int (iI c)] (mw κ ma M) (qM κ ma M (qWhen (cl M) (M 6) (M 7) (M 8) (M 9) (M 5 0) p c)) := by
  refine mI_of (by decide) (Nat.le_of_ble_eq_true rfl) (fun E F K => ?_)
  refine g_lv (lv' := [(0, .ref (ma 100)), (1, .int (iI p)), (2, .int (iI c))]) rfl ?_
  refine g_aload_n F 0 dX6_when_0 rfl ?_
  refine g_iconst F dX6_when_1 ?_
  refine gm_put_10 F dX6_when_2 ?_
  have hn := okr.1
  refine g_aload_n F 0 dX6_when_5 rfl ?_
  refine g_iload_n F 1 dX6_when_6 rfl ?_
  refine g_callI F (stk := [.int (iI p), .ref (ma 100)]) (st := []) (k_X6_isPiece κ ma (mA M 10 (fun _ => 0)) p (show In32 p ∧ 0 ≤ (M 5 0) ∧ (M 5 0) ≤ 6 from by omega)) cal_X6_isPiece lm_X6_176 0 rfl rfl rfl rfl (by decide) rfl (Nat.le_of_ble_eq_true rfl) dX6_when_7 (fun r7 ws7 _ hr7 => ?_)
  obtain ⟨rfl, rfl⟩ := hr7
  refine g_top (y := iI (b2i (0 ≤ p ∧ p < (M 5 0)))) rfl ?_
  refine g_if_eq F 20 (b2i_in _) dX6_when_10 (by decide) (fun c10 => ?_) (fun c10 => ?_)
  · skip
    have c10 : ¬ (0 ≤ p ∧ p < (M 5 0)) := b2i_f c10
    refine g_iconst F dX6_when_20 ?_
    refine g_goto F 40 dX6_when_21 (by decide) ?_
    refine g_istore_n F (lv' := [(3, .int (iI (-1))), (0, .ref (ma 100)), (1, .int (iI p)), (2, .int (iI c))]) 3 dX6_when_40 rfl (by decide) rfl ?_
    refine g_iload_n F 0 dX6_when_41 rfl ?_
    refine g_if_ge F 51 (by omega) dX6_when_42 (by decide) (fun c42 => ?_) (fun c42 => ?_)
    · skip
      refine g_iconst F dX6_when_51 ?_
      refine g_istore F (lv' := [(4, .int (iI 0)), (3, .int (iI (-1))), (0, .ref (ma 100)), (1, .int (iI p)), (2, .int (iI c))]) dX6_when_52 (by decide) rfl ?_
      refine g_iconst F dX6_when_54 ?_
      refine g_istore F (lv' := [(5, .int (iI (-1))), (4, .int (iI 0)), (3, .int (iI (-1))), (0, .ref (ma 100)), (1, .int (iI p)), (2, .int (iI c))]) dX6_when_55 (by decide) rfl ?_
      refine g_aload_n F 3 dX6_when_57 rfl ?_
      refine g_callV F (stk := [.ref (ma 100)]) (st := []) (k_X6_think κ ma (mA M 10 (fun _ => 0))) cal_X6_think lm_X6_191 0 rfl rfl rfl rfl (by decide) rfl (Nat.le_of_ble_eq_true rfl) dX6_when_58 (fun ws58 _ hr58 => ?_)
      obtain rfl := hr58
      refine g_ws (ws' := mw κ ma (thk (mA M 10 (fun _ => 0)))) rfl ?_
      refine g_iconst F dX6_when_61 ?_
      refine g_istore F (lv' := [(6, .int (iI 0)), (5, .int (iI (-1))), (4, .int (iI 0)), (3, .int (iI (-1))), (0, .ref (ma 100)), (1, .int (iI p)), (2, .int (iI c))]) dX6_when_62 (by decide) rfl ?_
      have L64 : ∀ (mz64 : Nat) (n : Int) (b : Int) (l : Int) (Gm : MS), (31 - n).toNat = mz64 → (0 ≤ n ∧ n ≤ 31) → (sWhen (cl M) (M 6) (M 7) (M 8) p c n = (b, l)) → ((-1 ≤ l ∧ l ≤ 61) ∧ 0 ≤ b ∧ b ≤ n) → G E (mw κ ma (tst M Gm)) [(6, .int (iI n)), (5, .int (iI l)), (4, .int (iI b)), (0, .ref (ma 100)), (1, .int (iI p)), (2, .int (iI c))] 64 [] := by
        intro mz64
        induction mz64 using Nat.strongRecOn with
        | _ mz64 ih64 =>
        intro n b l Gm hmz64 hn2 hs hl
        refine g_iload F 0 dX6_when_64 rfl ?_
        refine g_bipush F dX6_when_66 (by decide +kernel) ?_
        refine g_icmp_gt F 154 (by omega) dX6_when_68 (by decide) (fun c68 => ?_) (fun c68 => ?_)
        · skip
          refine g_iload F 2 dX6_when_154 rfl ?_
          have e : (sWhen (cl M) (M 6) (M 7) (M 8) p c 31).1 = b := by rw [show (31 : Int) = n by omega, hs]
          have hq : b = qWhen (cl M) (M 6) (M 7) (M 8) (M 9) (M 5 0) p c := by unfold qWhen; rw [if_neg (by omega), if_neg (by omega), e]
          exact K mw_same ⟨_, rfl, iIc hq, ⟨rfl, rfl, rfl, rfl, rfl, rfl, rfl, rfl, rfl, rfl, rfl, rfl, rfl, rfl, rfl, rfl, rfl, rfl⟩, (by rw [← hq]; show M 11 = _; exact (rfa_n (by omega)).symm)⟩ rfl dX6_when_156
        · skip
          have hrp : (0 ≤ M 6 p ∧ M 6 p ≤ 5) ∧ (0 ≤ M 7 p ∧ M 7 p ≤ 9) ∧ (0 ≤ M 8 p ∧ M 8 p ≤ 99) ∧ 0 ≤ M 9 p ∧ M 9 p ≤ 1 := okr.2 p (by omega) (by omega)
          have hyy := goI_yr (C := cl M) hn2.1
          have hyc : yr (cl M) = M 4 0 := rfl
          refine g_aload_n F 3 dX6_when_71 rfl ?_
          refine g_iload F 0 dX6_when_72 rfl ?_
          refine g_callV F (stk := [.int (iI n), .ref (ma 100)]) (st := []) (k_X6_goYears κ ma (tst M Gm) n (show (0 ≤ n ∧ n ≤ 1000) ∧ (M 4 0) + n ≤ 1000000 from by omega) ok) cal_X6_goYears lm_X6_184 0 rfl rfl rfl rfl (by decide) rfl (Nat.le_of_ble_eq_true rfl) dX6_when_74 (fun ws74 _ hr74 => ?_)
          obtain rfl := hr74
          refine g_ws (ws' := mw κ ma (stC (tst M Gm) (goI n (cl M)))) rfl ?_
          refine g_aload_n F 3 dX6_when_77 rfl ?_
          refine g_iload_n F 4 dX6_when_78 rfl ?_
          refine g_iload_n F 5 dX6_when_79 rfl ?_
          refine g_callV F (stk := [.int (iI c), .int (iI p), .ref (ma 100)]) (st := []) (k_X6_putOn κ ma (stC (tst M Gm) (goI n (cl M))) p c (by omega) (by omega)) cal_X6_putOn lm_X6_179 0 rfl rfl rfl rfl (by decide) rfl (Nat.le_of_ble_eq_true rfl) dX6_when_80 (fun ws80 _ hr80 => ?_)
          obtain rfl := hr80
          refine g_ws (ws' := mw κ ma (mA (stC (tst M Gm) (make (goI n (cl M)) c (M 6 p) (M 7 p) (M 8 p))) 9 (uI (M 9) p 1))) rfl ?_
          refine g_iload F 0 dX6_when_83 rfl ?_
          refine g_istore F (lv' := [(7, .int (iI n)), (6, .int (iI n)), (5, .int (iI l)), (4, .int (iI b)), (0, .ref (ma 100)), (1, .int (iI p)), (2, .int (iI c))]) dX6_when_85 (by decide) rfl ?_
          have L87 : ∀ (mz87 : Nat) (y : Int), (61 - y).toNat = mz87 → (n ≤ y ∧ y ≤ 61) → (ych (goI (y - n) (make (goI n (cl M)) c (M 6 p) (M 7 p) (M 8 p))) c y = ych (make (goI n (cl M)) c (M 6 p) (M 7 p) (M 8 p)) c n) → G E (mw κ ma (stC (mA (stC (tst M Gm) (make (goI n (cl M)) c (M 6 p) (M 7 p) (M 8 p))) 9 (uI (M 9) p 1)) (goI (y - n) (make (goI n (cl M)) c (M 6 p) (M 7 p) (M 8 p))))) [(7, .int (iI y)), (6, .int (iI n)), (5, .int (iI l)), (4, .int (iI b)), (0, .ref (ma 100)), (1, .int (iI p)), (2, .int (iI c))] 87 [] := by
            intro mz87
            induction mz87 using Nat.strongRecOn with
            | _ mz87 ih87 =>
            intro y hmz87 hy2 hR
            refine g_iload F 0 dX6_when_87 rfl ?_
            refine g_bipush F dX6_when_89 (by decide +kernel) ?_
            refine g_icmp_gt F 112 (by omega) dX6_when_91 (by decide) (fun c91 => ?_) (fun c91 => ?_)
            · skip
              have hz : y = ych (make (goI n (cl M)) c (M 6 p) (M 7 p) (M 8 p)) c n := by first | (rw [← hR, ych_s (by omega), if_pos c99]) | (rw [← hR, show y = 61 by omega]; rfl)
              refine g_aload_n F 4 dX6_when_112 rfl ?_
              refine g_callV F (stk := [.ref (ma 100)]) (st := []) (k_X6_again κ ma (stC (mA (stC (tst M Gm) (make (goI n (cl M)) c (M 6 p) (M 7 p) (M 8 p))) 9 (uI (M 9) p 1)) (goI (y - n) (make (goI n (cl M)) c (M 6 p) (M 7 p) (M 8 p)))) M (fun _ _ _ => rfl)) cal_X6_again lm_X6_197 0 rfl rfl rfl rfl (by decide) rfl (Nat.le_of_ble_eq_true rfl) dX6_when_113 (fun ws113 _ hr113 => ?_)
              obtain rfl := hr113
              refine g_iload F 0 dX6_when_116 rfl ?_
              refine g_iload F 2 dX6_when_118 rfl ?_
              refine g_icmp_le F 128 (by omega) dX6_when_120 (by decide) (fun c120 => ?_) (fun c120 => ?_)
              · skip
                refine g_iload F 3 dX6_when_128 rfl ?_
                refine g_istore F (lv' := [(4, .int (iI b)), (7, .int (iI y)), (6, .int (iI n)), (5, .int (iI l)), (0, .ref (ma 100)), (1, .int (iI p)), (2, .int (iI c))]) dX6_when_130 (by decide) rfl ?_
                refine g_iload F 1 dX6_when_132 rfl ?_
                refine g_iload F 3 dX6_when_134 rfl ?_
                refine g_icmp_le F 144 (by omega) dX6_when_136 (by decide) (fun c136 => ?_) (fun c136 => ?_)
                · skip
                  refine g_iload F 3 dX6_when_144 rfl ?_
                  refine g_istore F (lv' := [(5, .int (iI l)), (4, .int (iI b)), (7, .int (iI y)), (6, .int (iI n)), (0, .ref (ma 100)), (1, .int (iI p)), (2, .int (iI c))]) dX6_when_146 (by decide) rfl ?_
                  refine g_iinc F (lv' := [(6, .int (iI (n + 1))), (5, .int (iI l)), (4, .int (iI b)), (7, .int (iI y)), (0, .ref (ma 100)), (1, .int (iI p)), (2, .int (iI c))]) 3 dX6_when_148 rfl (by decide) rfl ?_
                  refine g_goto F 64 dX6_when_151 (by decide) ?_
                  refine g_sub F (lv' := [(6, .int (iI (n + 1))), (5, .int (iI l)), (4, .int (iI b)), (0, .ref (ma 100)), (1, .int (iI p)), (2, .int (iI c))]) [0, 1, 2, 4, 5, 6] rfl ?_
                  refine g_ws (ws' := mw κ ma (tst M (agn (stC (mA (stC (tst M Gm) (make (goI n (cl M)) c (M 6 p) (M 7 p) (M 8 p))) 9 (uI (M 9) p 1)) (goI (y - n) (make (goI n (cl M)) c (M 6 p) (M 7 p) (M 8 p)))) M))) rfl ?_
                  exact ih64 _ (by omega) (n + 1) b l (agn (stC (mA (stC (tst M Gm) (make (goI n (cl M)) c (M 6 p) (M 7 p) (M 8 p))) 9 (uI (M 9) p 1)) (goI (y - n) (make (goI n (cl M)) c (M 6 p) (M 7 p) (M 8 p)))) M) rfl (by omega) (by first | (exfalso; omega) | exact smx_tx hs rfl hz.symm hn2.1 rfl (by omega) | exact smx_fx (x := y) hs hz.symm hn2.1 (Or.inr (by omega))) (by omega)
                · skip
                  refine g_iload F 1 dX6_when_139 rfl ?_
                  refine g_goto F 146 dX6_when_141 (by decide) ?_
                  refine g_istore F (lv' := [(5, .int (iI y)), (4, .int (iI b)), (7, .int (iI y)), (6, .int (iI n)), (0, .ref (ma 100)), (1, .int (iI p)), (2, .int (iI c))]) dX6_when_146 (by decide) rfl ?_
                  refine g_iinc F (lv' := [(6, .int (iI (n + 1))), (5, .int (iI y)), (4, .int (iI b)), (7, .int (iI y)), (0, .ref (ma 100)), (1, .int (iI p)), (2, .int (iI c))]) 3 dX6_when_148 rfl (by decide) rfl ?_
                  refine g_goto F 64 dX6_when_151 (by decide) ?_
                  refine g_sub F (lv' := [(6, .int (iI (n + 1))), (5, .int (iI y)), (4, .int (iI b)), (0, .ref (ma 100)), (1, .int (iI p)), (2, .int (iI c))]) [0, 1, 2, 4, 5, 6] rfl ?_
                  refine g_ws (ws' := mw κ ma (tst M (agn (stC (mA (stC (tst M Gm) (make (goI n (cl M)) c (M 6 p) (M 7 p) (M 8 p))) 9 (uI (M 9) p 1)) (goI (y - n) (make (goI n (cl M)) c (M 6 p) (M 7 p) (M 8 p)))) M))) rfl ?_
                  exact ih64 _ (by omega) (n + 1) b y (agn (stC (mA (stC (tst M Gm) (make (goI n (cl M)) c (M 6 p) (M 7 p) (M 8 p))) 9 (uI (M 9) p 1)) (goI (y - n) (make (goI n (cl M)) c (M 6 p) (M 7 p) (M 8 p)))) M) rfl (by omega) (by first | (exfalso; omega) | exact smx_tx hs rfl hz.symm hn2.1 rfl (by omega) | exact smx_fx (x := y) hs hz.symm hn2.1 (Or.inr (by omega))) (by omega)
              · skip
                refine g_iload F 1 dX6_when_123 rfl ?_
                refine g_goto F 130 dX6_when_125 (by decide) ?_
                refine g_istore F (lv' := [(4, .int (iI n)), (7, .int (iI y)), (6, .int (iI n)), (5, .int (iI l)), (0, .ref (ma 100)), (1, .int (iI p)), (2, .int (iI c))]) dX6_when_130 (by decide) rfl ?_
                refine g_iload F 1 dX6_when_132 rfl ?_
                refine g_iload F 3 dX6_when_134 rfl ?_
                refine g_icmp_le F 144 (by omega) dX6_when_136 (by decide) (fun c136 => ?_) (fun c136 => ?_)
                · skip
                  refine g_iload F 3 dX6_when_144 rfl ?_
                  refine g_istore F (lv' := [(5, .int (iI l)), (4, .int (iI n)), (7, .int (iI y)), (6, .int (iI n)), (0, .ref (ma 100)), (1, .int (iI p)), (2, .int (iI c))]) dX6_when_146 (by decide) rfl ?_
                  refine g_iinc F (lv' := [(6, .int (iI (n + 1))), (5, .int (iI l)), (4, .int (iI n)), (7, .int (iI y)), (0, .ref (ma 100)), (1, .int (iI p)), (2, .int (iI c))]) 3 dX6_when_148 rfl (by decide) rfl ?_
                  refine g_goto F 64 dX6_when_151 (by decide) ?_
                  refine g_sub F (lv' := [(6, .int (iI (n + 1))), (5, .int (iI l)), (4, .int (iI n)), (0, .ref (ma 100)), (1, .int (iI p)), (2, .int (iI c))]) [0, 1, 2, 4, 5, 6] rfl ?_
                  refine g_ws (ws' := mw κ ma (tst M (agn (stC (mA (stC (tst M Gm) (make (goI n (cl M)) c (M 6 p) (M 7 p) (M 8 p))) 9 (uI (M 9) p 1)) (goI (y - n) (make (goI n (cl M)) c (M 6 p) (M 7 p) (M 8 p)))) M))) rfl ?_
                  exact ih64 _ (by omega) (n + 1) n l (agn (stC (mA (stC (tst M Gm) (make (goI n (cl M)) c (M 6 p) (M 7 p) (M 8 p))) 9 (uI (M 9) p 1)) (goI (y - n) (make (goI n (cl M)) c (M 6 p) (M 7 p) (M 8 p)))) M) rfl (by omega) (by first | (exfalso; omega) | exact smx_tx hs rfl hz.symm hn2.1 rfl (by omega) | exact smx_fx (x := y) hs hz.symm hn2.1 (Or.inr (by omega))) (by omega)
                · skip
                  refine g_iload F 1 dX6_when_139 rfl ?_
                  refine g_goto F 146 dX6_when_141 (by decide) ?_
                  refine g_istore F (lv' := [(5, .int (iI y)), (4, .int (iI n)), (7, .int (iI y)), (6, .int (iI n)), (0, .ref (ma 100)), (1, .int (iI p)), (2, .int (iI c))]) dX6_when_146 (by decide) rfl ?_
                  refine g_iinc F (lv' := [(6, .int (iI (n + 1))), (5, .int (iI y)), (4, .int (iI n)), (7, .int (iI y)), (0, .ref (ma 100)), (1, .int (iI p)), (2, .int (iI c))]) 3 dX6_when_148 rfl (by decide) rfl ?_
                  refine g_goto F 64 dX6_when_151 (by decide) ?_
                  refine g_sub F (lv' := [(6, .int (iI (n + 1))), (5, .int (iI y)), (4, .int (iI n)), (0, .ref (ma 100)), (1, .int (iI p)), (2, .int (iI c))]) [0, 1, 2, 4, 5, 6] rfl ?_
                  refine g_ws (ws' := mw κ ma (tst M (agn (stC (mA (stC (tst M Gm) (make (goI n (cl M)) c (M 6 p) (M 7 p) (M 8 p))) 9 (uI (M 9) p 1)) (goI (y - n) (make (goI n (cl M)) c (M 6 p) (M 7 p) (M 8 p)))) M))) rfl ?_
                  exact ih64 _ (by omega) (n + 1) n y (agn (stC (mA (stC (tst M Gm) (make (goI n (cl M)) c (M 6 p) (M 7 p) (M 8 p))) 9 (uI (M 9) p 1)) (goI (y - n) (make (goI n (cl M)) c (M 6 p) (M 7 p) (M 8 p)))) M) rfl (by omega) (by first | (exfalso; omega) | exact smx_tx hs rfl hz.symm hn2.1 rfl (by omega) | exact smx_fx (x := y) hs hz.symm hn2.1 (Or.inr (by omega))) (by omega)
            · skip
              have okd := goI_ok (make_ok (c := c) (goI_ok ok n) hrp.1 hrp.2.1 hrp.2.2.1) (y - n)
              have hyz : yr (goI (y - n) (make (goI n (cl M)) c (M 6 p) (M 7 p) (M 8 p))) < 1000000 := by have e := goI_yr (C := make (goI n (cl M)) c (M 6 p) (M 7 p) (M 8 p)) (n := y - n) (by omega); have e2 : yr (make (goI n (cl M)) c (M 6 p) (M 7 p) (M 8 p)) = yr (goI n (cl M)) := rfl; omega
              refine g_aload_n F 4 dX6_when_94 rfl ?_
              refine g_iload_n F 6 dX6_when_95 rfl ?_
              refine g_callI F (stk := [.int (iI c), .ref (ma 100)]) (st := []) (k_X6_isHole κ ma (stC (mA (stC (tst M Gm) (make (goI n (cl M)) c (M 6 p) (M 7 p) (M 8 p))) 9 (uI (M 9) p 1)) (goI (y - n) (make (goI n (cl M)) c (M 6 p) (M 7 p) (M 8 p)))) c (by omega) okd) cal_X6_isHole lm_X6_121 0 rfl rfl rfl rfl (by decide) rfl (Nat.le_of_ble_eq_true rfl) dX6_when_96 (fun r96 ws96 _ hr96 => ?_)
              obtain ⟨rfl, rfl⟩ := hr96
              refine g_top (y := iI (b2i (hole (goI (y - n) (make (goI n (cl M)) c (M 6 p) (M 7 p) (M 8 p))) c))) rfl ?_
              refine g_if_ne F 112 (b2i_in _) dX6_when_99 (by decide) (fun c99 => ?_) (fun c99 => ?_)
              · skip
                have c99 : hole (goI (y - n) (make (goI n (cl M)) c (M 6 p) (M 7 p) (M 8 p))) c := b2i_t c99
                have hz : y = ych (make (goI n (cl M)) c (M 6 p) (M 7 p) (M 8 p)) c n := by first | (rw [← hR, ych_s (by omega), if_pos c99]) | (rw [← hR, show y = 61 by omega]; rfl)
                refine g_aload_n F 4 dX6_when_112 rfl ?_
                refine g_callV F (stk := [.ref (ma 100)]) (st := []) (k_X6_again κ ma (stC (mA (stC (tst M Gm) (make (goI n (cl M)) c (M 6 p) (M 7 p) (M 8 p))) 9 (uI (M 9) p 1)) (goI (y - n) (make (goI n (cl M)) c (M 6 p) (M 7 p) (M 8 p)))) M (fun _ _ _ => rfl)) cal_X6_again lm_X6_197 0 rfl rfl rfl rfl (by decide) rfl (Nat.le_of_ble_eq_true rfl) dX6_when_113 (fun ws113 _ hr113 => ?_)
                obtain rfl := hr113
                refine g_iload F 0 dX6_when_116 rfl ?_
                refine g_iload F 2 dX6_when_118 rfl ?_
                refine g_icmp_le F 128 (by omega) dX6_when_120 (by decide) (fun c120 => ?_) (fun c120 => ?_)
                · skip
                  refine g_iload F 3 dX6_when_128 rfl ?_
                  refine g_istore F (lv' := [(4, .int (iI b)), (7, .int (iI y)), (6, .int (iI n)), (5, .int (iI l)), (0, .ref (ma 100)), (1, .int (iI p)), (2, .int (iI c))]) dX6_when_130 (by decide) rfl ?_
                  refine g_iload F 1 dX6_when_132 rfl ?_
                  refine g_iload F 3 dX6_when_134 rfl ?_
                  refine g_icmp_le F 144 (by omega) dX6_when_136 (by decide) (fun c136 => ?_) (fun c136 => ?_)
                  · skip
                    refine g_iload F 3 dX6_when_144 rfl ?_
                    refine g_istore F (lv' := [(5, .int (iI l)), (4, .int (iI b)), (7, .int (iI y)), (6, .int (iI n)), (0, .ref (ma 100)), (1, .int (iI p)), (2, .int (iI c))]) dX6_when_146 (by decide) rfl ?_
                    refine g_iinc F (lv' := [(6, .int (iI (n + 1))), (5, .int (iI l)), (4, .int (iI b)), (7, .int (iI y)), (0, .ref (ma 100)), (1, .int (iI p)), (2, .int (iI c))]) 3 dX6_when_148 rfl (by decide) rfl ?_
                    refine g_goto F 64 dX6_when_151 (by decide) ?_
                    refine g_sub F (lv' := [(6, .int (iI (n + 1))), (5, .int (iI l)), (4, .int (iI b)), (0, .ref (ma 100)), (1, .int (iI p)), (2, .int (iI c))]) [0, 1, 2, 4, 5, 6] rfl ?_
                    refine g_ws (ws' := mw κ ma (tst M (agn (stC (mA (stC (tst M Gm) (make (goI n (cl M)) c (M 6 p) (M 7 p) (M 8 p))) 9 (uI (M 9) p 1)) (goI (y - n) (make (goI n (cl M)) c (M 6 p) (M 7 p) (M 8 p)))) M))) rfl ?_
                    exact ih64 _ (by omega) (n + 1) b l (agn (stC (mA (stC (tst M Gm) (make (goI n (cl M)) c (M 6 p) (M 7 p) (M 8 p))) 9 (uI (M 9) p 1)) (goI (y - n) (make (goI n (cl M)) c (M 6 p) (M 7 p) (M 8 p)))) M) rfl (by omega) (by first | (exfalso; omega) | exact smx_tx hs rfl hz.symm hn2.1 rfl (by omega) | exact smx_fx (x := y) hs hz.symm hn2.1 (Or.inr (by omega))) (by omega)
                  · skip
                    refine g_iload F 1 dX6_when_139 rfl ?_
                    refine g_goto F 146 dX6_when_141 (by decide) ?_
                    refine g_istore F (lv' := [(5, .int (iI y)), (4, .int (iI b)), (7, .int (iI y)), (6, .int (iI n)), (0, .ref (ma 100)), (1, .int (iI p)), (2, .int (iI c))]) dX6_when_146 (by decide) rfl ?_
                    refine g_iinc F (lv' := [(6, .int (iI (n + 1))), (5, .int (iI y)), (4, .int (iI b)), (7, .int (iI y)), (0, .ref (ma 100)), (1, .int (iI p)), (2, .int (iI c))]) 3 dX6_when_148 rfl (by decide) rfl ?_
                    refine g_goto F 64 dX6_when_151 (by decide) ?_
                    refine g_sub F (lv' := [(6, .int (iI (n + 1))), (5, .int (iI y)), (4, .int (iI b)), (0, .ref (ma 100)), (1, .int (iI p)), (2, .int (iI c))]) [0, 1, 2, 4, 5, 6] rfl ?_
                    refine g_ws (ws' := mw κ ma (tst M (agn (stC (mA (stC (tst M Gm) (make (goI n (cl M)) c (M 6 p) (M 7 p) (M 8 p))) 9 (uI (M 9) p 1)) (goI (y - n) (make (goI n (cl M)) c (M 6 p) (M 7 p) (M 8 p)))) M))) rfl ?_
                    exact ih64 _ (by omega) (n + 1) b y (agn (stC (mA (stC (tst M Gm) (make (goI n (cl M)) c (M 6 p) (M 7 p) (M 8 p))) 9 (uI (M 9) p 1)) (goI (y - n) (make (goI n (cl M)) c (M 6 p) (M 7 p) (M 8 p)))) M) rfl (by omega) (by first | (exfalso; omega) | exact smx_tx hs rfl hz.symm hn2.1 rfl (by omega) | exact smx_fx (x := y) hs hz.symm hn2.1 (Or.inr (by omega))) (by omega)
                · skip
                  refine g_iload F 1 dX6_when_123 rfl ?_
                  refine g_goto F 130 dX6_when_125 (by decide) ?_
                  refine g_istore F (lv' := [(4, .int (iI n)), (7, .int (iI y)), (6, .int (iI n)), (5, .int (iI l)), (0, .ref (ma 100)), (1, .int (iI p)), (2, .int (iI c))]) dX6_when_130 (by decide) rfl ?_
                  refine g_iload F 1 dX6_when_132 rfl ?_
                  refine g_iload F 3 dX6_when_134 rfl ?_
                  refine g_icmp_le F 144 (by omega) dX6_when_136 (by decide) (fun c136 => ?_) (fun c136 => ?_)
                  · skip
                    refine g_iload F 3 dX6_when_144 rfl ?_
                    refine g_istore F (lv' := [(5, .int (iI l)), (4, .int (iI n)), (7, .int (iI y)), (6, .int (iI n)), (0, .ref (ma 100)), (1, .int (iI p)), (2, .int (iI c))]) dX6_when_146 (by decide) rfl ?_
                    refine g_iinc F (lv' := [(6, .int (iI (n + 1))), (5, .int (iI l)), (4, .int (iI n)), (7, .int (iI y)), (0, .ref (ma 100)), (1, .int (iI p)), (2, .int (iI c))]) 3 dX6_when_148 rfl (by decide) rfl ?_
                    refine g_goto F 64 dX6_when_151 (by decide) ?_
                    refine g_sub F (lv' := [(6, .int (iI (n + 1))), (5, .int (iI l)), (4, .int (iI n)), (0, .ref (ma 100)), (1, .int (iI p)), (2, .int (iI c))]) [0, 1, 2, 4, 5, 6] rfl ?_
                    refine g_ws (ws' := mw κ ma (tst M (agn (stC (mA (stC (tst M Gm) (make (goI n (cl M)) c (M 6 p) (M 7 p) (M 8 p))) 9 (uI (M 9) p 1)) (goI (y - n) (make (goI n (cl M)) c (M 6 p) (M 7 p) (M 8 p)))) M))) rfl ?_
                    exact ih64 _ (by omega) (n + 1) n l (agn (stC (mA (stC (tst M Gm) (make (goI n (cl M)) c (M 6 p) (M 7 p) (M 8 p))) 9 (uI (M 9) p 1)) (goI (y - n) (make (goI n (cl M)) c (M 6 p) (M 7 p) (M 8 p)))) M) rfl (by omega) (by first | (exfalso; omega) | exact smx_tx hs rfl hz.symm hn2.1 rfl (by omega) | exact smx_fx (x := y) hs hz.symm hn2.1 (Or.inr (by omega))) (by omega)
                  · skip
                    refine g_iload F 1 dX6_when_139 rfl ?_
                    refine g_goto F 146 dX6_when_141 (by decide) ?_
                    refine g_istore F (lv' := [(5, .int (iI y)), (4, .int (iI n)), (7, .int (iI y)), (6, .int (iI n)), (0, .ref (ma 100)), (1, .int (iI p)), (2, .int (iI c))]) dX6_when_146 (by decide) rfl ?_
                    refine g_iinc F (lv' := [(6, .int (iI (n + 1))), (5, .int (iI y)), (4, .int (iI n)), (7, .int (iI y)), (0, .ref (ma 100)), (1, .int (iI p)), (2, .int (iI c))]) 3 dX6_when_148 rfl (by decide) rfl ?_
                    refine g_goto F 64 dX6_when_151 (by decide) ?_
                    refine g_sub F (lv' := [(6, .int (iI (n + 1))), (5, .int (iI y)), (4, .int (iI n)), (0, .ref (ma 100)), (1, .int (iI p)), (2, .int (iI c))]) [0, 1, 2, 4, 5, 6] rfl ?_
                    refine g_ws (ws' := mw κ ma (tst M (agn (stC (mA (stC (tst M Gm) (make (goI n (cl M)) c (M 6 p) (M 7 p) (M 8 p))) 9 (uI (M 9) p 1)) (goI (y - n) (make (goI n (cl M)) c (M 6 p) (M 7 p) (M 8 p)))) M))) rfl ?_
                    exact ih64 _ (by omega) (n + 1) n y (agn (stC (mA (stC (tst M Gm) (make (goI n (cl M)) c (M 6 p) (M 7 p) (M 8 p))) 9 (uI (M 9) p 1)) (goI (y - n) (make (goI n (cl M)) c (M 6 p) (M 7 p) (M 8 p)))) M) rfl (by omega) (by first | (exfalso; omega) | exact smx_tx hs rfl hz.symm hn2.1 rfl (by omega) | exact smx_fx (x := y) hs hz.symm hn2.1 (Or.inr (by omega))) (by omega)
              · skip
                have c99 : ¬ (hole (goI (y - n) (make (goI n (cl M)) c (M 6 p) (M 7 p) (M 8 p))) c) := b2i_f c99
                refine g_aload_n F 4 dX6_when_102 rfl ?_
                refine g_callV F (stk := [.ref (ma 100)]) (st := []) (k_X6_yearOn κ ma (stC (mA (stC (tst M Gm) (make (goI n (cl M)) c (M 6 p) (M 7 p) (M 8 p))) 9 (uI (M 9) p 1)) (goI (y - n) (make (goI n (cl M)) c (M 6 p) (M 7 p) (M 8 p)))) hyz okd) cal_X6_yearOn lm_X6_131 0 rfl rfl rfl rfl (by decide) rfl (Nat.le_of_ble_eq_true rfl) dX6_when_103 (fun ws103 _ hr103 => ?_)
                obtain rfl := hr103
                refine g_ws (ws' := mw κ ma (stC (mA (stC (tst M Gm) (make (goI n (cl M)) c (M 6 p) (M 7 p) (M 8 p))) 9 (uI (M 9) p 1)) (yearOn (goI (y - n) (make (goI n (cl M)) c (M 6 p) (M 7 p) (M 8 p)))))) rfl ?_
                refine g_iinc F (lv' := [(7, .int (iI (y + 1))), (6, .int (iI n)), (5, .int (iI l)), (4, .int (iI b)), (0, .ref (ma 100)), (1, .int (iI p)), (2, .int (iI c))]) 0 dX6_when_106 rfl (by decide) rfl ?_
                refine g_goto F 87 dX6_when_109 (by decide) ?_
                refine g_sub F (lv' := [(7, .int (iI (y + 1))), (6, .int (iI n)), (5, .int (iI l)), (4, .int (iI b)), (0, .ref (ma 100)), (1, .int (iI p)), (2, .int (iI c))]) [0, 1, 2, 3, 4, 5, 6] rfl ?_
                refine g_ws (ws' := mw κ ma (stC (mA (stC (tst M Gm) (make (goI n (cl M)) c (M 6 p) (M 7 p) (M 8 p))) 9 (uI (M 9) p 1)) (goI ((y + 1) - n) (make (goI n (cl M)) c (M 6 p) (M 7 p) (M 8 p))))) (by rw [show y + 1 - n = (y - n) + 1 by omega, goI_s (by omega)]) ?_
                exact ih87 _ (by omega) (y + 1) rfl (by omega) (by rw [← hR, ych_s (n := y) (by omega), if_neg c99, show y + 1 - n = (y - n) + 1 by omega, goI_s (by omega)])
          refine g_sub F (lv' := [(7, .int (iI n)), (6, .int (iI n)), (5, .int (iI l)), (4, .int (iI b)), (0, .ref (ma 100)), (1, .int (iI p)), (2, .int (iI c))]) [0, 1, 2, 3, 4, 5, 6] rfl ?_
          refine g_ws (ws' := mw κ ma (stC (mA (stC (tst M Gm) (make (goI n (cl M)) c (M 6 p) (M 7 p) (M 8 p))) 9 (uI (M 9) p 1)) (goI (n - n) (make (goI n (cl M)) c (M 6 p) (M 7 p) (M 8 p))))) (by rw [show n - n = 0 by omega, goI_0]; rfl) ?_
          exact L87 _ n rfl (by omega) (by rw [show n - n = 0 by omega, goI_0])
      refine g_sub F (lv' := [(6, .int (iI 0)), (5, .int (iI (-1))), (4, .int (iI 0)), (0, .ref (ma 100)), (1, .int (iI p)), (2, .int (iI c))]) [0, 1, 2, 4, 5, 6] rfl ?_
      refine g_ws (ws' := mw κ ma (tst M (thk (mA M 10 (fun _ => 0))))) (by unfold thk; rw [snapF_mA (by decide)]; rfl) ?_
      exact L64 _ 0 0 (-1) (thk (mA M 10 (fun _ => 0))) rfl (by omega) rfl (by omega)
    · skip
      refine g_aload_n F 1 dX6_when_45 rfl ?_
      refine g_iload_n F 0 dX6_when_46 rfl ?_
      refine g_callI F (stk := [.int (iI (-1)), .ref (ma 100)]) (st := []) (k_X6_refuse κ ma (mA M 10 (fun _ => 0)) (-1) (by omega)) cal_X6_refuse lm_X6_138 0 rfl rfl rfl rfl (by decide) rfl (Nat.le_of_ble_eq_true rfl) dX6_when_47 (fun r47 ws47 _ hr47 => ?_)
      obtain ⟨rfl, rfl⟩ := hr47
      refine g_top (y := iI (-1)) rfl ?_
      refine g_ws (ws' := mw κ ma (mA (mA M 10 (fun _ => 0)) 11 (uI (M 11) (-(-1)) (M 11 (-(-1)) + 1)))) rfl ?_
      have hq : (-1) = qWhen (cl M) (M 6) (M 7) (M 8) (M 9) (M 5 0) p c := by unfold qWhen; (repeat' split) <;> omega
      exact K mw_same ⟨_, rfl, iIc hq, ⟨rfl, rfl, rfl, rfl, rfl, rfl, rfl, rfl, rfl, rfl, rfl, rfl, rfl, rfl, rfl, rfl, rfl, rfl⟩, (by rw [← hq]; exact (rfa_r (by omega)).symm)⟩ rfl dX6_when_50
  · skip
    have c10 : 0 ≤ p ∧ p < (M 5 0) := b2i_t c10
    refine g_iload_n F 2 dX6_when_13 rfl ?_
    refine g_callSI F (stk := [.int (iI c)]) (st := []) (k_X6_isCell κ (mw κ ma (mA M 10 (fun _ => 0))) c (by omega)) cal_X6_isCell lm_X6_222 rfl (by decide) rfl (Nat.le_of_ble_eq_true rfl) dX6_when_14 (fun r14 ws14 _ hr14 => ?_)
    obtain ⟨rfl, rfl⟩ := hr14
    refine g_if_ne F 24 (b2i_in _) dX6_when_17 (by decide) (fun c17 => ?_) (fun c17 => ?_)
    · skip
      have c17 : 0 ≤ c ∧ c < 12 := b2i_t c17
      have hrp : (0 ≤ M 6 p ∧ M 6 p ≤ 5) ∧ (0 ≤ M 7 p ∧ M 7 p ≤ 9) ∧ (0 ≤ M 8 p ∧ M 8 p ≤ 99) ∧ 0 ≤ M 9 p ∧ M 9 p ≤ 1 := okr.2 p (by omega) (by omega)
      refine g_aload_n F 0 dX6_when_24 rfl ?_
      refine gm_get_9 F dX6_when_25 ?_
      refine g_iload_n F 1 dX6_when_28 rfl ?_
      refine gm_ald_9 F (by omega) dX6_when_29 ?_
      refine g_top (y := iI (M 9 p)) rfl ?_
      refine g_iconst F dX6_when_30 ?_
      refine g_icmp_ne F 39 (by omega) dX6_when_31 (by decide) (fun c31 => ?_) (fun c31 => ?_)
      · skip
        refine g_iconst F dX6_when_39 ?_
        refine g_istore_n F (lv' := [(3, .int (iI 0)), (0, .ref (ma 100)), (1, .int (iI p)), (2, .int (iI c))]) 3 dX6_when_40 rfl (by decide) rfl ?_
        refine g_iload_n F 0 dX6_when_41 rfl ?_
        refine g_if_ge F 51 (by omega) dX6_when_42 (by decide) (fun c42 => ?_) (fun c42 => ?_)
        · skip
          refine g_iconst F dX6_when_51 ?_
          refine g_istore F (lv' := [(4, .int (iI 0)), (3, .int (iI 0)), (0, .ref (ma 100)), (1, .int (iI p)), (2, .int (iI c))]) dX6_when_52 (by decide) rfl ?_
          refine g_iconst F dX6_when_54 ?_
          refine g_istore F (lv' := [(5, .int (iI (-1))), (4, .int (iI 0)), (3, .int (iI 0)), (0, .ref (ma 100)), (1, .int (iI p)), (2, .int (iI c))]) dX6_when_55 (by decide) rfl ?_
          refine g_aload_n F 3 dX6_when_57 rfl ?_
          refine g_callV F (stk := [.ref (ma 100)]) (st := []) (k_X6_think κ ma (mA M 10 (fun _ => 0))) cal_X6_think lm_X6_191 0 rfl rfl rfl rfl (by decide) rfl (Nat.le_of_ble_eq_true rfl) dX6_when_58 (fun ws58 _ hr58 => ?_)
          obtain rfl := hr58
          refine g_ws (ws' := mw κ ma (thk (mA M 10 (fun _ => 0)))) rfl ?_
          refine g_iconst F dX6_when_61 ?_
          refine g_istore F (lv' := [(6, .int (iI 0)), (5, .int (iI (-1))), (4, .int (iI 0)), (3, .int (iI 0)), (0, .ref (ma 100)), (1, .int (iI p)), (2, .int (iI c))]) dX6_when_62 (by decide) rfl ?_
          have L64 : ∀ (mz64 : Nat) (n : Int) (b : Int) (l : Int) (Gm : MS), (31 - n).toNat = mz64 → (0 ≤ n ∧ n ≤ 31) → (sWhen (cl M) (M 6) (M 7) (M 8) p c n = (b, l)) → ((-1 ≤ l ∧ l ≤ 61) ∧ 0 ≤ b ∧ b ≤ n) → G E (mw κ ma (tst M Gm)) [(6, .int (iI n)), (5, .int (iI l)), (4, .int (iI b)), (0, .ref (ma 100)), (1, .int (iI p)), (2, .int (iI c))] 64 [] := by
            intro mz64
            induction mz64 using Nat.strongRecOn with
            | _ mz64 ih64 =>
            intro n b l Gm hmz64 hn2 hs hl
            refine g_iload F 0 dX6_when_64 rfl ?_
            refine g_bipush F dX6_when_66 (by decide +kernel) ?_
            refine g_icmp_gt F 154 (by omega) dX6_when_68 (by decide) (fun c68 => ?_) (fun c68 => ?_)
            · skip
              refine g_iload F 2 dX6_when_154 rfl ?_
              have e : (sWhen (cl M) (M 6) (M 7) (M 8) p c 31).1 = b := by rw [show (31 : Int) = n by omega, hs]
              have hq : b = qWhen (cl M) (M 6) (M 7) (M 8) (M 9) (M 5 0) p c := by unfold qWhen; rw [if_neg (by omega), if_neg (by omega), e]
              exact K mw_same ⟨_, rfl, iIc hq, ⟨rfl, rfl, rfl, rfl, rfl, rfl, rfl, rfl, rfl, rfl, rfl, rfl, rfl, rfl, rfl, rfl, rfl, rfl⟩, (by rw [← hq]; show M 11 = _; exact (rfa_n (by omega)).symm)⟩ rfl dX6_when_156
            · skip
              have hrp : (0 ≤ M 6 p ∧ M 6 p ≤ 5) ∧ (0 ≤ M 7 p ∧ M 7 p ≤ 9) ∧ (0 ≤ M 8 p ∧ M 8 p ≤ 99) ∧ 0 ≤ M 9 p ∧ M 9 p ≤ 1 := okr.2 p (by omega) (by omega)
              have hyy := goI_yr (C := cl M) hn2.1
              have hyc : yr (cl M) = M 4 0 := rfl
              refine g_aload_n F 3 dX6_when_71 rfl ?_
              refine g_iload F 0 dX6_when_72 rfl ?_
              refine g_callV F (stk := [.int (iI n), .ref (ma 100)]) (st := []) (k_X6_goYears κ ma (tst M Gm) n (show (0 ≤ n ∧ n ≤ 1000) ∧ (M 4 0) + n ≤ 1000000 from by omega) ok) cal_X6_goYears lm_X6_184 0 rfl rfl rfl rfl (by decide) rfl (Nat.le_of_ble_eq_true rfl) dX6_when_74 (fun ws74 _ hr74 => ?_)
              obtain rfl := hr74
              refine g_ws (ws' := mw κ ma (stC (tst M Gm) (goI n (cl M)))) rfl ?_
              refine g_aload_n F 3 dX6_when_77 rfl ?_
              refine g_iload_n F 4 dX6_when_78 rfl ?_
              refine g_iload_n F 5 dX6_when_79 rfl ?_
              refine g_callV F (stk := [.int (iI c), .int (iI p), .ref (ma 100)]) (st := []) (k_X6_putOn κ ma (stC (tst M Gm) (goI n (cl M))) p c (by omega) (by omega)) cal_X6_putOn lm_X6_179 0 rfl rfl rfl rfl (by decide) rfl (Nat.le_of_ble_eq_true rfl) dX6_when_80 (fun ws80 _ hr80 => ?_)
              obtain rfl := hr80
              refine g_ws (ws' := mw κ ma (mA (stC (tst M Gm) (make (goI n (cl M)) c (M 6 p) (M 7 p) (M 8 p))) 9 (uI (M 9) p 1))) rfl ?_
              refine g_iload F 0 dX6_when_83 rfl ?_
              refine g_istore F (lv' := [(7, .int (iI n)), (6, .int (iI n)), (5, .int (iI l)), (4, .int (iI b)), (0, .ref (ma 100)), (1, .int (iI p)), (2, .int (iI c))]) dX6_when_85 (by decide) rfl ?_
              have L87 : ∀ (mz87 : Nat) (y : Int), (61 - y).toNat = mz87 → (n ≤ y ∧ y ≤ 61) → (ych (goI (y - n) (make (goI n (cl M)) c (M 6 p) (M 7 p) (M 8 p))) c y = ych (make (goI n (cl M)) c (M 6 p) (M 7 p) (M 8 p)) c n) → G E (mw κ ma (stC (mA (stC (tst M Gm) (make (goI n (cl M)) c (M 6 p) (M 7 p) (M 8 p))) 9 (uI (M 9) p 1)) (goI (y - n) (make (goI n (cl M)) c (M 6 p) (M 7 p) (M 8 p))))) [(7, .int (iI y)), (6, .int (iI n)), (5, .int (iI l)), (4, .int (iI b)), (0, .ref (ma 100)), (1, .int (iI p)), (2, .int (iI c))] 87 [] := by
                intro mz87
                induction mz87 using Nat.strongRecOn with
                | _ mz87 ih87 =>
                intro y hmz87 hy2 hR
                refine g_iload F 0 dX6_when_87 rfl ?_
                refine g_bipush F dX6_when_89 (by decide +kernel) ?_
                refine g_icmp_gt F 112 (by omega) dX6_when_91 (by decide) (fun c91 => ?_) (fun c91 => ?_)
                · skip
                  have hz : y = ych (make (goI n (cl M)) c (M 6 p) (M 7 p) (M 8 p)) c n := by first | (rw [← hR, ych_s (by omega), if_pos c99]) | (rw [← hR, show y = 61 by omega]; rfl)
                  refine g_aload_n F 4 dX6_when_112 rfl ?_
                  refine g_callV F (stk := [.ref (ma 100)]) (st := []) (k_X6_again κ ma (stC (mA (stC (tst M Gm) (make (goI n (cl M)) c (M 6 p) (M 7 p) (M 8 p))) 9 (uI (M 9) p 1)) (goI (y - n) (make (goI n (cl M)) c (M 6 p) (M 7 p) (M 8 p)))) M (fun _ _ _ => rfl)) cal_X6_again lm_X6_197 0 rfl rfl rfl rfl (by decide) rfl (Nat.le_of_ble_eq_true rfl) dX6_when_113 (fun ws113 _ hr113 => ?_)
                  obtain rfl := hr113
                  refine g_iload F 0 dX6_when_116 rfl ?_
                  refine g_iload F 2 dX6_when_118 rfl ?_
                  refine g_icmp_le F 128 (by omega) dX6_when_120 (by decide) (fun c120 => ?_) (fun c120 => ?_)
                  · skip
                    refine g_iload F 3 dX6_when_128 rfl ?_
                    refine g_istore F (lv' := [(4, .int (iI b)), (7, .int (iI y)), (6, .int (iI n)), (5, .int (iI l)), (0, .ref (ma 100)), (1, .int (iI p)), (2, .int (iI c))]) dX6_when_130 (by decide) rfl ?_
                    refine g_iload F 1 dX6_when_132 rfl ?_
                    refine g_iload F 3 dX6_when_134 rfl ?_
                    refine g_icmp_le F 144 (by omega) dX6_when_136 (by decide) (fun c136 => ?_) (fun c136 => ?_)
                    · skip
                      refine g_iload F 3 dX6_when_144 rfl ?_
                      refine g_istore F (lv' := [(5, .int (iI l)), (4, .int (iI b)), (7, .int (iI y)), (6, .int (iI n)), (0, .ref (ma 100)), (1, .int (iI p)), (2, .int (iI c))]) dX6_when_146 (by decide) rfl ?_
                      refine g_iinc F (lv' := [(6, .int (iI (n + 1))), (5, .int (iI l)), (4, .int (iI b)), (7, .int (iI y)), (0, .ref (ma 100)), (1, .int (iI p)), (2, .int (iI c))]) 3 dX6_when_148 rfl (by decide) rfl ?_
                      refine g_goto F 64 dX6_when_151 (by decide) ?_
                      refine g_sub F (lv' := [(6, .int (iI (n + 1))), (5, .int (iI l)), (4, .int (iI b)), (0, .ref (ma 100)), (1, .int (iI p)), (2, .int (iI c))]) [0, 1, 2, 4, 5, 6] rfl ?_
                      refine g_ws (ws' := mw κ ma (tst M (agn (stC (mA (stC (tst M Gm) (make (goI n (cl M)) c (M 6 p) (M 7 p) (M 8 p))) 9 (uI (M 9) p 1)) (goI (y - n) (make (goI n (cl M)) c (M 6 p) (M 7 p) (M 8 p)))) M))) rfl ?_
                      exact ih64 _ (by omega) (n + 1) b l (agn (stC (mA (stC (tst M Gm) (make (goI n (cl M)) c (M 6 p) (M 7 p) (M 8 p))) 9 (uI (M 9) p 1)) (goI (y - n) (make (goI n (cl M)) c (M 6 p) (M 7 p) (M 8 p)))) M) rfl (by omega) (by first | (exfalso; omega) | exact smx_tx hs rfl hz.symm hn2.1 rfl (by omega) | exact smx_fx (x := y) hs hz.symm hn2.1 (Or.inr (by omega))) (by omega)
                    · skip
                      refine g_iload F 1 dX6_when_139 rfl ?_
                      refine g_goto F 146 dX6_when_141 (by decide) ?_
                      refine g_istore F (lv' := [(5, .int (iI y)), (4, .int (iI b)), (7, .int (iI y)), (6, .int (iI n)), (0, .ref (ma 100)), (1, .int (iI p)), (2, .int (iI c))]) dX6_when_146 (by decide) rfl ?_
                      refine g_iinc F (lv' := [(6, .int (iI (n + 1))), (5, .int (iI y)), (4, .int (iI b)), (7, .int (iI y)), (0, .ref (ma 100)), (1, .int (iI p)), (2, .int (iI c))]) 3 dX6_when_148 rfl (by decide) rfl ?_
                      refine g_goto F 64 dX6_when_151 (by decide) ?_
                      refine g_sub F (lv' := [(6, .int (iI (n + 1))), (5, .int (iI y)), (4, .int (iI b)), (0, .ref (ma 100)), (1, .int (iI p)), (2, .int (iI c))]) [0, 1, 2, 4, 5, 6] rfl ?_
                      refine g_ws (ws' := mw κ ma (tst M (agn (stC (mA (stC (tst M Gm) (make (goI n (cl M)) c (M 6 p) (M 7 p) (M 8 p))) 9 (uI (M 9) p 1)) (goI (y - n) (make (goI n (cl M)) c (M 6 p) (M 7 p) (M 8 p)))) M))) rfl ?_
                      exact ih64 _ (by omega) (n + 1) b y (agn (stC (mA (stC (tst M Gm) (make (goI n (cl M)) c (M 6 p) (M 7 p) (M 8 p))) 9 (uI (M 9) p 1)) (goI (y - n) (make (goI n (cl M)) c (M 6 p) (M 7 p) (M 8 p)))) M) rfl (by omega) (by first | (exfalso; omega) | exact smx_tx hs rfl hz.symm hn2.1 rfl (by omega) | exact smx_fx (x := y) hs hz.symm hn2.1 (Or.inr (by omega))) (by omega)
                  · skip
                    refine g_iload F 1 dX6_when_123 rfl ?_
                    refine g_goto F 130 dX6_when_125 (by decide) ?_
                    refine g_istore F (lv' := [(4, .int (iI n)), (7, .int (iI y)), (6, .int (iI n)), (5, .int (iI l)), (0, .ref (ma 100)), (1, .int (iI p)), (2, .int (iI c))]) dX6_when_130 (by decide) rfl ?_
                    refine g_iload F 1 dX6_when_132 rfl ?_
                    refine g_iload F 3 dX6_when_134 rfl ?_
                    refine g_icmp_le F 144 (by omega) dX6_when_136 (by decide) (fun c136 => ?_) (fun c136 => ?_)
                    · skip
                      refine g_iload F 3 dX6_when_144 rfl ?_
                      refine g_istore F (lv' := [(5, .int (iI l)), (4, .int (iI n)), (7, .int (iI y)), (6, .int (iI n)), (0, .ref (ma 100)), (1, .int (iI p)), (2, .int (iI c))]) dX6_when_146 (by decide) rfl ?_
                      refine g_iinc F (lv' := [(6, .int (iI (n + 1))), (5, .int (iI l)), (4, .int (iI n)), (7, .int (iI y)), (0, .ref (ma 100)), (1, .int (iI p)), (2, .int (iI c))]) 3 dX6_when_148 rfl (by decide) rfl ?_
                      refine g_goto F 64 dX6_when_151 (by decide) ?_
                      refine g_sub F (lv' := [(6, .int (iI (n + 1))), (5, .int (iI l)), (4, .int (iI n)), (0, .ref (ma 100)), (1, .int (iI p)), (2, .int (iI c))]) [0, 1, 2, 4, 5, 6] rfl ?_
                      refine g_ws (ws' := mw κ ma (tst M (agn (stC (mA (stC (tst M Gm) (make (goI n (cl M)) c (M 6 p) (M 7 p) (M 8 p))) 9 (uI (M 9) p 1)) (goI (y - n) (make (goI n (cl M)) c (M 6 p) (M 7 p) (M 8 p)))) M))) rfl ?_
                      exact ih64 _ (by omega) (n + 1) n l (agn (stC (mA (stC (tst M Gm) (make (goI n (cl M)) c (M 6 p) (M 7 p) (M 8 p))) 9 (uI (M 9) p 1)) (goI (y - n) (make (goI n (cl M)) c (M 6 p) (M 7 p) (M 8 p)))) M) rfl (by omega) (by first | (exfalso; omega) | exact smx_tx hs rfl hz.symm hn2.1 rfl (by omega) | exact smx_fx (x := y) hs hz.symm hn2.1 (Or.inr (by omega))) (by omega)
                    · skip
                      refine g_iload F 1 dX6_when_139 rfl ?_
                      refine g_goto F 146 dX6_when_141 (by decide) ?_
                      refine g_istore F (lv' := [(5, .int (iI y)), (4, .int (iI n)), (7, .int (iI y)), (6, .int (iI n)), (0, .ref (ma 100)), (1, .int (iI p)), (2, .int (iI c))]) dX6_when_146 (by decide) rfl ?_
                      refine g_iinc F (lv' := [(6, .int (iI (n + 1))), (5, .int (iI y)), (4, .int (iI n)), (7, .int (iI y)), (0, .ref (ma 100)), (1, .int (iI p)), (2, .int (iI c))]) 3 dX6_when_148 rfl (by decide) rfl ?_
                      refine g_goto F 64 dX6_when_151 (by decide) ?_
                      refine g_sub F (lv' := [(6, .int (iI (n + 1))), (5, .int (iI y)), (4, .int (iI n)), (0, .ref (ma 100)), (1, .int (iI p)), (2, .int (iI c))]) [0, 1, 2, 4, 5, 6] rfl ?_
                      refine g_ws (ws' := mw κ ma (tst M (agn (stC (mA (stC (tst M Gm) (make (goI n (cl M)) c (M 6 p) (M 7 p) (M 8 p))) 9 (uI (M 9) p 1)) (goI (y - n) (make (goI n (cl M)) c (M 6 p) (M 7 p) (M 8 p)))) M))) rfl ?_
                      exact ih64 _ (by omega) (n + 1) n y (agn (stC (mA (stC (tst M Gm) (make (goI n (cl M)) c (M 6 p) (M 7 p) (M 8 p))) 9 (uI (M 9) p 1)) (goI (y - n) (make (goI n (cl M)) c (M 6 p) (M 7 p) (M 8 p)))) M) rfl (by omega) (by first | (exfalso; omega) | exact smx_tx hs rfl hz.symm hn2.1 rfl (by omega) | exact smx_fx (x := y) hs hz.symm hn2.1 (Or.inr (by omega))) (by omega)
                · skip
                  have okd := goI_ok (make_ok (c := c) (goI_ok ok n) hrp.1 hrp.2.1 hrp.2.2.1) (y - n)
                  have hyz : yr (goI (y - n) (make (goI n (cl M)) c (M 6 p) (M 7 p) (M 8 p))) < 1000000 := by have e := goI_yr (C := make (goI n (cl M)) c (M 6 p) (M 7 p) (M 8 p)) (n := y - n) (by omega); have e2 : yr (make (goI n (cl M)) c (M 6 p) (M 7 p) (M 8 p)) = yr (goI n (cl M)) := rfl; omega
                  refine g_aload_n F 4 dX6_when_94 rfl ?_
                  refine g_iload_n F 6 dX6_when_95 rfl ?_
                  refine g_callI F (stk := [.int (iI c), .ref (ma 100)]) (st := []) (k_X6_isHole κ ma (stC (mA (stC (tst M Gm) (make (goI n (cl M)) c (M 6 p) (M 7 p) (M 8 p))) 9 (uI (M 9) p 1)) (goI (y - n) (make (goI n (cl M)) c (M 6 p) (M 7 p) (M 8 p)))) c (by omega) okd) cal_X6_isHole lm_X6_121 0 rfl rfl rfl rfl (by decide) rfl (Nat.le_of_ble_eq_true rfl) dX6_when_96 (fun r96 ws96 _ hr96 => ?_)
                  obtain ⟨rfl, rfl⟩ := hr96
                  refine g_top (y := iI (b2i (hole (goI (y - n) (make (goI n (cl M)) c (M 6 p) (M 7 p) (M 8 p))) c))) rfl ?_
                  refine g_if_ne F 112 (b2i_in _) dX6_when_99 (by decide) (fun c99 => ?_) (fun c99 => ?_)
                  · skip
                    have c99 : hole (goI (y - n) (make (goI n (cl M)) c (M 6 p) (M 7 p) (M 8 p))) c := b2i_t c99
                    have hz : y = ych (make (goI n (cl M)) c (M 6 p) (M 7 p) (M 8 p)) c n := by first | (rw [← hR, ych_s (by omega), if_pos c99]) | (rw [← hR, show y = 61 by omega]; rfl)
                    refine g_aload_n F 4 dX6_when_112 rfl ?_
                    refine g_callV F (stk := [.ref (ma 100)]) (st := []) (k_X6_again κ ma (stC (mA (stC (tst M Gm) (make (goI n (cl M)) c (M 6 p) (M 7 p) (M 8 p))) 9 (uI (M 9) p 1)) (goI (y - n) (make (goI n (cl M)) c (M 6 p) (M 7 p) (M 8 p)))) M (fun _ _ _ => rfl)) cal_X6_again lm_X6_197 0 rfl rfl rfl rfl (by decide) rfl (Nat.le_of_ble_eq_true rfl) dX6_when_113 (fun ws113 _ hr113 => ?_)
                    obtain rfl := hr113
                    refine g_iload F 0 dX6_when_116 rfl ?_
                    refine g_iload F 2 dX6_when_118 rfl ?_
                    refine g_icmp_le F 128 (by omega) dX6_when_120 (by decide) (fun c120 => ?_) (fun c120 => ?_)
                    · skip
                      refine g_iload F 3 dX6_when_128 rfl ?_
                      refine g_istore F (lv' := [(4, .int (iI b)), (7, .int (iI y)), (6, .int (iI n)), (5, .int (iI l)), (0, .ref (ma 100)), (1, .int (iI p)), (2, .int (iI c))]) dX6_when_130 (by decide) rfl ?_
                      refine g_iload F 1 dX6_when_132 rfl ?_
                      refine g_iload F 3 dX6_when_134 rfl ?_
                      refine g_icmp_le F 144 (by omega) dX6_when_136 (by decide) (fun c136 => ?_) (fun c136 => ?_)
                      · skip
                        refine g_iload F 3 dX6_when_144 rfl ?_
                        refine g_istore F (lv' := [(5, .int (iI l)), (4, .int (iI b)), (7, .int (iI y)), (6, .int (iI n)), (0, .ref (ma 100)), (1, .int (iI p)), (2, .int (iI c))]) dX6_when_146 (by decide) rfl ?_
                        refine g_iinc F (lv' := [(6, .int (iI (n + 1))), (5, .int (iI l)), (4, .int (iI b)), (7, .int (iI y)), (0, .ref (ma 100)), (1, .int (iI p)), (2, .int (iI c))]) 3 dX6_when_148 rfl (by decide) rfl ?_
                        refine g_goto F 64 dX6_when_151 (by decide) ?_
                        refine g_sub F (lv' := [(6, .int (iI (n + 1))), (5, .int (iI l)), (4, .int (iI b)), (0, .ref (ma 100)), (1, .int (iI p)), (2, .int (iI c))]) [0, 1, 2, 4, 5, 6] rfl ?_
                        refine g_ws (ws' := mw κ ma (tst M (agn (stC (mA (stC (tst M Gm) (make (goI n (cl M)) c (M 6 p) (M 7 p) (M 8 p))) 9 (uI (M 9) p 1)) (goI (y - n) (make (goI n (cl M)) c (M 6 p) (M 7 p) (M 8 p)))) M))) rfl ?_
                        exact ih64 _ (by omega) (n + 1) b l (agn (stC (mA (stC (tst M Gm) (make (goI n (cl M)) c (M 6 p) (M 7 p) (M 8 p))) 9 (uI (M 9) p 1)) (goI (y - n) (make (goI n (cl M)) c (M 6 p) (M 7 p) (M 8 p)))) M) rfl (by omega) (by first | (exfalso; omega) | exact smx_tx hs rfl hz.symm hn2.1 rfl (by omega) | exact smx_fx (x := y) hs hz.symm hn2.1 (Or.inr (by omega))) (by omega)
                      · skip
                        refine g_iload F 1 dX6_when_139 rfl ?_
                        refine g_goto F 146 dX6_when_141 (by decide) ?_
                        refine g_istore F (lv' := [(5, .int (iI y)), (4, .int (iI b)), (7, .int (iI y)), (6, .int (iI n)), (0, .ref (ma 100)), (1, .int (iI p)), (2, .int (iI c))]) dX6_when_146 (by decide) rfl ?_
                        refine g_iinc F (lv' := [(6, .int (iI (n + 1))), (5, .int (iI y)), (4, .int (iI b)), (7, .int (iI y)), (0, .ref (ma 100)), (1, .int (iI p)), (2, .int (iI c))]) 3 dX6_when_148 rfl (by decide) rfl ?_
                        refine g_goto F 64 dX6_when_151 (by decide) ?_
                        refine g_sub F (lv' := [(6, .int (iI (n + 1))), (5, .int (iI y)), (4, .int (iI b)), (0, .ref (ma 100)), (1, .int (iI p)), (2, .int (iI c))]) [0, 1, 2, 4, 5, 6] rfl ?_
                        refine g_ws (ws' := mw κ ma (tst M (agn (stC (mA (stC (tst M Gm) (make (goI n (cl M)) c (M 6 p) (M 7 p) (M 8 p))) 9 (uI (M 9) p 1)) (goI (y - n) (make (goI n (cl M)) c (M 6 p) (M 7 p) (M 8 p)))) M))) rfl ?_
                        exact ih64 _ (by omega) (n + 1) b y (agn (stC (mA (stC (tst M Gm) (make (goI n (cl M)) c (M 6 p) (M 7 p) (M 8 p))) 9 (uI (M 9) p 1)) (goI (y - n) (make (goI n (cl M)) c (M 6 p) (M 7 p) (M 8 p)))) M) rfl (by omega) (by first | (exfalso; omega) | exact smx_tx hs rfl hz.symm hn2.1 rfl (by omega) | exact smx_fx (x := y) hs hz.symm hn2.1 (Or.inr (by omega))) (by omega)
                    · skip
                      refine g_iload F 1 dX6_when_123 rfl ?_
                      refine g_goto F 130 dX6_when_125 (by decide) ?_
                      refine g_istore F (lv' := [(4, .int (iI n)), (7, .int (iI y)), (6, .int (iI n)), (5, .int (iI l)), (0, .ref (ma 100)), (1, .int (iI p)), (2, .int (iI c))]) dX6_when_130 (by decide) rfl ?_
                      refine g_iload F 1 dX6_when_132 rfl ?_
                      refine g_iload F 3 dX6_when_134 rfl ?_
                      refine g_icmp_le F 144 (by omega) dX6_when_136 (by decide) (fun c136 => ?_) (fun c136 => ?_)
                      · skip
                        refine g_iload F 3 dX6_when_144 rfl ?_
                        refine g_istore F (lv' := [(5, .int (iI l)), (4, .int (iI n)), (7, .int (iI y)), (6, .int (iI n)), (0, .ref (ma 100)), (1, .int (iI p)), (2, .int (iI c))]) dX6_when_146 (by decide) rfl ?_
                        refine g_iinc F (lv' := [(6, .int (iI (n + 1))), (5, .int (iI l)), (4, .int (iI n)), (7, .int (iI y)), (0, .ref (ma 100)), (1, .int (iI p)), (2, .int (iI c))]) 3 dX6_when_148 rfl (by decide) rfl ?_
                        refine g_goto F 64 dX6_when_151 (by decide) ?_
                        refine g_sub F (lv' := [(6, .int (iI (n + 1))), (5, .int (iI l)), (4, .int (iI n)), (0, .ref (ma 100)), (1, .int (iI p)), (2, .int (iI c))]) [0, 1, 2, 4, 5, 6] rfl ?_
                        refine g_ws (ws' := mw κ ma (tst M (agn (stC (mA (stC (tst M Gm) (make (goI n (cl M)) c (M 6 p) (M 7 p) (M 8 p))) 9 (uI (M 9) p 1)) (goI (y - n) (make (goI n (cl M)) c (M 6 p) (M 7 p) (M 8 p)))) M))) rfl ?_
                        exact ih64 _ (by omega) (n + 1) n l (agn (stC (mA (stC (tst M Gm) (make (goI n (cl M)) c (M 6 p) (M 7 p) (M 8 p))) 9 (uI (M 9) p 1)) (goI (y - n) (make (goI n (cl M)) c (M 6 p) (M 7 p) (M 8 p)))) M) rfl (by omega) (by first | (exfalso; omega) | exact smx_tx hs rfl hz.symm hn2.1 rfl (by omega) | exact smx_fx (x := y) hs hz.symm hn2.1 (Or.inr (by omega))) (by omega)
                      · skip
                        refine g_iload F 1 dX6_when_139 rfl ?_
                        refine g_goto F 146 dX6_when_141 (by decide) ?_
                        refine g_istore F (lv' := [(5, .int (iI y)), (4, .int (iI n)), (7, .int (iI y)), (6, .int (iI n)), (0, .ref (ma 100)), (1, .int (iI p)), (2, .int (iI c))]) dX6_when_146 (by decide) rfl ?_
                        refine g_iinc F (lv' := [(6, .int (iI (n + 1))), (5, .int (iI y)), (4, .int (iI n)), (7, .int (iI y)), (0, .ref (ma 100)), (1, .int (iI p)), (2, .int (iI c))]) 3 dX6_when_148 rfl (by decide) rfl ?_
                        refine g_goto F 64 dX6_when_151 (by decide) ?_
                        refine g_sub F (lv' := [(6, .int (iI (n + 1))), (5, .int (iI y)), (4, .int (iI n)), (0, .ref (ma 100)), (1, .int (iI p)), (2, .int (iI c))]) [0, 1, 2, 4, 5, 6] rfl ?_
                        refine g_ws (ws' := mw κ ma (tst M (agn (stC (mA (stC (tst M Gm) (make (goI n (cl M)) c (M 6 p) (M 7 p) (M 8 p))) 9 (uI (M 9) p 1)) (goI (y - n) (make (goI n (cl M)) c (M 6 p) (M 7 p) (M 8 p)))) M))) rfl ?_
                        exact ih64 _ (by omega) (n + 1) n y (agn (stC (mA (stC (tst M Gm) (make (goI n (cl M)) c (M 6 p) (M 7 p) (M 8 p))) 9 (uI (M 9) p 1)) (goI (y - n) (make (goI n (cl M)) c (M 6 p) (M 7 p) (M 8 p)))) M) rfl (by omega) (by first | (exfalso; omega) | exact smx_tx hs rfl hz.symm hn2.1 rfl (by omega) | exact smx_fx (x := y) hs hz.symm hn2.1 (Or.inr (by omega))) (by omega)
                  · skip
                    have c99 : ¬ (hole (goI (y - n) (make (goI n (cl M)) c (M 6 p) (M 7 p) (M 8 p))) c) := b2i_f c99
                    refine g_aload_n F 4 dX6_when_102 rfl ?_
                    refine g_callV F (stk := [.ref (ma 100)]) (st := []) (k_X6_yearOn κ ma (stC (mA (stC (tst M Gm) (make (goI n (cl M)) c (M 6 p) (M 7 p) (M 8 p))) 9 (uI (M 9) p 1)) (goI (y - n) (make (goI n (cl M)) c (M 6 p) (M 7 p) (M 8 p)))) hyz okd) cal_X6_yearOn lm_X6_131 0 rfl rfl rfl rfl (by decide) rfl (Nat.le_of_ble_eq_true rfl) dX6_when_103 (fun ws103 _ hr103 => ?_)
                    obtain rfl := hr103
                    refine g_ws (ws' := mw κ ma (stC (mA (stC (tst M Gm) (make (goI n (cl M)) c (M 6 p) (M 7 p) (M 8 p))) 9 (uI (M 9) p 1)) (yearOn (goI (y - n) (make (goI n (cl M)) c (M 6 p) (M 7 p) (M 8 p)))))) rfl ?_
                    refine g_iinc F (lv' := [(7, .int (iI (y + 1))), (6, .int (iI n)), (5, .int (iI l)), (4, .int (iI b)), (0, .ref (ma 100)), (1, .int (iI p)), (2, .int (iI c))]) 0 dX6_when_106 rfl (by decide) rfl ?_
                    refine g_goto F 87 dX6_when_109 (by decide) ?_
                    refine g_sub F (lv' := [(7, .int (iI (y + 1))), (6, .int (iI n)), (5, .int (iI l)), (4, .int (iI b)), (0, .ref (ma 100)), (1, .int (iI p)), (2, .int (iI c))]) [0, 1, 2, 3, 4, 5, 6] rfl ?_
                    refine g_ws (ws' := mw κ ma (stC (mA (stC (tst M Gm) (make (goI n (cl M)) c (M 6 p) (M 7 p) (M 8 p))) 9 (uI (M 9) p 1)) (goI ((y + 1) - n) (make (goI n (cl M)) c (M 6 p) (M 7 p) (M 8 p))))) (by rw [show y + 1 - n = (y - n) + 1 by omega, goI_s (by omega)]) ?_
                    exact ih87 _ (by omega) (y + 1) rfl (by omega) (by rw [← hR, ych_s (n := y) (by omega), if_neg c99, show y + 1 - n = (y - n) + 1 by omega, goI_s (by omega)])
              refine g_sub F (lv' := [(7, .int (iI n)), (6, .int (iI n)), (5, .int (iI l)), (4, .int (iI b)), (0, .ref (ma 100)), (1, .int (iI p)), (2, .int (iI c))]) [0, 1, 2, 3, 4, 5, 6] rfl ?_
              refine g_ws (ws' := mw κ ma (stC (mA (stC (tst M Gm) (make (goI n (cl M)) c (M 6 p) (M 7 p) (M 8 p))) 9 (uI (M 9) p 1)) (goI (n - n) (make (goI n (cl M)) c (M 6 p) (M 7 p) (M 8 p))))) (by rw [show n - n = 0 by omega, goI_0]; rfl) ?_
              exact L87 _ n rfl (by omega) (by rw [show n - n = 0 by omega, goI_0])
          refine g_sub F (lv' := [(6, .int (iI 0)), (5, .int (iI (-1))), (4, .int (iI 0)), (0, .ref (ma 100)), (1, .int (iI p)), (2, .int (iI c))]) [0, 1, 2, 4, 5, 6] rfl ?_
          refine g_ws (ws' := mw κ ma (tst M (thk (mA M 10 (fun _ => 0))))) (by unfold thk; rw [snapF_mA (by decide)]; rfl) ?_
          exact L64 _ 0 0 (-1) (thk (mA M 10 (fun _ => 0))) rfl (by omega) rfl (by omega)
        · skip
          refine g_aload_n F 1 dX6_when_45 rfl ?_
          refine g_iload_n F 0 dX6_when_46 rfl ?_
          refine g_callI F (stk := [.int (iI 0), .ref (ma 100)]) (st := []) (k_X6_refuse κ ma (mA M 10 (fun _ => 0)) 0 (by omega)) cal_X6_refuse lm_X6_138 0 rfl rfl rfl rfl (by decide) rfl (Nat.le_of_ble_eq_true rfl) dX6_when_47 (fun r47 ws47 _ hr47 => ?_)
          obtain ⟨rfl, rfl⟩ := hr47
          refine g_top (y := iI 0) rfl ?_
          refine g_ws (ws' := mw κ ma (mA (mA M 10 (fun _ => 0)) 11 (uI (M 11) (-0) (M 11 (-0) + 1)))) rfl ?_
          have hq : 0 = qWhen (cl M) (M 6) (M 7) (M 8) (M 9) (M 5 0) p c := by unfold qWhen; (repeat' split) <;> omega
          exact K mw_same ⟨_, rfl, iIc hq, ⟨rfl, rfl, rfl, rfl, rfl, rfl, rfl, rfl, rfl, rfl, rfl, rfl, rfl, rfl, rfl, rfl, rfl, rfl⟩, (by rw [← hq]; exact (rfa_r (by omega)).symm)⟩ rfl dX6_when_50
      · skip
        refine g_bipush F dX6_when_34 (by decide +kernel) ?_
        refine g_goto F 40 dX6_when_36 (by decide) ?_
        refine g_istore_n F (lv' := [(3, .int (iI (-3))), (0, .ref (ma 100)), (1, .int (iI p)), (2, .int (iI c))]) 3 dX6_when_40 rfl (by decide) rfl ?_
        refine g_iload_n F 0 dX6_when_41 rfl ?_
        refine g_if_ge F 51 (by omega) dX6_when_42 (by decide) (fun c42 => ?_) (fun c42 => ?_)
        · skip
          refine g_iconst F dX6_when_51 ?_
          refine g_istore F (lv' := [(4, .int (iI 0)), (3, .int (iI (-3))), (0, .ref (ma 100)), (1, .int (iI p)), (2, .int (iI c))]) dX6_when_52 (by decide) rfl ?_
          refine g_iconst F dX6_when_54 ?_
          refine g_istore F (lv' := [(5, .int (iI (-1))), (4, .int (iI 0)), (3, .int (iI (-3))), (0, .ref (ma 100)), (1, .int (iI p)), (2, .int (iI c))]) dX6_when_55 (by decide) rfl ?_
          refine g_aload_n F 3 dX6_when_57 rfl ?_
          refine g_callV F (stk := [.ref (ma 100)]) (st := []) (k_X6_think κ ma (mA M 10 (fun _ => 0))) cal_X6_think lm_X6_191 0 rfl rfl rfl rfl (by decide) rfl (Nat.le_of_ble_eq_true rfl) dX6_when_58 (fun ws58 _ hr58 => ?_)
          obtain rfl := hr58
          refine g_ws (ws' := mw κ ma (thk (mA M 10 (fun _ => 0)))) rfl ?_
          refine g_iconst F dX6_when_61 ?_
          refine g_istore F (lv' := [(6, .int (iI 0)), (5, .int (iI (-1))), (4, .int (iI 0)), (3, .int (iI (-3))), (0, .ref (ma 100)), (1, .int (iI p)), (2, .int (iI c))]) dX6_when_62 (by decide) rfl ?_
          have L64 : ∀ (mz64 : Nat) (n : Int) (b : Int) (l : Int) (Gm : MS), (31 - n).toNat = mz64 → (0 ≤ n ∧ n ≤ 31) → (sWhen (cl M) (M 6) (M 7) (M 8) p c n = (b, l)) → ((-1 ≤ l ∧ l ≤ 61) ∧ 0 ≤ b ∧ b ≤ n) → G E (mw κ ma (tst M Gm)) [(6, .int (iI n)), (5, .int (iI l)), (4, .int (iI b)), (0, .ref (ma 100)), (1, .int (iI p)), (2, .int (iI c))] 64 [] := by
            intro mz64
            induction mz64 using Nat.strongRecOn with
            | _ mz64 ih64 =>
            intro n b l Gm hmz64 hn2 hs hl
            refine g_iload F 0 dX6_when_64 rfl ?_
            refine g_bipush F dX6_when_66 (by decide +kernel) ?_
            refine g_icmp_gt F 154 (by omega) dX6_when_68 (by decide) (fun c68 => ?_) (fun c68 => ?_)
            · skip
              refine g_iload F 2 dX6_when_154 rfl ?_
              have e : (sWhen (cl M) (M 6) (M 7) (M 8) p c 31).1 = b := by rw [show (31 : Int) = n by omega, hs]
              have hq : b = qWhen (cl M) (M 6) (M 7) (M 8) (M 9) (M 5 0) p c := by unfold qWhen; rw [if_neg (by omega), if_neg (by omega), e]
              exact K mw_same ⟨_, rfl, iIc hq, ⟨rfl, rfl, rfl, rfl, rfl, rfl, rfl, rfl, rfl, rfl, rfl, rfl, rfl, rfl, rfl, rfl, rfl, rfl⟩, (by rw [← hq]; show M 11 = _; exact (rfa_n (by omega)).symm)⟩ rfl dX6_when_156
            · skip
              have hrp : (0 ≤ M 6 p ∧ M 6 p ≤ 5) ∧ (0 ≤ M 7 p ∧ M 7 p ≤ 9) ∧ (0 ≤ M 8 p ∧ M 8 p ≤ 99) ∧ 0 ≤ M 9 p ∧ M 9 p ≤ 1 := okr.2 p (by omega) (by omega)
              have hyy := goI_yr (C := cl M) hn2.1
              have hyc : yr (cl M) = M 4 0 := rfl
              refine g_aload_n F 3 dX6_when_71 rfl ?_
              refine g_iload F 0 dX6_when_72 rfl ?_
              refine g_callV F (stk := [.int (iI n), .ref (ma 100)]) (st := []) (k_X6_goYears κ ma (tst M Gm) n (show (0 ≤ n ∧ n ≤ 1000) ∧ (M 4 0) + n ≤ 1000000 from by omega) ok) cal_X6_goYears lm_X6_184 0 rfl rfl rfl rfl (by decide) rfl (Nat.le_of_ble_eq_true rfl) dX6_when_74 (fun ws74 _ hr74 => ?_)
              obtain rfl := hr74
              refine g_ws (ws' := mw κ ma (stC (tst M Gm) (goI n (cl M)))) rfl ?_
              refine g_aload_n F 3 dX6_when_77 rfl ?_
              refine g_iload_n F 4 dX6_when_78 rfl ?_
              refine g_iload_n F 5 dX6_when_79 rfl ?_
              refine g_callV F (stk := [.int (iI c), .int (iI p), .ref (ma 100)]) (st := []) (k_X6_putOn κ ma (stC (tst M Gm) (goI n (cl M))) p c (by omega) (by omega)) cal_X6_putOn lm_X6_179 0 rfl rfl rfl rfl (by decide) rfl (Nat.le_of_ble_eq_true rfl) dX6_when_80 (fun ws80 _ hr80 => ?_)
              obtain rfl := hr80
              refine g_ws (ws' := mw κ ma (mA (stC (tst M Gm) (make (goI n (cl M)) c (M 6 p) (M 7 p) (M 8 p))) 9 (uI (M 9) p 1))) rfl ?_
              refine g_iload F 0 dX6_when_83 rfl ?_
              refine g_istore F (lv' := [(7, .int (iI n)), (6, .int (iI n)), (5, .int (iI l)), (4, .int (iI b)), (0, .ref (ma 100)), (1, .int (iI p)), (2, .int (iI c))]) dX6_when_85 (by decide) rfl ?_
              have L87 : ∀ (mz87 : Nat) (y : Int), (61 - y).toNat = mz87 → (n ≤ y ∧ y ≤ 61) → (ych (goI (y - n) (make (goI n (cl M)) c (M 6 p) (M 7 p) (M 8 p))) c y = ych (make (goI n (cl M)) c (M 6 p) (M 7 p) (M 8 p)) c n) → G E (mw κ ma (stC (mA (stC (tst M Gm) (make (goI n (cl M)) c (M 6 p) (M 7 p) (M 8 p))) 9 (uI (M 9) p 1)) (goI (y - n) (make (goI n (cl M)) c (M 6 p) (M 7 p) (M 8 p))))) [(7, .int (iI y)), (6, .int (iI n)), (5, .int (iI l)), (4, .int (iI b)), (0, .ref (ma 100)), (1, .int (iI p)), (2, .int (iI c))] 87 [] := by
                intro mz87
                induction mz87 using Nat.strongRecOn with
                | _ mz87 ih87 =>
                intro y hmz87 hy2 hR
                refine g_iload F 0 dX6_when_87 rfl ?_
                refine g_bipush F dX6_when_89 (by decide +kernel) ?_
                refine g_icmp_gt F 112 (by omega) dX6_when_91 (by decide) (fun c91 => ?_) (fun c91 => ?_)
                · skip
                  have hz : y = ych (make (goI n (cl M)) c (M 6 p) (M 7 p) (M 8 p)) c n := by first | (rw [← hR, ych_s (by omega), if_pos c99]) | (rw [← hR, show y = 61 by omega]; rfl)
                  refine g_aload_n F 4 dX6_when_112 rfl ?_
                  refine g_callV F (stk := [.ref (ma 100)]) (st := []) (k_X6_again κ ma (stC (mA (stC (tst M Gm) (make (goI n (cl M)) c (M 6 p) (M 7 p) (M 8 p))) 9 (uI (M 9) p 1)) (goI (y - n) (make (goI n (cl M)) c (M 6 p) (M 7 p) (M 8 p)))) M (fun _ _ _ => rfl)) cal_X6_again lm_X6_197 0 rfl rfl rfl rfl (by decide) rfl (Nat.le_of_ble_eq_true rfl) dX6_when_113 (fun ws113 _ hr113 => ?_)
                  obtain rfl := hr113
                  refine g_iload F 0 dX6_when_116 rfl ?_
                  refine g_iload F 2 dX6_when_118 rfl ?_
                  refine g_icmp_le F 128 (by omega) dX6_when_120 (by decide) (fun c120 => ?_) (fun c120 => ?_)
                  · skip
                    refine g_iload F 3 dX6_when_128 rfl ?_
                    refine g_istore F (lv' := [(4, .int (iI b)), (7, .int (iI y)), (6, .int (iI n)), (5, .int (iI l)), (0, .ref (ma 100)), (1, .int (iI p)), (2, .int (iI c))]) dX6_when_130 (by decide) rfl ?_
                    refine g_iload F 1 dX6_when_132 rfl ?_
                    refine g_iload F 3 dX6_when_134 rfl ?_
                    refine g_icmp_le F 144 (by omega) dX6_when_136 (by decide) (fun c136 => ?_) (fun c136 => ?_)
                    · skip
                      refine g_iload F 3 dX6_when_144 rfl ?_
                      refine g_istore F (lv' := [(5, .int (iI l)), (4, .int (iI b)), (7, .int (iI y)), (6, .int (iI n)), (0, .ref (ma 100)), (1, .int (iI p)), (2, .int (iI c))]) dX6_when_146 (by decide) rfl ?_
                      refine g_iinc F (lv' := [(6, .int (iI (n + 1))), (5, .int (iI l)), (4, .int (iI b)), (7, .int (iI y)), (0, .ref (ma 100)), (1, .int (iI p)), (2, .int (iI c))]) 3 dX6_when_148 rfl (by decide) rfl ?_
                      refine g_goto F 64 dX6_when_151 (by decide) ?_
                      refine g_sub F (lv' := [(6, .int (iI (n + 1))), (5, .int (iI l)), (4, .int (iI b)), (0, .ref (ma 100)), (1, .int (iI p)), (2, .int (iI c))]) [0, 1, 2, 4, 5, 6] rfl ?_
                      refine g_ws (ws' := mw κ ma (tst M (agn (stC (mA (stC (tst M Gm) (make (goI n (cl M)) c (M 6 p) (M 7 p) (M 8 p))) 9 (uI (M 9) p 1)) (goI (y - n) (make (goI n (cl M)) c (M 6 p) (M 7 p) (M 8 p)))) M))) rfl ?_
                      exact ih64 _ (by omega) (n + 1) b l (agn (stC (mA (stC (tst M Gm) (make (goI n (cl M)) c (M 6 p) (M 7 p) (M 8 p))) 9 (uI (M 9) p 1)) (goI (y - n) (make (goI n (cl M)) c (M 6 p) (M 7 p) (M 8 p)))) M) rfl (by omega) (by first | (exfalso; omega) | exact smx_tx hs rfl hz.symm hn2.1 rfl (by omega) | exact smx_fx (x := y) hs hz.symm hn2.1 (Or.inr (by omega))) (by omega)
                    · skip
                      refine g_iload F 1 dX6_when_139 rfl ?_
                      refine g_goto F 146 dX6_when_141 (by decide) ?_
                      refine g_istore F (lv' := [(5, .int (iI y)), (4, .int (iI b)), (7, .int (iI y)), (6, .int (iI n)), (0, .ref (ma 100)), (1, .int (iI p)), (2, .int (iI c))]) dX6_when_146 (by decide) rfl ?_
                      refine g_iinc F (lv' := [(6, .int (iI (n + 1))), (5, .int (iI y)), (4, .int (iI b)), (7, .int (iI y)), (0, .ref (ma 100)), (1, .int (iI p)), (2, .int (iI c))]) 3 dX6_when_148 rfl (by decide) rfl ?_
                      refine g_goto F 64 dX6_when_151 (by decide) ?_
                      refine g_sub F (lv' := [(6, .int (iI (n + 1))), (5, .int (iI y)), (4, .int (iI b)), (0, .ref (ma 100)), (1, .int (iI p)), (2, .int (iI c))]) [0, 1, 2, 4, 5, 6] rfl ?_
                      refine g_ws (ws' := mw κ ma (tst M (agn (stC (mA (stC (tst M Gm) (make (goI n (cl M)) c (M 6 p) (M 7 p) (M 8 p))) 9 (uI (M 9) p 1)) (goI (y - n) (make (goI n (cl M)) c (M 6 p) (M 7 p) (M 8 p)))) M))) rfl ?_
                      exact ih64 _ (by omega) (n + 1) b y (agn (stC (mA (stC (tst M Gm) (make (goI n (cl M)) c (M 6 p) (M 7 p) (M 8 p))) 9 (uI (M 9) p 1)) (goI (y - n) (make (goI n (cl M)) c (M 6 p) (M 7 p) (M 8 p)))) M) rfl (by omega) (by first | (exfalso; omega) | exact smx_tx hs rfl hz.symm hn2.1 rfl (by omega) | exact smx_fx (x := y) hs hz.symm hn2.1 (Or.inr (by omega))) (by omega)
                  · skip
                    refine g_iload F 1 dX6_when_123 rfl ?_
                    refine g_goto F 130 dX6_when_125 (by decide) ?_
                    refine g_istore F (lv' := [(4, .int (iI n)), (7, .int (iI y)), (6, .int (iI n)), (5, .int (iI l)), (0, .ref (ma 100)), (1, .int (iI p)), (2, .int (iI c))]) dX6_when_130 (by decide) rfl ?_
                    refine g_iload F 1 dX6_when_132 rfl ?_
                    refine g_iload F 3 dX6_when_134 rfl ?_
                    refine g_icmp_le F 144 (by omega) dX6_when_136 (by decide) (fun c136 => ?_) (fun c136 => ?_)
                    · skip
                      refine g_iload F 3 dX6_when_144 rfl ?_
                      refine g_istore F (lv' := [(5, .int (iI l)), (4, .int (iI n)), (7, .int (iI y)), (6, .int (iI n)), (0, .ref (ma 100)), (1, .int (iI p)), (2, .int (iI c))]) dX6_when_146 (by decide) rfl ?_
                      refine g_iinc F (lv' := [(6, .int (iI (n + 1))), (5, .int (iI l)), (4, .int (iI n)), (7, .int (iI y)), (0, .ref (ma 100)), (1, .int (iI p)), (2, .int (iI c))]) 3 dX6_when_148 rfl (by decide) rfl ?_
                      refine g_goto F 64 dX6_when_151 (by decide) ?_
                      refine g_sub F (lv' := [(6, .int (iI (n + 1))), (5, .int (iI l)), (4, .int (iI n)), (0, .ref (ma 100)), (1, .int (iI p)), (2, .int (iI c))]) [0, 1, 2, 4, 5, 6] rfl ?_
                      refine g_ws (ws' := mw κ ma (tst M (agn (stC (mA (stC (tst M Gm) (make (goI n (cl M)) c (M 6 p) (M 7 p) (M 8 p))) 9 (uI (M 9) p 1)) (goI (y - n) (make (goI n (cl M)) c (M 6 p) (M 7 p) (M 8 p)))) M))) rfl ?_
                      exact ih64 _ (by omega) (n + 1) n l (agn (stC (mA (stC (tst M Gm) (make (goI n (cl M)) c (M 6 p) (M 7 p) (M 8 p))) 9 (uI (M 9) p 1)) (goI (y - n) (make (goI n (cl M)) c (M 6 p) (M 7 p) (M 8 p)))) M) rfl (by omega) (by first | (exfalso; omega) | exact smx_tx hs rfl hz.symm hn2.1 rfl (by omega) | exact smx_fx (x := y) hs hz.symm hn2.1 (Or.inr (by omega))) (by omega)
                    · skip
                      refine g_iload F 1 dX6_when_139 rfl ?_
                      refine g_goto F 146 dX6_when_141 (by decide) ?_
                      refine g_istore F (lv' := [(5, .int (iI y)), (4, .int (iI n)), (7, .int (iI y)), (6, .int (iI n)), (0, .ref (ma 100)), (1, .int (iI p)), (2, .int (iI c))]) dX6_when_146 (by decide) rfl ?_
                      refine g_iinc F (lv' := [(6, .int (iI (n + 1))), (5, .int (iI y)), (4, .int (iI n)), (7, .int (iI y)), (0, .ref (ma 100)), (1, .int (iI p)), (2, .int (iI c))]) 3 dX6_when_148 rfl (by decide) rfl ?_
                      refine g_goto F 64 dX6_when_151 (by decide) ?_
                      refine g_sub F (lv' := [(6, .int (iI (n + 1))), (5, .int (iI y)), (4, .int (iI n)), (0, .ref (ma 100)), (1, .int (iI p)), (2, .int (iI c))]) [0, 1, 2, 4, 5, 6] rfl ?_
                      refine g_ws (ws' := mw κ ma (tst M (agn (stC (mA (stC (tst M Gm) (make (goI n (cl M)) c (M 6 p) (M 7 p) (M 8 p))) 9 (uI (M 9) p 1)) (goI (y - n) (make (goI n (cl M)) c (M 6 p) (M 7 p) (M 8 p)))) M))) rfl ?_
                      exact ih64 _ (by omega) (n + 1) n y (agn (stC (mA (stC (tst M Gm) (make (goI n (cl M)) c (M 6 p) (M 7 p) (M 8 p))) 9 (uI (M 9) p 1)) (goI (y - n) (make (goI n (cl M)) c (M 6 p) (M 7 p) (M 8 p)))) M) rfl (by omega) (by first | (exfalso; omega) | exact smx_tx hs rfl hz.symm hn2.1 rfl (by omega) | exact smx_fx (x := y) hs hz.symm hn2.1 (Or.inr (by omega))) (by omega)
                · skip
                  have okd := goI_ok (make_ok (c := c) (goI_ok ok n) hrp.1 hrp.2.1 hrp.2.2.1) (y - n)
                  have hyz : yr (goI (y - n) (make (goI n (cl M)) c (M 6 p) (M 7 p) (M 8 p))) < 1000000 := by have e := goI_yr (C := make (goI n (cl M)) c (M 6 p) (M 7 p) (M 8 p)) (n := y - n) (by omega); have e2 : yr (make (goI n (cl M)) c (M 6 p) (M 7 p) (M 8 p)) = yr (goI n (cl M)) := rfl; omega
                  refine g_aload_n F 4 dX6_when_94 rfl ?_
                  refine g_iload_n F 6 dX6_when_95 rfl ?_
                  refine g_callI F (stk := [.int (iI c), .ref (ma 100)]) (st := []) (k_X6_isHole κ ma (stC (mA (stC (tst M Gm) (make (goI n (cl M)) c (M 6 p) (M 7 p) (M 8 p))) 9 (uI (M 9) p 1)) (goI (y - n) (make (goI n (cl M)) c (M 6 p) (M 7 p) (M 8 p)))) c (by omega) okd) cal_X6_isHole lm_X6_121 0 rfl rfl rfl rfl (by decide) rfl (Nat.le_of_ble_eq_true rfl) dX6_when_96 (fun r96 ws96 _ hr96 => ?_)
                  obtain ⟨rfl, rfl⟩ := hr96
                  refine g_top (y := iI (b2i (hole (goI (y - n) (make (goI n (cl M)) c (M 6 p) (M 7 p) (M 8 p))) c))) rfl ?_
                  refine g_if_ne F 112 (b2i_in _) dX6_when_99 (by decide) (fun c99 => ?_) (fun c99 => ?_)
                  · skip
                    have c99 : hole (goI (y - n) (make (goI n (cl M)) c (M 6 p) (M 7 p) (M 8 p))) c := b2i_t c99
                    have hz : y = ych (make (goI n (cl M)) c (M 6 p) (M 7 p) (M 8 p)) c n := by first | (rw [← hR, ych_s (by omega), if_pos c99]) | (rw [← hR, show y = 61 by omega]; rfl)
                    refine g_aload_n F 4 dX6_when_112 rfl ?_
                    refine g_callV F (stk := [.ref (ma 100)]) (st := []) (k_X6_again κ ma (stC (mA (stC (tst M Gm) (make (goI n (cl M)) c (M 6 p) (M 7 p) (M 8 p))) 9 (uI (M 9) p 1)) (goI (y - n) (make (goI n (cl M)) c (M 6 p) (M 7 p) (M 8 p)))) M (fun _ _ _ => rfl)) cal_X6_again lm_X6_197 0 rfl rfl rfl rfl (by decide) rfl (Nat.le_of_ble_eq_true rfl) dX6_when_113 (fun ws113 _ hr113 => ?_)
                    obtain rfl := hr113
                    refine g_iload F 0 dX6_when_116 rfl ?_
                    refine g_iload F 2 dX6_when_118 rfl ?_
                    refine g_icmp_le F 128 (by omega) dX6_when_120 (by decide) (fun c120 => ?_) (fun c120 => ?_)
                    · skip
                      refine g_iload F 3 dX6_when_128 rfl ?_
                      refine g_istore F (lv' := [(4, .int (iI b)), (7, .int (iI y)), (6, .int (iI n)), (5, .int (iI l)), (0, .ref (ma 100)), (1, .int (iI p)), (2, .int (iI c))]) dX6_when_130 (by decide) rfl ?_
                      refine g_iload F 1 dX6_when_132 rfl ?_
                      refine g_iload F 3 dX6_when_134 rfl ?_
                      refine g_icmp_le F 144 (by omega) dX6_when_136 (by decide) (fun c136 => ?_) (fun c136 => ?_)
                      · skip
                        refine g_iload F 3 dX6_when_144 rfl ?_
                        refine g_istore F (lv' := [(5, .int (iI l)), (4, .int (iI b)), (7, .int (iI y)), (6, .int (iI n)), (0, .ref (ma 100)), (1, .int (iI p)), (2, .int (iI c))]) dX6_when_146 (by decide) rfl ?_
                        refine g_iinc F (lv' := [(6, .int (iI (n + 1))), (5, .int (iI l)), (4, .int (iI b)), (7, .int (iI y)), (0, .ref (ma 100)), (1, .int (iI p)), (2, .int (iI c))]) 3 dX6_when_148 rfl (by decide) rfl ?_
                        refine g_goto F 64 dX6_when_151 (by decide) ?_
                        refine g_sub F (lv' := [(6, .int (iI (n + 1))), (5, .int (iI l)), (4, .int (iI b)), (0, .ref (ma 100)), (1, .int (iI p)), (2, .int (iI c))]) [0, 1, 2, 4, 5, 6] rfl ?_
                        refine g_ws (ws' := mw κ ma (tst M (agn (stC (mA (stC (tst M Gm) (make (goI n (cl M)) c (M 6 p) (M 7 p) (M 8 p))) 9 (uI (M 9) p 1)) (goI (y - n) (make (goI n (cl M)) c (M 6 p) (M 7 p) (M 8 p)))) M))) rfl ?_
                        exact ih64 _ (by omega) (n + 1) b l (agn (stC (mA (stC (tst M Gm) (make (goI n (cl M)) c (M 6 p) (M 7 p) (M 8 p))) 9 (uI (M 9) p 1)) (goI (y - n) (make (goI n (cl M)) c (M 6 p) (M 7 p) (M 8 p)))) M) rfl (by omega) (by first | (exfalso; omega) | exact smx_tx hs rfl hz.symm hn2.1 rfl (by omega) | exact smx_fx (x := y) hs hz.symm hn2.1 (Or.inr (by omega))) (by omega)
                      · skip
                        refine g_iload F 1 dX6_when_139 rfl ?_
                        refine g_goto F 146 dX6_when_141 (by decide) ?_
                        refine g_istore F (lv' := [(5, .int (iI y)), (4, .int (iI b)), (7, .int (iI y)), (6, .int (iI n)), (0, .ref (ma 100)), (1, .int (iI p)), (2, .int (iI c))]) dX6_when_146 (by decide) rfl ?_
                        refine g_iinc F (lv' := [(6, .int (iI (n + 1))), (5, .int (iI y)), (4, .int (iI b)), (7, .int (iI y)), (0, .ref (ma 100)), (1, .int (iI p)), (2, .int (iI c))]) 3 dX6_when_148 rfl (by decide) rfl ?_
                        refine g_goto F 64 dX6_when_151 (by decide) ?_
                        refine g_sub F (lv' := [(6, .int (iI (n + 1))), (5, .int (iI y)), (4, .int (iI b)), (0, .ref (ma 100)), (1, .int (iI p)), (2, .int (iI c))]) [0, 1, 2, 4, 5, 6] rfl ?_
                        refine g_ws (ws' := mw κ ma (tst M (agn (stC (mA (stC (tst M Gm) (make (goI n (cl M)) c (M 6 p) (M 7 p) (M 8 p))) 9 (uI (M 9) p 1)) (goI (y - n) (make (goI n (cl M)) c (M 6 p) (M 7 p) (M 8 p)))) M))) rfl ?_
                        exact ih64 _ (by omega) (n + 1) b y (agn (stC (mA (stC (tst M Gm) (make (goI n (cl M)) c (M 6 p) (M 7 p) (M 8 p))) 9 (uI (M 9) p 1)) (goI (y - n) (make (goI n (cl M)) c (M 6 p) (M 7 p) (M 8 p)))) M) rfl (by omega) (by first | (exfalso; omega) | exact smx_tx hs rfl hz.symm hn2.1 rfl (by omega) | exact smx_fx (x := y) hs hz.symm hn2.1 (Or.inr (by omega))) (by omega)
                    · skip
                      refine g_iload F 1 dX6_when_123 rfl ?_
                      refine g_goto F 130 dX6_when_125 (by decide) ?_
                      refine g_istore F (lv' := [(4, .int (iI n)), (7, .int (iI y)), (6, .int (iI n)), (5, .int (iI l)), (0, .ref (ma 100)), (1, .int (iI p)), (2, .int (iI c))]) dX6_when_130 (by decide) rfl ?_
                      refine g_iload F 1 dX6_when_132 rfl ?_
                      refine g_iload F 3 dX6_when_134 rfl ?_
                      refine g_icmp_le F 144 (by omega) dX6_when_136 (by decide) (fun c136 => ?_) (fun c136 => ?_)
                      · skip
                        refine g_iload F 3 dX6_when_144 rfl ?_
                        refine g_istore F (lv' := [(5, .int (iI l)), (4, .int (iI n)), (7, .int (iI y)), (6, .int (iI n)), (0, .ref (ma 100)), (1, .int (iI p)), (2, .int (iI c))]) dX6_when_146 (by decide) rfl ?_
                        refine g_iinc F (lv' := [(6, .int (iI (n + 1))), (5, .int (iI l)), (4, .int (iI n)), (7, .int (iI y)), (0, .ref (ma 100)), (1, .int (iI p)), (2, .int (iI c))]) 3 dX6_when_148 rfl (by decide) rfl ?_
                        refine g_goto F 64 dX6_when_151 (by decide) ?_
                        refine g_sub F (lv' := [(6, .int (iI (n + 1))), (5, .int (iI l)), (4, .int (iI n)), (0, .ref (ma 100)), (1, .int (iI p)), (2, .int (iI c))]) [0, 1, 2, 4, 5, 6] rfl ?_
                        refine g_ws (ws' := mw κ ma (tst M (agn (stC (mA (stC (tst M Gm) (make (goI n (cl M)) c (M 6 p) (M 7 p) (M 8 p))) 9 (uI (M 9) p 1)) (goI (y - n) (make (goI n (cl M)) c (M 6 p) (M 7 p) (M 8 p)))) M))) rfl ?_
                        exact ih64 _ (by omega) (n + 1) n l (agn (stC (mA (stC (tst M Gm) (make (goI n (cl M)) c (M 6 p) (M 7 p) (M 8 p))) 9 (uI (M 9) p 1)) (goI (y - n) (make (goI n (cl M)) c (M 6 p) (M 7 p) (M 8 p)))) M) rfl (by omega) (by first | (exfalso; omega) | exact smx_tx hs rfl hz.symm hn2.1 rfl (by omega) | exact smx_fx (x := y) hs hz.symm hn2.1 (Or.inr (by omega))) (by omega)
                      · skip
                        refine g_iload F 1 dX6_when_139 rfl ?_
                        refine g_goto F 146 dX6_when_141 (by decide) ?_
                        refine g_istore F (lv' := [(5, .int (iI y)), (4, .int (iI n)), (7, .int (iI y)), (6, .int (iI n)), (0, .ref (ma 100)), (1, .int (iI p)), (2, .int (iI c))]) dX6_when_146 (by decide) rfl ?_
                        refine g_iinc F (lv' := [(6, .int (iI (n + 1))), (5, .int (iI y)), (4, .int (iI n)), (7, .int (iI y)), (0, .ref (ma 100)), (1, .int (iI p)), (2, .int (iI c))]) 3 dX6_when_148 rfl (by decide) rfl ?_
                        refine g_goto F 64 dX6_when_151 (by decide) ?_
                        refine g_sub F (lv' := [(6, .int (iI (n + 1))), (5, .int (iI y)), (4, .int (iI n)), (0, .ref (ma 100)), (1, .int (iI p)), (2, .int (iI c))]) [0, 1, 2, 4, 5, 6] rfl ?_
                        refine g_ws (ws' := mw κ ma (tst M (agn (stC (mA (stC (tst M Gm) (make (goI n (cl M)) c (M 6 p) (M 7 p) (M 8 p))) 9 (uI (M 9) p 1)) (goI (y - n) (make (goI n (cl M)) c (M 6 p) (M 7 p) (M 8 p)))) M))) rfl ?_
                        exact ih64 _ (by omega) (n + 1) n y (agn (stC (mA (stC (tst M Gm) (make (goI n (cl M)) c (M 6 p) (M 7 p) (M 8 p))) 9 (uI (M 9) p 1)) (goI (y - n) (make (goI n (cl M)) c (M 6 p) (M 7 p) (M 8 p)))) M) rfl (by omega) (by first | (exfalso; omega) | exact smx_tx hs rfl hz.symm hn2.1 rfl (by omega) | exact smx_fx (x := y) hs hz.symm hn2.1 (Or.inr (by omega))) (by omega)
                  · skip
                    have c99 : ¬ (hole (goI (y - n) (make (goI n (cl M)) c (M 6 p) (M 7 p) (M 8 p))) c) := b2i_f c99
                    refine g_aload_n F 4 dX6_when_102 rfl ?_
                    refine g_callV F (stk := [.ref (ma 100)]) (st := []) (k_X6_yearOn κ ma (stC (mA (stC (tst M Gm) (make (goI n (cl M)) c (M 6 p) (M 7 p) (M 8 p))) 9 (uI (M 9) p 1)) (goI (y - n) (make (goI n (cl M)) c (M 6 p) (M 7 p) (M 8 p)))) hyz okd) cal_X6_yearOn lm_X6_131 0 rfl rfl rfl rfl (by decide) rfl (Nat.le_of_ble_eq_true rfl) dX6_when_103 (fun ws103 _ hr103 => ?_)
                    obtain rfl := hr103
                    refine g_ws (ws' := mw κ ma (stC (mA (stC (tst M Gm) (make (goI n (cl M)) c (M 6 p) (M 7 p) (M 8 p))) 9 (uI (M 9) p 1)) (yearOn (goI (y - n) (make (goI n (cl M)) c (M 6 p) (M 7 p) (M 8 p)))))) rfl ?_
                    refine g_iinc F (lv' := [(7, .int (iI (y + 1))), (6, .int (iI n)), (5, .int (iI l)), (4, .int (iI b)), (0, .ref (ma 100)), (1, .int (iI p)), (2, .int (iI c))]) 0 dX6_when_106 rfl (by decide) rfl ?_
                    refine g_goto F 87 dX6_when_109 (by decide) ?_
                    refine g_sub F (lv' := [(7, .int (iI (y + 1))), (6, .int (iI n)), (5, .int (iI l)), (4, .int (iI b)), (0, .ref (ma 100)), (1, .int (iI p)), (2, .int (iI c))]) [0, 1, 2, 3, 4, 5, 6] rfl ?_
                    refine g_ws (ws' := mw κ ma (stC (mA (stC (tst M Gm) (make (goI n (cl M)) c (M 6 p) (M 7 p) (M 8 p))) 9 (uI (M 9) p 1)) (goI ((y + 1) - n) (make (goI n (cl M)) c (M 6 p) (M 7 p) (M 8 p))))) (by rw [show y + 1 - n = (y - n) + 1 by omega, goI_s (by omega)]) ?_
                    exact ih87 _ (by omega) (y + 1) rfl (by omega) (by rw [← hR, ych_s (n := y) (by omega), if_neg c99, show y + 1 - n = (y - n) + 1 by omega, goI_s (by omega)])
              refine g_sub F (lv' := [(7, .int (iI n)), (6, .int (iI n)), (5, .int (iI l)), (4, .int (iI b)), (0, .ref (ma 100)), (1, .int (iI p)), (2, .int (iI c))]) [0, 1, 2, 3, 4, 5, 6] rfl ?_
              refine g_ws (ws' := mw κ ma (stC (mA (stC (tst M Gm) (make (goI n (cl M)) c (M 6 p) (M 7 p) (M 8 p))) 9 (uI (M 9) p 1)) (goI (n - n) (make (goI n (cl M)) c (M 6 p) (M 7 p) (M 8 p))))) (by rw [show n - n = 0 by omega, goI_0]; rfl) ?_
              exact L87 _ n rfl (by omega) (by rw [show n - n = 0 by omega, goI_0])
          refine g_sub F (lv' := [(6, .int (iI 0)), (5, .int (iI (-1))), (4, .int (iI 0)), (0, .ref (ma 100)), (1, .int (iI p)), (2, .int (iI c))]) [0, 1, 2, 4, 5, 6] rfl ?_
          refine g_ws (ws' := mw κ ma (tst M (thk (mA M 10 (fun _ => 0))))) (by unfold thk; rw [snapF_mA (by decide)]; rfl) ?_
          exact L64 _ 0 0 (-1) (thk (mA M 10 (fun _ => 0))) rfl (by omega) rfl (by omega)
        · skip
          refine g_aload_n F 1 dX6_when_45 rfl ?_
          refine g_iload_n F 0 dX6_when_46 rfl ?_
          refine g_callI F (stk := [.int (iI (-3)), .ref (ma 100)]) (st := []) (k_X6_refuse κ ma (mA M 10 (fun _ => 0)) (-3) (by omega)) cal_X6_refuse lm_X6_138 0 rfl rfl rfl rfl (by decide) rfl (Nat.le_of_ble_eq_true rfl) dX6_when_47 (fun r47 ws47 _ hr47 => ?_)
          obtain ⟨rfl, rfl⟩ := hr47
          refine g_top (y := iI (-3)) rfl ?_
          refine g_ws (ws' := mw κ ma (mA (mA M 10 (fun _ => 0)) 11 (uI (M 11) (-(-3)) (M 11 (-(-3)) + 1)))) rfl ?_
          have hq : (-3) = qWhen (cl M) (M 6) (M 7) (M 8) (M 9) (M 5 0) p c := by unfold qWhen; (repeat' split) <;> omega
          exact K mw_same ⟨_, rfl, iIc hq, ⟨rfl, rfl, rfl, rfl, rfl, rfl, rfl, rfl, rfl, rfl, rfl, rfl, rfl, rfl, rfl, rfl, rfl, rfl⟩, (by rw [← hq]; exact (rfa_r (by omega)).symm)⟩ rfl dX6_when_50
    · skip
      have c17 : ¬ (0 ≤ c ∧ c < 12) := b2i_f c17
      refine g_iconst F dX6_when_20 ?_
      refine g_goto F 40 dX6_when_21 (by decide) ?_
      refine g_istore_n F (lv' := [(3, .int (iI (-1))), (0, .ref (ma 100)), (1, .int (iI p)), (2, .int (iI c))]) 3 dX6_when_40 rfl (by decide) rfl ?_
      refine g_iload_n F 0 dX6_when_41 rfl ?_
      refine g_if_ge F 51 (by omega) dX6_when_42 (by decide) (fun c42 => ?_) (fun c42 => ?_)
      · skip
        refine g_iconst F dX6_when_51 ?_
        refine g_istore F (lv' := [(4, .int (iI 0)), (3, .int (iI (-1))), (0, .ref (ma 100)), (1, .int (iI p)), (2, .int (iI c))]) dX6_when_52 (by decide) rfl ?_
        refine g_iconst F dX6_when_54 ?_
        refine g_istore F (lv' := [(5, .int (iI (-1))), (4, .int (iI 0)), (3, .int (iI (-1))), (0, .ref (ma 100)), (1, .int (iI p)), (2, .int (iI c))]) dX6_when_55 (by decide) rfl ?_
        refine g_aload_n F 3 dX6_when_57 rfl ?_
        refine g_callV F (stk := [.ref (ma 100)]) (st := []) (k_X6_think κ ma (mA M 10 (fun _ => 0))) cal_X6_think lm_X6_191 0 rfl rfl rfl rfl (by decide) rfl (Nat.le_of_ble_eq_true rfl) dX6_when_58 (fun ws58 _ hr58 => ?_)
        obtain rfl := hr58
        refine g_ws (ws' := mw κ ma (thk (mA M 10 (fun _ => 0)))) rfl ?_
        refine g_iconst F dX6_when_61 ?_
        refine g_istore F (lv' := [(6, .int (iI 0)), (5, .int (iI (-1))), (4, .int (iI 0)), (3, .int (iI (-1))), (0, .ref (ma 100)), (1, .int (iI p)), (2, .int (iI c))]) dX6_when_62 (by decide) rfl ?_
        have L64 : ∀ (mz64 : Nat) (n : Int) (b : Int) (l : Int) (Gm : MS), (31 - n).toNat = mz64 → (0 ≤ n ∧ n ≤ 31) → (sWhen (cl M) (M 6) (M 7) (M 8) p c n = (b, l)) → ((-1 ≤ l ∧ l ≤ 61) ∧ 0 ≤ b ∧ b ≤ n) → G E (mw κ ma (tst M Gm)) [(6, .int (iI n)), (5, .int (iI l)), (4, .int (iI b)), (0, .ref (ma 100)), (1, .int (iI p)), (2, .int (iI c))] 64 [] := by
          intro mz64
          induction mz64 using Nat.strongRecOn with
          | _ mz64 ih64 =>
          intro n b l Gm hmz64 hn2 hs hl
          refine g_iload F 0 dX6_when_64 rfl ?_
          refine g_bipush F dX6_when_66 (by decide +kernel) ?_
          refine g_icmp_gt F 154 (by omega) dX6_when_68 (by decide) (fun c68 => ?_) (fun c68 => ?_)
          · skip
            refine g_iload F 2 dX6_when_154 rfl ?_
            have e : (sWhen (cl M) (M 6) (M 7) (M 8) p c 31).1 = b := by rw [show (31 : Int) = n by omega, hs]
            have hq : b = qWhen (cl M) (M 6) (M 7) (M 8) (M 9) (M 5 0) p c := by unfold qWhen; rw [if_neg (by omega), if_neg (by omega), e]
            exact K mw_same ⟨_, rfl, iIc hq, ⟨rfl, rfl, rfl, rfl, rfl, rfl, rfl, rfl, rfl, rfl, rfl, rfl, rfl, rfl, rfl, rfl, rfl, rfl⟩, (by rw [← hq]; show M 11 = _; exact (rfa_n (by omega)).symm)⟩ rfl dX6_when_156
          · skip
            have hrp : (0 ≤ M 6 p ∧ M 6 p ≤ 5) ∧ (0 ≤ M 7 p ∧ M 7 p ≤ 9) ∧ (0 ≤ M 8 p ∧ M 8 p ≤ 99) ∧ 0 ≤ M 9 p ∧ M 9 p ≤ 1 := okr.2 p (by omega) (by omega)
            have hyy := goI_yr (C := cl M) hn2.1
            have hyc : yr (cl M) = M 4 0 := rfl
            refine g_aload_n F 3 dX6_when_71 rfl ?_
            refine g_iload F 0 dX6_when_72 rfl ?_
            refine g_callV F (stk := [.int (iI n), .ref (ma 100)]) (st := []) (k_X6_goYears κ ma (tst M Gm) n (show (0 ≤ n ∧ n ≤ 1000) ∧ (M 4 0) + n ≤ 1000000 from by omega) ok) cal_X6_goYears lm_X6_184 0 rfl rfl rfl rfl (by decide) rfl (Nat.le_of_ble_eq_true rfl) dX6_when_74 (fun ws74 _ hr74 => ?_)
            obtain rfl := hr74
            refine g_ws (ws' := mw κ ma (stC (tst M Gm) (goI n (cl M)))) rfl ?_
            refine g_aload_n F 3 dX6_when_77 rfl ?_
            refine g_iload_n F 4 dX6_when_78 rfl ?_
            refine g_iload_n F 5 dX6_when_79 rfl ?_
            refine g_callV F (stk := [.int (iI c), .int (iI p), .ref (ma 100)]) (st := []) (k_X6_putOn κ ma (stC (tst M Gm) (goI n (cl M))) p c (by omega) (by omega)) cal_X6_putOn lm_X6_179 0 rfl rfl rfl rfl (by decide) rfl (Nat.le_of_ble_eq_true rfl) dX6_when_80 (fun ws80 _ hr80 => ?_)
            obtain rfl := hr80
            refine g_ws (ws' := mw κ ma (mA (stC (tst M Gm) (make (goI n (cl M)) c (M 6 p) (M 7 p) (M 8 p))) 9 (uI (M 9) p 1))) rfl ?_
            refine g_iload F 0 dX6_when_83 rfl ?_
            refine g_istore F (lv' := [(7, .int (iI n)), (6, .int (iI n)), (5, .int (iI l)), (4, .int (iI b)), (0, .ref (ma 100)), (1, .int (iI p)), (2, .int (iI c))]) dX6_when_85 (by decide) rfl ?_
            have L87 : ∀ (mz87 : Nat) (y : Int), (61 - y).toNat = mz87 → (n ≤ y ∧ y ≤ 61) → (ych (goI (y - n) (make (goI n (cl M)) c (M 6 p) (M 7 p) (M 8 p))) c y = ych (make (goI n (cl M)) c (M 6 p) (M 7 p) (M 8 p)) c n) → G E (mw κ ma (stC (mA (stC (tst M Gm) (make (goI n (cl M)) c (M 6 p) (M 7 p) (M 8 p))) 9 (uI (M 9) p 1)) (goI (y - n) (make (goI n (cl M)) c (M 6 p) (M 7 p) (M 8 p))))) [(7, .int (iI y)), (6, .int (iI n)), (5, .int (iI l)), (4, .int (iI b)), (0, .ref (ma 100)), (1, .int (iI p)), (2, .int (iI c))] 87 [] := by
              intro mz87
              induction mz87 using Nat.strongRecOn with
              | _ mz87 ih87 =>
              intro y hmz87 hy2 hR
              refine g_iload F 0 dX6_when_87 rfl ?_
              refine g_bipush F dX6_when_89 (by decide +kernel) ?_
              refine g_icmp_gt F 112 (by omega) dX6_when_91 (by decide) (fun c91 => ?_) (fun c91 => ?_)
              · skip
                have hz : y = ych (make (goI n (cl M)) c (M 6 p) (M 7 p) (M 8 p)) c n := by first | (rw [← hR, ych_s (by omega), if_pos c99]) | (rw [← hR, show y = 61 by omega]; rfl)
                refine g_aload_n F 4 dX6_when_112 rfl ?_
                refine g_callV F (stk := [.ref (ma 100)]) (st := []) (k_X6_again κ ma (stC (mA (stC (tst M Gm) (make (goI n (cl M)) c (M 6 p) (M 7 p) (M 8 p))) 9 (uI (M 9) p 1)) (goI (y - n) (make (goI n (cl M)) c (M 6 p) (M 7 p) (M 8 p)))) M (fun _ _ _ => rfl)) cal_X6_again lm_X6_197 0 rfl rfl rfl rfl (by decide) rfl (Nat.le_of_ble_eq_true rfl) dX6_when_113 (fun ws113 _ hr113 => ?_)
                obtain rfl := hr113
                refine g_iload F 0 dX6_when_116 rfl ?_
                refine g_iload F 2 dX6_when_118 rfl ?_
                refine g_icmp_le F 128 (by omega) dX6_when_120 (by decide) (fun c120 => ?_) (fun c120 => ?_)
                · skip
                  refine g_iload F 3 dX6_when_128 rfl ?_
                  refine g_istore F (lv' := [(4, .int (iI b)), (7, .int (iI y)), (6, .int (iI n)), (5, .int (iI l)), (0, .ref (ma 100)), (1, .int (iI p)), (2, .int (iI c))]) dX6_when_130 (by decide) rfl ?_
                  refine g_iload F 1 dX6_when_132 rfl ?_
                  refine g_iload F 3 dX6_when_134 rfl ?_
                  refine g_icmp_le F 144 (by omega) dX6_when_136 (by decide) (fun c136 => ?_) (fun c136 => ?_)
                  · skip
                    refine g_iload F 3 dX6_when_144 rfl ?_
                    refine g_istore F (lv' := [(5, .int (iI l)), (4, .int (iI b)), (7, .int (iI y)), (6, .int (iI n)), (0, .ref (ma 100)), (1, .int (iI p)), (2, .int (iI c))]) dX6_when_146 (by decide) rfl ?_
                    refine g_iinc F (lv' := [(6, .int (iI (n + 1))), (5, .int (iI l)), (4, .int (iI b)), (7, .int (iI y)), (0, .ref (ma 100)), (1, .int (iI p)), (2, .int (iI c))]) 3 dX6_when_148 rfl (by decide) rfl ?_
                    refine g_goto F 64 dX6_when_151 (by decide) ?_
                    refine g_sub F (lv' := [(6, .int (iI (n + 1))), (5, .int (iI l)), (4, .int (iI b)), (0, .ref (ma 100)), (1, .int (iI p)), (2, .int (iI c))]) [0, 1, 2, 4, 5, 6] rfl ?_
                    refine g_ws (ws' := mw κ ma (tst M (agn (stC (mA (stC (tst M Gm) (make (goI n (cl M)) c (M 6 p) (M 7 p) (M 8 p))) 9 (uI (M 9) p 1)) (goI (y - n) (make (goI n (cl M)) c (M 6 p) (M 7 p) (M 8 p)))) M))) rfl ?_
                    exact ih64 _ (by omega) (n + 1) b l (agn (stC (mA (stC (tst M Gm) (make (goI n (cl M)) c (M 6 p) (M 7 p) (M 8 p))) 9 (uI (M 9) p 1)) (goI (y - n) (make (goI n (cl M)) c (M 6 p) (M 7 p) (M 8 p)))) M) rfl (by omega) (by first | (exfalso; omega) | exact smx_tx hs rfl hz.symm hn2.1 rfl (by omega) | exact smx_fx (x := y) hs hz.symm hn2.1 (Or.inr (by omega))) (by omega)
                  · skip
                    refine g_iload F 1 dX6_when_139 rfl ?_
                    refine g_goto F 146 dX6_when_141 (by decide) ?_
                    refine g_istore F (lv' := [(5, .int (iI y)), (4, .int (iI b)), (7, .int (iI y)), (6, .int (iI n)), (0, .ref (ma 100)), (1, .int (iI p)), (2, .int (iI c))]) dX6_when_146 (by decide) rfl ?_
                    refine g_iinc F (lv' := [(6, .int (iI (n + 1))), (5, .int (iI y)), (4, .int (iI b)), (7, .int (iI y)), (0, .ref (ma 100)), (1, .int (iI p)), (2, .int (iI c))]) 3 dX6_when_148 rfl (by decide) rfl ?_
                    refine g_goto F 64 dX6_when_151 (by decide) ?_
                    refine g_sub F (lv' := [(6, .int (iI (n + 1))), (5, .int (iI y)), (4, .int (iI b)), (0, .ref (ma 100)), (1, .int (iI p)), (2, .int (iI c))]) [0, 1, 2, 4, 5, 6] rfl ?_
                    refine g_ws (ws' := mw κ ma (tst M (agn (stC (mA (stC (tst M Gm) (make (goI n (cl M)) c (M 6 p) (M 7 p) (M 8 p))) 9 (uI (M 9) p 1)) (goI (y - n) (make (goI n (cl M)) c (M 6 p) (M 7 p) (M 8 p)))) M))) rfl ?_
                    exact ih64 _ (by omega) (n + 1) b y (agn (stC (mA (stC (tst M Gm) (make (goI n (cl M)) c (M 6 p) (M 7 p) (M 8 p))) 9 (uI (M 9) p 1)) (goI (y - n) (make (goI n (cl M)) c (M 6 p) (M 7 p) (M 8 p)))) M) rfl (by omega) (by first | (exfalso; omega) | exact smx_tx hs rfl hz.symm hn2.1 rfl (by omega) | exact smx_fx (x := y) hs hz.symm hn2.1 (Or.inr (by omega))) (by omega)
                · skip
                  refine g_iload F 1 dX6_when_123 rfl ?_
                  refine g_goto F 130 dX6_when_125 (by decide) ?_
                  refine g_istore F (lv' := [(4, .int (iI n)), (7, .int (iI y)), (6, .int (iI n)), (5, .int (iI l)), (0, .ref (ma 100)), (1, .int (iI p)), (2, .int (iI c))]) dX6_when_130 (by decide) rfl ?_
                  refine g_iload F 1 dX6_when_132 rfl ?_
                  refine g_iload F 3 dX6_when_134 rfl ?_
                  refine g_icmp_le F 144 (by omega) dX6_when_136 (by decide) (fun c136 => ?_) (fun c136 => ?_)
                  · skip
                    refine g_iload F 3 dX6_when_144 rfl ?_
                    refine g_istore F (lv' := [(5, .int (iI l)), (4, .int (iI n)), (7, .int (iI y)), (6, .int (iI n)), (0, .ref (ma 100)), (1, .int (iI p)), (2, .int (iI c))]) dX6_when_146 (by decide) rfl ?_
                    refine g_iinc F (lv' := [(6, .int (iI (n + 1))), (5, .int (iI l)), (4, .int (iI n)), (7, .int (iI y)), (0, .ref (ma 100)), (1, .int (iI p)), (2, .int (iI c))]) 3 dX6_when_148 rfl (by decide) rfl ?_
                    refine g_goto F 64 dX6_when_151 (by decide) ?_
                    refine g_sub F (lv' := [(6, .int (iI (n + 1))), (5, .int (iI l)), (4, .int (iI n)), (0, .ref (ma 100)), (1, .int (iI p)), (2, .int (iI c))]) [0, 1, 2, 4, 5, 6] rfl ?_
                    refine g_ws (ws' := mw κ ma (tst M (agn (stC (mA (stC (tst M Gm) (make (goI n (cl M)) c (M 6 p) (M 7 p) (M 8 p))) 9 (uI (M 9) p 1)) (goI (y - n) (make (goI n (cl M)) c (M 6 p) (M 7 p) (M 8 p)))) M))) rfl ?_
                    exact ih64 _ (by omega) (n + 1) n l (agn (stC (mA (stC (tst M Gm) (make (goI n (cl M)) c (M 6 p) (M 7 p) (M 8 p))) 9 (uI (M 9) p 1)) (goI (y - n) (make (goI n (cl M)) c (M 6 p) (M 7 p) (M 8 p)))) M) rfl (by omega) (by first | (exfalso; omega) | exact smx_tx hs rfl hz.symm hn2.1 rfl (by omega) | exact smx_fx (x := y) hs hz.symm hn2.1 (Or.inr (by omega))) (by omega)
                  · skip
                    refine g_iload F 1 dX6_when_139 rfl ?_
                    refine g_goto F 146 dX6_when_141 (by decide) ?_
                    refine g_istore F (lv' := [(5, .int (iI y)), (4, .int (iI n)), (7, .int (iI y)), (6, .int (iI n)), (0, .ref (ma 100)), (1, .int (iI p)), (2, .int (iI c))]) dX6_when_146 (by decide) rfl ?_
                    refine g_iinc F (lv' := [(6, .int (iI (n + 1))), (5, .int (iI y)), (4, .int (iI n)), (7, .int (iI y)), (0, .ref (ma 100)), (1, .int (iI p)), (2, .int (iI c))]) 3 dX6_when_148 rfl (by decide) rfl ?_
                    refine g_goto F 64 dX6_when_151 (by decide) ?_
                    refine g_sub F (lv' := [(6, .int (iI (n + 1))), (5, .int (iI y)), (4, .int (iI n)), (0, .ref (ma 100)), (1, .int (iI p)), (2, .int (iI c))]) [0, 1, 2, 4, 5, 6] rfl ?_
                    refine g_ws (ws' := mw κ ma (tst M (agn (stC (mA (stC (tst M Gm) (make (goI n (cl M)) c (M 6 p) (M 7 p) (M 8 p))) 9 (uI (M 9) p 1)) (goI (y - n) (make (goI n (cl M)) c (M 6 p) (M 7 p) (M 8 p)))) M))) rfl ?_
                    exact ih64 _ (by omega) (n + 1) n y (agn (stC (mA (stC (tst M Gm) (make (goI n (cl M)) c (M 6 p) (M 7 p) (M 8 p))) 9 (uI (M 9) p 1)) (goI (y - n) (make (goI n (cl M)) c (M 6 p) (M 7 p) (M 8 p)))) M) rfl (by omega) (by first | (exfalso; omega) | exact smx_tx hs rfl hz.symm hn2.1 rfl (by omega) | exact smx_fx (x := y) hs hz.symm hn2.1 (Or.inr (by omega))) (by omega)
              · skip
                have okd := goI_ok (make_ok (c := c) (goI_ok ok n) hrp.1 hrp.2.1 hrp.2.2.1) (y - n)
                have hyz : yr (goI (y - n) (make (goI n (cl M)) c (M 6 p) (M 7 p) (M 8 p))) < 1000000 := by have e := goI_yr (C := make (goI n (cl M)) c (M 6 p) (M 7 p) (M 8 p)) (n := y - n) (by omega); have e2 : yr (make (goI n (cl M)) c (M 6 p) (M 7 p) (M 8 p)) = yr (goI n (cl M)) := rfl; omega
                refine g_aload_n F 4 dX6_when_94 rfl ?_
                refine g_iload_n F 6 dX6_when_95 rfl ?_
                refine g_callI F (stk := [.int (iI c), .ref (ma 100)]) (st := []) (k_X6_isHole κ ma (stC (mA (stC (tst M Gm) (make (goI n (cl M)) c (M 6 p) (M 7 p) (M 8 p))) 9 (uI (M 9) p 1)) (goI (y - n) (make (goI n (cl M)) c (M 6 p) (M 7 p) (M 8 p)))) c (by omega) okd) cal_X6_isHole lm_X6_121 0 rfl rfl rfl rfl (by decide) rfl (Nat.le_of_ble_eq_true rfl) dX6_when_96 (fun r96 ws96 _ hr96 => ?_)
                obtain ⟨rfl, rfl⟩ := hr96
                refine g_top (y := iI (b2i (hole (goI (y - n) (make (goI n (cl M)) c (M 6 p) (M 7 p) (M 8 p))) c))) rfl ?_
                refine g_if_ne F 112 (b2i_in _) dX6_when_99 (by decide) (fun c99 => ?_) (fun c99 => ?_)
                · skip
                  have c99 : hole (goI (y - n) (make (goI n (cl M)) c (M 6 p) (M 7 p) (M 8 p))) c := b2i_t c99
                  have hz : y = ych (make (goI n (cl M)) c (M 6 p) (M 7 p) (M 8 p)) c n := by first | (rw [← hR, ych_s (by omega), if_pos c99]) | (rw [← hR, show y = 61 by omega]; rfl)
                  refine g_aload_n F 4 dX6_when_112 rfl ?_
                  refine g_callV F (stk := [.ref (ma 100)]) (st := []) (k_X6_again κ ma (stC (mA (stC (tst M Gm) (make (goI n (cl M)) c (M 6 p) (M 7 p) (M 8 p))) 9 (uI (M 9) p 1)) (goI (y - n) (make (goI n (cl M)) c (M 6 p) (M 7 p) (M 8 p)))) M (fun _ _ _ => rfl)) cal_X6_again lm_X6_197 0 rfl rfl rfl rfl (by decide) rfl (Nat.le_of_ble_eq_true rfl) dX6_when_113 (fun ws113 _ hr113 => ?_)
                  obtain rfl := hr113
                  refine g_iload F 0 dX6_when_116 rfl ?_
                  refine g_iload F 2 dX6_when_118 rfl ?_
                  refine g_icmp_le F 128 (by omega) dX6_when_120 (by decide) (fun c120 => ?_) (fun c120 => ?_)
                  · skip
                    refine g_iload F 3 dX6_when_128 rfl ?_
                    refine g_istore F (lv' := [(4, .int (iI b)), (7, .int (iI y)), (6, .int (iI n)), (5, .int (iI l)), (0, .ref (ma 100)), (1, .int (iI p)), (2, .int (iI c))]) dX6_when_130 (by decide) rfl ?_
                    refine g_iload F 1 dX6_when_132 rfl ?_
                    refine g_iload F 3 dX6_when_134 rfl ?_
                    refine g_icmp_le F 144 (by omega) dX6_when_136 (by decide) (fun c136 => ?_) (fun c136 => ?_)
                    · skip
                      refine g_iload F 3 dX6_when_144 rfl ?_
                      refine g_istore F (lv' := [(5, .int (iI l)), (4, .int (iI b)), (7, .int (iI y)), (6, .int (iI n)), (0, .ref (ma 100)), (1, .int (iI p)), (2, .int (iI c))]) dX6_when_146 (by decide) rfl ?_
                      refine g_iinc F (lv' := [(6, .int (iI (n + 1))), (5, .int (iI l)), (4, .int (iI b)), (7, .int (iI y)), (0, .ref (ma 100)), (1, .int (iI p)), (2, .int (iI c))]) 3 dX6_when_148 rfl (by decide) rfl ?_
                      refine g_goto F 64 dX6_when_151 (by decide) ?_
                      refine g_sub F (lv' := [(6, .int (iI (n + 1))), (5, .int (iI l)), (4, .int (iI b)), (0, .ref (ma 100)), (1, .int (iI p)), (2, .int (iI c))]) [0, 1, 2, 4, 5, 6] rfl ?_
                      refine g_ws (ws' := mw κ ma (tst M (agn (stC (mA (stC (tst M Gm) (make (goI n (cl M)) c (M 6 p) (M 7 p) (M 8 p))) 9 (uI (M 9) p 1)) (goI (y - n) (make (goI n (cl M)) c (M 6 p) (M 7 p) (M 8 p)))) M))) rfl ?_
                      exact ih64 _ (by omega) (n + 1) b l (agn (stC (mA (stC (tst M Gm) (make (goI n (cl M)) c (M 6 p) (M 7 p) (M 8 p))) 9 (uI (M 9) p 1)) (goI (y - n) (make (goI n (cl M)) c (M 6 p) (M 7 p) (M 8 p)))) M) rfl (by omega) (by first | (exfalso; omega) | exact smx_tx hs rfl hz.symm hn2.1 rfl (by omega) | exact smx_fx (x := y) hs hz.symm hn2.1 (Or.inr (by omega))) (by omega)
                    · skip
                      refine g_iload F 1 dX6_when_139 rfl ?_
                      refine g_goto F 146 dX6_when_141 (by decide) ?_
                      refine g_istore F (lv' := [(5, .int (iI y)), (4, .int (iI b)), (7, .int (iI y)), (6, .int (iI n)), (0, .ref (ma 100)), (1, .int (iI p)), (2, .int (iI c))]) dX6_when_146 (by decide) rfl ?_
                      refine g_iinc F (lv' := [(6, .int (iI (n + 1))), (5, .int (iI y)), (4, .int (iI b)), (7, .int (iI y)), (0, .ref (ma 100)), (1, .int (iI p)), (2, .int (iI c))]) 3 dX6_when_148 rfl (by decide) rfl ?_
                      refine g_goto F 64 dX6_when_151 (by decide) ?_
                      refine g_sub F (lv' := [(6, .int (iI (n + 1))), (5, .int (iI y)), (4, .int (iI b)), (0, .ref (ma 100)), (1, .int (iI p)), (2, .int (iI c))]) [0, 1, 2, 4, 5, 6] rfl ?_
                      refine g_ws (ws' := mw κ ma (tst M (agn (stC (mA (stC (tst M Gm) (make (goI n (cl M)) c (M 6 p) (M 7 p) (M 8 p))) 9 (uI (M 9) p 1)) (goI (y - n) (make (goI n (cl M)) c (M 6 p) (M 7 p) (M 8 p)))) M))) rfl ?_
                      exact ih64 _ (by omega) (n + 1) b y (agn (stC (mA (stC (tst M Gm) (make (goI n (cl M)) c (M 6 p) (M 7 p) (M 8 p))) 9 (uI (M 9) p 1)) (goI (y - n) (make (goI n (cl M)) c (M 6 p) (M 7 p) (M 8 p)))) M) rfl (by omega) (by first | (exfalso; omega) | exact smx_tx hs rfl hz.symm hn2.1 rfl (by omega) | exact smx_fx (x := y) hs hz.symm hn2.1 (Or.inr (by omega))) (by omega)
                  · skip
                    refine g_iload F 1 dX6_when_123 rfl ?_
                    refine g_goto F 130 dX6_when_125 (by decide) ?_
                    refine g_istore F (lv' := [(4, .int (iI n)), (7, .int (iI y)), (6, .int (iI n)), (5, .int (iI l)), (0, .ref (ma 100)), (1, .int (iI p)), (2, .int (iI c))]) dX6_when_130 (by decide) rfl ?_
                    refine g_iload F 1 dX6_when_132 rfl ?_
                    refine g_iload F 3 dX6_when_134 rfl ?_
                    refine g_icmp_le F 144 (by omega) dX6_when_136 (by decide) (fun c136 => ?_) (fun c136 => ?_)
                    · skip
                      refine g_iload F 3 dX6_when_144 rfl ?_
                      refine g_istore F (lv' := [(5, .int (iI l)), (4, .int (iI n)), (7, .int (iI y)), (6, .int (iI n)), (0, .ref (ma 100)), (1, .int (iI p)), (2, .int (iI c))]) dX6_when_146 (by decide) rfl ?_
                      refine g_iinc F (lv' := [(6, .int (iI (n + 1))), (5, .int (iI l)), (4, .int (iI n)), (7, .int (iI y)), (0, .ref (ma 100)), (1, .int (iI p)), (2, .int (iI c))]) 3 dX6_when_148 rfl (by decide) rfl ?_
                      refine g_goto F 64 dX6_when_151 (by decide) ?_
                      refine g_sub F (lv' := [(6, .int (iI (n + 1))), (5, .int (iI l)), (4, .int (iI n)), (0, .ref (ma 100)), (1, .int (iI p)), (2, .int (iI c))]) [0, 1, 2, 4, 5, 6] rfl ?_
                      refine g_ws (ws' := mw κ ma (tst M (agn (stC (mA (stC (tst M Gm) (make (goI n (cl M)) c (M 6 p) (M 7 p) (M 8 p))) 9 (uI (M 9) p 1)) (goI (y - n) (make (goI n (cl M)) c (M 6 p) (M 7 p) (M 8 p)))) M))) rfl ?_
                      exact ih64 _ (by omega) (n + 1) n l (agn (stC (mA (stC (tst M Gm) (make (goI n (cl M)) c (M 6 p) (M 7 p) (M 8 p))) 9 (uI (M 9) p 1)) (goI (y - n) (make (goI n (cl M)) c (M 6 p) (M 7 p) (M 8 p)))) M) rfl (by omega) (by first | (exfalso; omega) | exact smx_tx hs rfl hz.symm hn2.1 rfl (by omega) | exact smx_fx (x := y) hs hz.symm hn2.1 (Or.inr (by omega))) (by omega)
                    · skip
                      refine g_iload F 1 dX6_when_139 rfl ?_
                      refine g_goto F 146 dX6_when_141 (by decide) ?_
                      refine g_istore F (lv' := [(5, .int (iI y)), (4, .int (iI n)), (7, .int (iI y)), (6, .int (iI n)), (0, .ref (ma 100)), (1, .int (iI p)), (2, .int (iI c))]) dX6_when_146 (by decide) rfl ?_
                      refine g_iinc F (lv' := [(6, .int (iI (n + 1))), (5, .int (iI y)), (4, .int (iI n)), (7, .int (iI y)), (0, .ref (ma 100)), (1, .int (iI p)), (2, .int (iI c))]) 3 dX6_when_148 rfl (by decide) rfl ?_
                      refine g_goto F 64 dX6_when_151 (by decide) ?_
                      refine g_sub F (lv' := [(6, .int (iI (n + 1))), (5, .int (iI y)), (4, .int (iI n)), (0, .ref (ma 100)), (1, .int (iI p)), (2, .int (iI c))]) [0, 1, 2, 4, 5, 6] rfl ?_
                      refine g_ws (ws' := mw κ ma (tst M (agn (stC (mA (stC (tst M Gm) (make (goI n (cl M)) c (M 6 p) (M 7 p) (M 8 p))) 9 (uI (M 9) p 1)) (goI (y - n) (make (goI n (cl M)) c (M 6 p) (M 7 p) (M 8 p)))) M))) rfl ?_
                      exact ih64 _ (by omega) (n + 1) n y (agn (stC (mA (stC (tst M Gm) (make (goI n (cl M)) c (M 6 p) (M 7 p) (M 8 p))) 9 (uI (M 9) p 1)) (goI (y - n) (make (goI n (cl M)) c (M 6 p) (M 7 p) (M 8 p)))) M) rfl (by omega) (by first | (exfalso; omega) | exact smx_tx hs rfl hz.symm hn2.1 rfl (by omega) | exact smx_fx (x := y) hs hz.symm hn2.1 (Or.inr (by omega))) (by omega)
                · skip
                  have c99 : ¬ (hole (goI (y - n) (make (goI n (cl M)) c (M 6 p) (M 7 p) (M 8 p))) c) := b2i_f c99
                  refine g_aload_n F 4 dX6_when_102 rfl ?_
                  refine g_callV F (stk := [.ref (ma 100)]) (st := []) (k_X6_yearOn κ ma (stC (mA (stC (tst M Gm) (make (goI n (cl M)) c (M 6 p) (M 7 p) (M 8 p))) 9 (uI (M 9) p 1)) (goI (y - n) (make (goI n (cl M)) c (M 6 p) (M 7 p) (M 8 p)))) hyz okd) cal_X6_yearOn lm_X6_131 0 rfl rfl rfl rfl (by decide) rfl (Nat.le_of_ble_eq_true rfl) dX6_when_103 (fun ws103 _ hr103 => ?_)
                  obtain rfl := hr103
                  refine g_ws (ws' := mw κ ma (stC (mA (stC (tst M Gm) (make (goI n (cl M)) c (M 6 p) (M 7 p) (M 8 p))) 9 (uI (M 9) p 1)) (yearOn (goI (y - n) (make (goI n (cl M)) c (M 6 p) (M 7 p) (M 8 p)))))) rfl ?_
                  refine g_iinc F (lv' := [(7, .int (iI (y + 1))), (6, .int (iI n)), (5, .int (iI l)), (4, .int (iI b)), (0, .ref (ma 100)), (1, .int (iI p)), (2, .int (iI c))]) 0 dX6_when_106 rfl (by decide) rfl ?_
                  refine g_goto F 87 dX6_when_109 (by decide) ?_
                  refine g_sub F (lv' := [(7, .int (iI (y + 1))), (6, .int (iI n)), (5, .int (iI l)), (4, .int (iI b)), (0, .ref (ma 100)), (1, .int (iI p)), (2, .int (iI c))]) [0, 1, 2, 3, 4, 5, 6] rfl ?_
                  refine g_ws (ws' := mw κ ma (stC (mA (stC (tst M Gm) (make (goI n (cl M)) c (M 6 p) (M 7 p) (M 8 p))) 9 (uI (M 9) p 1)) (goI ((y + 1) - n) (make (goI n (cl M)) c (M 6 p) (M 7 p) (M 8 p))))) (by rw [show y + 1 - n = (y - n) + 1 by omega, goI_s (by omega)]) ?_
                  exact ih87 _ (by omega) (y + 1) rfl (by omega) (by rw [← hR, ych_s (n := y) (by omega), if_neg c99, show y + 1 - n = (y - n) + 1 by omega, goI_s (by omega)])
            refine g_sub F (lv' := [(7, .int (iI n)), (6, .int (iI n)), (5, .int (iI l)), (4, .int (iI b)), (0, .ref (ma 100)), (1, .int (iI p)), (2, .int (iI c))]) [0, 1, 2, 3, 4, 5, 6] rfl ?_
            refine g_ws (ws' := mw κ ma (stC (mA (stC (tst M Gm) (make (goI n (cl M)) c (M 6 p) (M 7 p) (M 8 p))) 9 (uI (M 9) p 1)) (goI (n - n) (make (goI n (cl M)) c (M 6 p) (M 7 p) (M 8 p))))) (by rw [show n - n = 0 by omega, goI_0]; rfl) ?_
            exact L87 _ n rfl (by omega) (by rw [show n - n = 0 by omega, goI_0])
        refine g_sub F (lv' := [(6, .int (iI 0)), (5, .int (iI (-1))), (4, .int (iI 0)), (0, .ref (ma 100)), (1, .int (iI p)), (2, .int (iI c))]) [0, 1, 2, 4, 5, 6] rfl ?_
        refine g_ws (ws' := mw κ ma (tst M (thk (mA M 10 (fun _ => 0))))) (by unfold thk; rw [snapF_mA (by decide)]; rfl) ?_
        exact L64 _ 0 0 (-1) (thk (mA M 10 (fun _ => 0))) rfl (by omega) rfl (by omega)
      · skip
        refine g_aload_n F 1 dX6_when_45 rfl ?_
        refine g_iload_n F 0 dX6_when_46 rfl ?_
        refine g_callI F (stk := [.int (iI (-1)), .ref (ma 100)]) (st := []) (k_X6_refuse κ ma (mA M 10 (fun _ => 0)) (-1) (by omega)) cal_X6_refuse lm_X6_138 0 rfl rfl rfl rfl (by decide) rfl (Nat.le_of_ble_eq_true rfl) dX6_when_47 (fun r47 ws47 _ hr47 => ?_)
        obtain ⟨rfl, rfl⟩ := hr47
        refine g_top (y := iI (-1)) rfl ?_
        refine g_ws (ws' := mw κ ma (mA (mA M 10 (fun _ => 0)) 11 (uI (M 11) (-(-1)) (M 11 (-(-1)) + 1)))) rfl ?_
        have hq : (-1) = qWhen (cl M) (M 6) (M 7) (M 8) (M 9) (M 5 0) p c := by unfold qWhen; (repeat' split) <;> omega
        exact K mw_same ⟨_, rfl, iIc hq, ⟨rfl, rfl, rfl, rfl, rfl, rfl, rfl, rfl, rfl, rfl, rfl, rfl, rfl, rfl, rfl, rfl, rfl, rfl⟩, (by rw [← hq]; exact (rfa_r (by omega)).symm)⟩ rfl dX6_when_50
theorem goI_nx {n : Int} (h : 0 ≤ n) (C : Cl) : goI (n + 1) C = goI 1 (goI n C) := by rw [goI_s h]; rfl
theorem dX5_when_0 : decode cX5_when 0 = .ok (.aload_n 0, 1) := by decide +kernel
theorem dX5_when_1 : decode cX5_when 1 = .ok (.getfield 19, 3) := by decide +kernel
theorem dX5_when_4 : decode cX5_when 4 = .ok (.iload_n 1, 1) := by decide +kernel
theorem dX5_when_5 : decode cX5_when 5 = .ok (.invokevirtual 190, 3) := by decide +kernel
theorem dX5_when_8 : decode cX5_when 8 = .ok (.ifCond .eq 10, 3) := by decide +kernel
theorem dX5_when_11 : decode cX5_when 11 = .ok (.iload_n 2, 1) := by decide +kernel
theorem dX5_when_12 : decode cX5_when 12 = .ok (.invokestatic 134, 3) := by decide +kernel
theorem dX5_when_15 : decode cX5_when 15 = .ok (.ifCond .ne 9, 3) := by decide +kernel
theorem dX5_when_18 : decode cX5_when 18 = .ok (.aload_n 0, 1) := by decide +kernel
theorem dX5_when_19 : decode cX5_when 19 = .ok (.iconst (-1), 1) := by decide +kernel
theorem dX5_when_20 : decode cX5_when 20 = .ok (.invokevirtual 69, 3) := by decide +kernel
theorem dX5_when_23 : decode cX5_when 23 = .ok (.ireturn, 1) := by decide +kernel
theorem dX5_when_24 : decode cX5_when 24 = .ok (.aload_n 0, 1) := by decide +kernel
theorem dX5_when_25 : decode cX5_when 25 = .ok (.getfield 19, 3) := by decide +kernel
theorem dX5_when_28 : decode cX5_when 28 = .ok (.iload_n 1, 1) := by decide +kernel
theorem dX5_when_29 : decode cX5_when 29 = .ok (.invokevirtual 150, 3) := by decide +kernel
theorem dX5_when_32 : decode cX5_when 32 = .ok (.ifCond .ne 10, 3) := by decide +kernel
theorem dX5_when_35 : decode cX5_when 35 = .ok (.aload_n 0, 1) := by decide +kernel
theorem dX5_when_36 : decode cX5_when 36 = .ok (.bipush (-3), 2) := by decide +kernel
theorem dX5_when_38 : decode cX5_when 38 = .ok (.invokevirtual 69, 3) := by decide +kernel
theorem dX5_when_41 : decode cX5_when 41 = .ok (.ireturn, 1) := by decide +kernel
theorem dX5_when_42 : decode cX5_when 42 = .ok (.iconst 0, 1) := by decide +kernel
theorem dX5_when_43 : decode cX5_when 43 = .ok (.istore_n 3, 1) := by decide +kernel
theorem dX5_when_44 : decode cX5_when 44 = .ok (.iconst (-1), 1) := by decide +kernel
theorem dX5_when_45 : decode cX5_when 45 = .ok (.istore 4, 2) := by decide +kernel
theorem dX5_when_47 : decode cX5_when 47 = .ok (.aload_n 0, 1) := by decide +kernel
theorem dX5_when_48 : decode cX5_when 48 = .ok (.getfield 53, 3) := by decide +kernel
theorem dX5_when_51 : decode cX5_when 51 = .ok (.aload_n 0, 1) := by decide +kernel
theorem dX5_when_52 : decode cX5_when 52 = .ok (.getfield 10, 3) := by decide +kernel
theorem dX5_when_55 : decode cX5_when 55 = .ok (.invokevirtual 88, 3) := by decide +kernel
theorem dX5_when_58 : decode cX5_when 58 = .ok (.iconst 0, 1) := by decide +kernel
theorem dX5_when_59 : decode cX5_when 59 = .ok (.istore 5, 2) := by decide +kernel
theorem dX5_when_61 : decode cX5_when 61 = .ok (.iload 5, 2) := by decide +kernel
theorem dX5_when_63 : decode cX5_when 63 = .ok (.bipush 30, 2) := by decide +kernel
theorem dX5_when_65 : decode cX5_when 65 = .ok (.if_icmp .gt 69, 3) := by decide +kernel
theorem dX5_when_68 : decode cX5_when 68 = .ok (.aload_n 0, 1) := by decide +kernel
theorem dX5_when_69 : decode cX5_when 69 = .ok (.getfield 50, 3) := by decide +kernel
theorem dX5_when_72 : decode cX5_when 72 = .ok (.aload_n 0, 1) := by decide +kernel
theorem dX5_when_73 : decode cX5_when 73 = .ok (.getfield 53, 3) := by decide +kernel
theorem dX5_when_76 : decode cX5_when 76 = .ok (.invokevirtual 88, 3) := by decide +kernel
theorem dX5_when_79 : decode cX5_when 79 = .ok (.aload_n 0, 1) := by decide +kernel
theorem dX5_when_80 : decode cX5_when 80 = .ok (.getfield 50, 3) := by decide +kernel
theorem dX5_when_83 : decode cX5_when 83 = .ok (.aload_n 0, 1) := by decide +kernel
theorem dX5_when_84 : decode cX5_when 84 = .ok (.getfield 19, 3) := by decide +kernel
theorem dX5_when_87 : decode cX5_when 87 = .ok (.iload_n 1, 1) := by decide +kernel
theorem dX5_when_88 : decode cX5_when 88 = .ok (.iload_n 2, 1) := by decide +kernel
theorem dX5_when_89 : decode cX5_when 89 = .ok (.invokevirtual 153, 3) := by decide +kernel
theorem dX5_when_92 : decode cX5_when 92 = .ok (.aload_n 0, 1) := by decide +kernel
theorem dX5_when_93 : decode cX5_when 93 = .ok (.getfield 50, 3) := by decide +kernel
theorem dX5_when_96 : decode cX5_when 96 = .ok (.iconst 1, 1) := by decide +kernel
theorem dX5_when_97 : decode cX5_when 97 = .ok (.iload_n 2, 1) := by decide +kernel
theorem dX5_when_98 : decode cX5_when 98 = .ok (.ishl, 1) := by decide +kernel
theorem dX5_when_99 : decode cX5_when 99 = .ok (.iload 5, 2) := by decide +kernel
theorem dX5_when_101 : decode cX5_when 101 = .ok (.invokevirtual 224, 3) := by decide +kernel
theorem dX5_when_104 : decode cX5_when 104 = .ok (.istore 6, 2) := by decide +kernel
theorem dX5_when_106 : decode cX5_when 106 = .ok (.iload 6, 2) := by decide +kernel
theorem dX5_when_108 : decode cX5_when 108 = .ok (.iload 4, 2) := by decide +kernel
theorem dX5_when_110 : decode cX5_when 110 = .ok (.if_icmp .le 10, 3) := by decide +kernel
theorem dX5_when_113 : decode cX5_when 113 = .ok (.iload 6, 2) := by decide +kernel
theorem dX5_when_115 : decode cX5_when 115 = .ok (.istore 4, 2) := by decide +kernel
theorem dX5_when_117 : decode cX5_when 117 = .ok (.iload 5, 2) := by decide +kernel
theorem dX5_when_119 : decode cX5_when 119 = .ok (.istore_n 3, 1) := by decide +kernel
theorem dX5_when_120 : decode cX5_when 120 = .ok (.aload_n 0, 1) := by decide +kernel
theorem dX5_when_121 : decode cX5_when 121 = .ok (.getfield 53, 3) := by decide +kernel
theorem dX5_when_124 : decode cX5_when 124 = .ok (.iconst 1, 1) := by decide +kernel
theorem dX5_when_125 : decode cX5_when 125 = .ok (.invokevirtual 166, 3) := by decide +kernel
theorem dX5_when_128 : decode cX5_when 128 = .ok (.iinc 5 1, 3) := by decide +kernel
theorem dX5_when_131 : decode cX5_when 131 = .ok (.goto (-70), 3) := by decide +kernel
theorem dX5_when_134 : decode cX5_when 134 = .ok (.iload_n 3, 1) := by decide +kernel
theorem dX5_when_135 : decode cX5_when 135 = .ok (.ireturn, 1) := by decide +kernel
set_option maxRecDepth 100000 in
set_option maxHeartbeats 4000000 in
theorem k_X5_when (κ : Kp) (xa : Nat → Nat → Nat) (X : XS) (p : Int) (c : Int)  (ha_p : In32 p) (ha_c : In32 c) (ok : okC (cl (X 0))) (hy : X 0 4 0 ≤ 999) (okr : okRl (X 12)) : mI κ yX5_when cX5_when 7 .int 5 [.ref (xa 18 100), .int (iI p), .int (iI c)] (xw κ xa X) (qX κ xa X (qWhen (cl (X 0)) (X 12 0) (X 12 1) (X 12 2) (uR (X 12)) (X 12 3 0) p c)) := by
  refine mI_of (by decide) (Nat.le_of_ble_eq_true rfl) (fun E F K => ?_)
  refine g_lv (lv' := [(0, .ref (xa 18 100)), (1, .int (iI p)), (2, .int (iI c))]) rfl ?_
  have hn := okr.1
  have hu : uR (X 12) p = X 12 4 0 / p2 p % 2 := rfl
  refine g_aload_n F 0 dX5_when_0 rfl ?_
  refine g18_get_1 F  lf_X5_19 dX5_when_1 ?_
  refine g_iload_n F 1 dX5_when_4 rfl ?_
  refine g_callNI F (stk := [.int (iI p), .ref (xa 12 100)]) (st := []) (k_X2_has κ xa X 0 (by decide) p (show In32 p ∧ 0 ≤ ((X 12) 3 0) ∧ ((X 12) 3 0) ≤ 6 from by omega)) cal_X2_has nm_X5_190 60 rfl rfl rfl rfl (by decide) rfl (Nat.le_of_ble_eq_true rfl) dX5_when_5 (fun r5 ws5 _ hr5 => ?_)
  obtain ⟨rfl, rfl⟩ := hr5
  refine g_if_eq F 18 (b2i_in _) dX5_when_8 (by decide) (fun c8 => ?_) (fun c8 => ?_)
  · skip
    have c8 : ¬ (0 ≤ p ∧ p < (X 12) 3 0) := b2i_f c8
    refine g_aload_n F 0 dX5_when_18 rfl ?_
    refine g_iconst F dX5_when_19 ?_
    refine g_callI F (stk := [.int (iI (-1)), .ref (xa 18 100)]) (st := []) (k_X5_refuse κ xa X (-1) (by omega)) cal_X5_refuse lm_X5_69 81 rfl rfl rfl rfl (by decide) rfl (Nat.le_of_ble_eq_true rfl) dX5_when_20 (fun r20 ws20 _ hr20 => ?_)
    obtain ⟨rfl, rfl⟩ := hr20
    have hq : (-1) = qWhen (cl (X 0)) (X 12 0) (X 12 1) (X 12 2) (uR (X 12)) (X 12 3 0) p c := by unfold qWhen; (repeat' split) <;> omega
    exact K xw_same ⟨_, rfl, iIc hq, (sX_18 sX_0 rfl rfl rfl), (by rw [← hq]; exact (rfa_r (by omega)).symm)⟩ rfl dX5_when_23
  · skip
    have c8 : 0 ≤ p ∧ p < (X 12) 3 0 := b2i_t c8
    refine g_iload_n F 2 dX5_when_11 rfl ?_
    refine g_callSI F (stk := [.int (iI c)]) (st := []) (k_X5_isCell κ (xw κ xa X) c (by omega)) cal_X5_isCell lm_X5_134 rfl (by decide) rfl (Nat.le_of_ble_eq_true rfl) dX5_when_12 (fun r12 ws12 _ hr12 => ?_)
    obtain ⟨rfl, rfl⟩ := hr12
    refine g_if_ne F 24 (b2i_in _) dX5_when_15 (by decide) (fun c15 => ?_) (fun c15 => ?_)
    · skip
      have c15 : 0 ≤ c ∧ c < 12 := b2i_t c15
      refine g_aload_n F 0 dX5_when_24 rfl ?_
      refine g18_get_1 F  lf_X5_19 dX5_when_25 ?_
      refine g_iload_n F 1 dX5_when_28 rfl ?_
      refine g_callNI F (stk := [.int (iI p), .ref (xa 12 100)]) (st := []) (k_X2_isFree κ xa X 0 (by decide) p (show In32 p ∧ (0 ≤ ((X 12) 3 0) ∧ ((X 12) 3 0) ≤ 6) ∧ 0 ≤ ((X 12) 4 0) ∧ ((X 12) 4 0) < 64 from by omega)) cal_X2_isFree nm_X5_150 60 rfl rfl rfl rfl (by decide) rfl (Nat.le_of_ble_eq_true rfl) dX5_when_29 (fun r29 ws29 _ hr29 => ?_)
      obtain ⟨rfl, rfl⟩ := hr29
      refine g_if_ne F 42 (b2i_in _) dX5_when_32 (by decide) (fun c32 => ?_) (fun c32 => ?_)
      · skip
        have c32 : (0 ≤ p ∧ p < (X 12) 3 0) ∧ (X 12) 4 0 / p2 p % 2 = 0 := b2i_t c32
        refine g_iconst F dX5_when_42 ?_
        refine g_istore_n F (lv' := [(3, .int (iI 0)), (0, .ref (xa 18 100)), (1, .int (iI p)), (2, .int (iI c))]) 3 dX5_when_43 rfl (by decide) rfl ?_
        refine g_iconst F dX5_when_44 ?_
        refine g_istore F (lv' := [(4, .int (iI (-1))), (3, .int (iI 0)), (0, .ref (xa 18 100)), (1, .int (iI p)), (2, .int (iI c))]) dX5_when_45 (by decide) rfl ?_
        refine g_aload_n F 2 dX5_when_47 rfl ?_
        refine g18_get_11 F  lf_X5_53 dX5_when_48 ?_
        refine g_aload_n F 2 dX5_when_51 rfl ?_
        refine g18_get_0 F  lf_X5_10 dX5_when_52 ?_
        refine g_callNV F (stk := [.ref (xa 0 100), .ref (xa 3 100)]) (st := []) (k_X0_become κ xa X 3 (by decide) 0 (by decide) (by decide)) cal_X0_become nm_X5_88 15 rfl rfl rfl rfl (by decide) rfl (Nat.le_of_ble_eq_true rfl) dX5_when_55 (fun ws55 _ hr55 => ?_)
        obtain rfl := hr55
        refine g_iconst F dX5_when_58 ?_
        refine g_istore F (lv' := [(5, .int (iI 0)), (4, .int (iI (-1))), (3, .int (iI 0)), (0, .ref (xa 18 100)), (1, .int (iI p)), (2, .int (iI c))]) dX5_when_59 (by decide) rfl ?_
        have L61 : ∀ (mz61 : Nat) (n : Int) (b : Int) (l : Int) (D : MS), (31 - n).toNat = mz61 → (0 ≤ n ∧ n ≤ 31) → (sWhen (cl (X 0)) (X 12 0) (X 12 1) (X 12 2) p c n = (b, l)) → ((-1 ≤ l ∧ l ≤ 61) ∧ 0 ≤ b ∧ b ≤ n) → G E (xw κ xa (setO (setO X 3 (stC (X 3) (goI n (cl (X 0))))) 2 D)) [(5, .int (iI n)), (4, .int (iI l)), (3, .int (iI b)), (0, .ref (xa 18 100)), (1, .int (iI p)), (2, .int (iI c))] 61 [] := by
          intro mz61
          induction mz61 using Nat.strongRecOn with
          | _ mz61 ih61 =>
          intro n b l D hmz61 hn2 hs hl
          refine g_iload F 0 dX5_when_61 rfl ?_
          refine g_bipush F dX5_when_63 (by decide +kernel) ?_
          refine g_icmp_gt F 134 (by omega) dX5_when_65 (by decide) (fun c65 => ?_) (fun c65 => ?_)
          · skip
            refine g_iload_n F 2 dX5_when_134 rfl ?_
            have e : (sWhen (cl (X 0)) (X 12 0) (X 12 1) (X 12 2) p c 31).1 = b := by rw [show (31 : Int) = n by omega, hs]
            have hq : b = qWhen (cl (X 0)) (X 12 0) (X 12 1) (X 12 2) (uR (X 12)) (X 12 3 0) p c := by unfold qWhen; rw [if_neg (by omega), if_neg (by omega), e]
            exact K xw_same ⟨_, rfl, iIc hq, (sX_o (sX_o sX_0 (by decide)) (by decide)), (by rw [← hq]; exact (rfa_n (by omega)).symm)⟩ rfl dX5_when_135
          · skip
            have hrp := okr.p (p := p) (by omega) (by omega)
            have hyy := goI_yr (C := cl (X 0)) hn2.1
            have hyc : yr (cl (X 0)) = X 0 4 0 := rfl
            have hpc := p2_cell (c := c) (by omega)
            have hyb := ych_bd (make (goI n (cl (X 0))) c (X 12 0 p) (X 12 1 p) (X 12 2 p)) c (s := n) hn2.1 (by omega)
            refine g_aload_n F 3 dX5_when_68 rfl ?_
            refine g18_get_10 F  lf_X5_50 dX5_when_69 ?_
            refine g_aload_n F 3 dX5_when_72 rfl ?_
            refine g18_get_11 F  lf_X5_53 dX5_when_73 ?_
            refine g_callNV F (stk := [.ref (xa 3 100), .ref (xa 2 100)]) (st := []) (k_X0_become κ xa (setO (setO X 3 (stC (X 3) (goI n (cl (X 0))))) 2 D) 2 (by decide) 3 (by decide) (by decide)) cal_X0_become nm_X5_88 10 rfl rfl rfl rfl (by decide) rfl (Nat.le_of_ble_eq_true rfl) dX5_when_76 (fun ws76 _ hr76 => ?_)
            obtain rfl := hr76
            refine g_ws (ws' := xw κ xa (setO (setO X 3 (stC (X 3) (goI n (cl (X 0))))) 2 (stC D (goI n (cl (X 0)))))) rfl ?_
            refine g_aload_n F 3 dX5_when_79 rfl ?_
            refine g18_get_10 F  lf_X5_50 dX5_when_80 ?_
            refine g_aload_n F 3 dX5_when_83 rfl ?_
            refine g18_get_1 F  lf_X5_19 dX5_when_84 ?_
            refine g_iload_n F 4 dX5_when_87 rfl ?_
            refine g_iload_n F 5 dX5_when_88 rfl ?_
            refine g_callNV F (stk := [.int (iI c), .int (iI p), .ref (xa 12 100), .ref (xa 2 100)]) (st := []) (k_X0_put κ xa (setO (setO X 3 (stC (X 3) (goI n (cl (X 0))))) 2 (stC D (goI n (cl (X 0))))) 2 (by decide) 0 p c (by decide) (by omega) (by omega)) cal_X0_put nm_X5_153 10 rfl rfl rfl rfl (by decide) rfl (Nat.le_of_ble_eq_true rfl) dX5_when_89 (fun ws89 _ hr89 => ?_)
            obtain rfl := hr89
            refine g_ws (ws' := xw κ xa (setO (setO X 3 (stC (X 3) (goI n (cl (X 0))))) 2 (stC D (make (goI n (cl (X 0))) c ((X 12) 0 p) ((X 12) 1 p) ((X 12) 2 p))))) rfl ?_
            refine g_aload_n F 3 dX5_when_92 rfl ?_
            refine g18_get_10 F  lf_X5_50 dX5_when_93 ?_
            refine g_iconst F dX5_when_96 ?_
            refine g_iload_n F 5 dX5_when_97 rfl ?_
            refine g_ishl F dX5_when_98 ?_
            refine g_top (y := iI (p2 c)) (iI_shl1 (by omega) (by omega)) ?_
            refine g_iload F 0 dX5_when_99 rfl ?_
            refine g_callNI F (stk := [.int (iI n), .int (iI (p2 c)), .ref (xa 2 100)]) (st := []) (kS_X0_yearsToHole κ xa (setO X 3 (stC (X 3) (goI n (cl (X 0))))) 2 (by decide) (stC D (make (goI n (cl (X 0))) c ((X 12) 0 p) ((X 12) 1 p) ((X 12) 2 p))) (p2 c) n (by omega) (show yr (goI n (cl (X 0))) ≤ 990000 by omega) (make_ok (goI_ok ok n) hrp.1 hrp.2.1 hrp.2.2)) cal_X0_yearsToHole nm_X5_224 10 rfl rfl rfl rfl (by decide) rfl (Nat.le_of_ble_eq_true rfl) dX5_when_101 (fun r101 ws101 _ hr101 => ?_)
            obtain ⟨rfl, rfl⟩ := hr101
            refine g_top (y := iI (ythI (make (goI n (cl (X 0))) c ((X 12) 0 p) ((X 12) 1 p) ((X 12) 2 p)) (p2 c) n)) rfl ?_
            refine g_ws (ws' := xw κ xa (setO (setO X 3 (stC (X 3) (goI n (cl (X 0))))) 2 (stC D (goI (ythI (make (goI n (cl (X 0))) c ((X 12) 0 p) ((X 12) 1 p) ((X 12) 2 p)) (p2 c) n - n) (make (goI n (cl (X 0))) c ((X 12) 0 p) ((X 12) 1 p) ((X 12) 2 p)))))) rfl ?_
            refine g_top (y := iI (ych (make (goI n (cl (X 0))) c (X 12 0 p) (X 12 1 p) (X 12 2 p)) c n)) (iIc (yth_ch (by omega) (by omega))) ?_
            refine g_istore F (lv' := [(6, .int (iI (ych (make (goI n (cl (X 0))) c (X 12 0 p) (X 12 1 p) (X 12 2 p)) c n))), (5, .int (iI n)), (4, .int (iI l)), (3, .int (iI b)), (0, .ref (xa 18 100)), (1, .int (iI p)), (2, .int (iI c))]) dX5_when_104 (by decide) rfl ?_
            refine g_iload F 0 dX5_when_106 rfl ?_
            refine g_iload F 2 dX5_when_108 rfl ?_
            refine g_icmp_le F 120 (by omega) dX5_when_110 (by decide) (fun c110 => ?_) (fun c110 => ?_)
            · skip
              refine g_aload_n F 4 dX5_when_120 rfl ?_
              refine g18_get_11 F  lf_X5_53 dX5_when_121 ?_
              refine g_iconst F dX5_when_124 ?_
              refine g_callNV F (stk := [.int (iI 1), .ref (xa 3 100)]) (st := []) (k_X0_goOn κ xa (setO (setO X 3 (stC (X 3) (goI n (cl (X 0))))) 2 (stC D (goI (ythI (make (goI n (cl (X 0))) c ((X 12) 0 p) ((X 12) 1 p) ((X 12) 2 p)) (p2 c) n - n) (make (goI n (cl (X 0))) c ((X 12) 0 p) ((X 12) 1 p) ((X 12) 2 p))))) 3 (by decide) 1 (show (0 ≤ (1 : Int) ∧ (1 : Int) ≤ 1000) ∧ yr (goI n (cl (X 0))) + 1 ≤ 1000000 by omega) (goI_ok ok n)) cal_X0_goOn nm_X5_166 15 rfl rfl rfl rfl (by decide) rfl (Nat.le_of_ble_eq_true rfl) dX5_when_125 (fun ws125 _ hr125 => ?_)
              obtain rfl := hr125
              refine g_ws (ws' := xw κ xa (setO (setO (setO X 3 (stC (X 3) (goI n (cl (X 0))))) 2 (stC D (goI (ythI (make (goI n (cl (X 0))) c ((X 12) 0 p) ((X 12) 1 p) ((X 12) 2 p)) (p2 c) n - n) (make (goI n (cl (X 0))) c ((X 12) 0 p) ((X 12) 1 p) ((X 12) 2 p))))) 3 (stC (X 3) (goI 1 (goI n (cl (X 0))))))) rfl ?_
              refine g_iinc F (lv' := [(5, .int (iI (n + 1))), (6, .int (iI (ych (make (goI n (cl (X 0))) c (X 12 0 p) (X 12 1 p) (X 12 2 p)) c n))), (4, .int (iI l)), (3, .int (iI b)), (0, .ref (xa 18 100)), (1, .int (iI p)), (2, .int (iI c))]) 1 dX5_when_128 rfl (by decide) rfl ?_
              refine g_goto F 61 dX5_when_131 (by decide) ?_
              refine g_sub F (lv' := [(5, .int (iI (n + 1))), (4, .int (iI l)), (3, .int (iI b)), (0, .ref (xa 18 100)), (1, .int (iI p)), (2, .int (iI c))]) [0, 2, 3, 4, 5, 6] rfl ?_
              refine g_ws (ws' := xw κ xa (setO (setO X 3 (stC (X 3) (goI (n + 1) (cl (X 0))))) 2 (stC D (goI (ythI (make (goI n (cl (X 0))) c ((X 12) 0 p) ((X 12) 1 p) ((X 12) 2 p)) (p2 c) n - n) (make (goI n (cl (X 0))) c ((X 12) 0 p) ((X 12) 1 p) ((X 12) 2 p)))))) (by rw [goI_nx hn2.1]; rfl) ?_
              exact ih61 _ (by omega) (n + 1) b l (stC D (goI (ythI (make (goI n (cl (X 0))) c ((X 12) 0 p) ((X 12) 1 p) ((X 12) 2 p)) (p2 c) n - n) (make (goI n (cl (X 0))) c ((X 12) 0 p) ((X 12) 1 p) ((X 12) 2 p)))) rfl (by omega) (by first | (exfalso; omega) | exact smx_tx hs rfl rfl hn2.1 rfl (by omega) | exact smx_fx (x := ych (make (goI n (cl (X 0))) c (X 12 0 p) (X 12 1 p) (X 12 2 p)) c n) hs rfl hn2.1 (Or.inr (by omega))) (by omega)
            · skip
              refine g_iload F 0 dX5_when_113 rfl ?_
              refine g_istore F (lv' := [(4, .int (iI (ych (make (goI n (cl (X 0))) c (X 12 0 p) (X 12 1 p) (X 12 2 p)) c n))), (6, .int (iI (ych (make (goI n (cl (X 0))) c (X 12 0 p) (X 12 1 p) (X 12 2 p)) c n))), (5, .int (iI n)), (3, .int (iI b)), (0, .ref (xa 18 100)), (1, .int (iI p)), (2, .int (iI c))]) dX5_when_115 (by decide) rfl ?_
              refine g_iload F 2 dX5_when_117 rfl ?_
              refine g_istore_n F (lv' := [(3, .int (iI n)), (4, .int (iI (ych (make (goI n (cl (X 0))) c (X 12 0 p) (X 12 1 p) (X 12 2 p)) c n))), (6, .int (iI (ych (make (goI n (cl (X 0))) c (X 12 0 p) (X 12 1 p) (X 12 2 p)) c n))), (5, .int (iI n)), (0, .ref (xa 18 100)), (1, .int (iI p)), (2, .int (iI c))]) 3 dX5_when_119 rfl (by decide) rfl ?_
              refine g_aload_n F 4 dX5_when_120 rfl ?_
              refine g18_get_11 F  lf_X5_53 dX5_when_121 ?_
              refine g_iconst F dX5_when_124 ?_
              refine g_callNV F (stk := [.int (iI 1), .ref (xa 3 100)]) (st := []) (k_X0_goOn κ xa (setO (setO X 3 (stC (X 3) (goI n (cl (X 0))))) 2 (stC D (goI (ythI (make (goI n (cl (X 0))) c ((X 12) 0 p) ((X 12) 1 p) ((X 12) 2 p)) (p2 c) n - n) (make (goI n (cl (X 0))) c ((X 12) 0 p) ((X 12) 1 p) ((X 12) 2 p))))) 3 (by decide) 1 (show (0 ≤ (1 : Int) ∧ (1 : Int) ≤ 1000) ∧ yr (goI n (cl (X 0))) + 1 ≤ 1000000 by omega) (goI_ok ok n)) cal_X0_goOn nm_X5_166 15 rfl rfl rfl rfl (by decide) rfl (Nat.le_of_ble_eq_true rfl) dX5_when_125 (fun ws125 _ hr125 => ?_)
              obtain rfl := hr125
              refine g_ws (ws' := xw κ xa (setO (setO (setO X 3 (stC (X 3) (goI n (cl (X 0))))) 2 (stC D (goI (ythI (make (goI n (cl (X 0))) c ((X 12) 0 p) ((X 12) 1 p) ((X 12) 2 p)) (p2 c) n - n) (make (goI n (cl (X 0))) c ((X 12) 0 p) ((X 12) 1 p) ((X 12) 2 p))))) 3 (stC (X 3) (goI 1 (goI n (cl (X 0))))))) rfl ?_
              refine g_iinc F (lv' := [(5, .int (iI (n + 1))), (3, .int (iI n)), (4, .int (iI (ych (make (goI n (cl (X 0))) c (X 12 0 p) (X 12 1 p) (X 12 2 p)) c n))), (6, .int (iI (ych (make (goI n (cl (X 0))) c (X 12 0 p) (X 12 1 p) (X 12 2 p)) c n))), (0, .ref (xa 18 100)), (1, .int (iI p)), (2, .int (iI c))]) 3 dX5_when_128 rfl (by decide) rfl ?_
              refine g_goto F 61 dX5_when_131 (by decide) ?_
              refine g_sub F (lv' := [(5, .int (iI (n + 1))), (4, .int (iI (ych (make (goI n (cl (X 0))) c (X 12 0 p) (X 12 1 p) (X 12 2 p)) c n))), (3, .int (iI n)), (0, .ref (xa 18 100)), (1, .int (iI p)), (2, .int (iI c))]) [0, 2, 1, 4, 5, 6] rfl ?_
              refine g_ws (ws' := xw κ xa (setO (setO X 3 (stC (X 3) (goI (n + 1) (cl (X 0))))) 2 (stC D (goI (ythI (make (goI n (cl (X 0))) c ((X 12) 0 p) ((X 12) 1 p) ((X 12) 2 p)) (p2 c) n - n) (make (goI n (cl (X 0))) c ((X 12) 0 p) ((X 12) 1 p) ((X 12) 2 p)))))) (by rw [goI_nx hn2.1]; rfl) ?_
              exact ih61 _ (by omega) (n + 1) n (ych (make (goI n (cl (X 0))) c (X 12 0 p) (X 12 1 p) (X 12 2 p)) c n) (stC D (goI (ythI (make (goI n (cl (X 0))) c ((X 12) 0 p) ((X 12) 1 p) ((X 12) 2 p)) (p2 c) n - n) (make (goI n (cl (X 0))) c ((X 12) 0 p) ((X 12) 1 p) ((X 12) 2 p)))) rfl (by omega) (by first | (exfalso; omega) | exact smx_tx hs rfl rfl hn2.1 rfl (by omega) | exact smx_fx (x := ych (make (goI n (cl (X 0))) c (X 12 0 p) (X 12 1 p) (X 12 2 p)) c n) hs rfl hn2.1 (Or.inr (by omega))) (by omega)
        refine g_sub F (lv' := [(5, .int (iI 0)), (4, .int (iI (-1))), (3, .int (iI 0)), (0, .ref (xa 18 100)), (1, .int (iI p)), (2, .int (iI c))]) [0, 1, 2, 3, 4, 5] rfl ?_
        refine g_ws (ws' := xw κ xa (setO (setO X 3 (stC (X 3) (goI 0 (cl (X 0))))) 2 (X 2))) rfl ?_
        exact L61 _ 0 0 (-1) (X 2) rfl (by omega) rfl (by omega)
      · skip
        have c32 : ¬ ((0 ≤ p ∧ p < (X 12) 3 0) ∧ (X 12) 4 0 / p2 p % 2 = 0) := b2i_f c32
        refine g_aload_n F 0 dX5_when_35 rfl ?_
        refine g_bipush F dX5_when_36 (by decide +kernel) ?_
        refine g_callI F (stk := [.int (iI (-3)), .ref (xa 18 100)]) (st := []) (k_X5_refuse κ xa X (-3) (by omega)) cal_X5_refuse lm_X5_69 81 rfl rfl rfl rfl (by decide) rfl (Nat.le_of_ble_eq_true rfl) dX5_when_38 (fun r38 ws38 _ hr38 => ?_)
        obtain ⟨rfl, rfl⟩ := hr38
        have hq : (-3) = qWhen (cl (X 0)) (X 12 0) (X 12 1) (X 12 2) (uR (X 12)) (X 12 3 0) p c := by unfold qWhen; (repeat' split) <;> omega
        exact K xw_same ⟨_, rfl, iIc hq, (sX_18 sX_0 rfl rfl rfl), (by rw [← hq]; exact (rfa_r (by omega)).symm)⟩ rfl dX5_when_41
    · skip
      have c15 : ¬ (0 ≤ c ∧ c < 12) := b2i_f c15
      refine g_aload_n F 0 dX5_when_18 rfl ?_
      refine g_iconst F dX5_when_19 ?_
      refine g_callI F (stk := [.int (iI (-1)), .ref (xa 18 100)]) (st := []) (k_X5_refuse κ xa X (-1) (by omega)) cal_X5_refuse lm_X5_69 81 rfl rfl rfl rfl (by decide) rfl (Nat.le_of_ble_eq_true rfl) dX5_when_20 (fun r20 ws20 _ hr20 => ?_)
      obtain ⟨rfl, rfl⟩ := hr20
      have hq : (-1) = qWhen (cl (X 0)) (X 12 0) (X 12 1) (X 12 2) (uR (X 12)) (X 12 3 0) p c := by unfold qWhen; (repeat' split) <;> omega
      exact K xw_same ⟨_, rfl, iIc hq, (sX_18 sX_0 rfl rfl rfl), (by rw [← hq]; exact (rfa_r (by omega)).symm)⟩ rfl dX5_when_23
