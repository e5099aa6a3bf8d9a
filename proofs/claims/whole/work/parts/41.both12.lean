theorem bsum_bit {f : Int → Int} (hf : ∀ j : Int, f j = 0 ∨ f j = p2 j) {n c : Int} (hn : 0 ≤ n) (hc : 0 ≤ c) (h : c < n) : sumI f n / p2 c % 2 = if f c = 0 then 0 else 1 := by
  obtain ⟨k, rfl⟩ : ∃ k : Nat, n = (k : Int) := ⟨n.toNat, by omega⟩
  induction k with
  | zero => omega
  | succ k ih =>
    have e : ((k + 1 : Nat) : Int) = (k : Int) + 1 := by omega
    rw [e, sumI_s _ (by omega)]
    have hb := bsum_bd hf (n := (k : Int)) (by omega)
    have hp := p2_pos c
    by_cases hk : c = (k : Int)
    · subst hk
      rcases hf (k : Int) with q | q
      · rw [q, if_pos rfl, Int.add_zero, Int.ediv_eq_zero_of_lt hb.1 hb.2]
        rfl
      · rw [q, if_neg (by omega)]
        rw [show sumI f (k : Int) + p2 (k : Int) = sumI f (k : Int) + 1 * p2 (k : Int) by omega]
        rw [Int.add_mul_ediv_right _ _ (by omega), Int.ediv_eq_zero_of_lt hb.1 hb.2]
        rfl
    · have ih2 := ih (by omega) (by omega)
      rw [← ih2]
      have hd : ∃ d : Int, f (k : Int) = 2 * d * p2 c := by
        rcases hf (k : Int) with q | q
        · exact ⟨0, by omega⟩
        · obtain ⟨m, hm⟩ : ∃ m : Nat, (k : Int).toNat = c.toNat + 1 + m := ⟨(k : Int).toNat - c.toNat - 1, by omega⟩
          refine ⟨((2 ^ m : Nat) : Int), ?_⟩
          rw [q]
          unfold p2
          rw [hm, Nat.pow_add, Nat.pow_add, Int.natCast_mul, Int.natCast_mul, Nat.pow_one, Int.mul_comm (2 : Int), Int.mul_comm ((2 ^ c.toNat : Nat) : Int), Int.mul_comm _ (((2 ^ m : Nat) : Int)), Int.mul_assoc]
          rfl
      obtain ⟨d, hd⟩ := hd
      rw [hd, Int.add_mul_ediv_right _ _ (by omega)]
      omega
theorem dm_in (a b : Int) : In32 (dm a b) := by
  unfold dm
  have h1 := (iI a &&& (iI b ^^^ iI (-1))).le_toInt
  have h2 := (iI a &&& (iI b ^^^ iI (-1))).toInt_lt
  exact ⟨by omega, by omega⟩
def mdN (f need : Int) : Nat → Int → Int
  | 0, _ => -9
  | k + 1, s => if dm s f = 0 ∧ pcnt s = need then s else mdN f need k (s + 1)
theorem md_s (f need : Int) {s : Int} (h : s < 64) : mdN f need (64 - s).toNat s = if dm s f = 0 ∧ pcnt s = need then s else mdN f need (64 - (s + 1)).toNat (s + 1) := by
  rw [show (64 - s).toNat = (64 - (s + 1)).toNat + 1 by omega]
  rfl
def qMend (f need : Int) : Int := mdN f need 64 0
def grN (u : Int → Int) (need : Int) : Nat → Int × Int
  | 0 => (0, need)
  | p + 1 => if 0 < (grN u need p).2 ∧ u (p : Int) = 0 then ((grN u need p).1 + p2 (p : Int), (grN u need p).2 - 1) else grN u need p
def grI (u : Int → Int) (need n : Int) : Int × Int := grN u need n.toNat
theorem gr_s (u : Int → Int) (need : Int) {n : Int} (h : 0 ≤ n) : grI u need (n + 1) = if 0 < (grI u need n).2 ∧ u n = 0 then ((grI u need n).1 + p2 n, (grI u need n).2 - 1) else grI u need n := by
  unfold grI
  rw [show (n + 1).toNat = n.toNat + 1 by omega]
  show (if 0 < (grN u need n.toNat).2 ∧ u ((n.toNat : Nat) : Int) = 0 then ((grN u need n.toNat).1 + p2 ((n.toNat : Nat) : Int), (grN u need n.toNat).2 - 1) else grN u need n.toNat) = _
  rw [Int.toNat_of_nonneg h]
theorem gr_t {u : Int → Int} {need n s l : Int} (h : grI u need n = (s, l)) (h0 : 0 ≤ n) (hl : 0 < l) (hu : u n = 0) : grI u need (n + 1) = (s + p2 n, l - 1) := by
  rw [gr_s u need h0, h]
  exact if_pos ⟨hl, hu⟩
theorem gr_f {u : Int → Int} {need n s l : Int} (h : grI u need n = (s, l)) (h0 : 0 ≤ n) (hu : l ≤ 0 ∨ u n ≠ 0) : grI u need (n + 1) = (s, l) := by
  rw [gr_s u need h0, h]
  refine if_neg (fun q => ?_)
  have q1 : 0 < l := q.1
  rcases hu with hu | hu
  · omega
  · exact hu q.2
theorem gr_stop {u : Int → Int} {need n p s l : Int} (h : grI u need p = (s, l)) (h0 : 0 ≤ p) (hl : l ≤ 0) (hp : p ≤ n) : grI u need n = (s, l) := by
  obtain ⟨d, rfl⟩ : ∃ d : Nat, n = p + (d : Int) := ⟨(n - p).toNat, by omega⟩
  induction d with
  | zero => rw [show p + ((0 : Nat) : Int) = p by omega]; exact h
  | succ d ih =>
    rw [show p + ((d + 1 : Nat) : Int) = (p + (d : Int)) + 1 by omega]
    exact gr_f (ih (by omega)) (by omega) (Or.inl hl)
def qMendX (u : Int → Int) (n need : Int) : Int := if 0 < (grI u need n).2 then -9 else (grI u need n).1
/-- the same, counted out -/
def pc6 (n : Nat) : Nat := n % 2 + n / 2 % 2 + n / 4 % 2 + n / 8 % 2 + n / 16 % 2 + n / 32 % 2
theorem pc6_ok : ∀ n : Nat, n < 64 → pcN n = pc6 n := by decide +kernel
def mdB (b need : Nat) : Nat → Nat → Nat
  | 0, _ => 64
  | k + 1, s => if (s &&& b == s && pc6 s == need) = true then s else mdB b need k (s + 1)
def gbN (b need : Nat) : Nat → Nat × Nat
  | 0 => (0, need)
  | p + 1 => match gbN b need p with
    | (s, l) => if (Nat.ble 1 l && b / 2 ^ p % 2 == 1) = true then (s + 2 ^ p, l - 1) else (s, l)
theorem md_gb : ∀ b : Nat, b < 64 → ∀ need : Nat, need < 13 → mdB b need 64 0 = if (gbN b need 6).2 = 0 then (gbN b need 6).1 else 64 := by decide +kernel
theorem dm_land : ∀ s : Nat, s < 64 → ∀ b : Nat, b < 64 → (dm (s : Int) (b : Int) = 0 ↔ s &&& b = s) := by decide +kernel
theorem md_mdB (b need : Nat) (hb : b < 64) : ∀ k s : Nat, s + k = 64 → mdN (b : Int) (need : Int) k (s : Int) = if mdB b need k s = 64 then -9 else (mdB b need k s : Int)
  | 0, s, _ => rfl
  | k + 1, s, h => by
    have h1 := dm_land s (by omega) b hb
    have h2 : pcnt (s : Int) = (pc6 s : Int) := by unfold pcnt; rw [Int.toNat_natCast, pc6_ok s (by omega)]
    have ih := md_mdB b need hb k (s + 1) (by omega)
    show (if dm (s : Int) (b : Int) = 0 ∧ pcnt (s : Int) = (need : Int) then (s : Int) else mdN (b : Int) (need : Int) k ((s : Int) + 1)) = if (if (s &&& b == s && pc6 s == need) = true then s else mdB b need k (s + 1)) = 64 then -9 else ((if (s &&& b == s && pc6 s == need) = true then s else mdB b need k (s + 1) : Nat) : Int)
    by_cases q : s &&& b = s ∧ pc6 s = need
    · have q2 : (s &&& b == s && pc6 s == need) = true := by rw [Bool.and_eq_true, beq_iff_eq, beq_iff_eq]; exact q
      rw [if_pos ⟨h1.mpr q.1, by rw [h2]; omega⟩, if_pos q2, if_neg (by omega)]
    · have q2 : ¬ (s &&& b == s && pc6 s == need) = true := by rw [Bool.and_eq_true, beq_iff_eq, beq_iff_eq]; exact q
      rw [if_neg (fun z => q ⟨h1.mp z.1, by have := z.2; rw [h2] at this; omega⟩), if_neg q2]
      exact ih
theorem gr_gb {u : Int → Int} {b need : Nat} {n : Nat} (hb : ∀ p : Nat, p < n → (u (p : Int) = 0 ↔ b / 2 ^ p % 2 = 1)) : ∀ p : Nat, p ≤ n → grN u (need : Int) p = (((gbN b need p).1 : Int), ((gbN b need p).2 : Int))
  | 0, _ => rfl
  | p + 1, h => by
    have ih := gr_gb (need := need) hb p (by omega)
    have hp := hb p (by omega)
    have e2 : p2 (p : Int) = ((2 ^ p : Nat) : Int) := by unfold p2; rw [Int.toNat_natCast]
    show (if 0 < (grN u (need : Int) p).2 ∧ u (p : Int) = 0 then ((grN u (need : Int) p).1 + p2 (p : Int), (grN u (need : Int) p).2 - 1) else grN u (need : Int) p) = _
    rw [ih]
    have hs : gbN b need (p + 1) = if (Nat.ble 1 (gbN b need p).2 && b / 2 ^ p % 2 == 1) = true then ((gbN b need p).1 + 2 ^ p, (gbN b need p).2 - 1) else ((gbN b need p).1, (gbN b need p).2) := rfl
    rw [hs]
    by_cases q : 1 ≤ (gbN b need p).2 ∧ b / 2 ^ p % 2 = 1
    · have q2 : (Nat.ble 1 (gbN b need p).2 && b / 2 ^ p % 2 == 1) = true := by rw [Bool.and_eq_true, beq_iff_eq, Nat.ble_eq]; exact q
      rw [if_pos ⟨by show (0 : Int) < ((gbN b need p).2 : Int); omega, hp.mpr q.2⟩, if_pos q2, e2]
      show (((gbN b need p).1 : Int) + ((2 ^ p : Nat) : Int), ((gbN b need p).2 : Int) - 1) = ((((gbN b need p).1 + 2 ^ p : Nat) : Int), (((gbN b need p).2 - 1 : Nat) : Int))
      have e3 : (((gbN b need p).2 - 1 : Nat) : Int) = ((gbN b need p).2 : Int) - 1 := by omega
      rw [e3, Int.natCast_add]
    · have q2 : ¬ (Nat.ble 1 (gbN b need p).2 && b / 2 ^ p % 2 == 1) = true := by rw [Bool.and_eq_true, beq_iff_eq, Nat.ble_eq]; exact q
      rw [if_neg (fun z => q ⟨by have z1 : (0 : Int) < ((gbN b need p).2 : Int) := z.1; omega, hp.mp z.2⟩), if_neg q2]
theorem gb_stop {b need n : Nat} (hb : b < 2 ^ n) : ∀ d : Nat, gbN b need (n + d) = gbN b need n
  | 0 => rfl
  | d + 1 => by
    have ih := gb_stop (need := need) hb d
    have z : b / 2 ^ (n + d) = 0 := Nat.div_eq_of_lt (Nat.lt_of_lt_of_le hb (Nat.pow_le_pow_right (by decide) (by omega)))
    have hs : gbN b need (n + (d + 1)) = if (Nat.ble 1 (gbN b need (n + d)).2 && b / 2 ^ (n + d) % 2 == 1) = true then ((gbN b need (n + d)).1 + 2 ^ (n + d), (gbN b need (n + d)).2 - 1) else ((gbN b need (n + d)).1, (gbN b need (n + d)).2) := rfl
    rw [hs, z, if_neg (by rw [Bool.and_eq_true]; exact fun q => absurd q.2 (by decide))]
    exact ih
theorem fb_bit (u : Int → Int) {n c : Int} (hn : 0 ≤ n) (hc : 0 ≤ c) (h : c < n) : fbits u n / p2 c % 2 = if u c = 0 then 1 else 0 := by
  have k := bsum_bit (f := fbf u) (fun j => by unfold fbf; split; exact Or.inr rfl; exact Or.inl rfl) hn hc h
  unfold fbits
  rw [k]
  have hp := p2_pos c
  unfold fbf
  by_cases q : u c = 0
  · rw [if_pos q, if_pos q, if_neg (by omega)]
  · rw [if_neg q, if_neg q, if_pos rfl]
theorem mend_eq (u : Int → Int) {n need : Int} (hn : 0 ≤ n ∧ n ≤ 6) (hd : 0 ≤ need ∧ need ≤ 12) : qMend (fbits u n) need = qMendX u n need := by
  have hf := p2_6 (u := u) hn.1 hn.2
  have hf2 := fbits_bd u hn.1
  obtain ⟨b, hb⟩ : ∃ b : Nat, fbits u n = (b : Int) := ⟨(fbits u n).toNat, by omega⟩
  obtain ⟨m, rfl⟩ : ∃ m : Nat, n = (m : Int) := ⟨n.toNat, by omega⟩
  obtain ⟨k, rfl⟩ : ∃ k : Nat, need = (k : Int) := ⟨need.toNat, by omega⟩
  have hbl : b < 2 ^ m := by
    have : p2 (m : Int) = ((2 ^ m : Nat) : Int) := by unfold p2; rw [Int.toNat_natCast]
    omega
  have hbits : ∀ p : Nat, p < m → (u (p : Int) = 0 ↔ b / 2 ^ p % 2 = 1) := by
    intro p hp
    have q := fb_bit u hn.1 (c := (p : Int)) (by omega) (by omega)
    rw [hb] at q
    have e2 : p2 (p : Int) = ((2 ^ p : Nat) : Int) := by unfold p2; rw [Int.toNat_natCast]
    rw [e2] at q
    have e3 : (b : Int) / ((2 ^ p : Nat) : Int) % 2 = ((b / 2 ^ p % 2 : Nat) : Int) := by rw [Int.natCast_emod, Int.natCast_ediv]; rfl
    rw [e3] at q
    by_cases z : u (p : Int) = 0
    · rw [if_pos z] at q; exact ⟨fun _ => by omega, fun _ => z⟩
    · rw [if_neg z] at q; exact ⟨fun y => absurd y z, fun y => by omega⟩
  have h1 : grI u (k : Int) (m : Int) = (((gbN b k m).1 : Int), ((gbN b k m).2 : Int)) := by
    unfold grI
    rw [Int.toNat_natCast]
    exact gr_gb hbits m (Nat.le_refl _)
  have h2 : gbN b k 6 = gbN b k m := by
    have := gb_stop (need := k) hbl (6 - m)
    rw [show m + (6 - m) = 6 by omega] at this
    exact this
  unfold qMend qMendX
  rw [h1, hb, show (0 : Int) = ((0 : Nat) : Int) from rfl, md_mdB b k (by omega) 64 0 rfl, md_gb b (by omega) k (by omega), h2]
  by_cases q : (gbN b k m).2 = 0
  · have hle : (gbN b k 6).1 < 64 := (by decide +kernel : ∀ b : Nat, b < 64 → ∀ k : Nat, k < 13 → (gbN b k 6).1 < 64) b (by omega) k (by omega)
    rw [h2] at hle
    rw [if_pos q, if_neg (by omega), if_neg (by show ¬ ((0 : Nat) : Int) < ((gbN b k m).2 : Int); omega)]
  · rw [if_neg q, if_pos rfl, if_pos (by show ((0 : Nat) : Int) < ((gbN b k m).2 : Int); omega)]
theorem dX6_mend_0 : decode cX6_mend 0 = .ok (.aload_n 0, 1) := by decide +kernel
theorem dX6_mend_1 : decode cX6_mend 1 = .ok (.iconst 0, 1) := by decide +kernel
theorem dX6_mend_2 : decode cX6_mend 2 = .ok (.putfield 91, 3) := by decide +kernel
theorem dX6_mend_5 : decode cX6_mend 5 = .ok (.aload_n 0, 1) := by decide +kernel
theorem dX6_mend_6 : decode cX6_mend 6 = .ok (.invokevirtual 261, 3) := by decide +kernel
theorem dX6_mend_9 : decode cX6_mend 9 = .ok (.istore_n 1, 1) := by decide +kernel
theorem dX6_mend_10 : decode cX6_mend 10 = .ok (.aload_n 0, 1) := by decide +kernel
theorem dX6_mend_11 : decode cX6_mend 11 = .ok (.invokevirtual 241, 3) := by decide +kernel
theorem dX6_mend_14 : decode cX6_mend 14 = .ok (.invokestatic 244, 3) := by decide +kernel
theorem dX6_mend_17 : decode cX6_mend 17 = .ok (.istore_n 2, 1) := by decide +kernel
theorem dX6_mend_18 : decode cX6_mend 18 = .ok (.iconst 0, 1) := by decide +kernel
theorem dX6_mend_19 : decode cX6_mend 19 = .ok (.istore_n 3, 1) := by decide +kernel
theorem dX6_mend_20 : decode cX6_mend 20 = .ok (.iload_n 3, 1) := by decide +kernel
theorem dX6_mend_21 : decode cX6_mend 21 = .ok (.bipush 64, 2) := by decide +kernel
theorem dX6_mend_23 : decode cX6_mend 23 = .ok (.if_icmp .ge 27, 3) := by decide +kernel
theorem dX6_mend_26 : decode cX6_mend 26 = .ok (.iload_n 3, 1) := by decide +kernel
theorem dX6_mend_27 : decode cX6_mend 27 = .ok (.iload_n 1, 1) := by decide +kernel
theorem dX6_mend_28 : decode cX6_mend 28 = .ok (.iconst (-1), 1) := by decide +kernel
theorem dX6_mend_29 : decode cX6_mend 29 = .ok (.ixor, 1) := by decide +kernel
theorem dX6_mend_30 : decode cX6_mend 30 = .ok (.iand, 1) := by decide +kernel
theorem dX6_mend_31 : decode cX6_mend 31 = .ok (.ifCond .ne 13, 3) := by decide +kernel
theorem dX6_mend_34 : decode cX6_mend 34 = .ok (.iload_n 3, 1) := by decide +kernel
theorem dX6_mend_35 : decode cX6_mend 35 = .ok (.invokestatic 244, 3) := by decide +kernel
theorem dX6_mend_38 : decode cX6_mend 38 = .ok (.iload_n 2, 1) := by decide +kernel
theorem dX6_mend_39 : decode cX6_mend 39 = .ok (.if_icmp .ne 5, 3) := by decide +kernel
theorem dX6_mend_42 : decode cX6_mend 42 = .ok (.iload_n 3, 1) := by decide +kernel
theorem dX6_mend_43 : decode cX6_mend 43 = .ok (.ireturn, 1) := by decide +kernel
theorem dX6_mend_44 : decode cX6_mend 44 = .ok (.iinc 3 1, 3) := by decide +kernel
theorem dX6_mend_47 : decode cX6_mend 47 = .ok (.goto (-27), 3) := by decide +kernel
theorem dX6_mend_50 : decode cX6_mend 50 = .ok (.bipush (-9), 2) := by decide +kernel
theorem dX6_mend_52 : decode cX6_mend 52 = .ok (.ireturn, 1) := by decide +kernel
set_option maxRecDepth 100000 in
set_option maxHeartbeats 4000000 in
theorem k_X6_mend (κ : Kp) (ma : Nat → Nat) (M : MS)  (ok : okC (cl M)) (okr : okR M) : mI κ yX6_mend cX6_mend 4 .int 3 [.ref (ma 100)] (mw κ ma M) (qM κ ma M (qMend (fbits (M 9) (M 5 0)) (pcnt (hbits (cl M))))) := by
  refine mI_of (by decide) (Nat.le_of_ble_eq_true rfl) (fun E F K => ?_)
  refine g_lv (lv' := [(0, .ref (ma 100))]) rfl ?_
  refine g_aload_n F 0 dX6_mend_0 rfl ?_
  refine g_iconst F dX6_mend_1 ?_
  refine gm_put_10 F dX6_mend_2 ?_
  have hn := okr.1
  have hfb := p2_6 (u := M 9) hn.1 hn.2
  have hpc := pcnt_bd (hbits (cl M))
  have hpl := pcnt_le (hbits_in (cl M)).1 (hbits_in (cl M)).2
  refine g_aload_n F 0 dX6_mend_5 rfl ?_
  refine g_callI F (stk := [.ref (ma 100)]) (st := []) (k_X6_freeBits κ ma (mA M 10 (fun _ => 0)) okr) cal_X6_freeBits lm_X6_261 0 rfl rfl rfl rfl (by decide) rfl (Nat.le_of_ble_eq_true rfl) dX6_mend_6 (fun r6 ws6 _ hr6 => ?_)
  obtain ⟨rfl, rfl⟩ := hr6
  refine g_top (y := iI (fbits (M 9) ((M 5 0)))) rfl ?_
  refine g_istore_n F (lv' := [(1, .int (iI (fbits (M 9) ((M 5 0))))), (0, .ref (ma 100))]) 1 dX6_mend_9 rfl (by decide) rfl ?_
  refine g_aload_n F 1 dX6_mend_10 rfl ?_
  refine g_callI F (stk := [.ref (ma 100)]) (st := []) (k_X6_holeBits κ ma (mA M 10 (fun _ => 0)) ok) cal_X6_holeBits lm_X6_241 0 rfl rfl rfl rfl (by decide) rfl (Nat.le_of_ble_eq_true rfl) dX6_mend_11 (fun r11 ws11 _ hr11 => ?_)
  obtain ⟨rfl, rfl⟩ := hr11
  refine g_top (y := iI (hbits (cl M))) rfl ?_
  refine g_callSI F (stk := [.int (iI (hbits (cl M)))]) (st := []) (k_X6_onesOf κ (mw κ ma (mA M 10 (fun _ => 0))) (hbits (cl M)) (hbits_in _)) cal_X6_onesOf lm_X6_244 rfl (by decide) rfl (Nat.le_of_ble_eq_true rfl) dX6_mend_14 (fun r14 ws14 _ hr14 => ?_)
  obtain ⟨rfl, rfl⟩ := hr14
  refine g_istore_n F (lv' := [(2, .int (iI (pcnt (hbits (cl M))))), (1, .int (iI (fbits (M 9) ((M 5 0))))), (0, .ref (ma 100))]) 2 dX6_mend_17 rfl (by decide) rfl ?_
  refine g_iconst F dX6_mend_18 ?_
  refine g_istore_n F (lv' := [(3, .int (iI 0)), (2, .int (iI (pcnt (hbits (cl M))))), (1, .int (iI (fbits (M 9) ((M 5 0))))), (0, .ref (ma 100))]) 3 dX6_mend_19 rfl (by decide) rfl ?_
  have L20 : ∀ (mz20 : Nat) (s : Int), (64 - s).toNat = mz20 → (0 ≤ s ∧ s ≤ 64) → (mdN (fbits (M 9) (M 5 0)) (pcnt (hbits (cl M))) (64 - s).toNat s = mdN (fbits (M 9) (M 5 0)) (pcnt (hbits (cl M))) 64 0) → G E (mw κ ma (mA M 10 (fun _ => 0))) [(3, .int (iI s)), (2, .int (iI (pcnt (hbits (cl M))))), (1, .int (iI (fbits (M 9) ((M 5 0))))), (0, .ref (ma 100))] 20 [] := by
    intro mz20
    induction mz20 using Nat.strongRecOn with
    | _ mz20 ih20 =>
    intro s hmz20 hs hR
    refine g_iload_n F 0 dX6_mend_20 rfl ?_
    refine g_bipush F dX6_mend_21 (by decide +kernel) ?_
    refine g_icmp_ge F 50 (by omega) dX6_mend_23 (by decide) (fun c23 => ?_) (fun c23 => ?_)
    · skip
      refine g_bipush F dX6_mend_50 (by decide +kernel) ?_
      have hq : -9 = qMend (fbits (M 9) (M 5 0)) (pcnt (hbits (cl M))) := by unfold qMend; rw [← hR, show s = 64 by omega]; rfl
      exact K mw_same ⟨_, rfl, iIc hq, ⟨rfl, rfl, rfl, rfl, rfl, rfl, rfl, rfl, rfl, rfl, rfl, rfl, rfl, rfl, rfl, rfl, rfl, rfl⟩, (by rw [← hq]; show M 11 = _; exact (rfa_n (by omega)).symm)⟩ rfl dX6_mend_52
    · skip
      have hps := pcnt_bd s
      have hpsl := pcnt_le (z := s) (by omega) (by omega)
      refine g_iload_n F 0 dX6_mend_26 rfl ?_
      refine g_iload_n F 2 dX6_mend_27 rfl ?_
      refine g_iconst F dX6_mend_28 ?_
      refine g_ixor F dX6_mend_29 ?_
      refine g_iand F dX6_mend_30 ?_
      refine g_top (y := iI (dm s (fbits (M 9) (M 5 0)))) (iI_self _).symm ?_
      refine g_if_ne F 44 (dm_in _ _) dX6_mend_31 (by decide) (fun c31 => ?_) (fun c31 => ?_)
      · skip
        refine g_iinc F (lv' := [(3, .int (iI (s + 1))), (2, .int (iI (pcnt (hbits (cl M))))), (1, .int (iI (fbits (M 9) ((M 5 0))))), (0, .ref (ma 100))]) 0 dX6_mend_44 rfl (by decide) rfl ?_
        refine g_goto F 20 dX6_mend_47 (by decide) ?_
        refine g_sub F (lv' := [(3, .int (iI (s + 1))), (2, .int (iI (pcnt (hbits (cl M))))), (1, .int (iI (fbits (M 9) ((M 5 0))))), (0, .ref (ma 100))]) [0, 1, 2, 3] rfl ?_
        exact ih20 _ (by omega) (s + 1) rfl (by omega) (by rw [← hR, md_s _ _ (s := s) (by omega), if_neg (by omega)])
      · skip
        refine g_iload_n F 0 dX6_mend_34 rfl ?_
        refine g_callSI F (stk := [.int (iI s)]) (st := []) (k_X6_onesOf κ (mw κ ma (mA M 10 (fun _ => 0))) s (by omega)) cal_X6_onesOf lm_X6_244 rfl (by decide) rfl (Nat.le_of_ble_eq_true rfl) dX6_mend_35 (fun r35 ws35 _ hr35 => ?_)
        obtain ⟨rfl, rfl⟩ := hr35
        refine g_iload_n F 1 dX6_mend_38 rfl ?_
        refine g_icmp_ne F 44 (by omega) dX6_mend_39 (by decide) (fun c39 => ?_) (fun c39 => ?_)
        · skip
          refine g_iinc F (lv' := [(3, .int (iI (s + 1))), (2, .int (iI (pcnt (hbits (cl M))))), (1, .int (iI (fbits (M 9) ((M 5 0))))), (0, .ref (ma 100))]) 0 dX6_mend_44 rfl (by decide) rfl ?_
          refine g_goto F 20 dX6_mend_47 (by decide) ?_
          refine g_sub F (lv' := [(3, .int (iI (s + 1))), (2, .int (iI (pcnt (hbits (cl M))))), (1, .int (iI (fbits (M 9) ((M 5 0))))), (0, .ref (ma 100))]) [0, 1, 2, 3] rfl ?_
          exact ih20 _ (by omega) (s + 1) rfl (by omega) (by rw [← hR, md_s _ _ (s := s) (by omega), if_neg (by omega)])
        · skip
          refine g_iload_n F 0 dX6_mend_42 rfl ?_
          have hq : s = qMend (fbits (M 9) (M 5 0)) (pcnt (hbits (cl M))) := by unfold qMend; rw [← hR, md_s _ _ (s := s) (by omega), if_pos (by omega)]
          exact K mw_same ⟨_, rfl, iIc hq, ⟨rfl, rfl, rfl, rfl, rfl, rfl, rfl, rfl, rfl, rfl, rfl, rfl, rfl, rfl, rfl, rfl, rfl, rfl⟩, (by rw [← hq]; show M 11 = _; exact (rfa_n (by omega)).symm)⟩ rfl dX6_mend_43
  refine g_sub F (lv' := [(3, .int (iI 0)), (2, .int (iI (pcnt (hbits (cl M))))), (1, .int (iI (fbits (M 9) ((M 5 0))))), (0, .ref (ma 100))]) [0, 1, 2, 3] rfl ?_
  exact L20 _ 0 rfl (by omega) rfl
theorem dX5_mend_0 : decode cX5_mend 0 = .ok (.aload_n 0, 1) := by decide +kernel
theorem dX5_mend_1 : decode cX5_mend 1 = .ok (.getfield 10, 3) := by decide +kernel
theorem dX5_mend_4 : decode cX5_mend 4 = .ok (.invokevirtual 203, 3) := by decide +kernel
theorem dX5_mend_7 : decode cX5_mend 7 = .ok (.invokestatic 206, 3) := by decide +kernel
theorem dX5_mend_10 : decode cX5_mend 10 = .ok (.istore_n 1, 1) := by decide +kernel
theorem dX5_mend_11 : decode cX5_mend 11 = .ok (.iconst 0, 1) := by decide +kernel
theorem dX5_mend_12 : decode cX5_mend 12 = .ok (.istore_n 2, 1) := by decide +kernel
theorem dX5_mend_13 : decode cX5_mend 13 = .ok (.iconst 0, 1) := by decide +kernel
theorem dX5_mend_14 : decode cX5_mend 14 = .ok (.istore_n 3, 1) := by decide +kernel
theorem dX5_mend_15 : decode cX5_mend 15 = .ok (.iload_n 3, 1) := by decide +kernel
theorem dX5_mend_16 : decode cX5_mend 16 = .ok (.aload_n 0, 1) := by decide +kernel
theorem dX5_mend_17 : decode cX5_mend 17 = .ok (.getfield 19, 3) := by decide +kernel
theorem dX5_mend_20 : decode cX5_mend 20 = .ok (.getfield 144, 3) := by decide +kernel
theorem dX5_mend_23 : decode cX5_mend 23 = .ok (.if_icmp .ge 36, 3) := by decide +kernel
theorem dX5_mend_26 : decode cX5_mend 26 = .ok (.iload_n 1, 1) := by decide +kernel
theorem dX5_mend_27 : decode cX5_mend 27 = .ok (.ifCond .le 32, 3) := by decide +kernel
theorem dX5_mend_30 : decode cX5_mend 30 = .ok (.aload_n 0, 1) := by decide +kernel
theorem dX5_mend_31 : decode cX5_mend 31 = .ok (.getfield 19, 3) := by decide +kernel
theorem dX5_mend_34 : decode cX5_mend 34 = .ok (.iload_n 3, 1) := by decide +kernel
theorem dX5_mend_35 : decode cX5_mend 35 = .ok (.invokevirtual 150, 3) := by decide +kernel
theorem dX5_mend_38 : decode cX5_mend 38 = .ok (.ifCond .ne 6, 3) := by decide +kernel
theorem dX5_mend_41 : decode cX5_mend 41 = .ok (.goto 12, 3) := by decide +kernel
theorem dX5_mend_44 : decode cX5_mend 44 = .ok (.iload_n 2, 1) := by decide +kernel
theorem dX5_mend_45 : decode cX5_mend 45 = .ok (.iconst 1, 1) := by decide +kernel
theorem dX5_mend_46 : decode cX5_mend 46 = .ok (.iload_n 3, 1) := by decide +kernel
theorem dX5_mend_47 : decode cX5_mend 47 = .ok (.ishl, 1) := by decide +kernel
theorem dX5_mend_48 : decode cX5_mend 48 = .ok (.ior, 1) := by decide +kernel
theorem dX5_mend_49 : decode cX5_mend 49 = .ok (.istore_n 2, 1) := by decide +kernel
theorem dX5_mend_50 : decode cX5_mend 50 = .ok (.iinc 1 (-1), 3) := by decide +kernel
theorem dX5_mend_53 : decode cX5_mend 53 = .ok (.iinc 3 1, 3) := by decide +kernel
theorem dX5_mend_56 : decode cX5_mend 56 = .ok (.goto (-41), 3) := by decide +kernel
theorem dX5_mend_59 : decode cX5_mend 59 = .ok (.iload_n 1, 1) := by decide +kernel
theorem dX5_mend_60 : decode cX5_mend 60 = .ok (.ifCond .le 8, 3) := by decide +kernel
theorem dX5_mend_63 : decode cX5_mend 63 = .ok (.bipush (-9), 2) := by decide +kernel
theorem dX5_mend_65 : decode cX5_mend 65 = .ok (.goto 4, 3) := by decide +kernel
theorem dX5_mend_68 : decode cX5_mend 68 = .ok (.iload_n 2, 1) := by decide +kernel
theorem dX5_mend_69 : decode cX5_mend 69 = .ok (.ireturn, 1) := by decide +kernel
set_option maxRecDepth 100000 in
set_option maxHeartbeats 4000000 in
theorem k_X5_mend (κ : Kp) (xa : Nat → Nat → Nat) (X : XS)  (ok : okC (cl (X 0))) (okr : okRl (X 12)) : mI κ yX5_mend cX5_mend 4 .int 3 [.ref (xa 18 100)] (xw κ xa X) (qX κ xa X (qMendX (uR (X 12)) (X 12 3 0) (pcnt (hbits (cl (X 0)))))) := by
  refine mI_of (by decide) (Nat.le_of_ble_eq_true rfl) (fun E F K => ?_)
  refine g_lv (lv' := [(0, .ref (xa 18 100))]) rfl ?_
  have hn := okr.1
  have hpc := pcnt_bd (hbits (cl (X 0)))
  have hpl := pcnt_le (hbits_in (cl (X 0))).1 (hbits_in (cl (X 0))).2
  refine g_aload_n F 0 dX5_mend_0 rfl ?_
  refine g18_get_0 F  lf_X5_10 dX5_mend_1 ?_
  refine g_callNI F (stk := [.ref (xa 0 100)]) (st := []) (k_X0_holeBits κ xa X 0 (by decide) ok) cal_X0_holeBits nm_X5_203 0 rfl rfl rfl rfl (by decide) rfl (Nat.le_of_ble_eq_true rfl) dX5_mend_4 (fun r4 ws4 _ hr4 => ?_)
  obtain ⟨rfl, rfl⟩ := hr4
  refine g_callSI F (stk := [.int (iI (hbits (cl (X 0))))]) (st := []) (k_J6_bitCount_0f7a4 κ (xw κ xa X) (hbits (cl (X 0))) (hbits_in _)) cal_J6_bitCount_0f7a4 lm_X5_206 rfl (by decide) rfl (Nat.le_of_ble_eq_true rfl) dX5_mend_7 (fun r7 ws7 _ hr7 => ?_)
  obtain ⟨rfl, rfl⟩ := hr7
  refine g_istore_n F (lv' := [(1, .int (iI (pcnt (hbits (cl (X 0)))))), (0, .ref (xa 18 100))]) 1 dX5_mend_10 rfl (by decide) rfl ?_
  refine g_iconst F dX5_mend_11 ?_
  refine g_istore_n F (lv' := [(2, .int (iI 0)), (1, .int (iI (pcnt (hbits (cl (X 0)))))), (0, .ref (xa 18 100))]) 2 dX5_mend_12 rfl (by decide) rfl ?_
  refine g_iconst F dX5_mend_13 ?_
  refine g_istore_n F (lv' := [(3, .int (iI 0)), (2, .int (iI 0)), (1, .int (iI (pcnt (hbits (cl (X 0)))))), (0, .ref (xa 18 100))]) 3 dX5_mend_14 rfl (by decide) rfl ?_
  have L15 : ∀ (mz15 : Nat) (p : Int) (s : Int) (l : Int), (X 12 3 0 - p).toNat = mz15 → (0 ≤ p ∧ p ≤ X 12 3 0) → (grI (uR (X 12)) (pcnt (hbits (cl (X 0)))) p = (s, l)) → (0 ≤ l ∧ l ≤ 12) → (0 ≤ s ∧ s < p2 p) → G E (xw κ xa X) [(3, .int (iI p)), (2, .int (iI s)), (1, .int (iI l)), (0, .ref (xa 18 100))] 15 [] := by
    intro mz15
    induction mz15 using Nat.strongRecOn with
    | _ mz15 ih15 =>
    intro p s l hmz15 hp hg hl hs
    refine g_iload_n F 0 dX5_mend_15 rfl ?_
    refine g_aload_n F 3 dX5_mend_16 rfl ?_
    refine g18_get_1 F  lf_X5_19 dX5_mend_17 ?_
    refine gr_getN_3 F (o := 0) (by decide) nf_X5_144 dX5_mend_20 ?_
    refine g_top (y := iI ((X 12) 3 0)) rfl ?_
    refine g_icmp_ge F 59 (by omega) dX5_mend_23 (by decide) (fun c23 => ?_) (fun c23 => ?_)
    · skip
      refine g_iload_n F 2 dX5_mend_59 rfl ?_
      refine g_if_le F 68 (by omega) dX5_mend_60 (by decide) (fun c60 => ?_) (fun c60 => ?_)
      · skip
        refine g_iload_n F 1 dX5_mend_68 rfl ?_
        have e : grI (uR (X 12)) (pcnt (hbits (cl (X 0)))) (X 12 3 0) = (s, l) := by first | (rw [← show p = X 12 3 0 by omega]; exact hg) | exact gr_stop hg hp.1 (by omega) hp.2
        have hq : s = qMendX (uR (X 12)) (X 12 3 0) (pcnt (hbits (cl (X 0)))) := by unfold qMendX; rw [e]; first | rw [if_pos (by omega)] | rw [if_neg (by omega)]
        exact K xw_same ⟨_, rfl, iIc hq, sX_0, (by rw [← hq]; exact (rfa_n (by omega)).symm)⟩ rfl dX5_mend_69
      · skip
        refine g_bipush F dX5_mend_63 (by decide +kernel) ?_
        refine g_goto F 69 dX5_mend_65 (by decide) ?_
        have e : grI (uR (X 12)) (pcnt (hbits (cl (X 0)))) (X 12 3 0) = (s, l) := by first | (rw [← show p = X 12 3 0 by omega]; exact hg) | exact gr_stop hg hp.1 (by omega) hp.2
        have hq : -9 = qMendX (uR (X 12)) (X 12 3 0) (pcnt (hbits (cl (X 0)))) := by unfold qMendX; rw [e]; first | rw [if_pos (by omega)] | rw [if_neg (by omega)]
        exact K xw_same ⟨_, rfl, iIc hq, sX_0, (by rw [← hq]; exact (rfa_n (by omega)).symm)⟩ rfl dX5_mend_69
    · skip
      refine g_iload_n F 2 dX5_mend_26 rfl ?_
      refine g_if_le F 59 (by omega) dX5_mend_27 (by decide) (fun c27 => ?_) (fun c27 => ?_)
      · skip
        refine g_iload_n F 2 dX5_mend_59 rfl ?_
        refine g_if_le F 68 (by omega) dX5_mend_60 (by decide) (fun c60 => ?_) (fun c60 => ?_)
        · skip
          refine g_iload_n F 1 dX5_mend_68 rfl ?_
          have e : grI (uR (X 12)) (pcnt (hbits (cl (X 0)))) (X 12 3 0) = (s, l) := by first | (rw [← show p = X 12 3 0 by omega]; exact hg) | exact gr_stop hg hp.1 (by omega) hp.2
          have hq : s = qMendX (uR (X 12)) (X 12 3 0) (pcnt (hbits (cl (X 0)))) := by unfold qMendX; rw [e]; first | rw [if_pos (by omega)] | rw [if_neg (by omega)]
          exact K xw_same ⟨_, rfl, iIc hq, sX_0, (by rw [← hq]; exact (rfa_n (by omega)).symm)⟩ rfl dX5_mend_69
        · skip
          refine g_bipush F dX5_mend_63 (by decide +kernel) ?_
          refine g_goto F 69 dX5_mend_65 (by decide) ?_
          have e : grI (uR (X 12)) (pcnt (hbits (cl (X 0)))) (X 12 3 0) = (s, l) := by first | (rw [← show p = X 12 3 0 by omega]; exact hg) | exact gr_stop hg hp.1 (by omega) hp.2
          have hq : -9 = qMendX (uR (X 12)) (X 12 3 0) (pcnt (hbits (cl (X 0)))) := by unfold qMendX; rw [e]; first | rw [if_pos (by omega)] | rw [if_neg (by omega)]
          exact K xw_same ⟨_, rfl, iIc hq, sX_0, (by rw [← hq]; exact (rfa_n (by omega)).symm)⟩ rfl dX5_mend_69
      · skip
        have hu : uR (X 12) p = X 12 4 0 / p2 p % 2 := rfl
        refine g_aload_n F 3 dX5_mend_30 rfl ?_
        refine g18_get_1 F  lf_X5_19 dX5_mend_31 ?_
        refine g_iload_n F 0 dX5_mend_34 rfl ?_
        refine g_callNI F (stk := [.int (iI p), .ref (xa 12 100)]) (st := []) (k_X2_isFree κ xa X 0 (by decide) p (show In32 p ∧ (0 ≤ ((X 12) 3 0) ∧ ((X 12) 3 0) ≤ 6) ∧ 0 ≤ ((X 12) 4 0) ∧ ((X 12) 4 0) < 64 from by omega)) cal_X2_isFree nm_X5_150 60 rfl rfl rfl rfl (by decide) rfl (Nat.le_of_ble_eq_true rfl) dX5_mend_35 (fun r35 ws35 _ hr35 => ?_)
        obtain ⟨rfl, rfl⟩ := hr35
        refine g_if_ne F 44 (b2i_in _) dX5_mend_38 (by decide) (fun c38 => ?_) (fun c38 => ?_)
        · skip
          have c38 : (0 ≤ p ∧ p < (X 12) 3 0) ∧ (X 12) 4 0 / p2 p % 2 = 0 := b2i_t c38
          have hp2 := p2_pos p
          refine g_iload_n F 1 dX5_mend_44 rfl ?_
          refine g_iconst F dX5_mend_45 ?_
          refine g_iload_n F 0 dX5_mend_46 rfl ?_
          refine g_ishl F dX5_mend_47 ?_
          refine g_top (y := iI (p2 p)) (iI_shl1 (by omega) (by omega)) ?_
          refine g_ior F dX5_mend_48 ?_
          refine g_top (y := iI (s + p2 p)) (by rw [iI_bor (by omega) (by omega), bor_p2 (by omega) (by omega)]) ?_
          refine g_istore_n F (lv' := [(2, .int (iI (s + p2 p))), (3, .int (iI p)), (1, .int (iI l)), (0, .ref (xa 18 100))]) 2 dX5_mend_49 rfl (by decide) rfl ?_
          refine g_iinc F (lv' := [(1, .int (iI (l + (-1)))), (2, .int (iI (s + p2 p))), (3, .int (iI p)), (0, .ref (xa 18 100))]) 2 dX5_mend_50 rfl (by decide) rfl ?_
          refine g_iinc F (lv' := [(3, .int (iI (p + 1))), (1, .int (iI (l + (-1)))), (2, .int (iI (s + p2 p))), (0, .ref (xa 18 100))]) 2 dX5_mend_53 rfl (by decide) rfl ?_
          refine g_goto F 15 dX5_mend_56 (by decide) ?_
          refine g_sub F (lv' := [(3, .int (iI (p + 1))), (2, .int (iI (s + p2 p))), (1, .int (iI (l + (-1)))), (0, .ref (xa 18 100))]) [0, 2, 1, 3] rfl ?_
          exact ih15 _ (by omega) (p + 1) (s + p2 p) (l + (-1)) rfl (by omega) (by first | exact gr_t hg hp.1 (by omega) (by omega) | exact gr_f hg hp.1 (by omega)) (by omega) (by have h2 := p2_s hp.1; have h3 := p2_pos p; omega)
        · skip
          have c38 : ¬ ((0 ≤ p ∧ p < (X 12) 3 0) ∧ (X 12) 4 0 / p2 p % 2 = 0) := b2i_f c38
          refine g_goto F 53 dX5_mend_41 (by decide) ?_
          refine g_iinc F (lv' := [(3, .int (iI (p + 1))), (2, .int (iI s)), (1, .int (iI l)), (0, .ref (xa 18 100))]) 0 dX5_mend_53 rfl (by decide) rfl ?_
          refine g_goto F 15 dX5_mend_56 (by decide) ?_
          refine g_sub F (lv' := [(3, .int (iI (p + 1))), (2, .int (iI s)), (1, .int (iI l)), (0, .ref (xa 18 100))]) [0, 1, 2, 3] rfl ?_
          exact ih15 _ (by omega) (p + 1) s l rfl (by omega) (by first | exact gr_t hg hp.1 (by omega) (by omega) | exact gr_f hg hp.1 (by omega)) (by omega) (by have h2 := p2_s hp.1; have h3 := p2_pos p; omega)
  refine g_sub F (lv' := [(3, .int (iI 0)), (2, .int (iI 0)), (1, .int (iI (pcnt (hbits (cl (X 0)))))), (0, .ref (xa 18 100))]) [0, 1, 2, 3] rfl ?_
  exact L15 _ 0 0 (pcnt (hbits (cl (X 0)))) rfl (by omega) rfl (by omega) (by decide)
