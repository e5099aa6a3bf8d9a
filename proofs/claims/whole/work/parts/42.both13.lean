/-- powers, odds, wear by the years told by bits -/
def pwN (t : Int) : Nat → Int
  | 0 => 1
  | k + 1 => pwN t k * t
def pwI (t k : Int) : Int := pwN t k.toNat
theorem pw_s (t : Int) {k : Int} (h : 0 ≤ k) : pwI t (k + 1) = pwI t k * t := by
  unfold pwI
  rw [show (k + 1).toNat = k.toNat + 1 by omega]
  rfl
theorem pwN_bd {t : Int} (h0 : 1 ≤ t) (h1 : t ≤ 20) : ∀ k : Nat, 1 ≤ pwN t k ∧ pwN t k ≤ ((20 ^ k : Nat) : Int)
  | 0 => ⟨by show (1 : Int) ≤ 1; decide, by show (1 : Int) ≤ ((20 ^ 0 : Nat) : Int); decide⟩
  | k + 1 => by
    have ih := pwN_bd h0 h1 k
    constructor
    · have q := Int.mul_le_mul ih.1 h0 (by decide) (by omega)
      show 1 ≤ pwN t k * t
      omega
    · have q := Int.mul_le_mul ih.2 h1 (by omega) (by omega)
      show pwN t k * t ≤ _
      rw [Nat.pow_succ, Int.natCast_mul]
      exact q
theorem pow20 {k : Nat} (h : k ≤ 8) : ((20 ^ k : Nat) : Int) ≤ 25600000000 := by
  have := Nat.pow_le_pow_right (n := 20) (by decide) h
  have e : 20 ^ 8 = 25600000000 := by decide
  omega
theorem pwI_bd {t k : Int} (h0 : 1 ≤ t) (h1 : t ≤ 20) (hk : k ≤ 8) : 1 ≤ pwI t k ∧ pwI t k ≤ 25600000000 := by
  have a := pwN_bd h0 h1 k.toNat
  have b := pow20 (k := k.toNat) (by omega)
  unfold pwI
  omega
def odN (b t m : Int) : Nat → Int
  | 0 => 1
  | k + 1 => odN b t m k * (if m / p2 (k : Int) % 2 = b then t - 1 else 1)
def odI (b t m k : Int) : Int := odN b t m k.toNat
theorem od_s (b t m : Int) {k : Int} (h : 0 ≤ k) : odI b t m (k + 1) = odI b t m k * (if m / p2 k % 2 = b then t - 1 else 1) := by
  unfold odI
  rw [show (k + 1).toNat = k.toNat + 1 by omega]
  show odN b t m k.toNat * (if m / p2 ((k.toNat : Nat) : Int) % 2 = b then t - 1 else 1) = _
  rw [Int.toNat_of_nonneg h]
theorem odN_bd {b t m : Int} (h0 : 2 ≤ t) (h1 : t ≤ 20) : ∀ k : Nat, 1 ≤ odN b t m k ∧ odN b t m k ≤ ((20 ^ k : Nat) : Int)
  | 0 => ⟨by show (1 : Int) ≤ 1; decide, by show (1 : Int) ≤ ((20 ^ 0 : Nat) : Int); decide⟩
  | k + 1 => by
    have ih := odN_bd (b := b) (m := m) h0 h1 k
    have hx : 1 ≤ (if m / p2 (k : Int) % 2 = b then t - 1 else 1) ∧ (if m / p2 (k : Int) % 2 = b then t - 1 else 1) ≤ 20 := by split <;> omega
    constructor
    · have q := Int.mul_le_mul ih.1 hx.1 (by decide) (by omega)
      show 1 ≤ odN b t m k * _
      omega
    · have q := Int.mul_le_mul ih.2 hx.2 (by omega) (by omega)
      show odN b t m k * _ ≤ _
      rw [Nat.pow_succ, Int.natCast_mul]
      exact q
theorem odI_bd {b t m k : Int} (h0 : 2 ≤ t) (h1 : t ≤ 20) (hk : k ≤ 8) : 1 ≤ odI b t m k ∧ odI b t m k ≤ 25600000000 := by
  have a := odN_bd (b := b) (m := m) h0 h1 k.toNat
  have c := pow20 (k := k.toNat) (by omega)
  unfold odI
  omega
def wrC (C : Cl) (c k : Int) : Int := wearing (goI k C) (yr (goI k C) + 1) c
theorem wrC_bd {C : Cl} (ok : okC C) {c : Int} (k : Int) (h0 : 0 ≤ c) (h1 : c < 12) : 0 ≤ wrC C c k ∧ wrC C c k ≤ 100 := wearing_bd (goI_ok ok k).A h0 h1
def wsf1 (b : Int) (C : Cl) (c m : Int) : Int → Int := fun k => if m / p2 k % 2 = b then wrC C c k else 0
def wsm (b : Int) (C : Cl) (c m k : Int) : Int := we C c + sumI (wsf1 b C c m) k
theorem wsm_s (b : Int) (C : Cl) (c m : Int) {k : Int} (h : 0 ≤ k) : wsm b C c m (k + 1) = wsm b C c m k + (if m / p2 k % 2 = b then wrC C c k else 0) := by
  unfold wsm
  rw [sumI_s _ h]
  have : wsf1 b C c m k = (if m / p2 k % 2 = b then wrC C c k else 0) := rfl
  omega
theorem wsm_bd {C : Cl} (ok : okC C) (b : Int) {c : Int} (m : Int) {k : Int} (h0 : 0 ≤ c) (h1 : c < 12) (k0 : 0 ≤ k) (k1 : k ≤ 8) : 0 ≤ wsm b C c m k ∧ wsm b C c m k ≤ 899 := by
  have q := sumI_bd (f := wsf1 b C c m) (lo := 0) (hi := 100) k0 (fun j _ _ => by
    have := wrC_bd ok j h0 h1
    unfold wsf1
    split <;> omega)
  have := ok.w c h0 h1
  unfold wsm
  omega
def chT (b : Int) (C : Cl) (c n t : Int) : Int → Int := fun m => if hold C c ≤ wsm b C c m n then odI b t m n else 0
def chS (b : Int) (C : Cl) (c n t : Int) : Int := sumI (chT b C c n t) (p2 n)
theorem chT_bd (b : Int) (C : Cl) (c : Int) {n t : Int} (m : Int) (h0 : 2 ≤ t) (h1 : t ≤ 20) (hn : n ≤ 8) : 0 ≤ chT b C c n t m ∧ chT b C c n t m ≤ 25600000000 := by
  have := odI_bd (b := b) (m := m) h0 h1 hn
  unfold chT
  split <;> omega
def sChance (c n t part : Int) : Int := if ¬ (0 ≤ c ∧ c < 12) then -1 else if n < 0 ∨ t < 2 then -4 else if 8 < n ∨ 20 < t then -6 else if ¬ (0 ≤ part ∧ part ≤ 1) then -2 else 0
def qChance (b : Int) (C : Cl) (c n t part : Int) : Int := if ¬ (0 ≤ c ∧ c < 12) then 4000000000000000001 else if n < 0 ∨ t < 2 then 4000000000000000004 else if 8 < n ∨ 20 < t then 4000000000000000006 else if ¬ (0 ≤ part ∧ part ≤ 1) then 4000000000000000002 else prt (chS b C c n t) (pwI t n) part
/-- the years not worn: the other bits -/
theorem sumI_rev (f : Int → Int) : ∀ k : Nat, sumI f (k : Int) = sumI (fun j => f ((k : Int) - 1 - j)) (k : Int)
  | 0 => rfl
  | k + 1 => by
    have e : ((k + 1 : Nat) : Int) = (k : Int) + 1 := by omega
    have key : ∀ (g : Int → Int) (q : Nat), sumI g ((q : Int) + 1) = g 0 + sumI (fun j => g (j + 1)) (q : Int) := by
      intro g q
      induction q with
      | zero => show 0 + g 0 = g 0 + 0; omega
      | succ q ih =>
        have e2 : ((q + 1 : Nat) : Int) = (q : Int) + 1 := by omega
        rw [e2, sumI_s g (show 0 ≤ (q : Int) + 1 by omega), sumI_s (fun j => g (j + 1)) (show 0 ≤ (q : Int) by omega), ih]
        omega
    rw [e, sumI_s f (by omega), sumI_rev f k, key]
    have h0 : (fun j => f ((k : Int) + 1 - 1 - j)) 0 = f (k : Int) := by show f ((k : Int) + 1 - 1 - 0) = _; congr 1; omega
    have h1 : sumI (fun j => (fun j => f ((k : Int) + 1 - 1 - j)) (j + 1)) (k : Int) = sumI (fun j => f ((k : Int) - 1 - j)) (k : Int) := sumI_eq (fun j _ _ => by show f ((k : Int) + 1 - 1 - (j + 1)) = f ((k : Int) - 1 - j); congr 1; omega)
    rw [h1]
    have h2 : (fun j => f ((k : Int) + 1 - 1 - j)) 0 = f ((k : Int) + 1 - 1 - 0) := rfl
    rw [h2] at h0
    show _ = f ((k : Int) + 1 - 1 - 0) + _
    omega
theorem bit_flip {n k : Nat} {m : Nat} (hm : m < 2 ^ n) (hk : k < n) : (2 ^ n - 1 - m) / 2 ^ k % 2 = 1 - m / 2 ^ k % 2 := by
  have h := Nat.testBit_two_pow_sub_succ hm k
  have e1 : (2 ^ n - (m + 1)).testBit k = decide ((2 ^ n - (m + 1)) / 2 ^ k % 2 = 1) := Nat.testBit_eq_decide_div_mod_eq
  have e2 : m.testBit k = decide (m / 2 ^ k % 2 = 1) := Nat.testBit_eq_decide_div_mod_eq
  rw [e1, e2, decide_eq_true hk, Bool.true_and] at h
  rw [show 2 ^ n - 1 - m = 2 ^ n - (m + 1) by omega]
  by_cases q : m / 2 ^ k % 2 = 1
  · rw [decide_eq_true q] at h
    have := of_decide_eq_false h
    omega
  · rw [decide_eq_false q] at h
    have := of_decide_eq_true h
    omega
theorem bitI_flip {n k m : Int} (n0 : 0 ≤ n) (k0 : 0 ≤ k) (hk : k < n) (m0 : 0 ≤ m) (hm : m < p2 n) : (p2 n - 1 - m) / p2 k % 2 = 1 - m / p2 k % 2 := by
  obtain ⟨a, rfl⟩ : ∃ a : Nat, n = (a : Int) := ⟨n.toNat, by omega⟩
  obtain ⟨b, rfl⟩ : ∃ b : Nat, k = (b : Int) := ⟨k.toNat, by omega⟩
  obtain ⟨c, rfl⟩ : ∃ c : Nat, m = (c : Int) := ⟨m.toNat, by omega⟩
  have ea : p2 (a : Int) = ((2 ^ a : Nat) : Int) := by unfold p2; rw [Int.toNat_natCast]
  have eb : p2 (b : Int) = ((2 ^ b : Nat) : Int) := by unfold p2; rw [Int.toNat_natCast]
  rw [ea] at hm ⊢
  rw [eb]
  have hc : c < 2 ^ a := by omega
  have h := bit_flip hc (k := b) (by omega)
  have e1 : ((2 ^ a : Nat) : Int) - 1 - (c : Int) = ((2 ^ a - 1 - c : Nat) : Int) := by omega
  rw [e1]
  have e2 : ((2 ^ a - 1 - c : Nat) : Int) / ((2 ^ b : Nat) : Int) % 2 = (((2 ^ a - 1 - c) / 2 ^ b % 2 : Nat) : Int) := by rw [Int.natCast_emod, Int.natCast_ediv]; rfl
  have e3 : (c : Int) / ((2 ^ b : Nat) : Int) % 2 = ((c / 2 ^ b % 2 : Nat) : Int) := by rw [Int.natCast_emod, Int.natCast_ediv]; rfl
  rw [e2, e3, h]
  omega
theorem od_flip {n m : Int} (t : Int) (n0 : 0 ≤ n) (m0 : 0 ≤ m) (hm : m < p2 n) : ∀ k : Nat, (k : Int) ≤ n → odN 0 t (p2 n - 1 - m) k = odN 1 t m k
  | 0, _ => rfl
  | k + 1, h => by
    have ih := od_flip t n0 m0 hm k (by omega)
    have hb := bitI_flip n0 (k := (k : Int)) (by omega) (by omega) m0 hm
    show odN 0 t (p2 n - 1 - m) k * (if (p2 n - 1 - m) / p2 (k : Int) % 2 = 0 then t - 1 else 1) = odN 1 t m k * (if m / p2 (k : Int) % 2 = 1 then t - 1 else 1)
    rw [ih, hb]
    by_cases q : m / p2 (k : Int) % 2 = 1
    · rw [if_pos q, if_pos (by omega)]
    · rw [if_neg q, if_neg (by omega)]
theorem ch_flip (C : Cl) (c t : Int) {n : Int} (n0 : 0 ≤ n) : chS 0 C c n t = chS 1 C c n t := by
  unfold chS
  have hp := p2_pos n
  have e : ((p2 n).toNat : Int) = p2 n := by omega
  have h := sumI_rev (chT 0 C c n t) (p2 n).toNat
  rw [e] at h
  rw [h]
  refine sumI_eq (fun m a b => ?_)
  have ho : odI 0 t (p2 n - 1 - m) n = odI 1 t m n := od_flip t n0 a b n.toNat (by omega)
  have hw : wsm 0 C c (p2 n - 1 - m) n = wsm 1 C c m n := by
    unfold wsm
    congr 1
    refine sumI_eq (fun k x y => ?_)
    have hb := bitI_flip n0 x y a b
    unfold wsf1
    rw [hb]
    by_cases q : m / p2 k % 2 = 1
    · rw [if_pos q, if_pos (by omega)]
    · rw [if_neg q, if_neg (by omega)]
  show (if hold C c ≤ wsm 0 C c (p2 n - 1 - m) n then odI 0 t (p2 n - 1 - m) n else 0) = if hold C c ≤ wsm 1 C c m n then odI 1 t m n else 0
  rw [ho, hw]
theorem chance_eq (C : Cl) (c n t part : Int) : qChance 0 C c n t part = qChance 1 C c n t part := by
  unfold qChance
  by_cases h : n < 0 ∨ t < 2
  · rw [if_pos h, if_pos h]
  · rw [if_neg h, if_neg h, ch_flip C c t (show 0 ≤ n by omega)]
theorem p2_8 {n : Int} (h : n ≤ 8) : 1 ≤ p2 n ∧ p2 n ≤ 256 := by
  have a := p2_pos n
  have b := p2_le (n := 8) h
  have e : p2 8 = 256 := by decide
  omega
theorem dX6_chance_0 : decode cX6_chance 0 = .ok (.aload_n 0, 1) := by decide +kernel
theorem dX6_chance_1 : decode cX6_chance 1 = .ok (.iconst 0, 1) := by decide +kernel
theorem dX6_chance_2 : decode cX6_chance 2 = .ok (.putfield 91, 3) := by decide +kernel
theorem dX6_chance_5 : decode cX6_chance 5 = .ok (.iconst 0, 1) := by decide +kernel
theorem dX6_chance_6 : decode cX6_chance 6 = .ok (.istore 5, 2) := by decide +kernel
theorem dX6_chance_8 : decode cX6_chance 8 = .ok (.iload_n 1, 1) := by decide +kernel
theorem dX6_chance_9 : decode cX6_chance 9 = .ok (.invokestatic 222, 3) := by decide +kernel
theorem dX6_chance_12 : decode cX6_chance 12 = .ok (.ifCond .ne 9, 3) := by decide +kernel
theorem dX6_chance_15 : decode cX6_chance 15 = .ok (.iconst (-1), 1) := by decide +kernel
theorem dX6_chance_16 : decode cX6_chance 16 = .ok (.istore 5, 2) := by decide +kernel
theorem dX6_chance_18 : decode cX6_chance 18 = .ok (.goto 35, 3) := by decide +kernel
theorem dX6_chance_21 : decode cX6_chance 21 = .ok (.iload_n 2, 1) := by decide +kernel
theorem dX6_chance_22 : decode cX6_chance 22 = .ok (.ifCond .lt 8, 3) := by decide +kernel
theorem dX6_chance_25 : decode cX6_chance 25 = .ok (.iload_n 3, 1) := by decide +kernel
theorem dX6_chance_26 : decode cX6_chance 26 = .ok (.iconst 2, 1) := by decide +kernel
theorem dX6_chance_27 : decode cX6_chance 27 = .ok (.if_icmp .ge 10, 3) := by decide +kernel
theorem dX6_chance_30 : decode cX6_chance 30 = .ok (.bipush (-4), 2) := by decide +kernel
theorem dX6_chance_32 : decode cX6_chance 32 = .ok (.istore 5, 2) := by decide +kernel
theorem dX6_chance_34 : decode cX6_chance 34 = .ok (.goto 19, 3) := by decide +kernel
theorem dX6_chance_37 : decode cX6_chance 37 = .ok (.iload_n 2, 1) := by decide +kernel
theorem dX6_chance_38 : decode cX6_chance 38 = .ok (.bipush 8, 2) := by decide +kernel
theorem dX6_chance_40 : decode cX6_chance 40 = .ok (.if_icmp .gt 9, 3) := by decide +kernel
theorem dX6_chance_43 : decode cX6_chance 43 = .ok (.iload_n 3, 1) := by decide +kernel
theorem dX6_chance_44 : decode cX6_chance 44 = .ok (.bipush 20, 2) := by decide +kernel
theorem dX6_chance_46 : decode cX6_chance 46 = .ok (.if_icmp .le 7, 3) := by decide +kernel
theorem dX6_chance_49 : decode cX6_chance 49 = .ok (.bipush (-6), 2) := by decide +kernel
theorem dX6_chance_51 : decode cX6_chance 51 = .ok (.istore 5, 2) := by decide +kernel
theorem dX6_chance_53 : decode cX6_chance 53 = .ok (.iload 5, 2) := by decide +kernel
theorem dX6_chance_55 : decode cX6_chance 55 = .ok (.iload 4, 2) := by decide +kernel
theorem dX6_chance_57 : decode cX6_chance 57 = .ok (.iconst 1, 1) := by decide +kernel
theorem dX6_chance_58 : decode cX6_chance 58 = .ok (.invokestatic 247, 3) := by decide +kernel
theorem dX6_chance_61 : decode cX6_chance 61 = .ok (.istore 5, 2) := by decide +kernel
theorem dX6_chance_63 : decode cX6_chance 63 = .ok (.iload 5, 2) := by decide +kernel
theorem dX6_chance_65 : decode cX6_chance 65 = .ok (.ifCond .ge 15, 3) := by decide +kernel
theorem dX6_chance_68 : decode cX6_chance 68 = .ok (.ldc2_w 315, 3) := by decide +kernel
theorem dX6_chance_71 : decode cX6_chance 71 = .ok (.aload_n 0, 1) := by decide +kernel
theorem dX6_chance_72 : decode cX6_chance 72 = .ok (.iload 5, 2) := by decide +kernel
theorem dX6_chance_74 : decode cX6_chance 74 = .ok (.invokevirtual 138, 3) := by decide +kernel
theorem dX6_chance_77 : decode cX6_chance 77 = .ok (.i2l, 1) := by decide +kernel
theorem dX6_chance_78 : decode cX6_chance 78 = .ok (.lsub, 1) := by decide +kernel
theorem dX6_chance_79 : decode cX6_chance 79 = .ok (.lreturn, 1) := by decide +kernel
theorem dX6_chance_80 : decode cX6_chance 80 = .ok (.lconst 0, 1) := by decide +kernel
theorem dX6_chance_81 : decode cX6_chance 81 = .ok (.lstore 6, 2) := by decide +kernel
theorem dX6_chance_83 : decode cX6_chance 83 = .ok (.lconst 1, 1) := by decide +kernel
theorem dX6_chance_84 : decode cX6_chance 84 = .ok (.lstore 8, 2) := by decide +kernel
theorem dX6_chance_86 : decode cX6_chance 86 = .ok (.aload_n 0, 1) := by decide +kernel
theorem dX6_chance_87 : decode cX6_chance 87 = .ok (.invokevirtual 191, 3) := by decide +kernel
theorem dX6_chance_90 : decode cX6_chance 90 = .ok (.iconst 0, 1) := by decide +kernel
theorem dX6_chance_91 : decode cX6_chance 91 = .ok (.istore 10, 2) := by decide +kernel
theorem dX6_chance_93 : decode cX6_chance 93 = .ok (.iload 10, 2) := by decide +kernel
theorem dX6_chance_95 : decode cX6_chance 95 = .ok (.iload_n 2, 1) := by decide +kernel
theorem dX6_chance_96 : decode cX6_chance 96 = .ok (.if_icmp .ge 38, 3) := by decide +kernel
theorem dX6_chance_99 : decode cX6_chance 99 = .ok (.lload 8, 2) := by decide +kernel
theorem dX6_chance_101 : decode cX6_chance 101 = .ok (.iload_n 3, 1) := by decide +kernel
theorem dX6_chance_102 : decode cX6_chance 102 = .ok (.i2l, 1) := by decide +kernel
theorem dX6_chance_103 : decode cX6_chance 103 = .ok (.lmul, 1) := by decide +kernel
theorem dX6_chance_104 : decode cX6_chance 104 = .ok (.lstore 8, 2) := by decide +kernel
theorem dX6_chance_106 : decode cX6_chance 106 = .ok (.aload_n 0, 1) := by decide +kernel
theorem dX6_chance_107 : decode cX6_chance 107 = .ok (.getfield 85, 3) := by decide +kernel
theorem dX6_chance_110 : decode cX6_chance 110 = .ok (.iload 10, 2) := by decide +kernel
theorem dX6_chance_112 : decode cX6_chance 112 = .ok (.aload_n 0, 1) := by decide +kernel
theorem dX6_chance_113 : decode cX6_chance 113 = .ok (.iload_n 1, 1) := by decide +kernel
theorem dX6_chance_114 : decode cX6_chance 114 = .ok (.aload_n 0, 1) := by decide +kernel
theorem dX6_chance_115 : decode cX6_chance 115 = .ok (.getfield 125, 3) := by decide +kernel
theorem dX6_chance_118 : decode cX6_chance 118 = .ok (.iconst 1, 1) := by decide +kernel
theorem dX6_chance_119 : decode cX6_chance 119 = .ok (.iadd, 1) := by decide +kernel
theorem dX6_chance_120 : decode cX6_chance 120 = .ok (.invokevirtual 128, 3) := by decide +kernel
theorem dX6_chance_123 : decode cX6_chance 123 = .ok (.iastore, 1) := by decide +kernel
theorem dX6_chance_124 : decode cX6_chance 124 = .ok (.aload_n 0, 1) := by decide +kernel
theorem dX6_chance_125 : decode cX6_chance 125 = .ok (.invokevirtual 131, 3) := by decide +kernel
theorem dX6_chance_128 : decode cX6_chance 128 = .ok (.iinc 10 1, 3) := by decide +kernel
theorem dX6_chance_131 : decode cX6_chance 131 = .ok (.goto (-38), 3) := by decide +kernel
theorem dX6_chance_134 : decode cX6_chance 134 = .ok (.aload_n 0, 1) := by decide +kernel
theorem dX6_chance_135 : decode cX6_chance 135 = .ok (.invokevirtual 197, 3) := by decide +kernel
theorem dX6_chance_138 : decode cX6_chance 138 = .ok (.iconst 0, 1) := by decide +kernel
theorem dX6_chance_139 : decode cX6_chance 139 = .ok (.istore 10, 2) := by decide +kernel
theorem dX6_chance_141 : decode cX6_chance 141 = .ok (.iload 10, 2) := by decide +kernel
theorem dX6_chance_143 : decode cX6_chance 143 = .ok (.iconst 1, 1) := by decide +kernel
theorem dX6_chance_144 : decode cX6_chance 144 = .ok (.iload_n 2, 1) := by decide +kernel
theorem dX6_chance_145 : decode cX6_chance 145 = .ok (.ishl, 1) := by decide +kernel
theorem dX6_chance_146 : decode cX6_chance 146 = .ok (.if_icmp .ge 110, 3) := by decide +kernel
theorem dX6_chance_149 : decode cX6_chance 149 = .ok (.lconst 1, 1) := by decide +kernel
theorem dX6_chance_150 : decode cX6_chance 150 = .ok (.lstore 11, 2) := by decide +kernel
theorem dX6_chance_152 : decode cX6_chance 152 = .ok (.aload_n 0, 1) := by decide +kernel
theorem dX6_chance_153 : decode cX6_chance 153 = .ok (.getfield 19, 3) := by decide +kernel
theorem dX6_chance_156 : decode cX6_chance 156 = .ok (.iload_n 1, 1) := by decide +kernel
theorem dX6_chance_157 : decode cX6_chance 157 = .ok (.iaload, 1) := by decide +kernel
theorem dX6_chance_158 : decode cX6_chance 158 = .ok (.istore 13, 2) := by decide +kernel
theorem dX6_chance_160 : decode cX6_chance 160 = .ok (.iconst 0, 1) := by decide +kernel
theorem dX6_chance_161 : decode cX6_chance 161 = .ok (.istore 14, 2) := by decide +kernel
theorem dX6_chance_163 : decode cX6_chance 163 = .ok (.iload 14, 2) := by decide +kernel
theorem dX6_chance_165 : decode cX6_chance 165 = .ok (.iload_n 2, 1) := by decide +kernel
theorem dX6_chance_166 : decode cX6_chance 166 = .ok (.if_icmp .ge 63, 3) := by decide +kernel
theorem dX6_chance_169 : decode cX6_chance 169 = .ok (.lload 11, 2) := by decide +kernel
theorem dX6_chance_171 : decode cX6_chance 171 = .ok (.iload 10, 2) := by decide +kernel
theorem dX6_chance_173 : decode cX6_chance 173 = .ok (.iload 14, 2) := by decide +kernel
theorem dX6_chance_175 : decode cX6_chance 175 = .ok (.invokestatic 317, 3) := by decide +kernel
theorem dX6_chance_178 : decode cX6_chance 178 = .ok (.ifCond .eq 7, 3) := by decide +kernel
theorem dX6_chance_181 : decode cX6_chance 181 = .ok (.lconst 1, 1) := by decide +kernel
theorem dX6_chance_182 : decode cX6_chance 182 = .ok (.goto 7, 3) := by decide +kernel
theorem dX6_chance_185 : decode cX6_chance 185 = .ok (.iload_n 3, 1) := by decide +kernel
theorem dX6_chance_186 : decode cX6_chance 186 = .ok (.iconst 1, 1) := by decide +kernel
theorem dX6_chance_187 : decode cX6_chance 187 = .ok (.isub, 1) := by decide +kernel
theorem dX6_chance_188 : decode cX6_chance 188 = .ok (.i2l, 1) := by decide +kernel
theorem dX6_chance_189 : decode cX6_chance 189 = .ok (.lmul, 1) := by decide +kernel
theorem dX6_chance_190 : decode cX6_chance 190 = .ok (.lstore 11, 2) := by decide +kernel
theorem dX6_chance_192 : decode cX6_chance 192 = .ok (.iload 13, 2) := by decide +kernel
theorem dX6_chance_194 : decode cX6_chance 194 = .ok (.iload 10, 2) := by decide +kernel
theorem dX6_chance_196 : decode cX6_chance 196 = .ok (.iload 14, 2) := by decide +kernel
theorem dX6_chance_198 : decode cX6_chance 198 = .ok (.invokestatic 317, 3) := by decide +kernel
theorem dX6_chance_201 : decode cX6_chance 201 = .ok (.ifCond .eq 7, 3) := by decide +kernel
theorem dX6_chance_204 : decode cX6_chance 204 = .ok (.iconst 0, 1) := by decide +kernel
theorem dX6_chance_205 : decode cX6_chance 205 = .ok (.goto 10, 3) := by decide +kernel
theorem dX6_chance_208 : decode cX6_chance 208 = .ok (.aload_n 0, 1) := by decide +kernel
theorem dX6_chance_209 : decode cX6_chance 209 = .ok (.getfield 85, 3) := by decide +kernel
theorem dX6_chance_212 : decode cX6_chance 212 = .ok (.iload 14, 2) := by decide +kernel
theorem dX6_chance_214 : decode cX6_chance 214 = .ok (.iaload, 1) := by decide +kernel
theorem dX6_chance_215 : decode cX6_chance 215 = .ok (.iadd, 1) := by decide +kernel
theorem dX6_chance_216 : decode cX6_chance 216 = .ok (.bipush 99, 2) := by decide +kernel
theorem dX6_chance_218 : decode cX6_chance 218 = .ok (.invokestatic 111, 3) := by decide +kernel
theorem dX6_chance_221 : decode cX6_chance 221 = .ok (.istore 13, 2) := by decide +kernel
theorem dX6_chance_223 : decode cX6_chance 223 = .ok (.iinc 14 1, 3) := by decide +kernel
theorem dX6_chance_226 : decode cX6_chance 226 = .ok (.goto (-63), 3) := by decide +kernel
theorem dX6_chance_229 : decode cX6_chance 229 = .ok (.lload 6, 2) := by decide +kernel
theorem dX6_chance_231 : decode cX6_chance 231 = .ok (.iload 13, 2) := by decide +kernel
theorem dX6_chance_233 : decode cX6_chance 233 = .ok (.aload_n 0, 1) := by decide +kernel
theorem dX6_chance_234 : decode cX6_chance 234 = .ok (.iload_n 1, 1) := by decide +kernel
theorem dX6_chance_235 : decode cX6_chance 235 = .ok (.invokevirtual 118, 3) := by decide +kernel
theorem dX6_chance_238 : decode cX6_chance 238 = .ok (.if_icmp .lt 8, 3) := by decide +kernel
theorem dX6_chance_241 : decode cX6_chance 241 = .ok (.lload 11, 2) := by decide +kernel
theorem dX6_chance_243 : decode cX6_chance 243 = .ok (.goto 4, 3) := by decide +kernel
theorem dX6_chance_246 : decode cX6_chance 246 = .ok (.lconst 0, 1) := by decide +kernel
theorem dX6_chance_247 : decode cX6_chance 247 = .ok (.ladd, 1) := by decide +kernel
theorem dX6_chance_248 : decode cX6_chance 248 = .ok (.lstore 6, 2) := by decide +kernel
theorem dX6_chance_250 : decode cX6_chance 250 = .ok (.iinc 10 1, 3) := by decide +kernel
theorem dX6_chance_253 : decode cX6_chance 253 = .ok (.goto (-112), 3) := by decide +kernel
theorem dX6_chance_256 : decode cX6_chance 256 = .ok (.lload 6, 2) := by decide +kernel
theorem dX6_chance_258 : decode cX6_chance 258 = .ok (.lload 8, 2) := by decide +kernel
theorem dX6_chance_260 : decode cX6_chance 260 = .ok (.iload 4, 2) := by decide +kernel
theorem dX6_chance_262 : decode cX6_chance 262 = .ok (.invokestatic 321, 3) := by decide +kernel
theorem dX6_chance_265 : decode cX6_chance 265 = .ok (.lreturn, 1) := by decide +kernel
set_option maxRecDepth 100000 in
set_option maxHeartbeats 4000000 in
theorem k_X6_chance (κ : Kp) (ma : Nat → Nat) (M : MS) (c : Int) (n : Int) (t : Int) (part : Int)  (ha_c : In32 c) (ha_n : In32 n) (ha_t : In32 t) (ha_part : In32 part) (ok : okC (cl M)) (hy : M 4 0 ≤ 999) : mL κ yX6_chance cX6_chance 15 4 [.ref (ma 100), .int (iI c), .int (iI n), .int (iI t), .int (iI part)] (mw κ ma M) (qML κ ma M (qChance 0 (cl M) c n t part) (sChance c n t part)) := by
  refine mL_of (by decide) (Nat.le_of_ble_eq_true rfl) (fun E F K => ?_)
  refine g_lv (lv' := [(0, .ref (ma 100)), (1, .int (iI c)), (2, .int (iI n)), (3, .int (iI t)), (4, .int (iI part))]) rfl ?_
  refine g_aload_n F 0 dX6_chance_0 rfl ?_
  refine g_iconst F dX6_chance_1 ?_
  refine gm_put_10 F dX6_chance_2 ?_
  refine g_iconst F dX6_chance_5 ?_
  refine g_istore F (lv' := [(5, .int (iI 0)), (0, .ref (ma 100)), (1, .int (iI c)), (2, .int (iI n)), (3, .int (iI t)), (4, .int (iI part))]) dX6_chance_6 (by decide) rfl ?_
  refine g_iload_n F 2 dX6_chance_8 rfl ?_
  refine g_callSI F (stk := [.int (iI c)]) (st := []) (k_X6_isCell κ (mw κ ma (mA M 10 (fun _ => 0))) c (by omega)) cal_X6_isCell lm_X6_222 rfl (by decide) rfl (Nat.le_of_ble_eq_true rfl) dX6_chance_9 (fun r9 ws9 _ hr9 => ?_)
  obtain ⟨rfl, rfl⟩ := hr9
  refine g_if_ne F 21 (b2i_in _) dX6_chance_12 (by decide) (fun c12 => ?_) (fun c12 => ?_)
  · skip
    have c12 : 0 ≤ c ∧ c < 12 := b2i_t c12
    refine g_iload_n F 3 dX6_chance_21 rfl ?_
    refine g_if_lt F 30 (by omega) dX6_chance_22 (by decide) (fun c22 => ?_) (fun c22 => ?_)
    · skip
      refine g_bipush F dX6_chance_30 (by decide +kernel) ?_
      refine g_istore F (lv' := [(5, .int (iI (-4))), (0, .ref (ma 100)), (1, .int (iI c)), (2, .int (iI n)), (3, .int (iI t)), (4, .int (iI part))]) dX6_chance_32 (by decide) rfl ?_
      refine g_goto F 53 dX6_chance_34 (by decide) ?_
      refine g_iload F 0 dX6_chance_53 rfl ?_
      refine g_iload F 5 dX6_chance_55 rfl ?_
      refine g_iconst F dX6_chance_57 ?_
      refine g_callSI F (stk := [.int (iI 1), .int (iI part), .int (iI (-4))]) (st := []) (k_X6_wrongBit κ (mw κ ma (mA M 10 (fun _ => 0))) (-4) part 1 (by omega)) cal_X6_wrongBit lm_X6_247 rfl (by decide) rfl (Nat.le_of_ble_eq_true rfl) dX6_chance_58 (fun r58 ws58 _ hr58 => ?_)
      obtain ⟨rfl, rfl⟩ := hr58
      have hwb58 := wb_spec (-4) part 1
      refine g_top (y := iI (-4)) (iIc (by omega)) ?_
      refine g_istore F (lv' := [(5, .int (iI (-4))), (0, .ref (ma 100)), (1, .int (iI c)), (2, .int (iI n)), (3, .int (iI t)), (4, .int (iI part))]) dX6_chance_61 (by decide) rfl ?_
      refine g_iload F 0 dX6_chance_63 rfl ?_
      refine g_if_ge F 80 (by omega) dX6_chance_65 (by decide) (fun c65 => ?_) (fun c65 => ?_)
      · skip
        exact absurd trivial (by omega)
      · skip
        refine g_ldc2 F (z := 4000000000000000000) ll_X6_315 (by decide +kernel) dX6_chance_68 ?_
        refine g_aload_n F 1 dX6_chance_71 rfl ?_
        refine g_iload F 0 dX6_chance_72 rfl ?_
        refine g_callI F (stk := [.int (iI (-4)), .ref (ma 100), .long (iL 4000000000000000000)]) (st := [.long (iL 4000000000000000000)]) (k_X6_refuse κ ma (mA M 10 (fun _ => 0)) (-4) (by omega)) cal_X6_refuse lm_X6_138 0 rfl rfl rfl rfl (by decide) rfl (Nat.le_of_ble_eq_true rfl) dX6_chance_74 (fun r74 ws74 _ hr74 => ?_)
        obtain ⟨rfl, rfl⟩ := hr74
        refine g_top (y := iI (-4)) rfl ?_
        refine g_ws (ws' := mw κ ma (mA (mA M 10 (fun _ => 0)) 11 (uI (M 11) (-(-4)) (M 11 (-(-4)) + 1)))) rfl ?_
        refine g_i2l F (by omega) dX6_chance_77 ?_
        refine g_lsub F dX6_chance_78 ?_
        have hq : 4000000000000000000 - (-4) = qChance 0 (cl M) c n t part := by unfold qChance; (repeat' split) <;> omega
        have hsr : sChance c n t part = (-4) := by unfold sChance; (repeat' split) <;> omega
        exact K mw_same ⟨_, rfl, congrArg iL hq, ⟨rfl, rfl, rfl, rfl, rfl, rfl, rfl, rfl, rfl, rfl, rfl, rfl, rfl, rfl, rfl, rfl, rfl, rfl⟩, (by rw [hsr]; exact (rfa_r (by omega)).symm)⟩ dX6_chance_79
    · skip
      refine g_iload_n F 4 dX6_chance_25 rfl ?_
      refine g_iconst F dX6_chance_26 ?_
      refine g_icmp_ge F 37 (by omega) dX6_chance_27 (by decide) (fun c27 => ?_) (fun c27 => ?_)
      · skip
        refine g_iload_n F 3 dX6_chance_37 rfl ?_
        refine g_bipush F dX6_chance_38 (by decide +kernel) ?_
        refine g_icmp_gt F 49 (by omega) dX6_chance_40 (by decide) (fun c40 => ?_) (fun c40 => ?_)
        · skip
          refine g_bipush F dX6_chance_49 (by decide +kernel) ?_
          refine g_istore F (lv' := [(5, .int (iI (-6))), (0, .ref (ma 100)), (1, .int (iI c)), (2, .int (iI n)), (3, .int (iI t)), (4, .int (iI part))]) dX6_chance_51 (by decide) rfl ?_
          refine g_iload F 0 dX6_chance_53 rfl ?_
          refine g_iload F 5 dX6_chance_55 rfl ?_
          refine g_iconst F dX6_chance_57 ?_
          refine g_callSI F (stk := [.int (iI 1), .int (iI part), .int (iI (-6))]) (st := []) (k_X6_wrongBit κ (mw κ ma (mA M 10 (fun _ => 0))) (-6) part 1 (by omega)) cal_X6_wrongBit lm_X6_247 rfl (by decide) rfl (Nat.le_of_ble_eq_true rfl) dX6_chance_58 (fun r58 ws58 _ hr58 => ?_)
          obtain ⟨rfl, rfl⟩ := hr58
          have hwb58 := wb_spec (-6) part 1
          refine g_top (y := iI (-6)) (iIc (by omega)) ?_
          refine g_istore F (lv' := [(5, .int (iI (-6))), (0, .ref (ma 100)), (1, .int (iI c)), (2, .int (iI n)), (3, .int (iI t)), (4, .int (iI part))]) dX6_chance_61 (by decide) rfl ?_
          refine g_iload F 0 dX6_chance_63 rfl ?_
          refine g_if_ge F 80 (by omega) dX6_chance_65 (by decide) (fun c65 => ?_) (fun c65 => ?_)
          · skip
            exact absurd trivial (by omega)
          · skip
            refine g_ldc2 F (z := 4000000000000000000) ll_X6_315 (by decide +kernel) dX6_chance_68 ?_
            refine g_aload_n F 1 dX6_chance_71 rfl ?_
            refine g_iload F 0 dX6_chance_72 rfl ?_
            refine g_callI F (stk := [.int (iI (-6)), .ref (ma 100), .long (iL 4000000000000000000)]) (st := [.long (iL 4000000000000000000)]) (k_X6_refuse κ ma (mA M 10 (fun _ => 0)) (-6) (by omega)) cal_X6_refuse lm_X6_138 0 rfl rfl rfl rfl (by decide) rfl (Nat.le_of_ble_eq_true rfl) dX6_chance_74 (fun r74 ws74 _ hr74 => ?_)
            obtain ⟨rfl, rfl⟩ := hr74
            refine g_top (y := iI (-6)) rfl ?_
            refine g_ws (ws' := mw κ ma (mA (mA M 10 (fun _ => 0)) 11 (uI (M 11) (-(-6)) (M 11 (-(-6)) + 1)))) rfl ?_
            refine g_i2l F (by omega) dX6_chance_77 ?_
            refine g_lsub F dX6_chance_78 ?_
            have hq : 4000000000000000000 - (-6) = qChance 0 (cl M) c n t part := by unfold qChance; (repeat' split) <;> omega
            have hsr : sChance c n t part = (-6) := by unfold sChance; (repeat' split) <;> omega
            exact K mw_same ⟨_, rfl, congrArg iL hq, ⟨rfl, rfl, rfl, rfl, rfl, rfl, rfl, rfl, rfl, rfl, rfl, rfl, rfl, rfl, rfl, rfl, rfl, rfl⟩, (by rw [hsr]; exact (rfa_r (by omega)).symm)⟩ dX6_chance_79
        · skip
          refine g_iload_n F 4 dX6_chance_43 rfl ?_
          refine g_bipush F dX6_chance_44 (by decide +kernel) ?_
          refine g_icmp_le F 53 (by omega) dX6_chance_46 (by decide) (fun c46 => ?_) (fun c46 => ?_)
          · skip
            refine g_iload F 0 dX6_chance_53 rfl ?_
            refine g_iload F 5 dX6_chance_55 rfl ?_
            refine g_iconst F dX6_chance_57 ?_
            refine g_callSI F (stk := [.int (iI 1), .int (iI part), .int (iI 0)]) (st := []) (k_X6_wrongBit κ (mw κ ma (mA M 10 (fun _ => 0))) 0 part 1 (by omega)) cal_X6_wrongBit lm_X6_247 rfl (by decide) rfl (Nat.le_of_ble_eq_true rfl) dX6_chance_58 (fun r58 ws58 _ hr58 => ?_)
            obtain ⟨rfl, rfl⟩ := hr58
            have hwb58 := wb_spec 0 part 1
            refine g_istore F (lv' := [(5, .int (iI (wbit 0 part 1))), (0, .ref (ma 100)), (1, .int (iI c)), (2, .int (iI n)), (3, .int (iI t)), (4, .int (iI part))]) dX6_chance_61 (by decide) rfl ?_
            refine g_iload F 0 dX6_chance_63 rfl ?_
            refine g_if_ge F 80 (by omega) dX6_chance_65 (by decide) (fun c65 => ?_) (fun c65 => ?_)
            · skip
              refine g_lconst F (z := 0) dX6_chance_80 rfl ?_
              refine g_lstore F (lv' := [(6, .long (iL 0)), (5, .int (iI (wbit 0 part 1))), (0, .ref (ma 100)), (1, .int (iI c)), (2, .int (iI n)), (3, .int (iI t)), (4, .int (iI part))]) dX6_chance_81 (by decide) rfl ?_
              refine g_lconst F (z := 1) dX6_chance_83 rfl ?_
              refine g_lstore F (lv' := [(8, .long (iL 1)), (6, .long (iL 0)), (5, .int (iI (wbit 0 part 1))), (0, .ref (ma 100)), (1, .int (iI c)), (2, .int (iI n)), (3, .int (iI t)), (4, .int (iI part))]) dX6_chance_84 (by decide) rfl ?_
              have hp8 := p2_8 (n := n) (by omega)
              refine g_aload_n F 3 dX6_chance_86 rfl ?_
              refine g_callV F (stk := [.ref (ma 100)]) (st := []) (k_X6_think κ ma (mA M 10 (fun _ => 0))) cal_X6_think lm_X6_191 0 rfl rfl rfl rfl (by decide) rfl (Nat.le_of_ble_eq_true rfl) dX6_chance_87 (fun ws87 _ hr87 => ?_)
              obtain rfl := hr87
              refine g_ws (ws' := mw κ ma (thk (mA M 10 (fun _ => 0)))) rfl ?_
              refine g_iconst F dX6_chance_90 ?_
              refine g_istore F (lv' := [(10, .int (iI 0)), (8, .long (iL 1)), (6, .long (iL 0)), (5, .int (iI (wbit 0 part 1))), (0, .ref (ma 100)), (1, .int (iI c)), (2, .int (iI n)), (3, .int (iI t)), (4, .int (iI part))]) dX6_chance_91 (by decide) rfl ?_
              have L93 : ∀ (mz93 : Nat) (k : Int) (q : Int) (f : Int → Int) (Gm : MS), (n - k).toNat = mz93 → (0 ≤ k ∧ k ≤ n) → (q = pwI t k) → (f = upTo (M 40) (fun k => wrC (cl M) c k) k) → G E (mw κ ma (mA (stC (tst M Gm) (goI k (cl M))) 40 f)) [(10, .int (iI k)), (8, .long (iL q)), (6, .long (iL 0)), (5, .int (iI (wbit 0 part 1))), (0, .ref (ma 100)), (1, .int (iI c)), (2, .int (iI n)), (3, .int (iI t)), (4, .int (iI part))] 93 [] := by
                intro mz93
                induction mz93 using Nat.strongRecOn with
                | _ mz93 ih93 =>
                intro k q f Gm hmz93 hk hq hf
                refine g_iload F 0 dX6_chance_93 rfl ?_
                refine g_iload_n F 6 dX6_chance_95 rfl ?_
                refine g_icmp_ge F 134 (by omega) dX6_chance_96 (by decide) (fun c96 => ?_) (fun c96 => ?_)
                · skip
                  refine g_aload_n F 4 dX6_chance_134 rfl ?_
                  refine g_callV F (stk := [.ref (ma 100)]) (st := []) (k_X6_again κ ma (mA (stC (tst M Gm) (goI k (cl M))) 40 f) M (fun _ _ _ => rfl)) cal_X6_again lm_X6_197 0 rfl rfl rfl rfl (by decide) rfl (Nat.le_of_ble_eq_true rfl) dX6_chance_135 (fun ws135 _ hr135 => ?_)
                  obtain rfl := hr135
                  have hfe : ∀ j : Int, 0 ≤ j → j < n → f j = wrC (cl M) c j := fun j a b => by rw [hf]; exact upTo_in a (by omega)
                  have hqb := pwI_bd (t := t) (k := n) (by omega) (by omega) (by omega)
                  have hqe : q = pwI t n := by rw [hq, show k = n by omega]
                  have hhb := hold_bd ok.A (c := c) (by omega) (by omega)
                  have hwb : 0 ≤ M 3 c ∧ M 3 c ≤ 99 := ok.w c (by omega) (by omega)
                  refine g_iconst F dX6_chance_138 ?_
                  refine g_istore F (lv' := [(10, .int (iI 0)), (8, .long (iL q)), (6, .long (iL 0)), (5, .int (iI (wbit 0 part 1))), (0, .ref (ma 100)), (1, .int (iI c)), (2, .int (iI n)), (3, .int (iI t)), (4, .int (iI part))]) dX6_chance_139 (by decide) rfl ?_
                  have L141 : ∀ (mz141 : Nat) (m : Int) (ab : Int), (p2 n - m).toNat = mz141 → (0 ≤ m ∧ m ≤ p2 n) → (ab = sumI (chT 0 (cl M) c n t) m) → (0 ≤ ab ∧ ab ≤ 25600000000 * m) → G E (mw κ ma (agn (mA (stC (tst M Gm) (goI k (cl M))) 40 f) M)) [(10, .int (iI m)), (8, .long (iL q)), (6, .long (iL ab)), (0, .ref (ma 100)), (1, .int (iI c)), (2, .int (iI n)), (3, .int (iI t)), (4, .int (iI part))] 141 [] := by
                    intro mz141
                    induction mz141 using Nat.strongRecOn with
                    | _ mz141 ih141 =>
                    intro m ab hmz141 hm hab habb
                    refine g_iload F 0 dX6_chance_141 rfl ?_
                    refine g_iconst F dX6_chance_143 ?_
                    refine g_iload_n F 5 dX6_chance_144 rfl ?_
                    refine g_ishl F dX6_chance_145 ?_
                    refine g_top (y := iI (p2 n)) (iI_shl1 (by omega) (by omega)) ?_
                    refine g_icmp_ge F 256 (by omega) dX6_chance_146 (by decide) (fun c146 => ?_) (fun c146 => ?_)
                    · skip
                      have hae : ab = chS 0 (cl M) c n t := by rw [hab, show m = p2 n by omega]; rfl
                      refine g_lload F 2 dX6_chance_256 rfl ?_
                      refine g_lload F 1 dX6_chance_258 rfl ?_
                      refine g_iload F 7 dX6_chance_260 rfl ?_
                      refine g_callSL F (stk := [.int (iI part), .long (iL q), .long (iL ab)]) (st := []) (k_X6_partOf κ (mw κ ma (agn (mA (stC (tst M Gm) (goI k (cl M))) 40 f) M)) ab q part (by omega)) cal_X6_partOf lm_X6_321 rfl (by decide) rfl (Nat.le_of_ble_eq_true rfl) dX6_chance_262 (fun r262 ws262 _ hr262 => ?_)
                      obtain ⟨rfl, rfl⟩ := hr262
                      have hq : prt ab q part = qChance 0 (cl M) c n t part := by unfold qChance; rw [if_neg (by omega), if_neg (by omega), if_neg (by omega), if_neg (by omega), hae, hqe]
                      have hsr : ¬ (-6 ≤ sChance c n t part ∧ sChance c n t part ≤ -1) := by unfold sChance; (repeat' split) <;> omega
                      exact K mw_same ⟨_, rfl, congrArg iL hq, ⟨rfl, rfl, rfl, rfl, rfl, rfl, rfl, rfl, rfl, rfl, rfl, rfl, rfl, rfl, rfl, rfl, rfl, rfl⟩, (by show M 11 = _; exact (rfa_n hsr).symm)⟩ dX6_chance_265
                    · skip
                      refine g_lconst F (z := 1) dX6_chance_149 rfl ?_
                      refine g_lstore F (lv' := [(11, .long (iL 1)), (10, .int (iI m)), (8, .long (iL q)), (6, .long (iL ab)), (0, .ref (ma 100)), (1, .int (iI c)), (2, .int (iI n)), (3, .int (iI t)), (4, .int (iI part))]) dX6_chance_150 (by decide) rfl ?_
                      refine g_aload_n F 4 dX6_chance_152 rfl ?_
                      refine gm_get_3 F dX6_chance_153 ?_
                      refine g_iload_n F 5 dX6_chance_156 rfl ?_
                      refine gm_ald_3 F (by omega) dX6_chance_157 ?_
                      refine g_top (y := iI (M 3 c)) rfl ?_
                      refine g_istore F (lv' := [(13, .int (iI (M 3 c))), (11, .long (iL 1)), (10, .int (iI m)), (8, .long (iL q)), (6, .long (iL ab)), (0, .ref (ma 100)), (1, .int (iI c)), (2, .int (iI n)), (3, .int (iI t)), (4, .int (iI part))]) dX6_chance_158 (by decide) rfl ?_
                      refine g_iconst F dX6_chance_160 ?_
                      refine g_istore F (lv' := [(14, .int (iI 0)), (13, .int (iI (M 3 c))), (11, .long (iL 1)), (10, .int (iI m)), (8, .long (iL q)), (6, .long (iL ab)), (0, .ref (ma 100)), (1, .int (iI c)), (2, .int (iI n)), (3, .int (iI t)), (4, .int (iI part))]) dX6_chance_161 (by decide) rfl ?_
                      have L163 : ∀ (mz163 : Nat) (j : Int) (od : Int) (w2 : Int), (n - j).toNat = mz163 → (0 ≤ j ∧ j ≤ n) → (od = odI 0 t m j) → (w2 = min 99 (wsm 0 (cl M) c m j)) → G E (mw κ ma (agn (mA (stC (tst M Gm) (goI k (cl M))) 40 f) M)) [(14, .int (iI j)), (13, .int (iI w2)), (11, .long (iL od)), (10, .int (iI m)), (8, .long (iL q)), (6, .long (iL ab)), (0, .ref (ma 100)), (1, .int (iI c)), (2, .int (iI n)), (3, .int (iI t)), (4, .int (iI part))] 163 [] := by
                        intro mz163
                        induction mz163 using Nat.strongRecOn with
                        | _ mz163 ih163 =>
                        intro j od w2 hmz163 hj hod hw
                        refine g_iload F 0 dX6_chance_163 rfl ?_
                        refine g_iload_n F 8 dX6_chance_165 rfl ?_
                        refine g_icmp_ge F 229 (by omega) dX6_chance_166 (by decide) (fun c166 => ?_) (fun c166 => ?_)
                        · skip
                          have hwm := wsm_bd ok 0 (c := c) m (k := j) (by omega) (by omega) hj.1 (by omega)
                          have hjn : j = n := by omega
                          have hct : chT 0 (cl M) c n t m = if hold (cl M) c ≤ wsm 0 (cl M) c m j then od else 0 := by rw [hod, hjn]; rfl
                          refine g_lload F 5 dX6_chance_229 rfl ?_
                          refine g_iload F 1 dX6_chance_231 rfl ?_
                          refine g_aload_n F 6 dX6_chance_233 rfl ?_
                          refine g_iload_n F 7 dX6_chance_234 rfl ?_
                          refine g_callI F (stk := [.int (iI c), .ref (ma 100), .int (iI w2), .long (iL ab)]) (st := [.int (iI w2), .long (iL ab)]) (k_X6_holdsOf κ ma (agn (mA (stC (tst M Gm) (goI k (cl M))) 40 f) M) c (by omega) ok.A) cal_X6_holdsOf lm_X6_118 0 rfl rfl rfl rfl (by decide) rfl (Nat.le_of_ble_eq_true rfl) dX6_chance_235 (fun r235 ws235 _ hr235 => ?_)
                          obtain ⟨rfl, rfl⟩ := hr235
                          refine g_top (y := iI (hold (cl M) c)) rfl ?_
                          refine g_icmp_lt F 246 (by omega) dX6_chance_238 (by decide) (fun c238 => ?_) (fun c238 => ?_)
                          · skip
                            refine g_lconst F (z := 0) dX6_chance_246 rfl ?_
                            refine g_ladd F dX6_chance_247 ?_
                            refine g_lstore F (lv' := [(6, .long (iL (ab + 0))), (14, .int (iI j)), (13, .int (iI w2)), (11, .long (iL od)), (10, .int (iI m)), (8, .long (iL q)), (0, .ref (ma 100)), (1, .int (iI c)), (2, .int (iI n)), (3, .int (iI t)), (4, .int (iI part))]) dX6_chance_248 (by decide) rfl ?_
                            refine g_iinc F (lv' := [(10, .int (iI (m + 1))), (6, .long (iL (ab + 0))), (14, .int (iI j)), (13, .int (iI w2)), (11, .long (iL od)), (8, .long (iL q)), (0, .ref (ma 100)), (1, .int (iI c)), (2, .int (iI n)), (3, .int (iI t)), (4, .int (iI part))]) 4 dX6_chance_250 rfl (by decide) rfl ?_
                            refine g_goto F 141 dX6_chance_253 (by decide) ?_
                            refine g_sub F (lv' := [(10, .int (iI (m + 1))), (8, .long (iL q)), (6, .long (iL (ab + 0))), (0, .ref (ma 100)), (1, .int (iI c)), (2, .int (iI n)), (3, .int (iI t)), (4, .int (iI part))]) [0, 5, 1, 6, 7, 8, 9, 10] rfl ?_
                            exact ih141 _ (by omega) (m + 1) (ab + 0) rfl (by omega) (by rw [sumI_s _ hm.1, ← hab, hct]; first | (exfalso; omega) | rw [if_pos (by omega)] | rw [if_neg (by omega)]) (by have hb := chT_bd 0 (cl M) c (n := n) (t := t) m (by omega) (by omega) (by omega); rw [hct] at hb; first | (exfalso; omega) | (rw [if_pos (by omega)] at hb; omega) | (rw [if_neg (by omega)] at hb; omega))
                          · skip
                            refine g_lload F 2 dX6_chance_241 rfl ?_
                            refine g_goto F 247 dX6_chance_243 (by decide) ?_
                            refine g_ladd F dX6_chance_247 ?_
                            refine g_lstore F (lv' := [(6, .long (iL (ab + od))), (14, .int (iI j)), (13, .int (iI w2)), (11, .long (iL od)), (10, .int (iI m)), (8, .long (iL q)), (0, .ref (ma 100)), (1, .int (iI c)), (2, .int (iI n)), (3, .int (iI t)), (4, .int (iI part))]) dX6_chance_248 (by decide) rfl ?_
                            refine g_iinc F (lv' := [(10, .int (iI (m + 1))), (6, .long (iL (ab + od))), (14, .int (iI j)), (13, .int (iI w2)), (11, .long (iL od)), (8, .long (iL q)), (0, .ref (ma 100)), (1, .int (iI c)), (2, .int (iI n)), (3, .int (iI t)), (4, .int (iI part))]) 4 dX6_chance_250 rfl (by decide) rfl ?_
                            refine g_goto F 141 dX6_chance_253 (by decide) ?_
                            refine g_sub F (lv' := [(10, .int (iI (m + 1))), (8, .long (iL q)), (6, .long (iL (ab + od))), (0, .ref (ma 100)), (1, .int (iI c)), (2, .int (iI n)), (3, .int (iI t)), (4, .int (iI part))]) [0, 5, 1, 6, 7, 8, 9, 10] rfl ?_
                            exact ih141 _ (by omega) (m + 1) (ab + od) rfl (by omega) (by rw [sumI_s _ hm.1, ← hab, hct]; first | (exfalso; omega) | rw [if_pos (by omega)] | rw [if_neg (by omega)]) (by have hb := chT_bd 0 (cl M) c (n := n) (t := t) m (by omega) (by omega) (by omega); rw [hct] at hb; first | (exfalso; omega) | (rw [if_pos (by omega)] at hb; omega) | (rw [if_neg (by omega)] at hb; omega))
                        · skip
                          have hwm := wsm_bd ok 0 (c := c) m (k := j) (by omega) (by omega) hj.1 (by omega)
                          have hwr := wrC_bd ok (c := c) j (by omega) (by omega)
                          have hfj := hfe j hj.1 (by omega)
                          have hmd : m / p2 j % 2 = 0 ∨ m / p2 j % 2 = 1 := by omega
                          refine g_lload F 2 dX6_chance_169 rfl ?_
                          refine g_iload F 3 dX6_chance_171 rfl ?_
                          refine g_iload F 0 dX6_chance_173 rfl ?_
                          refine g_callSI F (stk := [.int (iI j), .int (iI m), .long (iL od)]) (st := [.long (iL od)]) (k_X6_hasBit κ (mw κ ma (agn (mA (stC (tst M Gm) (goI k (cl M))) 40 f) M)) m j (by omega)) cal_X6_hasBit lm_X6_317 rfl (by decide) rfl (Nat.le_of_ble_eq_true rfl) dX6_chance_175 (fun r175 ws175 _ hr175 => ?_)
                          obtain ⟨rfl, rfl⟩ := hr175
                          refine g_if_eq F 185 (b2i_in _) dX6_chance_178 (by decide) (fun c178 => ?_) (fun c178 => ?_)
                          · skip
                            have c178 : ¬ (m / p2 j % 2 = 1) := b2i_f c178
                            refine g_iload_n F 9 dX6_chance_185 rfl ?_
                            refine g_iconst F dX6_chance_186 ?_
                            refine g_isub F dX6_chance_187 ?_
                            refine g_i2l F (by omega) dX6_chance_188 ?_
                            refine g_lmul F dX6_chance_189 ?_
                            refine g_lstore F (lv' := [(11, .long (iL (od * (t - 1)))), (14, .int (iI j)), (13, .int (iI w2)), (10, .int (iI m)), (8, .long (iL q)), (6, .long (iL ab)), (0, .ref (ma 100)), (1, .int (iI c)), (2, .int (iI n)), (3, .int (iI t)), (4, .int (iI part))]) dX6_chance_190 (by decide) rfl ?_
                            refine g_iload F 2 dX6_chance_192 rfl ?_
                            refine g_iload F 3 dX6_chance_194 rfl ?_
                            refine g_iload F 1 dX6_chance_196 rfl ?_
                            refine g_callSI F (stk := [.int (iI j), .int (iI m), .int (iI w2)]) (st := [.int (iI w2)]) (k_X6_hasBit κ (mw κ ma (agn (mA (stC (tst M Gm) (goI k (cl M))) 40 f) M)) m j (by omega)) cal_X6_hasBit lm_X6_317 rfl (by decide) rfl (Nat.le_of_ble_eq_true rfl) dX6_chance_198 (fun r198 ws198 _ hr198 => ?_)
                            obtain ⟨rfl, rfl⟩ := hr198
                            refine g_if_eq F 208 (b2i_in _) dX6_chance_201 (by decide) (fun c201 => ?_) (fun c201 => ?_)
                            · skip
                              have c201 : ¬ (m / p2 j % 2 = 1) := b2i_f c201
                              refine g_aload_n F 6 dX6_chance_208 rfl ?_
                              refine gm_get_40 F dX6_chance_209 ?_
                              refine g_iload F 1 dX6_chance_212 rfl ?_
                              refine gm_ald_40 F (by omega) dX6_chance_214 ?_
                              refine g_top (y := iI (f j)) rfl ?_
                              refine g_iadd F dX6_chance_215 ?_
                              refine g_bipush F dX6_chance_216 (by decide +kernel) ?_
                              refine g_callSI F (stk := [.int (iI 99), .int (iI (w2 + (f j)))]) (st := []) (k_X6_held κ (mw κ ma (agn (mA (stC (tst M Gm) (goI k (cl M))) 40 f) M)) (w2 + (f j)) 99 (by omega)) cal_X6_held lm_X6_111 rfl (by decide) rfl (Nat.le_of_ble_eq_true rfl) dX6_chance_218 (fun r218 ws218 _ hr218 => ?_)
                              obtain ⟨rfl, rfl⟩ := hr218
                              refine g_istore F (lv' := [(13, .int (iI (held (w2 + (f j)) 99))), (11, .long (iL (od * (t - 1)))), (14, .int (iI j)), (10, .int (iI m)), (8, .long (iL q)), (6, .long (iL ab)), (0, .ref (ma 100)), (1, .int (iI c)), (2, .int (iI n)), (3, .int (iI t)), (4, .int (iI part))]) dX6_chance_221 (by decide) rfl ?_
                              refine g_iinc F (lv' := [(14, .int (iI (j + 1))), (13, .int (iI (held (w2 + (f j)) 99))), (11, .long (iL (od * (t - 1)))), (10, .int (iI m)), (8, .long (iL q)), (6, .long (iL ab)), (0, .ref (ma 100)), (1, .int (iI c)), (2, .int (iI n)), (3, .int (iI t)), (4, .int (iI part))]) 2 dX6_chance_223 rfl (by decide) rfl ?_
                              refine g_goto F 163 dX6_chance_226 (by decide) ?_
                              refine g_sub F (lv' := [(14, .int (iI (j + 1))), (13, .int (iI (held (w2 + (f j)) 99))), (11, .long (iL (od * (t - 1)))), (10, .int (iI m)), (8, .long (iL q)), (6, .long (iL ab)), (0, .ref (ma 100)), (1, .int (iI c)), (2, .int (iI n)), (3, .int (iI t)), (4, .int (iI part))]) [0, 1, 2, 3, 4, 5, 6, 7, 8, 9, 10] rfl ?_
                              exact ih163 _ (by omega) (j + 1) (od * (t - 1)) (held (w2 + (f j)) 99) rfl (by omega) (by rw [od_s 0 t m hj.1, ← hod]; first | (exfalso; omega) | rw [if_pos (by omega)] | rw [if_neg (by omega)]) (by have hs := wsm_s 0 (cl M) c m hj.1; first | (exfalso; omega) | (rw [if_pos (by omega)] at hs; rw [hs]; unfold held; (repeat' split) <;> omega) | (rw [if_neg (by omega)] at hs; rw [hs]; unfold held; (repeat' split) <;> omega))
                            · skip
                              have c201 : m / p2 j % 2 = 1 := b2i_t c201
                              exact absurd trivial (by omega)
                          · skip
                            have c178 : m / p2 j % 2 = 1 := b2i_t c178
                            refine g_lconst F (z := 1) dX6_chance_181 rfl ?_
                            refine g_goto F 189 dX6_chance_182 (by decide) ?_
                            refine g_lmul F dX6_chance_189 ?_
                            refine g_lstore F (lv' := [(11, .long (iL (od * 1))), (14, .int (iI j)), (13, .int (iI w2)), (10, .int (iI m)), (8, .long (iL q)), (6, .long (iL ab)), (0, .ref (ma 100)), (1, .int (iI c)), (2, .int (iI n)), (3, .int (iI t)), (4, .int (iI part))]) dX6_chance_190 (by decide) rfl ?_
                            refine g_iload F 2 dX6_chance_192 rfl ?_
                            refine g_iload F 3 dX6_chance_194 rfl ?_
                            refine g_iload F 1 dX6_chance_196 rfl ?_
                            refine g_callSI F (stk := [.int (iI j), .int (iI m), .int (iI w2)]) (st := [.int (iI w2)]) (k_X6_hasBit κ (mw κ ma (agn (mA (stC (tst M Gm) (goI k (cl M))) 40 f) M)) m j (by omega)) cal_X6_hasBit lm_X6_317 rfl (by decide) rfl (Nat.le_of_ble_eq_true rfl) dX6_chance_198 (fun r198 ws198 _ hr198 => ?_)
                            obtain ⟨rfl, rfl⟩ := hr198
                            refine g_if_eq F 208 (b2i_in _) dX6_chance_201 (by decide) (fun c201 => ?_) (fun c201 => ?_)
                            · skip
                              have c201 : ¬ (m / p2 j % 2 = 1) := b2i_f c201
                              exact absurd trivial (by omega)
                            · skip
                              have c201 : m / p2 j % 2 = 1 := b2i_t c201
                              refine g_iconst F dX6_chance_204 ?_
                              refine g_goto F 215 dX6_chance_205 (by decide) ?_
                              refine g_iadd F dX6_chance_215 ?_
                              refine g_bipush F dX6_chance_216 (by decide +kernel) ?_
                              refine g_callSI F (stk := [.int (iI 99), .int (iI (w2 + 0))]) (st := []) (k_X6_held κ (mw κ ma (agn (mA (stC (tst M Gm) (goI k (cl M))) 40 f) M)) (w2 + 0) 99 (by omega)) cal_X6_held lm_X6_111 rfl (by decide) rfl (Nat.le_of_ble_eq_true rfl) dX6_chance_218 (fun r218 ws218 _ hr218 => ?_)
                              obtain ⟨rfl, rfl⟩ := hr218
                              refine g_istore F (lv' := [(13, .int (iI (held (w2 + 0) 99))), (11, .long (iL (od * 1))), (14, .int (iI j)), (10, .int (iI m)), (8, .long (iL q)), (6, .long (iL ab)), (0, .ref (ma 100)), (1, .int (iI c)), (2, .int (iI n)), (3, .int (iI t)), (4, .int (iI part))]) dX6_chance_221 (by decide) rfl ?_
                              refine g_iinc F (lv' := [(14, .int (iI (j + 1))), (13, .int (iI (held (w2 + 0) 99))), (11, .long (iL (od * 1))), (10, .int (iI m)), (8, .long (iL q)), (6, .long (iL ab)), (0, .ref (ma 100)), (1, .int (iI c)), (2, .int (iI n)), (3, .int (iI t)), (4, .int (iI part))]) 2 dX6_chance_223 rfl (by decide) rfl ?_
                              refine g_goto F 163 dX6_chance_226 (by decide) ?_
                              refine g_sub F (lv' := [(14, .int (iI (j + 1))), (13, .int (iI (held (w2 + 0) 99))), (11, .long (iL (od * 1))), (10, .int (iI m)), (8, .long (iL q)), (6, .long (iL ab)), (0, .ref (ma 100)), (1, .int (iI c)), (2, .int (iI n)), (3, .int (iI t)), (4, .int (iI part))]) [0, 1, 2, 3, 4, 5, 6, 7, 8, 9, 10] rfl ?_
                              exact ih163 _ (by omega) (j + 1) (od * 1) (held (w2 + 0) 99) rfl (by omega) (by rw [od_s 0 t m hj.1, ← hod]; first | (exfalso; omega) | rw [if_pos (by omega)] | rw [if_neg (by omega)]) (by have hs := wsm_s 0 (cl M) c m hj.1; first | (exfalso; omega) | (rw [if_pos (by omega)] at hs; rw [hs]; unfold held; (repeat' split) <;> omega) | (rw [if_neg (by omega)] at hs; rw [hs]; unfold held; (repeat' split) <;> omega))
                      refine g_sub F (lv' := [(14, .int (iI 0)), (13, .int (iI (M 3 c))), (11, .long (iL 1)), (10, .int (iI m)), (8, .long (iL q)), (6, .long (iL ab)), (0, .ref (ma 100)), (1, .int (iI c)), (2, .int (iI n)), (3, .int (iI t)), (4, .int (iI part))]) [0, 1, 2, 3, 4, 5, 6, 7, 8, 9, 10] rfl ?_
                      exact L163 _ 0 1 (M 3 c) rfl (by omega) rfl (by have hwe : we (cl M) c = M 3 c := rfl; have e : wsm 0 (cl M) c m 0 = we (cl M) c + 0 := rfl; omega)
                  refine g_sub F (lv' := [(10, .int (iI 0)), (8, .long (iL q)), (6, .long (iL 0)), (0, .ref (ma 100)), (1, .int (iI c)), (2, .int (iI n)), (3, .int (iI t)), (4, .int (iI part))]) [0, 1, 2, 4, 5, 6, 7, 8] rfl ?_
                  exact L141 _ 0 0 rfl (by omega) rfl (by omega)
                · skip
                  have hyk : 0 ≤ yr (goI k (cl M)) ∧ yr (goI k (cl M)) ≤ 990008 := by have e := goI_yr (C := cl M) hk.1; have e2 : yr (cl M) = M 4 0 := rfl; have e3 := ok.2; omega
                  have hwc := wearing_bd (goI_ok ok k).A (c := c) (y := yr (goI k (cl M)) + 1) (by omega) (by omega)
                  refine g_lload F 1 dX6_chance_99 rfl ?_
                  refine g_iload_n F 7 dX6_chance_101 rfl ?_
                  refine g_i2l F (by omega) dX6_chance_102 ?_
                  refine g_lmul F dX6_chance_103 ?_
                  refine g_lstore F (lv' := [(8, .long (iL (q * t))), (10, .int (iI k)), (6, .long (iL 0)), (5, .int (iI (wbit 0 part 1))), (0, .ref (ma 100)), (1, .int (iI c)), (2, .int (iI n)), (3, .int (iI t)), (4, .int (iI part))]) dX6_chance_104 (by decide) rfl ?_
                  refine g_aload_n F 4 dX6_chance_106 rfl ?_
                  refine gm_get_40 F dX6_chance_107 ?_
                  refine g_iload F 1 dX6_chance_110 rfl ?_
                  refine g_aload_n F 4 dX6_chance_112 rfl ?_
                  refine g_iload_n F 5 dX6_chance_113 rfl ?_
                  refine g_aload_n F 4 dX6_chance_114 rfl ?_
                  refine gm_get_4 F dX6_chance_115 ?_
                  refine g_top (y := iI (yr (goI k (cl M)))) rfl ?_
                  refine g_iconst F dX6_chance_118 ?_
                  refine g_iadd F dX6_chance_119 ?_
                  refine g_callI F (stk := [.int (iI ((yr (goI k (cl M))) + 1)), .int (iI c), .ref (ma 100), .int (iI k), .ref (ma 40)]) (st := [.int (iI k), .ref (ma 40)]) (k_X6_wearsIn κ ma (mA (stC (tst M Gm) (goI k (cl M))) 40 f) c ((yr (goI k (cl M))) + 1) (by omega) (by omega) (goI_ok ok k).A) cal_X6_wearsIn lm_X6_128 0 rfl rfl rfl rfl (by decide) rfl (Nat.le_of_ble_eq_true rfl) dX6_chance_120 (fun r120 ws120 _ hr120 => ?_)
                  obtain ⟨rfl, rfl⟩ := hr120
                  refine g_top (y := iI (wearing (goI k (cl M)) ((yr (goI k (cl M))) + 1) c)) rfl ?_
                  refine g_top (y := iI (wrC (cl M) c k)) rfl ?_
                  refine gm_astS_40 F (by omega) dX6_chance_123 ?_
                  refine g_aload_n F 4 dX6_chance_124 rfl ?_
                  refine g_callV F (stk := [.ref (ma 100)]) (st := []) (k_X6_yearOn κ ma (mA (stC (tst M Gm) (goI k (cl M))) 40 (uI f k (wrC (cl M) c k))) (show yr (goI k (cl M)) < 1000000 by omega) (goI_ok ok k)) cal_X6_yearOn lm_X6_131 0 rfl rfl rfl rfl (by decide) rfl (Nat.le_of_ble_eq_true rfl) dX6_chance_125 (fun ws125 _ hr125 => ?_)
                  obtain rfl := hr125
                  refine g_ws (ws' := mw κ ma (stC (mA (stC (tst M Gm) (goI k (cl M))) 40 (uI f k (wrC (cl M) c k))) (yearOn (goI k (cl M))))) rfl ?_
                  refine g_iinc F (lv' := [(10, .int (iI (k + 1))), (8, .long (iL (q * t))), (6, .long (iL 0)), (5, .int (iI (wbit 0 part 1))), (0, .ref (ma 100)), (1, .int (iI c)), (2, .int (iI n)), (3, .int (iI t)), (4, .int (iI part))]) 1 dX6_chance_128 rfl (by decide) rfl ?_
                  refine g_goto F 93 dX6_chance_131 (by decide) ?_
                  refine g_sub F (lv' := [(10, .int (iI (k + 1))), (8, .long (iL (q * t))), (6, .long (iL 0)), (5, .int (iI (wbit 0 part 1))), (0, .ref (ma 100)), (1, .int (iI c)), (2, .int (iI n)), (3, .int (iI t)), (4, .int (iI part))]) [0, 1, 2, 3, 4, 5, 6, 7, 8] rfl ?_
                  refine g_ws (ws' := mw κ ma (mA (stC (tst M (stC (mA (stC (tst M Gm) (goI k (cl M))) 40 (uI f k (wrC (cl M) c k))) (yearOn (goI k (cl M))))) (goI (k + 1) (cl M))) 40 (uI f k (wrC (cl M) c k)))) (by rw [goI_s hk.1]; rfl) ?_
                  exact ih93 _ (by omega) (k + 1) (q * t) (uI f k (wrC (cl M) c k)) (stC (mA (stC (tst M Gm) (goI k (cl M))) 40 (uI f k (wrC (cl M) c k))) (yearOn (goI k (cl M)))) rfl (by omega) (by rw [pw_s t hk.1, ← hq]) (by rw [hf, ← upTo_s _ _ hk.1])
              refine g_sub F (lv' := [(10, .int (iI 0)), (8, .long (iL 1)), (6, .long (iL 0)), (5, .int (iI (wbit 0 part 1))), (0, .ref (ma 100)), (1, .int (iI c)), (2, .int (iI n)), (3, .int (iI t)), (4, .int (iI part))]) [0, 1, 2, 3, 4, 5, 6, 7, 8] rfl ?_
              refine g_ws (ws' := mw κ ma (mA (stC (tst M (thk (mA M 10 (fun _ => 0)))) (goI 0 (cl M))) 40 (M 40))) (by unfold thk; rw [snapF_mA (by decide)]; rfl) ?_
              exact L93 _ 0 1 (M 40) (thk (mA M 10 (fun _ => 0))) rfl (by omega) rfl (upTo_0 _ _).symm
            · skip
              refine g_ldc2 F (z := 4000000000000000000) ll_X6_315 (by decide +kernel) dX6_chance_68 ?_
              refine g_aload_n F 1 dX6_chance_71 rfl ?_
              refine g_iload F 0 dX6_chance_72 rfl ?_
              refine g_callI F (stk := [.int (iI (wbit 0 part 1)), .ref (ma 100), .long (iL 4000000000000000000)]) (st := [.long (iL 4000000000000000000)]) (k_X6_refuse κ ma (mA M 10 (fun _ => 0)) (wbit 0 part 1) (by omega)) cal_X6_refuse lm_X6_138 0 rfl rfl rfl rfl (by decide) rfl (Nat.le_of_ble_eq_true rfl) dX6_chance_74 (fun r74 ws74 _ hr74 => ?_)
              obtain ⟨rfl, rfl⟩ := hr74
              refine g_top (y := iI (wbit 0 part 1)) rfl ?_
              refine g_ws (ws' := mw κ ma (mA (mA M 10 (fun _ => 0)) 11 (uI (M 11) (-(wbit 0 part 1)) (M 11 (-(wbit 0 part 1)) + 1)))) rfl ?_
              refine g_i2l F (by omega) dX6_chance_77 ?_
              refine g_lsub F dX6_chance_78 ?_
              have hq : 4000000000000000000 - (wbit 0 part 1) = qChance 0 (cl M) c n t part := by unfold qChance; (repeat' split) <;> omega
              have hsr : sChance c n t part = (wbit 0 part 1) := by unfold sChance; (repeat' split) <;> omega
              exact K mw_same ⟨_, rfl, congrArg iL hq, ⟨rfl, rfl, rfl, rfl, rfl, rfl, rfl, rfl, rfl, rfl, rfl, rfl, rfl, rfl, rfl, rfl, rfl, rfl⟩, (by rw [hsr]; exact (rfa_r (by omega)).symm)⟩ dX6_chance_79
          · skip
            refine g_bipush F dX6_chance_49 (by decide +kernel) ?_
            refine g_istore F (lv' := [(5, .int (iI (-6))), (0, .ref (ma 100)), (1, .int (iI c)), (2, .int (iI n)), (3, .int (iI t)), (4, .int (iI part))]) dX6_chance_51 (by decide) rfl ?_
            refine g_iload F 0 dX6_chance_53 rfl ?_
            refine g_iload F 5 dX6_chance_55 rfl ?_
            refine g_iconst F dX6_chance_57 ?_
            refine g_callSI F (stk := [.int (iI 1), .int (iI part), .int (iI (-6))]) (st := []) (k_X6_wrongBit κ (mw κ ma (mA M 10 (fun _ => 0))) (-6) part 1 (by omega)) cal_X6_wrongBit lm_X6_247 rfl (by decide) rfl (Nat.le_of_ble_eq_true rfl) dX6_chance_58 (fun r58 ws58 _ hr58 => ?_)
            obtain ⟨rfl, rfl⟩ := hr58
            have hwb58 := wb_spec (-6) part 1
            refine g_top (y := iI (-6)) (iIc (by omega)) ?_
            refine g_istore F (lv' := [(5, .int (iI (-6))), (0, .ref (ma 100)), (1, .int (iI c)), (2, .int (iI n)), (3, .int (iI t)), (4, .int (iI part))]) dX6_chance_61 (by decide) rfl ?_
            refine g_iload F 0 dX6_chance_63 rfl ?_
            refine g_if_ge F 80 (by omega) dX6_chance_65 (by decide) (fun c65 => ?_) (fun c65 => ?_)
            · skip
              exact absurd trivial (by omega)
            · skip
              refine g_ldc2 F (z := 4000000000000000000) ll_X6_315 (by decide +kernel) dX6_chance_68 ?_
              refine g_aload_n F 1 dX6_chance_71 rfl ?_
              refine g_iload F 0 dX6_chance_72 rfl ?_
              refine g_callI F (stk := [.int (iI (-6)), .ref (ma 100), .long (iL 4000000000000000000)]) (st := [.long (iL 4000000000000000000)]) (k_X6_refuse κ ma (mA M 10 (fun _ => 0)) (-6) (by omega)) cal_X6_refuse lm_X6_138 0 rfl rfl rfl rfl (by decide) rfl (Nat.le_of_ble_eq_true rfl) dX6_chance_74 (fun r74 ws74 _ hr74 => ?_)
              obtain ⟨rfl, rfl⟩ := hr74
              refine g_top (y := iI (-6)) rfl ?_
              refine g_ws (ws' := mw κ ma (mA (mA M 10 (fun _ => 0)) 11 (uI (M 11) (-(-6)) (M 11 (-(-6)) + 1)))) rfl ?_
              refine g_i2l F (by omega) dX6_chance_77 ?_
              refine g_lsub F dX6_chance_78 ?_
              have hq : 4000000000000000000 - (-6) = qChance 0 (cl M) c n t part := by unfold qChance; (repeat' split) <;> omega
              have hsr : sChance c n t part = (-6) := by unfold sChance; (repeat' split) <;> omega
              exact K mw_same ⟨_, rfl, congrArg iL hq, ⟨rfl, rfl, rfl, rfl, rfl, rfl, rfl, rfl, rfl, rfl, rfl, rfl, rfl, rfl, rfl, rfl, rfl, rfl⟩, (by rw [hsr]; exact (rfa_r (by omega)).symm)⟩ dX6_chance_79
      · skip
        refine g_bipush F dX6_chance_30 (by decide +kernel) ?_
        refine g_istore F (lv' := [(5, .int (iI (-4))), (0, .ref (ma 100)), (1, .int (iI c)), (2, .int (iI n)), (3, .int (iI t)), (4, .int (iI part))]) dX6_chance_32 (by decide) rfl ?_
        refine g_goto F 53 dX6_chance_34 (by decide) ?_
        refine g_iload F 0 dX6_chance_53 rfl ?_
        refine g_iload F 5 dX6_chance_55 rfl ?_
        refine g_iconst F dX6_chance_57 ?_
        refine g_callSI F (stk := [.int (iI 1), .int (iI part), .int (iI (-4))]) (st := []) (k_X6_wrongBit κ (mw κ ma (mA M 10 (fun _ => 0))) (-4) part 1 (by omega)) cal_X6_wrongBit lm_X6_247 rfl (by decide) rfl (Nat.le_of_ble_eq_true rfl) dX6_chance_58 (fun r58 ws58 _ hr58 => ?_)
        obtain ⟨rfl, rfl⟩ := hr58
        have hwb58 := wb_spec (-4) part 1
        refine g_top (y := iI (-4)) (iIc (by omega)) ?_
        refine g_istore F (lv' := [(5, .int (iI (-4))), (0, .ref (ma 100)), (1, .int (iI c)), (2, .int (iI n)), (3, .int (iI t)), (4, .int (iI part))]) dX6_chance_61 (by decide) rfl ?_
        refine g_iload F 0 dX6_chance_63 rfl ?_
        refine g_if_ge F 80 (by omega) dX6_chance_65 (by decide) (fun c65 => ?_) (fun c65 => ?_)
        · skip
          exact absurd trivial (by omega)
        · skip
          refine g_ldc2 F (z := 4000000000000000000) ll_X6_315 (by decide +kernel) dX6_chance_68 ?_
          refine g_aload_n F 1 dX6_chance_71 rfl ?_
          refine g_iload F 0 dX6_chance_72 rfl ?_
          refine g_callI F (stk := [.int (iI (-4)), .ref (ma 100), .long (iL 4000000000000000000)]) (st := [.long (iL 4000000000000000000)]) (k_X6_refuse κ ma (mA M 10 (fun _ => 0)) (-4) (by omega)) cal_X6_refuse lm_X6_138 0 rfl rfl rfl rfl (by decide) rfl (Nat.le_of_ble_eq_true rfl) dX6_chance_74 (fun r74 ws74 _ hr74 => ?_)
          obtain ⟨rfl, rfl⟩ := hr74
          refine g_top (y := iI (-4)) rfl ?_
          refine g_ws (ws' := mw κ ma (mA (mA M 10 (fun _ => 0)) 11 (uI (M 11) (-(-4)) (M 11 (-(-4)) + 1)))) rfl ?_
          refine g_i2l F (by omega) dX6_chance_77 ?_
          refine g_lsub F dX6_chance_78 ?_
          have hq : 4000000000000000000 - (-4) = qChance 0 (cl M) c n t part := by unfold qChance; (repeat' split) <;> omega
          have hsr : sChance c n t part = (-4) := by unfold sChance; (repeat' split) <;> omega
          exact K mw_same ⟨_, rfl, congrArg iL hq, ⟨rfl, rfl, rfl, rfl, rfl, rfl, rfl, rfl, rfl, rfl, rfl, rfl, rfl, rfl, rfl, rfl, rfl, rfl⟩, (by rw [hsr]; exact (rfa_r (by omega)).symm)⟩ dX6_chance_79
  · skip
    have c12 : ¬ (0 ≤ c ∧ c < 12) := b2i_f c12
    refine g_iconst F dX6_chance_15 ?_
    refine g_istore F (lv' := [(5, .int (iI (-1))), (0, .ref (ma 100)), (1, .int (iI c)), (2, .int (iI n)), (3, .int (iI t)), (4, .int (iI part))]) dX6_chance_16 (by decide) rfl ?_
    refine g_goto F 53 dX6_chance_18 (by decide) ?_
    refine g_iload F 0 dX6_chance_53 rfl ?_
    refine g_iload F 5 dX6_chance_55 rfl ?_
    refine g_iconst F dX6_chance_57 ?_
    refine g_callSI F (stk := [.int (iI 1), .int (iI part), .int (iI (-1))]) (st := []) (k_X6_wrongBit κ (mw κ ma (mA M 10 (fun _ => 0))) (-1) part 1 (by omega)) cal_X6_wrongBit lm_X6_247 rfl (by decide) rfl (Nat.le_of_ble_eq_true rfl) dX6_chance_58 (fun r58 ws58 _ hr58 => ?_)
    obtain ⟨rfl, rfl⟩ := hr58
    have hwb58 := wb_spec (-1) part 1
    refine g_top (y := iI (-1)) (iIc (by omega)) ?_
    refine g_istore F (lv' := [(5, .int (iI (-1))), (0, .ref (ma 100)), (1, .int (iI c)), (2, .int (iI n)), (3, .int (iI t)), (4, .int (iI part))]) dX6_chance_61 (by decide) rfl ?_
    refine g_iload F 0 dX6_chance_63 rfl ?_
    refine g_if_ge F 80 (by omega) dX6_chance_65 (by decide) (fun c65 => ?_) (fun c65 => ?_)
    · skip
      exact absurd trivial (by omega)
    · skip
      refine g_ldc2 F (z := 4000000000000000000) ll_X6_315 (by decide +kernel) dX6_chance_68 ?_
      refine g_aload_n F 1 dX6_chance_71 rfl ?_
      refine g_iload F 0 dX6_chance_72 rfl ?_
      refine g_callI F (stk := [.int (iI (-1)), .ref (ma 100), .long (iL 4000000000000000000)]) (st := [.long (iL 4000000000000000000)]) (k_X6_refuse κ ma (mA M 10 (fun _ => 0)) (-1) (by omega)) cal_X6_refuse lm_X6_138 0 rfl rfl rfl rfl (by decide) rfl (Nat.le_of_ble_eq_true rfl) dX6_chance_74 (fun r74 ws74 _ hr74 => ?_)
      obtain ⟨rfl, rfl⟩ := hr74
      refine g_top (y := iI (-1)) rfl ?_
      refine g_ws (ws' := mw κ ma (mA (mA M 10 (fun _ => 0)) 11 (uI (M 11) (-(-1)) (M 11 (-(-1)) + 1)))) rfl ?_
      refine g_i2l F (by omega) dX6_chance_77 ?_
      refine g_lsub F dX6_chance_78 ?_
      have hq : 4000000000000000000 - (-1) = qChance 0 (cl M) c n t part := by unfold qChance; (repeat' split) <;> omega
      have hsr : sChance c n t part = (-1) := by unfold sChance; (repeat' split) <;> omega
      exact K mw_same ⟨_, rfl, congrArg iL hq, ⟨rfl, rfl, rfl, rfl, rfl, rfl, rfl, rfl, rfl, rfl, rfl, rfl, rfl, rfl, rfl, rfl, rfl, rfl⟩, (by rw [hsr]; exact (rfa_r (by omega)).symm)⟩ dX6_chance_79
theorem dX5_waysToHole_0 : decode cX5_waysToHole 0 = .ok (.lconst 0, 1) := by decide +kernel
theorem dX5_waysToHole_1 : decode cX5_waysToHole 1 = .ok (.lstore 4, 2) := by decide +kernel
theorem dX5_waysToHole_3 : decode cX5_waysToHole 3 = .ok (.iconst 0, 1) := by decide +kernel
theorem dX5_waysToHole_4 : decode cX5_waysToHole 4 = .ok (.istore 6, 2) := by decide +kernel
theorem dX5_waysToHole_6 : decode cX5_waysToHole 6 = .ok (.iload 6, 2) := by decide +kernel
theorem dX5_waysToHole_8 : decode cX5_waysToHole 8 = .ok (.iconst 1, 1) := by decide +kernel
theorem dX5_waysToHole_9 : decode cX5_waysToHole 9 = .ok (.iload_n 2, 1) := by decide +kernel
theorem dX5_waysToHole_10 : decode cX5_waysToHole 10 = .ok (.ishl, 1) := by decide +kernel
theorem dX5_waysToHole_11 : decode cX5_waysToHole 11 = .ok (.if_icmp .ge 92, 3) := by decide +kernel
theorem dX5_waysToHole_14 : decode cX5_waysToHole 14 = .ok (.aload_n 0, 1) := by decide +kernel
theorem dX5_waysToHole_15 : decode cX5_waysToHole 15 = .ok (.getfield 10, 3) := by decide +kernel
theorem dX5_waysToHole_18 : decode cX5_waysToHole 18 = .ok (.getfield 160, 3) := by decide +kernel
theorem dX5_waysToHole_21 : decode cX5_waysToHole 21 = .ok (.iload_n 1, 1) := by decide +kernel
theorem dX5_waysToHole_22 : decode cX5_waysToHole 22 = .ok (.iaload, 1) := by decide +kernel
theorem dX5_waysToHole_23 : decode cX5_waysToHole 23 = .ok (.istore 7, 2) := by decide +kernel
theorem dX5_waysToHole_25 : decode cX5_waysToHole 25 = .ok (.lconst 1, 1) := by decide +kernel
theorem dX5_waysToHole_26 : decode cX5_waysToHole 26 = .ok (.lstore 8, 2) := by decide +kernel
theorem dX5_waysToHole_28 : decode cX5_waysToHole 28 = .ok (.iconst 0, 1) := by decide +kernel
theorem dX5_waysToHole_29 : decode cX5_waysToHole 29 = .ok (.istore 10, 2) := by decide +kernel
theorem dX5_waysToHole_31 : decode cX5_waysToHole 31 = .ok (.iload 10, 2) := by decide +kernel
theorem dX5_waysToHole_33 : decode cX5_waysToHole 33 = .ok (.iload_n 2, 1) := by decide +kernel
theorem dX5_waysToHole_34 : decode cX5_waysToHole 34 = .ok (.if_icmp .ge 43, 3) := by decide +kernel
theorem dX5_waysToHole_37 : decode cX5_waysToHole 37 = .ok (.iload 6, 2) := by decide +kernel
theorem dX5_waysToHole_39 : decode cX5_waysToHole 39 = .ok (.iload 10, 2) := by decide +kernel
theorem dX5_waysToHole_41 : decode cX5_waysToHole 41 = .ok (.ishr, 1) := by decide +kernel
theorem dX5_waysToHole_42 : decode cX5_waysToHole 42 = .ok (.iconst 1, 1) := by decide +kernel
theorem dX5_waysToHole_43 : decode cX5_waysToHole 43 = .ok (.iand, 1) := by decide +kernel
theorem dX5_waysToHole_44 : decode cX5_waysToHole 44 = .ok (.ifCond .ne 6, 3) := by decide +kernel
theorem dX5_waysToHole_47 : decode cX5_waysToHole 47 = .ok (.goto 24, 3) := by decide +kernel
theorem dX5_waysToHole_50 : decode cX5_waysToHole 50 = .ok (.iload 7, 2) := by decide +kernel
theorem dX5_waysToHole_52 : decode cX5_waysToHole 52 = .ok (.aload_n 0, 1) := by decide +kernel
theorem dX5_waysToHole_53 : decode cX5_waysToHole 53 = .ok (.getfield 66, 3) := by decide +kernel
theorem dX5_waysToHole_56 : decode cX5_waysToHole 56 = .ok (.iload 10, 2) := by decide +kernel
theorem dX5_waysToHole_58 : decode cX5_waysToHole 58 = .ok (.iaload, 1) := by decide +kernel
theorem dX5_waysToHole_59 : decode cX5_waysToHole 59 = .ok (.iadd, 1) := by decide +kernel
theorem dX5_waysToHole_60 : decode cX5_waysToHole 60 = .ok (.istore 7, 2) := by decide +kernel
theorem dX5_waysToHole_62 : decode cX5_waysToHole 62 = .ok (.lload 8, 2) := by decide +kernel
theorem dX5_waysToHole_64 : decode cX5_waysToHole 64 = .ok (.iload_n 3, 1) := by decide +kernel
theorem dX5_waysToHole_65 : decode cX5_waysToHole 65 = .ok (.iconst 1, 1) := by decide +kernel
theorem dX5_waysToHole_66 : decode cX5_waysToHole 66 = .ok (.isub, 1) := by decide +kernel
theorem dX5_waysToHole_67 : decode cX5_waysToHole 67 = .ok (.i2l, 1) := by decide +kernel
theorem dX5_waysToHole_68 : decode cX5_waysToHole 68 = .ok (.lmul, 1) := by decide +kernel
theorem dX5_waysToHole_69 : decode cX5_waysToHole 69 = .ok (.lstore 8, 2) := by decide +kernel
theorem dX5_waysToHole_71 : decode cX5_waysToHole 71 = .ok (.iinc 10 1, 3) := by decide +kernel
theorem dX5_waysToHole_74 : decode cX5_waysToHole 74 = .ok (.goto (-43), 3) := by decide +kernel
theorem dX5_waysToHole_77 : decode cX5_waysToHole 77 = .ok (.iload 7, 2) := by decide +kernel
theorem dX5_waysToHole_79 : decode cX5_waysToHole 79 = .ok (.aload_n 0, 1) := by decide +kernel
theorem dX5_waysToHole_80 : decode cX5_waysToHole 80 = .ok (.getfield 10, 3) := by decide +kernel
theorem dX5_waysToHole_83 : decode cX5_waysToHole 83 = .ok (.iload_n 1, 1) := by decide +kernel
theorem dX5_waysToHole_84 : decode cX5_waysToHole 84 = .ok (.invokevirtual 184, 3) := by decide +kernel
theorem dX5_waysToHole_87 : decode cX5_waysToHole 87 = .ok (.if_icmp .lt 10, 3) := by decide +kernel
theorem dX5_waysToHole_90 : decode cX5_waysToHole 90 = .ok (.lload 4, 2) := by decide +kernel
theorem dX5_waysToHole_92 : decode cX5_waysToHole 92 = .ok (.lload 8, 2) := by decide +kernel
theorem dX5_waysToHole_94 : decode cX5_waysToHole 94 = .ok (.ladd, 1) := by decide +kernel
theorem dX5_waysToHole_95 : decode cX5_waysToHole 95 = .ok (.lstore 4, 2) := by decide +kernel
theorem dX5_waysToHole_97 : decode cX5_waysToHole 97 = .ok (.iinc 6 1, 3) := by decide +kernel
theorem dX5_waysToHole_100 : decode cX5_waysToHole 100 = .ok (.goto (-94), 3) := by decide +kernel
theorem dX5_waysToHole_103 : decode cX5_waysToHole 103 = .ok (.lload 4, 2) := by decide +kernel
theorem dX5_waysToHole_105 : decode cX5_waysToHole 105 = .ok (.lreturn, 1) := by decide +kernel
set_option maxRecDepth 100000 in
set_option maxHeartbeats 4000000 in
theorem k_X5_waysToHole (κ : Kp) (xa : Nat → Nat → Nat) (X : XS) (c : Int) (n : Int) (t : Int)  (h0 : ((0 ≤ c ∧ c < 12) ∧ 0 ≤ n ∧ n ≤ 8) ∧ 2 ≤ t ∧ t ≤ 20) (hl : ∀ j : Int, 0 ≤ j → j < n → X 18 14 j = wrC (cl (X 0)) c j) (ok : okC (cl (X 0))) : mL κ yX5_waysToHole cX5_waysToHole 11 2 [.ref (xa 18 100), .int (iI c), .int (iI n), .int (iI t)] (xw κ xa X) (is1L (iL (chS 1 (cl (X 0)) c n t)) (xw κ xa X)) := by
  refine mL_of (by decide) (Nat.le_of_ble_eq_true rfl) (fun E F K => ?_)
  refine g_lv (lv' := [(0, .ref (xa 18 100)), (1, .int (iI c)), (2, .int (iI n)), (3, .int (iI t))]) rfl ?_
  have hp8 := p2_8 (n := n) (by omega)
  have hhb := hold_bd ok.A (c := c) (by omega) (by omega)
  have hwb : 0 ≤ X 0 3 c ∧ X 0 3 c ≤ 99 := ok.w c (by omega) (by omega)
  refine g_lconst F (z := 0) dX5_waysToHole_0 rfl ?_
  refine g_lstore F (lv' := [(4, .long (iL 0)), (0, .ref (xa 18 100)), (1, .int (iI c)), (2, .int (iI n)), (3, .int (iI t))]) dX5_waysToHole_1 (by decide) rfl ?_
  refine g_iconst F dX5_waysToHole_3 ?_
  refine g_istore F (lv' := [(6, .int (iI 0)), (4, .long (iL 0)), (0, .ref (xa 18 100)), (1, .int (iI c)), (2, .int (iI n)), (3, .int (iI t))]) dX5_waysToHole_4 (by decide) rfl ?_
  have L6 : ∀ (mz6 : Nat) (m : Int) (ab : Int), (p2 n - m).toNat = mz6 → (0 ≤ m ∧ m ≤ p2 n) → (ab = sumI (chT 1 (cl (X 0)) c n t) m) → G E (xw κ xa X) [(6, .int (iI m)), (4, .long (iL ab)), (0, .ref (xa 18 100)), (1, .int (iI c)), (2, .int (iI n)), (3, .int (iI t))] 6 [] := by
    intro mz6
    induction mz6 using Nat.strongRecOn with
    | _ mz6 ih6 =>
    intro m ab hmz6 hm hab
    refine g_iload F 0 dX5_waysToHole_6 rfl ?_
    refine g_iconst F dX5_waysToHole_8 ?_
    refine g_iload_n F 4 dX5_waysToHole_9 rfl ?_
    refine g_ishl F dX5_waysToHole_10 ?_
    refine g_top (y := iI (p2 n)) (iI_shl1 (by omega) (by omega)) ?_
    refine g_icmp_ge F 103 (by omega) dX5_waysToHole_11 (by decide) (fun c11 => ?_) (fun c11 => ?_)
    · skip
      refine g_lload F 1 dX5_waysToHole_103 rfl ?_
      exact K xw_same ⟨congrArg iL (by rw [hab, show m = p2 n by omega]; rfl), rfl⟩ dX5_waysToHole_105
    · skip
      refine g_aload_n F 2 dX5_waysToHole_14 rfl ?_
      refine g18_get_0 F  lf_X5_10 dX5_waysToHole_15 ?_
      refine gc_getN_3 F (o := 0) (by decide) nf_X5_160 dX5_waysToHole_18 ?_
      refine g_iload_n F 3 dX5_waysToHole_21 rfl ?_
      refine gc_ald_3 F (o := 0) (by decide) (by omega) dX5_waysToHole_22 ?_
      refine g_istore F (lv' := [(7, .int (iI ((X 0) 3 c))), (6, .int (iI m)), (4, .long (iL ab)), (0, .ref (xa 18 100)), (1, .int (iI c)), (2, .int (iI n)), (3, .int (iI t))]) dX5_waysToHole_23 (by decide) rfl ?_
      refine g_lconst F (z := 1) dX5_waysToHole_25 rfl ?_
      refine g_lstore F (lv' := [(8, .long (iL 1)), (7, .int (iI ((X 0) 3 c))), (6, .int (iI m)), (4, .long (iL ab)), (0, .ref (xa 18 100)), (1, .int (iI c)), (2, .int (iI n)), (3, .int (iI t))]) dX5_waysToHole_26 (by decide) rfl ?_
      refine g_iconst F dX5_waysToHole_28 ?_
      refine g_istore F (lv' := [(10, .int (iI 0)), (8, .long (iL 1)), (7, .int (iI ((X 0) 3 c))), (6, .int (iI m)), (4, .long (iL ab)), (0, .ref (xa 18 100)), (1, .int (iI c)), (2, .int (iI n)), (3, .int (iI t))]) dX5_waysToHole_29 (by decide) rfl ?_
      have L31 : ∀ (mz31 : Nat) (j : Int) (od : Int) (w2 : Int), (n - j).toNat = mz31 → (0 ≤ j ∧ j ≤ n) → (od = odI 1 t m j) → (w2 = wsm 1 (cl (X 0)) c m j) → G E (xw κ xa X) [(10, .int (iI j)), (8, .long (iL od)), (7, .int (iI w2)), (6, .int (iI m)), (4, .long (iL ab)), (0, .ref (xa 18 100)), (1, .int (iI c)), (2, .int (iI n)), (3, .int (iI t))] 31 [] := by
        intro mz31
        induction mz31 using Nat.strongRecOn with
        | _ mz31 ih31 =>
        intro j od w2 hmz31 hj hod hw
        refine g_iload F 0 dX5_waysToHole_31 rfl ?_
        refine g_iload_n F 7 dX5_waysToHole_33 rfl ?_
        refine g_icmp_ge F 77 (by omega) dX5_waysToHole_34 (by decide) (fun c34 => ?_) (fun c34 => ?_)
        · skip
          have hwm := wsm_bd ok 1 (c := c) m (k := j) (by omega) (by omega) hj.1 (by omega)
          have hjn : j = n := by omega
          have hct : chT 1 (cl (X 0)) c n t m = if hold (cl (X 0)) c ≤ wsm 1 (cl (X 0)) c m j then od else 0 := by rw [hod, hjn]; rfl
          refine g_iload F 2 dX5_waysToHole_77 rfl ?_
          refine g_aload_n F 5 dX5_waysToHole_79 rfl ?_
          refine g18_get_0 F  lf_X5_10 dX5_waysToHole_80 ?_
          refine g_iload_n F 6 dX5_waysToHole_83 rfl ?_
          refine g_callNI F (stk := [.int (iI c), .ref (xa 0 100), .int (iI w2)]) (st := [.int (iI w2)]) (k_X0_hold κ xa X 0 (by decide) c (by omega) ok.A) cal_X0_hold nm_X5_184 0 rfl rfl rfl rfl (by decide) rfl (Nat.le_of_ble_eq_true rfl) dX5_waysToHole_84 (fun r84 ws84 _ hr84 => ?_)
          obtain ⟨rfl, rfl⟩ := hr84
          refine g_icmp_lt F 97 (by omega) dX5_waysToHole_87 (by decide) (fun c87 => ?_) (fun c87 => ?_)
          · skip
            refine g_iinc F (lv' := [(6, .int (iI (m + 1))), (10, .int (iI j)), (8, .long (iL od)), (7, .int (iI w2)), (4, .long (iL ab)), (0, .ref (xa 18 100)), (1, .int (iI c)), (2, .int (iI n)), (3, .int (iI t))]) 3 dX5_waysToHole_97 rfl (by decide) rfl ?_
            refine g_goto F 6 dX5_waysToHole_100 (by decide) ?_
            refine g_sub F (lv' := [(6, .int (iI (m + 1))), (4, .long (iL ab)), (0, .ref (xa 18 100)), (1, .int (iI c)), (2, .int (iI n)), (3, .int (iI t))]) [0, 4, 5, 6, 7, 8] rfl ?_
            exact ih6 _ (by omega) (m + 1) ab rfl (by omega) (by rw [sumI_s _ hm.1, ← hab, hct]; first | (exfalso; omega) | rw [if_pos (by omega)] | (rw [if_neg (by omega)]; omega))
          · skip
            refine g_lload F 4 dX5_waysToHole_90 rfl ?_
            refine g_lload F 1 dX5_waysToHole_92 rfl ?_
            refine g_ladd F dX5_waysToHole_94 ?_
            refine g_lstore F (lv' := [(4, .long (iL (ab + od))), (10, .int (iI j)), (8, .long (iL od)), (7, .int (iI w2)), (6, .int (iI m)), (0, .ref (xa 18 100)), (1, .int (iI c)), (2, .int (iI n)), (3, .int (iI t))]) dX5_waysToHole_95 (by decide) rfl ?_
            refine g_iinc F (lv' := [(6, .int (iI (m + 1))), (4, .long (iL (ab + od))), (10, .int (iI j)), (8, .long (iL od)), (7, .int (iI w2)), (0, .ref (xa 18 100)), (1, .int (iI c)), (2, .int (iI n)), (3, .int (iI t))]) 4 dX5_waysToHole_97 rfl (by decide) rfl ?_
            refine g_goto F 6 dX5_waysToHole_100 (by decide) ?_
            refine g_sub F (lv' := [(6, .int (iI (m + 1))), (4, .long (iL (ab + od))), (0, .ref (xa 18 100)), (1, .int (iI c)), (2, .int (iI n)), (3, .int (iI t))]) [0, 1, 5, 6, 7, 8] rfl ?_
            exact ih6 _ (by omega) (m + 1) (ab + od) rfl (by omega) (by rw [sumI_s _ hm.1, ← hab, hct]; first | (exfalso; omega) | rw [if_pos (by omega)] | (rw [if_neg (by omega)]; omega))
        · skip
          have hwm := wsm_bd ok 1 (c := c) m (k := j) (by omega) (by omega) hj.1 (by omega)
          have hwr := wrC_bd ok (c := c) j (by omega) (by omega)
          have hfj := hl j hj.1 (by omega)
          have hmd : m / p2 j % 2 = 0 ∨ m / p2 j % 2 = 1 := by omega
          refine g_iload F 3 dX5_waysToHole_37 rfl ?_
          refine g_iload F 0 dX5_waysToHole_39 rfl ?_
          refine g_ishr F dX5_waysToHole_41 ?_
          refine g_top (y := iI (m / p2 j)) (iI_shr (by omega) (by omega) (by omega) (by omega)) ?_
          refine g_iconst F dX5_waysToHole_42 ?_
          refine g_iand F dX5_waysToHole_43 ?_
          refine g_top (y := iI (m / p2 j % 2)) (iI_and1 (div_p2' (by omega))) ?_
          refine g_if_ne F 50 (by omega) dX5_waysToHole_44 (by decide) (fun c44 => ?_) (fun c44 => ?_)
          · skip
            refine g_iload F 2 dX5_waysToHole_50 rfl ?_
            refine g_aload_n F 5 dX5_waysToHole_52 rfl ?_
            refine g18_get_14 F  lf_X5_66 dX5_waysToHole_53 ?_
            refine g_iload F 0 dX5_waysToHole_56 rfl ?_
            refine g18_ald_14 F  (by omega) dX5_waysToHole_58 ?_
            refine g_iadd F dX5_waysToHole_59 ?_
            refine g_istore F (lv' := [(7, .int (iI (w2 + ((X 18) 14 j)))), (10, .int (iI j)), (8, .long (iL od)), (6, .int (iI m)), (4, .long (iL ab)), (0, .ref (xa 18 100)), (1, .int (iI c)), (2, .int (iI n)), (3, .int (iI t))]) dX5_waysToHole_60 (by decide) rfl ?_
            refine g_lload F 2 dX5_waysToHole_62 rfl ?_
            refine g_iload_n F 8 dX5_waysToHole_64 rfl ?_
            refine g_iconst F dX5_waysToHole_65 ?_
            refine g_isub F dX5_waysToHole_66 ?_
            refine g_i2l F (by omega) dX5_waysToHole_67 ?_
            refine g_lmul F dX5_waysToHole_68 ?_
            refine g_lstore F (lv' := [(8, .long (iL (od * (t - 1)))), (7, .int (iI (w2 + ((X 18) 14 j)))), (10, .int (iI j)), (6, .int (iI m)), (4, .long (iL ab)), (0, .ref (xa 18 100)), (1, .int (iI c)), (2, .int (iI n)), (3, .int (iI t))]) dX5_waysToHole_69 (by decide) rfl ?_
            refine g_iinc F (lv' := [(10, .int (iI (j + 1))), (8, .long (iL (od * (t - 1)))), (7, .int (iI (w2 + ((X 18) 14 j)))), (6, .int (iI m)), (4, .long (iL ab)), (0, .ref (xa 18 100)), (1, .int (iI c)), (2, .int (iI n)), (3, .int (iI t))]) 2 dX5_waysToHole_71 rfl (by decide) rfl ?_
            refine g_goto F 31 dX5_waysToHole_74 (by decide) ?_
            refine g_sub F (lv' := [(10, .int (iI (j + 1))), (8, .long (iL (od * (t - 1)))), (7, .int (iI (w2 + ((X 18) 14 j)))), (6, .int (iI m)), (4, .long (iL ab)), (0, .ref (xa 18 100)), (1, .int (iI c)), (2, .int (iI n)), (3, .int (iI t))]) [0, 1, 2, 3, 4, 5, 6, 7, 8] rfl ?_
            exact ih31 _ (by omega) (j + 1) (od * (t - 1)) (w2 + ((X 18) 14 j)) rfl (by omega) (by rw [od_s 1 t m hj.1, ← hod]; first | (exfalso; omega) | rw [if_pos (by omega)] | (rw [if_neg (by omega)]; omega)) (by have hs := wsm_s 1 (cl (X 0)) c m hj.1; first | (exfalso; omega) | (rw [if_pos (by omega)] at hs; omega) | (rw [if_neg (by omega)] at hs; omega))
          · skip
            refine g_goto F 71 dX5_waysToHole_47 (by decide) ?_
            refine g_iinc F (lv' := [(10, .int (iI (j + 1))), (8, .long (iL od)), (7, .int (iI w2)), (6, .int (iI m)), (4, .long (iL ab)), (0, .ref (xa 18 100)), (1, .int (iI c)), (2, .int (iI n)), (3, .int (iI t))]) 0 dX5_waysToHole_71 rfl (by decide) rfl ?_
            refine g_goto F 31 dX5_waysToHole_74 (by decide) ?_
            refine g_sub F (lv' := [(10, .int (iI (j + 1))), (8, .long (iL od)), (7, .int (iI w2)), (6, .int (iI m)), (4, .long (iL ab)), (0, .ref (xa 18 100)), (1, .int (iI c)), (2, .int (iI n)), (3, .int (iI t))]) [0, 1, 2, 3, 4, 5, 6, 7, 8] rfl ?_
            exact ih31 _ (by omega) (j + 1) od w2 rfl (by omega) (by rw [od_s 1 t m hj.1, ← hod]; first | (exfalso; omega) | rw [if_pos (by omega)] | (rw [if_neg (by omega)]; omega)) (by have hs := wsm_s 1 (cl (X 0)) c m hj.1; first | (exfalso; omega) | (rw [if_pos (by omega)] at hs; omega) | (rw [if_neg (by omega)] at hs; omega))
      refine g_sub F (lv' := [(10, .int (iI 0)), (8, .long (iL 1)), (7, .int (iI ((X 0) 3 c))), (6, .int (iI m)), (4, .long (iL ab)), (0, .ref (xa 18 100)), (1, .int (iI c)), (2, .int (iI n)), (3, .int (iI t))]) [0, 1, 2, 3, 4, 5, 6, 7, 8] rfl ?_
      exact L31 _ 0 1 ((X 0) 3 c) rfl (by omega) rfl (by have hwe : we (cl (X 0)) c = X 0 3 c := rfl; have e : wsm 1 (cl (X 0)) c m 0 = we (cl (X 0)) c + 0 := rfl; omega)
  refine g_sub F (lv' := [(6, .int (iI 0)), (4, .long (iL 0)), (0, .ref (xa 18 100)), (1, .int (iI c)), (2, .int (iI n)), (3, .int (iI t))]) [0, 1, 2, 3, 4, 5] rfl ?_
  exact L6 _ 0 0 rfl (by omega) rfl
theorem dX5_chance_0 : decode cX5_chance 0 = .ok (.iload_n 1, 1) := by decide +kernel
theorem dX5_chance_1 : decode cX5_chance 1 = .ok (.invokestatic 134, 3) := by decide +kernel
theorem dX5_chance_4 : decode cX5_chance 4 = .ok (.ifCond .ne 9, 3) := by decide +kernel
theorem dX5_chance_7 : decode cX5_chance 7 = .ok (.aload_n 0, 1) := by decide +kernel
theorem dX5_chance_8 : decode cX5_chance 8 = .ok (.iconst (-1), 1) := by decide +kernel
theorem dX5_chance_9 : decode cX5_chance 9 = .ok (.invokevirtual 317, 3) := by decide +kernel
theorem dX5_chance_12 : decode cX5_chance 12 = .ok (.lreturn, 1) := by decide +kernel
theorem dX5_chance_13 : decode cX5_chance 13 = .ok (.iload_n 2, 1) := by decide +kernel
theorem dX5_chance_14 : decode cX5_chance 14 = .ok (.ifCond .lt 8, 3) := by decide +kernel
theorem dX5_chance_17 : decode cX5_chance 17 = .ok (.iload_n 3, 1) := by decide +kernel
theorem dX5_chance_18 : decode cX5_chance 18 = .ok (.iconst 2, 1) := by decide +kernel
theorem dX5_chance_19 : decode cX5_chance 19 = .ok (.if_icmp .ge 10, 3) := by decide +kernel
theorem dX5_chance_22 : decode cX5_chance 22 = .ok (.aload_n 0, 1) := by decide +kernel
theorem dX5_chance_23 : decode cX5_chance 23 = .ok (.bipush (-4), 2) := by decide +kernel
theorem dX5_chance_25 : decode cX5_chance 25 = .ok (.invokevirtual 317, 3) := by decide +kernel
theorem dX5_chance_28 : decode cX5_chance 28 = .ok (.lreturn, 1) := by decide +kernel
theorem dX5_chance_29 : decode cX5_chance 29 = .ok (.iload_n 2, 1) := by decide +kernel
theorem dX5_chance_30 : decode cX5_chance 30 = .ok (.bipush 8, 2) := by decide +kernel
theorem dX5_chance_32 : decode cX5_chance 32 = .ok (.if_icmp .gt 9, 3) := by decide +kernel
theorem dX5_chance_35 : decode cX5_chance 35 = .ok (.iload_n 3, 1) := by decide +kernel
theorem dX5_chance_36 : decode cX5_chance 36 = .ok (.bipush 20, 2) := by decide +kernel
theorem dX5_chance_38 : decode cX5_chance 38 = .ok (.if_icmp .le 10, 3) := by decide +kernel
theorem dX5_chance_41 : decode cX5_chance 41 = .ok (.aload_n 0, 1) := by decide +kernel
theorem dX5_chance_42 : decode cX5_chance 42 = .ok (.bipush (-6), 2) := by decide +kernel
theorem dX5_chance_44 : decode cX5_chance 44 = .ok (.invokevirtual 317, 3) := by decide +kernel
theorem dX5_chance_47 : decode cX5_chance 47 = .ok (.lreturn, 1) := by decide +kernel
theorem dX5_chance_48 : decode cX5_chance 48 = .ok (.iload 4, 2) := by decide +kernel
theorem dX5_chance_50 : decode cX5_chance 50 = .ok (.ifCond .lt 9, 3) := by decide +kernel
theorem dX5_chance_53 : decode cX5_chance 53 = .ok (.iload 4, 2) := by decide +kernel
theorem dX5_chance_55 : decode cX5_chance 55 = .ok (.iconst 1, 1) := by decide +kernel
theorem dX5_chance_56 : decode cX5_chance 56 = .ok (.if_icmp .le 10, 3) := by decide +kernel
theorem dX5_chance_59 : decode cX5_chance 59 = .ok (.aload_n 0, 1) := by decide +kernel
theorem dX5_chance_60 : decode cX5_chance 60 = .ok (.bipush (-2), 2) := by decide +kernel
theorem dX5_chance_62 : decode cX5_chance 62 = .ok (.invokevirtual 317, 3) := by decide +kernel
theorem dX5_chance_65 : decode cX5_chance 65 = .ok (.lreturn, 1) := by decide +kernel
theorem dX5_chance_66 : decode cX5_chance 66 = .ok (.lconst 1, 1) := by decide +kernel
theorem dX5_chance_67 : decode cX5_chance 67 = .ok (.lstore 5, 2) := by decide +kernel
theorem dX5_chance_69 : decode cX5_chance 69 = .ok (.aload_n 0, 1) := by decide +kernel
theorem dX5_chance_70 : decode cX5_chance 70 = .ok (.getfield 50, 3) := by decide +kernel
theorem dX5_chance_73 : decode cX5_chance 73 = .ok (.aload_n 0, 1) := by decide +kernel
theorem dX5_chance_74 : decode cX5_chance 74 = .ok (.getfield 10, 3) := by decide +kernel
theorem dX5_chance_77 : decode cX5_chance 77 = .ok (.invokevirtual 88, 3) := by decide +kernel
theorem dX5_chance_80 : decode cX5_chance 80 = .ok (.iconst 0, 1) := by decide +kernel
theorem dX5_chance_81 : decode cX5_chance 81 = .ok (.istore 7, 2) := by decide +kernel
theorem dX5_chance_83 : decode cX5_chance 83 = .ok (.iload 7, 2) := by decide +kernel
theorem dX5_chance_85 : decode cX5_chance 85 = .ok (.iload_n 2, 1) := by decide +kernel
theorem dX5_chance_86 : decode cX5_chance 86 = .ok (.if_icmp .ge 39, 3) := by decide +kernel
theorem dX5_chance_89 : decode cX5_chance 89 = .ok (.aload_n 0, 1) := by decide +kernel
theorem dX5_chance_90 : decode cX5_chance 90 = .ok (.getfield 66, 3) := by decide +kernel
theorem dX5_chance_93 : decode cX5_chance 93 = .ok (.iload 7, 2) := by decide +kernel
theorem dX5_chance_95 : decode cX5_chance 95 = .ok (.aload_n 0, 1) := by decide +kernel
theorem dX5_chance_96 : decode cX5_chance 96 = .ok (.getfield 50, 3) := by decide +kernel
theorem dX5_chance_99 : decode cX5_chance 99 = .ok (.iload_n 1, 1) := by decide +kernel
theorem dX5_chance_100 : decode cX5_chance 100 = .ok (.invokevirtual 181, 3) := by decide +kernel
theorem dX5_chance_103 : decode cX5_chance 103 = .ok (.iastore, 1) := by decide +kernel
theorem dX5_chance_104 : decode cX5_chance 104 = .ok (.aload_n 0, 1) := by decide +kernel
theorem dX5_chance_105 : decode cX5_chance 105 = .ok (.getfield 50, 3) := by decide +kernel
theorem dX5_chance_108 : decode cX5_chance 108 = .ok (.iconst 1, 1) := by decide +kernel
theorem dX5_chance_109 : decode cX5_chance 109 = .ok (.invokevirtual 166, 3) := by decide +kernel
theorem dX5_chance_112 : decode cX5_chance 112 = .ok (.lload 5, 2) := by decide +kernel
theorem dX5_chance_114 : decode cX5_chance 114 = .ok (.iload_n 3, 1) := by decide +kernel
theorem dX5_chance_115 : decode cX5_chance 115 = .ok (.i2l, 1) := by decide +kernel
theorem dX5_chance_116 : decode cX5_chance 116 = .ok (.lmul, 1) := by decide +kernel
theorem dX5_chance_117 : decode cX5_chance 117 = .ok (.lstore 5, 2) := by decide +kernel
theorem dX5_chance_119 : decode cX5_chance 119 = .ok (.iinc 7 1, 3) := by decide +kernel
theorem dX5_chance_122 : decode cX5_chance 122 = .ok (.goto (-39), 3) := by decide +kernel
theorem dX5_chance_125 : decode cX5_chance 125 = .ok (.aload_n 0, 1) := by decide +kernel
theorem dX5_chance_126 : decode cX5_chance 126 = .ok (.iload_n 1, 1) := by decide +kernel
theorem dX5_chance_127 : decode cX5_chance 127 = .ok (.iload_n 2, 1) := by decide +kernel
theorem dX5_chance_128 : decode cX5_chance 128 = .ok (.iload_n 3, 1) := by decide +kernel
theorem dX5_chance_129 : decode cX5_chance 129 = .ok (.invokevirtual 321, 3) := by decide +kernel
theorem dX5_chance_132 : decode cX5_chance 132 = .ok (.lload 5, 2) := by decide +kernel
theorem dX5_chance_134 : decode cX5_chance 134 = .ok (.iload 4, 2) := by decide +kernel
theorem dX5_chance_136 : decode cX5_chance 136 = .ok (.invokestatic 325, 3) := by decide +kernel
theorem dX5_chance_139 : decode cX5_chance 139 = .ok (.lreturn, 1) := by decide +kernel
set_option maxRecDepth 100000 in
set_option maxHeartbeats 4000000 in
theorem k_X5_chance (κ : Kp) (xa : Nat → Nat → Nat) (X : XS) (c : Int) (n : Int) (t : Int) (part : Int)  (ha_c : In32 c) (ha_n : In32 n) (ha_t : In32 t) (ha_part : In32 part) (ok : okC (cl (X 0))) (hy : X 0 4 0 ≤ 999) : mL κ yX5_chance cX5_chance 8 4 [.ref (xa 18 100), .int (iI c), .int (iI n), .int (iI t), .int (iI part)] (xw κ xa X) (qXL κ xa X (qChance 1 (cl (X 0)) c n t part) (sChance c n t part)) := by
  refine mL_of (by decide) (Nat.le_of_ble_eq_true rfl) (fun E F K => ?_)
  refine g_lv (lv' := [(0, .ref (xa 18 100)), (1, .int (iI c)), (2, .int (iI n)), (3, .int (iI t)), (4, .int (iI part))]) rfl ?_
  refine g_iload_n F 1 dX5_chance_0 rfl ?_
  refine g_callSI F (stk := [.int (iI c)]) (st := []) (k_X5_isCell κ (xw κ xa X) c (by omega)) cal_X5_isCell lm_X5_134 rfl (by decide) rfl (Nat.le_of_ble_eq_true rfl) dX5_chance_1 (fun r1 ws1 _ hr1 => ?_)
  obtain ⟨rfl, rfl⟩ := hr1
  refine g_if_ne F 13 (b2i_in _) dX5_chance_4 (by decide) (fun c4 => ?_) (fun c4 => ?_)
  · skip
    have c4 : 0 ≤ c ∧ c < 12 := b2i_t c4
    refine g_iload_n F 2 dX5_chance_13 rfl ?_
    refine g_if_lt F 22 (by omega) dX5_chance_14 (by decide) (fun c14 => ?_) (fun c14 => ?_)
    · skip
      refine g_aload_n F 0 dX5_chance_22 rfl ?_
      refine g_bipush F dX5_chance_23 (by decide +kernel) ?_
      refine g_callL F (stk := [.int (iI (-4)), .ref (xa 18 100)]) (st := []) (k_X5_refuseLong κ xa X (-4) (by omega)) cal_X5_refuseLong lm_X5_317 81 rfl rfl rfl rfl (by decide) rfl (Nat.le_of_ble_eq_true rfl) dX5_chance_25 (fun r25 ws25 _ hr25 => ?_)
      obtain ⟨rfl, rfl⟩ := hr25
      have hq : 4000000000000000000 - (-4) = qChance 1 (cl (X 0)) c n t part := by unfold qChance; (repeat' split) <;> omega
      have hsr : sChance c n t part = (-4) := by unfold sChance; (repeat' split) <;> omega
      exact K xw_same ⟨_, rfl, congrArg iL hq, (sX_18 sX_0 rfl rfl rfl), (by rw [hsr]; exact (rfa_r (by omega)).symm)⟩ dX5_chance_28
    · skip
      refine g_iload_n F 3 dX5_chance_17 rfl ?_
      refine g_iconst F dX5_chance_18 ?_
      refine g_icmp_ge F 29 (by omega) dX5_chance_19 (by decide) (fun c19 => ?_) (fun c19 => ?_)
      · skip
        refine g_iload_n F 2 dX5_chance_29 rfl ?_
        refine g_bipush F dX5_chance_30 (by decide +kernel) ?_
        refine g_icmp_gt F 41 (by omega) dX5_chance_32 (by decide) (fun c32 => ?_) (fun c32 => ?_)
        · skip
          refine g_aload_n F 0 dX5_chance_41 rfl ?_
          refine g_bipush F dX5_chance_42 (by decide +kernel) ?_
          refine g_callL F (stk := [.int (iI (-6)), .ref (xa 18 100)]) (st := []) (k_X5_refuseLong κ xa X (-6) (by omega)) cal_X5_refuseLong lm_X5_317 81 rfl rfl rfl rfl (by decide) rfl (Nat.le_of_ble_eq_true rfl) dX5_chance_44 (fun r44 ws44 _ hr44 => ?_)
          obtain ⟨rfl, rfl⟩ := hr44
          have hq : 4000000000000000000 - (-6) = qChance 1 (cl (X 0)) c n t part := by unfold qChance; (repeat' split) <;> omega
          have hsr : sChance c n t part = (-6) := by unfold sChance; (repeat' split) <;> omega
          exact K xw_same ⟨_, rfl, congrArg iL hq, (sX_18 sX_0 rfl rfl rfl), (by rw [hsr]; exact (rfa_r (by omega)).symm)⟩ dX5_chance_47
        · skip
          refine g_iload_n F 3 dX5_chance_35 rfl ?_
          refine g_bipush F dX5_chance_36 (by decide +kernel) ?_
          refine g_icmp_le F 48 (by omega) dX5_chance_38 (by decide) (fun c38 => ?_) (fun c38 => ?_)
          · skip
            refine g_iload F 4 dX5_chance_48 rfl ?_
            refine g_if_lt F 59 (by omega) dX5_chance_50 (by decide) (fun c50 => ?_) (fun c50 => ?_)
            · skip
              refine g_aload_n F 0 dX5_chance_59 rfl ?_
              refine g_bipush F dX5_chance_60 (by decide +kernel) ?_
              refine g_callL F (stk := [.int (iI (-2)), .ref (xa 18 100)]) (st := []) (k_X5_refuseLong κ xa X (-2) (by omega)) cal_X5_refuseLong lm_X5_317 81 rfl rfl rfl rfl (by decide) rfl (Nat.le_of_ble_eq_true rfl) dX5_chance_62 (fun r62 ws62 _ hr62 => ?_)
              obtain ⟨rfl, rfl⟩ := hr62
              have hq : 4000000000000000000 - (-2) = qChance 1 (cl (X 0)) c n t part := by unfold qChance; (repeat' split) <;> omega
              have hsr : sChance c n t part = (-2) := by unfold sChance; (repeat' split) <;> omega
              exact K xw_same ⟨_, rfl, congrArg iL hq, (sX_18 sX_0 rfl rfl rfl), (by rw [hsr]; exact (rfa_r (by omega)).symm)⟩ dX5_chance_65
            · skip
              refine g_iload F 4 dX5_chance_53 rfl ?_
              refine g_iconst F dX5_chance_55 ?_
              refine g_icmp_le F 66 (by omega) dX5_chance_56 (by decide) (fun c56 => ?_) (fun c56 => ?_)
              · skip
                refine g_lconst F (z := 1) dX5_chance_66 rfl ?_
                refine g_lstore F (lv' := [(5, .long (iL 1)), (0, .ref (xa 18 100)), (1, .int (iI c)), (2, .int (iI n)), (3, .int (iI t)), (4, .int (iI part))]) dX5_chance_67 (by decide) rfl ?_
                refine g_aload_n F 1 dX5_chance_69 rfl ?_
                refine g18_get_10 F  lf_X5_50 dX5_chance_70 ?_
                refine g_aload_n F 1 dX5_chance_73 rfl ?_
                refine g18_get_0 F  lf_X5_10 dX5_chance_74 ?_
                refine g_callNV F (stk := [.ref (xa 0 100), .ref (xa 2 100)]) (st := []) (k_X0_become κ xa X 2 (by decide) 0 (by decide) (by decide)) cal_X0_become nm_X5_88 10 rfl rfl rfl rfl (by decide) rfl (Nat.le_of_ble_eq_true rfl) dX5_chance_77 (fun ws77 _ hr77 => ?_)
                obtain rfl := hr77
                refine g_iconst F dX5_chance_80 ?_
                refine g_istore F (lv' := [(7, .int (iI 0)), (5, .long (iL 1)), (0, .ref (xa 18 100)), (1, .int (iI c)), (2, .int (iI n)), (3, .int (iI t)), (4, .int (iI part))]) dX5_chance_81 (by decide) rfl ?_
                have L83 : ∀ (mz83 : Nat) (k : Int) (q : Int) (f : Int → Int) (D : MS), (n - k).toNat = mz83 → (0 ≤ k ∧ k ≤ n) → (q = pwI t k) → (f = upTo (X 18 14) (fun k => wrC (cl (X 0)) c k) k) → G E (xw κ xa (setO (setO X 18 (mA (X 18) 14 f)) 2 (stC D (goI k (cl (X 0)))))) [(7, .int (iI k)), (5, .long (iL q)), (0, .ref (xa 18 100)), (1, .int (iI c)), (2, .int (iI n)), (3, .int (iI t)), (4, .int (iI part))] 83 [] := by
                  intro mz83
                  induction mz83 using Nat.strongRecOn with
                  | _ mz83 ih83 =>
                  intro k q f D hmz83 hk hq hf
                  refine g_iload F 0 dX5_chance_83 rfl ?_
                  refine g_iload_n F 4 dX5_chance_85 rfl ?_
                  refine g_icmp_ge F 125 (by omega) dX5_chance_86 (by decide) (fun c86 => ?_) (fun c86 => ?_)
                  · skip
                    have hfe : ∀ j : Int, 0 ≤ j → j < n → f j = wrC (cl (X 0)) c j := fun j a b => by rw [hf]; exact upTo_in a (by omega)
                    have hqb := pwI_bd (t := t) (k := n) (by omega) (by omega) (by omega)
                    have hqe : q = pwI t n := by rw [hq, show k = n by omega]
                    have hp8 := p2_8 (n := n) (by omega)
                    have hcb := sumI_bd (f := chT 1 (cl (X 0)) c n t) (lo := 0) (hi := 25600000000) (n := p2 n) (by omega) (fun j _ _ => chT_bd 1 (cl (X 0)) c j (by omega) (by omega) (by omega))
                    have hcs : chS 1 (cl (X 0)) c n t = sumI (chT 1 (cl (X 0)) c n t) (p2 n) := rfl
                    refine g_aload_n F 2 dX5_chance_125 rfl ?_
                    refine g_iload_n F 3 dX5_chance_126 rfl ?_
                    refine g_iload_n F 4 dX5_chance_127 rfl ?_
                    refine g_iload_n F 5 dX5_chance_128 rfl ?_
                    refine g_callL F (stk := [.int (iI t), .int (iI n), .int (iI c), .ref (xa 18 100)]) (st := []) (k_X5_waysToHole κ xa (setO (setO X 18 (mA (X 18) 14 f)) 2 (stC D (goI k (cl (X 0))))) c n t (by omega) hfe ok) cal_X5_waysToHole lm_X5_321 81 rfl rfl rfl rfl (by decide) rfl (Nat.le_of_ble_eq_true rfl) dX5_chance_129 (fun r129 ws129 _ hr129 => ?_)
                    obtain ⟨rfl, rfl⟩ := hr129
                    refine g_lload F 1 dX5_chance_132 rfl ?_
                    refine g_iload F 6 dX5_chance_134 rfl ?_
                    refine g_callSL F (stk := [.int (iI part), .long (iL q), .long (iL (chS 1 (cl (X 0)) c n t))]) (st := []) (k_X5_partOf κ (xw κ xa (setO (setO X 18 (mA (X 18) 14 f)) 2 (stC D (goI k (cl (X 0)))))) (chS 1 (cl (X 0)) c n t) q part (by omega)) cal_X5_partOf lm_X5_325 rfl (by decide) rfl (Nat.le_of_ble_eq_true rfl) dX5_chance_136 (fun r136 ws136 _ hr136 => ?_)
                    obtain ⟨rfl, rfl⟩ := hr136
                    have hq : prt (chS 1 (cl (X 0)) c n t) q part = qChance 1 (cl (X 0)) c n t part := by unfold qChance; rw [if_neg (by omega), if_neg (by omega), if_neg (by omega), if_neg (by omega), hqe]
                    have hsr : ¬ (-6 ≤ sChance c n t part ∧ sChance c n t part ≤ -1) := by unfold sChance; (repeat' split) <;> omega
                    exact K xw_same ⟨_, rfl, congrArg iL hq, (sX_o (sX_18 sX_0 rfl rfl rfl) (by decide)), (by exact (rfa_n hsr).symm)⟩ dX5_chance_139
                  · skip
                    have hyk : 0 ≤ yr (goI k (cl (X 0))) ∧ yr (goI k (cl (X 0))) ≤ 990008 := by have e := goI_yr (C := cl (X 0)) hk.1; have e2 : yr (cl (X 0)) = X 0 4 0 := rfl; have e3 := ok.2; omega
                    have hwc := wearing_bd (goI_ok ok k).A (c := c) (y := yr (goI k (cl (X 0))) + 1) (by omega) (by omega)
                    refine g_aload_n F 2 dX5_chance_89 rfl ?_
                    refine g18_get_14 F  lf_X5_66 dX5_chance_90 ?_
                    refine g_iload F 0 dX5_chance_93 rfl ?_
                    refine g_aload_n F 2 dX5_chance_95 rfl ?_
                    refine g18_get_10 F  lf_X5_50 dX5_chance_96 ?_
                    refine g_iload_n F 3 dX5_chance_99 rfl ?_
                    refine g_callNI F (stk := [.int (iI c), .ref (xa 2 100), .int (iI k), .ref (xa 18 14)]) (st := [.int (iI k), .ref (xa 18 14)]) (kS_X0_wearing κ xa (setO X 18 (mA (X 18) 14 f)) 2 (by decide) (stC D (goI k (cl (X 0)))) c (by omega) (show 0 ≤ yr (goI k (cl (X 0))) ∧ yr (goI k (cl (X 0))) < 1000000 by omega) (goI_ok ok k).A) cal_X0_wearing nm_X5_181 10 rfl rfl rfl rfl (by decide) rfl (Nat.le_of_ble_eq_true rfl) dX5_chance_100 (fun r100 ws100 _ hr100 => ?_)
                    obtain ⟨rfl, rfl⟩ := hr100
                    refine g_top (y := iI (wearing (goI k (cl (X 0))) ((stC D (goI k (cl (X 0)))) 4 0 + 1) c)) rfl ?_
                    refine g_top (y := iI (wrC (cl (X 0)) c k)) rfl ?_
                    refine g18_ast_14 F  (by omega) dX5_chance_103 ?_
                    refine g_ws (ws' := xw κ xa (setO (setO (setO X 18 (mA (X 18) 14 f)) 2 (stC D (goI k (cl (X 0))))) 18 (mA (X 18) 14 (uI f k (wrC (cl (X 0)) c k))))) rfl ?_
                    refine g_aload_n F 2 dX5_chance_104 rfl ?_
                    refine g18_get_10 F  lf_X5_50 dX5_chance_105 ?_
                    refine g_iconst F dX5_chance_108 ?_
                    refine g_callNV F (stk := [.int (iI 1), .ref (xa 2 100)]) (st := []) (k_X0_goOn κ xa (setO (setO (setO X 18 (mA (X 18) 14 f)) 2 (stC D (goI k (cl (X 0))))) 18 (mA (X 18) 14 (uI f k (wrC (cl (X 0)) c k)))) 2 (by decide) 1 (show (0 ≤ (1 : Int) ∧ (1 : Int) ≤ 1000) ∧ yr (goI k (cl (X 0))) + 1 ≤ 1000000 by omega) (goI_ok ok k)) cal_X0_goOn nm_X5_166 10 rfl rfl rfl rfl (by decide) rfl (Nat.le_of_ble_eq_true rfl) dX5_chance_109 (fun ws109 _ hr109 => ?_)
                    obtain rfl := hr109
                    refine g_ws (ws' := xw κ xa (setO (setO (setO (setO X 18 (mA (X 18) 14 f)) 2 (stC D (goI k (cl (X 0))))) 18 (mA (X 18) 14 (uI f k (wrC (cl (X 0)) c k)))) 2 (stC D (goI 1 (goI k (cl (X 0))))))) rfl ?_
                    refine g_lload F 1 dX5_chance_112 rfl ?_
                    refine g_iload_n F 5 dX5_chance_114 rfl ?_
                    refine g_i2l F (by omega) dX5_chance_115 ?_
                    refine g_lmul F dX5_chance_116 ?_
                    refine g_lstore F (lv' := [(5, .long (iL (q * t))), (7, .int (iI k)), (0, .ref (xa 18 100)), (1, .int (iI c)), (2, .int (iI n)), (3, .int (iI t)), (4, .int (iI part))]) dX5_chance_117 (by decide) rfl ?_
                    refine g_iinc F (lv' := [(7, .int (iI (k + 1))), (5, .long (iL (q * t))), (0, .ref (xa 18 100)), (1, .int (iI c)), (2, .int (iI n)), (3, .int (iI t)), (4, .int (iI part))]) 1 dX5_chance_119 rfl (by decide) rfl ?_
                    refine g_goto F 83 dX5_chance_122 (by decide) ?_
                    refine g_sub F (lv' := [(7, .int (iI (k + 1))), (5, .long (iL (q * t))), (0, .ref (xa 18 100)), (1, .int (iI c)), (2, .int (iI n)), (3, .int (iI t)), (4, .int (iI part))]) [0, 1, 2, 3, 4, 5, 6] rfl ?_
                    refine g_ws (ws' := xw κ xa (setO (setO X 18 (mA (X 18) 14 (uI f k (wrC (cl (X 0)) c k)))) 2 (stC (stC D (goI 1 (goI k (cl (X 0))))) (goI (k + 1) (cl (X 0)))))) (by rw [goI_s hk.1]; rfl) ?_
                    exact ih83 _ (by omega) (k + 1) (q * t) (uI f k (wrC (cl (X 0)) c k)) (stC D (goI 1 (goI k (cl (X 0))))) rfl (by omega) (by rw [pw_s t hk.1, ← hq]) (by rw [hf, ← upTo_s _ _ hk.1])
                refine g_sub F (lv' := [(7, .int (iI 0)), (5, .long (iL 1)), (0, .ref (xa 18 100)), (1, .int (iI c)), (2, .int (iI n)), (3, .int (iI t)), (4, .int (iI part))]) [0, 1, 2, 3, 4, 5, 6] rfl ?_
                refine g_ws (ws' := xw κ xa (setO (setO X 18 (mA (X 18) 14 ((X 18) 14))) 2 (stC (stC (X 2) (cl (X 0))) (goI 0 (cl (X 0)))))) rfl ?_
                exact L83 _ 0 1 ((X 18) 14) (stC (X 2) (cl (X 0))) rfl (by omega) rfl (upTo_0 _ _).symm
              · skip
                refine g_aload_n F 0 dX5_chance_59 rfl ?_
                refine g_bipush F dX5_chance_60 (by decide +kernel) ?_
                refine g_callL F (stk := [.int (iI (-2)), .ref (xa 18 100)]) (st := []) (k_X5_refuseLong κ xa X (-2) (by omega)) cal_X5_refuseLong lm_X5_317 81 rfl rfl rfl rfl (by decide) rfl (Nat.le_of_ble_eq_true rfl) dX5_chance_62 (fun r62 ws62 _ hr62 => ?_)
                obtain ⟨rfl, rfl⟩ := hr62
                have hq : 4000000000000000000 - (-2) = qChance 1 (cl (X 0)) c n t part := by unfold qChance; (repeat' split) <;> omega
                have hsr : sChance c n t part = (-2) := by unfold sChance; (repeat' split) <;> omega
                exact K xw_same ⟨_, rfl, congrArg iL hq, (sX_18 sX_0 rfl rfl rfl), (by rw [hsr]; exact (rfa_r (by omega)).symm)⟩ dX5_chance_65
          · skip
            refine g_aload_n F 0 dX5_chance_41 rfl ?_
            refine g_bipush F dX5_chance_42 (by decide +kernel) ?_
            refine g_callL F (stk := [.int (iI (-6)), .ref (xa 18 100)]) (st := []) (k_X5_refuseLong κ xa X (-6) (by omega)) cal_X5_refuseLong lm_X5_317 81 rfl rfl rfl rfl (by decide) rfl (Nat.le_of_ble_eq_true rfl) dX5_chance_44 (fun r44 ws44 _ hr44 => ?_)
            obtain ⟨rfl, rfl⟩ := hr44
            have hq : 4000000000000000000 - (-6) = qChance 1 (cl (X 0)) c n t part := by unfold qChance; (repeat' split) <;> omega
            have hsr : sChance c n t part = (-6) := by unfold sChance; (repeat' split) <;> omega
            exact K xw_same ⟨_, rfl, congrArg iL hq, (sX_18 sX_0 rfl rfl rfl), (by rw [hsr]; exact (rfa_r (by omega)).symm)⟩ dX5_chance_47
      · skip
        refine g_aload_n F 0 dX5_chance_22 rfl ?_
        refine g_bipush F dX5_chance_23 (by decide +kernel) ?_
        refine g_callL F (stk := [.int (iI (-4)), .ref (xa 18 100)]) (st := []) (k_X5_refuseLong κ xa X (-4) (by omega)) cal_X5_refuseLong lm_X5_317 81 rfl rfl rfl rfl (by decide) rfl (Nat.le_of_ble_eq_true rfl) dX5_chance_25 (fun r25 ws25 _ hr25 => ?_)
        obtain ⟨rfl, rfl⟩ := hr25
        have hq : 4000000000000000000 - (-4) = qChance 1 (cl (X 0)) c n t part := by unfold qChance; (repeat' split) <;> omega
        have hsr : sChance c n t part = (-4) := by unfold sChance; (repeat' split) <;> omega
        exact K xw_same ⟨_, rfl, congrArg iL hq, (sX_18 sX_0 rfl rfl rfl), (by rw [hsr]; exact (rfa_r (by omega)).symm)⟩ dX5_chance_28
  · skip
    have c4 : ¬ (0 ≤ c ∧ c < 12) := b2i_f c4
    refine g_aload_n F 0 dX5_chance_7 rfl ?_
    refine g_iconst F dX5_chance_8 ?_
    refine g_callL F (stk := [.int (iI (-1)), .ref (xa 18 100)]) (st := []) (k_X5_refuseLong κ xa X (-1) (by omega)) cal_X5_refuseLong lm_X5_317 81 rfl rfl rfl rfl (by decide) rfl (Nat.le_of_ble_eq_true rfl) dX5_chance_9 (fun r9 ws9 _ hr9 => ?_)
    obtain ⟨rfl, rfl⟩ := hr9
    have hq : 4000000000000000000 - (-1) = qChance 1 (cl (X 0)) c n t part := by unfold qChance; (repeat' split) <;> omega
    have hsr : sChance c n t part = (-1) := by unfold sChance; (repeat' split) <;> omega
    exact K xw_same ⟨_, rfl, congrArg iL hq, (sX_18 sX_0 rfl rfl rfl), (by rw [hsr]; exact (rfa_r (by omega)).symm)⟩ dX5_chance_12
