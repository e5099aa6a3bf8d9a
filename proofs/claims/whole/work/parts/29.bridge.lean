/-! BRIDGES: what the class reckons and what the reference reckons -/
theorem and_p2_0 (n c : Nat) : n &&& 2 ^ c = 0 ↔ n / 2 ^ c % 2 = 0 := by
  have e : n.testBit c = decide (n / 2 ^ c % 2 = 1) := Nat.testBit_eq_decide_div_mod_eq
  constructor
  · intro h
    have k : (n &&& 2 ^ c).testBit c = false := by rw [h]; exact Nat.zero_testBit c
    rw [Nat.testBit_and, Nat.testBit_two_pow_self, Bool.and_true, e] at k
    have := of_decide_eq_false k
    omega
  · intro h
    apply Nat.eq_of_testBit_eq
    intro i
    rw [Nat.testBit_and, Nat.zero_testBit]
    by_cases hi : c = i
    · subst hi
      rw [e, decide_eq_false (by omega)]
      rfl
    · rw [Nat.testBit_two_pow_of_ne hi, Bool.and_false]
theorem band_p2 {n c : Int} (hn : 0 ≤ n) (hc : 0 ≤ c) : band n (p2 c) = 0 ↔ n / p2 c % 2 = 0 := by
  have k := and_p2_0 n.toNat c.toNat
  have e : ((n.toNat / 2 ^ c.toNat % 2 : Nat) : Int) = n / p2 c % 2 := by
    unfold p2
    rw [Int.natCast_emod, Int.natCast_ediv, Int.toNat_of_nonneg hn]
    rfl
  unfold band
  rw [← e]
  have e2 : (p2 c).toNat = 2 ^ c.toNat := by unfold p2; exact Int.toNat_natCast _
  rw [e2]
  omega
theorem band_all {n : Int} (hn : 0 ≤ n) (h : n < 4096) : band n 4095 = n := by
  unfold band
  have k := Nat.and_two_pow_sub_one_eq_mod n.toNat 12
  have e : (4095 : Int).toNat = 2 ^ 12 - 1 := by decide
  rw [e, k]
  have : n.toNat % 2 ^ 12 = n.toNat := Nat.mod_eq_of_lt (by omega)
  rw [this]
  omega
theorem hb_bit (C : Cl) {n c : Int} (hn : 0 ≤ n) (hc : 0 ≤ c) (h : c < n) : sumI (hbf C) n / p2 c % 2 = if hole C c then 1 else 0 := by
  obtain ⟨k, rfl⟩ : ∃ k : Nat, n = (k : Int) := ⟨n.toNat, by omega⟩
  induction k with
  | zero => omega
  | succ k ih =>
    have e : ((k + 1 : Nat) : Int) = (k : Int) + 1 := by omega
    rw [e, sumI_s _ (by omega)]
    have hb := hbits_bd C (n := (k : Int)) (by omega)
    have hp := p2_pos c
    by_cases hk : c = (k : Int)
    · subst hk
      by_cases q : hole C (k : Int)
      · have e3 : hbf C (k : Int) = p2 (k : Int) := if_pos q
        rw [e3, if_pos q]
        rw [show sumI (hbf C) (k : Int) + p2 (k : Int) = sumI (hbf C) (k : Int) + 1 * p2 (k : Int) by omega]
        rw [Int.add_mul_ediv_right _ _ (by omega), Int.ediv_eq_zero_of_lt hb.1 hb.2]
        rfl
      · have e3 : hbf C (k : Int) = 0 := if_neg q
        rw [e3, if_neg q]
        rw [Int.add_zero, Int.ediv_eq_zero_of_lt hb.1 hb.2]
        rfl
    · have ih2 := ih (by omega) (by omega)
      rw [← ih2]
      have hd : ∃ d : Int, hbf C (k : Int) = 2 * d * p2 c := by
        unfold hbf
        split
        · obtain ⟨m, hm⟩ : ∃ m : Nat, (k : Int).toNat = c.toNat + 1 + m := ⟨(k : Int).toNat - c.toNat - 1, by omega⟩
          refine ⟨((2 ^ m : Nat) : Int), ?_⟩
          unfold p2
          rw [hm, Nat.pow_add, Nat.pow_add, Int.natCast_mul, Int.natCast_mul, Nat.pow_one, Int.mul_comm (2 : Int), Int.mul_comm ((2 ^ c.toNat : Nat) : Int), Int.mul_comm _ (((2 ^ m : Nat) : Int)), Int.mul_assoc]
          rfl
        · exact ⟨0, by omega⟩
      obtain ⟨d, hd⟩ := hd
      rw [hd, Int.add_mul_ediv_right _ _ (by omega)]
      omega
theorem hb_at (C : Cl) {c : Int} (hc : 0 ≤ c) (h : c < 12) : hbits C / p2 c % 2 = if hole C c then 1 else 0 := hb_bit C (by decide) hc h
theorem hb_p2 (C : Cl) {c : Int} (hc : 0 ≤ c) (h : c < 12) : band (hbits C) (p2 c) = 0 ↔ ¬ hole C c := by
  rw [band_p2 (hbits_in C).1 hc, hb_at C hc h]
  by_cases k : hole C c
  · rw [if_pos k]; exact ⟨fun q => absurd q (by decide), fun q => absurd k q⟩
  · rw [if_neg k]; exact ⟨fun _ => k, fun _ => rfl⟩
theorem hb_0 (C : Cl) : hbits C = 0 ↔ ∀ c : Int, 0 ≤ c → c < 12 → ¬ hole C c := by
  constructor
  · intro h c h0 h1
    have k := hb_at C h0 h1
    rw [h, Int.zero_ediv] at k
    intro q
    rw [if_pos q] at k
    exact absurd k (by decide)
  · intro h
    have e : sumI (hbf C) 12 = sumI (fun _ => 0) 12 := sumI_eq (fun j a b => if_neg (h j a b))
    unfold hbits
    rw [e]
    rfl
theorem hb_allm (C : Cl) : band (hbits C) 4095 = 0 ↔ ∀ c : Int, 0 ≤ c → c < 12 → ¬ hole C c := by
  rw [band_all (hbits_in C).1 (hbits_in C).2]
  exact hb_0 C
theorem goY_in (C : Cl) : ∀ n : Nat, goY n (yearOn C) = yearOn (goY n C)
  | 0 => rfl
  | n + 1 => by show yearOn (goY n (yearOn C)) = yearOn (yearOn (goY n C)); rw [goY_in C n]
theorem goI_in {n : Int} (h : 0 ≤ n) (C : Cl) : goI n (yearOn C) = goI (n + 1) C := by
  rw [goI_s h]
  exact goY_in C n.toNat
theorem yth_at {m : Int} : ∀ (k : Nat) (C : Cl) (s n : Int), (n - s).toNat = k → s ≤ n → n ≤ 60 → band (hbits (goI (n - s) C)) m ≠ 0 → (∀ j : Int, s ≤ j → j < n → band (hbits (goI (j - s) C)) m = 0) → ythI C m s = n
  | 0, C, s, n, hk, h1, h2, hb, _ => by
    have e : n = s := by omega
    subst e
    rw [show n - n = 0 by omega, goI_0] at hb
    rw [yth_s h2, if_neg hb]
  | k + 1, C, s, n, hk, h1, h2, hb, hn => by
    have h0 := hn s (by omega) (by omega)
    rw [show s - s = 0 by omega, goI_0] at h0
    rw [yth_s (by omega), if_pos h0]
    refine yth_at k (yearOn C) (s + 1) n (by omega) (by omega) h2 ?_ ?_
    · rw [goI_in (by omega), show n - (s + 1) + 1 = n - s by omega]; exact hb
    · intro j a b
      rw [goI_in (by omega), show j - (s + 1) + 1 = j - s by omega]
      exact hn j (by omega) b
theorem yth_no {m : Int} : ∀ (k : Nat) (C : Cl) (s : Int), (61 - s).toNat = k → s ≤ 61 → (∀ j : Int, s ≤ j → j ≤ 60 → band (hbits (goI (j - s) C)) m = 0) → ythI C m s = 61
  | 0, C, s, hk, h1, _ => by
    have e : s = 61 := by omega
    subst e
    rfl
  | k + 1, C, s, hk, h1, hn => by
    have h0 := hn s (by omega) (by omega)
    rw [show s - s = 0 by omega, goI_0] at h0
    rw [yth_s (by omega), if_pos h0]
    refine yth_no k (yearOn C) (s + 1) (by omega) (by omega) ?_
    intro j a b
    rw [goI_in (by omega), show j - (s + 1) + 1 = j - s by omega]
    exact hn j (by omega) b
theorem ls_spec (C : Cl) (c : Int) {n : Int} (h : 0 ≤ n) (h2 : n ≤ 61) : (lsI C n c = 61 ∧ ∀ j : Int, 0 ≤ j → j < n → ¬ hole (goI j C) c) ∨ ((0 ≤ lsI C n c ∧ lsI C n c < n) ∧ hole (goI (lsI C n c) C) c ∧ ∀ j : Int, 0 ≤ j → j < lsI C n c → ¬ hole (goI j C) c) := by
  obtain ⟨k, rfl⟩ : ∃ k : Nat, n = (k : Int) := ⟨n.toNat, by omega⟩
  induction k with
  | zero => exact Or.inl ⟨rfl, fun j a b => absurd b (by omega)⟩
  | succ k ih =>
    have e : ((k + 1 : Nat) : Int) = (k : Int) + 1 := by omega
    rw [e, lsI_s C (by omega)]
    rcases ih (by omega) (by omega) with ⟨i1, i2⟩ | ⟨i1, i2, i3⟩
    · by_cases hh : hole (goI (k : Int) C) c
      · rw [if_pos ⟨hh, i1⟩]
        exact Or.inr ⟨by omega, hh, i2⟩
      · rw [if_neg (fun q => hh q.1)]
        refine Or.inl ⟨i1, fun j a b => ?_⟩
        by_cases q : j = (k : Int)
        · rw [q]; exact hh
        · exact i2 j a (by omega)
    · rw [if_neg (fun q => by have := q.2; omega)]
      exact Or.inr ⟨by omega, i2, i3⟩
theorem lasts_spec (C : Cl) (c : Int) : (lasts C c = 61 ∧ ∀ j : Int, 0 ≤ j → j < 61 → ¬ hole (goI j C) c) ∨ ((0 ≤ lasts C c ∧ lasts C c < 61) ∧ hole (goI (lasts C c) C) c ∧ ∀ j : Int, 0 ≤ j → j < lasts C c → ¬ hole (goI j C) c) := ls_spec C c (by decide) (by decide)
theorem yth_cell (C : Cl) {c : Int} (hc : 0 ≤ c) (h : c < 12) : ythI C (p2 c) 0 = lasts C c := by
  rcases lasts_spec C c with ⟨i1, i2⟩ | ⟨i1, i2, i3⟩
  · rw [i1]
    refine yth_no _ C 0 rfl (by decide) (fun j a b => ?_)
    rw [show j - 0 = j by omega]
    exact (hb_p2 _ hc h).mpr (i2 j a (by omega))
  · refine yth_at _ C 0 _ rfl (by omega) (by omega) ?_ (fun j a b => ?_)
    · rw [show lasts C c - 0 = lasts C c by omega]
      exact fun q => absurd i2 ((hb_p2 _ hc h).mp q)
    · rw [show j - 0 = j by omega]
      exact (hb_p2 _ hc h).mpr (i3 j a b)
theorem amin_le (f : Int → Int) {n : Int} (h : 1 ≤ n) : (∀ j : Int, 0 ≤ j → j < n → f (amin f n) ≤ f j) ∧ ∀ j : Int, 0 ≤ j → j < amin f n → f (amin f n) < f j := by
  obtain ⟨k, rfl⟩ : ∃ k : Nat, n = (k : Int) + 1 := ⟨(n - 1).toNat, by omega⟩
  induction k with
  | zero =>
    rw [show ((0 : Nat) : Int) + 1 = 1 by rfl, amin_1]
    refine ⟨fun j a b => ?_, fun j a b => absurd b (by omega)⟩
    rw [show j = 0 by omega]
    exact Int.le_refl _
  | succ k ih =>
    have ih := ih (by omega)
    have hi := amin_in f (n := (k : Int) + 1) (by omega)
    have e : ((k + 1 : Nat) : Int) + 1 = ((k : Int) + 1) + 1 := by omega
    rw [e, amin_s f (by omega)]
    by_cases q : f ((k : Int) + 1) < f (amin f ((k : Int) + 1))
    · rw [if_pos q]
      refine ⟨fun j a b => ?_, fun j a b => ?_⟩
      · by_cases r : j = (k : Int) + 1
        · rw [r]; exact Int.le_refl _
        · have := ih.1 j a (by omega); omega
      · have := ih.1 j a b; omega
    · rw [if_neg q]
      refine ⟨fun j a b => ?_, ih.2⟩
      by_cases r : j = (k : Int) + 1
      · rw [r]; omega
      · exact ih.1 j a (by omega)
theorem hole_lasts (C : Cl) {c n : Int} (h0 : 0 ≤ n) (h1 : n < 61) (hh : hole (goI n C) c) : lasts C c ≤ n := by
  rcases lasts_spec C c with ⟨i1, i2⟩ | ⟨i1, i2, i3⟩
  · exact absurd hh (i2 n h0 h1)
  · by_cases q : n < lasts C c
    · exact absurd hh (i3 n h0 q)
    · omega
theorem mn_le (C : Cl) {c : Int} (hc : 0 ≤ c) (h : c < 12) : mn C ≤ lasts C c := (amin_le (lasts C) (n := 12) (by decide)).1 c hc h
theorem yth_all (C : Cl) : ythI C 4095 0 = mn C := by
  have hb := lasts_bd C (amin (lasts C) 12)
  have hi := amin_in (lasts C) (n := 12) (by decide)
  have hno : ∀ j : Int, 0 ≤ j → j < mn C → j < 61 → band (hbits (goI j C)) 4095 = 0 := by
    intro j a b d
    refine (hb_allm _).mpr (fun c c0 c1 q => ?_)
    have h1 := hole_lasts C a d q
    have h2 := mn_le C c0 c1
    omega
  unfold mn at hno ⊢
  by_cases k : lasts C (amin (lasts C) 12) = 61
  · rw [k]
    rw [k] at hno
    refine yth_no _ C 0 rfl (by decide) (fun j a b => ?_)
    rw [show j - 0 = j by omega]
    exact hno j a (by omega) (by omega)
  · refine yth_at _ C 0 _ rfl (by omega) (by omega) ?_ (fun j a b => ?_)
    · rw [show lasts C (amin (lasts C) 12) - 0 = lasts C (amin (lasts C) 12) by omega]
      rcases lasts_spec C (amin (lasts C) 12) with ⟨i1, i2⟩ | ⟨i1, i2, i3⟩
      · exact absurd i1 k
      · exact fun q => (hb_allm _).mp q _ hi.1 hi.2 i2
    · rw [show j - 0 = j by omega]
      exact hno j a b (by omega)
/-- the first of the holes when first there is one -/
theorem first_hole (C : Cl) (h : mn C ≠ 61) : hole (goI (mn C) C) (amin (lasts C) 12) ∧ ∀ c : Int, 0 ≤ c → c < amin (lasts C) 12 → ¬ hole (goI (mn C) C) c := by
  have hb := lasts_bd C (amin (lasts C) 12)
  have hi := amin_in (lasts C) (n := 12) (by decide)
  unfold mn at h ⊢
  rcases lasts_spec C (amin (lasts C) 12) with ⟨i1, i2⟩ | ⟨i1, i2, i3⟩
  · exact absurd i1 h
  · refine ⟨i2, fun c a b q => ?_⟩
    have h1 := hole_lasts C i1.1 i1.2 q
    have h2 := (amin_le (lasts C) (n := 12) (by decide)).2 c a b
    omega
/-- the least place of a bit -/
def lstN (z : Int) : Nat → Int → Int
  | 0, _ => -9
  | k + 1, c => if z / p2 c % 2 = 1 then c else lstN z k (c + 1)
def lstI (z c : Int) : Int := lstN z (12 - c).toNat c
theorem lst_s (z : Int) {c : Int} (h : c < 12) : lstI z c = if z / p2 c % 2 = 1 then c else lstI z (c + 1) := by
  unfold lstI
  rw [show (12 - c).toNat = (12 - (c + 1)).toNat + 1 by omega]
  rfl
theorem lst_12 (z : Int) : lstI z 12 = -9 := rfl
theorem lst_at (z : Int) : ∀ (k : Nat) (a c : Int), (c - a).toNat = k → a ≤ c → c < 12 → z / p2 c % 2 = 1 → (∀ j : Int, a ≤ j → j < c → z / p2 j % 2 ≠ 1) → lstI z a = c
  | 0, a, c, hk, h1, h2, hz, _ => by
    have e : a = c := by omega
    subst e
    rw [lst_s z h2, if_pos hz]
  | k + 1, a, c, hk, h1, h2, hz, hn => by
    rw [lst_s z (by omega), if_neg (hn a (by omega) (by omega))]
    exact lst_at z k (a + 1) c (by omega) (by omega) h2 hz (fun j x y => hn j (by omega) y)
theorem lst_first (C : Cl) (h : mn C ≠ 61) : lstI (hbits (goI (mn C) C)) 0 = amin (lasts C) 12 := by
  have hi := amin_in (lasts C) (n := 12) (by decide)
  have hf := first_hole C h
  refine lst_at _ _ 0 _ rfl hi.1 hi.2 ?_ (fun j a b => ?_)
  · rw [hb_at _ hi.1 hi.2, if_pos hf.1]
  · rw [hb_at _ a (by omega), if_neg (hf.2 j a b)]
    decide
theorem smx_amax (f : Int → Int) {n : Int} (h : 1 ≤ n) (hf : ∀ j : Int, 0 ≤ j → j < n → 0 ≤ f j) : smx yes f (fun c => c) (0, -1) n = (amax f n, f (amax f n)) := by
  obtain ⟨k, rfl⟩ : ∃ k : Nat, n = (k : Int) + 1 := ⟨(n - 1).toNat, by omega⟩
  induction k with
  | zero =>
    have h0 := hf 0 (by decide) (by decide)
    rw [show ((0 : Nat) : Int) + 1 = 0 + 1 by rfl, smx_t (smx_0 yes f (fun c => c) 0 (-1)) (by decide) rfl (by omega), show amax f (0 + 1) = 0 from amax_1 f]
  | succ k ih =>
    have ih := ih (by omega) (fun j a b => hf j a (by omega))
    have e : ((k + 1 : Nat) : Int) + 1 = ((k : Int) + 1) + 1 := by omega
    rw [e, amax_s f (by omega)]
    by_cases q : f (amax f ((k : Int) + 1)) < f ((k : Int) + 1)
    · rw [if_pos q]
      exact smx_t ih (by omega) rfl q
    · rw [if_neg q]
      exact smx_f ih (by omega) (Or.inr (by omega))
