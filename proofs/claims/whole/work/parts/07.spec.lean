/-! WHAT IS SAID OF BOTH SIDES: truth values, sums, bits; then cloth -/
def b2i (p : Prop) [Decidable p] : Int := if p then 1 else 0
theorem b2i_in (p : Prop) [Decidable p] : In32 (b2i p) := by
  unfold b2i
  by_cases h : p
  · rw [if_pos h]; decide
  · rw [if_neg h]; decide
theorem b2i_t {p : Prop} [Decidable p] (h : b2i p ≠ 0) : p := by
  by_cases k : p
  · exact k
  · exact absurd (if_neg k) h
theorem b2i_f {p : Prop} [Decidable p] (h : b2i p = 0) : ¬ p := fun k => by
  have e : b2i p = 1 := if_pos k
  omega
theorem b2i_1 {p : Prop} [Decidable p] (h : p) : iI 1 = iI (b2i p) := by unfold b2i; rw [if_pos h]
theorem b2i_0 {p : Prop} [Decidable p] (h : ¬ p) : iI 0 = iI (b2i p) := by unfold b2i; rw [if_neg h]
theorem b2i_c {p q : Prop} [Decidable p] [Decidable q] (h : p ↔ q) : iI (b2i p) = iI (b2i q) := by
  by_cases k : p
  · unfold b2i; rw [if_pos k, if_pos (h.mp k)]
  · unfold b2i; rw [if_neg k, if_neg (fun z => k (h.mpr z))]
theorem b2i_nar (p : Prop) [Decidable p] : narrow .boolean (.int (iI (b2i p))) = .int (iI (b2i p)) := by
  by_cases h : p
  · unfold b2i; rw [if_pos h]; decide +kernel
  · unfold b2i; rw [if_neg h]; decide +kernel
theorem b2i_01 (p : Prop) [Decidable p] : b2i p = 0 ∨ b2i p = 1 := by
  by_cases h : p
  · exact Or.inr (if_pos h)
  · exact Or.inl (if_neg h)
theorem icmp_in (a b : Int) : In32 (icmp a b) := by unfold icmp; split; decide; split <;> decide
theorem icmp_ltt {a b : Int} (h : icmp a b < 0) : a < b := by unfold icmp at h; split at h; omega; split at h <;> omega
theorem icmp_ltf {a b : Int} (h : 0 ≤ icmp a b) : b ≤ a := by unfold icmp at h; split at h; omega; split at h <;> omega
theorem icmp_get {a b : Int} (h : 0 ≤ icmp a b) : b ≤ a := icmp_ltf h
theorem icmp_gef {a b : Int} (h : icmp a b < 0) : a < b := icmp_ltt h
theorem icmp_gtt {a b : Int} (h : 0 < icmp a b) : b < a := by unfold icmp at h; split at h; omega; split at h <;> omega
theorem icmp_gtf {a b : Int} (h : icmp a b ≤ 0) : a ≤ b := by unfold icmp at h; split at h; omega; split at h <;> omega
theorem icmp_let {a b : Int} (h : icmp a b ≤ 0) : a ≤ b := icmp_gtf h
theorem icmp_lef {a b : Int} (h : 0 < icmp a b) : b < a := icmp_gtt h
theorem icmp_eqt {a b : Int} (h : icmp a b = 0) : a = b := by unfold icmp at h; split at h; omega; split at h <;> omega
theorem icmp_eqf {a b : Int} (h : icmp a b ≠ 0) : a ≠ b := by unfold icmp at h; split at h; omega; split at h <;> omega
theorem icmp_net {a b : Int} (h : icmp a b ≠ 0) : a ≠ b := icmp_eqf h
theorem icmp_nef {a b : Int} (h : icmp a b = 0) : a = b := icmp_eqt h
/-- sums over 0 .. n-1 -/
def sumN (f : Int → Int) : Nat → Int
  | 0 => 0
  | n + 1 => sumN f n + f (n : Int)
def sumI (f : Int → Int) (n : Int) : Int := sumN f n.toNat
theorem sumI_0 (f : Int → Int) : sumI f 0 = 0 := rfl
theorem sumI_s (f : Int → Int) {n : Int} (h : 0 ≤ n) : sumI f (n + 1) = sumI f n + f n := by
  unfold sumI
  rw [show (n + 1).toNat = n.toNat + 1 by omega]
  show sumN f n.toNat + f ((n.toNat : Nat) : Int) = _
  rw [Int.toNat_of_nonneg h]
theorem sumN_bd {f : Int → Int} {lo hi : Int} : ∀ n : Nat, (∀ j : Int, 0 ≤ j → j < n → lo ≤ f j ∧ f j ≤ hi) → (n : Int) * lo ≤ sumN f n ∧ sumN f n ≤ (n : Int) * hi := by
  intro n
  induction n with
  | zero => intro _; exact ⟨by show (0 : Int) * lo ≤ 0; omega, by show (0 : Int) ≤ 0 * hi; omega⟩
  | succ n ih =>
    intro h
    have h1 := ih (fun j h0 h1 => h j h0 (by omega))
    have h2 := h (n : Int) (by omega) (by omega)
    show ((n + 1 : Nat) : Int) * lo ≤ sumN f n + f (n : Int) ∧ sumN f n + f (n : Int) ≤ ((n + 1 : Nat) : Int) * hi
    rw [show ((n + 1 : Nat) : Int) = (n : Int) + 1 by omega, Int.add_mul, Int.add_mul, Int.one_mul, Int.one_mul]
    omega
theorem sumI_bd {f : Int → Int} {lo hi n : Int} (h0 : 0 ≤ n) (h : ∀ j : Int, 0 ≤ j → j < n → lo ≤ f j ∧ f j ≤ hi) : n * lo ≤ sumI f n ∧ sumI f n ≤ n * hi := by
  have h1 := sumN_bd (f := f) (lo := lo) (hi := hi) n.toNat (fun j a b => h j a (by omega))
  rw [Int.toNat_of_nonneg h0] at h1
  exact h1
theorem sumN_eq {f g : Int → Int} : ∀ n : Nat, (∀ j : Int, 0 ≤ j → j < n → f j = g j) → sumN f n = sumN g n := by
  intro n
  induction n with
  | zero => intro _; rfl
  | succ n ih =>
    intro h
    show sumN f n + f (n : Int) = sumN g n + g (n : Int)
    rw [ih (fun j a b => h j a (by omega)), h (n : Int) (by omega) (by omega)]
theorem sumI_eq {f g : Int → Int} {n : Int} (h : ∀ j : Int, 0 ≤ j → j < n → f j = g j) : sumI f n = sumI g n := sumN_eq n.toNat (fun j a b => h j a (by omega))
/-- bits -/
def p2 (c : Int) : Int := ((2 ^ c.toNat : Nat) : Int)
def band (a b : Int) : Int := ((a.toNat &&& b.toNat : Nat) : Int)
def bor (a b : Int) : Int := ((a.toNat ||| b.toNat : Nat) : Int)
theorem nI_and (a b : Nat) : nI a &&& nI b = nI (a &&& b) := by
  apply Int32.toBitVec_inj.1
  show BitVec.ofNat 32 a &&& BitVec.ofNat 32 b = BitVec.ofNat 32 (a &&& b)
  apply BitVec.eq_of_getLsbD_eq
  intro i hi
  simp [hi]
theorem nI_or (a b : Nat) : nI a ||| nI b = nI (a ||| b) := by
  apply Int32.toBitVec_inj.1
  show BitVec.ofNat 32 a ||| BitVec.ofNat 32 b = BitVec.ofNat 32 (a ||| b)
  apply BitVec.eq_of_getLsbD_eq
  intro i hi
  simp [hi]
theorem iI_toN {a : Int} (h : 0 ≤ a) : iI a = nI a.toNat := by rw [← iI_nat, Int.toNat_of_nonneg h]
theorem iI_band {a b : Int} (ha : 0 ≤ a) (hb : 0 ≤ b) : iI a &&& iI b = iI (band a b) := by rw [iI_toN ha, iI_toN hb, nI_and, band, iI_nat]
theorem iI_bor {a b : Int} (ha : 0 ≤ a) (hb : 0 ≤ b) : iI a ||| iI b = iI (bor a b) := by rw [iI_toN ha, iI_toN hb, nI_or, bor, iI_nat]
theorem iI_sh31 {c : Int} (h0 : 0 ≤ c) (h1 : c ≤ 31) : ((iI c &&& 31).toBitVec.smod 32).toNat = c.toNat := by
  rw [iI_toN h0]
  exact (by decide +kernel : ∀ n : Nat, n < 32 → ((nI n &&& 31).toBitVec.smod 32).toNat = n) c.toNat (by omega)
theorem iI_shl1 {c : Int} (h0 : 0 ≤ c) (h1 : c ≤ 30) : iI 1 <<< (iI c &&& 31) = iI (p2 c) := by
  rw [show iI 1 = nI 1 by decide +kernel, pk_shlN _ c.toNat (iI_sh31 h0 (by omega)), Nat.one_mul, p2, iI_nat]
  rw [Nat.one_mul]
  exact Nat.pow_lt_pow_right (by decide) (by omega)
theorem iI_shr {a c : Int} (ha : 0 ≤ a) (ha2 : a ≤ 2147483647) (h0 : 0 ≤ c) (h1 : c ≤ 31) : iI a >>> (iI c &&& 31) = iI (a / p2 c) := by
  rw [iI_toN ha, pk_shrN (by omega) _ c.toNat (iI_sh31 h0 h1), ← iI_nat, p2]
  congr 1
  rw [Int.natCast_ediv, Int.toNat_of_nonneg ha]
theorem iI_and1 {a : Int} (ha : 0 ≤ a) : iI a &&& iI 1 = iI (a % 2) := by
  rw [iI_band ha (by decide), band, show (1 : Int).toNat = 2 ^ 1 - 1 by decide, Nat.and_two_pow_sub_one_eq_mod]
  congr 1
  omega
theorem p2_pos (c : Int) : 0 < p2 c := by unfold p2; have := Nat.two_pow_pos c.toNat; omega
theorem p2_s {c : Int} (h : 0 ≤ c) : p2 (c + 1) = 2 * p2 c := by
  unfold p2
  rw [show (c + 1).toNat = c.toNat + 1 by omega, Nat.pow_succ]
  omega
theorem bor_p2 {a c : Int} (h0 : 0 ≤ a) (h1 : a < p2 c) : bor a (p2 c) = a + p2 c := by
  unfold bor p2 at *
  have e : a.toNat < 2 ^ c.toNat := by omega
  have h2 := Nat.two_pow_add_eq_or_of_lt e 1
  rw [Nat.mul_one] at h2
  rw [Int.toNat_natCast, Nat.or_comm, ← h2]
  omega
theorem bor_0 {a : Int} (h0 : 0 ≤ a) : bor a 0 = a := by
  unfold bor
  rw [show (0 : Int).toNat = 0 by decide, Nat.or_zero]
  omega
/-! CLOTH: kinds, figures, ages, wears, the year -/
abbrev Cl : Type := (Int → Int) × (Int → Int) × (Int → Int) × (Int → Int) × Int
abbrev ki (C : Cl) : Int → Int := C.1
abbrev fi (C : Cl) : Int → Int := C.2.1
abbrev ag (C : Cl) : Int → Int := C.2.2.1
abbrev we (C : Cl) : Int → Int := C.2.2.2.1
abbrev yr (C : Cl) : Int := C.2.2.2.2
abbrev cl (M : Nat → Int → Int) : Cl := (M 0, M 1, M 2, M 3, M 4 0)
def apt (a : Int → Int) (c w : Int) : Int := if nb c w < 0 then 0 else ((a c - a (nb c w)).natAbs : Int)
def cnt1 (c w : Int) : Int := if nb c w < 0 then 0 else 1
def clo (C : Cl) (c : Int) : Int := sumI (apt (ag C) c) 4 / 4
def pull (C : Cl) (c : Int) : Int := if ki C c = 1 then clo C c / 2 else if ki C c = 2 then clo C c + sumI (cnt1 c) 4 else if ki C c = 3 then clo C c / 2 + fi C c / 3 else if ki C c = 4 then 2 * clo C c else if ki C c = 5 then max 0 (2 * clo C c - fi C c) else clo C c
def wearing (C : Cl) (y c : Int) : Int := if ki C c = 2 then 2 + pull C c / 5 else if ki C c = 3 then (if y % 2 = 0 then 0 else 1 + pull C c / 5) else if ki C c = 5 then pull C c / 5 else 1 + pull C c / 5
def hold (C : Cl) (c : Int) : Int := if ki C c = 1 ∨ ki C c = 3 then 15 + fi C c else if ki C c = 2 then (10 + fi C c) / 2 else if ki C c = 4 then 5 else if ki C c = 5 then 10 else 10 + fi C c
abbrev hole (C : Cl) (c : Int) : Prop := hold C c ≤ we C c
def hbf (C : Cl) (c : Int) : Int := if hole C c then p2 c else 0
def hbits (C : Cl) : Int := sumI (hbf C) 12
def allPull (C : Cl) : Int := sumI (pull C) 12
def allWear (C : Cl) : Int := sumI (we C) 12
def allAge (C : Cl) : Int := sumI (ag C) 12
def wearOn (C : Cl) (c : Int) : Int := min 99 (we C c + wearing C (yr C + 1) c)
def ageOn (C : Cl) (v c : Int) : Int := min 99 (ag C c + v)
def yearOn (C : Cl) : Cl := (ki C, fi C, upTo (ag C) (ageOn C 1) 12, upTo (we C) (wearOn C) 12, yr C + 1)
def goY : Nat → Cl → Cl
  | 0, C => C
  | n + 1, C => yearOn (goY n C)
def goI (n : Int) (C : Cl) : Cl := goY n.toNat C
theorem goI_0 (C : Cl) : goI 0 C = C := rfl
theorem goI_s {n : Int} (h : 0 ≤ n) (C : Cl) : goI (n + 1) C = yearOn (goI n C) := by
  unfold goI
  rw [show (n + 1).toNat = n.toNat + 1 by omega]
  rfl
def rngC (C : Cl) (c : Int) : Prop := (0 ≤ ki C c ∧ ki C c ≤ 5) ∧ (0 ≤ fi C c ∧ fi C c ≤ 9) ∧ (0 ≤ ag C c ∧ ag C c ≤ 99) ∧ 0 ≤ we C c ∧ we C c ≤ 99
def okC (C : Cl) : Prop := (∀ c : Int, 0 ≤ c → c < 12 → rngC C c) ∧ 0 ≤ yr C
theorem okC.r {C : Cl} (h : okC C) {c : Int} (h0 : 0 ≤ c) (h1 : c < 12) : (0 ≤ ki C c ∧ ki C c ≤ 5) ∧ (0 ≤ fi C c ∧ fi C c ≤ 9) ∧ (0 ≤ ag C c ∧ ag C c ≤ 99) ∧ 0 ≤ we C c ∧ we C c ≤ 99 := h.1 c h0 h1
/-- what pulls and wears need -/
def okA (C : Cl) : Prop := ∀ c : Int, 0 ≤ c → c < 12 → (0 ≤ ki C c ∧ ki C c ≤ 5) ∧ (0 ≤ fi C c ∧ fi C c ≤ 9) ∧ 0 ≤ ag C c ∧ ag C c ≤ 99
theorem okC.A {C : Cl} (h : okC C) : okA C := fun c h0 h1 => by
  have := h.r h0 h1
  omega
theorem nb_in {c w : Int} (h0 : 0 ≤ c) (h1 : c < 12) (w0 : 0 ≤ w) (w1 : w < 4) : -1 ≤ nb c w ∧ nb c w < 12 := by
  unfold nb
  split
  · split <;> omega
  · split
    · split <;> omega
    · split
      · split <;> omega
      · split <;> omega
theorem bes_nb {c w : Int} (w0 : 0 ≤ w) (w1 : w < 4) : bes (c * 4 + w) = nb c w := by
  unfold bes
  rw [show (c * 4 + w) / 4 = c by omega, show (c * 4 + w) % 4 = w by omega]
theorem apt_bd {C : Cl} (ok : okA C) {c w : Int} (h0 : 0 ≤ c) (h1 : c < 12) (w0 : 0 ≤ w) (w1 : w < 4) : 0 ≤ apt (ag C) c w ∧ apt (ag C) c w ≤ 99 := by
  have hn := nb_in h0 h1 w0 w1
  have h2 := ok c h0 h1
  unfold apt
  split
  · omega
  · have h3 := ok (nb c w) (by omega) (by omega)
    omega
theorem cnt1_bd (c w : Int) : 0 ≤ cnt1 c w ∧ cnt1 c w ≤ 1 := by unfold cnt1; split <;> omega
theorem clo_bd {C : Cl} (ok : okA C) {c : Int} (h0 : 0 ≤ c) (h1 : c < 12) : 0 ≤ clo C c ∧ clo C c ≤ 99 := by
  have h := sumI_bd (f := apt (ag C) c) (lo := 0) (hi := 99) (n := 4) (by decide) (fun j a b => apt_bd ok h0 h1 a b)
  unfold clo
  omega
theorem pull_bd {C : Cl} (ok : okA C) {c : Int} (h0 : 0 ≤ c) (h1 : c < 12) : 0 ≤ pull C c ∧ pull C c ≤ 250 := by
  have h := clo_bd ok h0 h1
  have h2 := sumI_bd (f := cnt1 c) (lo := 0) (hi := 1) (n := 4) (by decide) (fun j a b => cnt1_bd c j)
  have h3 := ok c h0 h1
  unfold pull
  repeat' split
  all_goals omega
theorem wearing_bd {C : Cl} (ok : okA C) {c y : Int} (h0 : 0 ≤ c) (h1 : c < 12) : 0 ≤ wearing C y c ∧ wearing C y c ≤ 100 := by
  have h := pull_bd ok h0 h1
  unfold wearing
  repeat' split
  all_goals omega
theorem hold_bd {C : Cl} (ok : okA C) {c : Int} (h0 : 0 ≤ c) (h1 : c < 12) : 5 ≤ hold C c ∧ hold C c ≤ 24 := by
  have h3 := ok c h0 h1
  unfold hold
  repeat' split
  all_goals omega
theorem yearOn_ok {C : Cl} (ok : okC C) : okC (yearOn C) := by
  refine ⟨fun c h0 h1 => ?_, ?_⟩
  · have h := ok.r h0 h1
    have hw := wearing_bd ok.A (y := yr C + 1) h0 h1
    have e1 : upTo (ag C) (ageOn C 1) 12 c = ageOn C 1 c := upTo_in h0 h1
    have e2 : upTo (we C) (wearOn C) 12 c = wearOn C c := upTo_in h0 h1
    refine ⟨h.1, h.2.1, ?_, ?_⟩
    · show 0 ≤ upTo (ag C) (ageOn C 1) 12 c ∧ upTo (ag C) (ageOn C 1) 12 c ≤ 99
      rw [e1]; unfold ageOn; omega
    · show 0 ≤ upTo (we C) (wearOn C) 12 c ∧ upTo (we C) (wearOn C) 12 c ≤ 99
      rw [e2]; unfold wearOn; omega
  · have := ok.2
    show 0 ≤ yr C + 1
    omega
theorem goY_ok {C : Cl} (ok : okC C) : ∀ n : Nat, okC (goY n C) := by
  intro n
  induction n with
  | zero => exact ok
  | succ n ih => exact yearOn_ok ih
theorem goI_ok {C : Cl} (ok : okC C) (n : Int) : okC (goI n C) := goY_ok ok n.toNat
theorem goY_yr {C : Cl} : ∀ n : Nat, yr (goY n C) = yr C + n := by
  intro n
  induction n with
  | zero => show yr C = yr C + 0; omega
  | succ n ih => show yr (goY n C) + 1 = _; omega
theorem goI_yr {C : Cl} {n : Int} (h : 0 ≤ n) : yr (goI n C) = yr C + n := by
  have := goY_yr (C := C) n.toNat
  unfold goI
  omega
theorem p2_le {c n : Int} (h : c ≤ n) : p2 c ≤ p2 n := by
  unfold p2
  have := Nat.pow_le_pow_right (n := 2) (by decide) (show c.toNat ≤ n.toNat by omega)
  omega
theorem hbits_bd (C : Cl) {n : Int} (h : 0 ≤ n) : 0 ≤ sumI (hbf C) n ∧ sumI (hbf C) n < p2 n := by
  obtain ⟨k, rfl⟩ : ∃ k : Nat, n = (k : Int) := ⟨n.toNat, by omega⟩
  induction k with
  | zero =>
    show 0 ≤ sumI (hbf C) 0 ∧ sumI (hbf C) 0 < p2 0
    rw [sumI_0]
    decide
  | succ k ih =>
    have h1 := ih (by omega)
    have e : ((k + 1 : Nat) : Int) = (k : Int) + 1 := by omega
    rw [e, sumI_s _ (by omega), p2_s (by omega)]
    have hp := p2_pos (k : Int)
    by_cases hh : hole C (k : Int)
    · have e2 : hbf C (k : Int) = p2 (k : Int) := if_pos hh
      omega
    · have e2 : hbf C (k : Int) = 0 := if_neg hh
      omega
theorem apt_pos {a : Int → Int} {c w : Int} (h : 0 ≤ nb c w) : apt a c w = ((a c - a (nb c w)).natAbs : Int) := if_neg (by omega)
theorem apt_neg {a : Int → Int} {c w : Int} (h : nb c w < 0) : apt a c w = 0 := if_pos h
theorem cnt1_pos {c w : Int} (h : 0 ≤ nb c w) : cnt1 c w = 1 := if_neg (by omega)
theorem cnt1_neg {c w : Int} (h : nb c w < 0) : cnt1 c w = 0 := if_pos h
theorem clo_sum {C : Cl} {c s i : Int} (hs : s = sumI (apt (ag C) c) i) (hi : i = 4) : s / 4 = clo C c := by rw [hs, hi]; rfl
theorem aptSum_bd {C : Cl} (ok : okA C) {c i : Int} (h0 : 0 ≤ c) (h1 : c < 12) (i0 : 0 ≤ i) (i1 : i ≤ 4) : 0 ≤ sumI (apt (ag C) c) i ∧ sumI (apt (ag C) c) i ≤ 396 := by
  have h := sumI_bd (f := apt (ag C) c) (lo := 0) (hi := 99) (n := i) i0 (fun j a b => apt_bd ok h0 h1 a (by omega))
  omega
/-- a cloth laid into a state -/
def stC (M : Nat → Int → Int) (C : Cl) : Nat → Int → Int := fun a => if a = 0 then ki C else if a = 1 then fi C else if a = 2 then ag C else if a = 3 then we C else if a = 4 then (fun _ => yr C) else M a
theorem cl_stC (M : Nat → Int → Int) (C : Cl) : cl (stC M C) = C := rfl
theorem stC_stC (M : Nat → Int → Int) (C D : Cl) : stC (stC M C) D = stC M D := by
  funext a
  unfold stC
  repeat' split
  all_goals rfl
def make (C : Cl) (c k f a : Int) : Cl := (uI (ki C) c k, uI (fi C) c f, uI (ag C) c a, uI (we C) c 0, yr C)
theorem iIc {a b : Int} (h : a = b) : iI a = iI b := congrArg iI h
