/-! TROUSERS: letters read -/
def lt (L : Int → Int) (n p : Int) : Int := if 0 ≤ p ∧ p < n then L p else -1
def szC (c : Int) : Int := if c = 99 then 10 else if c = 114 ∨ c = 119 then 6 else if c = 112 then 5 else if c = 121 then 4 else 0
abbrev dig (x : Int) : Prop := 48 ≤ x ∧ x ≤ 57
def ndgN (L : Int → Int) (n : Int) : Nat → Int → Int
  | 0, _ => -1
  | k + 1, p => if dig (lt L n p) then ndgN L n k (p + 1) else p
def ndg (L : Int → Int) (n p k : Int) : Int := ndgN L n k.toNat p
theorem ndg_s (L : Int → Int) (n p : Int) {k : Int} (h : 1 ≤ k) : ndg L n p k = if dig (lt L n p) then ndg L n (p + 1) (k - 1) else p := by
  unfold ndg
  rw [show k.toNat = (k - 1).toNat + 1 by omega]
  rfl
theorem ndg_0 (L : Int → Int) (n p : Int) {k : Int} (h : k ≤ 0) : ndg L n p k = -1 := by
  unfold ndg
  rw [show k.toNat = 0 by omega]
  rfl
theorem ndg_bdN (L : Int → Int) (n : Int) : ∀ (k : Nat) (p : Int), ndgN L n k p = -1 ∨ (p ≤ ndgN L n k p ∧ ndgN L n k p < p + k)
  | 0, _ => Or.inl rfl
  | k + 1, p => by
    show (if dig (lt L n p) then ndgN L n k (p + 1) else p) = -1 ∨ (p ≤ (if dig (lt L n p) then ndgN L n k (p + 1) else p) ∧ (if dig (lt L n p) then ndgN L n k (p + 1) else p) < p + ((k + 1 : Nat) : Int))
    have ih := ndg_bdN L n k (p + 1)
    split <;> omega
theorem ndg_bd (L : Int → Int) (n p k : Int) : ndg L n p k = -1 ∨ (p ≤ ndg L n p k ∧ ndg L n p k < p + k) := by
  have h := ndg_bdN L n k.toNat p
  unfold ndg
  by_cases q : 0 ≤ k
  · omega
  · have e : k.toNat = 0 := by omega
    rw [e] at h ⊢
    exact Or.inl rfl
theorem ndg_addN (L : Int → Int) (n : Int) (b : Nat) : ∀ (a : Nat) (p : Int), 0 ≤ p → ndgN L n (a + b) p = if ndgN L n a p = -1 then ndgN L n b (p + a) else ndgN L n a p
  | 0, p, _ => by
    rw [show (0 : Nat) + b = b by omega, show p + ((0 : Nat) : Int) = p by omega]
    exact (if_pos rfl).symm
  | a + 1, p, hp => by
    rw [show a + 1 + b = (a + b) + 1 by omega]
    show (if dig (lt L n p) then ndgN L n (a + b) (p + 1) else p) = if (if dig (lt L n p) then ndgN L n a (p + 1) else p) = -1 then ndgN L n b (p + ((a + 1 : Nat) : Int)) else (if dig (lt L n p) then ndgN L n a (p + 1) else p)
    by_cases q : dig (lt L n p)
    · rw [if_pos q, if_pos q, ndg_addN L n b a (p + 1) (by omega), show p + ((a + 1 : Nat) : Int) = p + 1 + (a : Int) by omega]
    · rw [if_neg q, if_neg q, if_neg (by omega)]
theorem ndg_add (L : Int → Int) (n : Int) {a b p : Int} (ha : 0 ≤ a) (hb : 0 ≤ b) (hp : 0 ≤ p) : ndg L n p (a + b) = if ndg L n p a = -1 then ndg L n (p + a) b else ndg L n p a := by
  unfold ndg
  have h := ndg_addN L n b.toNat a.toNat p hp
  rw [show a.toNat + b.toNat = (a + b).toNat by omega, Int.toNat_of_nonneg ha] at h
  exact h
def numN (L : Int → Int) (n p : Int) : Nat → Int
  | 0 => 0
  | k + 1 => 10 * numN L n p k + lt L n (p + k) - 48
def num (L : Int → Int) (n p d : Int) : Int := numN L n p d.toNat
theorem num_s (L : Int → Int) (n p : Int) {k : Int} (h : 0 ≤ k) : num L n p (k + 1) = 10 * num L n p k + lt L n (p + k) - 48 := by
  unfold num
  rw [show (k + 1).toNat = k.toNat + 1 by omega]
  show 10 * numN L n p k.toNat + lt L n (p + ((k.toNat : Nat) : Int)) - 48 = _
  rw [Int.toNat_of_nonneg h]
theorem num_1 {L : Int → Int} {n p : Int} (h : ndg L n p 1 = -1) (hp : 0 ≤ p) : 0 ≤ num L n p 1 ∧ num L n p 1 ≤ 9 := by
  rw [ndg_s L n p (by decide)] at h
  have e := num_s L n p (k := 0) (by decide)
  have e0 : num L n p 0 = 0 := rfl
  rw [show p + 0 = p by omega, e0, show (0 : Int) + 1 = 1 by decide] at e
  by_cases q : dig (lt L n p)
  · omega
  · rw [if_neg q] at h; omega
theorem num_2 {L : Int → Int} {n p : Int} (h : ndg L n p 2 = -1) (hp : 0 ≤ p) : 0 ≤ num L n p 2 ∧ num L n p 2 ≤ 99 := by
  have h1 : ndg L n p 1 = -1 := by
    have k := ndg_add L n (a := 1) (b := 1) (p := p) (by decide) (by decide) hp
    rw [show (1 : Int) + 1 = 2 by decide, h] at k
    by_cases q : ndg L n p 1 = -1
    · exact q
    · rw [if_neg q] at k; exact k.symm
  have h2 : ndg L n (p + 1) 1 = -1 := by
    have k := ndg_add L n (a := 1) (b := 1) (p := p) (by decide) (by decide) hp
    rw [show (1 : Int) + 1 = 2 by decide, h, if_pos h1] at k
    exact k.symm
  have k1 := num_1 h1 hp
  rw [ndg_s L n (p + 1) (by decide)] at h2
  have e := num_s L n p (k := 1) (by decide)
  rw [show (1 : Int) + 1 = 2 by decide] at e
  by_cases q : dig (lt L n (p + 1))
  · omega
  · rw [if_neg q] at h2; omega
/-- a fault of a statement's form -/
def stF (L : Int → Int) (n p : Int) : Int := if szC (lt L n p) = 0 then p else if ndg L n (p + 1) (szC (lt L n p) - 2) = -1 then (if lt L n (p + szC (lt L n p) - 1) = 59 then -1 else p + szC (lt L n p) - 1) else ndg L n (p + 1) (szC (lt L n p) - 2)
theorem szC_in (c : Int) : szC c = 0 ∨ szC c = 4 ∨ szC c = 5 ∨ szC c = 6 ∨ szC c = 10 := by
  unfold szC
  (repeat' split) <;> omega
theorem lt_in {L : Int → Int} {n p : Int} (h : lt L n p ≠ -1) : 0 ≤ p ∧ p < n := by
  unfold lt at h
  by_cases q : 0 ≤ p ∧ p < n
  · exact q
  · rw [if_neg q] at h; exact absurd rfl h
theorem szC_m1 : szC (-1) = 0 := by decide
theorem stF_ok {L : Int → Int} {n p : Int} (h : stF L n p = -1) (hp : 0 ≤ p) : 4 ≤ szC (lt L n p) ∧ szC (lt L n p) ≤ 10 ∧ p + szC (lt L n p) ≤ n ∧ ndg L n (p + 1) (szC (lt L n p) - 2) = -1 ∧ lt L n (p + szC (lt L n p) - 1) = 59 := by
  unfold stF at h
  have hs := szC_in (lt L n p)
  by_cases q0 : szC (lt L n p) = 0
  · rw [if_pos q0] at h; omega
  · rw [if_neg q0] at h
    have hb := ndg_bd L n (p + 1) (szC (lt L n p) - 2)
    by_cases q1 : ndg L n (p + 1) (szC (lt L n p) - 2) = -1
    · rw [if_pos q1] at h
      by_cases q2 : lt L n (p + szC (lt L n p) - 1) = 59
      · have k := lt_in (L := L) (n := n) (p := p + szC (lt L n p) - 1) (by omega)
        exact ⟨by omega, by omega, by omega, q1, q2⟩
      · rw [if_neg q2] at h; omega
    · rw [if_neg q1] at h; omega
theorem stF_bd {L : Int → Int} {n p : Int} (hp : 0 ≤ p) : stF L n p = -1 ∨ (p ≤ stF L n p ∧ stF L n p ≤ p + 9) := by
  have hs := szC_in (lt L n p)
  have hb := ndg_bd L n (p + 1) (szC (lt L n p) - 2)
  unfold stF
  (repeat' split) <;> omega
/-- the statements' places -/
def ps (L : Int → Int) (n : Int) : Nat → Int
  | 0 => 0
  | k + 1 => ps L n k + szC (lt L n (ps L n k))
def gd (L : Int → Int) (n : Int) (K : Nat) : Prop := ∀ j : Nat, j < K → (ps L n j < n ∨ j = 0) ∧ stF L n (ps L n j) = -1
theorem gd_0 (L : Int → Int) (n : Int) : gd L n 0 := fun j h => absurd h (by omega)
theorem gd_s {L : Int → Int} {n : Int} {K : Nat} (h : gd L n K) (h1 : ps L n K < n ∨ K = 0) (h2 : stF L n (ps L n K) = -1) : gd L n (K + 1) := fun j hj => by
  by_cases q : j = K
  · rw [q]; exact ⟨h1, h2⟩
  · exact h j (by omega)
theorem gd_ps {L : Int → Int} {n : Int} : ∀ {K : Nat}, gd L n K → 4 * (K : Int) ≤ ps L n K ∧ (1 ≤ K → ps L n K ≤ n)
  | 0, _ => ⟨by show 4 * ((0 : Nat) : Int) ≤ 0; omega, fun h => absurd h (by omega)⟩
  | K + 1, h => by
    have ih := gd_ps (K := K) (fun j hj => h j (by omega))
    have q := (h K (by omega)).2
    have k := stF_ok q (by omega)
    have e : ps L n (K + 1) = ps L n K + szC (lt L n (ps L n K)) := rfl
    rw [e]
    exact ⟨by omega, fun _ => k.2.2.1⟩
def FFR (L : Int → Int) (n f : Int) : Prop := ∃ K : Nat, gd L n K ∧ ((1 ≤ K ∧ n ≤ ps L n K ∧ f = -1) ∨ ((ps L n K < n ∨ K = 0) ∧ stF L n (ps L n K) ≠ -1 ∧ f = stF L n (ps L n K)))
theorem FFR_bd {L : Int → Int} {n f : Int} (h : FFR L n f) : f = -1 ∨ 0 ≤ f := by
  obtain ⟨K, hK, h⟩ := h
  rcases h with ⟨_, _, h⟩ | ⟨_, h1, h⟩
  · exact Or.inl h
  · have := gd_ps hK
    have := stF_bd (L := L) (n := n) (p := ps L n K) (by omega)
    omega
theorem FFR_eq {L : Int → Int} {n f g : Int} (h : FFR L n f) (k : FFR L n g) : f = g := by
  obtain ⟨K, hK, h⟩ := h
  obtain ⟨J, hJ, k⟩ := k
  by_cases q : K < J
  · have z := hJ K q
    rcases h with ⟨h1, h2, _⟩ | ⟨_, h2, _⟩
    · omega
    · exact absurd z.2 h2
  · by_cases r : J < K
    · have z := hK J r
      rcases k with ⟨h1, h2, _⟩ | ⟨_, h2, _⟩
      · omega
      · exact absurd z.2 h2
    · have e : K = J := by omega
      subst e
      rcases h with ⟨h1, h2, h3⟩ | ⟨h1, h2, h3⟩ <;> rcases k with ⟨k1, k2, k3⟩ | ⟨k1, k2, k3⟩ <;> omega
/-- what is told: cloth and roll -/
abbrev RO : Type := (Int → Int) × (Int → Int) × (Int → Int) × Int × (Int → Int)
abbrev Sx : Type := Cl × RO
abbrev pk (R : RO) : Int → Int := R.1
abbrev pf (R : RO) : Int → Int := R.2.1
abbrev pa (R : RO) : Int → Int := R.2.2.1
abbrev pn (R : RO) : Int := R.2.2.2.1
abbrev pu (R : RO) : Int → Int := R.2.2.2.2
def filN (C : Cl) (f k g a : Int) : Nat → Cl
  | 0 => C
  | m + 1 => make (filN C f k g a m) (f + m) k g a
def fil (C : Cl) (f l k g a : Int) : Cl := filN C f k g a (l - f + 1).toNat
theorem fil_s (C : Cl) (f k g a : Int) {m : Int} (h : 0 ≤ m) : make (filN C f k g a m.toNat) (f + m) k g a = filN C f k g a (m + 1).toNat := by
  rw [show (m + 1).toNat = m.toNat + 1 by omega]
  show _ = make (filN C f k g a m.toNat) (f + ((m.toNat : Nat) : Int)) k g a
  rw [Int.toNat_of_nonneg h]
def okS (L : Int → Int) (n p : Int) (s : Sx) : Prop := if lt L n p = 99 then num L n (p + 1) 2 ≤ num L n (p + 3) 2 ∧ num L n (p + 3) 2 < 12 ∧ num L n (p + 5) 1 < 6 else if lt L n p = 114 then num L n (p + 1) 1 < 6 ∧ pn s.2 < 6 else if lt L n p = 112 then num L n (p + 1) 1 < pn s.2 ∧ pu s.2 (num L n (p + 1) 1) = 0 ∧ num L n (p + 2) 2 < 12 else if lt L n p = 119 then num L n (p + 1) 2 < 12 else (1 ≤ num L n (p + 1) 2 ∧ num L n (p + 1) 2 ≤ 60) ∧ yr s.1 + num L n (p + 1) 2 ≤ 999
def apC (L : Int → Int) (n p : Int) (s : Sx) : Cl := if lt L n p = 99 then fil s.1 (num L n (p + 1) 2) (num L n (p + 3) 2) (num L n (p + 5) 1) (num L n (p + 6) 1) (num L n (p + 7) 2) else if lt L n p = 114 then s.1 else if lt L n p = 112 then make s.1 (num L n (p + 2) 2) (pk s.2 (num L n (p + 1) 1)) (pf s.2 (num L n (p + 1) 1)) (pa s.2 (num L n (p + 1) 1)) else if lt L n p = 119 then (ki s.1, fi s.1, ag s.1, uI (we s.1) (num L n (p + 1) 2) (num L n (p + 3) 2), yr s.1) else goI (num L n (p + 1) 2) s.1
def apR (L : Int → Int) (n p : Int) (s : Sx) : RO := if lt L n p = 114 then (uI (pk s.2) (pn s.2) (num L n (p + 1) 1), uI (pf s.2) (pn s.2) (num L n (p + 2) 1), uI (pa s.2) (pn s.2) (num L n (p + 3) 2), pn s.2 + 1, uI (pu s.2) (pn s.2) 0) else if lt L n p = 112 then (pk s.2, pf s.2, pa s.2, pn s.2, uI (pu s.2) (num L n (p + 1) 1) 1) else s.2
def apS (L : Int → Int) (n p : Int) (s : Sx) : Sx := (apC L n p s, apR L n p s)
/-- the letters -/
theorem sz_let {c : Int} (h : 4 ≤ szC c) : c = 99 ∨ c = 114 ∨ c = 112 ∨ c = 119 ∨ c = 121 := by
  unfold szC at h
  by_cases q1 : c = 99
  · exact Or.inl q1
  · rw [if_neg q1] at h
    by_cases q2 : c = 114 ∨ c = 119
    · omega
    · rw [if_neg q2] at h
      by_cases q3 : c = 112
      · omega
      · rw [if_neg q3] at h
        by_cases q4 : c = 121
        · omega
        · rw [if_neg q4] at h; omega
theorem ndg_cut {L : Int → Int} {n p a b k : Int} (h : ndg L n p k = -1) (hp : 0 ≤ p) (ha : 0 ≤ a) (hb : 0 ≤ b) (hk : a + b ≤ k) : ndg L n (p + a) b = -1 := by
  have h1 := ndg_add L n (a := a) (b := k - a) (p := p) ha (by omega) hp
  rw [show a + (k - a) = k by omega, h] at h1
  by_cases q : ndg L n p a = -1
  · rw [if_pos q] at h1
    have h2 := ndg_add L n (a := b) (b := k - a - b) (p := p + a) hb (by omega) (by omega)
    rw [show b + (k - a - b) = k - a by omega, ← h1] at h2
    by_cases r : ndg L n (p + a) b = -1
    · exact r
    · rw [if_neg r] at h2; exact h2.symm
  · rw [if_neg q] at h1; exact absurd h1.symm q
/-- the numbers of a good statement -/
abbrev nbs (L : Int → Int) (n p : Int) : Prop := (lt L n p = 99 → (0 ≤ num L n (p + 1) 2 ∧ num L n (p + 1) 2 ≤ 99) ∧ (0 ≤ num L n (p + 3) 2 ∧ num L n (p + 3) 2 ≤ 99) ∧ (0 ≤ num L n (p + 5) 1 ∧ num L n (p + 5) 1 ≤ 9) ∧ (0 ≤ num L n (p + 6) 1 ∧ num L n (p + 6) 1 ≤ 9) ∧ 0 ≤ num L n (p + 7) 2 ∧ num L n (p + 7) 2 ≤ 99) ∧ (lt L n p = 114 → (0 ≤ num L n (p + 1) 1 ∧ num L n (p + 1) 1 ≤ 9) ∧ (0 ≤ num L n (p + 2) 1 ∧ num L n (p + 2) 1 ≤ 9) ∧ 0 ≤ num L n (p + 3) 2 ∧ num L n (p + 3) 2 ≤ 99) ∧ (lt L n p = 112 → (0 ≤ num L n (p + 1) 1 ∧ num L n (p + 1) 1 ≤ 9) ∧ 0 ≤ num L n (p + 2) 2 ∧ num L n (p + 2) 2 ≤ 99) ∧ (lt L n p = 119 → (0 ≤ num L n (p + 1) 2 ∧ num L n (p + 1) 2 ≤ 99) ∧ 0 ≤ num L n (p + 3) 2 ∧ num L n (p + 3) 2 ≤ 99) ∧ (lt L n p = 121 → 0 ≤ num L n (p + 1) 2 ∧ num L n (p + 1) 2 ≤ 99)
theorem nbs_ok {L : Int → Int} {n p : Int} (h : stF L n p = -1) (hp : 0 ≤ p) : nbs L n p := by
  have k := (stF_ok h hp).2.2.2.1
  have c1 : ∀ a : Int, 0 ≤ a → a + 1 ≤ szC (lt L n p) - 2 → 0 ≤ num L n (p + 1 + a) 1 ∧ num L n (p + 1 + a) 1 ≤ 9 := fun a h0 h1 => num_1 (ndg_cut k (by omega) h0 (by decide) h1) (by omega)
  have c2 : ∀ a : Int, 0 ≤ a → a + 2 ≤ szC (lt L n p) - 2 → 0 ≤ num L n (p + 1 + a) 2 ∧ num L n (p + 1 + a) 2 ≤ 99 := fun a h0 h1 => num_2 (ndg_cut k (by omega) h0 (by decide) h1) (by omega)
  have e : ∀ a b : Int, p + 1 + a = p + b → (∀ d : Int, num L n (p + 1 + a) d = num L n (p + b) d) := fun a b q d => by rw [q]
  have z1 : szC 99 = 10 := by decide
  have z2 : szC 114 = 6 := by decide
  have z3 : szC 112 = 5 := by decide
  have z4 : szC 119 = 6 := by decide
  have z5 : szC 121 = 4 := by decide
  refine ⟨fun q => ?_, fun q => ?_, fun q => ?_, fun q => ?_, fun q => ?_⟩
  · rw [q] at c1 c2
    have a1 := c2 0 (by decide) (by omega)
    have a2 := c2 2 (by decide) (by omega)
    have a3 := c1 4 (by decide) (by omega)
    have a4 := c1 5 (by decide) (by omega)
    have a5 := c2 6 (by decide) (by omega)
    rw [show p + 1 + 0 = p + 1 by omega] at a1
    rw [show p + 1 + 2 = p + 3 by omega] at a2
    rw [show p + 1 + 4 = p + 5 by omega] at a3
    rw [show p + 1 + 5 = p + 6 by omega] at a4
    rw [show p + 1 + 6 = p + 7 by omega] at a5
    exact ⟨a1, a2, a3, a4, a5⟩
  · rw [q] at c1 c2
    have a1 := c1 0 (by decide) (by omega)
    have a2 := c1 1 (by decide) (by omega)
    have a3 := c2 2 (by decide) (by omega)
    rw [show p + 1 + 0 = p + 1 by omega] at a1
    rw [show p + 1 + 1 = p + 2 by omega] at a2
    rw [show p + 1 + 2 = p + 3 by omega] at a3
    exact ⟨a1, a2, a3⟩
  · rw [q] at c1 c2
    have a1 := c1 0 (by decide) (by omega)
    have a2 := c2 1 (by decide) (by omega)
    rw [show p + 1 + 0 = p + 1 by omega] at a1
    rw [show p + 1 + 1 = p + 2 by omega] at a2
    exact ⟨a1, a2⟩
  · rw [q] at c1 c2
    have a1 := c2 0 (by decide) (by omega)
    have a2 := c2 2 (by decide) (by omega)
    rw [show p + 1 + 0 = p + 1 by omega] at a1
    rw [show p + 1 + 2 = p + 3 by omega] at a2
    exact ⟨a1, a2⟩
  · rw [q] at c2
    have a1 := c2 0 (by decide) (by omega)
    rw [show p + 1 + 0 = p + 1 by omega] at a1
    exact a1
/-- a state that is as it must be -/
def okT (s : Sx) : Prop := okC s.1 ∧ yr s.1 ≤ 999 ∧ (0 ≤ pn s.2 ∧ pn s.2 ≤ 6) ∧ ∀ p : Int, 0 ≤ p → p < 6 → (0 ≤ pk s.2 p ∧ pk s.2 p ≤ 5) ∧ (0 ≤ pf s.2 p ∧ pf s.2 p ≤ 9) ∧ (0 ≤ pa s.2 p ∧ pa s.2 p ≤ 99) ∧ 0 ≤ pu s.2 p ∧ pu s.2 p ≤ 1
theorem fil_ok {C : Cl} (ok : okC C) {f k g a : Int} (hk : 0 ≤ k ∧ k ≤ 5) (hg : 0 ≤ g ∧ g ≤ 9) (ha : 0 ≤ a ∧ a ≤ 99) : ∀ m : Nat, okC (filN C f k g a m) ∧ yr (filN C f k g a m) = yr C
  | 0 => ⟨ok, rfl⟩
  | m + 1 => by
    have ih := fil_ok ok (f := f) hk hg ha m
    exact ⟨make_ok ih.1 hk hg ha, ih.2⟩
theorem uI6 {f : Int → Int} {c v lo hi : Int} (h : ∀ j : Int, 0 ≤ j → j < 6 → lo ≤ f j ∧ f j ≤ hi) (hv : lo ≤ v ∧ v ≤ hi) : ∀ j : Int, 0 ≤ j → j < 6 → lo ≤ uI f c v j ∧ uI f c v j ≤ hi := by
  intro j h0 h1
  unfold uI
  split
  · exact hv
  · exact h j h0 h1
theorem apS_ok {L : Int → Int} {n p : Int} {s : Sx} (ok : okT s) (hs : okS L n p s) (hf : stF L n p = -1) (hp : 0 ≤ p) : okT (apS L n p s) := by
  have hb := nbs_ok hf hp
  have hl := sz_let (stF_ok hf hp).1
  obtain ⟨o1, o2, o3, o4⟩ := ok
  have ok1 : ∀ j : Int, 0 ≤ j → j < 6 → 0 ≤ pk s.2 j ∧ pk s.2 j ≤ 5 := fun j a b => (o4 j a b).1
  have ok2 : ∀ j : Int, 0 ≤ j → j < 6 → 0 ≤ pf s.2 j ∧ pf s.2 j ≤ 9 := fun j a b => (o4 j a b).2.1
  have ok3 : ∀ j : Int, 0 ≤ j → j < 6 → 0 ≤ pa s.2 j ∧ pa s.2 j ≤ 99 := fun j a b => (o4 j a b).2.2.1
  have ok4 : ∀ j : Int, 0 ≤ j → j < 6 → 0 ≤ pu s.2 j ∧ pu s.2 j ≤ 1 := fun j a b => (o4 j a b).2.2.2
  unfold okS at hs
  unfold apS apC apR okT
  rcases hl with q | q | q | q | q <;> rw [q] at hs ⊢
  · have b := hb.1 q
    rw [if_pos rfl] at hs
    have k := fil_ok o1 (f := num L n (p + 1) 2) (k := num L n (p + 5) 1) (g := num L n (p + 6) 1) (a := num L n (p + 7) 2) (by omega) (by omega) (by omega) (num L n (p + 3) 2 - num L n (p + 1) 2 + 1).toNat
    rw [if_pos rfl, if_neg (by decide), if_neg (by decide)]
    exact ⟨k.1, by have := k.2; show yr (filN _ _ _ _ _ _) ≤ 999; omega, o3, o4⟩
  · have b := hb.2.1 q
    rw [if_neg (by decide), if_pos rfl] at hs
    rw [if_neg (by decide), if_pos rfl, if_pos rfl]
    refine ⟨o1, o2, ⟨?_, ?_⟩, fun j x y => ⟨uI6 ok1 (by omega) j x y, uI6 ok2 (by omega) j x y, uI6 ok3 (by omega) j x y, uI6 ok4 (by omega) j x y⟩⟩
    · show 0 ≤ pn s.2 + 1; omega
    · show pn s.2 + 1 ≤ 6; omega
  · have b := hb.2.2.1 q
    rw [if_neg (by decide), if_neg (by decide), if_pos rfl] at hs
    rw [if_neg (by decide), if_neg (by decide), if_pos rfl, if_neg (by decide), if_pos rfl]
    have r := o4 (num L n (p + 1) 1) (by omega) (by omega)
    exact ⟨make_ok o1 r.1 r.2.1 r.2.2.1, o2, o3, fun j x y => ⟨ok1 j x y, ok2 j x y, ok3 j x y, uI6 ok4 (by omega) j x y⟩⟩
  · have b := hb.2.2.2.1 q
    rw [if_neg (by decide), if_neg (by decide), if_neg (by decide), if_pos rfl] at hs
    rw [if_neg (by decide), if_neg (by decide), if_neg (by decide), if_pos rfl, if_neg (by decide), if_neg (by decide)]
    exact ⟨okC.mk o1.k o1.f o1.a (uI_rng o1.w b.2) o1.2, o2, o3, o4⟩
  · rw [if_neg (by decide), if_neg (by decide), if_neg (by decide), if_neg (by decide)] at hs
    rw [if_neg (by decide), if_neg (by decide), if_neg (by decide), if_neg (by decide), if_neg (by decide), if_neg (by decide)]
    exact ⟨goI_ok o1 _, by rw [goI_yr (by omega)]; exact hs.2, o3, o4⟩
def sS (L : Int → Int) (n : Int) (s : Sx) : Nat → Sx
  | 0 => s
  | k + 1 => apS L n (ps L n k) (sS L n s k)
/-- what all statements come to -/
def TR (L : Int → Int) (n : Int) (s : Sx) (r : Int) (t : Sx) : Prop := ∃ K : Nat, (∀ j : Nat, j < K → ps L n j < n ∧ okS L n (ps L n j) (sS L n s j)) ∧ ((n ≤ ps L n K ∧ r = K ∧ t = sS L n s K) ∨ (ps L n K < n ∧ ¬ okS L n (ps L n K) (sS L n s K) ∧ r = -2000 - ps L n K ∧ t = s))
/-- alike, as far as it is looked at -/
def sE (s t : Sx) : Prop := s.1 = t.1 ∧ pk s.2 = pk t.2 ∧ pf s.2 = pf t.2 ∧ pa s.2 = pa t.2 ∧ pn s.2 = pn t.2 ∧ ∀ p : Int, 0 ≤ p → pu s.2 p = pu t.2 p
theorem okS_E {L : Int → Int} {n p : Int} {s t : Sx} (h : sE s t) (hs : okT s) (hf : stF L n p = -1) (hp : 0 ≤ p) : okS L n p s ↔ okS L n p t := by
  obtain ⟨h1, h2, h3, h4, h5, h6⟩ := h
  have hb := nbs_ok hf hp
  have hn := hs.2.2.1
  unfold okS
  rw [← h5, ← h1]
  by_cases q : lt L n p = 112
  · have b := hb.2.2.1 q
    rw [q, if_neg (by decide), if_neg (by decide), if_pos rfl, if_neg (by decide), if_neg (by decide), if_pos rfl]
    by_cases r : num L n (p + 1) 1 < pn s.2
    · rw [h6 _ b.1.1]
    · exact ⟨fun z => absurd z.1 r, fun z => absurd z.1 r⟩
  · rw [if_neg q, if_neg q]
theorem apS_E {L : Int → Int} {n p : Int} {s t : Sx} (h : sE s t) : sE (apS L n p s) (apS L n p t) := by
  obtain ⟨h1, h2, h3, h4, h5, h6⟩ := h
  have e1 : apC L n p s = apC L n p t := by
    unfold apC
    rw [h1, h2, h3, h4]
  have key : ∀ R T : RO, apR L n p s = R → apR L n p t = T → pk R = pk T → pf R = pf T → pa R = pa T → pn R = pn T → (∀ p : Int, 0 ≤ p → pu R p = pu T p) → sE (apS L n p s) (apS L n p t) := fun R T e e2 k1 k2 k3 k4 k5 => by
    unfold apS
    rw [e, e2]
    exact ⟨e1, k1, k2, k3, k4, k5⟩
  have un6 : ∀ c v : Int, ∀ j : Int, 0 ≤ j → uI (pu s.2) c v j = uI (pu t.2) c v j := fun c v j a => by
    unfold uI
    split
    · rfl
    · exact h6 j a
  by_cases q : lt L n p = 114
  · refine key _ _ (by unfold apR; exact if_pos q) (by unfold apR; exact if_pos q) ?_ ?_ ?_ ?_ ?_
    · show uI (pk s.2) (pn s.2) _ = uI (pk t.2) (pn t.2) _; rw [h2, h5]
    · show uI (pf s.2) (pn s.2) _ = uI (pf t.2) (pn t.2) _; rw [h3, h5]
    · show uI (pa s.2) (pn s.2) _ = uI (pa t.2) (pn t.2) _; rw [h4, h5]
    · show pn s.2 + 1 = pn t.2 + 1; rw [h5]
    · intro j a
      show uI (pu s.2) (pn s.2) 0 j = uI (pu t.2) (pn t.2) 0 j
      rw [h5]
      exact un6 _ _ j a
  · by_cases r : lt L n p = 112
    · refine key _ _ ((if_neg q).trans (if_pos r)) ((if_neg q).trans (if_pos r)) ?_ ?_ ?_ ?_ ?_
      · exact h2
      · exact h3
      · exact h4
      · exact h5
      · exact un6 _ _
    · exact key _ _ ((if_neg q).trans (if_neg r)) ((if_neg q).trans (if_neg r)) h2 h3 h4 h5 h6
theorem sS_E {L : Int → Int} {n : Int} {s t : Sx} (h : sE s t) : ∀ k : Nat, sE (sS L n s k) (sS L n t k)
  | 0 => h
  | k + 1 => apS_E (sS_E h k)
theorem sS_ok {L : Int → Int} {n : Int} {s : Sx} (ok : okT s) : ∀ K : Nat, gd L n K → (∀ j : Nat, j < K → okS L n (ps L n j) (sS L n s j)) → okT (sS L n s K)
  | 0, _, _ => ok
  | K + 1, hg, h => by
    have ih := sS_ok ok K (fun j q => hg j (by omega)) (fun j q => h j (by omega))
    have p0 := (gd_ps (L := L) (n := n) (K := K) (fun j q => hg j (by omega))).1
    exact apS_ok ih (h K (by omega)) (hg K (by omega)).2 (by omega)
theorem TR_eq {L : Int → Int} {n : Int} {s t : Sx} (h : sE s t) (ok : okT s) {G : Nat} (hg : gd L n G) (hG : n ≤ ps L n G) {r r2 : Int} {s2 t2 : Sx} (a : TR L n s r s2) (b : TR L n t r2 t2) : r = r2 ∧ sE s2 t2 := by
  obtain ⟨K, a1, a2⟩ := a
  obtain ⟨J, b1, b2⟩ := b
  have mono : ∀ i j : Nat, i ≤ j → j ≤ G → ps L n i ≤ ps L n j := fun i j hij hj => by
    obtain ⟨d, rfl⟩ : ∃ d : Nat, j = i + d := ⟨j - i, by omega⟩
    clear a1 a2 b1 b2
    induction d with
    | zero => exact Int.le_refl _
    | succ d ih =>
      have ih := ih (by omega) (by omega)
      have k := (gd_ps (L := L) (n := n) (K := i + d) (fun x q => hg x (by omega))).1
      have z := stF_ok (hg (i + d) (by omega)).2 (by omega)
      have e : ps L n (i + (d + 1)) = ps L n (i + d) + szC (lt L n (ps L n (i + d))) := rfl
      omega
  have inG : ∀ K : Nat, (∀ j : Nat, j < K → ps L n j < n) → K ≤ G := fun K hK => by
    by_cases q : K ≤ G
    · exact q
    · have := hK G (by omega); omega
  have KG := inG K (fun j q => (a1 j q).1)
  have JG := inG J (fun j q => (b1 j q).1)
  have eqv : ∀ k : Nat, k ≤ K → k < G → (okS L n (ps L n k) (sS L n s k) ↔ okS L n (ps L n k) (sS L n t k)) := fun k hk hkG => by
    have p0 := (gd_ps (L := L) (n := n) (K := k) (fun j q => hg j (by omega))).1
    exact okS_E (sS_E h k) (sS_ok ok k (fun j q => hg j (by omega)) (fun j q => (a1 j (by omega)).2)) (hg k hkG).2 (by omega)
  have hKJ : K = J := by
    by_cases q : K < J
    · have z := b1 K q
      rcases a2 with ⟨x, _⟩ | ⟨_, x, _⟩
      · omega
      · exact absurd ((eqv K (Nat.le_refl _) (by omega)).mpr z.2) x
    · by_cases w : J < K
      · have z := a1 J w
        rcases b2 with ⟨x, _⟩ | ⟨_, x, _⟩
        · omega
        · exact absurd ((eqv J (by omega) (by omega)).mp z.2) x
      · omega
  subst hKJ
  rcases a2 with ⟨x1, x2, x3⟩ | ⟨x1, x2, x3, x4⟩ <;> rcases b2 with ⟨y1, y2, y3⟩ | ⟨y1, y2, y3, y4⟩
  · rw [x2, y2, x3, y3]; exact ⟨rfl, sS_E h _⟩
  · omega
  · omega
  · rw [x3, y3, x4, y4]; exact ⟨rfl, h⟩
/-- as a truth value -/
def okB (L : Int → Int) (n p : Int) (s : Sx) : Bool := if lt L n p = 99 then decide (num L n (p + 1) 2 ≤ num L n (p + 3) 2 ∧ num L n (p + 3) 2 < 12 ∧ num L n (p + 5) 1 < 6) else if lt L n p = 114 then decide (num L n (p + 1) 1 < 6 ∧ pn s.2 < 6) else if lt L n p = 112 then decide (num L n (p + 1) 1 < pn s.2 ∧ pu s.2 (num L n (p + 1) 1) = 0 ∧ num L n (p + 2) 2 < 12) else if lt L n p = 119 then decide (num L n (p + 1) 2 < 12) else decide ((1 ≤ num L n (p + 1) 2 ∧ num L n (p + 1) 2 ≤ 60) ∧ yr s.1 + num L n (p + 1) 2 ≤ 999)
theorem okB_S (L : Int → Int) (n p : Int) (s : Sx) : okB L n p s = true ↔ okS L n p s := by
  unfold okB okS
  by_cases q1 : lt L n p = 99
  · rw [if_pos q1, if_pos q1, decide_eq_true_eq]
  · rw [if_neg q1, if_neg q1]
    by_cases q2 : lt L n p = 114
    · rw [if_pos q2, if_pos q2, decide_eq_true_eq]
    · rw [if_neg q2, if_neg q2]
      by_cases q3 : lt L n p = 112
      · rw [if_pos q3, if_pos q3, decide_eq_true_eq]
      · rw [if_neg q3, if_neg q3]
        by_cases q4 : lt L n p = 119
        · rw [if_pos q4, if_pos q4, decide_eq_true_eq]
        · rw [if_neg q4, if_neg q4, decide_eq_true_eq]
theorem lt_bd {L : Int → Int} {n : Int} (h : ∀ j : Int, 0 ≤ j → j < 96 → 0 ≤ L j ∧ L j ≤ 255) (hn : n ≤ 96) (p : Int) : -1 ≤ lt L n p ∧ lt L n p ≤ 255 := by
  unfold lt
  by_cases q : 0 ≤ p ∧ p < n
  · rw [if_pos q]
    have := h p q.1 (by omega)
    omega
  · rw [if_neg q]; decide
theorem stF_0 {L : Int → Int} {n p : Int} (h : szC (lt L n p) = 0) : stF L n p = p := if_pos h
theorem stF_d {L : Int → Int} {n p q : Int} (h : szC (lt L n p) ≠ 0) (h1 : ndg L n (p + 1) (szC (lt L n p) - 2) = q) (h2 : q ≠ -1) : stF L n p = q := by
  unfold stF
  rw [if_neg h, h1, if_neg h2]
theorem stF_e {L : Int → Int} {n p : Int} (h : szC (lt L n p) ≠ 0) (h1 : ndg L n (p + 1) (szC (lt L n p) - 2) = -1) (h2 : lt L n (p + szC (lt L n p) - 1) ≠ 59) : stF L n p = p + szC (lt L n p) - 1 := by
  unfold stF
  rw [if_neg h, if_pos h1, if_neg h2]
theorem stF_g {L : Int → Int} {n p : Int} (h : szC (lt L n p) ≠ 0) (h1 : ndg L n (p + 1) (szC (lt L n p) - 2) = -1) (h2 : lt L n (p + szC (lt L n p) - 1) = 59) : stF L n p = -1 := by
  unfold stF
  rw [if_neg h, if_pos h1, if_pos h2]
theorem ps_0 {L : Int → Int} {n : Int} {K : Nat} {a : Int} (hg : gd L n K) (ha : a = ps L n K) (hn : n ≤ 96) : 0 ≤ a ∧ a ≤ 96 := by
  have h := gd_ps hg
  rcases Nat.eq_zero_or_pos K with q | q
  · rw [ha, q]; exact ⟨Int.le_refl 0, (by decide : (0 : Int) ≤ 96)⟩
  · have k := h.2 q
    rw [ha]
    exact ⟨by omega, by omega⟩
