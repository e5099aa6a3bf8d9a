/-! shared by both sides -/
def pcN (n : Nat) : Nat := (List.range 12).foldl (fun a k => a + n / 2 ^ k % 2) 0
/-- how many bits, below 4096 -/
def pcnt (z : Int) : Int := (pcN z.toNat : Int)
theorem pcN_step2 : ∀ a : Nat, a < 64 → ∀ b : Nat, b < 64 → 0 < 64 * a + b → ((64 * a + b) &&& ((64 * a + b) - 1)) < (64 * a + b) ∧ pcN (64 * a + b) = pcN ((64 * a + b) &&& ((64 * a + b) - 1)) + 1 := by decide +kernel
theorem pcN_step (n : Nat) (h : n < 4096) (h0 : 0 < n) : (n &&& (n - 1)) < n ∧ pcN n = pcN (n &&& (n - 1)) + 1 := by
  have e : 64 * (n / 64) + n % 64 = n := by omega
  have k := pcN_step2 (n / 64) (by omega) (n % 64) (by omega) (by omega)
  rw [e] at k
  exact k
theorem pcnt_step {z : Int} (h0 : 0 < z) (h1 : z < 4096) : 0 ≤ band z (z - 1) ∧ band z (z - 1) < z ∧ pcnt z = pcnt (band z (z - 1)) + 1 := by
  have h := pcN_step z.toNat (by omega) (by omega)
  unfold band pcnt
  rw [show (z - 1).toNat = z.toNat - 1 by omega, Int.toNat_natCast]
  omega
theorem pcnt_0 : pcnt 0 = 0 := by decide +kernel
/-- how long a cell lasts: after n years looked at (61: none yet) -/
def lsN (C : Cl) : Nat → Int → Int
  | 0, _ => 61
  | n + 1, c => if hole (goY n C) c ∧ lsN C n c = 61 then (n : Int) else lsN C n c
def lsI (C : Cl) (n : Int) (c : Int) : Int := lsN C n.toNat c
theorem lsI_s (C : Cl) {n : Int} (h : 0 ≤ n) (c : Int) : lsI C (n + 1) c = if hole (goI n C) c ∧ lsI C n c = 61 then n else lsI C n c := by
  unfold lsI goI
  rw [show (n + 1).toNat = n.toNat + 1 by omega]
  show (if hole (goY n.toNat C) c ∧ lsN C n.toNat c = 61 then ((n.toNat : Nat) : Int) else lsN C n.toNat c) = _
  rw [Int.toNat_of_nonneg h]
theorem lsI_bd (C : Cl) {n : Int} (h : 0 ≤ n) (h2 : n ≤ 61) (c : Int) : 0 ≤ lsI C n c ∧ lsI C n c ≤ 61 := by
  obtain ⟨k, rfl⟩ : ∃ k : Nat, n = (k : Int) := ⟨n.toNat, by omega⟩
  induction k with
  | zero => exact ⟨by show (0 : Int) ≤ 61; decide, by show (61 : Int) ≤ 61; decide⟩
  | succ k ih =>
    have e : ((k + 1 : Nat) : Int) = (k : Int) + 1 := by omega
    have := ih (by omega) (by omega)
    rw [e, lsI_s C (by omega)]
    split <;> omega
def lasts (C : Cl) : Int → Int := lsI C 61
theorem lasts_bd (C : Cl) (c : Int) : 0 ≤ lasts C c ∧ lasts C c ≤ 61 := lsI_bd C (by decide) (by decide) c
theorem upTo_upTo (f g h : Int → Int) (n : Int) : upTo (upTo f g n) h n = upTo f h n := by
  funext j
  unfold upTo
  by_cases k : 0 ≤ j ∧ j < n
  · rw [if_pos k, if_pos k]
  · rw [if_neg k, if_neg k, if_neg k]
/-- the first place of the least, of the most -/
def amN (f : Int → Int) : Nat → Int
  | 0 => 0
  | n + 1 => if f (n : Int) < f (amN f n) then (n : Int) else amN f n
def amin (f : Int → Int) (n : Int) : Int := amN f n.toNat
theorem amin_1 (f : Int → Int) : amin f 1 = 0 := by
  show (if f ((0 : Nat) : Int) < f 0 then ((0 : Nat) : Int) else 0) = 0
  split <;> rfl
theorem amin_s (f : Int → Int) {n : Int} (h : 0 ≤ n) : amin f (n + 1) = if f n < f (amin f n) then n else amin f n := by
  unfold amin
  rw [show (n + 1).toNat = n.toNat + 1 by omega]
  show (if f ((n.toNat : Nat) : Int) < f (amN f n.toNat) then ((n.toNat : Nat) : Int) else amN f n.toNat) = _
  rw [Int.toNat_of_nonneg h]
theorem amin_in (f : Int → Int) {n : Int} (h : 1 ≤ n) : 0 ≤ amin f n ∧ amin f n < n := by
  obtain ⟨k, rfl⟩ : ∃ k : Nat, n = (k : Int) + 1 := ⟨(n - 1).toNat, by omega⟩
  induction k with
  | zero => rw [show ((0 : Nat) : Int) + 1 = 1 by rfl, amin_1]; omega
  | succ k ih =>
    have := ih (by omega)
    rw [show ((k + 1 : Nat) : Int) + 1 = ((k : Int) + 1) + 1 by omega, amin_s f (by omega)]
    split <;> omega
def amax (f : Int → Int) (n : Int) : Int := amin (fun j => -(f j)) n
def fbf (u : Int → Int) (p : Int) : Int := if u p = 0 then p2 p else 0
def fbits (u : Int → Int) (n : Int) : Int := sumI (fbf u) n
theorem fbits_bd (u : Int → Int) {n : Int} (h : 0 ≤ n) : 0 ≤ fbits u n ∧ fbits u n < p2 n := by
  obtain ⟨k, rfl⟩ : ∃ k : Nat, n = (k : Int) := ⟨n.toNat, by omega⟩
  induction k with
  | zero => exact ⟨by show (0 : Int) ≤ 0; decide, by show (0 : Int) < 1; decide⟩
  | succ k ih =>
    have e : ((k + 1 : Nat) : Int) = (k : Int) + 1 := by omega
    have h1 := ih (by omega)
    have hp := p2_pos (k : Int)
    rw [e, fbits, sumI_s _ (by omega), p2_s (by omega)]
    unfold fbits at h1
    by_cases hh : u (k : Int) = 0
    · have e2 : fbf u (k : Int) = p2 (k : Int) := if_pos hh
      omega
    · have e2 : fbf u (k : Int) = 0 := if_neg hh
      omega
def fr1 (u : Int → Int) (p : Int) : Int := if u p = 0 then 1 else 0
def frc (u : Int → Int) (n : Int) : Int := sumI (fr1 u) n
theorem frc_bd (u : Int → Int) {n : Int} (h : 0 ≤ n) : 0 ≤ frc u n ∧ frc u n ≤ n := by
  have := sumI_bd (f := fr1 u) (lo := 0) (hi := 1) h (fun j _ _ => by unfold fr1; split <;> omega)
  unfold frc
  omega
theorem frc_s (u : Int → Int) {n : Int} (h : 0 ≤ n) : frc u (n + 1) = frc u n + fr1 u n := sumI_s _ h
/-- the places of the free ones, laid into an array -/
def flN (f : Int → Int) (u : Int → Int) : Nat → Int → Int
  | 0 => f
  | n + 1 => if u (n : Int) = 0 then uI (flN f u n) (frc u (n : Int)) (n : Int) else flN f u n
def flA (f u : Int → Int) (n : Int) : Int → Int := flN f u n.toNat
theorem flA_s (f u : Int → Int) {n : Int} (h : 0 ≤ n) : flA f u (n + 1) = if u n = 0 then uI (flA f u n) (frc u n) n else flA f u n := by
  unfold flA
  rw [show (n + 1).toNat = n.toNat + 1 by omega]
  show (if u ((n.toNat : Nat) : Int) = 0 then uI (flN f u n.toNat) (frc u ((n.toNat : Nat) : Int)) ((n.toNat : Nat) : Int) else flN f u n.toNat) = _
  rw [Int.toNat_of_nonneg h]
/-- a row that tells wear -/
def rowB (C : Cl) (r : Int → Int) (c : Int) : Nat → Bool
  | 0 => true
  | n + 1 => rowB C r c n && decide (we (goY n C) c = r (n : Int))
abbrev rowI (C : Cl) (r : Int → Int) (c n : Int) : Prop := rowB C r c n.toNat = true
theorem rowI_s (C : Cl) (r : Int → Int) (c : Int) {n : Int} (h : 0 ≤ n) : rowI C r c (n + 1) ↔ rowI C r c n ∧ we (goI n C) c = r n := by
  unfold rowI goI
  rw [show (n + 1).toNat = n.toNat + 1 by omega]
  show (rowB C r c n.toNat && decide (we (goY n.toNat C) c = r ((n.toNat : Nat) : Int))) = true ↔ _
  rw [Int.toNat_of_nonneg h, Bool.and_eq_true, decide_eq_true_eq]
theorem rowI_0 (C : Cl) (r : Int → Int) (c : Int) : rowI C r c 0 := rfl
theorem rowI_out (C : Cl) (r : Int → Int) (c : Int) {k n : Int} (h0 : 0 ≤ k) (h : k ≤ n) (no : ¬ rowI C r c k) : ¬ rowI C r c n := by
  obtain ⟨d, rfl⟩ : ∃ d : Nat, n = k + (d : Int) := ⟨(n - k).toNat, by omega⟩
  induction d with
  | zero => rw [show k + ((0 : Nat) : Int) = k by omega]; exact no
  | succ d ih =>
    have e : k + ((d + 1 : Nat) : Int) = (k + (d : Int)) + 1 := by omega
    rw [e, rowI_s C r c (by omega)]
    exact fun q => ih (by omega) q.1
/-- swaps, draws, fractions -/
def swf (f : Int → Int) (a b : Int) : Int → Int := uI (uI f a (f b)) b (f a)
def swC (C : Cl) (a b : Int) : Cl := (swf (ki C) a b, swf (fi C) a b, swf (ag C) a b, swf (we C) a b, yr C)
def nxt (z : Int) : Int := z * 1103515245 + 12345
def drw (z n : Int) : Int := z % 2147483648 / 65536 % n
theorem iI_and31 (z : Int) : iI z &&& iI 2147483647 = iI (z % 2147483648) := by
  rw [pk_and (iI z) 31 (by decide +kernel), ← iI_nat]
  congr 1
  have e : (iI z).toBitVec.toNat = (z % 4294967296).toNat := by
    show (BitVec.ofInt 32 z).toNat = _
    rw [BitVec.toNat_ofInt]
    rfl
  rw [e]
  omega
def gcdI (a b : Int) : Int := ((Nat.gcd a.toNat b.toNat : Nat) : Int)
def prt (a b part : Int) : Int := if a = 0 then part else if part = 0 then a / gcdI a b else b / gcdI a b
theorem gcdI_0 {a : Int} (h : 0 ≤ a) : gcdI a 0 = a := by
  unfold gcdI
  rw [show (0 : Int).toNat = 0 by decide, Nat.gcd_zero_right]
  omega
theorem gcdI_step {a b : Int} (ha : 0 ≤ a) (hb : 0 < b) : gcdI b (a % b) = gcdI a b := by
  unfold gcdI
  have e : (a % b).toNat = a.toNat % b.toNat := by
    have := Int.natCast_emod a.toNat b.toNat
    rw [Int.toNat_of_nonneg ha, Int.toNat_of_nonneg (by omega)] at this
    omega
  rw [e, Nat.gcd_comm a.toNat b.toNat, Nat.gcd_rec b.toNat a.toNat, Nat.gcd_comm]
theorem gcdI_pos {a b : Int} (h : 0 < b) : 0 < gcdI a b := by
  unfold gcdI
  have := Nat.gcd_pos_of_pos_right a.toNat (show 0 < b.toNat by omega)
  omega
theorem gcdI_le {a b : Int} (h : 0 < b) : gcdI a b ≤ b := by
  unfold gcdI
  have := Nat.gcd_le_right a.toNat (show 0 < b.toNat by omega)
  omega
def rk1 (w : Int → Int) (c o : Int) : Int := if w c < w o ∨ (w o = w c ∧ o < c) then 1 else 0
def rnk (w : Int → Int) (c : Int) : Int := sumI (rk1 w c) 12
/-- how long a row of cells rises from one on: at place p, so long already -/
def rise (a : Int → Int) : Nat → Int → Int → Int
  | 0, _, l => l
  | k + 1, p, l => if p < 12 ∧ p % 4 ≠ 0 ∧ a (p - 1) ≤ a p then rise a k (p + 1) (l + 1) else l
def riseI (a : Int → Int) (p l : Int) : Int := rise a (13 - p).toNat p l
theorem riseI_s (a : Int → Int) {p l : Int} (h : p ≤ 12) : riseI a p l = if p < 12 ∧ p % 4 ≠ 0 ∧ a (p - 1) ≤ a p then riseI a (p + 1) (l + 1) else l := by
  unfold riseI
  rw [show (13 - p).toNat = (13 - (p + 1)).toNat + 1 by omega]
  rfl
def rising (a : Int → Int) (c : Int) : Int := riseI a (c + 1) 1
/-- the best so far: value, measure; strictly more, strictly less -/
def smxN (ok : Int → Bool) (f v : Int → Int) (s : Int × Int) : Nat → Int × Int
  | 0 => s
  | n + 1 => if ok (n : Int) = true ∧ (smxN ok f v s n).2 < f (n : Int) then (v (n : Int), f (n : Int)) else smxN ok f v s n
def smx (ok : Int → Bool) (f v : Int → Int) (s : Int × Int) (n : Int) : Int × Int := smxN ok f v s n.toNat
def smnN (ok : Int → Bool) (f v : Int → Int) (s : Int × Int) : Nat → Int × Int
  | 0 => s
  | n + 1 => if ok (n : Int) = true ∧ f (n : Int) < (smnN ok f v s n).2 then (v (n : Int), f (n : Int)) else smnN ok f v s n
def smn (ok : Int → Bool) (f v : Int → Int) (s : Int × Int) (n : Int) : Int × Int := smnN ok f v s n.toNat
theorem smx_s (ok : Int → Bool) (f v : Int → Int) (s : Int × Int) {n : Int} (h : 0 ≤ n) : smx ok f v s (n + 1) = if ok n = true ∧ (smx ok f v s n).2 < f n then (v n, f n) else smx ok f v s n := by
  unfold smx
  rw [show (n + 1).toNat = n.toNat + 1 by omega]
  show (if ok ((n.toNat : Nat) : Int) = true ∧ (smxN ok f v s n.toNat).2 < f ((n.toNat : Nat) : Int) then (v ((n.toNat : Nat) : Int), f ((n.toNat : Nat) : Int)) else smxN ok f v s n.toNat) = _
  rw [Int.toNat_of_nonneg h]
theorem smn_s (ok : Int → Bool) (f v : Int → Int) (s : Int × Int) {n : Int} (h : 0 ≤ n) : smn ok f v s (n + 1) = if ok n = true ∧ f n < (smn ok f v s n).2 then (v n, f n) else smn ok f v s n := by
  unfold smn
  rw [show (n + 1).toNat = n.toNat + 1 by omega]
  show (if ok ((n.toNat : Nat) : Int) = true ∧ f ((n.toNat : Nat) : Int) < (smnN ok f v s n.toNat).2 then (v ((n.toNat : Nat) : Int), f ((n.toNat : Nat) : Int)) else smnN ok f v s n.toNat) = _
  rw [Int.toNat_of_nonneg h]
theorem smx_0 (ok : Int → Bool) (f v : Int → Int) (b l : Int) : smx ok f v (b, l) 0 = (b, l) := rfl
theorem smn_0 (ok : Int → Bool) (f v : Int → Int) (b l : Int) : smn ok f v (b, l) 0 = (b, l) := rfl
theorem smx_t {ok : Int → Bool} {f v : Int → Int} {s : Int × Int} {n b l : Int} (h : smx ok f v s n = (b, l)) (h0 : 0 ≤ n) (h1 : ok n = true) (h2 : l < f n) : smx ok f v s (n + 1) = (v n, f n) := by
  rw [smx_s _ _ _ _ h0, h]
  exact if_pos ⟨h1, h2⟩
theorem smx_f {ok : Int → Bool} {f v : Int → Int} {s : Int × Int} {n b l : Int} (h : smx ok f v s n = (b, l)) (h0 : 0 ≤ n) (h1 : ok n = false ∨ f n ≤ l) : smx ok f v s (n + 1) = (b, l) := by
  rw [smx_s _ _ _ _ h0, h]
  refine if_neg (fun q => ?_)
  rcases h1 with h1 | h1
  · rw [h1] at q; exact absurd q.1 (by decide)
  · have q2 : l < f n := q.2
    omega
theorem smn_t {ok : Int → Bool} {f v : Int → Int} {s : Int × Int} {n b l : Int} (h : smn ok f v s n = (b, l)) (h0 : 0 ≤ n) (h1 : ok n = true) (h2 : f n < l) : smn ok f v s (n + 1) = (v n, f n) := by
  rw [smn_s _ _ _ _ h0, h]
  exact if_pos ⟨h1, h2⟩
theorem smn_f {ok : Int → Bool} {f v : Int → Int} {s : Int × Int} {n b l : Int} (h : smn ok f v s n = (b, l)) (h0 : 0 ≤ n) (h1 : ok n = false ∨ l ≤ f n) : smn ok f v s (n + 1) = (b, l) := by
  rw [smn_s _ _ _ _ h0, h]
  refine if_neg (fun q => ?_)
  rcases h1 with h1 | h1
  · rw [h1] at q; exact absurd q.1 (by decide)
  · have q2 : f n < l := q.2
    omega
abbrev yes : Int → Bool := fun _ => true
abbrev frB (u : Int → Int) : Int → Bool := fun p => decide (u p = 0)
/-- with another kind (0), figure (1), age (2) -/
def oth (C : Cl) (w c v : Int) : Cl := if w = 0 then (uI (ki C) c v, fi C, ag C, we C, yr C) else if w = 1 then (ki C, uI (fi C) c v, ag C, we C, yr C) else (ki C, fi C, uI (ag C) c v, we C, yr C)
theorem oth_0 {C : Cl} {w c v : Int} (h : w = 0) : oth C w c v = (uI (ki C) c v, fi C, ag C, we C, yr C) := if_pos h
theorem oth_1 {C : Cl} {w c v : Int} (h : w = 1) : oth C w c v = (ki C, uI (fi C) c v, ag C, we C, yr C) := by unfold oth; rw [if_neg (by omega), if_pos h]
theorem oth_2 {C : Cl} {w c v : Int} (h0 : w ≠ 0) (h1 : w ≠ 1) : oth C w c v = (ki C, fi C, uI (ag C) c v, we C, yr C) := by unfold oth; rw [if_neg h0, if_neg h1]
theorem uI_rng {f : Int → Int} {c v lo hi : Int} (h : ∀ j : Int, 0 ≤ j → j < 12 → lo ≤ f j ∧ f j ≤ hi) (hv : lo ≤ v ∧ v ≤ hi) : ∀ j : Int, 0 ≤ j → j < 12 → lo ≤ uI f c v j ∧ uI f c v j ≤ hi := by
  intro j h0 h1
  unfold uI
  split
  · exact hv
  · exact h j h0 h1
theorem okC.mk {C : Cl} (h1 : ∀ j : Int, 0 ≤ j → j < 12 → 0 ≤ ki C j ∧ ki C j ≤ 5) (h2 : ∀ j : Int, 0 ≤ j → j < 12 → 0 ≤ fi C j ∧ fi C j ≤ 9) (h3 : ∀ j : Int, 0 ≤ j → j < 12 → 0 ≤ ag C j ∧ ag C j ≤ 99) (h4 : ∀ j : Int, 0 ≤ j → j < 12 → 0 ≤ we C j ∧ we C j ≤ 99) (h5 : 0 ≤ yr C) : okC C := ⟨fun c a b => ⟨h1 c a b, h2 c a b, h3 c a b, h4 c a b⟩, h5⟩
theorem okC.k {C : Cl} (h : okC C) : ∀ j : Int, 0 ≤ j → j < 12 → 0 ≤ ki C j ∧ ki C j ≤ 5 := fun j a b => (h.1 j a b).1
theorem okC.f {C : Cl} (h : okC C) : ∀ j : Int, 0 ≤ j → j < 12 → 0 ≤ fi C j ∧ fi C j ≤ 9 := fun j a b => (h.1 j a b).2.1
theorem okC.a {C : Cl} (h : okC C) : ∀ j : Int, 0 ≤ j → j < 12 → 0 ≤ ag C j ∧ ag C j ≤ 99 := fun j a b => (h.1 j a b).2.2.1
theorem okC.w {C : Cl} (h : okC C) : ∀ j : Int, 0 ≤ j → j < 12 → 0 ≤ we C j ∧ we C j ≤ 99 := fun j a b => (h.1 j a b).2.2.2
theorem oth_ok {C : Cl} (ok : okC C) {w c v : Int} (hv : (w = 0 ∧ 0 ≤ v ∧ v ≤ 5) ∨ (w = 1 ∧ 0 ≤ v ∧ v ≤ 9) ∨ (w = 2 ∧ 0 ≤ v ∧ v ≤ 99)) : okC (oth C w c v) := by
  rcases hv with ⟨h, hv⟩ | ⟨h, hv⟩ | ⟨h, hv⟩
  · rw [oth_0 h]; exact okC.mk (uI_rng ok.k hv) ok.f ok.a ok.w ok.2
  · rw [oth_1 h]; exact okC.mk ok.k (uI_rng ok.f hv) ok.a ok.w ok.2
  · rw [oth_2 (by omega) (by omega)]; exact okC.mk ok.k ok.f (uI_rng ok.a hv) ok.w ok.2
theorem make_ok {C : Cl} (ok : okC C) {c k f a : Int} (hk : 0 ≤ k ∧ k ≤ 5) (hf : 0 ≤ f ∧ f ≤ 9) (ha : 0 ≤ a ∧ a ≤ 99) : okC (make C c k f a) := okC.mk (uI_rng ok.k hk) (uI_rng ok.f hf) (uI_rng ok.a ha) (uI_rng ok.w (by omega)) ok.2
theorem oth_yr (C : Cl) (w c v : Int) : yr (oth C w c v) = yr C := by unfold oth; split; rfl; split <;> rfl

/-- refusals counted -/
def rfa (f : Int → Int) (r : Int) : Int → Int := if -6 ≤ r ∧ r ≤ -1 then uI f (-r) (f (-r) + 1) else f
theorem rfa_r {f : Int → Int} {r : Int} (h : -6 ≤ r ∧ r ≤ -1) : rfa f r = uI f (-r) (f (-r) + 1) := if_pos h
theorem rfa_n {f : Int → Int} {r : Int} (h : ¬ (-6 ≤ r ∧ r ≤ -1)) : rfa f r = f := if_neg h
def wnum (v lo hi : Int) : Int := if v < lo then -4 else if hi < v then -6 else 0
theorem wnum_in (v lo hi : Int) : -6 ≤ wnum v lo hi ∧ wnum v lo hi ≤ 0 := by
  unfold wnum
  repeat' split
  all_goals omega
def wbit (w v m : Int) : Int := if w = 0 ∧ ¬ (0 ≤ v ∧ v ≤ m) then -2 else w
theorem wn_spec (v lo hi : Int) : (v < lo ∧ wnum v lo hi = -4) ∨ (lo ≤ v ∧ hi < v ∧ wnum v lo hi = -6) ∨ (lo ≤ v ∧ v ≤ hi ∧ wnum v lo hi = 0) := by
  unfold wnum
  repeat' split
  all_goals omega
theorem wb_spec (w v m : Int) : (w = 0 ∧ ¬ (0 ≤ v ∧ v ≤ m) ∧ wbit w v m = -2) ∨ (¬ (w = 0 ∧ ¬ (0 ≤ v ∧ v ≤ m)) ∧ wbit w v m = w) := by
  unfold wbit
  split <;> omega
theorem rowI_in {p : Prop} [Decidable p] : 0 ≤ b2i p ∧ b2i p ≤ 1 := by
  rcases b2i_01 p with h | h <;> omega
/-! the answers -/
def qCellOf (C : Cl) (c w : Int) : Int := if ¬ (0 ≤ c ∧ c < 12) then -1 else if w = 0 then ki C c else if w = 1 then fi C c else if w = 2 then ag C c else if w = 3 then we C c else if w = 4 then pull C c else if w = 5 then wearing C (yr C + 1) c else if w = 6 then hold C c else if w = 7 then (if hole C c then 1 else 0) else -2
def qBehind (C : Cl) (c n w : Int) : Int := if ¬ (0 ≤ c ∧ c < 12) then -1 else if n < 0 then -4 else if 60 < n then -6 else if ¬ (0 ≤ w ∧ w ≤ 2) then -2 else if w = 0 then we (goI n C) c else if w = 1 then pull (goI n C) c else if hole (goI n C) c then 1 else 0
def qAll (C : Cl) (n w : Int) : Int := if n < 0 then -4 else if 60 < n then -6 else if ¬ (0 ≤ w ∧ w ≤ 2) then -2 else if w = 0 then pcnt (hbits (goI n C)) else if w = 1 then allWear (goI n C) else allPull (goI n C)
def qEntire (C : Cl) : Int := sumI (fun c => if pull C c = 0 then 1 else 0) 12
def qSumOf (a : Int → Int) (r : Int) : Int := if ¬ (0 ≤ r ∧ r < 3) then -1 else a (4 * r) + a (4 * r + 1) + a (4 * r + 2) + a (4 * r + 3)
def qStrip (a : Int → Int) (w : Int) : Int := if ¬ (0 ≤ w ∧ w ≤ 1) then -2 else if w = 0 then (smx yes (rising a) (fun c => c) (0, 0) 12).2 else (smx yes (rising a) (fun c => c) (0, 0) 12).1
/-- the first place from one on with rank i -/
def rkN (w : Int → Int) (i : Int) : Nat → Int → Int
  | 0, _ => -9
  | k + 1, c => if rnk w c = i then c else rkN w i k (c + 1)
def qRank (w : Int → Int) (i : Int) : Int := if i < 0 then -4 else rkN w i 12 0
theorem rk_s (w : Int → Int) (i : Int) {c : Int} (h : c < 12) : rkN w i (12 - c).toNat c = if rnk w c = i then c else rkN w i (12 - (c + 1)).toNat (c + 1) := by
  rw [show (12 - c).toNat = (12 - (c + 1)).toNat + 1 by omega]
  rfl
theorem pcnt_bd (z : Int) : 0 ≤ pcnt z := by unfold pcnt; omega
theorem allPull_bd {C : Cl} (ok : okA C) : 0 ≤ allPull C ∧ allPull C ≤ 3000 := by
  have h := sumI_bd (f := pull C) (lo := 0) (hi := 250) (n := 12) (by decide) (fun j a b => pull_bd ok a b)
  unfold allPull
  omega
theorem allWear_bd {C : Cl} (ok : okC C) : 0 ≤ allWear C ∧ allWear C ≤ 1188 := by
  have h := sumI_bd (f := we C) (lo := 0) (hi := 99) (n := 12) (by decide) (fun j a b => ok.w j a b)
  unfold allWear
  omega
theorem allAge_bd {C : Cl} (ok : okC C) : 0 ≤ allAge C ∧ allAge C ≤ 1188 := by
  have h := sumI_bd (f := ag C) (lo := 0) (hi := 99) (n := 12) (by decide) (fun j a b => ok.a j a b)
  unfold allAge
  omega
theorem hbits_in (C : Cl) : 0 ≤ hbits C ∧ hbits C < 4096 := hbits_bd C (n := 12) (by decide)

theorem uI_back (f : Int → Int) (c x : Int) : uI (uI f c x) c (f c) = f := by
  funext j
  unfold uI
  split
  · rename_i h; rw [h]
  · rfl
theorem uI_uI (f : Int → Int) (c x y : Int) : uI (uI f c x) c y = uI f c y := by
  funext j
  unfold uI
  split <;> rfl
theorem swf_swf (f : Int → Int) (a b : Int) : swf (swf f a b) a b = f := by
  funext j
  unfold swf uI
  repeat' split
  all_goals (subst_vars; first | rfl | (exfalso; omega) | simp_all)
theorem swC_swC (C : Cl) (a b : Int) : swC (swC C a b) a b = C := by
  unfold swC
  show (swf (swf (ki C) a b) a b, swf (swf (fi C) a b) a b, swf (swf (ag C) a b) a b, swf (swf (we C) a b) a b, yr C) = C
  rw [swf_swf, swf_swf, swf_swf, swf_swf]
theorem smn_skip {ok : Int → Bool} {f v : Int → Int} {s : Int × Int} {i b l : Int} (h0 : 0 ≤ i) (h : smn ok f v s i = (b, l)) (d : Nat) (hk : ∀ k : Int, i ≤ k → k < i + d → ok k = false) : smn ok f v s (i + d) = (b, l) := by
  induction d with
  | zero => rw [show i + ((0 : Nat) : Int) = i by omega]; exact h
  | succ d ih =>
    rw [show i + ((d + 1 : Nat) : Int) = (i + (d : Int)) + 1 by omega]
    exact smn_f (ih (fun k a b => hk k a (by omega))) (by omega) (Or.inl (hk _ (by omega) (by omega)))
theorem smn_to {ok : Int → Bool} {f v : Int → Int} {s : Int × Int} {i j b l : Int} (h0 : 0 ≤ i) (h : smn ok f v s i = (b, l)) (hij : i ≤ j) (hk : ∀ k : Int, i ≤ k → k < j → ok k = false) : smn ok f v s j = (b, l) := by
  have e : i + ((j - i).toNat : Int) = j := by omega
  rw [← e]
  exact smn_skip h0 h _ (fun k a b => hk k a (by omega))
theorem smx_to {ok : Int → Bool} {f v : Int → Int} {s : Int × Int} {i j b l : Int} (h0 : 0 ≤ i) (h : smx ok f v s i = (b, l)) (hij : i ≤ j) (hk : ∀ k : Int, i ≤ k → k < j → ok k = false) : smx ok f v s j = (b, l) := by
  obtain ⟨d, rfl⟩ : ∃ d : Nat, j = i + (d : Int) := ⟨(j - i).toNat, by omega⟩
  induction d with
  | zero => rw [show i + ((0 : Nat) : Int) = i by omega]; exact h
  | succ d ih =>
    rw [show i + ((d + 1 : Nat) : Int) = (i + (d : Int)) + 1 by omega]
    exact smx_f (ih (by omega) (fun k a b => hk k a (by omega))) (by omega) (Or.inl (hk _ (by omega) (by omega)))
/-- the most, the first place -/
theorem amax_1 (f : Int → Int) : amax f 1 = 0 := amin_1 _
theorem amax_s (f : Int → Int) {n : Int} (h : 0 ≤ n) : amax f (n + 1) = if f (amax f n) < f n then n else amax f n := by
  unfold amax
  rw [amin_s _ h]
  split <;> split <;> first | rfl | omega
theorem amax_in (f : Int → Int) {n : Int} (h : 1 ≤ n) : 0 ≤ amax f n ∧ amax f n < n := amin_in _ h
def MAXI : Int := 2147483647
def mn (C : Cl) : Int := lasts C (amin (lasts C) 12)
def mkp (C : Cl) (pk pf pa : Int → Int) (p c : Int) : Cl := make C c (pk p) (pf p) (pa p)
def qLasts (C : Cl) (c : Int) : Int := if ¬ (0 ≤ c ∧ c < 12) then -1 else if lasts C c = 61 then -9 else lasts C c
def qHoles (C : Cl) (w : Int) : Int := if ¬ (0 ≤ w ∧ w ≤ 2) then -2 else if w = 2 then amax (lasts C) 12 else if mn C = 61 then -9 else if w = 0 then mn C else amin (lasts C) 12
def sFits (C : Cl) (pk pf pa : Int → Int) (p : Int) : Int × Int := smn yes (fun c => allPull (mkp C pk pf pa p c)) (fun c => c) (0, MAXI) 12
def qFits (C : Cl) (pk pf pa u : Int → Int) (n p w : Int) : Int := if ¬ (0 ≤ p ∧ p < n) then -1 else if ¬ (0 ≤ w ∧ w ≤ 1) then -2 else if u p = 1 then -3 else if w = 0 then (sFits C pk pf pa p).1 else (sFits C pk pf pa p).2
def sBest (C : Cl) (pk pf pa u : Int → Int) (n c : Int) : Int × Int := smx (frB u) (fun p => lasts (mkp C pk pf pa p c) c) (fun p => p) (-9, -1) n
def qBestPiece (C : Cl) (pk pf pa u : Int → Int) (n c : Int) : Int := if ¬ (0 ≤ c ∧ c < 12) then -1 else (sBest C pk pf pa u n c).1
def sKeep (C : Cl) (pk pf pa u : Int → Int) (n : Int) : Int × Int := smx (fun k => frB u (k / 12)) (fun k => mn (mkp C pk pf pa (k / 12) (k % 12))) (fun k => 100 * (k / 12) + k % 12) (-9, mn C) (12 * n)
def qKeep (C : Cl) (pk pf pa u : Int → Int) (n : Int) : Int := (sKeep C pk pf pa u n).1
def sSwap (C : Cl) (k : Int) : Int × Int := smn (fun k => decide (k / 12 < k % 12)) (fun k => allPull (swC C (k / 12) (k % 12))) (fun k => 100 * (k / 12) + k % 12) (-9, allPull C) k
def qSwap (C : Cl) : Int := (sSwap C 144).1
def sAge (C : Cl) (c : Int) (n : Int) : Int × Int := smn yes (fun v => allPull (oth C 2 c v)) (fun v => v) (0, MAXI) n
def qAgeFor (C : Cl) (c : Int) : Int := if ¬ (0 ≤ c ∧ c < 12) then -1 else (sAge C c 100).1
def sBestOf (C : Cl) (c w : Int) (n : Int) : Int × Int := smx yes (fun v => lasts (oth C w c v) c) (fun v => v) (0, -1) n
def qBestOf (C : Cl) (c w : Int) : Int := if ¬ (0 ≤ c ∧ c < 12) then -1 else if ¬ (0 ≤ w ∧ w ≤ 1) then -2 else (sBestOf C c w (if w = 0 then 6 else 10)).1

