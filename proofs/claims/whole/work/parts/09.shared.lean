/-! shared by both sides -/
def pcN (n : Nat) : Nat := (List.range 12).foldl (fun a k => a + n / 2 ^ k % 2) 0
/-- how many bits, below 4096 -/
def pcnt (z : Int) : Int := (pcN z.toNat : Int)
theorem pcN_step2 : ∀ a : Nat, a < 64 → ∀ b : Nat, b < 64 → 0 < 64 * a + b → ((64 * a + b) &&& ((64 * a + b) - 1)) < (64 * a + b) ∧ pcN (64 * a + b) = pcN ((64 * a + b) &&& ((64 * a + b) - 1)) + 1 := by decide +kernel
theorem pcN_step (n : Nat) (h : n < 4096) (h0 : 0 < n) : (n &&& (n - 1)) < n ∧ pcN n = pcN (n &&& (n - 1)) + 1 := by
  have e : 64 * (n / 64) + n % 64 = n := by omega
  have k := pcN_step2 (n / 64) (by omega) (n % 64) (by omega) (by omega)
  rw [e] at k
  exact k
theorem pcnt_step {z : Int} (h0 : 0 < z) (h1 : z < 4096) : 0 ≤ band z (z - 1) ∧ band z (z - 1) < z ∧ pcnt z = pcnt (band z (z - 1)) + 1 := by
  have h := pcN_step z.toNat (by omega) (by omega)
  unfold band pcnt
  rw [show (z - 1).toNat = z.toNat - 1 by omega, Int.toNat_natCast]
  omega
theorem pcnt_0 : pcnt 0 = 0 := by decide +kernel
/-- how long a cell lasts: after n years looked at (61: none yet) -/
def lsN (C : Cl) : Nat → Int → Int
  | 0, _ => 61
  | n + 1, c => if hole (goY n C) c ∧ lsN C n c = 61 then (n : Int) else lsN C n c
def lsI (C : Cl) (n : Int) (c : Int) : Int := lsN C n.toNat c
theorem lsI_s (C : Cl) {n : Int} (h : 0 ≤ n) (c : Int) : lsI C (n + 1) c = if hole (goI n C) c ∧ lsI C n c = 61 then n else lsI C n c := by
  unfold lsI goI
  rw [show (n + 1).toNat = n.toNat + 1 by omega]
  show (if hole (goY n.toNat C) c ∧ lsN C n.toNat c = 61 then ((n.toNat : Nat) : Int) else lsN C n.toNat c) = _
  rw [Int.toNat_of_nonneg h]
theorem lsI_bd (C : Cl) {n : Int} (h : 0 ≤ n) (h2 : n ≤ 61) (c : Int) : 0 ≤ lsI C n c ∧ lsI C n c ≤ 61 := by
  obtain ⟨k, rfl⟩ : ∃ k : Nat, n = (k : Int) := ⟨n.toNat, by omega⟩
  induction k with
  | zero => exact ⟨by show (0 : Int) ≤ 61; decide, by show (61 : Int) ≤ 61; decide⟩
  | succ k ih =>
    have e : ((k + 1 : Nat) : Int) = (k : Int) + 1 := by omega
    have := ih (by omega) (by omega)
    rw [e, lsI_s C (by omega)]
    split <;> omega
def lasts (C : Cl) : Int → Int := lsI C 61
theorem lasts_bd (C : Cl) (c : Int) : 0 ≤ lasts C c ∧ lasts C c ≤ 61 := lsI_bd C (by decide) (by decide) c
theorem upTo_upTo (f g h : Int → Int) (n : Int) : upTo (upTo f g n) h n = upTo f h n := by
  funext j
  unfold upTo
  by_cases k : 0 ≤ j ∧ j < n
  · rw [if_pos k, if_pos k]
  · rw [if_neg k, if_neg k, if_neg k]
/-- the first place of the least, of the most -/
def amN (f : Int → Int) : Nat → Int
  | 0 => 0
  | n + 1 => if f (n : Int) < f (amN f n) then (n : Int) else amN f n
def amin (f : Int → Int) (n : Int) : Int := amN f n.toNat
theorem amin_1 (f : Int → Int) : amin f 1 = 0 := by
  show (if f ((0 : Nat) : Int) < f 0 then ((0 : Nat) : Int) else 0) = 0
  split <;> rfl
theorem amin_s (f : Int → Int) {n : Int} (h : 0 ≤ n) : amin f (n + 1) = if f n < f (amin f n) then n else amin f n := by
  unfold amin
  rw [show (n + 1).toNat = n.toNat + 1 by omega]
  show (if f ((n.toNat : Nat) : Int) < f (amN f n.toNat) then ((n.toNat : Nat) : Int) else amN f n.toNat) = _
  rw [Int.toNat_of_nonneg h]
theorem amin_in (f : Int → Int) {n : Int} (h : 1 ≤ n) : 0 ≤ amin f n ∧ amin f n < n := by
  obtain ⟨k, rfl⟩ : ∃ k : Nat, n = (k : Int) + 1 := ⟨(n - 1).toNat, by omega⟩
  induction k with
  | zero => rw [show ((0 : Nat) : Int) + 1 = 1 by rfl, amin_1]; omega
  | succ k ih =>
    have := ih (by omega)
    rw [show ((k + 1 : Nat) : Int) + 1 = ((k : Int) + 1) + 1 by omega, amin_s f (by omega)]
    split <;> omega
def amax (f : Int → Int) (n : Int) : Int := amin (fun j => -(f j)) n
def fbf (u : Int → Int) (p : Int) : Int := if u p = 0 then p2 p else 0
def fbits (u : Int → Int) (n : Int) : Int := sumI (fbf u) n
theorem fbits_bd (u : Int → Int) {n : Int} (h : 0 ≤ n) : 0 ≤ fbits u n ∧ fbits u n < p2 n := by
  obtain ⟨k, rfl⟩ : ∃ k : Nat, n = (k : Int) := ⟨n.toNat, by omega⟩
  induction k with
  | zero => exact ⟨by show (0 : Int) ≤ 0; decide, by show (0 : Int) < 1; decide⟩
  | succ k ih =>
    have e : ((k + 1 : Nat) : Int) = (k : Int) + 1 := by omega
    have h1 := ih (by omega)
    have hp := p2_pos (k : Int)
    rw [e, fbits, sumI_s _ (by omega), p2_s (by omega)]
    unfold fbits at h1
    by_cases hh : u (k : Int) = 0
    · have e2 : fbf u (k : Int) = p2 (k : Int) := if_pos hh
      omega
    · have e2 : fbf u (k : Int) = 0 := if_neg hh
      omega
def fr1 (u : Int → Int) (p : Int) : Int := if u p = 0 then 1 else 0
def frc (u : Int → Int) (n : Int) : Int := sumI (fr1 u) n
theorem frc_bd (u : Int → Int) {n : Int} (h : 0 ≤ n) : 0 ≤ frc u n ∧ frc u n ≤ n := by
  have := sumI_bd (f := fr1 u) (lo := 0) (hi := 1) h (fun j _ _ => by unfold fr1; split <;> omega)
  unfold frc
  omega
theorem frc_s (u : Int → Int) {n : Int} (h : 0 ≤ n) : frc u (n + 1) = frc u n + fr1 u n := sumI_s _ h
/-- the places of the free ones, laid into an array -/
def flN (f : Int → Int) (u : Int → Int) : Nat → Int → Int
  | 0 => f
  | n + 1 => if u (n : Int) = 0 then uI (flN f u n) (frc u (n : Int)) (n : Int) else flN f u n
def flA (f u : Int → Int) (n : Int) : Int → Int := flN f u n.toNat
theorem flA_s (f u : Int → Int) {n : Int} (h : 0 ≤ n) : flA f u (n + 1) = if u n = 0 then uI (flA f u n) (frc u n) n else flA f u n := by
  unfold flA
  rw [show (n + 1).toNat = n.toNat + 1 by omega]
  show (if u ((n.toNat : Nat) : Int) = 0 then uI (flN f u n.toNat) (frc u ((n.toNat : Nat) : Int)) ((n.toNat : Nat) : Int) else flN f u n.toNat) = _
  rw [Int.toNat_of_nonneg h]
/-- a row that tells wear -/
def rowB (C : Cl) (r : Int → Int) (c : Int) : Nat → Bool
  | 0 => true
  | n + 1 => rowB C r c n && decide (we (goY n C) c = r (n : Int))
def rowI (C : Cl) (r : Int → Int) (c n : Int) : Prop := rowB C r c n.toNat = true
theorem rowI_s (C : Cl) (r : Int → Int) (c : Int) {n : Int} (h : 0 ≤ n) : rowI C r c (n + 1) ↔ rowI C r c n ∧ we (goI n C) c = r n := by
  unfold rowI goI
  rw [show (n + 1).toNat = n.toNat + 1 by omega]
  show (rowB C r c n.toNat && decide (we (goY n.toNat C) c = r ((n.toNat : Nat) : Int))) = true ↔ _
  rw [Int.toNat_of_nonneg h, Bool.and_eq_true, decide_eq_true_eq]
theorem rowI_0 (C : Cl) (r : Int → Int) (c : Int) : rowI C r c 0 := rfl
theorem rowI_out (C : Cl) (r : Int → Int) (c : Int) {k n : Int} (h0 : 0 ≤ k) (h : k ≤ n) (no : ¬ rowI C r c k) : ¬ rowI C r c n := by
  obtain ⟨d, rfl⟩ : ∃ d : Nat, n = k + (d : Int) := ⟨(n - k).toNat, by omega⟩
  induction d with
  | zero => rw [show k + ((0 : Nat) : Int) = k by omega]; exact no
  | succ d ih =>
    have e : k + ((d + 1 : Nat) : Int) = (k + (d : Int)) + 1 := by omega
    rw [e, rowI_s C r c (by omega)]
    exact fun q => ih (by omega) q.1
/-- swaps, draws, fractions -/
def swf (f : Int → Int) (a b : Int) : Int → Int := uI (uI f a (f b)) b (f a)
def swC (C : Cl) (a b : Int) : Cl := (swf (ki C) a b, swf (fi C) a b, swf (ag C) a b, swf (we C) a b, yr C)
def nxt (z : Int) : Int := z * 1103515245 + 12345
def drw (z n : Int) : Int := z % 2147483648 / 65536 % n
theorem iI_and31 (z : Int) : iI z &&& iI 2147483647 = iI (z % 2147483648) := by
  rw [pk_and (iI z) 31 (by decide +kernel), ← iI_nat]
  congr 1
  have e : (iI z).toBitVec.toNat = (z % 4294967296).toNat := by
    show (BitVec.ofInt 32 z).toNat = _
    rw [BitVec.toNat_ofInt]
    rfl
  rw [e]
  omega
def gcdI (a b : Int) : Int := ((Nat.gcd a.toNat b.toNat : Nat) : Int)
def prt (a b part : Int) : Int := if a = 0 then part else if part = 0 then a / gcdI a b else b / gcdI a b
theorem gcdI_0 {a : Int} (h : 0 ≤ a) : gcdI a 0 = a := by
  unfold gcdI
  rw [show (0 : Int).toNat = 0 by decide, Nat.gcd_zero_right]
  omega
theorem gcdI_step {a b : Int} (ha : 0 ≤ a) (hb : 0 < b) : gcdI b (a % b) = gcdI a b := by
  unfold gcdI
  have e : (a % b).toNat = a.toNat % b.toNat := by
    have := Int.natCast_emod a.toNat b.toNat
    rw [Int.toNat_of_nonneg ha, Int.toNat_of_nonneg (by omega)] at this
    omega
  rw [e, Nat.gcd_comm a.toNat b.toNat, Nat.gcd_rec b.toNat a.toNat, Nat.gcd_comm]
theorem gcdI_pos {a b : Int} (h : 0 < b) : 0 < gcdI a b := by
  unfold gcdI
  have := Nat.gcd_pos_of_pos_right a.toNat (show 0 < b.toNat by omega)
  omega
theorem gcdI_le {a b : Int} (h : 0 < b) : gcdI a b ≤ b := by
  unfold gcdI
  have := Nat.gcd_le_right a.toNat (show 0 < b.toNat by omega)
  omega
def rk1 (w : Int → Int) (c o : Int) : Int := if w c < w o ∨ (w o = w c ∧ o < c) then 1 else 0
def rnk (w : Int → Int) (c : Int) : Int := sumI (rk1 w c) 12
/-- how long a row of cells rises from one on: at place p, so long already -/
def rise (a : Int → Int) : Nat → Int → Int → Int
  | 0, _, l => l
  | k + 1, p, l => if p < 12 ∧ p % 4 ≠ 0 ∧ a (p - 1) ≤ a p then rise a k (p + 1) (l + 1) else l
def riseI (a : Int → Int) (p l : Int) : Int := rise a (13 - p).toNat p l
theorem riseI_s (a : Int → Int) {p l : Int} (h : p ≤ 12) : riseI a p l = if p < 12 ∧ p % 4 ≠ 0 ∧ a (p - 1) ≤ a p then riseI a (p + 1) (l + 1) else l := by
  unfold riseI
  rw [show (13 - p).toNat = (13 - (p + 1)).toNat + 1 by omega]
  rfl
def rising (a : Int → Int) (c : Int) : Int := riseI a (c + 1) 1
