/-! NUMBERS: the Int32 and the Int64 of an Int -/
def iI (z : Int) : Int32 := Int32.ofInt z
def iL (z : Int) : Int64 := Int64.ofInt z
abbrev In32 (z : Int) : Prop := -2147483648 ≤ z ∧ z ≤ 2147483647
abbrev In64 (z : Int) : Prop := -9223372036854775808 ≤ z ∧ z ≤ 9223372036854775807
theorem iI_toInt {z : Int} (h : In32 z) : (iI z).toInt = z := Int32.toInt_ofInt_of_le (by have := h.1; omega) (by have := h.2; omega)
theorem iL_toInt {z : Int} (h : In64 z) : (iL z).toInt = z := Int64.toInt_ofInt_of_le (by have := h.1; omega) (by have := h.2; omega)
theorem iI_self (x : Int32) : iI x.toInt = x := Int32.ofInt_toInt x
theorem iI_of (x : Int32) : ∃ z : Int, In32 z ∧ x = iI z := ⟨x.toInt, ⟨by have := x.le_toInt; omega, by have := x.toInt_lt; omega⟩, (iI_self x).symm⟩
theorem iI_add (a b : Int) : iI a + iI b = iI (a + b) := (Int32.ofInt_add a b).symm
theorem iI_sub (a b : Int) : iI a - iI b = iI (a - b) := (Int32.ofInt_sub a b).symm
theorem iI_mul (a b : Int) : iI a * iI b = iI (a * b) := (Int32.ofInt_mul a b).symm
theorem iI_neg (a : Int) : -iI a = iI (-a) := (Int32.ofInt_neg a).symm
theorem iI_lt {a b : Int} (ha : In32 a) (hb : In32 b) : iI a < iI b ↔ a < b := by rw [Int32.lt_iff_toInt_lt, iI_toInt ha, iI_toInt hb]
theorem iI_le {a b : Int} (ha : In32 a) (hb : In32 b) : iI a ≤ iI b ↔ a ≤ b := by rw [Int32.le_iff_toInt_le, iI_toInt ha, iI_toInt hb]
theorem iI_eq {a b : Int} (ha : In32 a) (hb : In32 b) : iI a = iI b ↔ a = b := ⟨fun h => by have h2 := congrArg Int32.toInt h; rwa [iI_toInt ha, iI_toInt hb] at h2, fun h => by rw [h]⟩
theorem iI_z : iI 0 = 0 := by decide +kernel
theorem iI_div {a b : Int} (ha : 0 ≤ a) (ha2 : a ≤ 2147483647) (hb : 0 < b) (hb2 : b ≤ 2147483647) : iI a / iI b = iI (a / b) := by
  have h := Int32.ofInt_tdiv (a := a) (b := b) (by show (-2147483648 : Int) ≤ a; omega) (by show a ≤ (2147483647 : Int); omega) (by show (-2147483648 : Int) ≤ b; omega) (by show b ≤ (2147483647 : Int); omega)
  rw [Int.tdiv_eq_ediv_of_nonneg ha] at h
  exact h.symm
theorem iI_rem {a b : Int} (ha : 0 ≤ a) (ha2 : a ≤ 2147483647) (hb : 0 < b) (hb2 : b ≤ 2147483647) : iI a - iI a / iI b * iI b = iI (a % b) := by
  rw [iI_div ha ha2 hb hb2, iI_mul, iI_sub, Int.emod_def, Int.mul_comm]
theorem iI_clamp {z : Int} (h0 : 0 ≤ z) (h1 : z ≤ 2147483647) : (iI z).toNatClampNeg = z.toNat := Int32.toNatClampNeg_ofInt_of_le (by omega) (by omega)
theorem iI_in {z : Int} {n : Nat} (h0 : 0 ≤ z) (h1 : z < (n : Int)) (hn : n ≤ 2147483647) : vp_in (iI z) n := by
  rw [vp_in_iff, iI_toInt ⟨by omega, by omega⟩]
  exact ⟨h0, h1⟩
theorem iI_nat (n : Nat) : iI (n : Int) = nI n := Int32.ofInt_eq_ofNat
theorem iI_long {z : Int} (h : In32 z) : (iI z).toInt64 = iL z := Int32.toInt64_ofInt (by show (-2147483648 : Int) ≤ z; exact h.1) (by show z ≤ (2147483647 : Int); exact h.2)
theorem iL_add (a b : Int) : iL a + iL b = iL (a + b) := (Int64.ofInt_add a b).symm
theorem iL_sub (a b : Int) : iL a - iL b = iL (a - b) := (Int64.ofInt_sub a b).symm
theorem iL_mul (a b : Int) : iL a * iL b = iL (a * b) := (Int64.ofInt_mul a b).symm
theorem iL_lt {a b : Int} (ha : In64 a) (hb : In64 b) : iL a < iL b ↔ a < b := by rw [Int64.lt_iff_toInt_lt, iL_toInt ha, iL_toInt hb]
theorem iL_eq {a b : Int} (ha : In64 a) (hb : In64 b) : iL a = iL b ↔ a = b := ⟨fun h => by have h2 := congrArg Int64.toInt h; rwa [iL_toInt ha, iL_toInt hb] at h2, fun h => by rw [h]⟩
theorem iL_div {a b : Int} (ha : 0 ≤ a) (ha2 : a ≤ 9223372036854775807) (hb : 0 < b) (hb2 : b ≤ 9223372036854775807) : iL a / iL b = iL (a / b) := by
  have h := Int64.ofInt_tdiv (a := a) (b := b) (by show (-9223372036854775808 : Int) ≤ a; omega) (by show a ≤ (9223372036854775807 : Int); omega) (by show (-9223372036854775808 : Int) ≤ b; omega) (by show b ≤ (9223372036854775807 : Int); omega)
  rw [Int.tdiv_eq_ediv_of_nonneg ha] at h
  exact h.symm
theorem iL_rem {a b : Int} (ha : 0 ≤ a) (ha2 : a ≤ 9223372036854775807) (hb : 0 < b) (hb2 : b ≤ 9223372036854775807) : iL a - iL a / iL b * iL b = iL (a % b) := by
  rw [iL_div ha ha2 hb hb2, iL_mul, iL_sub, Int.emod_def, Int.mul_comm]
/-! functions from places: one value more, whole stretches -/
def uI (f : Int → Int) (i v : Int) : Int → Int := fun j => if j = i then v else f j
/-- the places 0 .. n-1 as g has them, the others as f -/
def upTo (f g : Int → Int) (n : Int) : Int → Int := fun j => if 0 ≤ j ∧ j < n then g j else f j
theorem uI_s {f : Int → Int} {i v : Int} : uI f i v i = v := by simp [uI]
theorem uI_n {f : Int → Int} {i v j : Int} (h : j ≠ i) : uI f i v j = f j := by simp [uI, h]
theorem upTo_0 (f g : Int → Int) : upTo f g 0 = f := by
  funext j
  unfold upTo
  rw [if_neg (by omega)]
theorem upTo_s (f g : Int → Int) {n : Int} (h : 0 ≤ n) : uI (upTo f g n) n (g n) = upTo f g (n + 1) := by
  funext j
  unfold uI upTo
  by_cases h1 : j = n
  · subst h1; rw [if_pos rfl, if_pos (by omega)]
  · rw [if_neg h1]
    by_cases h2 : 0 ≤ j ∧ j < n
    · rw [if_pos h2, if_pos (by omega)]
    · rw [if_neg h2, if_neg (by omega)]
theorem upTo_in {f g : Int → Int} {n j : Int} (h0 : 0 ≤ j) (h : j < n) : upTo f g n j = g j := if_pos ⟨h0, h⟩
theorem upTo_out {f g : Int → Int} {n j : Int} (h : n ≤ j) : upTo f g n j = f j := if_neg (by omega)
/-- an array's contents, and what a store makes of them -/
theorem upd_iI (f : Int → Int) {i : Int} (v : Int) (h0 : 0 ≤ i) (h1 : i ≤ 2147483647) : upd (fun j : Nat => iI (f (j : Int))) (iI i).toNatClampNeg (iI v) = fun j : Nat => iI (uI f i v (j : Int)) := by
  funext j
  rw [iI_clamp h0 h1]
  unfold upd uI
  by_cases h : j = i.toNat
  · rw [if_pos h, if_pos (by omega)]
  · rw [if_neg h, if_neg (by omega)]
theorem rd_iI (f : Int → Int) {i : Int} (h0 : 0 ≤ i) (h1 : i ≤ 2147483647) : (fun j : Nat => iI (f (j : Int))) (iI i).toNatClampNeg = iI (f i) := by
  show iI (f (((iI i).toNatClampNeg : Nat) : Int)) = _
  rw [iI_clamp h0 h1, Int.toNat_of_nonneg h0]
