/-- counts, sorting -/
def bl (f : Int → Int) (v : Int) : Int → Int := fun j => if f j < v then 1 else 0
def ble (f : Int → Int) (v : Int) : Int → Int := fun j => if f j ≤ v then 1 else 0
def bk (f : Int → Int) (c : Int) : Int → Int := fun j => if f j < f c ∨ (f j = f c ∧ j < c) then 1 else 0
def bsN (f : Int → Int) (n i : Int) : Nat → Int → Int
  | 0, _ => 0
  | k + 1, c => if sumI (bk f c) n = i then f c else bsN f n i k (c + 1)
def bsI (f : Int → Int) (n i : Int) : Int := bsN f n i n.toNat 0
theorem bs_s (f : Int → Int) {n i c : Int} (h : c < n) : bsN f n i (n - c).toNat c = if sumI (bk f c) n = i then f c else bsN f n i (n - (c + 1)).toNat (c + 1) := by
  rw [show (n - c).toNat = (n - (c + 1)).toNat + 1 by omega]
  rfl
theorem bs_0 (f : Int → Int) (n i : Int) : bsI f n i = bsN f n i (n - 0).toNat 0 := by rw [Int.sub_zero]; rfl
theorem sumI_up (f : Int → Int) {n : Int} (h : n ≤ 0) : sumI f n = 0 := by
  unfold sumI
  rw [show n.toNat = 0 by omega]
  rfl
theorem sum_uI (g : Int → Int) {a x : Int} (h0 : 0 ≤ a) : ∀ k : Nat, a < k → sumI (uI g a x) (k : Int) = sumI g (k : Int) + x - g a := by
  intro k
  induction k with
  | zero => intro h; exact absurd h (by omega)
  | succ k ih =>
    intro h
    have e : ((k + 1 : Nat) : Int) = (k : Int) + 1 := by omega
    rw [e, sumI_s _ (by omega), sumI_s _ (by omega)]
    by_cases q : a = (k : Int)
    · have e2 : sumI (uI g a x) (k : Int) = sumI g (k : Int) := sumI_eq (fun j _ b => uI_n (by omega))
      rw [e2, ← q, uI_s]
      omega
    · rw [ih (by omega), uI_n (show (k : Int) ≠ a from fun z => q z.symm)]
      omega
theorem sum_swf (g : Int → Int) {a b n : Int} (ha : 0 ≤ a ∧ a < n) (hb : 0 ≤ b ∧ b < n) : sumI (swf g a b) n = sumI g n := by
  obtain ⟨k, rfl⟩ : ∃ k : Nat, n = (k : Int) := ⟨n.toNat, by omega⟩
  unfold swf
  rw [sum_uI _ hb.1 k hb.2, sum_uI _ ha.1 k ha.2]
  by_cases q : b = a
  · subst q; rw [uI_s]; omega
  · rw [uI_n q]; omega
def prm (g f : Int → Int) (n : Int) : Prop := ∀ v : Int, sumI (bl g v) n = sumI (bl f v) n
theorem prm_rf (f : Int → Int) (n : Int) : prm f f n := fun _ => rfl
theorem bl_swf (f : Int → Int) (v a b : Int) : bl (swf f a b) v = swf (bl f v) a b := by
  funext j
  unfold bl swf uI
  by_cases h1 : j = b
  · subst h1; simp
  · by_cases h2 : j = a
    · subst h2; simp [h1]
    · simp [h1, h2]
theorem prm_sw {g f : Int → Int} {n a b : Int} (h : prm g f n) (ha : 0 ≤ a ∧ a < n) (hb : 0 ≤ b ∧ b < n) : prm (swf g a b) f n := fun v => by
  rw [bl_swf, sum_swf _ ha hb]
  exact h v
def srt (f : Int → Int) (k : Int) : Prop := ∀ x y : Int, 0 ≤ x → x < y → y < k → f x ≤ f y
def ins (f : Int → Int) (k j : Int) : Prop := ∀ x y : Int, 0 ≤ x → x < y → y ≤ k → y ≠ j → f x ≤ f y
theorem srt_ins {f : Int → Int} {k : Int} (h : srt f k) : ins f k k := fun x y a b c d => h x y a b (by omega)
theorem ins_srt {f : Int → Int} {k j : Int} (h : ins f k j) (hj : j ≤ 0 ∨ (0 < j ∧ j ≤ k ∧ f (j - 1) ≤ f j)) : srt f (k + 1) := fun x y a b c => by
  by_cases q : y = j
  · subst q
    rcases hj with hj | ⟨j0, j1, j2⟩
    · omega
    · by_cases r : x = y - 1
      · rw [r]; exact j2
      · have := h x (y - 1) a (by omega) (by omega) (by omega)
        omega
  · exact h x y a b (by omega) q
theorem swf_at {f : Int → Int} {a b j : Int} : swf f a b j = if j = b then f a else if j = a then f b else f j := by
  unfold swf uI
  rfl
theorem ins_sw {f : Int → Int} {k j : Int} (h : ins f k j) (j0 : 0 < j) (j1 : j ≤ k) (hl : f j < f (j - 1)) : ins (swf f j (j - 1)) k (j - 1) := fun x y a b c d => by
  rw [swf_at, swf_at, if_neg d]
  by_cases q : y = j
  · rw [if_pos q]
    by_cases r : x = j - 1
    · rw [if_pos r]; omega
    · rw [if_neg r, if_neg (by omega)]
      exact h x (j - 1) a (by omega) (by omega) (by omega)
  · rw [if_neg q]
    by_cases r : x = j - 1
    · rw [if_pos r]; exact h j y (by omega) (by omega) c q
    · rw [if_neg r]
      by_cases s : x = j
      · rw [if_pos s]; exact h (j - 1) y (by omega) (by omega) c q
      · rw [if_neg s]; exact h x y a b c q
theorem ind_le {g : Int → Int} {i : Int} (h01 : ∀ j : Int, 0 ≤ g j ∧ g j ≤ 1) (hz : ∀ j : Int, i ≤ j → g j = 0) (hi : 0 ≤ i) : ∀ k : Nat, sumI g (k : Int) ≤ i ∧ sumI g (k : Int) ≤ k
  | 0 => ⟨by show (0 : Int) ≤ i; exact hi, by show (0 : Int) ≤ ((0 : Nat) : Int); omega⟩
  | k + 1 => by
    have ih := ind_le h01 hz hi k
    have e : ((k + 1 : Nat) : Int) = (k : Int) + 1 := by omega
    rw [e, sumI_s _ (by omega)]
    have h1 := h01 (k : Int)
    by_cases q : i ≤ (k : Int)
    · have := hz (k : Int) q; omega
    · omega
theorem ind_ge {g : Int → Int} {i n : Int} (h01 : ∀ j : Int, 0 ≤ g j ∧ g j ≤ 1) (ho : ∀ j : Int, 0 ≤ j → j ≤ i → g j = 1) (hi : 0 ≤ i) (hn : i < n) : i < sumI g n := by
  obtain ⟨d, rfl⟩ : ∃ d : Nat, n = i + 1 + (d : Int) := ⟨(n - i - 1).toNat, by omega⟩
  have base : sumI g (i + 1) = i + 1 := by
    have e : sumI g (i + 1) = sumI (fun _ => 1) (i + 1) := sumI_eq (fun j a b => ho j a (by omega))
    have k := sumI_bd (f := fun _ => (1 : Int)) (lo := 1) (hi := 1) (n := i + 1) (by omega) (fun _ _ _ => by omega)
    omega
  induction d with
  | zero => rw [show i + 1 + ((0 : Nat) : Int) = i + 1 by omega, base]; omega
  | succ d ih =>
    rw [show i + 1 + ((d + 1 : Nat) : Int) = (i + 1 + (d : Int)) + 1 by omega, sumI_s _ (by omega)]
    have := ih (by omega)
    have := h01 (i + 1 + (d : Int))
    omega
theorem bl_01 (f : Int → Int) (v j : Int) : 0 ≤ bl f v j ∧ bl f v j ≤ 1 := by unfold bl; split <;> omega
theorem bk_01 (f : Int → Int) (v j : Int) : 0 ≤ bk f v j ∧ bk f v j ≤ 1 := by unfold bk; split <;> omega
theorem srt_le {f : Int → Int} {n x y : Int} (h : srt f n) (a : 0 ≤ x) (b : x ≤ y) (c : y < n) : f x ≤ f y := by
  by_cases q : x = y
  · rw [q]; exact Int.le_refl _
  · exact h x y a (by omega) c
/-- v is the i-th by size, from the least -/
def isK (f : Int → Int) (n i v : Int) : Prop := sumI (bl f v) n ≤ i ∧ i < sumI (bl f (v + 1)) n
theorem sumI_cut (g : Int → Int) {n : Int} (h : 0 ≤ n) : sumI g n = sumI (fun j => if 0 ≤ j ∧ j < n then g j else 0) n := sumI_eq (fun j a b => (if_pos ⟨a, b⟩).symm)
theorem srt_isK {f : Int → Int} {n i : Int} (h : srt f n) (i0 : 0 ≤ i) (i1 : i < n) : isK f n i (f i) := by
  constructor
  · rw [sumI_cut _ (by omega)]
    have k := (ind_le (g := fun j => if 0 ≤ j ∧ j < n then bl f (f i) j else 0) (i := i) (fun j => by
      show 0 ≤ (if 0 ≤ j ∧ j < n then bl f (f i) j else 0) ∧ (if 0 ≤ j ∧ j < n then bl f (f i) j else 0) ≤ 1
      have := bl_01 f (f i) j
      split <;> omega) (fun j a => by
      show (if 0 ≤ j ∧ j < n then bl f (f i) j else 0) = 0
      by_cases q : 0 ≤ j ∧ j < n
      · rw [if_pos q]
        have := srt_le h i0 a q.2
        unfold bl
        exact if_neg (by omega)
      · exact if_neg q) i0 n.toNat).1
    rw [Int.toNat_of_nonneg (by omega)] at k
    exact k
  · refine ind_ge (bl_01 f (f i + 1)) (fun j a b => ?_) i0 i1
    have := srt_le h a b i1
    unfold bl
    exact if_pos (by omega)
theorem bl_mono (f : Int → Int) {u v n : Int} (h : u ≤ v) (hn : 0 ≤ n) : sumI (bl f u) n ≤ sumI (bl f v) n := by
  obtain ⟨k, rfl⟩ : ∃ k : Nat, n = (k : Int) := ⟨n.toNat, by omega⟩
  induction k with
  | zero => exact Int.le_refl _
  | succ k ih =>
    have e : ((k + 1 : Nat) : Int) = (k : Int) + 1 := by omega
    rw [e, sumI_s _ (by omega), sumI_s _ (by omega)]
    have := ih (by omega)
    have : bl f u (k : Int) ≤ bl f v (k : Int) := by
      unfold bl
      split <;> split <;> omega
    omega
theorem isK_eq {f : Int → Int} {n i u v : Int} (hn : 0 ≤ n) (h : isK f n i u) (k : isK f n i v) : u = v := by
  unfold isK at h k
  by_cases q : u < v
  · have := bl_mono f (u := u + 1) (v := v) (by omega) hn; omega
  · by_cases r : v < u
    · have := bl_mono f (u := v + 1) (v := u) (by omega) hn; omega
    · omega
theorem isK_prm {g f : Int → Int} {n i v : Int} (h : prm g f n) (k : isK g n i v) : isK f n i v := by
  unfold isK at k ⊢
  rw [← h v, ← h (v + 1)]
  exact k
/-- how many ahead: less, and as much but earlier -/
def be (f : Int → Int) (v : Int) : Int → Int := fun j => if f j = v then 1 else 0
theorem bk_cut (f : Int → Int) {c n : Int} (c0 : 0 ≤ c) (c1 : c ≤ n) : sumI (bk f c) n = sumI (bl f (f c)) n + sumI (be f (f c)) c := by
  obtain ⟨d, rfl⟩ : ∃ d : Nat, n = c + (d : Int) := ⟨(n - c).toNat, by omega⟩
  induction d with
  | zero =>
    rw [show c + ((0 : Nat) : Int) = c by omega]
    have key : ∀ k : Nat, (k : Int) ≤ c → sumI (bk f c) (k : Int) = sumI (bl f (f c)) (k : Int) + sumI (be f (f c)) (k : Int) := by
      intro k
      induction k with
      | zero => intro _; rfl
      | succ k ih =>
        intro hk
        have e : ((k + 1 : Nat) : Int) = (k : Int) + 1 := by omega
        rw [e, sumI_s _ (by omega), sumI_s _ (by omega), sumI_s _ (by omega), ih (by omega)]
        have : bk f c (k : Int) = bl f (f c) (k : Int) + be f (f c) (k : Int) := by
          unfold bk bl be
          repeat' split
          all_goals omega
        omega
    have := key c.toNat (by omega)
    rw [Int.toNat_of_nonneg c0] at this
    exact this
  | succ d ih =>
    have ih := ih (by omega)
    rw [show c + ((d + 1 : Nat) : Int) = (c + (d : Int)) + 1 by omega, sumI_s _ (by omega), sumI_s _ (by omega), ih]
    have : bk f c (c + (d : Int)) = bl f (f c) (c + (d : Int)) := by
      unfold bk bl
      repeat' split
      all_goals omega
    omega
theorem ble_cut (f : Int → Int) (v : Int) {n : Int} (hn : 0 ≤ n) : sumI (bl f (v + 1)) n = sumI (bl f v) n + sumI (be f v) n := by
  obtain ⟨k, rfl⟩ : ∃ k : Nat, n = (k : Int) := ⟨n.toNat, by omega⟩
  induction k with
  | zero => rfl
  | succ k ih =>
    have e : ((k + 1 : Nat) : Int) = (k : Int) + 1 := by omega
    have ih := ih (by omega)
    rw [e, sumI_s _ (by omega), sumI_s _ (by omega), sumI_s _ (by omega), ih]
    have : bl f (v + 1) (k : Int) = bl f v (k : Int) + be f v (k : Int) := by
      unfold bl be
      repeat' split
      all_goals omega
    omega
/-- the place at which a count of ones first is t -/
theorem cnt_at {g : Int → Int} (h01 : ∀ j : Int, g j = 0 ∨ g j = 1) {t : Int} (t0 : 0 ≤ t) : ∀ k : Nat, t < sumI g (k : Int) → ∃ c : Int, 0 ≤ c ∧ c < k ∧ sumI g c = t ∧ g c = 1
  | 0, h => absurd h (by show ¬ t < (0 : Int); omega)
  | k + 1, h => by
    have e : ((k + 1 : Nat) : Int) = (k : Int) + 1 := by omega
    by_cases q : t < sumI g (k : Int)
    · obtain ⟨c, a, b, d⟩ := cnt_at h01 t0 k q
      exact ⟨c, a, by omega, d⟩
    · rw [e, sumI_s _ (by omega)] at h
      have := h01 (k : Int)
      exact ⟨(k : Int), by omega, by omega, by omega, by omega⟩
theorem bs_isK (f : Int → Int) {n i : Int} (hn : 0 ≤ n) {c : Int} (c0 : 0 ≤ c) (c1 : c < n) (h : sumI (bk f c) n = i) : isK f n i (f c) := by
  have h1 := bk_cut f c0 (show c ≤ n by omega)
  have h2 := ble_cut f (f c) hn
  have hb : 0 ≤ sumI (be f (f c)) c ∧ sumI (be f (f c)) c < sumI (be f (f c)) n := by
    refine ⟨(sumI_bd (f := be f (f c)) (lo := 0) (hi := 1) c0 (fun j _ _ => by unfold be; split <;> omega)).1 |> fun q => by omega, ?_⟩
    obtain ⟨d, rfl⟩ : ∃ d : Nat, n = c + 1 + (d : Int) := ⟨(n - c - 1).toNat, by omega⟩
    clear h h1 h2
    induction d with
    | zero =>
      rw [show c + 1 + ((0 : Nat) : Int) = c + 1 by omega, sumI_s _ c0]
      have : be f (f c) c = 1 := if_pos rfl
      omega
    | succ d ih =>
      have ih := ih (by omega) (by omega)
      rw [show c + 1 + ((d + 1 : Nat) : Int) = (c + 1 + (d : Int)) + 1 by omega, sumI_s _ (by omega)]
      have : 0 ≤ be f (f c) (c + 1 + (d : Int)) := by unfold be; split <;> omega
      omega
  unfold isK
  omega
theorem bs_find (f : Int → Int) {n i v : Int} (i0 : 0 ≤ i) (hn : 0 ≤ n) (hk : isK f n i v) : ∀ (k : Nat) (c : Int), (n - c).toNat = k → 0 ≤ c → c ≤ n → (∃ c' : Int, c ≤ c' ∧ c' < n ∧ sumI (bk f c') n = i) → bsN f n i k c = v
  | 0, c, hkc, c0, c1, ⟨c', a, b, _⟩ => absurd hkc (by omega)
  | k + 1, c, hkc, c0, c1, ⟨c', a, b, d⟩ => by
    show (if sumI (bk f c) n = i then f c else bsN f n i k (c + 1)) = v
    by_cases q : sumI (bk f c) n = i
    · rw [if_pos q]
      exact isK_eq hn (bs_isK f hn c0 (by omega) q) hk
    · rw [if_neg q]
      have : c ≠ c' := fun z => q (by rw [z]; exact d)
      exact bs_find f i0 hn hk k (c + 1) (by omega) (by omega) (by omega) ⟨c', by omega, b, d⟩
theorem bs_of {f : Int → Int} {n i v : Int} (i0 : 0 ≤ i) (hn : 0 ≤ n) (hk : isK f n i v) : bsI f n i = v := by
  rw [bs_0]
  refine bs_find f i0 hn hk _ 0 rfl (by decide) hn ?_
  have h2 := ble_cut f v hn
  unfold isK at hk
  have e : ((n.toNat : Nat) : Int) = n := by omega
  obtain ⟨c, a, b, d, g⟩ := cnt_at (g := be f v) (fun j => by unfold be; split; exact Or.inr rfl; exact Or.inl rfl) (t := i - sumI (bl f v) n) (by omega) n.toNat (by rw [e]; omega)
  have hv : f c = v := by
    unfold be at g
    by_cases q : f c = v
    · exact q
    · rw [if_neg q] at g; omega
  have h1 := bk_cut f a (show c ≤ n by omega)
  rw [hv] at h1
  exact ⟨c, a, by omega, by omega⟩
theorem bs_sorted {g f : Int → Int} {n i : Int} (hs : srt g n) (hp : prm g f n) (i0 : 0 ≤ i) (i1 : i < n) : bsI f n i = g i := bs_of i0 (by omega) (isK_prm hp (srt_isK hs i0 i1))
theorem bk_eq {f g : Int → Int} {n c : Int} (h : ∀ j : Int, 0 ≤ j → j < n → f j = g j) (c0 : 0 ≤ c) (c1 : c < n) : sumI (bk f c) n = sumI (bk g c) n := sumI_eq (fun j a b => by
  unfold bk
  rw [h j a b, h c c0 c1])
theorem bsN_eq {f g : Int → Int} {n i : Int} (h : ∀ j : Int, 0 ≤ j → j < n → f j = g j) : ∀ (k : Nat) (c : Int), (n - c).toNat = k → 0 ≤ c → bsN f n i k c = bsN g n i k c
  | 0, _, _, _ => rfl
  | k + 1, c, hk, c0 => by
    show (if sumI (bk f c) n = i then f c else bsN f n i k (c + 1)) = if sumI (bk g c) n = i then g c else bsN g n i k (c + 1)
    rw [bk_eq h c0 (by omega), h c c0 (by omega), bsN_eq h k (c + 1) (by omega) (by omega)]
theorem bs_congr {f g : Int → Int} {n i : Int} (h : ∀ j : Int, 0 ≤ j → j < n → f j = g j) : bsI f n i = bsI g n i := bsN_eq h n.toNat 0 (by rw [Int.sub_zero]) (Int.le_refl _)
theorem bsN_rng {f : Int → Int} {n i lo hi : Int} (h : ∀ j : Int, 0 ≤ j → j < n → lo ≤ f j ∧ f j ≤ hi) (h0 : lo ≤ 0 ∧ 0 ≤ hi) : ∀ (k : Nat) (c : Int), (n - c).toNat = k → 0 ≤ c → lo ≤ bsN f n i k c ∧ bsN f n i k c ≤ hi
  | 0, _, _, _ => h0
  | k + 1, c, hk, c0 => by
    show lo ≤ (if sumI (bk f c) n = i then f c else bsN f n i k (c + 1)) ∧ (if sumI (bk f c) n = i then f c else bsN f n i k (c + 1)) ≤ hi
    have := bsN_rng (i := i) h h0 k (c + 1) (by omega) (by omega)
    have := h c c0 (by omega)
    split <;> omega
theorem bs_rng {f : Int → Int} {n i : Int} (h : ∀ j : Int, 0 ≤ j → j < n → 0 ≤ f j ∧ f j ≤ 99) : 0 ≤ bsI f n i ∧ bsI f n i ≤ 99 := bsN_rng h (by omega) n.toNat 0 (by rw [Int.sub_zero]) (Int.le_refl _)
def qOldest (a : Int → Int) (w : Int) : Int := if ¬ (0 ≤ w ∧ w ≤ 1) then -2 else if w = 0 then amax a 12 else bsI a 12 5
/-- the ages beside a cell, one after the other -/
def nbA (a : Int → Int) (c : Int) : Nat → Int → Int
  | 0 => fun _ => 0
  | w + 1 => if nb c (w : Int) < 0 then nbA a c w else uI (nbA a c w) (sumI (cnt1 c) (w : Int)) (a (nb c (w : Int)))
def nbI (a : Int → Int) (c w : Int) : Int → Int := nbA a c w.toNat
theorem nbI_s (a : Int → Int) (c : Int) {w : Int} (h : 0 ≤ w) : nbI a c (w + 1) = if nb c w < 0 then nbI a c w else uI (nbI a c w) (sumI (cnt1 c) w) (a (nb c w)) := by
  unfold nbI
  rw [show (w + 1).toNat = w.toNat + 1 by omega]
  show (if nb c ((w.toNat : Nat) : Int) < 0 then nbA a c w.toNat else uI (nbA a c w.toNat) (sumI (cnt1 c) ((w.toNat : Nat) : Int)) (a (nb c ((w.toNat : Nat) : Int)))) = _
  rw [Int.toNat_of_nonneg h]
theorem nbI_add {a f : Int → Int} {c w n : Int} (w0 : 0 ≤ w) (hn : n = sumI (cnt1 c) w) (h : ∀ j : Int, 0 ≤ j → j < n → f j = nbI a c w j) (hb : ¬ nb c w < 0) : ∀ j : Int, 0 ≤ j → j < n + 1 → uI f n (a (nb c w)) j = nbI a c (w + 1) j := by
  intro j a0 a1
  rw [nbI_s a c w0, if_neg hb, ← hn]
  by_cases q : j = n
  · rw [q, uI_s, uI_s]
  · rw [uI_n q, uI_n q]; exact h j a0 (by omega)
theorem nbI_skip {a f : Int → Int} {c w n : Int} (w0 : 0 ≤ w) (h : ∀ j : Int, 0 ≤ j → j < n → f j = nbI a c w j) (hb : nb c w < 0) : ∀ j : Int, 0 ≤ j → j < n → f j = nbI a c (w + 1) j := by
  intro j a0 a1
  rw [nbI_s a c w0, if_pos hb]
  exact h j a0 a1
theorem cnt4N : ∀ c : Nat, c < 12 → 2 ≤ sumI (cnt1 (c : Int)) 4 := by decide +kernel
theorem cnt4 {c : Int} (h0 : 0 ≤ c) (h1 : c < 12) : 2 ≤ sumI (cnt1 c) 4 ∧ sumI (cnt1 c) 4 ≤ 4 := by
  have h := cnt4N c.toNat (by omega)
  rw [Int.toNat_of_nonneg h0] at h
  have k := sumI_bd (f := cnt1 c) (lo := 0) (hi := 1) (n := 4) (by decide) (fun j _ _ => cnt1_bd c j)
  omega
def hrmV (a : Int → Int) (c : Int) : Int := bsI (nbI a c 4) (sumI (cnt1 c) 4) ((sumI (cnt1 c) 4 - 1) / 2)
def sHarm (c : Int) : Int := if ¬ (0 ≤ c ∧ c < 12) then -1 else 0
def qHarm (C : Cl) (c : Int) : Int := if ¬ (0 ≤ c ∧ c < 12) then 1000000001 else allPull C - allPull (oth C 2 c (hrmV (ag C) c))
theorem nbI_rng {C : Cl} (ok : okC C) {c : Int} (h0 : 0 ≤ c) (h1 : c < 12) : ∀ (w : Nat), (w : Int) ≤ 4 → ∀ j : Int, 0 ≤ nbA (ag C) c w j ∧ nbA (ag C) c w j ≤ 99
  | 0, _, _ => ⟨by show (0 : Int) ≤ 0; decide, by show (0 : Int) ≤ 99; decide⟩
  | w + 1, hw, j => by
    have ih := nbI_rng ok h0 h1 w (by omega) j
    have hn := nb_in h0 h1 (w := (w : Int)) (by omega) (by omega)
    show 0 ≤ (if nb c (w : Int) < 0 then nbA (ag C) c w else uI (nbA (ag C) c w) (sumI (cnt1 c) (w : Int)) (ag C (nb c (w : Int)))) j ∧ (if nb c (w : Int) < 0 then nbA (ag C) c w else uI (nbA (ag C) c w) (sumI (cnt1 c) (w : Int)) (ag C (nb c (w : Int)))) j ≤ 99
    by_cases q : nb c (w : Int) < 0
    · rw [if_pos q]; exact ih
    · rw [if_neg q]
      have := ok.a (nb c (w : Int)) (by omega) (by omega)
      unfold uI
      split
      · exact this
      · exact ih
theorem hrmV_bd {C : Cl} (ok : okC C) {c : Int} (h0 : 0 ≤ c) (h1 : c < 12) : 0 ≤ hrmV (ag C) c ∧ hrmV (ag C) c ≤ 99 := bs_rng (fun j _ _ => nbI_rng ok h0 h1 4 (by decide) j)
theorem dX6_ofSize_0 : decode cX6_ofSize 0 = .ok (.iconst 0, 1) := by decide +kernel
theorem dX6_ofSize_1 : decode cX6_ofSize 1 = .ok (.istore_n 3, 1) := by decide +kernel
theorem dX6_ofSize_2 : decode cX6_ofSize 2 = .ok (.iload_n 3, 1) := by decide +kernel
theorem dX6_ofSize_3 : decode cX6_ofSize 3 = .ok (.iload_n 1, 1) := by decide +kernel
theorem dX6_ofSize_4 : decode cX6_ofSize 4 = .ok (.if_icmp .ge 55, 3) := by decide +kernel
theorem dX6_ofSize_7 : decode cX6_ofSize 7 = .ok (.iload_n 3, 1) := by decide +kernel
theorem dX6_ofSize_8 : decode cX6_ofSize 8 = .ok (.istore 4, 2) := by decide +kernel
theorem dX6_ofSize_10 : decode cX6_ofSize 10 = .ok (.iload 4, 2) := by decide +kernel
theorem dX6_ofSize_12 : decode cX6_ofSize 12 = .ok (.ifCond .le 41, 3) := by decide +kernel
theorem dX6_ofSize_15 : decode cX6_ofSize 15 = .ok (.aload_n 0, 1) := by decide +kernel
theorem dX6_ofSize_16 : decode cX6_ofSize 16 = .ok (.getfield 88, 3) := by decide +kernel
theorem dX6_ofSize_19 : decode cX6_ofSize 19 = .ok (.iload 4, 2) := by decide +kernel
theorem dX6_ofSize_21 : decode cX6_ofSize 21 = .ok (.iaload, 1) := by decide +kernel
theorem dX6_ofSize_22 : decode cX6_ofSize 22 = .ok (.aload_n 0, 1) := by decide +kernel
theorem dX6_ofSize_23 : decode cX6_ofSize 23 = .ok (.getfield 88, 3) := by decide +kernel
theorem dX6_ofSize_26 : decode cX6_ofSize 26 = .ok (.iload 4, 2) := by decide +kernel
theorem dX6_ofSize_28 : decode cX6_ofSize 28 = .ok (.iconst 1, 1) := by decide +kernel
theorem dX6_ofSize_29 : decode cX6_ofSize 29 = .ok (.isub, 1) := by decide +kernel
theorem dX6_ofSize_30 : decode cX6_ofSize 30 = .ok (.iaload, 1) := by decide +kernel
theorem dX6_ofSize_31 : decode cX6_ofSize 31 = .ok (.if_icmp .ge 22, 3) := by decide +kernel
theorem dX6_ofSize_34 : decode cX6_ofSize 34 = .ok (.aload_n 0, 1) := by decide +kernel
theorem dX6_ofSize_35 : decode cX6_ofSize 35 = .ok (.getfield 88, 3) := by decide +kernel
theorem dX6_ofSize_38 : decode cX6_ofSize 38 = .ok (.iload 4, 2) := by decide +kernel
theorem dX6_ofSize_40 : decode cX6_ofSize 40 = .ok (.iload 4, 2) := by decide +kernel
theorem dX6_ofSize_42 : decode cX6_ofSize 42 = .ok (.iconst 1, 1) := by decide +kernel
theorem dX6_ofSize_43 : decode cX6_ofSize 43 = .ok (.isub, 1) := by decide +kernel
theorem dX6_ofSize_44 : decode cX6_ofSize 44 = .ok (.invokestatic 304, 3) := by decide +kernel
theorem dX6_ofSize_47 : decode cX6_ofSize 47 = .ok (.iinc 4 (-1), 3) := by decide +kernel
theorem dX6_ofSize_50 : decode cX6_ofSize 50 = .ok (.goto (-40), 3) := by decide +kernel
theorem dX6_ofSize_53 : decode cX6_ofSize 53 = .ok (.iinc 3 1, 3) := by decide +kernel
theorem dX6_ofSize_56 : decode cX6_ofSize 56 = .ok (.goto (-54), 3) := by decide +kernel
theorem dX6_ofSize_59 : decode cX6_ofSize 59 = .ok (.aload_n 0, 1) := by decide +kernel
theorem dX6_ofSize_60 : decode cX6_ofSize 60 = .ok (.getfield 88, 3) := by decide +kernel
theorem dX6_ofSize_63 : decode cX6_ofSize 63 = .ok (.iload_n 2, 1) := by decide +kernel
theorem dX6_ofSize_64 : decode cX6_ofSize 64 = .ok (.iaload, 1) := by decide +kernel
theorem dX6_ofSize_65 : decode cX6_ofSize 65 = .ok (.ireturn, 1) := by decide +kernel
set_option maxRecDepth 100000 in
set_option maxHeartbeats 4000000 in
theorem k_X6_ofSize (κ : Kp) (ma : Nat → Nat) (M : MS) (n i : Int) (hn : (0 ≤ n ∧ n ≤ 12) ∧ 0 ≤ i ∧ i < n) (hr : ∀ j : Int, 0 ≤ j → j < n → 0 ≤ M 41 j ∧ M 41 j ≤ 99) : mI κ yX6_ofSize cX6_ofSize 5 .int 1 [.ref (ma 100), .int (iI n), .int (iI i)] (mw κ ma M) (fun r w => ∃ f, r = iI (bsI (M 41) n i) ∧ w = mw κ ma (mA M 41 f)) := by
  refine mI_of (by decide) (Nat.le_of_ble_eq_true rfl) (fun E F K => ?_)
  refine g_lv (lv' := [(0, .ref (ma 100)), (1, .int (iI n)), (2, .int (iI i))]) rfl ?_
  refine g_iconst F dX6_ofSize_0 ?_
  refine g_istore_n F (lv' := [(3, .int (iI 0)), (0, .ref (ma 100)), (1, .int (iI n)), (2, .int (iI i))]) 3 dX6_ofSize_1 rfl (by decide) rfl ?_
  have L2 : ∀ (mz2 : Nat) (k : Int) (f : Int → Int), (n - k).toNat = mz2 → (0 ≤ k ∧ k ≤ n) → (prm f (M 41) n) → (srt f k) → (∀ j : Int, 0 ≤ j → j < n → 0 ≤ f j ∧ f j ≤ 99) → G E (mw κ ma (mA M 41 f)) [(3, .int (iI k)), (0, .ref (ma 100)), (1, .int (iI n)), (2, .int (iI i))] 2 [] := by
    intro mz2
    induction mz2 using Nat.strongRecOn with
    | _ mz2 ih2 =>
    intro k f hmz2 hk hP hS hR
    refine g_iload_n F 0 dX6_ofSize_2 rfl ?_
    refine g_iload_n F 2 dX6_ofSize_3 rfl ?_
    refine g_icmp_ge F 59 (by omega) dX6_ofSize_4 (by decide) (fun c4 => ?_) (fun c4 => ?_)
    · skip
      refine g_aload_n F 1 dX6_ofSize_59 rfl ?_
      refine gm_get_41 F dX6_ofSize_60 ?_
      refine g_iload_n F 3 dX6_ofSize_63 rfl ?_
      refine gm_ald_41 F (by omega) dX6_ofSize_64 ?_
      refine g_top (y := iI (f i)) rfl ?_
      exact K mw_same ⟨f, iIc (by rw [show k = n by omega] at hS; exact (bs_sorted hS hP hn.2.1 hn.2.2).symm), rfl⟩ rfl dX6_ofSize_65
    · skip
      refine g_iload_n F 0 dX6_ofSize_7 rfl ?_
      refine g_istore F (lv' := [(4, .int (iI k)), (3, .int (iI k)), (0, .ref (ma 100)), (1, .int (iI n)), (2, .int (iI i))]) dX6_ofSize_8 (by decide) rfl ?_
      have L10 : ∀ (mz10 : Nat) (j : Int) (g : Int → Int), j.toNat = mz10 → (0 ≤ j ∧ j ≤ k) → (prm g (M 41) n) → (ins g k j) → (∀ j : Int, 0 ≤ j → j < n → 0 ≤ g j ∧ g j ≤ 99) → G E (mw κ ma (mA M 41 g)) [(4, .int (iI j)), (3, .int (iI k)), (0, .ref (ma 100)), (1, .int (iI n)), (2, .int (iI i))] 10 [] := by
        intro mz10
        induction mz10 using Nat.strongRecOn with
        | _ mz10 ih10 =>
        intro j g hmz10 hj hP2 hI hR2
        refine g_iload F 0 dX6_ofSize_10 rfl ?_
        refine g_if_le F 53 (by omega) dX6_ofSize_12 (by decide) (fun c12 => ?_) (fun c12 => ?_)
        · skip
          refine g_iinc F (lv' := [(3, .int (iI (k + 1))), (4, .int (iI j)), (0, .ref (ma 100)), (1, .int (iI n)), (2, .int (iI i))]) 1 dX6_ofSize_53 rfl (by decide) rfl ?_
          refine g_goto F 2 dX6_ofSize_56 (by decide) ?_
          refine g_sub F (lv' := [(3, .int (iI (k + 1))), (0, .ref (ma 100)), (1, .int (iI n)), (2, .int (iI i))]) [0, 2, 3, 4] rfl ?_
          exact ih2 _ (by omega) (k + 1) g rfl (by omega) hP2 (ins_srt hI (by omega)) hR2
        · skip
          refine g_aload_n F 2 dX6_ofSize_15 rfl ?_
          refine gm_get_41 F dX6_ofSize_16 ?_
          refine g_iload F 0 dX6_ofSize_19 rfl ?_
          have h1 := hR2 j (by omega) (by omega)
          have h2 := hR2 (j - 1) (by omega) (by omega)
          refine gm_ald_41 F (by omega) dX6_ofSize_21 ?_
          refine g_top (y := iI (g j)) rfl ?_
          refine g_aload_n F 2 dX6_ofSize_22 rfl ?_
          refine gm_get_41 F dX6_ofSize_23 ?_
          refine g_iload F 0 dX6_ofSize_26 rfl ?_
          refine g_iconst F dX6_ofSize_28 ?_
          refine g_isub F dX6_ofSize_29 ?_
          refine gm_ald_41 F (by omega) dX6_ofSize_30 ?_
          refine g_top (y := iI (g (j - 1))) rfl ?_
          refine g_icmp_ge F 53 (by omega) dX6_ofSize_31 (by decide) (fun c31 => ?_) (fun c31 => ?_)
          · skip
            refine g_iinc F (lv' := [(3, .int (iI (k + 1))), (4, .int (iI j)), (0, .ref (ma 100)), (1, .int (iI n)), (2, .int (iI i))]) 1 dX6_ofSize_53 rfl (by decide) rfl ?_
            refine g_goto F 2 dX6_ofSize_56 (by decide) ?_
            refine g_sub F (lv' := [(3, .int (iI (k + 1))), (0, .ref (ma 100)), (1, .int (iI n)), (2, .int (iI i))]) [0, 2, 3, 4] rfl ?_
            exact ih2 _ (by omega) (k + 1) g rfl (by omega) hP2 (ins_srt hI (by omega)) hR2
          · skip
            refine g_aload_n F 2 dX6_ofSize_34 rfl ?_
            refine gm_get_41 F dX6_ofSize_35 ?_
            refine g_iload F 0 dX6_ofSize_38 rfl ?_
            refine g_iload F 0 dX6_ofSize_40 rfl ?_
            refine g_iconst F dX6_ofSize_42 ?_
            refine g_isub F dX6_ofSize_43 ?_
            refine g_callSV F (stk := [.int (iI (j - 1)), .int (iI j), .ref (ma 41)]) (st := []) (k_X6_swapIn_41 κ ma (mA M 41 g) j (j - 1) (by omega)) cal_X6_swapIn lm_X6_304 rfl (by decide) rfl (Nat.le_of_ble_eq_true rfl) dX6_ofSize_44 (fun ws44 _ hr44 => ?_)
            obtain rfl := hr44
            refine g_iinc F (lv' := [(4, .int (iI (j + (-1)))), (3, .int (iI k)), (0, .ref (ma 100)), (1, .int (iI n)), (2, .int (iI i))]) 0 dX6_ofSize_47 rfl (by decide) rfl ?_
            refine g_goto F 10 dX6_ofSize_50 (by decide) ?_
            refine g_sub F (lv' := [(4, .int (iI (j + (-1)))), (3, .int (iI k)), (0, .ref (ma 100)), (1, .int (iI n)), (2, .int (iI i))]) [0, 1, 2, 3, 4] rfl ?_
            exact ih10 _ (by omega) (j + (-1)) (swf g j (j - 1)) rfl (by omega) (prm_sw hP2 (by omega) (by omega)) (by rw [show j + (-1) = j - 1 by omega]; exact ins_sw hI (by omega) (by omega) (by omega)) (fun x a b => by have k1 := hR2 j (by omega) (by omega); have k2 := hR2 (j - 1) (by omega) (by omega); have k3 := hR2 x a b; rw [swf_at]; (repeat' split) <;> omega)
      refine g_sub F (lv' := [(4, .int (iI k)), (3, .int (iI k)), (0, .ref (ma 100)), (1, .int (iI n)), (2, .int (iI i))]) [0, 1, 2, 3, 4] rfl ?_
      exact L10 _ k f rfl (by omega) hP (srt_ins hS) hR
  refine g_sub F (lv' := [(3, .int (iI 0)), (0, .ref (ma 100)), (1, .int (iI n)), (2, .int (iI i))]) [0, 1, 2, 3] rfl ?_
  refine g_ws (ws' := mw κ ma (mA M 41 (M 41))) (by rw [mA_self]) ?_
  exact L2 _ 0 (M 41) rfl (by omega) (prm_rf _ _) (fun x y a b c => absurd c (by omega)) hr
theorem dX6_oldest_0 : decode cX6_oldest 0 = .ok (.aload_n 0, 1) := by decide +kernel
theorem dX6_oldest_1 : decode cX6_oldest 1 = .ok (.iconst 0, 1) := by decide +kernel
theorem dX6_oldest_2 : decode cX6_oldest 2 = .ok (.putfield 91, 3) := by decide +kernel
theorem dX6_oldest_5 : decode cX6_oldest 5 = .ok (.iload_n 1, 1) := by decide +kernel
theorem dX6_oldest_6 : decode cX6_oldest 6 = .ok (.i2l, 1) := by decide +kernel
theorem dX6_oldest_7 : decode cX6_oldest 7 = .ok (.lconst 0, 1) := by decide +kernel
theorem dX6_oldest_8 : decode cX6_oldest 8 = .ok (.lconst 1, 1) := by decide +kernel
theorem dX6_oldest_9 : decode cX6_oldest 9 = .ok (.invokestatic 97, 3) := by decide +kernel
theorem dX6_oldest_12 : decode cX6_oldest 12 = .ok (.ifCond .ne 10, 3) := by decide +kernel
theorem dX6_oldest_15 : decode cX6_oldest 15 = .ok (.aload_n 0, 1) := by decide +kernel
theorem dX6_oldest_16 : decode cX6_oldest 16 = .ok (.bipush (-2), 2) := by decide +kernel
theorem dX6_oldest_18 : decode cX6_oldest 18 = .ok (.invokevirtual 138, 3) := by decide +kernel
theorem dX6_oldest_21 : decode cX6_oldest 21 = .ok (.ireturn, 1) := by decide +kernel
theorem dX6_oldest_22 : decode cX6_oldest 22 = .ok (.iconst 0, 1) := by decide +kernel
theorem dX6_oldest_23 : decode cX6_oldest 23 = .ok (.istore_n 2, 1) := by decide +kernel
theorem dX6_oldest_24 : decode cX6_oldest 24 = .ok (.iconst 0, 1) := by decide +kernel
theorem dX6_oldest_25 : decode cX6_oldest 25 = .ok (.istore_n 3, 1) := by decide +kernel
theorem dX6_oldest_26 : decode cX6_oldest 26 = .ok (.iload_n 3, 1) := by decide +kernel
theorem dX6_oldest_27 : decode cX6_oldest 27 = .ok (.bipush 12, 2) := by decide +kernel
theorem dX6_oldest_29 : decode cX6_oldest 29 = .ok (.if_icmp .ge 42, 3) := by decide +kernel
theorem dX6_oldest_32 : decode cX6_oldest 32 = .ok (.aload_n 0, 1) := by decide +kernel
theorem dX6_oldest_33 : decode cX6_oldest 33 = .ok (.getfield 16, 3) := by decide +kernel
theorem dX6_oldest_36 : decode cX6_oldest 36 = .ok (.iload_n 3, 1) := by decide +kernel
theorem dX6_oldest_37 : decode cX6_oldest 37 = .ok (.iaload, 1) := by decide +kernel
theorem dX6_oldest_38 : decode cX6_oldest 38 = .ok (.aload_n 0, 1) := by decide +kernel
theorem dX6_oldest_39 : decode cX6_oldest 39 = .ok (.getfield 16, 3) := by decide +kernel
theorem dX6_oldest_42 : decode cX6_oldest 42 = .ok (.iload_n 2, 1) := by decide +kernel
theorem dX6_oldest_43 : decode cX6_oldest 43 = .ok (.iaload, 1) := by decide +kernel
theorem dX6_oldest_44 : decode cX6_oldest 44 = .ok (.if_icmp .le 7, 3) := by decide +kernel
theorem dX6_oldest_47 : decode cX6_oldest 47 = .ok (.iload_n 3, 1) := by decide +kernel
theorem dX6_oldest_48 : decode cX6_oldest 48 = .ok (.goto 4, 3) := by decide +kernel
theorem dX6_oldest_51 : decode cX6_oldest 51 = .ok (.iload_n 2, 1) := by decide +kernel
theorem dX6_oldest_52 : decode cX6_oldest 52 = .ok (.istore_n 2, 1) := by decide +kernel
theorem dX6_oldest_53 : decode cX6_oldest 53 = .ok (.aload_n 0, 1) := by decide +kernel
theorem dX6_oldest_54 : decode cX6_oldest 54 = .ok (.getfield 88, 3) := by decide +kernel
theorem dX6_oldest_57 : decode cX6_oldest 57 = .ok (.iload_n 3, 1) := by decide +kernel
theorem dX6_oldest_58 : decode cX6_oldest 58 = .ok (.aload_n 0, 1) := by decide +kernel
theorem dX6_oldest_59 : decode cX6_oldest 59 = .ok (.getfield 16, 3) := by decide +kernel
theorem dX6_oldest_62 : decode cX6_oldest 62 = .ok (.iload_n 3, 1) := by decide +kernel
theorem dX6_oldest_63 : decode cX6_oldest 63 = .ok (.iaload, 1) := by decide +kernel
theorem dX6_oldest_64 : decode cX6_oldest 64 = .ok (.iastore, 1) := by decide +kernel
theorem dX6_oldest_65 : decode cX6_oldest 65 = .ok (.iinc 3 1, 3) := by decide +kernel
theorem dX6_oldest_68 : decode cX6_oldest 68 = .ok (.goto (-42), 3) := by decide +kernel
theorem dX6_oldest_71 : decode cX6_oldest 71 = .ok (.iload_n 1, 1) := by decide +kernel
theorem dX6_oldest_72 : decode cX6_oldest 72 = .ok (.ifCond .ne 7, 3) := by decide +kernel
theorem dX6_oldest_75 : decode cX6_oldest 75 = .ok (.iload_n 2, 1) := by decide +kernel
theorem dX6_oldest_76 : decode cX6_oldest 76 = .ok (.goto 10, 3) := by decide +kernel
theorem dX6_oldest_79 : decode cX6_oldest 79 = .ok (.aload_n 0, 1) := by decide +kernel
theorem dX6_oldest_80 : decode cX6_oldest 80 = .ok (.bipush 12, 2) := by decide +kernel
theorem dX6_oldest_82 : decode cX6_oldest 82 = .ok (.iconst 5, 1) := by decide +kernel
theorem dX6_oldest_83 : decode cX6_oldest 83 = .ok (.invokevirtual 325, 3) := by decide +kernel
theorem dX6_oldest_86 : decode cX6_oldest 86 = .ok (.ireturn, 1) := by decide +kernel
set_option maxRecDepth 100000 in
set_option maxHeartbeats 4000000 in
theorem k_X6_oldest (κ : Kp) (ma : Nat → Nat) (M : MS) (w : Int)  (ha_w : In32 w) (ok : okC (cl M)) : mI κ yX6_oldest cX6_oldest 4 .int 2 [.ref (ma 100), .int (iI w)] (mw κ ma M) (qM κ ma M (qOldest (M 2) w)) := by
  refine mI_of (by decide) (Nat.le_of_ble_eq_true rfl) (fun E F K => ?_)
  refine g_lv (lv' := [(0, .ref (ma 100)), (1, .int (iI w))]) rfl ?_
  refine g_aload_n F 0 dX6_oldest_0 rfl ?_
  refine g_iconst F dX6_oldest_1 ?_
  refine gm_put_10 F dX6_oldest_2 ?_
  refine g_iload_n F 1 dX6_oldest_5 rfl ?_
  refine g_i2l F (by omega) dX6_oldest_6 ?_
  refine g_lconst F (z := 0) dX6_oldest_7 rfl ?_
  refine g_lconst F (z := 1) dX6_oldest_8 rfl ?_
  refine g_callSI F (stk := [.long (iL 1), .long (iL 0), .long (iL w)]) (st := []) (k_X6_in κ (mw κ ma (mA M 10 (fun _ => 0))) w 0 1 (by omega)) cal_X6_in lm_X6_97 rfl (by decide) rfl (Nat.le_of_ble_eq_true rfl) dX6_oldest_9 (fun r9 ws9 _ hr9 => ?_)
  obtain ⟨rfl, rfl⟩ := hr9
  refine g_if_ne F 22 (b2i_in _) dX6_oldest_12 (by decide) (fun c12 => ?_) (fun c12 => ?_)
  · skip
    have c12 : 0 ≤ w ∧ w ≤ 1 := b2i_t c12
    refine g_iconst F dX6_oldest_22 ?_
    refine g_istore_n F (lv' := [(2, .int (iI 0)), (0, .ref (ma 100)), (1, .int (iI w))]) 2 dX6_oldest_23 rfl (by decide) rfl ?_
    refine g_iconst F dX6_oldest_24 ?_
    refine g_istore_n F (lv' := [(3, .int (iI 0)), (2, .int (iI 0)), (0, .ref (ma 100)), (1, .int (iI w))]) 3 dX6_oldest_25 rfl (by decide) rfl ?_
    have L26 : ∀ (mz26 : Nat) (c : Int) (b : Int) (f : Int → Int), (12 - c).toNat = mz26 → (0 ≤ c ∧ c ≤ 12) → (b = amax (M 2) c) → (0 ≤ b ∧ b < 12) → (f = upTo (M 41) (M 2) c) → G E (mw κ ma (mA (mA M 10 (fun _ => 0)) 41 f)) [(3, .int (iI c)), (2, .int (iI b)), (0, .ref (ma 100)), (1, .int (iI w))] 26 [] := by
      intro mz26
      induction mz26 using Nat.strongRecOn with
      | _ mz26 ih26 =>
      intro c b f hmz26 hc hb hbb hf
      refine g_iload_n F 0 dX6_oldest_26 rfl ?_
      refine g_bipush F dX6_oldest_27 (by decide +kernel) ?_
      refine g_icmp_ge F 71 (by omega) dX6_oldest_29 (by decide) (fun c29 => ?_) (fun c29 => ?_)
      · skip
        have hbe : b = amax (M 2) 12 := by rw [hb, show c = 12 by omega]
        have hfe : ∀ j : Int, 0 ≤ j → j < 12 → f j = M 2 j := fun j a b => by rw [hf]; exact upTo_in a (by omega)
        have hbr := bs_rng (f := M 2) (n := 12) (i := 5) ok.a
        refine g_iload_n F 3 dX6_oldest_71 rfl ?_
        refine g_if_ne F 79 (by omega) dX6_oldest_72 (by decide) (fun c72 => ?_) (fun c72 => ?_)
        · skip
          refine g_aload_n F 2 dX6_oldest_79 rfl ?_
          refine g_bipush F dX6_oldest_80 (by decide +kernel) ?_
          refine g_iconst F dX6_oldest_82 ?_
          refine g_callI F (stk := [.int (iI 5), .int (iI 12), .ref (ma 100)]) (st := []) (k_X6_ofSize κ ma (mA (mA M 10 (fun _ => 0)) 41 f) 12 5 (by omega) (fun j a b => by show 0 ≤ f j ∧ f j ≤ 99; rw [hfe j a b]; exact ok.a j a b)) cal_X6_ofSize lm_X6_325 0 rfl rfl rfl rfl (by decide) rfl (Nat.le_of_ble_eq_true rfl) dX6_oldest_83 (fun r83 ws83 _ hr83 => ?_)
          obtain ⟨f83, rfl, rfl⟩ := hr83
          refine g_top (y := iI (bsI (M 2) 12 5)) (iIc (bs_congr hfe)) ?_
          refine g_ws (ws' := mw κ ma (mA (mA M 10 (fun _ => 0)) 41 f83)) rfl ?_
          have hq : bsI (M 2) 12 5 = qOldest (M 2) w := by unfold qOldest; rw [if_neg (by omega)]; first | (rw [if_pos (by omega)]; exact hbe) | rw [if_neg (by omega)]
          exact K mw_same ⟨_, rfl, iIc hq, ⟨rfl, rfl, rfl, rfl, rfl, rfl, rfl, rfl, rfl, rfl, rfl, rfl, rfl, rfl, rfl, rfl, rfl, rfl⟩, (by rw [← hq]; show M 11 = _; exact (rfa_n (by omega)).symm)⟩ rfl dX6_oldest_86
        · skip
          refine g_iload_n F 1 dX6_oldest_75 rfl ?_
          refine g_goto F 86 dX6_oldest_76 (by decide) ?_
          have hq : b = qOldest (M 2) w := by unfold qOldest; rw [if_neg (by omega)]; first | (rw [if_pos (by omega)]; exact hbe) | rw [if_neg (by omega)]
          exact K mw_same ⟨_, rfl, iIc hq, ⟨rfl, rfl, rfl, rfl, rfl, rfl, rfl, rfl, rfl, rfl, rfl, rfl, rfl, rfl, rfl, rfl, rfl, rfl⟩, (by rw [← hq]; show M 11 = _; exact (rfa_n (by omega)).symm)⟩ rfl dX6_oldest_86
      · skip
        have h1 : 0 ≤ M 2 c ∧ M 2 c ≤ 99 := ok.a c (by omega) (by omega)
        have h2 : 0 ≤ M 2 b ∧ M 2 b ≤ 99 := ok.a b (by omega) (by omega)
        refine g_aload_n F 2 dX6_oldest_32 rfl ?_
        refine gm_get_2 F dX6_oldest_33 ?_
        refine g_iload_n F 0 dX6_oldest_36 rfl ?_
        refine gm_ald_2 F (by omega) dX6_oldest_37 ?_
        refine g_top (y := iI (M 2 c)) rfl ?_
        refine g_aload_n F 2 dX6_oldest_38 rfl ?_
        refine gm_get_2 F dX6_oldest_39 ?_
        refine g_iload_n F 1 dX6_oldest_42 rfl ?_
        refine gm_ald_2 F (by omega) dX6_oldest_43 ?_
        refine g_top (y := iI (M 2 b)) rfl ?_
        refine g_icmp_le F 51 (by omega) dX6_oldest_44 (by decide) (fun c44 => ?_) (fun c44 => ?_)
        · skip
          refine g_iload_n F 1 dX6_oldest_51 rfl ?_
          refine g_istore_n F (lv' := [(2, .int (iI b)), (3, .int (iI c)), (0, .ref (ma 100)), (1, .int (iI w))]) 2 dX6_oldest_52 rfl (by decide) rfl ?_
          refine g_aload_n F 2 dX6_oldest_53 rfl ?_
          refine gm_get_41 F dX6_oldest_54 ?_
          refine g_iload_n F 1 dX6_oldest_57 rfl ?_
          refine g_aload_n F 2 dX6_oldest_58 rfl ?_
          refine gm_get_2 F dX6_oldest_59 ?_
          refine g_iload_n F 1 dX6_oldest_62 rfl ?_
          refine gm_ald_2 F (by omega) dX6_oldest_63 ?_
          refine g_top (y := iI (M 2 c)) rfl ?_
          refine gm_astS_41 F (by omega) dX6_oldest_64 ?_
          refine g_iinc F (lv' := [(3, .int (iI (c + 1))), (2, .int (iI b)), (0, .ref (ma 100)), (1, .int (iI w))]) 1 dX6_oldest_65 rfl (by decide) rfl ?_
          refine g_goto F 26 dX6_oldest_68 (by decide) ?_
          refine g_sub F (lv' := [(3, .int (iI (c + 1))), (2, .int (iI b)), (0, .ref (ma 100)), (1, .int (iI w))]) [0, 1, 2, 3] rfl ?_
          exact ih26 _ (by omega) (c + 1) b (uI f c (M 2 c)) rfl (by omega) (by rw [amax_s _ hc.1, ← hb]; split <;> omega) (by omega) (by rw [hf, upTo_s _ _ hc.1])
        · skip
          refine g_iload_n F 0 dX6_oldest_47 rfl ?_
          refine g_goto F 52 dX6_oldest_48 (by decide) ?_
          refine g_istore_n F (lv' := [(2, .int (iI c)), (3, .int (iI c)), (0, .ref (ma 100)), (1, .int (iI w))]) 2 dX6_oldest_52 rfl (by decide) rfl ?_
          refine g_aload_n F 2 dX6_oldest_53 rfl ?_
          refine gm_get_41 F dX6_oldest_54 ?_
          refine g_iload_n F 1 dX6_oldest_57 rfl ?_
          refine g_aload_n F 2 dX6_oldest_58 rfl ?_
          refine gm_get_2 F dX6_oldest_59 ?_
          refine g_iload_n F 1 dX6_oldest_62 rfl ?_
          refine gm_ald_2 F (by omega) dX6_oldest_63 ?_
          refine g_top (y := iI (M 2 c)) rfl ?_
          refine gm_astS_41 F (by omega) dX6_oldest_64 ?_
          refine g_iinc F (lv' := [(3, .int (iI (c + 1))), (2, .int (iI c)), (0, .ref (ma 100)), (1, .int (iI w))]) 1 dX6_oldest_65 rfl (by decide) rfl ?_
          refine g_goto F 26 dX6_oldest_68 (by decide) ?_
          refine g_sub F (lv' := [(3, .int (iI (c + 1))), (2, .int (iI c)), (0, .ref (ma 100)), (1, .int (iI w))]) [0, 1, 2, 3] rfl ?_
          exact ih26 _ (by omega) (c + 1) c (uI f c (M 2 c)) rfl (by omega) (by rw [amax_s _ hc.1, ← hb]; split <;> omega) (by omega) (by rw [hf, upTo_s _ _ hc.1])
    refine g_sub F (lv' := [(3, .int (iI 0)), (2, .int (iI 0)), (0, .ref (ma 100)), (1, .int (iI w))]) [0, 1, 2, 3] rfl ?_
    refine g_ws (ws' := mw κ ma (mA (mA M 10 (fun _ => 0)) 41 (M 41))) (congrArg (mw κ ma) (mA_self (M := mA M 10 (fun _ => 0)) (k := 41)).symm) ?_
    exact L26 _ 0 0 (M 41) rfl (by omega) rfl (by omega) (upTo_0 _ _).symm
  · skip
    have c12 : ¬ (0 ≤ w ∧ w ≤ 1) := b2i_f c12
    refine g_aload_n F 0 dX6_oldest_15 rfl ?_
    refine g_bipush F dX6_oldest_16 (by decide +kernel) ?_
    refine g_callI F (stk := [.int (iI (-2)), .ref (ma 100)]) (st := []) (k_X6_refuse κ ma (mA M 10 (fun _ => 0)) (-2) (by omega)) cal_X6_refuse lm_X6_138 0 rfl rfl rfl rfl (by decide) rfl (Nat.le_of_ble_eq_true rfl) dX6_oldest_18 (fun r18 ws18 _ hr18 => ?_)
    obtain ⟨rfl, rfl⟩ := hr18
    refine g_top (y := iI (-2)) rfl ?_
    refine g_ws (ws' := mw κ ma (mA (mA M 10 (fun _ => 0)) 11 (uI (M 11) (-(-2)) (M 11 (-(-2)) + 1)))) rfl ?_
    have hq : (-2) = qOldest (M 2) w := by unfold qOldest; (repeat' split) <;> omega
    exact K mw_same ⟨_, rfl, iIc hq, ⟨rfl, rfl, rfl, rfl, rfl, rfl, rfl, rfl, rfl, rfl, rfl, rfl, rfl, rfl, rfl, rfl, rfl, rfl⟩, (by rw [← hq]; exact (rfa_r (by omega)).symm)⟩ rfl dX6_oldest_21
theorem dX5_bySize_0 : decode cX5_bySize 0 = .ok (.iconst 0, 1) := by decide +kernel
theorem dX5_bySize_1 : decode cX5_bySize 1 = .ok (.istore_n 3, 1) := by decide +kernel
theorem dX5_bySize_2 : decode cX5_bySize 2 = .ok (.iload_n 3, 1) := by decide +kernel
theorem dX5_bySize_3 : decode cX5_bySize 3 = .ok (.iload_n 1, 1) := by decide +kernel
theorem dX5_bySize_4 : decode cX5_bySize 4 = .ok (.if_icmp .ge 66, 3) := by decide +kernel
theorem dX5_bySize_7 : decode cX5_bySize 7 = .ok (.iconst 0, 1) := by decide +kernel
theorem dX5_bySize_8 : decode cX5_bySize 8 = .ok (.istore 4, 2) := by decide +kernel
theorem dX5_bySize_10 : decode cX5_bySize 10 = .ok (.iconst 0, 1) := by decide +kernel
theorem dX5_bySize_11 : decode cX5_bySize 11 = .ok (.istore 5, 2) := by decide +kernel
theorem dX5_bySize_13 : decode cX5_bySize 13 = .ok (.iload 5, 2) := by decide +kernel
theorem dX5_bySize_15 : decode cX5_bySize 15 = .ok (.iload_n 1, 1) := by decide +kernel
theorem dX5_bySize_16 : decode cX5_bySize 16 = .ok (.if_icmp .ge 38, 3) := by decide +kernel
theorem dX5_bySize_19 : decode cX5_bySize 19 = .ok (.aload_n 0, 1) := by decide +kernel
theorem dX5_bySize_20 : decode cX5_bySize 20 = .ok (.iload 5, 2) := by decide +kernel
theorem dX5_bySize_22 : decode cX5_bySize 22 = .ok (.iaload, 1) := by decide +kernel
theorem dX5_bySize_23 : decode cX5_bySize 23 = .ok (.aload_n 0, 1) := by decide +kernel
theorem dX5_bySize_24 : decode cX5_bySize 24 = .ok (.iload_n 3, 1) := by decide +kernel
theorem dX5_bySize_25 : decode cX5_bySize 25 = .ok (.iaload, 1) := by decide +kernel
theorem dX5_bySize_26 : decode cX5_bySize 26 = .ok (.if_icmp .lt 19, 3) := by decide +kernel
theorem dX5_bySize_29 : decode cX5_bySize 29 = .ok (.aload_n 0, 1) := by decide +kernel
theorem dX5_bySize_30 : decode cX5_bySize 30 = .ok (.iload 5, 2) := by decide +kernel
theorem dX5_bySize_32 : decode cX5_bySize 32 = .ok (.iaload, 1) := by decide +kernel
theorem dX5_bySize_33 : decode cX5_bySize 33 = .ok (.aload_n 0, 1) := by decide +kernel
theorem dX5_bySize_34 : decode cX5_bySize 34 = .ok (.iload_n 3, 1) := by decide +kernel
theorem dX5_bySize_35 : decode cX5_bySize 35 = .ok (.iaload, 1) := by decide +kernel
theorem dX5_bySize_36 : decode cX5_bySize 36 = .ok (.if_icmp .ne 12, 3) := by decide +kernel
theorem dX5_bySize_39 : decode cX5_bySize 39 = .ok (.iload 5, 2) := by decide +kernel
theorem dX5_bySize_41 : decode cX5_bySize 41 = .ok (.iload_n 3, 1) := by decide +kernel
theorem dX5_bySize_42 : decode cX5_bySize 42 = .ok (.if_icmp .ge 6, 3) := by decide +kernel
theorem dX5_bySize_45 : decode cX5_bySize 45 = .ok (.iinc 4 1, 3) := by decide +kernel
theorem dX5_bySize_48 : decode cX5_bySize 48 = .ok (.iinc 5 1, 3) := by decide +kernel
theorem dX5_bySize_51 : decode cX5_bySize 51 = .ok (.goto (-38), 3) := by decide +kernel
theorem dX5_bySize_54 : decode cX5_bySize 54 = .ok (.iload 4, 2) := by decide +kernel
theorem dX5_bySize_56 : decode cX5_bySize 56 = .ok (.iload_n 2, 1) := by decide +kernel
theorem dX5_bySize_57 : decode cX5_bySize 57 = .ok (.if_icmp .ne 7, 3) := by decide +kernel
theorem dX5_bySize_60 : decode cX5_bySize 60 = .ok (.aload_n 0, 1) := by decide +kernel
theorem dX5_bySize_61 : decode cX5_bySize 61 = .ok (.iload_n 3, 1) := by decide +kernel
theorem dX5_bySize_62 : decode cX5_bySize 62 = .ok (.iaload, 1) := by decide +kernel
theorem dX5_bySize_63 : decode cX5_bySize 63 = .ok (.ireturn, 1) := by decide +kernel
theorem dX5_bySize_64 : decode cX5_bySize 64 = .ok (.iinc 3 1, 3) := by decide +kernel
theorem dX5_bySize_67 : decode cX5_bySize 67 = .ok (.goto (-65), 3) := by decide +kernel
theorem dX5_bySize_70 : decode cX5_bySize 70 = .ok (.iconst 0, 1) := by decide +kernel
theorem dX5_bySize_71 : decode cX5_bySize 71 = .ok (.ireturn, 1) := by decide +kernel
set_option maxRecDepth 100000 in
set_option maxHeartbeats 4000000 in
theorem k_X5_bySize_age (κ : Kp) (xa : Nat → Nat → Nat) (X : XS) (n i : Int) (hn : (0 ≤ n ∧ n ≤ 12) ∧ 0 ≤ i ∧ i < n) (hr : ∀ j : Int, 0 ≤ j → j < n → 0 ≤ X 0 2 j ∧ X 0 2 j ≤ 99) : mI κ yX5_bySize cX5_bySize 6 .int 0 [.ref (xa 0 2), .int (iI n), .int (iI i)] (xw κ xa X) (is1 (iI (bsI (X 0 2) n i)) (xw κ xa X)) := by
  refine mI_of (by decide) (Nat.le_of_ble_eq_true rfl) (fun E F K => ?_)
  refine g_lv (lv' := [(0, .ref (xa 0 2)), (1, .int (iI n)), (2, .int (iI i))]) rfl ?_
  refine g_iconst F dX5_bySize_0 ?_
  refine g_istore_n F (lv' := [(3, .int (iI 0)), (0, .ref (xa 0 2)), (1, .int (iI n)), (2, .int (iI i))]) 3 dX5_bySize_1 rfl (by decide) rfl ?_
  have L2 : ∀ (mz2 : Nat) (k : Int), (n - k).toNat = mz2 → (0 ≤ k ∧ k ≤ n) → (bsN (X 0 2) n i (n - k).toNat k = bsI (X 0 2) n i) → G E (xw κ xa X) [(3, .int (iI k)), (0, .ref (xa 0 2)), (1, .int (iI n)), (2, .int (iI i))] 2 [] := by
    intro mz2
    induction mz2 using Nat.strongRecOn with
    | _ mz2 ih2 =>
    intro k hmz2 hk hB
    refine g_iload_n F 0 dX5_bySize_2 rfl ?_
    refine g_iload_n F 2 dX5_bySize_3 rfl ?_
    refine g_icmp_ge F 70 (by omega) dX5_bySize_4 (by decide) (fun c4 => ?_) (fun c4 => ?_)
    · skip
      refine g_iconst F dX5_bySize_70 ?_
      exact K xw_same ⟨iIc (by rw [← hB, show k = n by omega, show (n - n).toNat = 0 by omega]; rfl), rfl⟩ rfl dX5_bySize_71
    · skip
      refine g_iconst F dX5_bySize_7 ?_
      refine g_istore F (lv' := [(4, .int (iI 0)), (3, .int (iI k)), (0, .ref (xa 0 2)), (1, .int (iI n)), (2, .int (iI i))]) dX5_bySize_8 (by decide) rfl ?_
      refine g_iconst F dX5_bySize_10 ?_
      refine g_istore F (lv' := [(5, .int (iI 0)), (4, .int (iI 0)), (3, .int (iI k)), (0, .ref (xa 0 2)), (1, .int (iI n)), (2, .int (iI i))]) dX5_bySize_11 (by decide) rfl ?_
      have L13 : ∀ (mz13 : Nat) (j : Int) (a : Int), (n - j).toNat = mz13 → (0 ≤ j ∧ j ≤ n) → (a = sumI (bk (X 0 2) k) j) → (0 ≤ a ∧ a ≤ j) → G E (xw κ xa X) [(5, .int (iI j)), (4, .int (iI a)), (3, .int (iI k)), (0, .ref (xa 0 2)), (1, .int (iI n)), (2, .int (iI i))] 13 [] := by
        intro mz13
        induction mz13 using Nat.strongRecOn with
        | _ mz13 ih13 =>
        intro j a hmz13 hj ha hab
        refine g_iload F 0 dX5_bySize_13 rfl ?_
        refine g_iload_n F 4 dX5_bySize_15 rfl ?_
        refine g_icmp_ge F 54 (by omega) dX5_bySize_16 (by decide) (fun c16 => ?_) (fun c16 => ?_)
        · skip
          have haa : a = sumI (bk (X 0 2) k) n := by rw [ha, show j = n by omega]
          refine g_iload F 1 dX5_bySize_54 rfl ?_
          refine g_iload_n F 5 dX5_bySize_56 rfl ?_
          refine g_icmp_ne F 64 (by omega) dX5_bySize_57 (by decide) (fun c57 => ?_) (fun c57 => ?_)
          · skip
            refine g_iinc F (lv' := [(3, .int (iI (k + 1))), (5, .int (iI j)), (4, .int (iI a)), (0, .ref (xa 0 2)), (1, .int (iI n)), (2, .int (iI i))]) 2 dX5_bySize_64 rfl (by decide) rfl ?_
            refine g_goto F 2 dX5_bySize_67 (by decide) ?_
            refine g_sub F (lv' := [(3, .int (iI (k + 1))), (0, .ref (xa 0 2)), (1, .int (iI n)), (2, .int (iI i))]) [0, 3, 4, 5] rfl ?_
            exact ih2 _ (by omega) (k + 1) rfl (by omega) (by rw [← hB, bs_s _ (c := k) (by omega), if_neg (by rw [← haa]; exact c57)])
          · skip
            refine g_aload_n F 3 dX5_bySize_60 rfl ?_
            refine g_iload_n F 2 dX5_bySize_61 rfl ?_
            refine gc_ald_2 F (o := 0) (by decide) (by omega) dX5_bySize_62 ?_
            exact K xw_same ⟨iIc (by rw [← hB, bs_s _ (c := k) (by omega), if_pos (by rw [← haa]; exact c57)]), rfl⟩ rfl dX5_bySize_63
        · skip
          have h1 := hr j (by omega) (by omega)
          have h2 := hr k (by omega) (by omega)
          refine g_aload_n F 3 dX5_bySize_19 rfl ?_
          refine g_iload F 0 dX5_bySize_20 rfl ?_
          refine gc_ald_2 F (o := 0) (by decide) (by omega) dX5_bySize_22 ?_
          refine g_aload_n F 3 dX5_bySize_23 rfl ?_
          refine g_iload_n F 2 dX5_bySize_24 rfl ?_
          refine gc_ald_2 F (o := 0) (by decide) (by omega) dX5_bySize_25 ?_
          refine g_icmp_lt F 45 (by omega) dX5_bySize_26 (by decide) (fun c26 => ?_) (fun c26 => ?_)
          · skip
            refine g_iinc F (lv' := [(4, .int (iI (a + 1))), (5, .int (iI j)), (3, .int (iI k)), (0, .ref (xa 0 2)), (1, .int (iI n)), (2, .int (iI i))]) 1 dX5_bySize_45 rfl (by decide) rfl ?_
            refine g_iinc F (lv' := [(5, .int (iI (j + 1))), (4, .int (iI (a + 1))), (3, .int (iI k)), (0, .ref (xa 0 2)), (1, .int (iI n)), (2, .int (iI i))]) 1 dX5_bySize_48 rfl (by decide) rfl ?_
            refine g_goto F 13 dX5_bySize_51 (by decide) ?_
            refine g_sub F (lv' := [(5, .int (iI (j + 1))), (4, .int (iI (a + 1))), (3, .int (iI k)), (0, .ref (xa 0 2)), (1, .int (iI n)), (2, .int (iI i))]) [0, 1, 2, 3, 4, 5] rfl ?_
            exact ih13 _ (by omega) (j + 1) (a + 1) rfl (by omega) (by rw [sumI_s _ hj.1, ← ha]; unfold bk; split <;> omega) (by omega)
          · skip
            refine g_aload_n F 3 dX5_bySize_29 rfl ?_
            refine g_iload F 0 dX5_bySize_30 rfl ?_
            refine gc_ald_2 F (o := 0) (by decide) (by omega) dX5_bySize_32 ?_
            refine g_aload_n F 3 dX5_bySize_33 rfl ?_
            refine g_iload_n F 2 dX5_bySize_34 rfl ?_
            refine gc_ald_2 F (o := 0) (by decide) (by omega) dX5_bySize_35 ?_
            refine g_icmp_ne F 48 (by omega) dX5_bySize_36 (by decide) (fun c36 => ?_) (fun c36 => ?_)
            · skip
              refine g_iinc F (lv' := [(5, .int (iI (j + 1))), (4, .int (iI a)), (3, .int (iI k)), (0, .ref (xa 0 2)), (1, .int (iI n)), (2, .int (iI i))]) 0 dX5_bySize_48 rfl (by decide) rfl ?_
              refine g_goto F 13 dX5_bySize_51 (by decide) ?_
              refine g_sub F (lv' := [(5, .int (iI (j + 1))), (4, .int (iI a)), (3, .int (iI k)), (0, .ref (xa 0 2)), (1, .int (iI n)), (2, .int (iI i))]) [0, 1, 2, 3, 4, 5] rfl ?_
              exact ih13 _ (by omega) (j + 1) a rfl (by omega) (by rw [sumI_s _ hj.1, ← ha]; unfold bk; split <;> omega) (by omega)
            · skip
              refine g_iload F 0 dX5_bySize_39 rfl ?_
              refine g_iload_n F 2 dX5_bySize_41 rfl ?_
              refine g_icmp_ge F 48 (by omega) dX5_bySize_42 (by decide) (fun c42 => ?_) (fun c42 => ?_)
              · skip
                refine g_iinc F (lv' := [(5, .int (iI (j + 1))), (4, .int (iI a)), (3, .int (iI k)), (0, .ref (xa 0 2)), (1, .int (iI n)), (2, .int (iI i))]) 0 dX5_bySize_48 rfl (by decide) rfl ?_
                refine g_goto F 13 dX5_bySize_51 (by decide) ?_
                refine g_sub F (lv' := [(5, .int (iI (j + 1))), (4, .int (iI a)), (3, .int (iI k)), (0, .ref (xa 0 2)), (1, .int (iI n)), (2, .int (iI i))]) [0, 1, 2, 3, 4, 5] rfl ?_
                exact ih13 _ (by omega) (j + 1) a rfl (by omega) (by rw [sumI_s _ hj.1, ← ha]; unfold bk; split <;> omega) (by omega)
              · skip
                refine g_iinc F (lv' := [(4, .int (iI (a + 1))), (5, .int (iI j)), (3, .int (iI k)), (0, .ref (xa 0 2)), (1, .int (iI n)), (2, .int (iI i))]) 1 dX5_bySize_45 rfl (by decide) rfl ?_
                refine g_iinc F (lv' := [(5, .int (iI (j + 1))), (4, .int (iI (a + 1))), (3, .int (iI k)), (0, .ref (xa 0 2)), (1, .int (iI n)), (2, .int (iI i))]) 1 dX5_bySize_48 rfl (by decide) rfl ?_
                refine g_goto F 13 dX5_bySize_51 (by decide) ?_
                refine g_sub F (lv' := [(5, .int (iI (j + 1))), (4, .int (iI (a + 1))), (3, .int (iI k)), (0, .ref (xa 0 2)), (1, .int (iI n)), (2, .int (iI i))]) [0, 1, 2, 3, 4, 5] rfl ?_
                exact ih13 _ (by omega) (j + 1) (a + 1) rfl (by omega) (by rw [sumI_s _ hj.1, ← ha]; unfold bk; split <;> omega) (by omega)
      refine g_sub F (lv' := [(5, .int (iI 0)), (4, .int (iI 0)), (3, .int (iI k)), (0, .ref (xa 0 2)), (1, .int (iI n)), (2, .int (iI i))]) [0, 1, 2, 3, 4, 5] rfl ?_
      exact L13 _ 0 0 rfl (by omega) rfl (by omega)
  refine g_sub F (lv' := [(3, .int (iI 0)), (0, .ref (xa 0 2)), (1, .int (iI n)), (2, .int (iI i))]) [0, 1, 2, 3] rfl ?_
  exact L2 _ 0 rfl (by omega) (bs_0 _ _ _).symm
set_option maxRecDepth 100000 in
set_option maxHeartbeats 4000000 in
theorem k_X5_bySize_list (κ : Kp) (xa : Nat → Nat → Nat) (X : XS) (n i : Int) (hn : (0 ≤ n ∧ n ≤ 12) ∧ 0 ≤ i ∧ i < n) (hr : ∀ j : Int, 0 ≤ j → j < n → 0 ≤ X 18 14 j ∧ X 18 14 j ≤ 99) : mI κ yX5_bySize cX5_bySize 6 .int 0 [.ref (xa 18 14), .int (iI n), .int (iI i)] (xw κ xa X) (is1 (iI (bsI (X 18 14) n i)) (xw κ xa X)) := by
  refine mI_of (by decide) (Nat.le_of_ble_eq_true rfl) (fun E F K => ?_)
  refine g_lv (lv' := [(0, .ref (xa 18 14)), (1, .int (iI n)), (2, .int (iI i))]) rfl ?_
  refine g_iconst F dX5_bySize_0 ?_
  refine g_istore_n F (lv' := [(3, .int (iI 0)), (0, .ref (xa 18 14)), (1, .int (iI n)), (2, .int (iI i))]) 3 dX5_bySize_1 rfl (by decide) rfl ?_
  have L2 : ∀ (mz2 : Nat) (k : Int), (n - k).toNat = mz2 → (0 ≤ k ∧ k ≤ n) → (bsN (X 18 14) n i (n - k).toNat k = bsI (X 18 14) n i) → G E (xw κ xa X) [(3, .int (iI k)), (0, .ref (xa 18 14)), (1, .int (iI n)), (2, .int (iI i))] 2 [] := by
    intro mz2
    induction mz2 using Nat.strongRecOn with
    | _ mz2 ih2 =>
    intro k hmz2 hk hB
    refine g_iload_n F 0 dX5_bySize_2 rfl ?_
    refine g_iload_n F 2 dX5_bySize_3 rfl ?_
    refine g_icmp_ge F 70 (by omega) dX5_bySize_4 (by decide) (fun c4 => ?_) (fun c4 => ?_)
    · skip
      refine g_iconst F dX5_bySize_70 ?_
      exact K xw_same ⟨iIc (by rw [← hB, show k = n by omega, show (n - n).toNat = 0 by omega]; rfl), rfl⟩ rfl dX5_bySize_71
    · skip
      refine g_iconst F dX5_bySize_7 ?_
      refine g_istore F (lv' := [(4, .int (iI 0)), (3, .int (iI k)), (0, .ref (xa 18 14)), (1, .int (iI n)), (2, .int (iI i))]) dX5_bySize_8 (by decide) rfl ?_
      refine g_iconst F dX5_bySize_10 ?_
      refine g_istore F (lv' := [(5, .int (iI 0)), (4, .int (iI 0)), (3, .int (iI k)), (0, .ref (xa 18 14)), (1, .int (iI n)), (2, .int (iI i))]) dX5_bySize_11 (by decide) rfl ?_
      have L13 : ∀ (mz13 : Nat) (j : Int) (a : Int), (n - j).toNat = mz13 → (0 ≤ j ∧ j ≤ n) → (a = sumI (bk (X 18 14) k) j) → (0 ≤ a ∧ a ≤ j) → G E (xw κ xa X) [(5, .int (iI j)), (4, .int (iI a)), (3, .int (iI k)), (0, .ref (xa 18 14)), (1, .int (iI n)), (2, .int (iI i))] 13 [] := by
        intro mz13
        induction mz13 using Nat.strongRecOn with
        | _ mz13 ih13 =>
        intro j a hmz13 hj ha hab
        refine g_iload F 0 dX5_bySize_13 rfl ?_
        refine g_iload_n F 4 dX5_bySize_15 rfl ?_
        refine g_icmp_ge F 54 (by omega) dX5_bySize_16 (by decide) (fun c16 => ?_) (fun c16 => ?_)
        · skip
          have haa : a = sumI (bk (X 18 14) k) n := by rw [ha, show j = n by omega]
          refine g_iload F 1 dX5_bySize_54 rfl ?_
          refine g_iload_n F 5 dX5_bySize_56 rfl ?_
          refine g_icmp_ne F 64 (by omega) dX5_bySize_57 (by decide) (fun c57 => ?_) (fun c57 => ?_)
          · skip
            refine g_iinc F (lv' := [(3, .int (iI (k + 1))), (5, .int (iI j)), (4, .int (iI a)), (0, .ref (xa 18 14)), (1, .int (iI n)), (2, .int (iI i))]) 2 dX5_bySize_64 rfl (by decide) rfl ?_
            refine g_goto F 2 dX5_bySize_67 (by decide) ?_
            refine g_sub F (lv' := [(3, .int (iI (k + 1))), (0, .ref (xa 18 14)), (1, .int (iI n)), (2, .int (iI i))]) [0, 3, 4, 5] rfl ?_
            exact ih2 _ (by omega) (k + 1) rfl (by omega) (by rw [← hB, bs_s _ (c := k) (by omega), if_neg (by rw [← haa]; exact c57)])
          · skip
            refine g_aload_n F 3 dX5_bySize_60 rfl ?_
            refine g_iload_n F 2 dX5_bySize_61 rfl ?_
            refine g18_ald_14 F  (by omega) dX5_bySize_62 ?_
            exact K xw_same ⟨iIc (by rw [← hB, bs_s _ (c := k) (by omega), if_pos (by rw [← haa]; exact c57)]), rfl⟩ rfl dX5_bySize_63
        · skip
          have h1 := hr j (by omega) (by omega)
          have h2 := hr k (by omega) (by omega)
          refine g_aload_n F 3 dX5_bySize_19 rfl ?_
          refine g_iload F 0 dX5_bySize_20 rfl ?_
          refine g18_ald_14 F  (by omega) dX5_bySize_22 ?_
          refine g_aload_n F 3 dX5_bySize_23 rfl ?_
          refine g_iload_n F 2 dX5_bySize_24 rfl ?_
          refine g18_ald_14 F  (by omega) dX5_bySize_25 ?_
          refine g_icmp_lt F 45 (by omega) dX5_bySize_26 (by decide) (fun c26 => ?_) (fun c26 => ?_)
          · skip
            refine g_iinc F (lv' := [(4, .int (iI (a + 1))), (5, .int (iI j)), (3, .int (iI k)), (0, .ref (xa 18 14)), (1, .int (iI n)), (2, .int (iI i))]) 1 dX5_bySize_45 rfl (by decide) rfl ?_
            refine g_iinc F (lv' := [(5, .int (iI (j + 1))), (4, .int (iI (a + 1))), (3, .int (iI k)), (0, .ref (xa 18 14)), (1, .int (iI n)), (2, .int (iI i))]) 1 dX5_bySize_48 rfl (by decide) rfl ?_
            refine g_goto F 13 dX5_bySize_51 (by decide) ?_
            refine g_sub F (lv' := [(5, .int (iI (j + 1))), (4, .int (iI (a + 1))), (3, .int (iI k)), (0, .ref (xa 18 14)), (1, .int (iI n)), (2, .int (iI i))]) [0, 1, 2, 3, 4, 5] rfl ?_
            exact ih13 _ (by omega) (j + 1) (a + 1) rfl (by omega) (by rw [sumI_s _ hj.1, ← ha]; unfold bk; split <;> omega) (by omega)
          · skip
            refine g_aload_n F 3 dX5_bySize_29 rfl ?_
            refine g_iload F 0 dX5_bySize_30 rfl ?_
            refine g18_ald_14 F  (by omega) dX5_bySize_32 ?_
            refine g_aload_n F 3 dX5_bySize_33 rfl ?_
            refine g_iload_n F 2 dX5_bySize_34 rfl ?_
            refine g18_ald_14 F  (by omega) dX5_bySize_35 ?_
            refine g_icmp_ne F 48 (by omega) dX5_bySize_36 (by decide) (fun c36 => ?_) (fun c36 => ?_)
            · skip
              refine g_iinc F (lv' := [(5, .int (iI (j + 1))), (4, .int (iI a)), (3, .int (iI k)), (0, .ref (xa 18 14)), (1, .int (iI n)), (2, .int (iI i))]) 0 dX5_bySize_48 rfl (by decide) rfl ?_
              refine g_goto F 13 dX5_bySize_51 (by decide) ?_
              refine g_sub F (lv' := [(5, .int (iI (j + 1))), (4, .int (iI a)), (3, .int (iI k)), (0, .ref (xa 18 14)), (1, .int (iI n)), (2, .int (iI i))]) [0, 1, 2, 3, 4, 5] rfl ?_
              exact ih13 _ (by omega) (j + 1) a rfl (by omega) (by rw [sumI_s _ hj.1, ← ha]; unfold bk; split <;> omega) (by omega)
            · skip
              refine g_iload F 0 dX5_bySize_39 rfl ?_
              refine g_iload_n F 2 dX5_bySize_41 rfl ?_
              refine g_icmp_ge F 48 (by omega) dX5_bySize_42 (by decide) (fun c42 => ?_) (fun c42 => ?_)
              · skip
                refine g_iinc F (lv' := [(5, .int (iI (j + 1))), (4, .int (iI a)), (3, .int (iI k)), (0, .ref (xa 18 14)), (1, .int (iI n)), (2, .int (iI i))]) 0 dX5_bySize_48 rfl (by decide) rfl ?_
                refine g_goto F 13 dX5_bySize_51 (by decide) ?_
                refine g_sub F (lv' := [(5, .int (iI (j + 1))), (4, .int (iI a)), (3, .int (iI k)), (0, .ref (xa 18 14)), (1, .int (iI n)), (2, .int (iI i))]) [0, 1, 2, 3, 4, 5] rfl ?_
                exact ih13 _ (by omega) (j + 1) a rfl (by omega) (by rw [sumI_s _ hj.1, ← ha]; unfold bk; split <;> omega) (by omega)
              · skip
                refine g_iinc F (lv' := [(4, .int (iI (a + 1))), (5, .int (iI j)), (3, .int (iI k)), (0, .ref (xa 18 14)), (1, .int (iI n)), (2, .int (iI i))]) 1 dX5_bySize_45 rfl (by decide) rfl ?_
                refine g_iinc F (lv' := [(5, .int (iI (j + 1))), (4, .int (iI (a + 1))), (3, .int (iI k)), (0, .ref (xa 18 14)), (1, .int (iI n)), (2, .int (iI i))]) 1 dX5_bySize_48 rfl (by decide) rfl ?_
                refine g_goto F 13 dX5_bySize_51 (by decide) ?_
                refine g_sub F (lv' := [(5, .int (iI (j + 1))), (4, .int (iI (a + 1))), (3, .int (iI k)), (0, .ref (xa 18 14)), (1, .int (iI n)), (2, .int (iI i))]) [0, 1, 2, 3, 4, 5] rfl ?_
                exact ih13 _ (by omega) (j + 1) (a + 1) rfl (by omega) (by rw [sumI_s _ hj.1, ← ha]; unfold bk; split <;> omega) (by omega)
      refine g_sub F (lv' := [(5, .int (iI 0)), (4, .int (iI 0)), (3, .int (iI k)), (0, .ref (xa 18 14)), (1, .int (iI n)), (2, .int (iI i))]) [0, 1, 2, 3, 4, 5] rfl ?_
      exact L13 _ 0 0 rfl (by omega) rfl (by omega)
  refine g_sub F (lv' := [(3, .int (iI 0)), (0, .ref (xa 18 14)), (1, .int (iI n)), (2, .int (iI i))]) [0, 1, 2, 3] rfl ?_
  exact L2 _ 0 rfl (by omega) (bs_0 _ _ _).symm
theorem dX5_oldest_0 : decode cX5_oldest 0 = .ok (.iload_n 1, 1) := by decide +kernel
theorem dX5_oldest_1 : decode cX5_oldest 1 = .ok (.ifCond .lt 8, 3) := by decide +kernel
theorem dX5_oldest_4 : decode cX5_oldest 4 = .ok (.iload_n 1, 1) := by decide +kernel
theorem dX5_oldest_5 : decode cX5_oldest 5 = .ok (.iconst 1, 1) := by decide +kernel
theorem dX5_oldest_6 : decode cX5_oldest 6 = .ok (.if_icmp .le 10, 3) := by decide +kernel
theorem dX5_oldest_9 : decode cX5_oldest 9 = .ok (.aload_n 0, 1) := by decide +kernel
theorem dX5_oldest_10 : decode cX5_oldest 10 = .ok (.bipush (-2), 2) := by decide +kernel
theorem dX5_oldest_12 : decode cX5_oldest 12 = .ok (.invokevirtual 69, 3) := by decide +kernel
theorem dX5_oldest_15 : decode cX5_oldest 15 = .ok (.ireturn, 1) := by decide +kernel
theorem dX5_oldest_16 : decode cX5_oldest 16 = .ok (.iload_n 1, 1) := by decide +kernel
theorem dX5_oldest_17 : decode cX5_oldest 17 = .ok (.iconst 1, 1) := by decide +kernel
theorem dX5_oldest_18 : decode cX5_oldest 18 = .ok (.if_icmp .ne 17, 3) := by decide +kernel
theorem dX5_oldest_21 : decode cX5_oldest 21 = .ok (.aload_n 0, 1) := by decide +kernel
theorem dX5_oldest_22 : decode cX5_oldest 22 = .ok (.getfield 10, 3) := by decide +kernel
theorem dX5_oldest_25 : decode cX5_oldest 25 = .ok (.getfield 175, 3) := by decide +kernel
theorem dX5_oldest_28 : decode cX5_oldest 28 = .ok (.bipush 12, 2) := by decide +kernel
theorem dX5_oldest_30 : decode cX5_oldest 30 = .ok (.iconst 5, 1) := by decide +kernel
theorem dX5_oldest_31 : decode cX5_oldest 31 = .ok (.invokestatic 304, 3) := by decide +kernel
theorem dX5_oldest_34 : decode cX5_oldest 34 = .ok (.ireturn, 1) := by decide +kernel
theorem dX5_oldest_35 : decode cX5_oldest 35 = .ok (.iconst 0, 1) := by decide +kernel
theorem dX5_oldest_36 : decode cX5_oldest 36 = .ok (.istore_n 2, 1) := by decide +kernel
theorem dX5_oldest_37 : decode cX5_oldest 37 = .ok (.iconst 1, 1) := by decide +kernel
theorem dX5_oldest_38 : decode cX5_oldest 38 = .ok (.istore_n 3, 1) := by decide +kernel
theorem dX5_oldest_39 : decode cX5_oldest 39 = .ok (.iload_n 3, 1) := by decide +kernel
theorem dX5_oldest_40 : decode cX5_oldest 40 = .ok (.bipush 12, 2) := by decide +kernel
theorem dX5_oldest_42 : decode cX5_oldest 42 = .ok (.if_icmp .ge 32, 3) := by decide +kernel
theorem dX5_oldest_45 : decode cX5_oldest 45 = .ok (.aload_n 0, 1) := by decide +kernel
theorem dX5_oldest_46 : decode cX5_oldest 46 = .ok (.getfield 10, 3) := by decide +kernel
theorem dX5_oldest_49 : decode cX5_oldest 49 = .ok (.getfield 175, 3) := by decide +kernel
theorem dX5_oldest_52 : decode cX5_oldest 52 = .ok (.iload_n 3, 1) := by decide +kernel
theorem dX5_oldest_53 : decode cX5_oldest 53 = .ok (.iaload, 1) := by decide +kernel
theorem dX5_oldest_54 : decode cX5_oldest 54 = .ok (.aload_n 0, 1) := by decide +kernel
theorem dX5_oldest_55 : decode cX5_oldest 55 = .ok (.getfield 10, 3) := by decide +kernel
theorem dX5_oldest_58 : decode cX5_oldest 58 = .ok (.getfield 175, 3) := by decide +kernel
theorem dX5_oldest_61 : decode cX5_oldest 61 = .ok (.iload_n 2, 1) := by decide +kernel
theorem dX5_oldest_62 : decode cX5_oldest 62 = .ok (.iaload, 1) := by decide +kernel
theorem dX5_oldest_63 : decode cX5_oldest 63 = .ok (.if_icmp .le 5, 3) := by decide +kernel
theorem dX5_oldest_66 : decode cX5_oldest 66 = .ok (.iload_n 3, 1) := by decide +kernel
theorem dX5_oldest_67 : decode cX5_oldest 67 = .ok (.istore_n 2, 1) := by decide +kernel
theorem dX5_oldest_68 : decode cX5_oldest 68 = .ok (.iinc 3 1, 3) := by decide +kernel
theorem dX5_oldest_71 : decode cX5_oldest 71 = .ok (.goto (-32), 3) := by decide +kernel
theorem dX5_oldest_74 : decode cX5_oldest 74 = .ok (.iload_n 2, 1) := by decide +kernel
theorem dX5_oldest_75 : decode cX5_oldest 75 = .ok (.ireturn, 1) := by decide +kernel
set_option maxRecDepth 100000 in
set_option maxHeartbeats 4000000 in
theorem k_X5_oldest (κ : Kp) (xa : Nat → Nat → Nat) (X : XS) (w : Int)  (ha_w : In32 w) (ok : okC (cl (X 0))) : mI κ yX5_oldest cX5_oldest 4 .int 2 [.ref (xa 18 100), .int (iI w)] (xw κ xa X) (qX κ xa X (qOldest (X 0 2) w)) := by
  refine mI_of (by decide) (Nat.le_of_ble_eq_true rfl) (fun E F K => ?_)
  refine g_lv (lv' := [(0, .ref (xa 18 100)), (1, .int (iI w))]) rfl ?_
  refine g_iload_n F 1 dX5_oldest_0 rfl ?_
  refine g_if_lt F 9 (by omega) dX5_oldest_1 (by decide) (fun c1 => ?_) (fun c1 => ?_)
  · skip
    refine g_aload_n F 0 dX5_oldest_9 rfl ?_
    refine g_bipush F dX5_oldest_10 (by decide +kernel) ?_
    refine g_callI F (stk := [.int (iI (-2)), .ref (xa 18 100)]) (st := []) (k_X5_refuse κ xa X (-2) (by omega)) cal_X5_refuse lm_X5_69 81 rfl rfl rfl rfl (by decide) rfl (Nat.le_of_ble_eq_true rfl) dX5_oldest_12 (fun r12 ws12 _ hr12 => ?_)
    obtain ⟨rfl, rfl⟩ := hr12
    have hq : (-2) = qOldest (X 0 2) w := by unfold qOldest; (repeat' split) <;> omega
    exact K xw_same ⟨_, rfl, iIc hq, (sX_18 sX_0 rfl rfl rfl), (by rw [← hq]; exact (rfa_r (by omega)).symm)⟩ rfl dX5_oldest_15
  · skip
    refine g_iload_n F 1 dX5_oldest_4 rfl ?_
    refine g_iconst F dX5_oldest_5 ?_
    refine g_icmp_le F 16 (by omega) dX5_oldest_6 (by decide) (fun c6 => ?_) (fun c6 => ?_)
    · skip
      refine g_iload_n F 1 dX5_oldest_16 rfl ?_
      refine g_iconst F dX5_oldest_17 ?_
      refine g_icmp_ne F 35 (by omega) dX5_oldest_18 (by decide) (fun c18 => ?_) (fun c18 => ?_)
      · skip
        refine g_iconst F dX5_oldest_35 ?_
        refine g_istore_n F (lv' := [(2, .int (iI 0)), (0, .ref (xa 18 100)), (1, .int (iI w))]) 2 dX5_oldest_36 rfl (by decide) rfl ?_
        refine g_iconst F dX5_oldest_37 ?_
        refine g_istore_n F (lv' := [(3, .int (iI 1)), (2, .int (iI 0)), (0, .ref (xa 18 100)), (1, .int (iI w))]) 3 dX5_oldest_38 rfl (by decide) rfl ?_
        have L39 : ∀ (mz39 : Nat) (c : Int) (b : Int), (12 - c).toNat = mz39 → (1 ≤ c ∧ c ≤ 12) → (b = amax (X 0 2) c) → (0 ≤ b ∧ b < 12) → G E (xw κ xa X) [(3, .int (iI c)), (2, .int (iI b)), (0, .ref (xa 18 100)), (1, .int (iI w))] 39 [] := by
          intro mz39
          induction mz39 using Nat.strongRecOn with
          | _ mz39 ih39 =>
          intro c b hmz39 hc hb hbb
          refine g_iload_n F 0 dX5_oldest_39 rfl ?_
          refine g_bipush F dX5_oldest_40 (by decide +kernel) ?_
          refine g_icmp_ge F 74 (by omega) dX5_oldest_42 (by decide) (fun c42 => ?_) (fun c42 => ?_)
          · skip
            refine g_iload_n F 1 dX5_oldest_74 rfl ?_
            have hq : b = qOldest (X 0 2) w := by unfold qOldest; rw [if_neg (by omega), if_pos (by omega), hb, show c = 12 by omega]
            exact K xw_same ⟨_, rfl, iIc hq, sX_0, (by rw [← hq]; exact (rfa_n (by omega)).symm)⟩ rfl dX5_oldest_75
          · skip
            have h1 : 0 ≤ X 0 2 c ∧ X 0 2 c ≤ 99 := ok.a c (by omega) (by omega)
            have h2 : 0 ≤ X 0 2 b ∧ X 0 2 b ≤ 99 := ok.a b (by omega) (by omega)
            refine g_aload_n F 2 dX5_oldest_45 rfl ?_
            refine g18_get_0 F  lf_X5_10 dX5_oldest_46 ?_
            refine gc_getN_2 F (o := 0) (by decide) nf_X5_175 dX5_oldest_49 ?_
            refine g_iload_n F 0 dX5_oldest_52 rfl ?_
            refine gc_ald_2 F (o := 0) (by decide) (by omega) dX5_oldest_53 ?_
            refine g_aload_n F 2 dX5_oldest_54 rfl ?_
            refine g18_get_0 F  lf_X5_10 dX5_oldest_55 ?_
            refine gc_getN_2 F (o := 0) (by decide) nf_X5_175 dX5_oldest_58 ?_
            refine g_iload_n F 1 dX5_oldest_61 rfl ?_
            refine gc_ald_2 F (o := 0) (by decide) (by omega) dX5_oldest_62 ?_
            refine g_icmp_le F 68 (by omega) dX5_oldest_63 (by decide) (fun c63 => ?_) (fun c63 => ?_)
            · skip
              refine g_iinc F (lv' := [(3, .int (iI (c + 1))), (2, .int (iI b)), (0, .ref (xa 18 100)), (1, .int (iI w))]) 0 dX5_oldest_68 rfl (by decide) rfl ?_
              refine g_goto F 39 dX5_oldest_71 (by decide) ?_
              refine g_sub F (lv' := [(3, .int (iI (c + 1))), (2, .int (iI b)), (0, .ref (xa 18 100)), (1, .int (iI w))]) [0, 1, 2, 3] rfl ?_
              exact ih39 _ (by omega) (c + 1) b rfl (by omega) (by rw [amax_s _ (by omega), ← hb]; split <;> omega) (by omega)
            · skip
              refine g_iload_n F 0 dX5_oldest_66 rfl ?_
              refine g_istore_n F (lv' := [(2, .int (iI c)), (3, .int (iI c)), (0, .ref (xa 18 100)), (1, .int (iI w))]) 2 dX5_oldest_67 rfl (by decide) rfl ?_
              refine g_iinc F (lv' := [(3, .int (iI (c + 1))), (2, .int (iI c)), (0, .ref (xa 18 100)), (1, .int (iI w))]) 1 dX5_oldest_68 rfl (by decide) rfl ?_
              refine g_goto F 39 dX5_oldest_71 (by decide) ?_
              refine g_sub F (lv' := [(3, .int (iI (c + 1))), (2, .int (iI c)), (0, .ref (xa 18 100)), (1, .int (iI w))]) [0, 1, 2, 3] rfl ?_
              exact ih39 _ (by omega) (c + 1) c rfl (by omega) (by rw [amax_s _ (by omega), ← hb]; split <;> omega) (by omega)
        refine g_sub F (lv' := [(3, .int (iI 1)), (2, .int (iI 0)), (0, .ref (xa 18 100)), (1, .int (iI w))]) [0, 1, 2, 3] rfl ?_
        exact L39 _ 1 0 rfl (by omega) (amax_1 _).symm (by omega)
      · skip
        have hbr := bs_rng (f := X 0 2) (n := 12) (i := 5) ok.a
        refine g_aload_n F 0 dX5_oldest_21 rfl ?_
        refine g18_get_0 F  lf_X5_10 dX5_oldest_22 ?_
        refine gc_getN_2 F (o := 0) (by decide) nf_X5_175 dX5_oldest_25 ?_
        refine g_bipush F dX5_oldest_28 (by decide +kernel) ?_
        refine g_iconst F dX5_oldest_30 ?_
        refine g_callSI F (stk := [.int (iI 5), .int (iI 12), .ref (xa 0 2)]) (st := []) (k_X5_bySize_age κ xa X 12 5 (by omega) ok.a) cal_X5_bySize lm_X5_304 rfl (by decide) rfl (Nat.le_of_ble_eq_true rfl) dX5_oldest_31 (fun r31 ws31 _ hr31 => ?_)
        obtain ⟨rfl, rfl⟩ := hr31
        refine g_top (y := iI (bsI ((X 0) 2) 12 5)) rfl ?_
        have hq : bsI ((X 0) 2) 12 5 = qOldest (X 0 2) w := by unfold qOldest; rw [if_neg (by omega), if_neg (by omega)]
        exact K xw_same ⟨_, rfl, iIc hq, sX_0, (by rw [← hq]; exact (rfa_n (by omega)).symm)⟩ rfl dX5_oldest_34
    · skip
      refine g_aload_n F 0 dX5_oldest_9 rfl ?_
      refine g_bipush F dX5_oldest_10 (by decide +kernel) ?_
      refine g_callI F (stk := [.int (iI (-2)), .ref (xa 18 100)]) (st := []) (k_X5_refuse κ xa X (-2) (by omega)) cal_X5_refuse lm_X5_69 81 rfl rfl rfl rfl (by decide) rfl (Nat.le_of_ble_eq_true rfl) dX5_oldest_12 (fun r12 ws12 _ hr12 => ?_)
      obtain ⟨rfl, rfl⟩ := hr12
      have hq : (-2) = qOldest (X 0 2) w := by unfold qOldest; (repeat' split) <;> omega
      exact K xw_same ⟨_, rfl, iIc hq, (sX_18 sX_0 rfl rfl rfl), (by rw [← hq]; exact (rfa_r (by omega)).symm)⟩ rfl dX5_oldest_15
theorem dX6_harm_0 : decode cX6_harm 0 = .ok (.aload_n 0, 1) := by decide +kernel
theorem dX6_harm_1 : decode cX6_harm 1 = .ok (.iconst 0, 1) := by decide +kernel
theorem dX6_harm_2 : decode cX6_harm 2 = .ok (.putfield 91, 3) := by decide +kernel
theorem dX6_harm_5 : decode cX6_harm 5 = .ok (.iload_n 1, 1) := by decide +kernel
theorem dX6_harm_6 : decode cX6_harm 6 = .ok (.invokestatic 222, 3) := by decide +kernel
theorem dX6_harm_9 : decode cX6_harm 9 = .ok (.ifCond .ne 13, 3) := by decide +kernel
theorem dX6_harm_12 : decode cX6_harm 12 = .ok (.ldc_w 328, 3) := by decide +kernel
theorem dX6_harm_15 : decode cX6_harm 15 = .ok (.aload_n 0, 1) := by decide +kernel
theorem dX6_harm_16 : decode cX6_harm 16 = .ok (.iconst (-1), 1) := by decide +kernel
theorem dX6_harm_17 : decode cX6_harm 17 = .ok (.invokevirtual 138, 3) := by decide +kernel
theorem dX6_harm_20 : decode cX6_harm 20 = .ok (.isub, 1) := by decide +kernel
theorem dX6_harm_21 : decode cX6_harm 21 = .ok (.ireturn, 1) := by decide +kernel
theorem dX6_harm_22 : decode cX6_harm 22 = .ok (.iconst 0, 1) := by decide +kernel
theorem dX6_harm_23 : decode cX6_harm 23 = .ok (.istore_n 2, 1) := by decide +kernel
theorem dX6_harm_24 : decode cX6_harm 24 = .ok (.iconst 0, 1) := by decide +kernel
theorem dX6_harm_25 : decode cX6_harm 25 = .ok (.istore_n 3, 1) := by decide +kernel
theorem dX6_harm_26 : decode cX6_harm 26 = .ok (.iload_n 3, 1) := by decide +kernel
theorem dX6_harm_27 : decode cX6_harm 27 = .ok (.iconst 4, 1) := by decide +kernel
theorem dX6_harm_28 : decode cX6_harm 28 = .ok (.if_icmp .ge 37, 3) := by decide +kernel
theorem dX6_harm_31 : decode cX6_harm 31 = .ok (.iload_n 1, 1) := by decide +kernel
theorem dX6_harm_32 : decode cX6_harm 32 = .ok (.iload_n 3, 1) := by decide +kernel
theorem dX6_harm_33 : decode cX6_harm 33 = .ok (.invokestatic 104, 3) := by decide +kernel
theorem dX6_harm_36 : decode cX6_harm 36 = .ok (.istore 4, 2) := by decide +kernel
theorem dX6_harm_38 : decode cX6_harm 38 = .ok (.iload 4, 2) := by decide +kernel
theorem dX6_harm_40 : decode cX6_harm 40 = .ok (.ifCond .lt 19, 3) := by decide +kernel
theorem dX6_harm_43 : decode cX6_harm 43 = .ok (.aload_n 0, 1) := by decide +kernel
theorem dX6_harm_44 : decode cX6_harm 44 = .ok (.getfield 88, 3) := by decide +kernel
theorem dX6_harm_47 : decode cX6_harm 47 = .ok (.iload_n 2, 1) := by decide +kernel
theorem dX6_harm_48 : decode cX6_harm 48 = .ok (.aload_n 0, 1) := by decide +kernel
theorem dX6_harm_49 : decode cX6_harm 49 = .ok (.getfield 16, 3) := by decide +kernel
theorem dX6_harm_52 : decode cX6_harm 52 = .ok (.iload 4, 2) := by decide +kernel
theorem dX6_harm_54 : decode cX6_harm 54 = .ok (.iaload, 1) := by decide +kernel
theorem dX6_harm_55 : decode cX6_harm 55 = .ok (.iastore, 1) := by decide +kernel
theorem dX6_harm_56 : decode cX6_harm 56 = .ok (.iinc 2 1, 3) := by decide +kernel
theorem dX6_harm_59 : decode cX6_harm 59 = .ok (.iinc 3 1, 3) := by decide +kernel
theorem dX6_harm_62 : decode cX6_harm 62 = .ok (.goto (-36), 3) := by decide +kernel
theorem dX6_harm_65 : decode cX6_harm 65 = .ok (.aload_n 0, 1) := by decide +kernel
theorem dX6_harm_66 : decode cX6_harm 66 = .ok (.invokevirtual 234, 3) := by decide +kernel
theorem dX6_harm_69 : decode cX6_harm 69 = .ok (.istore_n 3, 1) := by decide +kernel
theorem dX6_harm_70 : decode cX6_harm 70 = .ok (.aload_n 0, 1) := by decide +kernel
theorem dX6_harm_71 : decode cX6_harm 71 = .ok (.getfield 16, 3) := by decide +kernel
theorem dX6_harm_74 : decode cX6_harm 74 = .ok (.iload_n 1, 1) := by decide +kernel
theorem dX6_harm_75 : decode cX6_harm 75 = .ok (.iaload, 1) := by decide +kernel
theorem dX6_harm_76 : decode cX6_harm 76 = .ok (.istore 4, 2) := by decide +kernel
theorem dX6_harm_78 : decode cX6_harm 78 = .ok (.aload_n 0, 1) := by decide +kernel
theorem dX6_harm_79 : decode cX6_harm 79 = .ok (.getfield 16, 3) := by decide +kernel
theorem dX6_harm_82 : decode cX6_harm 82 = .ok (.iload_n 1, 1) := by decide +kernel
theorem dX6_harm_83 : decode cX6_harm 83 = .ok (.aload_n 0, 1) := by decide +kernel
theorem dX6_harm_84 : decode cX6_harm 84 = .ok (.iload_n 2, 1) := by decide +kernel
theorem dX6_harm_85 : decode cX6_harm 85 = .ok (.iload_n 2, 1) := by decide +kernel
theorem dX6_harm_86 : decode cX6_harm 86 = .ok (.iconst 1, 1) := by decide +kernel
theorem dX6_harm_87 : decode cX6_harm 87 = .ok (.isub, 1) := by decide +kernel
theorem dX6_harm_88 : decode cX6_harm 88 = .ok (.iconst 2, 1) := by decide +kernel
theorem dX6_harm_89 : decode cX6_harm 89 = .ok (.idiv, 1) := by decide +kernel
theorem dX6_harm_90 : decode cX6_harm 90 = .ok (.invokevirtual 325, 3) := by decide +kernel
theorem dX6_harm_93 : decode cX6_harm 93 = .ok (.iastore, 1) := by decide +kernel
theorem dX6_harm_94 : decode cX6_harm 94 = .ok (.aload_n 0, 1) := by decide +kernel
theorem dX6_harm_95 : decode cX6_harm 95 = .ok (.invokevirtual 234, 3) := by decide +kernel
theorem dX6_harm_98 : decode cX6_harm 98 = .ok (.istore 5, 2) := by decide +kernel
theorem dX6_harm_100 : decode cX6_harm 100 = .ok (.aload_n 0, 1) := by decide +kernel
theorem dX6_harm_101 : decode cX6_harm 101 = .ok (.getfield 16, 3) := by decide +kernel
theorem dX6_harm_104 : decode cX6_harm 104 = .ok (.iload_n 1, 1) := by decide +kernel
theorem dX6_harm_105 : decode cX6_harm 105 = .ok (.iload 4, 2) := by decide +kernel
theorem dX6_harm_107 : decode cX6_harm 107 = .ok (.iastore, 1) := by decide +kernel
theorem dX6_harm_108 : decode cX6_harm 108 = .ok (.iload_n 3, 1) := by decide +kernel
theorem dX6_harm_109 : decode cX6_harm 109 = .ok (.iload 5, 2) := by decide +kernel
theorem dX6_harm_111 : decode cX6_harm 111 = .ok (.isub, 1) := by decide +kernel
theorem dX6_harm_112 : decode cX6_harm 112 = .ok (.ireturn, 1) := by decide +kernel
set_option maxRecDepth 100000 in
set_option maxHeartbeats 4000000 in
theorem k_X6_harm (κ : Kp) (ma : Nat → Nat) (M : MS) (c : Int)  (ha_c : In32 c) (ok : okC (cl M)) : mI κ yX6_harm cX6_harm 6 .int 3 [.ref (ma 100), .int (iI c)] (mw κ ma M) (qM2 κ ma M (qHarm (cl M) c) (sHarm c)) := by
  refine mI_of (by decide) (Nat.le_of_ble_eq_true rfl) (fun E F K => ?_)
  refine g_lv (lv' := [(0, .ref (ma 100)), (1, .int (iI c))]) rfl ?_
  refine g_aload_n F 0 dX6_harm_0 rfl ?_
  refine g_iconst F dX6_harm_1 ?_
  refine gm_put_10 F dX6_harm_2 ?_
  refine g_iload_n F 1 dX6_harm_5 rfl ?_
  refine g_callSI F (stk := [.int (iI c)]) (st := []) (k_X6_isCell κ (mw κ ma (mA M 10 (fun _ => 0))) c (by omega)) cal_X6_isCell lm_X6_222 rfl (by decide) rfl (Nat.le_of_ble_eq_true rfl) dX6_harm_6 (fun r6 ws6 _ hr6 => ?_)
  obtain ⟨rfl, rfl⟩ := hr6
  refine g_if_ne F 22 (b2i_in _) dX6_harm_9 (by decide) (fun c9 => ?_) (fun c9 => ?_)
  · skip
    have c9 : 0 ≤ c ∧ c < 12 := b2i_t c9
    refine g_iconst F dX6_harm_22 ?_
    refine g_istore_n F (lv' := [(2, .int (iI 0)), (0, .ref (ma 100)), (1, .int (iI c))]) 2 dX6_harm_23 rfl (by decide) rfl ?_
    refine g_iconst F dX6_harm_24 ?_
    refine g_istore_n F (lv' := [(3, .int (iI 0)), (2, .int (iI 0)), (0, .ref (ma 100)), (1, .int (iI c))]) 3 dX6_harm_25 rfl (by decide) rfl ?_
    have L26 : ∀ (mz26 : Nat) (w : Int) (n : Int) (f : Int → Int), (4 - w).toNat = mz26 → (0 ≤ w ∧ w ≤ 4) → (n = sumI (cnt1 c) w) → (0 ≤ n ∧ n ≤ w) → (∀ j : Int, 0 ≤ j → j < n → f j = nbI (M 2) c w j) → G E (mw κ ma (mA (mA M 10 (fun _ => 0)) 41 f)) [(3, .int (iI w)), (2, .int (iI n)), (0, .ref (ma 100)), (1, .int (iI c))] 26 [] := by
      intro mz26
      induction mz26 using Nat.strongRecOn with
      | _ mz26 ih26 =>
      intro w n f hmz26 hw hn hnb hf
      refine g_iload_n F 0 dX6_harm_26 rfl ?_
      refine g_iconst F dX6_harm_27 ?_
      refine g_icmp_ge F 65 (by omega) dX6_harm_28 (by decide) (fun c28 => ?_) (fun c28 => ?_)
      · skip
        have hc4 := cnt4 (c := c) (by omega) (by omega)
        have hne : n = sumI (cnt1 c) 4 := by rw [hn, show w = 4 by omega]
        have hfe : ∀ j : Int, 0 ≤ j → j < n → f j = nbI (M 2) c 4 j := fun j a b => by rw [hf j a b, show w = 4 by omega]
        have hv : bsI f n ((n - 1) / 2) = hrmV (M 2) c := by unfold hrmV; rw [← hne]; exact bs_congr hfe
        have hvb : 0 ≤ hrmV (M 2) c ∧ hrmV (M 2) c ≤ 99 := hrmV_bd ok (c := c) (by omega) (by omega)
        have okv := oth_ok (w := 2) (c := c) (v := hrmV (M 2) c) ok (by omega)
        have hpb := allPull_bd ok.A
        have hpb2 := allPull_bd okv.A
        have hk : 0 ≤ M 2 c ∧ M 2 c ≤ 99 := ok.a c (by omega) (by omega)
        refine g_aload_n F 2 dX6_harm_65 rfl ?_
        refine g_callI F (stk := [.ref (ma 100)]) (st := []) (k_X6_allPull κ ma (mA (mA M 10 (fun _ => 0)) 41 f) ok.A) cal_X6_allPull lm_X6_234 0 rfl rfl rfl rfl (by decide) rfl (Nat.le_of_ble_eq_true rfl) dX6_harm_66 (fun r66 ws66 _ hr66 => ?_)
        obtain ⟨rfl, rfl⟩ := hr66
        refine g_top (y := iI (allPull (cl M))) rfl ?_
        refine g_istore_n F (lv' := [(3, .int (iI (allPull (cl M)))), (2, .int (iI n)), (0, .ref (ma 100)), (1, .int (iI c))]) 3 dX6_harm_69 rfl (by decide) rfl ?_
        refine g_aload_n F 2 dX6_harm_70 rfl ?_
        refine gm_get_2 F dX6_harm_71 ?_
        refine g_iload_n F 3 dX6_harm_74 rfl ?_
        refine gm_ald_2 F (by omega) dX6_harm_75 ?_
        refine g_top (y := iI (M 2 c)) rfl ?_
        refine g_istore F (lv' := [(4, .int (iI (M 2 c))), (3, .int (iI (allPull (cl M)))), (2, .int (iI n)), (0, .ref (ma 100)), (1, .int (iI c))]) dX6_harm_76 (by decide) rfl ?_
        refine g_aload_n F 3 dX6_harm_78 rfl ?_
        refine gm_get_2 F dX6_harm_79 ?_
        refine g_iload_n F 4 dX6_harm_82 rfl ?_
        refine g_aload_n F 3 dX6_harm_83 rfl ?_
        refine g_iload_n F 2 dX6_harm_84 rfl ?_
        refine g_iload_n F 2 dX6_harm_85 rfl ?_
        refine g_iconst F dX6_harm_86 ?_
        refine g_isub F dX6_harm_87 ?_
        refine g_iconst F dX6_harm_88 ?_
        refine g_idiv F dX6_harm_89 (by omega) ?_
        refine g_callI F (stk := [.int (iI ((n - 1) / 2)), .int (iI n), .ref (ma 100), .int (iI c), .ref (ma 2)]) (st := [.int (iI c), .ref (ma 2)]) (k_X6_ofSize κ ma (mA (mA M 10 (fun _ => 0)) 41 f) n ((n - 1) / 2) (by omega) (fun j a b => by show 0 ≤ f j ∧ f j ≤ 99; rw [hfe j a b]; exact nbI_rng ok (by omega) (by omega) 4 (by decide) j)) cal_X6_ofSize lm_X6_325 0 rfl rfl rfl rfl (by decide) rfl (Nat.le_of_ble_eq_true rfl) dX6_harm_90 (fun r90 ws90 _ hr90 => ?_)
        obtain ⟨f90, rfl, rfl⟩ := hr90
        refine g_top (y := iI (hrmV (M 2) c)) (iIc hv) ?_
        refine g_ws (ws' := mw κ ma (mA (mA M 10 (fun _ => 0)) 41 f90)) rfl ?_
        refine gm_ast_2 F (by omega) dX6_harm_93 ?_
        refine g_ws (ws' := mw κ ma (mA (mA (mA M 10 (fun _ => 0)) 41 f90) 2 (uI (M 2) c (hrmV (M 2) c)))) rfl ?_
        refine g_aload_n F 3 dX6_harm_94 rfl ?_
        refine g_callI F (stk := [.ref (ma 100)]) (st := []) (k_X6_allPull κ ma (mA (mA (mA M 10 (fun _ => 0)) 41 f90) 2 (uI (M 2) c (hrmV (M 2) c))) (show okA (oth (cl M) 2 c (hrmV (M 2) c)) from okv.A)) cal_X6_allPull lm_X6_234 0 rfl rfl rfl rfl (by decide) rfl (Nat.le_of_ble_eq_true rfl) dX6_harm_95 (fun r95 ws95 _ hr95 => ?_)
        obtain ⟨rfl, rfl⟩ := hr95
        refine g_top (y := iI (allPull (cl (mA (mA (mA M 10 (fun _ => 0)) 41 f90) 2 (uI (M 2) c (hrmV (M 2) c)))))) rfl ?_
        refine g_istore F (lv' := [(5, .int (iI (allPull (cl (mA (mA (mA M 10 (fun _ => 0)) 41 f90) 2 (uI (M 2) c (hrmV (M 2) c))))))), (4, .int (iI (M 2 c))), (3, .int (iI (allPull (cl M)))), (2, .int (iI n)), (0, .ref (ma 100)), (1, .int (iI c))]) dX6_harm_98 (by decide) rfl ?_
        refine g_aload_n F 4 dX6_harm_100 rfl ?_
        refine gm_get_2 F dX6_harm_101 ?_
        refine g_iload_n F 5 dX6_harm_104 rfl ?_
        refine g_iload F 1 dX6_harm_105 rfl ?_
        refine gm_astS_2 F (by omega) dX6_harm_107 ?_
        refine g_ws (ws' := mw κ ma (mA (mA M 10 (fun _ => 0)) 41 f90)) (by rw [uI_back]; rfl) ?_
        refine g_iload_n F 2 dX6_harm_108 rfl ?_
        refine g_iload F 0 dX6_harm_109 rfl ?_
        refine g_isub F dX6_harm_111 ?_
        have hq : (allPull (cl M)) - (allPull (cl (mA (mA (mA M 10 (fun _ => 0)) 41 f90) 2 (uI (M 2) c (hrmV (M 2) c))))) = qHarm (cl M) c := by unfold qHarm; rw [if_neg (by omega)]; rfl
        have hsr : ¬ (-6 ≤ sHarm c ∧ sHarm c ≤ -1) := by unfold sHarm; (repeat' split) <;> omega
        exact K mw_same ⟨_, rfl, iIc hq, ⟨rfl, rfl, rfl, rfl, rfl, rfl, rfl, rfl, rfl, rfl, rfl, rfl, rfl, rfl, rfl, rfl, rfl, rfl⟩, (by show M 11 = _; exact (rfa_n hsr).symm)⟩ rfl dX6_harm_112
      · skip
        have hnw := nbM_in (c := c) (w := w) (by omega) (by omega) (by omega) (by omega)
        refine g_iload_n F 3 dX6_harm_31 rfl ?_
        refine g_iload_n F 0 dX6_harm_32 rfl ?_
        refine g_callSI F (stk := [.int (iI w), .int (iI c)]) (st := []) (k_X6_besideOf κ (mw κ ma (mA (mA M 10 (fun _ => 0)) 41 f)) c w (by omega)) cal_X6_besideOf lm_X6_104 rfl (by decide) rfl (Nat.le_of_ble_eq_true rfl) dX6_harm_33 (fun r33 ws33 _ hr33 => ?_)
        obtain ⟨rfl, rfl⟩ := hr33
        refine g_istore F (lv' := [(4, .int (iI (nbM c w))), (3, .int (iI w)), (2, .int (iI n)), (0, .ref (ma 100)), (1, .int (iI c))]) dX6_harm_36 (by decide) rfl ?_
        refine g_iload F 0 dX6_harm_38 rfl ?_
        refine g_if_lt F 59 (by omega) dX6_harm_40 (by decide) (fun c40 => ?_) (fun c40 => ?_)
        · skip
          refine g_iinc F (lv' := [(3, .int (iI (w + 1))), (4, .int (iI (nbM c w))), (2, .int (iI n)), (0, .ref (ma 100)), (1, .int (iI c))]) 1 dX6_harm_59 rfl (by decide) rfl ?_
          refine g_goto F 26 dX6_harm_62 (by decide) ?_
          refine g_sub F (lv' := [(3, .int (iI (w + 1))), (2, .int (iI n)), (0, .ref (ma 100)), (1, .int (iI c))]) [0, 2, 3, 4] rfl ?_
          exact ih26 _ (by omega) (w + 1) n f rfl (by omega) (by rw [sumI_s _ hw.1, ← hn]; first | rw [cnt1_pos (by omega)] | (rw [cnt1_neg (by omega)]; omega)) (by omega) (by first | (rw [← hnw.2.2.1 (by omega)]; exact nbI_add hw.1 hn hf (by omega)) | exact nbI_skip hw.1 hf (by omega))
        · skip
          refine g_aload_n F 3 dX6_harm_43 rfl ?_
          refine gm_get_41 F dX6_harm_44 ?_
          refine g_iload_n F 2 dX6_harm_47 rfl ?_
          refine g_aload_n F 3 dX6_harm_48 rfl ?_
          refine gm_get_2 F dX6_harm_49 ?_
          refine g_iload F 0 dX6_harm_52 rfl ?_
          refine gm_ald_2 F (by omega) dX6_harm_54 ?_
          refine g_top (y := iI (M 2 (nbM c w))) rfl ?_
          refine gm_astS_41 F (by omega) dX6_harm_55 ?_
          refine g_iinc F (lv' := [(2, .int (iI (n + 1))), (4, .int (iI (nbM c w))), (3, .int (iI w)), (0, .ref (ma 100)), (1, .int (iI c))]) 2 dX6_harm_56 rfl (by decide) rfl ?_
          refine g_iinc F (lv' := [(3, .int (iI (w + 1))), (2, .int (iI (n + 1))), (4, .int (iI (nbM c w))), (0, .ref (ma 100)), (1, .int (iI c))]) 2 dX6_harm_59 rfl (by decide) rfl ?_
          refine g_goto F 26 dX6_harm_62 (by decide) ?_
          refine g_sub F (lv' := [(3, .int (iI (w + 1))), (2, .int (iI (n + 1))), (0, .ref (ma 100)), (1, .int (iI c))]) [0, 1, 3, 4] rfl ?_
          exact ih26 _ (by omega) (w + 1) (n + 1) (uI f n (M 2 (nbM c w))) rfl (by omega) (by rw [sumI_s _ hw.1, ← hn]; first | rw [cnt1_pos (by omega)] | (rw [cnt1_neg (by omega)]; omega)) (by omega) (by first | (rw [← hnw.2.2.1 (by omega)]; exact nbI_add hw.1 hn hf (by omega)) | exact nbI_skip hw.1 hf (by omega))
    refine g_sub F (lv' := [(3, .int (iI 0)), (2, .int (iI 0)), (0, .ref (ma 100)), (1, .int (iI c))]) [0, 1, 2, 3] rfl ?_
    refine g_ws (ws' := mw κ ma (mA (mA M 10 (fun _ => 0)) 41 (M 41))) (congrArg (mw κ ma) (mA_self (M := mA M 10 (fun _ => 0)) (k := 41)).symm) ?_
    exact L26 _ 0 0 (M 41) rfl (by omega) rfl (by omega) (fun j a b => absurd b (by omega))
  · skip
    have c9 : ¬ (0 ≤ c ∧ c < 12) := b2i_f c9
    refine g_ldcw F (z := 1000000000) lc_X6_328 (by decide +kernel) dX6_harm_12 ?_
    refine g_aload_n F 0 dX6_harm_15 rfl ?_
    refine g_iconst F dX6_harm_16 ?_
    refine g_callI F (stk := [.int (iI (-1)), .ref (ma 100), .int (iI 1000000000)]) (st := [.int (iI 1000000000)]) (k_X6_refuse κ ma (mA M 10 (fun _ => 0)) (-1) (by omega)) cal_X6_refuse lm_X6_138 0 rfl rfl rfl rfl (by decide) rfl (Nat.le_of_ble_eq_true rfl) dX6_harm_17 (fun r17 ws17 _ hr17 => ?_)
    obtain ⟨rfl, rfl⟩ := hr17
    refine g_top (y := iI (-1)) rfl ?_
    refine g_ws (ws' := mw κ ma (mA (mA M 10 (fun _ => 0)) 11 (uI (M 11) (-(-1)) (M 11 (-(-1)) + 1)))) rfl ?_
    refine g_isub F dX6_harm_20 ?_
    have hq : 1000000000 - (-1) = qHarm (cl M) c := by unfold qHarm; rw [if_pos (by omega)]; rfl
    have hsr : sHarm c = (-1) := by unfold sHarm; (repeat' split) <;> omega
    exact K mw_same ⟨_, rfl, iIc hq, ⟨rfl, rfl, rfl, rfl, rfl, rfl, rfl, rfl, rfl, rfl, rfl, rfl, rfl, rfl, rfl, rfl, rfl, rfl⟩, (by rw [hsr]; exact (rfa_r (by omega)).symm)⟩ rfl dX6_harm_21
theorem dX5_harm_0 : decode cX5_harm 0 = .ok (.iload_n 1, 1) := by decide +kernel
theorem dX5_harm_1 : decode cX5_harm 1 = .ok (.invokestatic 134, 3) := by decide +kernel
theorem dX5_harm_4 : decode cX5_harm 4 = .ok (.ifCond .ne 12, 3) := by decide +kernel
theorem dX5_harm_7 : decode cX5_harm 7 = .ok (.ldc 230, 2) := by decide +kernel
theorem dX5_harm_9 : decode cX5_harm 9 = .ok (.aload_n 0, 1) := by decide +kernel
theorem dX5_harm_10 : decode cX5_harm 10 = .ok (.iconst (-1), 1) := by decide +kernel
theorem dX5_harm_11 : decode cX5_harm 11 = .ok (.invokevirtual 69, 3) := by decide +kernel
theorem dX5_harm_14 : decode cX5_harm 14 = .ok (.isub, 1) := by decide +kernel
theorem dX5_harm_15 : decode cX5_harm 15 = .ok (.ireturn, 1) := by decide +kernel
theorem dX5_harm_16 : decode cX5_harm 16 = .ok (.iconst 0, 1) := by decide +kernel
theorem dX5_harm_17 : decode cX5_harm 17 = .ok (.istore_n 2, 1) := by decide +kernel
theorem dX5_harm_18 : decode cX5_harm 18 = .ok (.iconst 0, 1) := by decide +kernel
theorem dX5_harm_19 : decode cX5_harm 19 = .ok (.istore_n 3, 1) := by decide +kernel
theorem dX5_harm_20 : decode cX5_harm 20 = .ok (.iload_n 3, 1) := by decide +kernel
theorem dX5_harm_21 : decode cX5_harm 21 = .ok (.iconst 4, 1) := by decide +kernel
theorem dX5_harm_22 : decode cX5_harm 22 = .ok (.if_icmp .ge 48, 3) := by decide +kernel
theorem dX5_harm_25 : decode cX5_harm 25 = .ok (.getstatic 308, 3) := by decide +kernel
theorem dX5_harm_28 : decode cX5_harm 28 = .ok (.iload_n 1, 1) := by decide +kernel
theorem dX5_harm_29 : decode cX5_harm 29 = .ok (.iconst 4, 1) := by decide +kernel
theorem dX5_harm_30 : decode cX5_harm 30 = .ok (.imul, 1) := by decide +kernel
theorem dX5_harm_31 : decode cX5_harm 31 = .ok (.iload_n 3, 1) := by decide +kernel
theorem dX5_harm_32 : decode cX5_harm 32 = .ok (.iadd, 1) := by decide +kernel
theorem dX5_harm_33 : decode cX5_harm 33 = .ok (.iaload, 1) := by decide +kernel
theorem dX5_harm_34 : decode cX5_harm 34 = .ok (.istore 4, 2) := by decide +kernel
theorem dX5_harm_36 : decode cX5_harm 36 = .ok (.iload 4, 2) := by decide +kernel
theorem dX5_harm_38 : decode cX5_harm 38 = .ok (.iconst (-1), 1) := by decide +kernel
theorem dX5_harm_39 : decode cX5_harm 39 = .ok (.if_icmp .ne 6, 3) := by decide +kernel
theorem dX5_harm_42 : decode cX5_harm 42 = .ok (.goto 22, 3) := by decide +kernel
theorem dX5_harm_45 : decode cX5_harm 45 = .ok (.aload_n 0, 1) := by decide +kernel
theorem dX5_harm_46 : decode cX5_harm 46 = .ok (.getfield 66, 3) := by decide +kernel
theorem dX5_harm_49 : decode cX5_harm 49 = .ok (.iload_n 2, 1) := by decide +kernel
theorem dX5_harm_50 : decode cX5_harm 50 = .ok (.aload_n 0, 1) := by decide +kernel
theorem dX5_harm_51 : decode cX5_harm 51 = .ok (.getfield 10, 3) := by decide +kernel
theorem dX5_harm_54 : decode cX5_harm 54 = .ok (.getfield 175, 3) := by decide +kernel
theorem dX5_harm_57 : decode cX5_harm 57 = .ok (.iload 4, 2) := by decide +kernel
theorem dX5_harm_59 : decode cX5_harm 59 = .ok (.iaload, 1) := by decide +kernel
theorem dX5_harm_60 : decode cX5_harm 60 = .ok (.iastore, 1) := by decide +kernel
theorem dX5_harm_61 : decode cX5_harm 61 = .ok (.iinc 2 1, 3) := by decide +kernel
theorem dX5_harm_64 : decode cX5_harm 64 = .ok (.iinc 3 1, 3) := by decide +kernel
theorem dX5_harm_67 : decode cX5_harm 67 = .ok (.goto (-47), 3) := by decide +kernel
theorem dX5_harm_70 : decode cX5_harm 70 = .ok (.aload_n 0, 1) := by decide +kernel
theorem dX5_harm_71 : decode cX5_harm 71 = .ok (.iload_n 1, 1) := by decide +kernel
theorem dX5_harm_72 : decode cX5_harm 72 = .ok (.iconst 2, 1) := by decide +kernel
theorem dX5_harm_73 : decode cX5_harm 73 = .ok (.aload_n 0, 1) := by decide +kernel
theorem dX5_harm_74 : decode cX5_harm 74 = .ok (.getfield 66, 3) := by decide +kernel
theorem dX5_harm_77 : decode cX5_harm 77 = .ok (.iload_n 2, 1) := by decide +kernel
theorem dX5_harm_78 : decode cX5_harm 78 = .ok (.iload_n 2, 1) := by decide +kernel
theorem dX5_harm_79 : decode cX5_harm 79 = .ok (.iconst 1, 1) := by decide +kernel
theorem dX5_harm_80 : decode cX5_harm 80 = .ok (.isub, 1) := by decide +kernel
theorem dX5_harm_81 : decode cX5_harm 81 = .ok (.iconst 2, 1) := by decide +kernel
theorem dX5_harm_82 : decode cX5_harm 82 = .ok (.idiv, 1) := by decide +kernel
theorem dX5_harm_83 : decode cX5_harm 83 = .ok (.invokestatic 304, 3) := by decide +kernel
theorem dX5_harm_86 : decode cX5_harm 86 = .ok (.invokevirtual 278, 3) := by decide +kernel
theorem dX5_harm_89 : decode cX5_harm 89 = .ok (.aload_n 0, 1) := by decide +kernel
theorem dX5_harm_90 : decode cX5_harm 90 = .ok (.getfield 10, 3) := by decide +kernel
theorem dX5_harm_93 : decode cX5_harm 93 = .ok (.invokevirtual 200, 3) := by decide +kernel
theorem dX5_harm_96 : decode cX5_harm 96 = .ok (.aload_n 0, 1) := by decide +kernel
theorem dX5_harm_97 : decode cX5_harm 97 = .ok (.getfield 50, 3) := by decide +kernel
theorem dX5_harm_100 : decode cX5_harm 100 = .ok (.invokevirtual 200, 3) := by decide +kernel
theorem dX5_harm_103 : decode cX5_harm 103 = .ok (.isub, 1) := by decide +kernel
theorem dX5_harm_104 : decode cX5_harm 104 = .ok (.ireturn, 1) := by decide +kernel
set_option maxRecDepth 100000 in
set_option maxHeartbeats 4000000 in
theorem k_X5_harm (κ : Kp) (xa : Nat → Nat → Nat) (X : XS) (c : Int)  (ha_c : In32 c) (ok : okC (cl (X 0))) : mI κ yX5_harm cX5_harm 5 .int 3 [.ref (xa 18 100), .int (iI c)] (xw κ xa X) (qX2 κ xa X (qHarm (cl (X 0)) c) (sHarm c)) := by
  refine mI_of (by decide) (Nat.le_of_ble_eq_true rfl) (fun E F K => ?_)
  refine g_lv (lv' := [(0, .ref (xa 18 100)), (1, .int (iI c))]) rfl ?_
  refine g_iload_n F 1 dX5_harm_0 rfl ?_
  refine g_callSI F (stk := [.int (iI c)]) (st := []) (k_X5_isCell κ (xw κ xa X) c (by omega)) cal_X5_isCell lm_X5_134 rfl (by decide) rfl (Nat.le_of_ble_eq_true rfl) dX5_harm_1 (fun r1 ws1 _ hr1 => ?_)
  obtain ⟨rfl, rfl⟩ := hr1
  refine g_if_ne F 16 (b2i_in _) dX5_harm_4 (by decide) (fun c4 => ?_) (fun c4 => ?_)
  · skip
    have c4 : 0 ≤ c ∧ c < 12 := b2i_t c4
    refine g_iconst F dX5_harm_16 ?_
    refine g_istore_n F (lv' := [(2, .int (iI 0)), (0, .ref (xa 18 100)), (1, .int (iI c))]) 2 dX5_harm_17 rfl (by decide) rfl ?_
    refine g_iconst F dX5_harm_18 ?_
    refine g_istore_n F (lv' := [(3, .int (iI 0)), (2, .int (iI 0)), (0, .ref (xa 18 100)), (1, .int (iI c))]) 3 dX5_harm_19 rfl (by decide) rfl ?_
    have L20 : ∀ (mz20 : Nat) (w : Int) (n : Int) (f : Int → Int), (4 - w).toNat = mz20 → (0 ≤ w ∧ w ≤ 4) → (n = sumI (cnt1 c) w) → (0 ≤ n ∧ n ≤ w) → (∀ j : Int, 0 ≤ j → j < n → f j = nbI (X 0 2) c w j) → G E (xw κ xa (setO X 18 (mA (X 18) 14 f))) [(3, .int (iI w)), (2, .int (iI n)), (0, .ref (xa 18 100)), (1, .int (iI c))] 20 [] := by
      intro mz20
      induction mz20 using Nat.strongRecOn with
      | _ mz20 ih20 =>
      intro w n f hmz20 hw hn hnb hf
      refine g_iload_n F 0 dX5_harm_20 rfl ?_
      refine g_iconst F dX5_harm_21 ?_
      refine g_icmp_ge F 70 (by omega) dX5_harm_22 (by decide) (fun c22 => ?_) (fun c22 => ?_)
      · skip
        have hc4 := cnt4 (c := c) (by omega) (by omega)
        have hne : n = sumI (cnt1 c) 4 := by rw [hn, show w = 4 by omega]
        have hfe : ∀ j : Int, 0 ≤ j → j < n → f j = nbI (X 0 2) c 4 j := fun j a b => by rw [hf j a b, show w = 4 by omega]
        have hv : bsI f n ((n - 1) / 2) = hrmV (X 0 2) c := by unfold hrmV; rw [← hne]; exact bs_congr hfe
        have hvb : 0 ≤ hrmV (X 0 2) c ∧ hrmV (X 0 2) c ≤ 99 := hrmV_bd ok (c := c) (by omega) (by omega)
        have okv := oth_ok (w := 2) (c := c) (v := hrmV (X 0 2) c) ok (by omega)
        have hpb := allPull_bd ok.A
        have hpb2 := allPull_bd okv.A
        refine g_aload_n F 2 dX5_harm_70 rfl ?_
        refine g_iload_n F 3 dX5_harm_71 rfl ?_
        refine g_iconst F dX5_harm_72 ?_
        refine g_aload_n F 2 dX5_harm_73 rfl ?_
        refine g18_get_14 F  lf_X5_66 dX5_harm_74 ?_
        refine g_iload_n F 1 dX5_harm_77 rfl ?_
        refine g_iload_n F 1 dX5_harm_78 rfl ?_
        refine g_iconst F dX5_harm_79 ?_
        refine g_isub F dX5_harm_80 ?_
        refine g_iconst F dX5_harm_81 ?_
        refine g_idiv F dX5_harm_82 (by omega) ?_
        refine g_callSI F (stk := [.int (iI ((n - 1) / 2)), .int (iI n), .ref (xa 18 14), .int (iI 2), .int (iI c), .ref (xa 18 100)]) (st := [.int (iI 2), .int (iI c), .ref (xa 18 100)]) (k_X5_bySize_list κ xa (setO X 18 (mA (X 18) 14 f)) n ((n - 1) / 2) (by omega) (fun j a b => by show 0 ≤ f j ∧ f j ≤ 99; rw [hfe j a b]; exact nbI_rng ok (by omega) (by omega) 4 (by decide) j)) cal_X5_bySize lm_X5_304 rfl (by decide) rfl (Nat.le_of_ble_eq_true rfl) dX5_harm_83 (fun r83 ws83 _ hr83 => ?_)
        obtain ⟨rfl, rfl⟩ := hr83
        refine g_top (y := iI (hrmV (X 0 2) c)) (iIc hv) ?_
        refine g_callV F (stk := [.int (iI (hrmV (X 0 2) c)), .int (iI 2), .int (iI c), .ref (xa 18 100)]) (st := []) (k_X5_thinkOther κ xa (setO X 18 (mA (X 18) 14 f)) c 2 (hrmV (X 0 2) c) (by omega)) cal_X5_thinkOther lm_X5_278 81 rfl rfl rfl rfl (by decide) rfl (Nat.le_of_ble_eq_true rfl) dX5_harm_86 (fun ws86 _ hr86 => ?_)
        obtain rfl := hr86
        refine g_ws (ws' := xw κ xa (setO (setO X 18 (mA (X 18) 14 f)) 2 (stC (X 2) (oth (cl (X 0)) 2 c (hrmV (X 0 2) c))))) rfl ?_
        refine g_aload_n F 2 dX5_harm_89 rfl ?_
        refine g18_get_0 F  lf_X5_10 dX5_harm_90 ?_
        refine g_callNI F (stk := [.ref (xa 0 100)]) (st := []) (k_X0_pullTogether κ xa (setO (setO X 18 (mA (X 18) 14 f)) 2 (stC (X 2) (oth (cl (X 0)) 2 c (hrmV (X 0 2) c)))) 0 (by decide) ok.A) cal_X0_pullTogether nm_X5_200 0 rfl rfl rfl rfl (by decide) rfl (Nat.le_of_ble_eq_true rfl) dX5_harm_93 (fun r93 ws93 _ hr93 => ?_)
        obtain ⟨rfl, rfl⟩ := hr93
        refine g_top (y := iI (allPull (cl (X 0)))) rfl ?_
        refine g_aload_n F 2 dX5_harm_96 rfl ?_
        refine g18_get_10 F  lf_X5_50 dX5_harm_97 ?_
        refine g_callNI F (stk := [.ref (xa 2 100), .int (iI (allPull (cl (X 0))))]) (st := [.int (iI (allPull (cl (X 0))))]) (kS_X0_pullTogether κ xa (setO X 18 (mA (X 18) 14 f)) 2 (by decide) (stC (X 2) (oth (cl (X 0)) 2 c (hrmV (X 0 2) c))) okv.A) cal_X0_pullTogether nm_X5_200 10 rfl rfl rfl rfl (by decide) rfl (Nat.le_of_ble_eq_true rfl) dX5_harm_100 (fun r100 ws100 _ hr100 => ?_)
        obtain ⟨rfl, rfl⟩ := hr100
        refine g_top (y := iI (allPull (oth (cl (X 0)) 2 c (hrmV (X 0 2) c)))) rfl ?_
        refine g_isub F dX5_harm_103 ?_
        have hq : (allPull (cl (X 0))) - (allPull (oth (cl (X 0)) 2 c (hrmV (X 0 2) c))) = qHarm (cl (X 0)) c := by unfold qHarm; rw [if_neg (by omega)]
        have hsr : ¬ (-6 ≤ sHarm c ∧ sHarm c ≤ -1) := by unfold sHarm; (repeat' split) <;> omega
        exact K xw_same ⟨_, rfl, iIc hq, (sX_o (sX_18 sX_0 rfl rfl rfl) (by decide)), (by exact (rfa_n hsr).symm)⟩ rfl dX5_harm_104
      · skip
        have hnb2 := nb_in (c := c) (w := w) (by omega) (by omega) (by omega) (by omega)
        refine g_bes F lf_X5_308 dX5_harm_25 ?_
        refine g_iload_n F 3 dX5_harm_28 rfl ?_
        refine g_iconst F dX5_harm_29 ?_
        refine g_imul F dX5_harm_30 ?_
        refine g_iload_n F 0 dX5_harm_31 rfl ?_
        refine g_iadd F dX5_harm_32 ?_
        refine g_beld F (by omega) dX5_harm_33 ?_
        refine g_top (y := iI (nb c w)) (iIc (bes_nb (by omega) (by omega))) ?_
        refine g_istore F (lv' := [(4, .int (iI (nb c w))), (3, .int (iI w)), (2, .int (iI n)), (0, .ref (xa 18 100)), (1, .int (iI c))]) dX5_harm_34 (by decide) rfl ?_
        refine g_iload F 0 dX5_harm_36 rfl ?_
        refine g_iconst F dX5_harm_38 ?_
        refine g_icmp_ne F 45 (by omega) dX5_harm_39 (by decide) (fun c39 => ?_) (fun c39 => ?_)
        · skip
          refine g_aload_n F 3 dX5_harm_45 rfl ?_
          refine g18_get_14 F  lf_X5_66 dX5_harm_46 ?_
          refine g_iload_n F 2 dX5_harm_49 rfl ?_
          refine g_aload_n F 3 dX5_harm_50 rfl ?_
          refine g18_get_0 F  lf_X5_10 dX5_harm_51 ?_
          refine gc_getN_2 F (o := 0) (by decide) nf_X5_175 dX5_harm_54 ?_
          refine g_iload F 0 dX5_harm_57 rfl ?_
          refine gc_ald_2 F (o := 0) (by decide) (by omega) dX5_harm_59 ?_
          refine g_top (y := iI ((X 0) 2 (nb c w))) rfl ?_
          refine g18_ast_14 F  (by omega) dX5_harm_60 ?_
          refine g_ws (ws' := xw κ xa (setO X 18 (mA (X 18) 14 (uI f n ((X 0) 2 (nb c w)))))) rfl ?_
          refine g_iinc F (lv' := [(2, .int (iI (n + 1))), (4, .int (iI (nb c w))), (3, .int (iI w)), (0, .ref (xa 18 100)), (1, .int (iI c))]) 2 dX5_harm_61 rfl (by decide) rfl ?_
          refine g_iinc F (lv' := [(3, .int (iI (w + 1))), (2, .int (iI (n + 1))), (4, .int (iI (nb c w))), (0, .ref (xa 18 100)), (1, .int (iI c))]) 2 dX5_harm_64 rfl (by decide) rfl ?_
          refine g_goto F 20 dX5_harm_67 (by decide) ?_
          refine g_sub F (lv' := [(3, .int (iI (w + 1))), (2, .int (iI (n + 1))), (0, .ref (xa 18 100)), (1, .int (iI c))]) [0, 1, 3, 4] rfl ?_
          exact ih20 _ (by omega) (w + 1) (n + 1) (uI f n ((X 0) 2 (nb c w))) rfl (by omega) (by rw [sumI_s _ hw.1, ← hn]; first | rw [cnt1_pos (by omega)] | (rw [cnt1_neg (by omega)]; omega)) (by omega) (by first | exact nbI_add hw.1 hn hf (by omega) | exact nbI_skip hw.1 hf (by omega))
        · skip
          refine g_goto F 64 dX5_harm_42 (by decide) ?_
          refine g_iinc F (lv' := [(3, .int (iI (w + 1))), (4, .int (iI (nb c w))), (2, .int (iI n)), (0, .ref (xa 18 100)), (1, .int (iI c))]) 1 dX5_harm_64 rfl (by decide) rfl ?_
          refine g_goto F 20 dX5_harm_67 (by decide) ?_
          refine g_sub F (lv' := [(3, .int (iI (w + 1))), (2, .int (iI n)), (0, .ref (xa 18 100)), (1, .int (iI c))]) [0, 2, 3, 4] rfl ?_
          exact ih20 _ (by omega) (w + 1) n f rfl (by omega) (by rw [sumI_s _ hw.1, ← hn]; first | rw [cnt1_pos (by omega)] | (rw [cnt1_neg (by omega)]; omega)) (by omega) (by first | exact nbI_add hw.1 hn hf (by omega) | exact nbI_skip hw.1 hf (by omega))
    refine g_sub F (lv' := [(3, .int (iI 0)), (2, .int (iI 0)), (0, .ref (xa 18 100)), (1, .int (iI c))]) [0, 1, 2, 3] rfl ?_
    refine g_ws (ws' := xw κ xa (setO X 18 (mA (X 18) 14 ((X 18) 14)))) (by rw [mA_self, setO_self]) ?_
    exact L20 _ 0 0 ((X 18) 14) rfl (by omega) rfl (by omega) (fun j a b => absurd b (by omega))
  · skip
    have c4 : ¬ (0 ≤ c ∧ c < 12) := b2i_f c4
    refine g_ldc F (z := 1000000000) lc_X5_230 (by decide +kernel) dX5_harm_7 ?_
    refine g_aload_n F 0 dX5_harm_9 rfl ?_
    refine g_iconst F dX5_harm_10 ?_
    refine g_callI F (stk := [.int (iI (-1)), .ref (xa 18 100), .int (iI 1000000000)]) (st := [.int (iI 1000000000)]) (k_X5_refuse κ xa X (-1) (by omega)) cal_X5_refuse lm_X5_69 81 rfl rfl rfl rfl (by decide) rfl (Nat.le_of_ble_eq_true rfl) dX5_harm_11 (fun r11 ws11 _ hr11 => ?_)
    obtain ⟨rfl, rfl⟩ := hr11
    refine g_isub F dX5_harm_14 ?_
    have hq : 1000000000 - (-1) = qHarm (cl (X 0)) c := by unfold qHarm; rw [if_pos (by omega)]; rfl
    have hsr : sHarm c = (-1) := by unfold sHarm; (repeat' split) <;> omega
    exact K xw_same ⟨_, rfl, iIc hq, (sX_18 sX_0 rfl rfl rfl), (by rw [hsr]; exact (rfa_r (by omega)).symm)⟩ rfl dX5_harm_15
