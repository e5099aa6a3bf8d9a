/-! BY TURNS: what two come to who put by turns -/
abbrev legal (a : Int → Int) (n t : Int) : Prop := a (t / 12) = -1 ∧ ¬ tkn a n (t % 12)
def vL (a : Int → Int) (n : Int) : Int → Bool := fun t => decide (legal a n t)
def val (Lf : (Int → Int) → Int) (n : Int) : Nat → Int → (Int → Int) → Int
  | 0, _, a => Lf a
  | r + 1, p, a => if p % 2 = 0 then (smn (vL a n) (fun t => val Lf n r (p + 1) (uI a (t / 12) (t % 12))) (fun t => t) (-9, MAXI) (12 * n)).2 else (smx (vL a n) (fun t => val Lf n r (p + 1) (uI a (t / 12) (t % 12))) (fun t => t) (-9, -1) (12 * n)).2
def vF (Lf : (Int → Int) → Int) (n : Int) (r : Nat) (p : Int) (a : Int → Int) : Int → Int := fun t => val Lf n r (p + 1) (uI a (t / 12) (t % 12))
def lvn (Lf : (Int → Int) → Int) (n : Int) (r : Nat) (a : Int → Int) (p k : Int) : Int := if p % 2 = 0 then (smn (vL a n) (vF Lf n r p a) (fun t => t) (-9, MAXI) k).2 else (smx (vL a n) (vF Lf n r p a) (fun t => t) (-9, -1) k).2
theorem val_lv (Lf : (Int → Int) → Int) (n : Int) (r : Nat) (p : Int) (a : Int → Int) : val Lf n (r + 1) p a = lvn Lf n r a p (12 * n) := rfl
theorem lv_0 (Lf : (Int → Int) → Int) (n : Int) (r : Nat) (a : Int → Int) (p : Int) : lvn Lf n r a p 0 = if p % 2 = 0 then MAXI else -1 := by
  unfold lvn
  split <;> rfl
theorem lv_f {Lf : (Int → Int) → Int} {n : Int} {r : Nat} {a : Int → Int} {p k : Int} (h0 : 0 ≤ k) (h : ¬ legal a n k) : lvn Lf n r a p (k + 1) = lvn Lf n r a p k := by
  have hd : vL a n k = false := decide_eq_false h
  unfold lvn
  by_cases q : p % 2 = 0
  · rw [if_pos q, if_pos q, smn_s _ _ _ _ h0, if_neg (fun z => by rw [hd] at z; exact absurd z.1 (by decide))]
  · rw [if_neg q, if_neg q, smx_s _ _ _ _ h0, if_neg (fun z => by rw [hd] at z; exact absurd z.1 (by decide))]
theorem lv_t {Lf : (Int → Int) → Int} {n : Int} {r : Nat} {a : Int → Int} {p k : Int} (h0 : 0 ≤ k) (h : legal a n k) : lvn Lf n r a p (k + 1) = if p % 2 = 0 then min (lvn Lf n r a p k) (vF Lf n r p a k) else max (lvn Lf n r a p k) (vF Lf n r p a k) := by
  have hd : vL a n k = true := decide_eq_true h
  unfold lvn
  by_cases q : p % 2 = 0
  · rw [if_pos q, if_pos q, if_pos q, smn_s _ _ _ _ h0]
    by_cases z : vF Lf n r p a k < (smn (vL a n) (vF Lf n r p a) (fun t => t) (-9, MAXI) k).2
    · rw [if_pos ⟨hd, z⟩]
      show vF Lf n r p a k = _
      omega
    · rw [if_neg (fun y => z y.2)]
      omega
  · rw [if_neg q, if_neg q, if_neg q, smx_s _ _ _ _ h0]
    by_cases z : (smx (vL a n) (vF Lf n r p a) (fun t => t) (-9, -1) k).2 < vF Lf n r p a k
    · rw [if_pos ⟨hd, z⟩]
      show vF Lf n r p a k = _
      omega
    · rw [if_neg (fun y => z y.2)]
      omega
theorem lv_skip {Lf : (Int → Int) → Int} {n : Int} {r : Nat} {a : Int → Int} {p k m : Int} (h0 : 0 ≤ k) (hm : k ≤ m) (h : ∀ t : Int, k ≤ t → t < m → ¬ legal a n t) : lvn Lf n r a p m = lvn Lf n r a p k := by
  obtain ⟨d, rfl⟩ : ∃ d : Nat, m = k + (d : Int) := ⟨(m - k).toNat, by omega⟩
  induction d with
  | zero => rw [show k + ((0 : Nat) : Int) = k by omega]
  | succ d ih =>
    rw [show k + ((d + 1 : Nat) : Int) = (k + (d : Int)) + 1 by omega, lv_f (by omega) (h _ (by omega) (by omega))]
    exact ih (by omega) (fun t x y => h t x (by omega))
/-- p are put, unlike -/
def gA (a : Int → Int) (n p : Int) : Prop := ((-1 ≤ a 0 ∧ a 0 ≤ 11) ∧ (-1 ≤ a 1 ∧ a 1 ≤ 11) ∧ -1 ≤ a 2 ∧ a 2 ≤ 11) ∧ (if 0 < n ∧ a 0 ≠ -1 then 1 else 0) + (if 1 < n ∧ a 1 ≠ -1 then 1 else 0) + (if 2 < n ∧ a 2 ≠ -1 then 1 else 0) = p ∧ (n ≤ 1 ∨ a 0 = -1 ∨ a 1 = -1 ∨ a 1 ≠ a 0) ∧ (n ≤ 2 ∨ a 0 = -1 ∨ a 2 = -1 ∨ a 2 ≠ a 0) ∧ (n ≤ 2 ∨ a 1 = -1 ∨ a 2 = -1 ∨ a 2 ≠ a 1)
theorem i3 {j : Int} (h0 : 0 ≤ j) (h1 : j < 3) : j = 0 ∨ j = 1 ∨ j = 2 := by omega
theorem gA.r {a : Int → Int} {n p : Int} (h : gA a n p) : ∀ j : Int, 0 ≤ j → j < 3 → -1 ≤ a j ∧ a j ≤ 11 := fun j h0 h1 => by
  have h2 := h.1
  rcases i3 h0 h1 with rfl | rfl | rfl
  · exact h2.1
  · exact h2.2.1
  · exact h2.2.2
theorem gA_0 {a : Int → Int} {n : Int} (h : ∀ j : Int, 0 ≤ j → j < 3 → a j = -1) : gA a n 0 := by
  have h0 := h 0 (by decide) (by decide)
  have h1 := h 1 (by decide) (by decide)
  have h2 := h 2 (by decide) (by decide)
  unfold gA
  rw [if_neg (fun z => z.2 h0), if_neg (fun z => z.2 h1), if_neg (fun z => z.2 h2)]
  omega
theorem gA_eq {a b : Int → Int} {n p : Int} (h : ∀ j : Int, 0 ≤ j → j < 3 → b j = a j) (k : gA a n p) : gA b n p := by
  have h0 := h 0 (by decide) (by decide)
  have h1 := h 1 (by decide) (by decide)
  have h2 := h 2 (by decide) (by decide)
  unfold gA at *
  rw [h0, h1, h2]
  exact k
theorem gA_s {a : Int → Int} {n p t : Int} (h : gA a n p) (hl : legal a n t) (t0 : 0 ≤ t) (t1 : t < 12 * n) (hn : n ≤ 3) : gA (uI a (t / 12) (t % 12)) n (p + 1) := by
  obtain ⟨hl1, hl2⟩ := hl
  obtain ⟨i, hi⟩ : ∃ i : Int, i = t / 12 := ⟨_, rfl⟩
  obtain ⟨c, hc⟩ : ∃ c : Int, c = t % 12 := ⟨_, rfl⟩
  rw [← hi] at hl1 ⊢
  rw [← hc] at hl2 ⊢
  have hcb : 0 ≤ c ∧ c < 12 := by omega
  have hib : 0 ≤ i ∧ i < n := by omega
  clear hi hc t0 t1
  unfold gA at h ⊢
  unfold tkn at hl2
  rcases i3 hib.1 (by omega) with rfl | rfl | rfl
  · have e0 : uI a 0 c 0 = c := uI_s
    have e1 : uI a 0 c 1 = a 1 := uI_n (by decide)
    have e2 : uI a 0 c 2 = a 2 := uI_n (by decide)
    rw [e0, e1, e2]
    rw [if_neg (fun z => z.2 hl1)] at h
    rw [if_pos (show 0 < n ∧ c ≠ -1 by omega)]
    omega
  · have e0 : uI a 1 c 0 = a 0 := uI_n (by decide)
    have e1 : uI a 1 c 1 = c := uI_s
    have e2 : uI a 1 c 2 = a 2 := uI_n (by decide)
    rw [e0, e1, e2]
    rw [if_neg (fun z => z.2 hl1 : ¬ (1 < n ∧ a 1 ≠ -1))] at h
    rw [if_pos (show 1 < n ∧ c ≠ -1 by omega)]
    omega
  · have e0 : uI a 2 c 0 = a 0 := uI_n (by decide)
    have e1 : uI a 2 c 1 = a 1 := uI_n (by decide)
    have e2 : uI a 2 c 2 = c := uI_s
    rw [e0, e1, e2]
    rw [if_neg (fun z => z.2 hl1 : ¬ (2 < n ∧ a 2 ≠ -1))] at h
    rw [if_pos (show 2 < n ∧ c ≠ -1 by omega)]
    omega
/-- all are put -/
theorem gA_n {a : Int → Int} {n : Int} (h : gA a n n) (n0 : 0 ≤ n) (hn : n ≤ 3) : (∀ j : Int, 0 ≤ j → j < n → 0 ≤ a j ∧ a j ≤ 11) ∧ apP a n := by
  unfold gA at h
  have k0 : (0 < n ∧ a 0 ≠ -1) ∨ ¬ (0 < n ∧ a 0 ≠ -1) := Classical.em _
  have k1 : (1 < n ∧ a 1 ≠ -1) ∨ ¬ (1 < n ∧ a 1 ≠ -1) := Classical.em _
  have k2 : (2 < n ∧ a 2 ≠ -1) ∨ ¬ (2 < n ∧ a 2 ≠ -1) := Classical.em _
  have hh : (0 < n → a 0 ≠ -1) ∧ (1 < n → a 1 ≠ -1) ∧ (2 < n → a 2 ≠ -1) := by
    rcases k0 with k0 | k0 <;> rcases k1 with k1 | k1 <;> rcases k2 with k2 | k2 <;> (first | rw [if_pos k0] at h | rw [if_neg k0] at h) <;> (first | rw [if_pos k1] at h | rw [if_neg k1] at h) <;> (first | rw [if_pos k2] at h | rw [if_neg k2] at h) <;> refine ⟨fun x => ?_, fun x => ?_, fun x => ?_⟩ <;> omega
  refine ⟨fun j h0 h1 => ?_, ?_⟩
  · rcases i3 h0 (by omega) with rfl | rfl | rfl
    · have := hh.1 h1; omega
    · have := hh.2.1 h1; omega
    · have := hh.2.2 h1; omega
  · unfold apP
    refine ⟨?_, ?_, ?_⟩
    · by_cases q : n ≤ 1
      · exact Or.inl q
      · have := hh.1 (by omega); have := hh.2.1 (by omega); omega
    · by_cases q : n ≤ 2
      · exact Or.inl q
      · have := hh.1 (by omega); have := hh.2.2 (by omega); omega
    · by_cases q : n ≤ 2
      · exact Or.inl q
      · have := hh.2.1 (by omega); have := hh.2.2 (by omega); omega
theorem gA_free {a : Int → Int} {n p : Int} (h : gA a n p) (hp : p < n) (n0 : 0 ≤ n) (hn : n ≤ 3) : ∃ i : Int, (0 ≤ i ∧ i < n) ∧ a i = -1 := by
  by_cases q0 : 0 < n ∧ a 0 = -1
  · exact ⟨0, ⟨by decide, q0.1⟩, q0.2⟩
  · by_cases q1 : 1 < n ∧ a 1 = -1
    · exact ⟨1, ⟨by decide, q1.1⟩, q1.2⟩
    · by_cases q2 : 2 < n ∧ a 2 = -1
      · exact ⟨2, ⟨by decide, q2.1⟩, q2.2⟩
      · exfalso
        have h2 := h.2.1
        have k0 : (0 < n ∧ a 0 ≠ -1) ∨ ¬ (0 < n ∧ a 0 ≠ -1) := Classical.em _
        have k1 : (1 < n ∧ a 1 ≠ -1) ∨ ¬ (1 < n ∧ a 1 ≠ -1) := Classical.em _
        have k2 : (2 < n ∧ a 2 ≠ -1) ∨ ¬ (2 < n ∧ a 2 ≠ -1) := Classical.em _
        rcases k0 with k0 | k0 <;> rcases k1 with k1 | k1 <;> rcases k2 with k2 | k2 <;> (first | rw [if_pos k0] at h2 | rw [if_neg k0] at h2) <;> (first | rw [if_pos k1] at h2 | rw [if_neg k1] at h2) <;> (first | rw [if_pos k2] at h2 | rw [if_neg k2] at h2) <;> omega
theorem tkn_free {a : Int → Int} {n p i : Int} (h : gA a n p) (hi : 0 ≤ i ∧ i < n) (hn : n ≤ 3) (ha : a i = -1) : ∃ c : Int, (0 ≤ c ∧ c < 12) ∧ ¬ tkn a n c := by
  by_cases q0 : tkn a n 0
  · by_cases q1 : tkn a n 1
    · by_cases q2 : tkn a n 2
      · exfalso
        unfold tkn at q0 q1 q2
        rcases i3 hi.1 (by omega) with rfl | rfl | rfl <;> omega
      · exact ⟨2, by decide, q2⟩
    · exact ⟨1, by decide, q1⟩
  · exact ⟨0, by decide, q0⟩
theorem legal_some {a : Int → Int} {n p : Int} (h : gA a n p) (hp : p < n) (n0 : 0 ≤ n) (hn : n ≤ 3) : ∃ t : Int, (0 ≤ t ∧ t < 12 * n) ∧ legal a n t := by
  obtain ⟨i, hi, ha⟩ := gA_free h hp n0 hn
  obtain ⟨c, hc, ht⟩ := tkn_free h hi hn ha
  refine ⟨12 * i + c, by omega, ?_, ?_⟩
  · rw [show (12 * i + c) / 12 = i by omega]; exact ha
  · rw [show (12 * i + c) % 12 = c by omega]; exact ht
theorem smn_lb {ok : Int → Bool} {f v : Int → Int} {s : Int × Int} {lo : Int} (hs : lo ≤ s.2) : ∀ n : Nat, (∀ t : Int, 0 ≤ t → t < n → ok t = true → lo ≤ f t) → lo ≤ (smnN ok f v s n).2
  | 0, _ => hs
  | n + 1, h => by
    have ih := smn_lb (v := v) hs n (fun t a b => h t a (by omega))
    show lo ≤ (if ok (n : Int) = true ∧ f (n : Int) < (smnN ok f v s n).2 then (v (n : Int), f (n : Int)) else smnN ok f v s n).2
    by_cases q : ok (n : Int) = true ∧ f (n : Int) < (smnN ok f v s n).2
    · rw [if_pos q]; exact h (n : Int) (by omega) (by omega) q.1
    · rw [if_neg q]; exact ih
theorem smx_ub {ok : Int → Bool} {f v : Int → Int} {s : Int × Int} {hi : Int} (hs : s.2 ≤ hi) : ∀ n : Nat, (∀ t : Int, 0 ≤ t → t < n → ok t = true → f t ≤ hi) → (smxN ok f v s n).2 ≤ hi
  | 0, _ => hs
  | n + 1, h => by
    have ih := smx_ub (v := v) hs n (fun t a b => h t a (by omega))
    show (if ok (n : Int) = true ∧ (smxN ok f v s n).2 < f (n : Int) then (v (n : Int), f (n : Int)) else smxN ok f v s n).2 ≤ hi
    by_cases q : ok (n : Int) = true ∧ (smxN ok f v s n).2 < f (n : Int)
    · rw [if_pos q]; exact h (n : Int) (by omega) (by omega) q.1
    · rw [if_neg q]; exact ih
theorem smx_lb {ok : Int → Bool} {f v : Int → Int} {s : Int × Int} : ∀ n : Nat, s.2 ≤ (smxN ok f v s n).2
  | 0 => Int.le_refl _
  | n + 1 => by
    have ih := smx_lb (ok := ok) (f := f) (v := v) (s := s) n
    show s.2 ≤ (if ok (n : Int) = true ∧ (smxN ok f v s n).2 < f (n : Int) then (v (n : Int), f (n : Int)) else smxN ok f v s n).2
    by_cases q : ok (n : Int) = true ∧ (smxN ok f v s n).2 < f (n : Int)
    · rw [if_pos q]; exact Int.le_trans ih (Int.le_of_lt q.2)
    · rw [if_neg q]; exact ih
theorem smn_ub {ok : Int → Bool} {f v : Int → Int} {s : Int × Int} : ∀ n : Nat, (smnN ok f v s n).2 ≤ s.2
  | 0 => Int.le_refl _
  | n + 1 => by
    have ih := smn_ub (ok := ok) (f := f) (v := v) (s := s) n
    show (if ok (n : Int) = true ∧ f (n : Int) < (smnN ok f v s n).2 then (v (n : Int), f (n : Int)) else smnN ok f v s n).2 ≤ s.2
    by_cases q : ok (n : Int) = true ∧ f (n : Int) < (smnN ok f v s n).2
    · rw [if_pos q]; exact Int.le_trans (Int.le_of_lt q.2) ih
    · rw [if_neg q]; exact ih
abbrev okL (Lf : (Int → Int) → Int) : Prop := ∀ a : Int → Int, 0 ≤ Lf a ∧ Lf a ≤ 3000
theorem val_rng {Lf : (Int → Int) → Int} (hL : okL Lf) {n : Int} (n0 : 0 ≤ n) (hn : n ≤ 3) : ∀ (r : Nat) (p : Int) (a : Int → Int), gA a n (n - r) → 0 ≤ val Lf n r p a ∧ val Lf n r p a ≤ 3000
  | 0, _, a, _ => hL a
  | r + 1, p, a, h => by
    have hF : ∀ t : Int, 0 ≤ t → t < 12 * n → vL a n t = true → 0 ≤ vF Lf n r p a t ∧ vF Lf n r p a t ≤ 3000 := fun t t0 t1 ht => by
      refine val_rng hL n0 hn r (p + 1) _ ?_
      have k := gA_s h (of_decide_eq_true ht) t0 t1 hn
      rw [show n - ((r + 1 : Nat) : Int) + 1 = n - (r : Int) by omega] at k
      exact k
    obtain ⟨t, ht, hl⟩ := legal_some h (by omega) n0 hn
    have hd : vL a n t = true := decide_eq_true hl
    have ht2 := hF t ht.1 ht.2 hd
    rw [val_lv]
    unfold lvn
    by_cases q : p % 2 = 0
    · rw [if_pos q]
      have u := smn_bnd (ok := vL a n) (f := vF Lf n r p a) (v := fun t => t) (s := (-9, MAXI)) ht.1 hd ht.2
      have l := smn_lb (ok := vL a n) (f := vF Lf n r p a) (v := fun t => t) (s := (-9, MAXI)) (lo := 0) (by decide) (12 * n).toNat (fun t a b c => (hF t a (by omega) c).1)
      exact ⟨l, Int.le_trans u ht2.2⟩
    · rw [if_neg q]
      have u := smx_bnd (ok := vL a n) (f := vF Lf n r p a) (v := fun t => t) (s := (-9, -1)) ht.1 hd ht.2
      have l := smx_ub (ok := vL a n) (f := vF Lf n r p a) (v := fun t => t) (s := (-9, -1)) (hi := 3000) (by decide) (12 * n).toNat (fun t a b c => (hF t a (by omega) c).2)
      exact ⟨Int.le_trans ht2.1 u, l⟩
theorem vF_rng {Lf : (Int → Int) → Int} (hL : okL Lf) {n : Int} (n0 : 0 ≤ n) (hn : n ≤ 3) {r : Nat} {p : Int} {a : Int → Int} (h : gA a n (n - r - 1)) {t : Int} (t0 : 0 ≤ t) (t1 : t < 12 * n) (ht : legal a n t) : 0 ≤ vF Lf n r p a t ∧ vF Lf n r p a t ≤ 3000 := by
  refine val_rng hL n0 hn r (p + 1) _ ?_
  have k := gA_s h ht t0 t1 hn
  rw [show n - (r : Int) - 1 + 1 = n - (r : Int) by omega] at k
  exact k
theorem lvn_bd {Lf : (Int → Int) → Int} (hL : okL Lf) {n : Int} (n0 : 0 ≤ n) (hn : n ≤ 3) {r : Nat} {p : Int} {a : Int → Int} (h : gA a n (n - r - 1)) {k : Int} (hk : k ≤ 12 * n) : (p % 2 = 0 → 0 ≤ lvn Lf n r a p k ∧ lvn Lf n r a p k ≤ 2147483647) ∧ (¬ p % 2 = 0 → -1 ≤ lvn Lf n r a p k ∧ lvn Lf n r a p k ≤ 3000) := by
  have hF : ∀ t : Int, 0 ≤ t → t < k.toNat → vL a n t = true → 0 ≤ vF Lf n r p a t ∧ vF Lf n r p a t ≤ 3000 := fun t t0 t1 ht => vF_rng hL n0 hn h t0 (by omega) (of_decide_eq_true ht)
  unfold lvn
  refine ⟨fun q => ?_, fun q => ?_⟩
  · rw [if_pos q]
    exact ⟨smn_lb (ok := vL a n) (f := vF Lf n r p a) (v := fun t => t) (s := (-9, MAXI)) (lo := 0) (by decide) k.toNat (fun t a b c => (hF t a b c).1), smn_ub (ok := vL a n) (f := vF Lf n r p a) (v := fun t => t) (s := (-9, MAXI)) k.toNat⟩
  · rw [if_neg q]
    exact ⟨smx_lb (ok := vL a n) (f := vF Lf n r p a) (v := fun t => t) (s := (-9, -1)) k.toNat, smx_ub (ok := vL a n) (f := vF Lf n r p a) (v := fun t => t) (s := (-9, -1)) (hi := 3000) (by decide) k.toNat (fun t a b c => (hF t a b c).2)⟩
/-- what was tried, as an assignment -/
def adN (T : Int → Int) : Nat → Int → Int
  | 0 => fun _ => -1
  | k + 1 => uI (adN T k) (T (k : Int) / 12) (T (k : Int) % 12)
def adI (T : Int → Int) (d : Int) : Int → Int := adN T d.toNat
theorem ad_0 (T : Int → Int) : adI T 0 = fun _ => -1 := rfl
theorem ad_s (T : Int → Int) {d : Int} (h : 0 ≤ d) : adI T (d + 1) = uI (adI T d) (T d / 12) (T d % 12) := by
  unfold adI
  rw [show (d + 1).toNat = d.toNat + 1 by omega]
  show uI (adN T d.toNat) (T ((d.toNat : Nat) : Int) / 12) (T ((d.toNat : Nat) : Int) % 12) = _
  rw [Int.toNat_of_nonneg h]
theorem ad_eqN {T S : Int → Int} : ∀ d : Nat, (∀ e : Int, 0 ≤ e → e < d → T e = S e) → adN T d = adN S d
  | 0, _ => rfl
  | d + 1, h => by
    have ih := ad_eqN d (fun e a b => h e a (by omega))
    show uI (adN T d) (T (d : Int) / 12) (T (d : Int) % 12) = uI (adN S d) (S (d : Int) / 12) (S (d : Int) % 12)
    rw [ih, h (d : Int) (by omega) (by omega)]
theorem ad_eq {T S : Int → Int} {d : Int} (h : ∀ e : Int, 0 ≤ e → e < d → T e = S e) : adI T d = adI S d := ad_eqN d.toNat (fun e a b => h e a (by omega))
theorem ad_u (T : Int → Int) {d e : Int} (x : Int) (h : e ≤ d) : adI (uI T d x) e = adI T e := ad_eq (fun j _ b => uI_n (by omega))
/-- all below d are good -/
def lgT (T : Int → Int) (n d : Int) : Prop := ∀ e : Int, 0 ≤ e → e < d → (0 ≤ T e ∧ T e < 12 * n) ∧ legal (adI T e) n (T e)
theorem lgT_gA {T : Int → Int} {n d : Int} (h : lgT T n d) (d0 : 0 ≤ d) (hn : n ≤ 3) : gA (adI T d) n d := by
  obtain ⟨k, rfl⟩ : ∃ k : Nat, d = (k : Int) := ⟨d.toNat, by omega⟩
  induction k with
  | zero => exact gA_0 (fun _ _ _ => rfl)
  | succ k ih =>
    rw [show ((k + 1 : Nat) : Int) = (k : Int) + 1 by omega] at h ⊢
    rw [ad_s T (by omega)]
    have q := h (k : Int) (by omega) (by omega)
    exact gA_s (ih (fun e a b => h e a (by omega)) (by omega)) q.2 q.1.1 q.1.2 hn
theorem lgT_eq {T S : Int → Int} {n d : Int} (h : lgT T n d) (e : ∀ j : Int, 0 ≤ j → j < d → S j = T j) : lgT S n d := fun j a b => by
  have q := h j a b
  rw [e j a b, ad_eq (T := S) (S := T) (fun i x y => e i x (by omega))]
  exact q
theorem lg_s {a : Int → Int} {n i c t : Int} (hi : 0 ≤ i ∧ i < n) (hn : n ≤ 3) (ha : a i = -1) (hc : 0 ≤ c ∧ c < 12) : legal (uI a i c) n t ↔ legal a n t ∧ i ≠ t / 12 ∧ c ≠ t % 12 := by
  have hx : 0 ≤ t % 12 ∧ t % 12 < 12 := by omega
  obtain ⟨x, hx2⟩ : ∃ x : Int, x = t % 12 := ⟨_, rfl⟩
  obtain ⟨y, hy2⟩ : ∃ y : Int, y = t / 12 := ⟨_, rfl⟩
  unfold legal
  rw [← hx2, ← hy2]
  rw [← hx2] at hx
  clear hx2 hy2
  have key : tkn (uI a i c) n x ↔ tkn a n x ∨ c = x := by
    rcases i3 hi.1 (by omega) with rfl | rfl | rfl
    · have e0 : uI a 0 c 0 = c := uI_s
      have e1 : uI a 0 c 1 = a 1 := uI_n (by decide)
      have e2 : uI a 0 c 2 = a 2 := uI_n (by decide)
      unfold tkn
      rw [e0, e1, e2]
      omega
    · have e0 : uI a 1 c 0 = a 0 := uI_n (by decide)
      have e1 : uI a 1 c 1 = c := uI_s
      have e2 : uI a 1 c 2 = a 2 := uI_n (by decide)
      unfold tkn
      rw [e0, e1, e2]
      omega
    · have e0 : uI a 2 c 0 = a 0 := uI_n (by decide)
      have e1 : uI a 2 c 1 = a 1 := uI_n (by decide)
      have e2 : uI a 2 c 2 = c := uI_s
      unfold tkn
      rw [e0, e1, e2]
      omega
  rw [key]
  by_cases q : y = i
  · rw [q, uI_s]
    constructor
    · intro z; have := z.1; omega
    · intro z; exact absurd rfl z.2.1
  · rw [uI_n q]
    constructor
    · intro z; exact ⟨⟨z.1, fun w => z.2 (Or.inl w)⟩, fun w => q w.symm, fun w => z.2 (Or.inr w)⟩
    · intro z; exact ⟨z.1.1, fun w => w.elim z.1.2 z.2.2⟩
theorem tkn_no {a : Int → Int} {n c : Int} (h : ¬ tkn a n c) (hn : n ≤ 3) : ∀ j : Int, 0 ≤ j → j < n → a j ≠ c := fun j h0 h1 h2 => h (tkn_y h0 h1 hn h2)
def un (e x : Int) : Int := if e % 2 = 0 ∧ x = MAXI then -1 else x
def lvW (Lf : (Int → Int) → Int) (n : Int) (T Wt : Int → Int) (e k : Int) : Prop := Wt e = un e (lvn Lf n (n - e - 1).toNat (adI T e) e k)
def pr0 (Lf : (Int → Int) → Int) (n k : Int) : Int × Int := smn (vL (fun _ => -1) n) (vF Lf n (n - 0 - 1).toNat 0 (fun _ => -1)) (fun t => t) (-9, MAXI) k
/-- in the middle of trying: every level has come to its own place -/
def JI (Lf : (Int → Int) → Int) (n : Int) (T Wt : Int → Int) (ft d : Int) : Prop := (0 ≤ d ∧ d < n) ∧ (∀ e : Int, 0 ≤ e → e ≤ d → (0 ≤ T e ∧ T e ≤ 12 * n) ∧ lvW Lf n T Wt e (T e)) ∧ lgT T n d ∧ ft = (pr0 Lf n (T 0)).1
def J (Lf : (Int → Int) → Int) (n : Int) (T Wt : Int → Int) (ft d : Int) : Prop := (d = -1 ∧ lvW Lf n T Wt 0 (12 * n) ∧ ft = (pr0 Lf n (12 * n)).1) ∨ (0 ≤ d ∧ JI Lf n (uI T d (T d + 1)) Wt ft d)
theorem un_lv0 (Lf : (Int → Int) → Int) (n : Int) (r : Nat) (a : Int → Int) (e : Int) : un e (lvn Lf n r a e 0) = -1 := by
  rw [lv_0]
  unfold un
  by_cases q : e % 2 = 0
  · rw [if_pos q, if_pos ⟨q, rfl⟩]
  · rw [if_neg q, if_neg (fun z => q z.1)]
theorem J_0 (Lf : (Int → Int) → Int) {n : Int} (hn : 1 ≤ n) {T Wt : Int → Int} (hT : T 0 = -1) (hW : Wt 0 = -1) : J Lf n T Wt (-9) 0 := by
  refine Or.inr ⟨Int.le_refl _, ⟨Int.le_refl _, by omega⟩, fun e a b => ?_, fun e a b => absurd b (by omega), ?_⟩
  · have he : e = 0 := by omega
    subst he
    rw [uI_s, hT]
    refine ⟨by omega, ?_⟩
    unfold lvW
    rw [hW]
    exact (un_lv0 _ _ _ _ _).symm
  · rw [uI_s, hT]; rfl
theorem lvW_T {Lf : (Int → Int) → Int} {n : Int} {T S Wt : Int → Int} {e k : Int} (h : lvW Lf n T Wt e k) (he : ∀ j : Int, 0 ≤ j → j < e → S j = T j) : lvW Lf n S Wt e k := by
  unfold lvW at *
  rw [ad_eq (T := S) (S := T) he]
  exact h
theorem JI_skip {Lf : (Int → Int) → Int} {n : Int} {T Wt : Int → Int} {ft d : Int} (h : JI Lf n T Wt ft d) (hl : ¬ legal (adI T d) n (T d)) (ht : T d < 12 * n) : JI Lf n (uI T d (T d + 1)) Wt ft d := by
  obtain ⟨h1, h2, h3, h4⟩ := h
  refine ⟨h1, fun e a b => ?_, lgT_eq h3 (fun j _ y => uI_n (by omega)), ?_⟩
  · have q := h2 e a b
    by_cases r : e = d
    · subst r
      rw [uI_s]
      refine ⟨by omega, lvW_T (T := T) ?_ (fun j _ y => uI_n (by omega))⟩
      unfold lvW
      rw [lv_f q.1.1 hl]
      exact q.2
    · rw [uI_n r]
      exact ⟨q.1, lvW_T q.2 (fun j _ y => uI_n (by omega))⟩
  · by_cases r : d = 0
    · subst r
      rw [uI_s, h4]
      have hd : vL (fun _ => -1) n (T 0) = false := decide_eq_false hl
      unfold pr0
      rw [smn_s _ _ _ _ (h2 0 (Int.le_refl _) (Int.le_refl _)).1.1, if_neg (fun z => by rw [hd] at z; exact absurd z.1 (by decide))]
    · rw [uI_n (show (0 : Int) ≠ d from fun z => r z.symm)]
      exact h4
theorem JI_down {Lf : (Int → Int) → Int} {n : Int} {T Wt : Int → Int} {ft d : Int} (h : JI Lf n T Wt ft d) (hd : 1 ≤ d) : JI Lf n T Wt ft (d - 1) := by
  obtain ⟨h1, h2, h3, h4⟩ := h
  exact ⟨⟨by omega, by omega⟩, fun e a b => h2 e a (by omega), fun e a b => h3 e a (by omega), h4⟩
abbrev btr (d v x : Int) : Prop := x = -1 ∨ (d % 2 = 0 ∧ v < x) ∨ (¬ d % 2 = 0 ∧ x < v)
def tkW (Wt : Int → Int) (d v : Int) : Int → Int := if btr d v (Wt d) then uI Wt d v else Wt
def tkF (T Wt : Int → Int) (ft d v : Int) : Int := if btr d v (Wt d) ∧ d = 0 then T 0 else ft
/-- one that was tried is taken into account -/
theorem J_take {Lf : (Int → Int) → Int} (hL : okL Lf) {n : Int} (hn : n ≤ 3) {T Wt : Int → Int} {ft d : Int} (h : JI Lf n T Wt ft d) (ht : T d < 12 * n) (hl : legal (adI T d) n (T d)) {v : Int} (hv : v = vF Lf n (n - d - 1).toNat d (adI T d) (T d)) : J Lf n T (tkW Wt d v) (tkF T Wt ft d v) d ∧ 0 ≤ v ∧ v ≤ 3000 := by
  obtain ⟨h1, h2, h3, h4⟩ := h
  have hg := lgT_gA h3 h1.1 hn
  have hq := h2 d h1.1 (Int.le_refl _)
  have hgr : gA (adI T d) n (n - ((n - d - 1).toNat : Int) - 1) := by rw [show n - ((n - d - 1).toNat : Int) - 1 = d by omega]; exact hg
  have hvr := vF_rng hL (by omega) hn (p := d) hgr hq.1.1 ht hl
  rw [← hv] at hvr
  have hlb := lvn_bd hL (by omega) hn (p := d) hgr hq.1.2
  have hlt := lv_t (Lf := Lf) (r := (n - d - 1).toNat) (p := d) hq.1.1 hl
  rw [← hv] at hlt
  have hw : Wt d = un d (lvn Lf n (n - d - 1).toNat (adI T d) d (T d)) := hq.2
  have hm : MAXI = 2147483647 := rfl
  refine ⟨Or.inr ⟨h1.1, h1, fun e a b => ?_, lgT_eq h3 (fun j _ y => uI_n (by omega)), ?_⟩, hvr⟩
  · by_cases r : e = d
    · subst r
      rw [uI_s]
      refine ⟨by omega, lvW_T (T := T) ?_ (fun j _ y => uI_n (by omega))⟩
      unfold lvW
      rw [hlt]
      obtain ⟨x, hx⟩ : ∃ x : Int, x = lvn Lf n (n - e - 1).toNat (adI T e) e (T e) := ⟨_, rfl⟩
      rw [← hx] at hlb hw ⊢
      clear hx hlt hv
      unfold tkW
      unfold un at hw ⊢
      by_cases q : e % 2 = 0
      · rw [if_pos q]
        have hlb := hlb.1 q
        by_cases z : x = MAXI
        · rw [if_pos ⟨q, z⟩] at hw
          rw [if_pos (Or.inl hw), uI_s, if_neg (by omega)]
          omega
        · rw [if_neg (fun y => z y.2)] at hw
          by_cases y : v < x
          · rw [if_pos (Or.inr (Or.inl ⟨q, by omega⟩)), uI_s, if_neg (by omega)]
            omega
          · rw [if_neg (by omega), if_neg (by omega)]
            omega
      · rw [if_neg q]
        have hlb := hlb.2 q
        rw [if_neg (fun y => q y.1)] at hw
        rw [if_neg (show ¬ (e % 2 = 0 ∧ max x v = MAXI) from fun y => q y.1)]
        by_cases y : x < v
        · rw [if_pos (show btr e v (Wt e) from Or.inr (Or.inr ⟨q, by omega⟩)), uI_s]
          omega
        · rw [if_neg (show ¬ btr e v (Wt e) by omega)]
          omega
    · have k := h2 e a b
      rw [uI_n r]
      refine ⟨k.1, ?_⟩
      have e1 : tkW Wt d v e = Wt e := by
        unfold tkW
        split
        · exact uI_n r
        · rfl
      unfold lvW
      rw [e1, ad_eq (T := uI T d (T d + 1)) (S := T) (fun j _ y => uI_n (by omega))]
      exact k.2
  · by_cases r : d = 0
    · subst r
      rw [uI_s]
      have hd : vL (fun _ => -1) n (T 0) = true := decide_eq_true hl
      have hp : pr0 Lf n (T 0 + 1) = if vL (fun _ => -1) n (T 0) = true ∧ vF Lf n (n - 0 - 1).toNat 0 (fun _ => -1) (T 0) < (pr0 Lf n (T 0)).2 then (T 0, vF Lf n (n - 0 - 1).toNat 0 (fun _ => -1) (T 0)) else pr0 Lf n (T 0) := smn_s _ _ _ _ hq.1.1
      have hv2 : v = vF Lf n (n - 0 - 1).toNat 0 (fun _ => -1) (T 0) := hv
      have hx2 : lvn Lf n (n - 0 - 1).toNat (adI T 0) 0 (T 0) = (pr0 Lf n (T 0)).2 := by
        unfold lvn
        exact (if_pos (by decide)).trans rfl
      have hlb := hlb.1 rfl
      rw [hx2] at hw hlb
      rw [← hv2] at hp
      rw [hp]
      clear hp hx2 hlt hv hv2
      unfold tkF
      unfold un at hw
      by_cases z : (pr0 Lf n (T 0)).2 = MAXI
      · rw [if_pos ⟨rfl, z⟩] at hw
        rw [if_pos ⟨Or.inl hw, rfl⟩, if_pos ⟨hd, by omega⟩]
      · rw [if_neg (fun y => z y.2)] at hw
        by_cases y : v < (pr0 Lf n (T 0)).2
        · rw [if_pos ⟨Or.inr (Or.inl ⟨rfl, by omega⟩), rfl⟩, if_pos ⟨hd, y⟩]
        · rw [if_neg (fun k => by have := k.1; omega), if_neg (fun k => y k.2)]
          exact h4
    · rw [uI_n (show (0 : Int) ≠ d from fun z => r z.symm)]
      unfold tkF
      rw [if_neg (fun k => r k.2)]
      exact h4
/-- a level come to its end, told to the one above -/
theorem J_pop {Lf : (Int → Int) → Int} (hL : okL Lf) {n : Int} (hn : n ≤ 3) {T Wt : Int → Int} {ft d : Int} (h : JI Lf n T Wt ft d) (ht : T d = 12 * n) (hd : 1 ≤ d) : J Lf n T (tkW Wt (d - 1) (Wt d)) (tkF T Wt ft (d - 1) (Wt d)) (d - 1) ∧ 0 ≤ Wt d ∧ Wt d ≤ 3000 := by
  have hq := (h.2.1 d (by omega) (Int.le_refl _)).2
  have hk := h.2.2.1 (d - 1) (by omega) (by omega)
  refine J_take hL hn (JI_down h hd) hk.1.2 hk.2 ?_
  have hg := lgT_gA h.2.2.1 h.1.1 hn
  have e1 : vF Lf n (n - (d - 1) - 1).toNat (d - 1) (adI T (d - 1)) (T (d - 1)) = val Lf n ((n - d - 1).toNat + 1) d (adI T d) := by
    unfold vF
    rw [show d - 1 + 1 = d by omega, show (n - (d - 1) - 1).toNat = (n - d - 1).toNat + 1 by have := h.1; omega]
    have e := ad_s T (d := d - 1) (by omega)
    rw [show d - 1 + 1 = d by omega] at e
    rw [e]
  have hb := val_rng hL (by have := h.1; omega) hn ((n - d - 1).toNat + 1) d (adI T d) (by rw [show n - (((n - d - 1).toNat + 1 : Nat) : Int) = d by have := h.1; omega]; exact hg)
  rw [e1]
  unfold lvW at hq
  rw [val_lv] at hb ⊢
  rw [ht] at hq
  rw [hq]
  unfold un
  have hm : MAXI = 2147483647 := rfl
  exact if_neg (by omega)
theorem J_end {Lf : (Int → Int) → Int} {n : Int} {T Wt : Int → Int} {ft : Int} (h : JI Lf n T Wt ft 0) (ht : T 0 = 12 * n) : J Lf n T Wt ft (-1) := by
  have q := (h.2.1 0 (Int.le_refl _) (Int.le_refl _)).2
  have r := h.2.2.2
  rw [ht] at q r
  exact Or.inl ⟨rfl, q, r⟩
theorem J_push {Lf : (Int → Int) → Int} {n : Int} {T Wt : Int → Int} {ft d : Int} (h : JI Lf n T Wt ft d) (ht : T d < 12 * n) (hl : legal (adI T d) n (T d)) (hd : d + 1 < n) : J Lf n (uI T (d + 1) (-1)) (uI Wt (d + 1) (-1)) ft (d + 1) := by
  obtain ⟨h1, h2, h3, h4⟩ := h
  have eT : ∀ j : Int, j ≤ d → uI (uI T (d + 1) (-1)) (d + 1) (uI T (d + 1) (-1) (d + 1) + 1) j = T j := fun j y => by rw [uI_n (by omega), uI_n (by omega)]
  refine Or.inr ⟨by omega, ⟨by omega, hd⟩, fun e a b => ?_, fun e a b => ?_, ?_⟩
  · by_cases r : e = d + 1
    · subst r
      rw [uI_s, uI_s]
      refine ⟨by omega, ?_⟩
      unfold lvW
      rw [uI_s]
      exact (un_lv0 _ _ _ _ _).symm
    · rw [eT e (by omega)]
      have k := h2 e a (by omega)
      refine ⟨k.1, lvW_T (T := T) ?_ (fun j _ y => eT j (by omega))⟩
      unfold lvW
      rw [uI_n r]
      exact k.2
  · rw [eT e (by omega), ad_eq (S := T) (fun j _ y => eT j (by omega))]
    by_cases r : e = d
    · rw [r]
      exact ⟨⟨(h2 d h1.1 (Int.le_refl _)).1.1, ht⟩, hl⟩
    · exact h3 e a (by omega)
  · rw [eT 0 h1.1]
    exact h4
/-- what falls -/
def msr (T : Int → Int) (d : Int) : Int := if d < 0 then 0 else if d = 0 then 10000 * (40 - T 0) else if d = 1 then 10000 * (40 - T 0) + 100 * (40 - T 1) else 10000 * (40 - T 0) + 100 * (40 - T 1) + (40 - T 2)
theorem J_rng {Lf : (Int → Int) → Int} {n : Int} {T Wt : Int → Int} {ft d : Int} (h : J Lf n T Wt ft d) (hd : 0 ≤ d) : JI Lf n (uI T d (T d + 1)) Wt ft d ∧ (-1 ≤ T d ∧ T d < 12 * n) ∧ (∀ e : Int, 0 ≤ e → e < d → 0 ≤ T e ∧ T e < 12 * n) := by
  rcases h with h | h
  · omega
  · have q := h.2.2.1 d hd (Int.le_refl _)
    rw [uI_s] at q
    refine ⟨h.2, by omega, fun e a b => ?_⟩
    have k := (h.2.2.2.1 e a b).1
    rw [uI_n (by omega)] at k
    exact k
theorem ms_pos {T : Int → Int} {n d : Int} (hd : 0 ≤ d ∧ d < n) (hn : n ≤ 3) (h1 : -1 ≤ T d ∧ T d < 12 * n) (h2 : ∀ e : Int, 0 ≤ e → e < d → 0 ≤ T e ∧ T e < 12 * n) : 0 < msr T d := by
  unfold msr
  rcases i3 hd.1 (by omega) with rfl | rfl | rfl
  · rw [if_neg (by decide), if_pos rfl]; omega
  · have := h2 0 (by decide) (by decide)
    rw [if_neg (by decide), if_neg (by decide), if_pos rfl]; omega
  · have := h2 0 (by decide) (by decide)
    have := h2 1 (by decide) (by decide)
    rw [if_neg (by decide), if_neg (by decide), if_neg (by decide)]; omega
/-- the next head: one level up, the same, one down -/
theorem ms_up {T S : Int → Int} {n d : Int} (hd : 0 ≤ d ∧ d < n) (hn : n ≤ 3) (h1 : -1 ≤ T d ∧ T d < 12 * n) (h2 : ∀ e : Int, 0 ≤ e → e < d → 0 ≤ T e ∧ T e < 12 * n) (hS : ∀ e : Int, e ≠ d → S e = T e) : (msr S (d - 1)).toNat < (msr T d).toNat := by
  have hp := ms_pos hd hn h1 h2
  have k : msr S (d - 1) < msr T d := by
    unfold msr
    rcases i3 hd.1 (by omega) with rfl | rfl | rfl
    · rw [if_pos (by decide), if_neg (by decide), if_pos rfl]; omega
    · have e0 := hS 0 (by decide)
      rw [if_neg (by decide), if_pos (by decide), if_neg (by decide), if_neg (by decide), if_pos rfl, e0]; omega
    · have e0 := hS 0 (by decide)
      have e1 := hS 1 (by decide)
      rw [if_neg (by decide), if_neg (by decide), if_pos (by decide), if_neg (by decide), if_neg (by decide), if_neg (by decide), e0, e1]; omega
  omega
theorem ms_eq {T S : Int → Int} {n d : Int} (hd : 0 ≤ d ∧ d < n) (hn : n ≤ 3) (h1 : -1 ≤ T d ∧ T d < 12 * n) (h2 : ∀ e : Int, 0 ≤ e → e < d → 0 ≤ T e ∧ T e < 12 * n) (hS : ∀ e : Int, e ≠ d → S e = T e) (hl : T d < S d) : (msr S d).toNat < (msr T d).toNat := by
  have hp := ms_pos hd hn h1 h2
  have k : msr S d < msr T d := by
    unfold msr
    rcases i3 hd.1 (by omega) with rfl | rfl | rfl
    · rw [if_neg (by decide), if_pos rfl, if_neg (by decide), if_pos rfl]; omega
    · have e0 := hS 0 (by decide)
      rw [if_neg (by decide), if_neg (by decide), if_pos rfl, if_neg (by decide), if_neg (by decide), if_pos rfl, e0]; omega
    · have e0 := hS 0 (by decide)
      have e1 := hS 1 (by decide)
      rw [if_neg (by decide), if_neg (by decide), if_neg (by decide), if_neg (by decide), if_neg (by decide), if_neg (by decide), e0, e1]; omega
  omega
theorem ms_dn {T S : Int → Int} {n d : Int} (hd : 0 ≤ d ∧ d + 1 < n) (hn : n ≤ 3) (h1 : -1 ≤ T d ∧ T d < 12 * n) (h2 : ∀ e : Int, 0 ≤ e → e < d → 0 ≤ T e ∧ T e < 12 * n) (hS : ∀ e : Int, e ≠ d → S e = T e) (hl : T d < S d) : (msr (uI S (d + 1) (-1)) (d + 1)).toNat < (msr T d).toNat := by
  have hp := ms_pos ⟨hd.1, by omega⟩ hn h1 h2
  have hd2 : d = 0 ∨ d = 1 := by omega
  have k : msr (uI S (d + 1) (-1)) (d + 1) < msr T d := by
    unfold msr
    rcases hd2 with rfl | rfl
    · have a0 : uI S (0 + 1) (-1) 0 = S 0 := uI_n (by decide)
      have a1 : uI S (0 + 1) (-1) 1 = -1 := uI_s
      rw [if_neg (by decide), if_neg (by decide), if_pos (by decide), if_neg (by decide), if_pos rfl, a0, a1]; omega
    · have e0 := hS 0 (by decide)
      have a0 : uI S (1 + 1) (-1) 0 = S 0 := uI_n (by decide)
      have a1 : uI S (1 + 1) (-1) 1 = S 1 := uI_n (by decide)
      have a2 : uI S (1 + 1) (-1) 2 = -1 := uI_s
      rw [if_neg (by decide), if_neg (by decide), if_neg (by decide), if_neg (by decide), if_neg (by decide), if_pos rfl, a0, a1, a2, e0]; omega
  omega
/-- the class's way of it -/
theorem smn_map {ok : Int → Bool} {f : Int → Int} {g : Int → Int} {x y : Int} : ∀ n : Nat, (smnN ok f g (x, MAXI) n).2 = (smnN ok f (fun t => t) (y, MAXI) n).2 ∧ ((smnN ok f (fun t => t) (y, MAXI) n).2 = MAXI ∨ (smnN ok f g (x, MAXI) n).1 = g (smnN ok f (fun t => t) (y, MAXI) n).1)
  | 0 => ⟨rfl, Or.inl rfl⟩
  | n + 1 => by
    have ih := smn_map (ok := ok) (f := f) (g := g) (x := x) (y := y) n
    have e1 : smnN ok f g (x, MAXI) (n + 1) = if ok (n : Int) = true ∧ f (n : Int) < (smnN ok f g (x, MAXI) n).2 then (g (n : Int), f (n : Int)) else smnN ok f g (x, MAXI) n := rfl
    have e2 : smnN ok f (fun t => t) (y, MAXI) (n + 1) = if ok (n : Int) = true ∧ f (n : Int) < (smnN ok f (fun t => t) (y, MAXI) n).2 then ((n : Int), f (n : Int)) else smnN ok f (fun t => t) (y, MAXI) n := rfl
    by_cases q : ok (n : Int) = true ∧ f (n : Int) < (smnN ok f (fun t => t) (y, MAXI) n).2
    · rw [if_pos q] at e2
      rw [if_pos (by rw [ih.1]; exact q)] at e1
      rw [e1, e2]
      exact ⟨rfl, Or.inr rfl⟩
    · rw [if_neg q] at e2
      rw [if_neg (by rw [ih.1]; exact q)] at e1
      rw [e1, e2]
      exact ih
theorem pr0_in {Lf : (Int → Int) → Int} (hL : okL Lf) {n : Int} (n0 : 1 ≤ n) (hn : n ≤ 3) : (0 ≤ (pr0 Lf n (12 * n)).2 ∧ (pr0 Lf n (12 * n)).2 ≤ 3000) ∧ 0 ≤ (pr0 Lf n (12 * n)).1 ∧ (pr0 Lf n (12 * n)).1 < 12 * n := by
  have hb := val_rng hL (by omega) hn (n - 0 - 1 + 1).toNat 0 (fun _ => -1) (by rw [show n - ((n - 0 - 1 + 1).toNat : Int) = 0 by omega]; exact gA_0 (fun _ _ _ => rfl))
  rw [show (n - 0 - 1 + 1).toNat = (n - 0 - 1).toNat + 1 by omega, val_lv] at hb
  have e : lvn Lf n (n - 0 - 1).toNat (fun _ => -1) 0 (12 * n) = (pr0 Lf n (12 * n)).2 := by
    unfold lvn
    exact (if_pos (by decide)).trans rfl
  rw [e] at hb
  refine ⟨hb, ?_⟩
  have key : ∀ k : Nat, (smnN (vL (fun _ => -1) n) (vF Lf n (n - 0 - 1).toNat 0 (fun _ => -1)) (fun t => t) (-9, MAXI) k).2 = MAXI ∨ (0 ≤ (smnN (vL (fun _ => -1) n) (vF Lf n (n - 0 - 1).toNat 0 (fun _ => -1)) (fun t => t) (-9, MAXI) k).1 ∧ (smnN (vL (fun _ => -1) n) (vF Lf n (n - 0 - 1).toNat 0 (fun _ => -1)) (fun t => t) (-9, MAXI) k).1 < k) := by
    intro k
    induction k with
    | zero => exact Or.inl rfl
    | succ k ih =>
      have e2 : smnN (vL (fun _ => -1) n) (vF Lf n (n - 0 - 1).toNat 0 (fun _ => -1)) (fun t => t) (-9, MAXI) (k + 1) = if vL (fun _ => -1) n (k : Int) = true ∧ vF Lf n (n - 0 - 1).toNat 0 (fun _ => -1) (k : Int) < (smnN (vL (fun _ => -1) n) (vF Lf n (n - 0 - 1).toNat 0 (fun _ => -1)) (fun t => t) (-9, MAXI) k).2 then ((k : Int), vF Lf n (n - 0 - 1).toNat 0 (fun _ => -1) (k : Int)) else smnN (vL (fun _ => -1) n) (vF Lf n (n - 0 - 1).toNat 0 (fun _ => -1)) (fun t => t) (-9, MAXI) k := rfl
      by_cases q : vL (fun _ => -1) n (k : Int) = true ∧ vF Lf n (n - 0 - 1).toNat 0 (fun _ => -1) (k : Int) < (smnN (vL (fun _ => -1) n) (vF Lf n (n - 0 - 1).toNat 0 (fun _ => -1)) (fun t => t) (-9, MAXI) k).2
      · rw [if_pos q] at e2
        rw [e2]
        exact Or.inr ⟨by show 0 ≤ (k : Int); omega, by show (k : Int) < ((k + 1 : Nat) : Int); omega⟩
      · rw [if_neg q] at e2
        rw [e2]
        rcases ih with ih | ih
        · exact Or.inl ih
        · exact Or.inr ⟨ih.1, by have := ih.2; omega⟩
  have hm : MAXI = 2147483647 := rfl
  rcases key (12 * n).toNat with k | k
  · have k2 : (pr0 Lf n (12 * n)).2 = MAXI := k
    omega
  · have k2 : 0 ≤ (pr0 Lf n (12 * n)).1 ∧ (pr0 Lf n (12 * n)).1 < ((12 * n).toNat : Int) := k
    omega
def qTurns (C : Cl) (pk pf pa u : Int → Int) (N w : Int) : Int := if ¬ (0 ≤ w ∧ w ≤ 1) then -2 else if 3 < frc u N then -3 else if frc u N = 0 then -9 else if w = 0 then (pr0 (leaf C pk pf pa (frP u N) (frc u N)) (frc u N) (12 * frc u N)).2 else 100 * frP u N ((pr0 (leaf C pk pf pa (frP u N) (frc u N)) (frc u N) (12 * frc u N)).1 / 12) + (pr0 (leaf C pk pf pa (frP u N) (frc u N)) (frc u N) (12 * frc u N)).1 % 12
theorem leaf_fr (C : Cl) (pk pf pa : Int → Int) {fr gr : Int → Int} {n : Int} (h : ∀ i : Int, 0 ≤ i → i < n → fr i = gr i) : leaf C pk pf pa fr n = leaf C pk pf pa gr n := funext (fun a => by show allPull _ = allPull _; rw [asC_eq C pk pf pa h])
theorem JI_w32 {Lf : (Int → Int) → Int} (hL : okL Lf) {n : Int} (hn : n ≤ 3) {T Wt : Int → Int} {ft d : Int} (h : JI Lf n T Wt ft d) : ∀ e : Int, 0 ≤ e → e ≤ d → In32 (Wt e) := fun e e0 e1 => by
  have hg := lgT_gA (d := e) (fun j a b => h.2.2.1 j a (by omega)) e0 hn
  have hq := h.2.1 e e0 e1
  have h1 := h.1
  have hgr : gA (adI T e) n (n - ((n - e - 1).toNat : Int) - 1) := by rw [show n - ((n - e - 1).toNat : Int) - 1 = e by omega]; exact hg
  have hlb := lvn_bd hL (by omega) hn (p := e) hgr hq.1.2
  have hw : Wt e = un e (lvn Lf n (n - e - 1).toNat (adI T e) e (T e)) := hq.2
  obtain ⟨x, hx⟩ : ∃ x : Int, x = lvn Lf n (n - e - 1).toNat (adI T e) e (T e) := ⟨_, rfl⟩
  rw [← hx] at hlb hw
  clear hx hq hgr hg
  unfold un at hw
  by_cases q : e % 2 = 0
  · have k := hlb.1 q
    by_cases z : x = MAXI
    · rw [if_pos ⟨q, z⟩] at hw; omega
    · rw [if_neg (fun y => z y.2)] at hw; omega
  · have k := hlb.2 q
    rw [if_neg (fun y => q y.1)] at hw
    omega
theorem lgT_s {T : Int → Int} {n d : Int} (h : lgT T n d) (h1 : 0 ≤ T d ∧ T d < 12 * n) (h2 : legal (adI T d) n (T d)) : lgT T n (d + 1) := fun e a b => by
  by_cases q : e = d
  · rw [q]; exact ⟨h1, h2⟩
  · exact h e a (by omega)
theorem J_fin {Lf : (Int → Int) → Int} (hL : okL Lf) {n : Int} (n0 : 1 ≤ n) (hn : n ≤ 3) {T Wt : Int → Int} {ft d : Int} (h : J Lf n T Wt ft d) (hd : d < 0) : Wt 0 = (pr0 Lf n (12 * n)).2 ∧ ft = (pr0 Lf n (12 * n)).1 := by
  rcases h with ⟨_, h1, h2⟩ | h
  · refine ⟨?_, h2⟩
    have hp := (pr0_in hL n0 hn).1
    have e : lvn Lf n (n - 0 - 1).toNat (adI T 0) 0 (12 * n) = (pr0 Lf n (12 * n)).2 := by
      unfold lvn
      exact (if_pos (by decide)).trans rfl
    have h1 : Wt 0 = un 0 (lvn Lf n (n - 0 - 1).toNat (adI T 0) 0 (12 * n)) := h1
    rw [e] at h1
    rw [h1]
    have hm : MAXI = 2147483647 := rfl
    unfold un
    exact if_neg (fun z => by have := z.2; omega)
  · omega
theorem smx_cg {ok ok2 : Int → Bool} {f f2 v : Int → Int} {s : Int × Int} : ∀ n : Nat, (∀ k : Int, 0 ≤ k → k < n → ok k = ok2 k ∧ (ok k = true → f k = f2 k)) → smxN ok f v s n = smxN ok2 f2 v s n
  | 0, _ => rfl
  | n + 1, h => by
    have ih := smx_cg (v := v) (s := s) n (fun k a b => h k a (by omega))
    have q := h (n : Int) (by omega) (by omega)
    show (if ok (n : Int) = true ∧ (smxN ok f v s n).2 < f (n : Int) then (v (n : Int), f (n : Int)) else smxN ok f v s n) = if ok2 (n : Int) = true ∧ (smxN ok2 f2 v s n).2 < f2 (n : Int) then (v (n : Int), f2 (n : Int)) else smxN ok2 f2 v s n
    rw [← ih, ← q.1]
    by_cases r : ok (n : Int) = true
    · rw [q.2 r]
    · rw [if_neg (fun z => r z.1), if_neg (fun z => r z.1)]
theorem val_eq {Lf : (Int → Int) → Int} (hc : ∀ a b : Int → Int, (∀ j : Int, 0 ≤ j → j < 3 → a j = b j) → Lf a = Lf b) {n : Int} (hn : n ≤ 3) : ∀ (r : Nat) (p : Int) (a b : Int → Int), (∀ j : Int, 0 ≤ j → j < 3 → a j = b j) → val Lf n r p a = val Lf n r p b
  | 0, _, a, b, h => hc a b h
  | r + 1, p, a, b, h => by
    have key : ∀ k : Int, 0 ≤ k → k < ((12 * n).toNat : Int) → vL a n k = vL b n k ∧ (vL a n k = true → vF Lf n r p a k = vF Lf n r p b k) := fun k k0 k1 => by
      have hk := h (k / 12) (by omega) (by omega)
      have ht := tkn_eq (n := n) (c := k % 12) (fun j x y => h j x (by omega))
      have hl : legal a n k ↔ legal b n k := by
        unfold legal
        rw [hk]
        exact ⟨fun z => ⟨z.1, fun w => z.2 (ht.mpr w)⟩, fun z => ⟨z.1, fun w => z.2 (ht.mp w)⟩⟩
      refine ⟨?_, fun _ => ?_⟩
      · unfold vL
        by_cases q : legal a n k
        · rw [decide_eq_true q, decide_eq_true (hl.mp q)]
        · rw [decide_eq_false q, decide_eq_false (fun z => q (hl.mpr z))]
      · refine val_eq hc hn r (p + 1) _ _ (fun j x y => ?_)
        unfold uI
        split
        · rfl
        · exact h j x y
    rw [val_lv, val_lv]
    unfold lvn smn smx
    by_cases q : p % 2 = 0
    · rw [if_pos q, if_pos q, smn_cg _ key]
    · rw [if_neg q, if_neg q, smx_cg _ key]
