/-! WAYS: the pieces not used, put on unlike cells -/
theorem frc_0 (u : Int → Int) : frc u 0 = 0 := rfl
theorem fl_in (f u : Int → Int) : ∀ (n : Nat) (i : Int), 0 ≤ i → i < frc u (n : Int) → (0 ≤ flA f u (n : Int) i ∧ flA f u (n : Int) i < n) ∧ u (flA f u (n : Int) i) = 0 ∧ frc u (flA f u (n : Int) i) = i
  | 0, i, h0, h1 => absurd h1 (by show ¬ i < (0 : Int); omega)
  | n + 1, i, h0, h1 => by
    have e : ((n + 1 : Nat) : Int) = (n : Int) + 1 := by omega
    have ih := fl_in f u n i h0
    rw [e] at h1 ⊢
    rw [frc_s u (show 0 ≤ (n : Int) by omega)] at h1
    rw [flA_s f u (show 0 ≤ (n : Int) by omega)]
    by_cases q : u (n : Int) = 0
    · have e1 : fr1 u (n : Int) = 1 := if_pos q
      rw [if_pos q]
      by_cases r : i = frc u (n : Int)
      · rw [r, uI_s]
        exact ⟨⟨by omega, by omega⟩, q, rfl⟩
      · rw [uI_n r]
        have k := ih (by omega)
        exact ⟨⟨k.1.1, by omega⟩, k.2.1, k.2.2⟩
    · have e1 : fr1 u (n : Int) = 0 := if_neg q
      rw [if_neg q]
      have k := ih (by omega)
      exact ⟨⟨k.1.1, by omega⟩, k.2.1, k.2.2⟩
theorem frc_mono (u : Int → Int) {a b : Int} (h0 : 0 ≤ a) (h : a ≤ b) : frc u a ≤ frc u b := by
  obtain ⟨d, rfl⟩ : ∃ d : Nat, b = a + (d : Int) := ⟨(b - a).toNat, by omega⟩
  induction d with
  | zero => rw [show a + ((0 : Nat) : Int) = a by omega]; omega
  | succ d ih =>
    have ih := ih (by omega)
    rw [show a + ((d + 1 : Nat) : Int) = (a + (d : Int)) + 1 by omega, frc_s u (by omega)]
    have : 0 ≤ fr1 u (a + (d : Int)) := by unfold fr1; split <;> omega
    omega
theorem fl_at (f u : Int → Int) : ∀ (n : Nat) (p : Int), 0 ≤ p → p < n → u p = 0 → flA f u (n : Int) (frc u p) = p ∧ frc u p < frc u (n : Int)
  | 0, p, h0, h1, _ => absurd h1 (by omega)
  | n + 1, p, h0, h1, hu => by
    have e : ((n + 1 : Nat) : Int) = (n : Int) + 1 := by omega
    rw [e, flA_s f u (show 0 ≤ (n : Int) by omega), frc_s u (show 0 ≤ (n : Int) by omega)]
    have h01 : 0 ≤ fr1 u (n : Int) := by unfold fr1; split <;> omega
    by_cases r : p = (n : Int)
    · rw [r] at hu ⊢
      have e1 : fr1 u (n : Int) = 1 := if_pos hu
      rw [if_pos hu, uI_s]
      exact ⟨rfl, by omega⟩
    · have ih := fl_at f u n p h0 (by omega) hu
      refine ⟨?_, by omega⟩
      by_cases q : u (n : Int) = 0
      · rw [if_pos q, uI_n (by omega)]; exact ih.1
      · rw [if_neg q]; exact ih.1
theorem fl_eq (f g u : Int → Int) : ∀ (n : Nat) (i : Int), 0 ≤ i → i < frc u (n : Int) → flA f u (n : Int) i = flA g u (n : Int) i := by
  intro n i h0 h1
  have a := fl_in f u n i h0 h1
  have b := fl_at g u n (flA f u (n : Int) i) a.1.1 a.1.2 a.2.1
  rw [a.2.2] at b
  exact b.1.symm
def frP (u : Int → Int) (n : Int) : Int → Int := flA (fun _ => 0) u n
/-- a list of the free ones: what is needed of it -/
def isFr (fr u : Int → Int) (N : Int) : Prop := (∀ i : Int, 0 ≤ i → i < frc u N → (0 ≤ fr i ∧ fr i < N) ∧ u (fr i) = 0 ∧ frc u (fr i) = i) ∧ ∀ p : Int, 0 ≤ p → p < N → u p = 0 → fr (frc u p) = p ∧ frc u p < frc u N
theorem isFr_fl (f u : Int → Int) {N : Int} (h : 0 ≤ N) : isFr (flA f u N) u N := by
  obtain ⟨n, rfl⟩ : ∃ n : Nat, N = (n : Int) := ⟨N.toNat, by omega⟩
  exact ⟨fl_in f u n, fl_at f u n⟩
theorem isFr_eq {fr gr u : Int → Int} {N : Int} (h : isFr fr u N) (k : isFr gr u N) : ∀ i : Int, 0 ≤ i → i < frc u N → fr i = gr i := fun i a b => by
  have q := h.1 i a b
  have r := k.2 (fr i) q.1.1 q.1.2 q.2.1
  rw [q.2.2] at r
  exact r.1.symm
/-- which piece lies on a cell -/
def sel (a : Int → Int) (n x : Int) : Int := if 0 < n ∧ 0 ≤ a 0 ∧ a 0 = x then 0 else if 1 < n ∧ 0 ≤ a 1 ∧ a 1 = x then 1 else if 2 < n ∧ 0 ≤ a 2 ∧ a 2 = x then 2 else -1
def asC (C : Cl) (pk pf pa fr a : Int → Int) (n : Int) : Cl := (fun x => if sel a n x < 0 then ki C x else pk (fr (sel a n x)), fun x => if sel a n x < 0 then fi C x else pf (fr (sel a n x)), fun x => if sel a n x < 0 then ag C x else pa (fr (sel a n x)), fun x => if sel a n x < 0 then we C x else 0, yr C)
theorem sel_in (a : Int → Int) (n x : Int) : -1 ≤ sel a n x ∧ sel a n x < 3 ∧ (0 ≤ sel a n x → sel a n x < n) := by
  unfold sel
  repeat' split
  all_goals omega
theorem sel_no {a : Int → Int} {n : Int} (h : ∀ i : Int, 0 ≤ i → i < n → a i < 0) (x : Int) : sel a n x = -1 := by
  unfold sel
  have h0 := h 0 (by omega)
  have h1 := h 1 (by omega)
  have h2 := h 2 (by omega)
  rw [if_neg (fun q => by have := h0 q.1; omega), if_neg (fun q => by have := h1 q.1; omega), if_neg (fun q => by have := h2 q.1; omega)]
theorem asC_no (C : Cl) (pk pf pa fr : Int → Int) {a : Int → Int} {n : Int} (h : ∀ i : Int, 0 ≤ i → i < n → a i < 0) : asC C pk pf pa fr a n = C := by
  have e : ∀ x : Int, sel a n x < 0 := fun x => by rw [sel_no h x]; decide
  unfold asC
  show (_, _, _, _, _) = ((ki C, fi C, ag C, we C, yr C) : Cl)
  congr 1
  · funext x; exact if_pos (e x)
  congr 1
  · funext x; exact if_pos (e x)
  congr 1
  · funext x; exact if_pos (e x)
  congr 1
  funext x; exact if_pos (e x)
theorem asC_eq (C : Cl) (pk pf pa : Int → Int) {fr gr a : Int → Int} {n : Int} (h : ∀ i : Int, 0 ≤ i → i < n → fr i = gr i) : asC C pk pf pa fr a n = asC C pk pf pa gr a n := by
  have e : ∀ x : Int, ¬ sel a n x < 0 → fr (sel a n x) = gr (sel a n x) := fun x q => h _ (by omega) ((sel_in a n x).2.2 (by omega))
  unfold asC
  congr 1
  · funext x
    by_cases q : sel a n x < 0
    · rw [if_pos q, if_pos q]
    · rw [if_neg q, if_neg q, e x q]
  congr 1
  · funext x
    by_cases q : sel a n x < 0
    · rw [if_pos q, if_pos q]
    · rw [if_neg q, if_neg q, e x q]
  congr 1
  funext x
  by_cases q : sel a n x < 0
  · rw [if_pos q, if_pos q]
  · rw [if_neg q, if_neg q, e x q]
theorem sel_eq {a b : Int → Int} {n : Int} (h : ∀ i : Int, 0 ≤ i → i < n → a i = b i) (x : Int) : sel a n x = sel b n x := by
  have h0 := h 0 (by omega)
  have h1 := h 1 (by omega)
  have h2 := h 2 (by omega)
  unfold sel
  repeat' split
  all_goals omega
theorem asC_at (C : Cl) (pk pf pa fr : Int → Int) {a b : Int → Int} {n : Int} (h : ∀ i : Int, 0 ≤ i → i < n → a i = b i) : asC C pk pf pa fr a n = asC C pk pf pa fr b n := by
  have e : sel a n = sel b n := funext (sel_eq h)
  unfold asC
  rw [e]
theorem sel_put {a : Int → Int} {n i c : Int} (hi : 0 ≤ i ∧ i < n) (hn : n ≤ 3) (ha : a i < 0) (hc : 0 ≤ c) (hd : ∀ j : Int, 0 ≤ j → j < n → a j ≠ c) (x : Int) : sel (uI a i c) n x = if x = c then i else sel a n x := by
  have d0 := hd 0 (by omega)
  have d1 := hd 1 (by omega)
  have d2 := hd 2 (by omega)
  have hi3 : i = 0 ∨ i = 1 ∨ i = 2 := by omega
  rcases hi3 with rfl | rfl | rfl
  · have e0 : uI a 0 c 0 = c := uI_s
    have e1 : uI a 0 c 1 = a 1 := uI_n (by decide)
    have e2 : uI a 0 c 2 = a 2 := uI_n (by decide)
    unfold sel
    rw [e0, e1, e2]
    (repeat' split) <;> omega
  · have e0 : uI a 1 c 0 = a 0 := uI_n (by decide)
    have e1 : uI a 1 c 1 = c := uI_s
    have e2 : uI a 1 c 2 = a 2 := uI_n (by decide)
    unfold sel
    rw [e0, e1, e2]
    (repeat' split) <;> omega
  · have e0 : uI a 2 c 0 = a 0 := uI_n (by decide)
    have e1 : uI a 2 c 1 = a 1 := uI_n (by decide)
    have e2 : uI a 2 c 2 = c := uI_s
    unfold sel
    rw [e0, e1, e2]
    (repeat' split) <;> omega
theorem asC_put (C : Cl) (pk pf pa fr : Int → Int) {a : Int → Int} {n i c : Int} (hi : 0 ≤ i ∧ i < n) (hn : n ≤ 3) (ha : a i < 0) (hc : 0 ≤ c) (hd : ∀ j : Int, 0 ≤ j → j < n → a j ≠ c) : make (asC C pk pf pa fr a n) c (pk (fr i)) (pf (fr i)) (pa (fr i)) = asC C pk pf pa fr (uI a i c) n := by
  have key : ∀ (f p : Int → Int) (x : Int), uI (fun x => if sel a n x < 0 then f x else p (fr (sel a n x))) c (p (fr i)) x = if sel (uI a i c) n x < 0 then f x else p (fr (sel (uI a i c) n x)) := fun f p x => by
    rw [sel_put hi hn ha hc hd x]
    by_cases q : x = c
    · rw [q, uI_s, if_pos rfl, if_neg (by omega)]
    · rw [uI_n q, if_neg q]
  unfold asC make
  congr 1
  · funext x; exact key (ki C) pk x
  congr 1
  · funext x; exact key (fi C) pf x
  congr 1
  · funext x; exact key (ag C) pa x
  congr 1
  funext x
  exact key (we C) (fun _ => 0) x
theorem asC_ok {C : Cl} (ok : okC C) {pk pf pa fr a : Int → Int} {n : Int} (h : ∀ i : Int, 0 ≤ i → i < n → (0 ≤ pk (fr i) ∧ pk (fr i) ≤ 5) ∧ (0 ≤ pf (fr i) ∧ pf (fr i) ≤ 9) ∧ 0 ≤ pa (fr i) ∧ pa (fr i) ≤ 99) : okC (asC C pk pf pa fr a n) := by
  refine okC.mk (fun j a0 b0 => ?_) (fun j a0 b0 => ?_) (fun j a0 b0 => ?_) (fun j a0 b0 => ?_) ok.2
  · show 0 ≤ (if sel a n j < 0 then ki C j else pk (fr (sel a n j))) ∧ (if sel a n j < 0 then ki C j else pk (fr (sel a n j))) ≤ 5
    by_cases q : sel a n j < 0
    · rw [if_pos q]; exact ok.k j a0 b0
    · rw [if_neg q]; exact (h _ (by omega) ((sel_in a n j).2.2 (by omega))).1
  · show 0 ≤ (if sel a n j < 0 then fi C j else pf (fr (sel a n j))) ∧ (if sel a n j < 0 then fi C j else pf (fr (sel a n j))) ≤ 9
    by_cases q : sel a n j < 0
    · rw [if_pos q]; exact ok.f j a0 b0
    · rw [if_neg q]; exact (h _ (by omega) ((sel_in a n j).2.2 (by omega))).2.1
  · show 0 ≤ (if sel a n j < 0 then ag C j else pa (fr (sel a n j))) ∧ (if sel a n j < 0 then ag C j else pa (fr (sel a n j))) ≤ 99
    by_cases q : sel a n j < 0
    · rw [if_pos q]; exact ok.a j a0 b0
    · rw [if_neg q]; exact (h _ (by omega) ((sel_in a n j).2.2 (by omega))).2.2
  · show 0 ≤ (if sel a n j < 0 then we C j else 0) ∧ (if sel a n j < 0 then we C j else 0) ≤ 99
    by_cases q : sel a n j < 0
    · rw [if_pos q]; exact ok.w j a0 b0
    · rw [if_neg q]; decide
/-- all unlike: as far as the places i, j -/
def apQ (a : Int → Int) (i j : Int) : Prop := ((i < 1 ∨ (i = 1 ∧ j ≤ 0)) ∨ a 1 ≠ a 0) ∧ ((i < 2 ∨ (i = 2 ∧ j ≤ 0)) ∨ a 2 ≠ a 0) ∧ ((i < 2 ∨ (i = 2 ∧ j ≤ 1)) ∨ a 2 ≠ a 1)
abbrev apP (a : Int → Int) (n : Int) : Prop := (n ≤ 1 ∨ a 1 ≠ a 0) ∧ (n ≤ 2 ∨ a 2 ≠ a 0) ∧ (n ≤ 2 ∨ a 2 ≠ a 1)
theorem apQ_P (a : Int → Int) (n : Int) : apQ a n 0 ↔ apP a n := by unfold apQ apP; omega
theorem apP_eq {a b : Int → Int} {n : Int} (h : ∀ i : Int, 0 ≤ i → i < n → a i = b i) : apP a n ↔ apP b n := by
  have h0 := h 0 (by omega)
  have h1 := h 1 (by omega)
  have h2 := h 2 (by omega)
  unfold apP
  omega
/-- a way's digits -/
def pwT (j : Int) : Int := if j = 1 then 12 else if j = 2 then 144 else if j = 3 then 1728 else 1
theorem pwT_s {j : Int} (h0 : 0 ≤ j) (h1 : j < 3) : pwT (j + 1) = 12 * pwT j := by
  unfold pwT
  (repeat' split) <;> omega
theorem pwT_bd (j : Int) : 1 ≤ pwT j ∧ pwT j ≤ 1728 := by
  unfold pwT
  (repeat' split) <;> omega
def dgA (n k : Int) : Int → Int := fun i => if 0 ≤ i ∧ i < n then k / pwT (n - 1 - i) % 12 else -1
theorem dg_in {n k i : Int} (h0 : 0 ≤ i) (h1 : i < n) : dgA n k i = k / pwT (n - 1 - i) % 12 := if_pos ⟨h0, h1⟩
theorem dg_bd (n k i : Int) : -1 ≤ dgA n k i ∧ dgA n k i < 12 ∧ (0 ≤ i → i < n → 0 ≤ dgA n k i) := by
  unfold dgA
  split <;> omega
/-- the first i digits -/
def dgU (n k i : Int) : Int → Int := fun j => if j < i then dgA n k j else -1
theorem dgU_s {n k i : Int} (h0 : 0 ≤ i) : uI (dgU n k i) i (dgA n k i) = dgU n k (i + 1) := by
  funext j
  unfold uI dgU
  by_cases q : j = i
  · rw [q, if_pos rfl, if_pos (by omega)]
  · rw [if_neg q]
    by_cases r : j < i
    · rw [if_pos r, if_pos (by omega)]
    · rw [if_neg r, if_neg (by omega)]
theorem dgU_no (n k : Int) (i : Int) (h0 : 0 ≤ i) (_ : i < n) : dgU n k 0 i < 0 := by unfold dgU; rw [if_neg (by omega)]; decide
theorem dgU_all {n k : Int} (i : Int) (_ : 0 ≤ i) (h1 : i < n) : dgU n k n i = dgA n k i := if_pos h1
/-- one more put of a way -/
theorem way_put (C : Cl) (pk pf pa fr : Int → Int) {n k i : Int} (hi : 0 ≤ i ∧ i < n) (hn : n ≤ 3) (ha : apQ (dgA n k) (i + 1) 0) : make (asC C pk pf pa fr (dgU n k i) n) (dgA n k i) (pk (fr i)) (pf (fr i)) (pa (fr i)) = asC C pk pf pa fr (dgU n k (i + 1)) n := by
  rw [asC_put C pk pf pa fr hi hn (by unfold dgU; rw [if_neg (by omega)]; decide) ((dg_bd n k i).2.2 hi.1 hi.2) (fun j a b => ?_), dgU_s hi.1]
  have hb := (dg_bd n k i).2.2 hi.1 hi.2
  unfold dgU
  by_cases q : j < i
  · rw [if_pos q]
    have hc : (i = 1 ∧ j = 0) ∨ (i = 2 ∧ j = 0) ∨ (i = 2 ∧ j = 1) := by omega
    unfold apQ at ha
    rcases hc with ⟨rfl, rfl⟩ | ⟨rfl, rfl⟩ | ⟨rfl, rfl⟩ <;> omega
  · rw [if_neg q]; omega
theorem apQ_mono {a : Int → Int} {i m : Int} (h : apQ a m 0) (hm : i ≤ m) : apQ a i 0 := by
  unfold apQ at *
  omega
abbrev leaf (C : Cl) (pk pf pa fr : Int → Int) (n : Int) (a : Int → Int) : Int := allPull (asC C pk pf pa fr a n)
def sPl (C : Cl) (pk pf pa fr : Int → Int) (n k : Int) : Int × Int := smn (fun k => decide (apP (dgA n k) n)) (fun k => leaf C pk pf pa fr n (dgA n k)) (fun k => k) (0, MAXI) k
theorem sPl_fr (C : Cl) (pk pf pa : Int → Int) {fr gr : Int → Int} {n : Int} (h : ∀ i : Int, 0 ≤ i → i < n → fr i = gr i) (k : Int) : sPl C pk pf pa fr n k = sPl C pk pf pa gr n k := by
  have e : (fun k => leaf C pk pf pa fr n (dgA n k)) = fun k => leaf C pk pf pa gr n (dgA n k) := funext (fun k => by unfold leaf; rw [asC_eq C pk pf pa h])
  unfold sPl
  rw [e]
def qPlaced (C : Cl) (pk pf pa u : Int → Int) (N p : Int) : Int := if ¬ (-1 ≤ p ∧ p < N) then -1 else if 3 < frc u N then -3 else if frc u N = 0 then -9 else if p = -1 then (sPl C pk pf pa (frP u N) (frc u N) (pwT (frc u N))).2 else if u p = 0 then dgA (frc u N) (sPl C pk pf pa (frP u N) (frc u N) (pwT (frc u N))).1 (frc u p) else -9
theorem smn_le {ok : Int → Bool} {f v : Int → Int} {s : Int × Int} {k : Int} (k0 : 0 ≤ k) (hk : ok k = true) : ∀ d : Nat, (smn ok f v s (k + 1 + (d : Int))).2 ≤ f k
  | 0 => by
    rw [show k + 1 + ((0 : Nat) : Int) = k + 1 by omega, smn_s _ _ _ _ k0]
    by_cases q : f k < (smn ok f v s k).2
    · rw [if_pos ⟨hk, q⟩]; exact Int.le_refl _
    · rw [if_neg (fun z => q z.2)]; omega
  | d + 1 => by
    have ih := smn_le (f := f) (v := v) (s := s) k0 hk d
    rw [show k + 1 + ((d + 1 : Nat) : Int) = (k + 1 + (d : Int)) + 1 by omega, smn_s _ _ _ _ (by omega)]
    by_cases q : ok (k + 1 + (d : Int)) = true ∧ f (k + 1 + (d : Int)) < (smn ok f v s (k + 1 + (d : Int))).2
    · rw [if_pos q]
      have := q.2
      show f (k + 1 + (d : Int)) ≤ f k
      omega
    · rw [if_neg q]; exact ih
theorem smx_ge {ok : Int → Bool} {f v : Int → Int} {s : Int × Int} {k : Int} (k0 : 0 ≤ k) (hk : ok k = true) : ∀ d : Nat, f k ≤ (smx ok f v s (k + 1 + (d : Int))).2
  | 0 => by
    rw [show k + 1 + ((0 : Nat) : Int) = k + 1 by omega, smx_s _ _ _ _ k0]
    by_cases q : (smx ok f v s k).2 < f k
    · rw [if_pos ⟨hk, q⟩]; exact Int.le_refl _
    · rw [if_neg (fun z => q z.2)]; omega
  | d + 1 => by
    have ih := smx_ge (f := f) (v := v) (s := s) k0 hk d
    rw [show k + 1 + ((d + 1 : Nat) : Int) = (k + 1 + (d : Int)) + 1 by omega, smx_s _ _ _ _ (by omega)]
    by_cases q : ok (k + 1 + (d : Int)) = true ∧ (smx ok f v s (k + 1 + (d : Int))).2 < f (k + 1 + (d : Int))
    · rw [if_pos q]
      have := q.2
      show f k ≤ f (k + 1 + (d : Int))
      omega
    · rw [if_neg q]; exact ih
theorem smn_bnd {ok : Int → Bool} {f v : Int → Int} {s : Int × Int} {k n : Int} (k0 : 0 ≤ k) (hk : ok k = true) (hn : k < n) : (smn ok f v s n).2 ≤ f k := by
  have h := smn_le (ok := ok) (f := f) (v := v) (s := s) k0 hk (n - k - 1).toNat
  rw [show k + 1 + ((n - k - 1).toNat : Int) = n by omega] at h
  exact h
theorem smx_bnd {ok : Int → Bool} {f v : Int → Int} {s : Int × Int} {k n : Int} (k0 : 0 ≤ k) (hk : ok k = true) (hn : k < n) : f k ≤ (smx ok f v s n).2 := by
  have h := smx_ge (ok := ok) (f := f) (v := v) (s := s) k0 hk (n - k - 1).toNat
  rw [show k + 1 + ((n - k - 1).toNat : Int) = n by omega] at h
  exact h
/-- some way is of unlike cells -/
theorem way_some {n : Int} (h : n = 1 ∨ n = 2 ∨ n = 3) : ∃ k : Int, 0 ≤ k ∧ k < pwT n ∧ apP (dgA n k) n := by
  rcases h with rfl | rfl | rfl
  · exact ⟨0, by decide, by decide, by decide⟩
  · exact ⟨1, by decide, by decide, by decide⟩
  · exact ⟨14, by decide, by decide, by decide⟩
theorem sPl_some {C : Cl} {pk pf pa fr : Int → Int} {n : Int} (h : n = 1 ∨ n = 2 ∨ n = 3) (hb : ∀ a : Int → Int, leaf C pk pf pa fr n a ≤ 3000) : (sPl C pk pf pa fr n (pwT n)).2 ≤ 3000 := by
  obtain ⟨k, k0, k1, k2⟩ := way_some h
  have := smn_bnd (ok := fun k => decide (apP (dgA n k) n)) (f := fun k => leaf C pk pf pa fr n (dgA n k)) (v := fun k => k) (s := (0, MAXI)) k0 (decide_eq_true k2) k1
  have q := hb (dgA n k)
  unfold sPl
  omega
abbrev plI (C : Cl) (pk pf pa fr : Int → Int) (n k l b : Int) (g : Int → Int) : Prop := (l = -1 ∧ sPl C pk pf pa fr n k = (0, MAXI)) ∨ ((0 ≤ l ∧ l ≤ 3000) ∧ sPl C pk pf pa fr n k = (b, l) ∧ ∀ j : Int, 0 ≤ j → j < n → g j = dgA n b j)
theorem pl_n {C : Cl} {pk pf pa fr g : Int → Int} {n k l b : Int} (h : plI C pk pf pa fr n k l b g) (k0 : 0 ≤ k) (hn : ¬ apP (dgA n k) n) : plI C pk pf pa fr n (k + 1) l b g := by
  rcases h with ⟨h1, h2⟩ | ⟨h1, h2, h3⟩
  · exact Or.inl ⟨h1, smn_f h2 k0 (Or.inl (decide_eq_false hn))⟩
  · exact Or.inr ⟨h1, smn_f h2 k0 (Or.inl (decide_eq_false hn)), h3⟩
theorem pl_b {C : Cl} {pk pf pa fr g g2 : Int → Int} {n k l b : Int} (h : plI C pk pf pa fr n k l b g) (k0 : 0 ≤ k) (ha : apP (dgA n k) n) (hb : 0 ≤ leaf C pk pf pa fr n (dgA n k) ∧ leaf C pk pf pa fr n (dgA n k) ≤ 3000) (hl : l < 0 ∨ leaf C pk pf pa fr n (dgA n k) < l) (hg : ∀ j : Int, 0 ≤ j → j < n → g2 j = dgA n k j) : plI C pk pf pa fr n (k + 1) (leaf C pk pf pa fr n (dgA n k)) k g2 := by
  refine Or.inr ⟨hb, ?_, hg⟩
  have hd : (fun k => decide (apP (dgA n k) n)) k = true := decide_eq_true ha
  rcases h with ⟨h1, h2⟩ | ⟨h1, h2, h3⟩
  · exact smn_t h2 k0 hd (by have := hb.2; unfold MAXI; show leaf C pk pf pa fr n (dgA n k) < 2147483647; omega)
  · exact smn_t h2 k0 hd (by show leaf C pk pf pa fr n (dgA n k) < l; omega)
theorem pl_w {C : Cl} {pk pf pa fr g g2 : Int → Int} {n k l b : Int} (h : plI C pk pf pa fr n k l b g) (k0 : 0 ≤ k) (hl0 : 0 ≤ l) (hl : l ≤ leaf C pk pf pa fr n (dgA n k)) (hg : g2 = g) : plI C pk pf pa fr n (k + 1) l b g2 := by
  rcases h with ⟨h1, h2⟩ | ⟨h1, h2, h3⟩
  · omega
  · rw [hg]; exact Or.inr ⟨h1, smn_f h2 k0 (Or.inr hl), h3⟩
theorem pl_end {C : Cl} {pk pf pa fr g : Int → Int} {n k l b : Int} (h : plI C pk pf pa fr n k l b g) (hk : k = pwT n) (hn : n = 1 ∨ n = 2 ∨ n = 3) (hb : ∀ a : Int → Int, leaf C pk pf pa fr n a ≤ 3000) : (0 ≤ l ∧ l ≤ 3000) ∧ sPl C pk pf pa fr n (pwT n) = (b, l) ∧ ∀ j : Int, 0 ≤ j → j < n → g j = dgA n b j := by
  have hs := sPl_some hn hb
  subst hk
  rcases h with ⟨h1, h2⟩ | h
  · rw [h2] at hs; exact absurd hs (by decide)
  · exact h
/-- which cell for a piece -/
abbrev fdI (u g : Int → Int) (p i fd : Int) : Prop := 0 ≤ p → ((u p = 0 ∧ frc u p < i) ∧ fd = g (frc u p)) ∨ (¬ (u p = 0 ∧ frc u p < i) ∧ fd = -9)
theorem fd_t {u g fr : Int → Int} {N p i : Int} (hF : isFr fr u N) (i0 : 0 ≤ i) (i1 : i < frc u N) (he : fr i = p) : fdI u g p (i + 1) (g i) := fun _ => by
  have h := hF.1 i i0 i1
  rw [he] at h
  exact Or.inl ⟨⟨h.2.1, by omega⟩, by rw [h.2.2]⟩
theorem fd_f {u g fr : Int → Int} {N p i fd : Int} (hF : isFr fr u N) (hp : p < N) (h : fdI u g p i fd) (he : ¬ fr i = p) : fdI u g p (i + 1) fd := fun p0 => by
  rcases h p0 with ⟨⟨q1, q2⟩, q3⟩ | ⟨q1, q2⟩
  · exact Or.inl ⟨⟨q1, by omega⟩, q3⟩
  · refine Or.inr ⟨fun z => ?_, q2⟩
    by_cases r : frc u p < i
    · exact q1 ⟨z.1, r⟩
    · have k := (hF.2 p p0 hp z.1).1
      rw [show frc u p = i by omega] at k
      exact he k
theorem fl_stop (f u : Int → Int) {p N : Int} (h0 : 0 ≤ p) (h : p ≤ N) (he : frc u p = frc u N) : flA f u N = flA f u p := by
  obtain ⟨d, rfl⟩ : ∃ d : Nat, N = p + (d : Int) := ⟨(N - p).toNat, by omega⟩
  induction d with
  | zero => rw [show p + ((0 : Nat) : Int) = p by omega]
  | succ d ih =>
    rw [show p + ((d + 1 : Nat) : Int) = (p + (d : Int)) + 1 by omega] at he ⊢
    rw [frc_s u (by omega)] at he
    have m := frc_mono u h0 (show p ≤ p + (d : Int) by omega)
    have z : 0 ≤ fr1 u (p + (d : Int)) := by unfold fr1; split <;> omega
    have hu : ¬ u (p + (d : Int)) = 0 := fun q => by
      have e1 : fr1 u (p + (d : Int)) = 1 := if_pos q
      omega
    rw [flA_s f u (by omega), if_neg hu]
    exact ih (by omega) (by omega)
theorem pw_div {w j : Int} (h : 0 ≤ w) (j0 : 0 ≤ j) (j1 : j < 2) : w / pwT j / 12 = w / pwT (j + 1) := by
  have hj : j = 0 ∨ j = 1 := by omega
  rcases hj with rfl | rfl
  · show w / 1 / 12 = w / 12
    omega
  · show w / 12 / 12 = w / 144
    omega
abbrev tkn (a : Int → Int) (n c : Int) : Prop := (0 < n ∧ a 0 = c) ∨ (1 < n ∧ a 1 = c) ∨ (2 < n ∧ a 2 = c)
def nfr (a : Int → Int) (i c : Int) : Prop := (i ≤ 0 ∨ a 0 ≠ c) ∧ (i ≤ 1 ∨ a 1 ≠ c) ∧ (i ≤ 2 ∨ a 2 ≠ c)
theorem nfr_s {a : Int → Int} {i c : Int} (h : nfr a i c) (i0 : 0 ≤ i) (i1 : i < 3) (hc : a i ≠ c) : nfr a (i + 1) c := by
  have hi : i = 0 ∨ i = 1 ∨ i = 2 := by omega
  unfold nfr at *
  rcases hi with rfl | rfl | rfl <;> omega
theorem nfr_n {a : Int → Int} {n c : Int} (h : nfr a n c) : ¬ tkn a n c := by unfold nfr at h; unfold tkn; omega
theorem tkn_y {a : Int → Int} {n i c : Int} (i0 : 0 ≤ i) (i1 : i < n) (hn : n ≤ 3) (hc : a i = c) : tkn a n c := by
  have hi : i = 0 ∨ i = 1 ∨ i = 2 := by omega
  unfold tkn
  rcases hi with rfl | rfl | rfl <;> omega
theorem tkn_eq {a b : Int → Int} {n c : Int} (h : ∀ i : Int, 0 ≤ i → i < n → a i = b i) : tkn a n c ↔ tkn b n c := by
  have h0 := h 0 (by omega)
  have h1 := h 1 (by omega)
  have h2 := h 2 (by omega)
  unfold tkn
  omega
theorem ap_tk {a : Int → Int} {n k i : Int} (i0 : 0 ≤ i) (i1 : i < n) (hn : n ≤ 3) (h : ∀ j : Int, 0 ≤ j → j < 3 → a j = dgU n k i j) : apQ (dgA n k) (i + 1) 0 ↔ apQ (dgA n k) i 0 ∧ ¬ tkn a n (dgA n k i) := by
  have hb := (dg_bd n k i).2.2 i0 i1
  have h0 := h 0 (by decide) (by decide)
  have h1 := h 1 (by decide) (by decide)
  have h2 := h 2 (by decide) (by decide)
  unfold dgU at h0 h1 h2
  unfold apQ tkn
  have hi : i = 0 ∨ i = 1 ∨ i = 2 := by omega
  rcases hi with rfl | rfl | rfl
  · rw [if_neg (by decide)] at h0 h1 h2
    omega
  · rw [if_pos (by decide)] at h0
    rw [if_neg (by decide)] at h1 h2
    omega
  · rw [if_pos (by decide)] at h0 h1
    rw [if_neg (by decide)] at h2
    omega
def nmN (a : Int → Int) : Nat → Int
  | 0 => 0
  | k + 1 => nmN a k * 12 + max 0 (a (k : Int))
def nmI (a : Int → Int) (n : Int) : Int := nmN a n.toNat
theorem nm_s (a : Int → Int) {i : Int} (h : 0 ≤ i) : nmI a (i + 1) = nmI a i * 12 + max 0 (a i) := by
  unfold nmI
  rw [show (i + 1).toNat = i.toNat + 1 by omega]
  show nmN a i.toNat * 12 + max 0 (a ((i.toNat : Nat) : Int)) = _
  rw [Int.toNat_of_nonneg h]
theorem nm_bd {a : Int → Int} {n : Int} (h : ∀ j : Int, 0 ≤ j → j < 3 → a j ≤ 11) (n0 : 0 ≤ n) (n1 : n ≤ 3) : 0 ≤ nmI a n ∧ nmI a n < pwT n := by
  have h0 := h 0 (by decide) (by decide)
  have h1 := h 1 (by decide) (by decide)
  have h2 := h 2 (by decide) (by decide)
  have e0 : nmI a 0 = 0 := rfl
  have e1 := nm_s a (i := 0) (by decide)
  have e2 := nm_s a (i := 1) (by decide)
  have e3 := nm_s a (i := 2) (by decide)
  have hn : n = 0 ∨ n = 1 ∨ n = 2 ∨ n = 3 := by omega
  have p0 : pwT 0 = 1 := rfl
  have p1 : pwT 1 = 12 := rfl
  have p2 : pwT 2 = 144 := rfl
  have p3 : pwT 3 = 1728 := rfl
  have c1 : (0 : Int) + 1 = 1 := rfl
  have c2 : (1 : Int) + 1 = 2 := rfl
  have c3 : (2 : Int) + 1 = 3 := rfl
  rw [c1] at e1
  rw [c2] at e2
  rw [c3] at e3
  rcases hn with rfl | rfl | rfl | rfl <;> omega
theorem nm_dg {a : Int → Int} {n : Int} (n0 : 0 < n) (n1 : n ≤ 3) (h : ∀ j : Int, 0 ≤ j → j < n → 0 ≤ a j ∧ a j ≤ 11) : ∀ i : Int, 0 ≤ i → i < n → dgA n (nmI a n) i = a i := by
  intro i i0 i1
  have h0 := h 0 (by omega) (by omega)
  have e0 : nmI a 0 = 0 := rfl
  have e1 := nm_s a (i := 0) (by decide)
  have e2 := nm_s a (i := 1) (by decide)
  have e3 := nm_s a (i := 2) (by decide)
  have c1 : (0 : Int) + 1 = 1 := rfl
  have c2 : (1 : Int) + 1 = 2 := rfl
  have c3 : (2 : Int) + 1 = 3 := rfl
  rw [c1] at e1
  rw [c2] at e2
  rw [c3] at e3
  rw [dg_in i0 i1]
  have hn : n = 1 ∨ n = 2 ∨ n = 3 := by omega
  rcases hn with rfl | rfl | rfl
  · have hi : i = 0 := by omega
    subst hi
    show nmI a 1 / 1 % 12 = a 0
    omega
  · have h1 := h 1 (by omega) (by omega)
    have hi : i = 0 ∨ i = 1 := by omega
    rcases hi with rfl | rfl
    · show nmI a 2 / 12 % 12 = a 0
      omega
    · show nmI a 2 / 1 % 12 = a 1
      omega
  · have h1 := h 1 (by omega) (by omega)
    have h2 := h 2 (by omega) (by omega)
    have hi : i = 0 ∨ i = 1 ∨ i = 2 := by omega
    rcases hi with rfl | rfl | rfl
    · show nmI a 3 / 144 % 12 = a 0
      omega
    · show nmI a 3 / 12 % 12 = a 1
      omega
    · show nmI a 3 / 1 % 12 = a 2
      omega
theorem smn_cg {ok ok2 : Int → Bool} {f f2 v : Int → Int} {s : Int × Int} : ∀ n : Nat, (∀ k : Int, 0 ≤ k → k < n → ok k = ok2 k ∧ (ok k = true → f k = f2 k)) → smnN ok f v s n = smnN ok2 f2 v s n
  | 0, _ => rfl
  | n + 1, h => by
    have ih := smn_cg (v := v) (s := s) n (fun k a b => h k a (by omega))
    have q := h (n : Int) (by omega) (by omega)
    show (if ok (n : Int) = true ∧ f (n : Int) < (smnN ok f v s n).2 then (v (n : Int), f (n : Int)) else smnN ok f v s n) = if ok2 (n : Int) = true ∧ f2 (n : Int) < (smnN ok2 f2 v s n).2 then (v (n : Int), f2 (n : Int)) else smnN ok2 f2 v s n
    rw [← ih, ← q.1]
    by_cases r : ok (n : Int) = true
    · rw [q.2 r]
    · rw [if_neg (fun z => r z.1), if_neg (fun z => r z.1)]
theorem smn_at {ok : Int → Bool} {f : Int → Int} : ∀ n : Nat, (smnN ok f (fun k => k) (0, MAXI) n = (0, MAXI)) ∨ ((0 ≤ (smnN ok f (fun k => k) (0, MAXI) n).1 ∧ (smnN ok f (fun k => k) (0, MAXI) n).1 < n) ∧ ok (smnN ok f (fun k => k) (0, MAXI) n).1 = true ∧ (smnN ok f (fun k => k) (0, MAXI) n).2 = f (smnN ok f (fun k => k) (0, MAXI) n).1)
  | 0 => Or.inl rfl
  | n + 1 => by
    have ih := smn_at (ok := ok) (f := f) n
    have e : smnN ok f (fun k => k) (0, MAXI) (n + 1) = if ok (n : Int) = true ∧ f (n : Int) < (smnN ok f (fun k => k) (0, MAXI) n).2 then ((n : Int), f (n : Int)) else smnN ok f (fun k => k) (0, MAXI) n := rfl
    by_cases q : ok (n : Int) = true ∧ f (n : Int) < (smnN ok f (fun k => k) (0, MAXI) n).2
    · rw [if_pos q] at e
      rw [e]
      exact Or.inr ⟨⟨by show 0 ≤ (n : Int); omega, by show (n : Int) < ((n + 1 : Nat) : Int); omega⟩, q.1, rfl⟩
    · rw [if_neg q] at e
      rw [e]
      rcases ih with ih | ih
      · exact Or.inl ih
      · exact Or.inr ⟨⟨ih.1.1, by have := ih.1.2; omega⟩, ih.2⟩
/-- the table of all ways -/
abbrev tabP (C : Cl) (pk pf pa fr : Int → Int) (n : Int) (P : Int → Int) (m : Int) : Prop := ∀ k : Int, 0 ≤ k → k < m → (apP (dgA n k) n ∧ P k = leaf C pk pf pa fr n (dgA n k)) ∨ (¬ apP (dgA n k) n ∧ P k = -1)
theorem tab_s {C : Cl} {pk pf pa fr : Int → Int} {n : Int} {P : Int → Int} {m y : Int} (h : tabP C pk pf pa fr n P m) (hy : (apP (dgA n m) n ∧ y = leaf C pk pf pa fr n (dgA n m)) ∨ (¬ apP (dgA n m) n ∧ y = -1)) : tabP C pk pf pa fr n (uI P m y) (m + 1) := fun k a b => by
  by_cases q : k = m
  · rw [q, uI_s]; exact hy
  · rw [uI_n q]; exact h k a (by omega)
def lwS (P : Int → Int) (k : Int) : Int × Int := smn (fun k => decide (P k ≠ -1)) P (fun k => k) (0, MAXI) k
theorem lw_pl {C : Cl} {pk pf pa fr : Int → Int} {n : Int} {P : Int → Int} (h : tabP C pk pf pa fr n P (pwT n)) (hb : ∀ a : Int → Int, 0 ≤ leaf C pk pf pa fr n a) : lwS P (pwT n) = sPl C pk pf pa fr n (pwT n) := by
  unfold lwS sPl smn
  have hp := pwT_bd n
  refine smn_cg _ (fun k a b => ?_)
  rcases h k a (by omega) with ⟨q1, q2⟩ | ⟨q1, q2⟩
  · have := hb (dgA n k)
    refine ⟨?_, fun _ => q2⟩
    rw [decide_eq_true q1, decide_eq_true (by omega)]
  · refine ⟨?_, fun z => ?_⟩
    · rw [decide_eq_false q1, decide_eq_false (by omega)]
    · have := of_decide_eq_true z
      omega
/-- the roll's free ones, counted by bits -/
def zcN (b : Nat) : Nat → Nat
  | 0 => 0
  | n + 1 => zcN b n + (if b / 2 ^ n % 2 = 0 then 1 else 0)
theorem zc_6 : ∀ n : Nat, n < 7 → ∀ b : Nat, b < 64 → b < 2 ^ n → pcN b + zcN b n = n := by decide +kernel
theorem zc_frc {u : Int → Int} {b : Nat} : ∀ n : Nat, (∀ p : Nat, p < n → u (p : Int) = ((b / 2 ^ p % 2 : Nat) : Int)) → frc u (n : Int) = (zcN b n : Int)
  | 0, _ => rfl
  | n + 1, h => by
    have ih := zc_frc n (fun p hp => h p (by omega))
    have q := h n (by omega)
    rw [show ((n + 1 : Nat) : Int) = (n : Int) + 1 by omega, frc_s u (by omega), ih]
    show (zcN b n : Int) + fr1 u (n : Int) = ((zcN b n + (if b / 2 ^ n % 2 = 0 then 1 else 0) : Nat) : Int)
    unfold fr1
    by_cases r : b / 2 ^ n % 2 = 0
    · rw [if_pos r, if_pos (by omega)]; omega
    · rw [if_neg r, if_neg (by omega)]; omega
theorem free_cnt {R : MS} (okr : okRl R) (hb : R 4 0 < p2 (R 3 0)) : R 3 0 - pcnt (R 4 0) = frc (uR R) (R 3 0) := by
  obtain ⟨⟨⟨n0, n6⟩, b0, b64⟩, _⟩ := okr
  obtain ⟨n, hn⟩ : ∃ n : Nat, R 3 0 = (n : Int) := ⟨(R 3 0).toNat, by omega⟩
  obtain ⟨b, hbb⟩ : ∃ b : Nat, R 4 0 = (b : Int) := ⟨(R 4 0).toNat, by omega⟩
  have e2 : p2 (n : Int) = ((2 ^ n : Nat) : Int) := by unfold p2; rw [Int.toNat_natCast]
  rw [hn, hbb, e2] at hb
  have z := zc_6 n (by omega) b (by omega) (by omega)
  have f := zc_frc (u := uR R) (b := b) n (fun p _ => by
    show R 4 0 / p2 (p : Int) % 2 = _
    rw [hbb]
    unfold p2
    rw [Int.toNat_natCast, Int.natCast_emod, Int.natCast_ediv]
    rfl)
  rw [hn, hbb, f]
  unfold pcnt
  rw [Int.toNat_natCast]
  omega
