/-! ISLANDS: what hangs together -/
abbrev lk (a : Int → Int) (v c w : Int) : Prop := 0 ≤ nb c w ∧ ((a c - a (nb c w)).natAbs : Int) ≤ v
abbrev R12 (c : Int) : Prop := 0 ≤ c ∧ c < 12
/-- c reaches m in so many steps -/
def Bp (a : Int → Int) (v m : Int) : Nat → Int → Prop
  | 0, c => c = m
  | k + 1, c => Bp a v m k c ∨ ∃ w : Int, (0 ≤ w ∧ w < 4) ∧ lk a v c w ∧ Bp a v m k (nb c w)
def conn (a : Int → Int) (v m c : Int) : Prop := Bp a v m 12 c
noncomputable def cnt (P : Int → Prop) : Int := sumI (fun c => @ite _ (P c) (Classical.propDecidable _) 1 0) 12
theorem cnt_f1 {P : Int → Prop} {c : Int} (h : P c) : (@ite Int (P c) (Classical.propDecidable _) 1 0) = 1 := @if_pos _ (Classical.propDecidable _) h _ _ _
theorem cnt_f0 {P : Int → Prop} {c : Int} (h : ¬ P c) : (@ite Int (P c) (Classical.propDecidable _) 1 0) = 0 := @if_neg _ (Classical.propDecidable _) h _ _ _
theorem cnt_01 (P : Int → Prop) (c : Int) : 0 ≤ (@ite Int (P c) (Classical.propDecidable _) 1 0) ∧ (@ite Int (P c) (Classical.propDecidable _) 1 0) ≤ 1 := by
  by_cases h : P c
  · rw [cnt_f1 h]; omega
  · rw [cnt_f0 h]; omega
theorem cnt_le (P : Int → Prop) : 0 ≤ cnt P ∧ cnt P ≤ 12 := by
  have k := sumI_bd (f := fun c => @ite _ (P c) (Classical.propDecidable _) 1 0) (lo := 0) (hi := 1) (n := 12) (by decide) (fun j _ _ => cnt_01 P j)
  unfold cnt
  omega
theorem sumI_lt {f g : Int → Int} (h : ∀ j : Int, 0 ≤ j → f j ≤ g j) {c : Int} (hc : 0 ≤ c) (hl : f c + 1 ≤ g c) : ∀ k : Nat, (c < k → sumI f (k : Int) + 1 ≤ sumI g (k : Int)) ∧ sumI f (k : Int) ≤ sumI g (k : Int)
  | 0 => ⟨fun q => absurd q (by omega), Int.le_refl _⟩
  | k + 1 => by
    have ih := sumI_lt h hc hl k
    have e : ((k + 1 : Nat) : Int) = (k : Int) + 1 := by omega
    rw [e, sumI_s _ (by omega), sumI_s _ (by omega)]
    have h1 := h (k : Int) (by omega)
    refine ⟨fun q => ?_, by omega⟩
    by_cases r : c = (k : Int)
    · subst r; omega
    · have := ih.1 (by omega); omega
theorem cnt_lt {P Q : Int → Prop} (h : ∀ c : Int, P c → Q c) {c : Int} (hc : R12 c) (hq : Q c) (hp : ¬ P c) : cnt P + 1 ≤ cnt Q := by
  refine (sumI_lt (fun j _ => ?_) hc.1 ?_ 12).1 hc.2
  · by_cases q : P j
    · rw [cnt_f1 q, cnt_f1 (h j q)]; omega
    · rw [cnt_f0 q]; exact (cnt_01 Q j).1
  · rw [cnt_f0 hp, cnt_f1 hq]; omega
theorem cnt_1 {P : Int → Prop} {c : Int} (hc : R12 c) (hp : P c) : 1 ≤ cnt P := by
  have h := cnt_lt (P := fun _ => False) (Q := P) (fun _ q => q.elim) hc hp (fun q => q)
  have := (cnt_le (fun _ => False)).1
  omega
theorem cnt_eq {P Q : Int → Prop} (h : ∀ c : Int, R12 c → (P c ↔ Q c)) : cnt P = cnt Q := by
  unfold cnt
  refine sumI_eq (fun j a b => ?_)
  by_cases q : P j
  · rw [cnt_f1 q, cnt_f1 ((h j ⟨a, b⟩).mp q)]
  · rw [cnt_f0 q, cnt_f0 (fun z => q ((h j ⟨a, b⟩).mpr z))]
section
variable {a : Int → Int} {v : Int}
theorem nb_r {c w : Int} (hc : R12 c) (hw : 0 ≤ w ∧ w < 4) (h : 0 ≤ nb c w) : R12 (nb c w) := ⟨h, (nb_in hc.1 hc.2 hw.1 hw.2).2⟩
theorem nb_opN : ∀ c : Nat, c < 12 → ∀ w : Nat, w < 4 → 0 ≤ nb (c : Int) (w : Int) → nb (nb (c : Int) (w : Int)) (3 - (w : Int)) = (c : Int) := by decide +kernel
theorem nb_op {c w : Int} (hc : R12 c) (hw : 0 ≤ w ∧ w < 4) (h : 0 ≤ nb c w) : nb (nb c w) (3 - w) = c := by
  have k := nb_opN c.toNat (by omega) w.toNat (by omega)
  rw [Int.toNat_of_nonneg hc.1, Int.toNat_of_nonneg hw.1] at k
  exact k h
theorem lk_sym {c w : Int} (hc : R12 c) (hw : 0 ≤ w ∧ w < 4) (h : lk a v c w) : lk a v (nb c w) (3 - w) := by
  have e := nb_op hc hw h.1
  unfold lk
  rw [e]
  have := h.2
  exact ⟨hc.1, by omega⟩
theorem Bp_mono {m : Int} : ∀ (d k : Nat) (c : Int), Bp a v m k c → Bp a v m (k + d) c
  | 0, _, _, h => h
  | d + 1, k, c, h => Or.inl (Bp_mono d k c h)
theorem Bp_closed {m : Int} (hm : R12 m) : ∀ c : Int, R12 c → Bp a v m 13 c → Bp a v m 12 c := by
  have key : ∀ k : Nat, (∀ c : Int, R12 c → Bp a v m (k + 1) c → Bp a v m k c) ∨ (k : Int) + 1 ≤ cnt (Bp a v m k) := by
    intro k
    induction k with
    | zero => exact Or.inr (by have := cnt_1 (P := Bp a v m 0) hm rfl; omega)
    | succ k ih =>
      rcases ih with ih | ih
      · refine Or.inl (fun c hc h => ?_)
        rcases h with h | ⟨w, hw, hl, h⟩
        · exact h
        · exact Or.inr ⟨w, hw, hl, ih _ (nb_r hc hw hl.1) h⟩
      · by_cases q : ∀ c : Int, R12 c → Bp a v m (k + 1) c → Bp a v m k c
        · refine Or.inl (fun c hc h => ?_)
          rcases h with h | ⟨w, hw, hl, h⟩
          · exact h
          · exact Or.inr ⟨w, hw, hl, q _ (nb_r hc hw hl.1) h⟩
        · refine Or.inr ?_
          obtain ⟨c, h1⟩ := Classical.not_forall.mp q
          obtain ⟨hc, h2⟩ := Classical.not_imp.mp h1
          obtain ⟨h3, h4⟩ := Classical.not_imp.mp h2
          have := cnt_lt (P := Bp a v m k) (Q := Bp a v m (k + 1)) (fun _ z => Or.inl z) hc h3 h4
          omega
  rcases key 12 with h | h
  · exact h
  · have := (cnt_le (Bp a v m 12)).2
    omega
theorem c_rf (m : Int) : conn a v m m := Bp_mono 12 0 m rfl
theorem c_step {m c w : Int} (hm : R12 m) (hc : R12 c) (hw : 0 ≤ w ∧ w < 4) (hl : lk a v c w) (h : conn a v m (nb c w)) : conn a v m c := Bp_closed hm c hc (Or.inr ⟨w, hw, hl, h⟩)
theorem c_trN {m z : Int} (hz : R12 z) (h : conn a v z m) : ∀ (k : Nat) (c : Int), R12 c → Bp a v m k c → conn a v z c
  | 0, c, _, q => by
    have e : c = m := q
    rw [e]; exact h
  | k + 1, c, hc, q => by
    rcases q with q | ⟨w, hw, hl, q⟩
    · exact c_trN hz h k c hc q
    · exact c_step hz hc hw hl (c_trN hz h k (nb c w) (nb_r hc hw hl.1) q)
theorem c_tr {m z c : Int} (hz : R12 z) (hc : R12 c) (h : conn a v z m) (q : conn a v m c) : conn a v z c := c_trN hz h 12 c hc q
theorem c_symN {m : Int} (hm : R12 m) : ∀ (k : Nat) (c : Int), R12 c → Bp a v m k c → conn a v c m
  | 0, c, _, q => by
    have e : c = m := q
    rw [e]; exact c_rf m
  | k + 1, c, hc, q => by
    rcases q with q | ⟨w, hw, hl, q⟩
    · exact c_symN hm k c hc q
    · have hx := nb_r hc hw hl.1
      have h1 := c_symN hm k (nb c w) hx q
      have h2 : conn a v c (nb c w) := c_step hc hx (show 0 ≤ 3 - w ∧ 3 - w < 4 by omega) (lk_sym hc hw hl) (by rw [nb_op hc hw hl.1]; exact c_rf c)
      exact c_tr hc hm h2 h1
theorem c_sym {m c : Int} (hm : R12 m) (hc : R12 c) (h : conn a v m c) : conn a v c m := c_symN hm 12 c hc h
/-- the reference's rounds -/
def hpI (a : Int → Int) (v k c w : Int) (h : Int → Int) : Prop := (∀ x : Int, R12 x → R12 (h x) ∧ conn a v (h x) x) ∧ (∀ x : Int, R12 x → ∀ m : Int, R12 m → Bp a v m k.toNat x → h x ≤ m) ∧ (∀ x : Int, R12 x → x < c → ∀ m : Int, R12 m → Bp a v m (k.toNat + 1) x → h x ≤ m) ∧ (∀ u : Int, 0 ≤ u → u < w → lk a v c u → ∀ m : Int, R12 m → Bp a v m k.toNat (nb c u) → h c ≤ m)
theorem hp_0 {h : Int → Int} (e : ∀ x : Int, R12 x → h x = x) : hpI a v 0 0 0 h := by
  refine ⟨fun x hx => ?_, fun x hx m _ q => ?_, fun x hx q => absurd q (by have := hx.1; omega), fun u a b => absurd b (by omega)⟩
  · rw [e x hx]; exact ⟨hx, c_rf x⟩
  · have q2 : x = m := q
    rw [e x hx, q2]
    exact Int.le_refl _
theorem hp_w {k c w : Int} {h : Int → Int} (H : hpI a v k c w h) (hc : R12 c) (hw : 0 ≤ w ∧ w < 4) {y : Int} (hy : (lk a v c w ∧ h (nb c w) < h c ∧ y = h (nb c w)) ∨ (¬ (lk a v c w ∧ h (nb c w) < h c) ∧ y = h c)) : hpI a v k c (w + 1) (uI h c y) := by
  obtain ⟨H1, H2, H3, H4⟩ := H
  have hle : y ≤ h c := by rcases hy with ⟨_, b, e⟩ | ⟨_, e⟩ <;> omega
  have hyl : ∀ x : Int, uI h c y x ≤ h x := fun x => by
    by_cases q : x = c
    · rw [q, uI_s]; exact hle
    · rw [uI_n q]; exact Int.le_refl _
  refine ⟨fun x hx => ?_, fun x hx m hm q => ?_, fun x hx hxc m hm q => ?_, fun u u0 u1 hl m hm q => ?_⟩
  · by_cases q : x = c
    · rw [q, uI_s]
      rcases hy with ⟨hl, _, e⟩ | ⟨_, e⟩
      · have hn := H1 _ (nb_r hc hw hl.1)
        rw [e]
        exact ⟨hn.1, c_step hn.1 hc hw hl hn.2⟩
      · rw [e]; exact H1 c hc
    · rw [uI_n q]; exact H1 x hx
  · have := H2 x hx m hm q
    have := hyl x
    omega
  · have := H3 x hx hxc m hm q
    have := hyl x
    omega
  · have k1 := hyl c
    by_cases r : u = w
    · subst r
      rw [uI_s]
      have hn := H2 (nb c u) (nb_r hc hw hl.1) m hm q
      rcases hy with ⟨_, _, e⟩ | ⟨no, e⟩
      · omega
      · have : ¬ h (nb c u) < h c := fun z => no ⟨hl, z⟩
        omega
    · have := H4 u u0 (by omega) hl m hm q
      omega
theorem hp_c {k c : Int} {h : Int → Int} (H : hpI a v k c 4 h) (hc : R12 c) : hpI a v k (c + 1) 0 h := by
  obtain ⟨H1, H2, H3, H4⟩ := H
  refine ⟨H1, H2, fun x hx hxc m hm q => ?_, fun u a b => absurd b (by omega)⟩
  by_cases r : x = c
  · subst r
    rcases q with q | ⟨w, hw, hl, q⟩
    · exact H2 x hx m hm q
    · exact H4 w hw.1 hw.2 hl m hm q
  · exact H3 x hx (by omega) m hm q
theorem hp_k {k : Int} {h : Int → Int} (H : hpI a v k 12 0 h) (k0 : 0 ≤ k) : hpI a v (k + 1) 0 0 h := by
  obtain ⟨H1, H2, H3, H4⟩ := H
  refine ⟨H1, fun x hx m hm q => ?_, fun x hx q => absurd q (by have := hx.1; omega), fun u a b => absurd b (by omega)⟩
  rw [show (k + 1).toNat = k.toNat + 1 by omega] at q
  exact H3 x hx hx.2 m hm q
/-- the least of what hangs together -/
def hpL (a : Int → Int) (v : Int) (h : Int → Int) : Prop := ∀ c : Int, R12 c → R12 (h c) ∧ conn a v (h c) c ∧ ∀ m : Int, R12 m → conn a v m c → h c ≤ m
theorem hp_end {h : Int → Int} (H : hpI a v 12 0 0 h) : hpL a v h := fun c hc => ⟨(H.1 c hc).1, (H.1 c hc).2, fun m hm q => H.2.1 c hc m hm q⟩
def isM (a : Int → Int) (v h : Int) : Prop := ∀ m : Int, 0 ≤ m → m < h → ¬ conn a v m h
noncomputable def nIs (a : Int → Int) (v : Int) (n : Int) : Int := sumI (fun h => @ite _ (isM a v h) (Classical.propDecidable _) 1 0) n
noncomputable def mxN (a : Int → Int) (v : Int) : Nat → Int
  | 0 => 0
  | h + 1 => @ite _ (isM a v (h : Int)) (Classical.propDecidable _) (max (mxN a v h) (cnt (conn a v (h : Int)))) (mxN a v h)
noncomputable def mxI (a : Int → Int) (v n : Int) : Int := mxN a v n.toNat
noncomputable def qIslands (a : Int → Int) (v w : Int) : Int := if v < 0 then -4 else if 99 < v then -6 else if ¬ (0 ≤ w ∧ w ≤ 1) then -2 else if w = 0 then nIs a v 12 else mxI a v 12
theorem nIs_t {n : Int} (h : 0 ≤ n) (q : isM a v n) : nIs a v (n + 1) = nIs a v n + 1 := by
  unfold nIs
  rw [sumI_s _ h, @if_pos _ (Classical.propDecidable _) q]
theorem nIs_f {n : Int} (h : 0 ≤ n) (q : ¬ isM a v n) : nIs a v (n + 1) = nIs a v n := by
  unfold nIs
  rw [sumI_s _ h, @if_neg _ (Classical.propDecidable _) q]
  omega
theorem mxI_t {n : Int} (h : 0 ≤ n) (q : isM a v n) : mxI a v (n + 1) = max (mxI a v n) (cnt (conn a v n)) := by
  unfold mxI
  rw [show (n + 1).toNat = n.toNat + 1 by omega]
  show @ite _ (isM a v ((n.toNat : Nat) : Int)) (Classical.propDecidable _) (max (mxN a v n.toNat) (cnt (conn a v ((n.toNat : Nat) : Int)))) (mxN a v n.toNat) = _
  rw [Int.toNat_of_nonneg h]
  exact @if_pos _ (Classical.propDecidable _) q _ _ _
theorem mxI_f {n : Int} (h : 0 ≤ n) (q : ¬ isM a v n) : mxI a v (n + 1) = mxI a v n := by
  unfold mxI
  rw [show (n + 1).toNat = n.toNat + 1 by omega]
  show @ite _ (isM a v ((n.toNat : Nat) : Int)) (Classical.propDecidable _) (max (mxN a v n.toNat) (cnt (conn a v ((n.toNat : Nat) : Int)))) (mxN a v n.toNat) = _
  rw [Int.toNat_of_nonneg h]
  exact @if_neg _ (Classical.propDecidable _) q _ _ _
def heq (f : Int → Int) (h : Int) : Int → Int := fun c => if f c = h then 1 else 0
theorem heq_t {f : Int → Int} (H : hpL a v f) {h : Int} (hh : R12 h) (q : isM a v h) : sumI (heq f h) 12 = cnt (conn a v h) ∧ 1 ≤ sumI (heq f h) 12 := by
  have e : sumI (heq f h) 12 = cnt (conn a v h) := by
    unfold cnt
    refine sumI_eq (fun c c0 c1 => ?_)
    obtain ⟨l1, l2, l3⟩ := H c ⟨c0, c1⟩
    unfold heq
    by_cases r : f c = h
    · rw [if_pos r, cnt_f1 (by rw [← r]; exact l2)]
    · rw [if_neg r, cnt_f0 (fun z => ?_)]
      have h1 := l3 h hh z
      have h2 : conn a v (f c) h := c_tr l1 hh l2 (c_sym hh ⟨c0, c1⟩ z)
      exact q (f c) l1.1 (by omega) h2
  exact ⟨e, by rw [e]; exact cnt_1 hh (c_rf h)⟩
theorem heq_f {f : Int → Int} (H : hpL a v f) {h : Int} (hh : R12 h) (q : ¬ isM a v h) : sumI (heq f h) 12 = 0 := by
  have e : sumI (heq f h) 12 = sumI (fun _ => 0) 12 := sumI_eq (fun c c0 c1 => by
    obtain ⟨l1, l2, l3⟩ := H c ⟨c0, c1⟩
    refine if_neg (fun r => q (fun m m0 m1 z => ?_))
    rw [r] at l2 l3
    have hm : R12 m := ⟨m0, by have := hh.2; omega⟩
    have := l3 m hm (c_tr hm ⟨c0, c1⟩ z l2)
    omega)
  rw [e]
  rfl
theorem mxI_bd : ∀ n : Nat, 0 ≤ mxN a v n ∧ mxN a v n ≤ 12
  | 0 => ⟨by show (0 : Int) ≤ 0; decide, by show (0 : Int) ≤ 12; decide⟩
  | n + 1 => by
    have ih := mxI_bd n
    have hc := cnt_le (conn a v (n : Int))
    by_cases q : isM a v (n : Int)
    · have e : mxN a v (n + 1) = max (mxN a v n) (cnt (conn a v (n : Int))) := @if_pos _ (Classical.propDecidable _) q _ _ _
      omega
    · have e : mxN a v (n + 1) = mxN a v n := @if_neg _ (Classical.propDecidable _) q _ _ _
      omega
/-! bits -/
abbrev bt (h o : Int) : Prop := h / p2 o % 2 = 1
theorem bt_test {h o : Int} (hh : 0 ≤ h) : bt h o ↔ h.toNat.testBit o.toNat = true := by
  have e2 : h.toNat.testBit o.toNat = decide (h.toNat / 2 ^ o.toNat % 2 = 1) := Nat.testBit_eq_decide_div_mod_eq
  rw [e2, decide_eq_true_eq]
  have e3 : h / p2 o % 2 = ((h.toNat / 2 ^ o.toNat % 2 : Nat) : Int) := by
    unfold p2
    rw [Int.natCast_emod, Int.natCast_ediv, Int.toNat_of_nonneg hh]
    rfl
  unfold bt
  rw [e3]
  omega
theorem bt_bor {x y o : Int} (hx : 0 ≤ x) (hy : 0 ≤ y) : bt (bor x y) o ↔ bt x o ∨ bt y o := by
  have hb : 0 ≤ bor x y := by unfold bor; omega
  rw [bt_test hb, bt_test hx, bt_test hy]
  unfold bor
  rw [Int.toNat_natCast, Nat.testBit_or, Bool.or_eq_true]
theorem bor_4096 {x y : Int} (hx : 0 ≤ x ∧ x < 4096) (hy : 0 ≤ y ∧ y < 4096) : 0 ≤ bor x y ∧ bor x y < 4096 := by
  have h := Nat.or_lt_two_pow (x := x.toNat) (y := y.toNat) (n := 12) (by omega) (by omega)
  unfold bor
  omega
theorem bt_p2 {c o : Int} (hc : 0 ≤ c) (ho : 0 ≤ o) : bt (p2 c) o ↔ c = o := by
  rw [bt_test (by have := p2_pos c; omega)]
  unfold p2
  rw [Int.toNat_natCast, Nat.testBit_two_pow, decide_eq_true_eq]
  omega
theorem bt_0 (o : Int) : ¬ bt 0 o := by
  unfold bt
  rw [Int.zero_ediv]
  decide
theorem bt_ext {x y : Int} (hx : 0 ≤ x ∧ x < 4096) (hy : 0 ≤ y ∧ y < 4096) (h : ∀ o : Int, R12 o → (bt x o ↔ bt y o)) : x = y := by
  have e : x.toNat = y.toNat := by
    apply Nat.eq_of_testBit_eq
    intro i
    by_cases hi : i < 12
    · have k := h (i : Int) ⟨by omega, by omega⟩
      rw [bt_test hx.1, bt_test hy.1, Int.toNat_natCast] at k
      cases q : x.toNat.testBit i
      · cases r : y.toNat.testBit i
        · rfl
        · rw [q, r] at k; exact absurd (k.mpr rfl) (by decide)
      · exact (k.mp q).symm
    · have p : 2 ^ 12 ≤ 2 ^ i := Nat.pow_le_pow_right (by decide) (by omega)
      rw [Nat.testBit_lt_two_pow (Nat.lt_of_lt_of_le (show x.toNat < 2 ^ 12 by omega) p), Nat.testBit_lt_two_pow (Nat.lt_of_lt_of_le (show y.toNat < 2 ^ 12 by omega) p)]
  omega
theorem pcnt_sum {z : Int} (h : 0 ≤ z ∧ z < 4096) : pcnt z = sumI (fun o => z / p2 o % 2) 12 := by
  obtain ⟨n, rfl⟩ : ∃ n : Nat, z = (n : Int) := ⟨z.toNat, by omega⟩
  have e : ∀ k : Nat, (n : Int) / p2 (k : Int) % 2 = ((n / 2 ^ k % 2 : Nat) : Int) := fun k => by
    unfold p2
    rw [Int.toNat_natCast, Int.natCast_emod, Int.natCast_ediv]
    rfl
  have f : sumI (fun o => (n : Int) / p2 o % 2) 12 = sumN (fun o => (n : Int) / p2 o % 2) 12 := rfl
  rw [f]
  show ((pcN n : Nat) : Int) = 0 + (n : Int) / p2 ((0 : Nat) : Int) % 2 + (n : Int) / p2 ((1 : Nat) : Int) % 2 + (n : Int) / p2 ((2 : Nat) : Int) % 2 + (n : Int) / p2 ((3 : Nat) : Int) % 2 + (n : Int) / p2 ((4 : Nat) : Int) % 2 + (n : Int) / p2 ((5 : Nat) : Int) % 2 + (n : Int) / p2 ((6 : Nat) : Int) % 2 + (n : Int) / p2 ((7 : Nat) : Int) % 2 + (n : Int) / p2 ((8 : Nat) : Int) % 2 + (n : Int) / p2 ((9 : Nat) : Int) % 2 + (n : Int) / p2 ((10 : Nat) : Int) % 2 + (n : Int) / p2 ((11 : Nat) : Int) % 2
  rw [e, e, e, e, e, e, e, e, e, e, e, e]
  have g : pcN n = 0 + n / 2 ^ 0 % 2 + n / 2 ^ 1 % 2 + n / 2 ^ 2 % 2 + n / 2 ^ 3 % 2 + n / 2 ^ 4 % 2 + n / 2 ^ 5 % 2 + n / 2 ^ 6 % 2 + n / 2 ^ 7 % 2 + n / 2 ^ 8 % 2 + n / 2 ^ 9 % 2 + n / 2 ^ 10 % 2 + n / 2 ^ 11 % 2 := rfl
  rw [g]
  omega
/-! the class's heaps -/
noncomputable def hpB (a : Int → Int) (v s : Int) : Int := sumI (fun o => @ite _ (conn a v s o) (Classical.propDecidable _) (p2 o) 0) 12
theorem hpB_in (s : Int) : (0 ≤ hpB a v s ∧ hpB a v s < 4096) ∧ ∀ o : Int, R12 o → (bt (hpB a v s) o ↔ conn a v s o) := by
  have hf : ∀ j : Int, (fun o => @ite Int (conn a v s o) (Classical.propDecidable _) (p2 o) 0) j = 0 ∨ (fun o => @ite Int (conn a v s o) (Classical.propDecidable _) (p2 o) 0) j = p2 j := fun j => by
    by_cases q : conn a v s j
    · exact Or.inr (@if_pos _ (Classical.propDecidable _) q _ _ _)
    · exact Or.inl (@if_neg _ (Classical.propDecidable _) q _ _ _)
  have b := bsum_bd hf (n := 12) (by decide)
  have e : p2 12 = 4096 := by decide
  refine ⟨⟨b.1, by unfold hpB; omega⟩, fun o ho => ?_⟩
  have k := bsum_bit hf (n := 12) (c := o) (by decide) ho.1 ho.2
  have hp := p2_pos o
  unfold bt hpB
  rw [k]
  by_cases q : conn a v s o
  · rw [@if_pos _ (Classical.propDecidable _) q, if_neg (by omega)]
    exact ⟨fun _ => q, fun _ => rfl⟩
  · rw [@if_neg _ (Classical.propDecidable _) q, if_pos rfl]
    exact ⟨fun z => absurd z (by decide), fun z => absurd z q⟩
theorem hpB_cnt (s : Int) : pcnt (hpB a v s) = cnt (conn a v s) := by
  have h := hpB_in (a := a) (v := v) s
  rw [pcnt_sum h.1]
  unfold cnt
  refine sumI_eq (fun o x y => ?_)
  have k := h.2 o ⟨x, y⟩
  unfold bt at k
  by_cases q : conn a v s o
  · rw [cnt_f1 q]; exact k.mpr q
  · rw [cnt_f0 q]
    have : ¬ hpB a v s / p2 o % 2 = 1 := fun z => q (k.mp z)
    omega
def hgN (a : Int → Int) (v c : Int) : Nat → Int
  | 0 => 0
  | w + 1 => if lk a v c (w : Int) then bor (hgN a v c w) (p2 (nb c (w : Int))) else hgN a v c w
def hgI (a : Int → Int) (v c w : Int) : Int := hgN a v c w.toNat
theorem hg_s {c w : Int} (h : 0 ≤ w) : hgI a v c (w + 1) = if lk a v c w then bor (hgI a v c w) (p2 (nb c w)) else hgI a v c w := by
  unfold hgI
  rw [show (w + 1).toNat = w.toNat + 1 by omega]
  show (if lk a v c ((w.toNat : Nat) : Int) then bor (hgN a v c w.toNat) (p2 (nb c ((w.toNat : Nat) : Int))) else hgN a v c w.toNat) = _
  rw [Int.toNat_of_nonneg h]
theorem hg_bd {c : Int} (hc : R12 c) : ∀ w : Nat, w ≤ 4 → (0 ≤ hgN a v c w ∧ hgN a v c w < 4096) ∧ ∀ o : Int, R12 o → (bt (hgN a v c w) o ↔ ∃ u : Int, (0 ≤ u ∧ u < w) ∧ lk a v c u ∧ nb c u = o)
  | 0, _ => ⟨⟨by show (0 : Int) ≤ 0; decide, by show (0 : Int) < 4096; decide⟩, fun o _ => ⟨fun q => absurd q (bt_0 o), fun ⟨u, hu, _⟩ => absurd hu (by omega)⟩⟩
  | w + 1, hw => by
    have ih := hg_bd hc w (by omega)
    by_cases q : lk a v c (w : Int)
    · have e : hgN a v c (w + 1) = bor (hgN a v c w) (p2 (nb c (w : Int))) := if_pos q
      have hn := nb_r hc (w := (w : Int)) (by omega) q.1
      have hp : 0 ≤ p2 (nb c (w : Int)) ∧ p2 (nb c (w : Int)) < 4096 := by
        have h1 := p2_pos (nb c (w : Int))
        have h2 := p2_le (n := 11) (c := nb c (w : Int)) (by have := hn.2; omega)
        have e2 : p2 11 = 2048 := by decide
        omega
      rw [e]
      refine ⟨bor_4096 ih.1 hp, fun o ho => ?_⟩
      rw [bt_bor ih.1.1 hp.1, ih.2 o ho, bt_p2 hn.1 ho.1]
      constructor
      · rintro (⟨u, hu, h⟩ | h)
        · exact ⟨u, by omega, h⟩
        · exact ⟨(w : Int), by omega, q, h⟩
      · rintro ⟨u, hu, hl, h⟩
        by_cases r : u = (w : Int)
        · subst r; exact Or.inr h
        · exact Or.inl ⟨u, by omega, hl, h⟩
    · have e : hgN a v c (w + 1) = hgN a v c w := if_neg q
      rw [e]
      refine ⟨ih.1, fun o ho => ?_⟩
      rw [ih.2 o ho]
      constructor
      · rintro ⟨u, hu, h⟩
        exact ⟨u, by omega, h⟩
      · rintro ⟨u, hu, hl, h⟩
        by_cases r : u = (w : Int)
        · subst r; exact absurd hl q
        · exact ⟨u, by omega, hl, h⟩
/-- the class's rounds -/
def hrI (a : Int → Int) (v s k c h : Int) : Prop := (0 ≤ h ∧ h < 4096) ∧ (∀ o : Int, R12 o → bt h o → conn a v s o) ∧ (∀ o : Int, R12 o → Bp a v s k.toNat o → bt h o) ∧ (∀ x : Int, R12 x → x < c → Bp a v s k.toNat x → ∀ w : Int, 0 ≤ w ∧ w < 4 → lk a v x w → bt h (nb x w))
theorem hr_0 {s : Int} (hs : R12 s) : hrI a v s 0 0 (p2 s) := by
  have h1 := p2_pos s
  have h2 := p2_le (n := 11) (c := s) (by have := hs.2; omega)
  have e2 : p2 11 = 2048 := by decide
  refine ⟨by omega, fun o ho q => ?_, fun o ho q => ?_, fun x hx q => absurd q (by have := hx.1; omega)⟩
  · rw [bt_p2 hs.1 ho.1] at q
    rw [← q]; exact c_rf s
  · have q2 : o = s := q
    rw [bt_p2 hs.1 ho.1]; exact q2.symm
theorem hr_t {s k c h : Int} (H : hrI a v s k c h) (hs : R12 s) (hc : R12 c) (hb : bt h c) : hrI a v s k (c + 1) (bor h (hgI a v c 4)) := by
  obtain ⟨H0, H1, H2, H3⟩ := H
  have hg := hg_bd (a := a) (v := v) hc 4 (by decide)
  have e : hgI a v c 4 = hgN a v c 4 := rfl
  rw [e]
  refine ⟨bor_4096 H0 hg.1, fun o ho q => ?_, fun o ho q => ?_, fun x hx hxc q w hw hl => ?_⟩
  · rw [bt_bor H0.1 hg.1.1, hg.2 o ho] at q
    rcases q with q | ⟨u, hu, hl, hn⟩
    · exact H1 o ho q
    · have ls := lk_sym hc (by omega) hl
      have no := nb_op hc (w := u) (by omega) hl.1
      rw [hn] at ls no
      exact c_step hs ho (show 0 ≤ 3 - u ∧ 3 - u < 4 by omega) ls (by rw [no]; exact H1 c hc hb)
  · rw [bt_bor H0.1 hg.1.1]; exact Or.inl (H2 o ho q)
  · rw [bt_bor H0.1 hg.1.1]
    by_cases r : x = c
    · subst r
      exact Or.inr ((hg.2 _ (nb_r hx hw hl.1)).mpr ⟨w, hw, hl, rfl⟩)
    · exact Or.inl (H3 x hx (by omega) q w hw hl)
theorem hr_f {s k c h : Int} (H : hrI a v s k c h) (hc : R12 c) (hb : ¬ bt h c) : hrI a v s k (c + 1) h := by
  obtain ⟨H0, H1, H2, H3⟩ := H
  refine ⟨H0, H1, H2, fun x hx hxc q w hw hl => ?_⟩
  by_cases r : x = c
  · subst r; exact absurd (H2 x hc q) hb
  · exact H3 x hx (by omega) q w hw hl
theorem hr_k {s k h : Int} (H : hrI a v s k 12 h) (k0 : 0 ≤ k) : hrI a v s (k + 1) 0 h := by
  obtain ⟨H0, H1, H2, H3⟩ := H
  refine ⟨H0, H1, fun o ho q => ?_, fun x hx q => absurd q (by have := hx.1; omega)⟩
  rw [show (k + 1).toNat = k.toNat + 1 by omega] at q
  rcases q with q | ⟨w, hw, hl, q⟩
  · exact H2 o ho q
  · have hx := nb_r ho hw hl.1
    have h1 := H3 (nb o w) hx hx.2 q (3 - w) (by omega) (lk_sym ho hw hl)
    rw [nb_op ho hw hl.1] at h1
    exact h1
theorem hr_end {s h : Int} (H : hrI a v s 12 0 h) : h = hpB a v s := by
  have hb := hpB_in (a := a) (v := v) s
  refine bt_ext H.1 hb.1 (fun o ho => ?_)
  rw [hb.2 o ho]
  exact ⟨fun q => H.2.1 o ho q, fun q => H.2.2.1 o ho q⟩
/-- what was seen -/
def snI (a : Int → Int) (v c s : Int) : Prop := (0 ≤ s ∧ s < 4096) ∧ ∀ o : Int, R12 o → (bt s o ↔ ∃ m : Int, 0 ≤ m ∧ m < c ∧ conn a v m o)
theorem sn_0 : snI a v 0 0 := ⟨by decide, fun o _ => ⟨fun q => absurd q (bt_0 o), fun ⟨m, a, b, _⟩ => absurd b (by omega)⟩⟩
theorem sn_is {c s : Int} (H : snI a v c s) (hc : R12 c) : isM a v c ↔ ¬ bt s c := by
  rw [H.2 c hc]
  exact ⟨fun h ⟨m, m0, m1, q⟩ => h m m0 m1 q, fun h m m0 m1 q => h ⟨m, m0, m1, q⟩⟩
theorem sn_t {c s : Int} (H : snI a v c s) (hc : R12 c) (hb : bt s c) : snI a v (c + 1) s := by
  refine ⟨H.1, fun o ho => ?_⟩
  rw [H.2 o ho]
  constructor
  · rintro ⟨m, m0, m1, q⟩; exact ⟨m, m0, by omega, q⟩
  · rintro ⟨m, m0, m1, q⟩
    by_cases r : m = c
    · obtain ⟨z, z0, z1, z2⟩ := (H.2 c hc).mp hb
      rw [r] at q
      exact ⟨z, z0, z1, c_tr ⟨z0, by have := hc.2; omega⟩ ho z2 q⟩
    · exact ⟨m, m0, by omega, q⟩
theorem sn_f {c s : Int} (H : snI a v c s) (hc : R12 c) : snI a v (c + 1) (bor s (hpB a v c)) := by
  have hb := hpB_in (a := a) (v := v) c
  refine ⟨bor_4096 H.1 hb.1, fun o ho => ?_⟩
  rw [bt_bor H.1.1 hb.1.1, H.2 o ho, hb.2 o ho]
  constructor
  · rintro (⟨m, m0, m1, q⟩ | q)
    · exact ⟨m, m0, by omega, q⟩
    · exact ⟨c, hc.1, by omega, q⟩
  · rintro ⟨m, m0, m1, q⟩
    by_cases r : m = c
    · rw [r] at q; exact Or.inr q
    · exact Or.inl ⟨m, m0, by omega, q⟩
theorem isM_dec (c : Int) : isM a v c ∨ ¬ isM a v c := Classical.em _
end
