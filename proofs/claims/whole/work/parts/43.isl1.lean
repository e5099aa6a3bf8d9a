/-! ISLANDS: what hangs together -/
abbrev lk (a : Int → Int) (v c w : Int) : Prop := 0 ≤ nb c w ∧ ((a c - a (nb c w)).natAbs : Int) ≤ v
abbrev R12 (c : Int) : Prop := 0 ≤ c ∧ c < 12
/-- c reaches m in so many steps -/
def Bp (a : Int → Int) (v m : Int) : Nat → Int → Prop
  | 0, c => c = m
  | k + 1, c => Bp a v m k c ∨ ∃ w : Int, (0 ≤ w ∧ w < 4) ∧ lk a v c w ∧ Bp a v m k (nb c w)
def conn (a : Int → Int) (v m c : Int) : Prop := Bp a v m 12 c
/-- twelve, not to be counted out -/
noncomputable def tw : Int := Classical.choose (⟨12, rfl⟩ : ∃ x : Int, x = 12)
theorem tw_eq : tw = 12 := Classical.choose_spec (⟨12, rfl⟩ : ∃ x : Int, x = 12)
theorem le1' {x : Int} (h : 1 ≤ x) : ((0 : Nat) : Int) + 1 ≤ x := by omega
theorem le3' {x y : Int} {k : Nat} (h1 : (k : Int) + 1 ≤ x) (h2 : x + 1 ≤ y) : ((k + 1 : Nat) : Int) + 1 ≤ y := by omega
theorem no13 {x : Int} (h1 : ((12 : Nat) : Int) + 1 ≤ x) (h2 : x ≤ 12) : False := by omega
theorem pos1 {x y : Int} (h1 : 0 ≤ x) (h2 : x + 1 ≤ y) : 1 ≤ y := by omega
theorem max12 {x y : Int} (h1 : 0 ≤ x ∧ x ≤ 12) (h2 : 0 ≤ y ∧ y ≤ 12) : 0 ≤ max x y ∧ max x y ≤ 12 := by omega
noncomputable def cnt (P : Int → Prop) : Int := sumI (fun c => @ite _ (P c) (Classical.propDecidable _) 1 0) tw
theorem cnt_f1 {P : Int → Prop} {c : Int} (h : P c) : (@ite Int (P c) (Classical.propDecidable _) 1 0) = 1 := @if_pos _ (Classical.propDecidable _) h _ _ _
theorem cnt_f0 {P : Int → Prop} {c : Int} (h : ¬ P c) : (@ite Int (P c) (Classical.propDecidable _) 1 0) = 0 := @if_neg _ (Classical.propDecidable _) h _ _ _
theorem cnt_01 (P : Int → Prop) (c : Int) : 0 ≤ (@ite Int (P c) (Classical.propDecidable _) 1 0) ∧ (@ite Int (P c) (Classical.propDecidable _) 1 0) ≤ 1 := by
  by_cases h : P c
  · rw [cnt_f1 h]; omega
  · rw [cnt_f0 h]; omega
theorem cnt_le (P : Int → Prop) : 0 ≤ cnt P ∧ cnt P ≤ 12 := by
  have k := sumI_bd (f := fun c => @ite _ (P c) (Classical.propDecidable _) 1 0) (lo := 0) (hi := 1) (n := 12) (by decide) (fun j _ _ => cnt_01 P j)
  unfold cnt
  rw [tw_eq]
  omega
theorem sumI_lt {f g : Int → Int} (h : ∀ j : Int, 0 ≤ j → f j ≤ g j) {c : Int} (hc : 0 ≤ c) (hl : f c + 1 ≤ g c) : ∀ k : Nat, (c < k → sumI f (k : Int) + 1 ≤ sumI g (k : Int)) ∧ sumI f (k : Int) ≤ sumI g (k : Int)
  | 0 => ⟨fun q => absurd q (by omega), Int.le_refl _⟩
  | k + 1 => by
    have ih := sumI_lt h hc hl k
    have e : ((k + 1 : Nat) : Int) = (k : Int) + 1 := by omega
    rw [e, sumI_s _ (by omega), sumI_s _ (by omega)]
    have h1 := h (k : Int) (by omega)
    refine ⟨fun q => ?_, by omega⟩
    by_cases r : c = (k : Int)
    · subst r; omega
    · have := ih.1 (by omega); omega
theorem cnt_lt {P Q : Int → Prop} (h : ∀ c : Int, P c → Q c) {c : Int} (hc : R12 c) (hq : Q c) (hp : ¬ P c) : cnt P + 1 ≤ cnt Q := by
  unfold cnt
  rw [tw_eq]
  refine (sumI_lt (fun j _ => ?_) hc.1 ?_ 12).1 hc.2
  · by_cases q : P j
    · rw [cnt_f1 q, cnt_f1 (h j q)]; omega
    · rw [cnt_f0 q]; exact (cnt_01 Q j).1
  · rw [cnt_f0 hp, cnt_f1 hq]; omega
theorem cnt_1 {P : Int → Prop} {c : Int} (hc : R12 c) (hp : P c) : 1 ≤ cnt P := by
  have h := cnt_lt (P := fun _ => False) (Q := P) (fun _ q => q.elim) hc hp (fun q => q)
  exact pos1 (cnt_le (fun _ => False)).1 h
theorem cnt_eq {P Q : Int → Prop} (h : ∀ c : Int, R12 c → (P c ↔ Q c)) : cnt P = cnt Q := by
  unfold cnt
  rw [tw_eq]
  refine sumI_eq (fun j a b => ?_)
  by_cases q : P j
  · rw [cnt_f1 q, cnt_f1 ((h j ⟨a, b⟩).mp q)]
  · rw [cnt_f0 q, cnt_f0 (fun z => q ((h j ⟨a, b⟩).mpr z))]
section
variable {a : Int → Int} {v : Int}
theorem nb_r {c w : Int} (hc : R12 c) (hw : 0 ≤ w ∧ w < 4) (h : 0 ≤ nb c w) : R12 (nb c w) := ⟨h, (nb_in hc.1 hc.2 hw.1 hw.2).2⟩
theorem nb_opN : ∀ c : Nat, c < 12 → ∀ w : Nat, w < 4 → 0 ≤ nb (c : Int) (w : Int) → nb (nb (c : Int) (w : Int)) (3 - (w : Int)) = (c : Int) := by decide +kernel
theorem nb_op {c w : Int} (hc : R12 c) (hw : 0 ≤ w ∧ w < 4) (h : 0 ≤ nb c w) : nb (nb c w) (3 - w) = c := by
  have k := nb_opN c.toNat (by omega) w.toNat (by omega)
  rw [Int.toNat_of_nonneg hc.1, Int.toNat_of_nonneg hw.1] at k
  exact k h
theorem lk_sym {c w : Int} (hc : R12 c) (hw : 0 ≤ w ∧ w < 4) (h : lk a v c w) : lk a v (nb c w) (3 - w) := by
  have e := nb_op hc hw h.1
  unfold lk
  rw [e]
  have := h.2
  exact ⟨hc.1, by omega⟩
theorem Bp_mono {m : Int} : ∀ (d k : Nat) (c : Int), Bp a v m k c → Bp a v m (k + d) c
  | 0, _, _, h => h
  | d + 1, k, c, h => Or.inl (Bp_mono d k c h)
theorem Bp_closed {m : Int} (hm : R12 m) : ∀ c : Int, R12 c → Bp a v m 13 c → Bp a v m 12 c := by
  have key : ∀ k : Nat, (∀ c : Int, R12 c → Bp a v m (k + 1) c → Bp a v m k c) ∨ (k : Int) + 1 ≤ cnt (Bp a v m k) := by
    intro k
    induction k with
    | zero => exact Or.inr (le1' (cnt_1 (P := Bp a v m 0) hm rfl))
    | succ k ih =>
      rcases ih with ih | ih
      · refine Or.inl (fun c hc h => ?_)
        rcases h with h | ⟨w, hw, hl, h⟩
        · exact h
        · exact Or.inr ⟨w, hw, hl, ih _ (nb_r hc hw hl.1) h⟩
      · by_cases q : ∀ c : Int, R12 c → Bp a v m (k + 1) c → Bp a v m k c
        · refine Or.inl (fun c hc h => ?_)
          rcases h with h | ⟨w, hw, hl, h⟩
          · exact h
          · exact Or.inr ⟨w, hw, hl, q _ (nb_r hc hw hl.1) h⟩
        · refine Or.inr ?_
          obtain ⟨c, h1⟩ := Classical.not_forall.mp q
          obtain ⟨hc, h2⟩ := Classical.not_imp.mp h1
          obtain ⟨h3, h4⟩ := Classical.not_imp.mp h2
          exact le3' ih (cnt_lt (P := Bp a v m k) (Q := Bp a v m (k + 1)) (fun _ z => Or.inl z) hc h3 h4)
  rcases key 12 with h | h
  · exact h
  · exact (no13 h (cnt_le (Bp a v m 12)).2).elim
theorem c_rf (m : Int) : conn a v m m := Bp_mono 12 0 m rfl
theorem c_step {m c w : Int} (hm : R12 m) (hc : R12 c) (hw : 0 ≤ w ∧ w < 4) (hl : lk a v c w) (h : conn a v m (nb c w)) : conn a v m c := Bp_closed hm c hc (Or.inr ⟨w, hw, hl, h⟩)
theorem c_trN {m z : Int} (hz : R12 z) (h : conn a v z m) : ∀ (k : Nat) (c : Int), R12 c → Bp a v m k c → conn a v z c
  | 0, c, _, q => by
    have e : c = m := q
    rw [e]; exact h
  | k + 1, c, hc, q => by
    rcases q with q | ⟨w, hw, hl, q⟩
    · exact c_trN hz h k c hc q
    · exact c_step hz hc hw hl (c_trN hz h k (nb c w) (nb_r hc hw hl.1) q)
theorem c_tr {m z c : Int} (hz : R12 z) (hc : R12 c) (h : conn a v z m) (q : conn a v m c) : conn a v z c := c_trN hz h 12 c hc q
theorem c_symN {m : Int} (hm : R12 m) : ∀ (k : Nat) (c : Int), R12 c → Bp a v m k c → conn a v c m
  | 0, c, _, q => by
    have e : c = m := q
    rw [e]; exact c_rf m
  | k + 1, c, hc, q => by
    rcases q with q | ⟨w, hw, hl, q⟩
    · exact c_symN hm k c hc q
    · have hx := nb_r hc hw hl.1
      have h1 := c_symN hm k (nb c w) hx q
      have h2 : conn a v c (nb c w) := c_step hc hx (show 0 ≤ 3 - w ∧ 3 - w < 4 by omega) (lk_sym hc hw hl) (by rw [nb_op hc hw hl.1]; exact c_rf c)
      exact c_tr hc hm h2 h1
theorem c_sym {m c : Int} (hm : R12 m) (hc : R12 c) (h : conn a v m c) : conn a v c m := c_symN hm 12 c hc h
/-- the reference's rounds -/
def hpI (a : Int → Int) (v k c w : Int) (h : Int → Int) : Prop := (∀ x : Int, R12 x → R12 (h x) ∧ conn a v (h x) x) ∧ (∀ x : Int, R12 x → ∀ m : Int, R12 m → Bp a v m k.toNat x → h x ≤ m) ∧ (∀ x : Int, R12 x → x < c → ∀ m : Int, R12 m → Bp a v m (k.toNat + 1) x → h x ≤ m) ∧ (∀ u : Int, 0 ≤ u → u < w → lk a v c u → ∀ m : Int, R12 m → Bp a v m k.toNat (nb c u) → h c ≤ m)
theorem hp_0 {h : Int → Int} (e : ∀ x : Int, R12 x → h x = x) : hpI a v 0 0 0 h := by
  refine ⟨fun x hx => ?_, fun x hx m _ q => ?_, fun x hx q => absurd q (by have := hx.1; omega), fun u a b => absurd b (by omega)⟩
  · rw [e x hx]; exact ⟨hx, c_rf x⟩
  · have q2 : x = m := q
    rw [e x hx, q2]
    exact Int.le_refl _
theorem hp_w {k c w : Int} {h : Int → Int} (H : hpI a v k c w h) (hc : R12 c) (hw : 0 ≤ w ∧ w < 4) {y : Int} (hy : (lk a v c w ∧ h (nb c w) < h c ∧ y = h (nb c w)) ∨ (¬ (lk a v c w ∧ h (nb c w) < h c) ∧ y = h c)) : hpI a v k c (w + 1) (uI h c y) := by
  obtain ⟨H1, H2, H3, H4⟩ := H
  have hle : y ≤ h c := by rcases hy with ⟨_, b, e⟩ | ⟨_, e⟩ <;> omega
  have hyl : ∀ x : Int, uI h c y x ≤ h x := fun x => by
    by_cases q : x = c
    · rw [q, uI_s]; exact hle
    · rw [uI_n q]; exact Int.le_refl _
  refine ⟨fun x hx => ?_, fun x hx m hm q => ?_, fun x hx hxc m hm q => ?_, fun u u0 u1 hl m hm q => ?_⟩
  · by_cases q : x = c
    · rw [q, uI_s]
      rcases hy with ⟨hl, _, e⟩ | ⟨_, e⟩
      · have hn := H1 _ (nb_r hc hw hl.1)
        rw [e]
        exact ⟨hn.1, c_step hn.1 hc hw hl hn.2⟩
      · rw [e]; exact H1 c hc
    · rw [uI_n q]; exact H1 x hx
  · have := H2 x hx m hm q
    have := hyl x
    omega
  · have := H3 x hx hxc m hm q
    have := hyl x
    omega
  · have k1 := hyl c
    by_cases r : u = w
    · subst r
      rw [uI_s]
      have hn := H2 (nb c u) (nb_r hc hw hl.1) m hm q
      rcases hy with ⟨_, _, e⟩ | ⟨no, e⟩
      · omega
      · have : ¬ h (nb c u) < h c := fun z => no ⟨hl, z⟩
        omega
    · have := H4 u u0 (by omega) hl m hm q
      omega
theorem hp_c {k c : Int} {h : Int → Int} (H : hpI a v k c 4 h) (hc : R12 c) : hpI a v k (c + 1) 0 h := by
  obtain ⟨H1, H2, H3, H4⟩ := H
  refine ⟨H1, H2, fun x hx hxc m hm q => ?_, fun u a b => absurd b (by omega)⟩
  by_cases r : x = c
  · subst r
    rcases q with q | ⟨w, hw, hl, q⟩
    · exact H2 x hx m hm q
    · exact H4 w hw.1 hw.2 hl m hm q
  · exact H3 x hx (by omega) m hm q
theorem hp_k {k : Int} {h : Int → Int} (H : hpI a v k 12 0 h) (k0 : 0 ≤ k) : hpI a v (k + 1) 0 0 h := by
  obtain ⟨H1, H2, H3, H4⟩ := H
  refine ⟨H1, fun x hx m hm q => ?_, fun x hx q => absurd q (by have := hx.1; omega), fun u a b => absurd b (by omega)⟩
  rw [show (k + 1).toNat = k.toNat + 1 by omega] at q
  exact H3 x hx hx.2 m hm q
end
