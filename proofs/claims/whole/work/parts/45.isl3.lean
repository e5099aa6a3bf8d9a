section
variable {a : Int → Int} {v : Int}
/-! bits -/
abbrev bt (h o : Int) : Prop := h / p2 o % 2 = 1
theorem bt_test {h o : Int} (hh : 0 ≤ h) : bt h o ↔ h.toNat.testBit o.toNat = true := by
  have e2 : h.toNat.testBit o.toNat = decide (h.toNat / 2 ^ o.toNat % 2 = 1) := Nat.testBit_eq_decide_div_mod_eq
  rw [e2, decide_eq_true_eq]
  have e3 : h / p2 o % 2 = ((h.toNat / 2 ^ o.toNat % 2 : Nat) : Int) := by
    unfold p2
    rw [Int.natCast_emod, Int.natCast_ediv, Int.toNat_of_nonneg hh]
    rfl
  unfold bt
  rw [e3]
  omega
theorem bt_bor {x y o : Int} (hx : 0 ≤ x) (hy : 0 ≤ y) : bt (bor x y) o ↔ bt x o ∨ bt y o := by
  have hb : 0 ≤ bor x y := by unfold bor; omega
  rw [bt_test hb, bt_test hx, bt_test hy]
  unfold bor
  rw [Int.toNat_natCast, Nat.testBit_or, Bool.or_eq_true]
theorem bor_4096 {x y : Int} (hx : 0 ≤ x ∧ x < 4096) (hy : 0 ≤ y ∧ y < 4096) : 0 ≤ bor x y ∧ bor x y < 4096 := by
  have h := Nat.or_lt_two_pow (x := x.toNat) (y := y.toNat) (n := 12) (by omega) (by omega)
  unfold bor
  omega
theorem bt_p2 {c o : Int} (hc : 0 ≤ c) (ho : 0 ≤ o) : bt (p2 c) o ↔ c = o := by
  rw [bt_test (by have := p2_pos c; omega)]
  unfold p2
  rw [Int.toNat_natCast, Nat.testBit_two_pow, decide_eq_true_eq]
  omega
theorem bt_0 (o : Int) : ¬ bt 0 o := by
  unfold bt
  rw [Int.zero_ediv]
  decide
theorem bt_ext {x y : Int} (hx : 0 ≤ x ∧ x < 4096) (hy : 0 ≤ y ∧ y < 4096) (h : ∀ o : Int, R12 o → (bt x o ↔ bt y o)) : x = y := by
  have e : x.toNat = y.toNat := by
    apply Nat.eq_of_testBit_eq
    intro i
    by_cases hi : i < 12
    · have k := h (i : Int) ⟨by omega, by omega⟩
      rw [bt_test hx.1, bt_test hy.1, Int.toNat_natCast] at k
      cases q : x.toNat.testBit i
      · cases r : y.toNat.testBit i
        · rfl
        · rw [q, r] at k; exact absurd (k.mpr rfl) (by decide)
      · exact (k.mp q).symm
    · have p : 2 ^ 12 ≤ 2 ^ i := Nat.pow_le_pow_right (by decide) (by omega)
      rw [Nat.testBit_lt_two_pow (Nat.lt_of_lt_of_le (show x.toNat < 2 ^ 12 by omega) p), Nat.testBit_lt_two_pow (Nat.lt_of_lt_of_le (show y.toNat < 2 ^ 12 by omega) p)]
  omega
theorem pc_sumN (n : Nat) : ∀ k : Nat, (((List.range k).foldl (fun a j => a + n / 2 ^ j % 2) 0 : Nat) : Int) = sumN (fun o => (n : Int) / p2 o % 2) k
  | 0 => rfl
  | k + 1 => by
    have ih := pc_sumN n k
    have e : (n : Int) / p2 (k : Int) % 2 = ((n / 2 ^ k % 2 : Nat) : Int) := by
      unfold p2
      rw [Int.toNat_natCast, Int.natCast_emod, Int.natCast_ediv]
      rfl
    rw [List.range_succ, List.foldl_append]
    show (((List.range k).foldl (fun a j => a + n / 2 ^ j % 2) 0 + n / 2 ^ k % 2 : Nat) : Int) = sumN (fun o => (n : Int) / p2 o % 2) k + (n : Int) / p2 (k : Int) % 2
    rw [← ih, e, Int.natCast_add]
theorem pcnt_sum {z : Int} (h : 0 ≤ z ∧ z < 4096) : pcnt z = sumI (fun o => z / p2 o % 2) 12 := by
  obtain ⟨n, rfl⟩ : ∃ n : Nat, z = (n : Int) := ⟨z.toNat, by omega⟩
  have k := pc_sumN n 12
  unfold pcnt pcN
  rw [Int.toNat_natCast]
  exact k
/-! the class's heaps -/
noncomputable def hpB (a : Int → Int) (v s : Int) : Int := sumI (fun o => @ite _ (conn a v s o) (Classical.propDecidable _) (p2 o) 0) tw
theorem hpB_in (s : Int) : (0 ≤ hpB a v s ∧ hpB a v s < 4096) ∧ ∀ o : Int, R12 o → (bt (hpB a v s) o ↔ conn a v s o) := by
  have hf : ∀ j : Int, (fun o => @ite Int (conn a v s o) (Classical.propDecidable _) (p2 o) 0) j = 0 ∨ (fun o => @ite Int (conn a v s o) (Classical.propDecidable _) (p2 o) 0) j = p2 j := fun j => by
    by_cases q : conn a v s j
    · exact Or.inr (@if_pos _ (Classical.propDecidable _) q _ _ _)
    · exact Or.inl (@if_neg _ (Classical.propDecidable _) q _ _ _)
  refine ⟨?_, fun o ho => ?_⟩
  · have b := bsum_bd hf (n := 12) (by decide)
    have e : p2 12 = 4096 := by decide
    rw [e] at b
    unfold hpB
    rw [tw_eq]
    exact b
  have k := bsum_bit hf (n := 12) (c := o) (by decide) ho.1 ho.2
  have hp := p2_pos o
  unfold bt hpB
  rw [tw_eq, k]
  by_cases q : conn a v s o
  · rw [@if_pos _ (Classical.propDecidable _) q, if_neg (by omega)]
    exact ⟨fun _ => q, fun _ => rfl⟩
  · rw [@if_neg _ (Classical.propDecidable _) q, if_pos rfl]
    exact ⟨fun z => absurd z (by decide), fun z => absurd z q⟩
theorem hpB_cnt (s : Int) : pcnt (hpB a v s) = cnt (conn a v s) := by
  have h := hpB_in (a := a) (v := v) s
  rw [pcnt_sum h.1]
  unfold cnt
  rw [tw_eq]
  refine sumI_eq (fun o x y => ?_)
  have k := h.2 o ⟨x, y⟩
  unfold bt at k
  by_cases q : conn a v s o
  · rw [cnt_f1 q]; exact k.mpr q
  · rw [cnt_f0 q]
    have z : ¬ hpB a v s / p2 o % 2 = 1 := fun z => q (k.mp z)
    generalize hpB a v s / p2 o = y at z
    omega
def hgN (a : Int → Int) (v c : Int) : Nat → Int
  | 0 => 0
  | w + 1 => if lk a v c (w : Int) then bor (hgN a v c w) (p2 (nb c (w : Int))) else hgN a v c w
def hgI (a : Int → Int) (v c w : Int) : Int := hgN a v c w.toNat
theorem hg_s {c w : Int} (h : 0 ≤ w) : hgI a v c (w + 1) = if lk a v c w then bor (hgI a v c w) (p2 (nb c w)) else hgI a v c w := by
  unfold hgI
  rw [show (w + 1).toNat = w.toNat + 1 by omega]
  show (if lk a v c ((w.toNat : Nat) : Int) then bor (hgN a v c w.toNat) (p2 (nb c ((w.toNat : Nat) : Int))) else hgN a v c w.toNat) = _
  rw [Int.toNat_of_nonneg h]
theorem hg_bd {c : Int} (hc : R12 c) : ∀ w : Nat, w ≤ 4 → (0 ≤ hgN a v c w ∧ hgN a v c w < 4096) ∧ ∀ o : Int, R12 o → (bt (hgN a v c w) o ↔ ∃ u : Int, (0 ≤ u ∧ u < w) ∧ lk a v c u ∧ nb c u = o)
  | 0, _ => ⟨⟨by show (0 : Int) ≤ 0; decide, by show (0 : Int) < 4096; decide⟩, fun o _ => ⟨fun q => absurd q (bt_0 o), fun ⟨u, hu, _⟩ => absurd hu (by omega)⟩⟩
  | w + 1, hw => by
    have ih := hg_bd hc w (by omega)
    by_cases q : lk a v c (w : Int)
    · have e : hgN a v c (w + 1) = bor (hgN a v c w) (p2 (nb c (w : Int))) := if_pos q
      have hn := nb_r hc (w := (w : Int)) (by omega) q.1
      have hp : 0 ≤ p2 (nb c (w : Int)) ∧ p2 (nb c (w : Int)) < 4096 := by
        have h1 := p2_pos (nb c (w : Int))
        have h2 := p2_le (n := 11) (c := nb c (w : Int)) (by have := hn.2; omega)
        have e2 : p2 11 = 2048 := by decide
        omega
      rw [e]
      refine ⟨bor_4096 ih.1 hp, fun o ho => ?_⟩
      rw [bt_bor ih.1.1 hp.1, ih.2 o ho, bt_p2 hn.1 ho.1]
      constructor
      · rintro (⟨u, hu, h⟩ | h)
        · exact ⟨u, by omega, h⟩
        · exact ⟨(w : Int), by omega, q, h⟩
      · rintro ⟨u, hu, hl, h⟩
        by_cases r : u = (w : Int)
        · subst r; exact Or.inr h
        · exact Or.inl ⟨u, by omega, hl, h⟩
    · have e : hgN a v c (w + 1) = hgN a v c w := if_neg q
      rw [e]
      refine ⟨ih.1, fun o ho => ?_⟩
      rw [ih.2 o ho]
      constructor
      · rintro ⟨u, hu, h⟩
        exact ⟨u, by omega, h⟩
      · rintro ⟨u, hu, hl, h⟩
        by_cases r : u = (w : Int)
        · subst r; exact absurd hl q
        · exact ⟨u, by omega, hl, h⟩
/-- the class's rounds -/
def hrI (a : Int → Int) (v s k c h : Int) : Prop := (0 ≤ h ∧ h < 4096) ∧ (∀ o : Int, R12 o → bt h o → conn a v s o) ∧ (∀ o : Int, R12 o → Bp a v s k.toNat o → bt h o) ∧ (∀ x : Int, R12 x → x < c → Bp a v s k.toNat x → ∀ w : Int, 0 ≤ w ∧ w < 4 → lk a v x w → bt h (nb x w))
theorem hr_0 {s : Int} (hs : R12 s) : hrI a v s 0 0 (p2 s) := by
  have h1 := p2_pos s
  have h2 := p2_le (n := 11) (c := s) (by have := hs.2; omega)
  have e2 : p2 11 = 2048 := by decide
  refine ⟨by omega, fun o ho q => ?_, fun o ho q => ?_, fun x hx q => absurd q (by have := hx.1; omega)⟩
  · rw [bt_p2 hs.1 ho.1] at q
    rw [← q]; exact c_rf s
  · have q2 : o = s := q
    rw [bt_p2 hs.1 ho.1]; exact q2.symm
theorem hr_t {s k c h : Int} (H : hrI a v s k c h) (hs : R12 s) (hc : R12 c) (hb : bt h c) : hrI a v s k (c + 1) (bor h (hgI a v c 4)) := by
  obtain ⟨H0, H1, H2, H3⟩ := H
  have hg := hg_bd (a := a) (v := v) hc 4 (by decide)
  have e : hgI a v c 4 = hgN a v c 4 := rfl
  rw [e]
  refine ⟨bor_4096 H0 hg.1, fun o ho q => ?_, fun o ho q => ?_, fun x hx hxc q w hw hl => ?_⟩
  · rw [bt_bor H0.1 hg.1.1, hg.2 o ho] at q
    rcases q with q | ⟨u, hu, hl, hn⟩
    · exact H1 o ho q
    · have ls := lk_sym hc (by omega) hl
      have no := nb_op hc (w := u) (by omega) hl.1
      rw [hn] at ls no
      exact c_step hs ho (show 0 ≤ 3 - u ∧ 3 - u < 4 by omega) ls (by rw [no]; exact H1 c hc hb)
  · rw [bt_bor H0.1 hg.1.1]; exact Or.inl (H2 o ho q)
  · rw [bt_bor H0.1 hg.1.1]
    by_cases r : x = c
    · subst r
      exact Or.inr ((hg.2 _ (nb_r hx hw hl.1)).mpr ⟨w, hw, hl, rfl⟩)
    · exact Or.inl (H3 x hx (by omega) q w hw hl)
theorem hr_f {s k c h : Int} (H : hrI a v s k c h) (hc : R12 c) (hb : ¬ bt h c) : hrI a v s k (c + 1) h := by
  obtain ⟨H0, H1, H2, H3⟩ := H
  refine ⟨H0, H1, H2, fun x hx hxc q w hw hl => ?_⟩
  by_cases r : x = c
  · subst r; exact absurd (H2 x hc q) hb
  · exact H3 x hx (by omega) q w hw hl
theorem hr_k {s k h : Int} (H : hrI a v s k 12 h) (k0 : 0 ≤ k) : hrI a v s (k + 1) 0 h := by
  obtain ⟨H0, H1, H2, H3⟩ := H
  refine ⟨H0, H1, fun o ho q => ?_, fun x hx q => absurd q (by have := hx.1; omega)⟩
  rw [show (k + 1).toNat = k.toNat + 1 by omega] at q
  rcases q with q | ⟨w, hw, hl, q⟩
  · exact H2 o ho q
  · have hx := nb_r ho hw hl.1
    have h1 := H3 (nb o w) hx hx.2 q (3 - w) (by omega) (lk_sym ho hw hl)
    rw [nb_op ho hw hl.1] at h1
    exact h1
theorem hr_end {s h : Int} (H : hrI a v s 12 0 h) : h = hpB a v s := by
  have hb := hpB_in (a := a) (v := v) s
  refine bt_ext H.1 hb.1 (fun o ho => ?_)
  rw [hb.2 o ho]
  exact ⟨fun q => H.2.1 o ho q, fun q => H.2.2.1 o ho q⟩
/-- what was seen -/
def snI (a : Int → Int) (v c s : Int) : Prop := (0 ≤ s ∧ s < 4096) ∧ ∀ o : Int, R12 o → (bt s o ↔ ∃ m : Int, 0 ≤ m ∧ m < c ∧ conn a v m o)
theorem sn_0 : snI a v 0 0 := ⟨by decide, fun o _ => ⟨fun q => absurd q (bt_0 o), fun ⟨m, a, b, _⟩ => absurd b (by omega)⟩⟩
theorem sn_is {c s : Int} (H : snI a v c s) (hc : R12 c) : isM a v c ↔ ¬ bt s c := by
  rw [H.2 c hc]
  exact ⟨fun h ⟨m, m0, m1, q⟩ => h m m0 m1 q, fun h m m0 m1 q => h ⟨m, m0, m1, q⟩⟩
theorem sn_t {c s : Int} (H : snI a v c s) (hc : R12 c) (hb : bt s c) : snI a v (c + 1) s := by
  refine ⟨H.1, fun o ho => ?_⟩
  rw [H.2 o ho]
  constructor
  · rintro ⟨m, m0, m1, q⟩; exact ⟨m, m0, by omega, q⟩
  · rintro ⟨m, m0, m1, q⟩
    by_cases r : m = c
    · obtain ⟨z, z0, z1, z2⟩ := (H.2 c hc).mp hb
      rw [r] at q
      exact ⟨z, z0, z1, c_tr ⟨z0, by have := hc.2; omega⟩ ho z2 q⟩
    · exact ⟨m, m0, by omega, q⟩
theorem sn_f {c s : Int} (H : snI a v c s) (hc : R12 c) : snI a v (c + 1) (bor s (hpB a v c)) := by
  have hb := hpB_in (a := a) (v := v) c
  refine ⟨bor_4096 H.1 hb.1, fun o ho => ?_⟩
  rw [bt_bor H.1.1 hb.1.1, H.2 o ho, hb.2 o ho]
  constructor
  · rintro (⟨m, m0, m1, q⟩ | q)
    · exact ⟨m, m0, by omega, q⟩
    · exact ⟨c, hc.1, by omega, q⟩
  · rintro ⟨m, m0, m1, q⟩
    by_cases r : m = c
    · rw [r] at q; exact Or.inr q
    · exact Or.inl ⟨m, m0, by omega, q⟩
theorem isM_dec (c : Int) : isM a v c ∨ ¬ isM a v c := Classical.em _
end
