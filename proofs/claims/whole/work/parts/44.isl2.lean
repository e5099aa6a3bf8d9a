section
variable {a : Int → Int} {v : Int}
/-- the least of what hangs together -/
def hpL (a : Int → Int) (v : Int) (h : Int → Int) : Prop := ∀ c : Int, R12 c → R12 (h c) ∧ conn a v (h c) c ∧ ∀ m : Int, R12 m → conn a v m c → h c ≤ m
theorem hp_end {h : Int → Int} (H : hpI a v 12 0 0 h) : hpL a v h := fun c hc => ⟨(H.1 c hc).1, (H.1 c hc).2, fun m hm q => H.2.1 c hc m hm q⟩
def isM (a : Int → Int) (v h : Int) : Prop := ∀ m : Int, 0 ≤ m → m < h → ¬ conn a v m h
noncomputable def nIs (a : Int → Int) (v : Int) (n : Int) : Int := sumI (fun h => @ite _ (isM a v h) (Classical.propDecidable _) 1 0) n
noncomputable def mxN (a : Int → Int) (v : Int) : Nat → Int
  | 0 => 0
  | h + 1 => @ite _ (isM a v (h : Int)) (Classical.propDecidable _) (max (mxN a v h) (cnt (conn a v (h : Int)))) (mxN a v h)
noncomputable def mxI (a : Int → Int) (v n : Int) : Int := mxN a v n.toNat
noncomputable def qIslands (a : Int → Int) (v w : Int) : Int := if v < 0 then -4 else if 99 < v then -6 else if ¬ (0 ≤ w ∧ w ≤ 1) then -2 else if w = 0 then nIs a v tw else mxI a v tw
theorem nIs_t {n : Int} (h : 0 ≤ n) (q : isM a v n) : nIs a v (n + 1) = nIs a v n + 1 := by
  unfold nIs
  rw [sumI_s _ h, @if_pos _ (Classical.propDecidable _) q]
theorem nIs_f {n : Int} (h : 0 ≤ n) (q : ¬ isM a v n) : nIs a v (n + 1) = nIs a v n := by
  unfold nIs
  rw [sumI_s _ h, @if_neg _ (Classical.propDecidable _) q]
  omega
theorem mxI_t {n : Int} (h : 0 ≤ n) (q : isM a v n) : mxI a v (n + 1) = max (mxI a v n) (cnt (conn a v n)) := by
  unfold mxI
  rw [show (n + 1).toNat = n.toNat + 1 by omega]
  show @ite _ (isM a v ((n.toNat : Nat) : Int)) (Classical.propDecidable _) (max (mxN a v n.toNat) (cnt (conn a v ((n.toNat : Nat) : Int)))) (mxN a v n.toNat) = _
  rw [Int.toNat_of_nonneg h]
  exact @if_pos _ (Classical.propDecidable _) q _ _ _
theorem mxI_f {n : Int} (h : 0 ≤ n) (q : ¬ isM a v n) : mxI a v (n + 1) = mxI a v n := by
  unfold mxI
  rw [show (n + 1).toNat = n.toNat + 1 by omega]
  show @ite _ (isM a v ((n.toNat : Nat) : Int)) (Classical.propDecidable _) (max (mxN a v n.toNat) (cnt (conn a v ((n.toNat : Nat) : Int)))) (mxN a v n.toNat) = _
  rw [Int.toNat_of_nonneg h]
  exact @if_neg _ (Classical.propDecidable _) q _ _ _
def heq (f : Int → Int) (h : Int) : Int → Int := fun c => if f c = h then 1 else 0
theorem heq_t {f : Int → Int} (H : hpL a v f) {h : Int} (hh : R12 h) (q : isM a v h) : sumI (heq f h) 12 = cnt (conn a v h) ∧ 1 ≤ sumI (heq f h) 12 := by
  have e : sumI (heq f h) 12 = cnt (conn a v h) := by
    unfold cnt
    rw [tw_eq]
    refine sumI_eq (fun c c0 c1 => ?_)
    obtain ⟨l1, l2, l3⟩ := H c ⟨c0, c1⟩
    unfold heq
    by_cases r : f c = h
    · rw [if_pos r, cnt_f1 (by rw [← r]; exact l2)]
    · rw [if_neg r, cnt_f0 (fun z => ?_)]
      have h1 := l3 h hh z
      have h2 : conn a v (f c) h := c_tr l1 hh l2 (c_sym hh ⟨c0, c1⟩ z)
      exact q (f c) l1.1 (by omega) h2
  exact ⟨e, by rw [e]; exact cnt_1 hh (c_rf h)⟩
theorem heq_f {f : Int → Int} (H : hpL a v f) {h : Int} (hh : R12 h) (q : ¬ isM a v h) : sumI (heq f h) 12 = 0 := by
  have e : sumI (heq f h) 12 = sumI (fun _ => 0) 12 := sumI_eq (fun c c0 c1 => by
    obtain ⟨l1, l2, l3⟩ := H c ⟨c0, c1⟩
    refine if_neg (fun r => q (fun m m0 m1 z => ?_))
    rw [r] at l2 l3
    have hm : R12 m := ⟨m0, by have := hh.2; omega⟩
    have := l3 m hm (c_tr hm ⟨c0, c1⟩ z l2)
    omega)
  rw [e]
  rfl
theorem mxI_bd : ∀ n : Nat, 0 ≤ mxN a v n ∧ mxN a v n ≤ 12
  | 0 => ⟨by show (0 : Int) ≤ 0; decide, by show (0 : Int) ≤ 12; decide⟩
  | n + 1 => by
    have ih := mxI_bd n
    have hc := cnt_le (conn a v (n : Int))
    by_cases q : isM a v (n : Int)
    · have e : mxN a v (n + 1) = max (mxN a v n) (cnt (conn a v (n : Int))) := @if_pos _ (Classical.propDecidable _) q _ _ _
      rw [e]
      exact max12 ih hc
    · have e : mxN a v (n + 1) = mxN a v n := @if_neg _ (Classical.propDecidable _) q _ _ _
      rw [e]
      exact ih
end
