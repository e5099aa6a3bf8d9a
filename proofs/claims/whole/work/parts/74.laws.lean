/-! THE LAW: the tie's facts -/
section
variable {X : XS} {M : MS}
theorem rel_cl0 (h : relT X M) : cl (X 0) = cl M := h.1.1.1
theorem rel_okM (h : relT X M) : okC (cl M) := h.1.1.2.1
theorem rel_okX (h : relT X M) : okC (cl (X 0)) := by rw [rel_cl0 h]; exact rel_okM h
theorem rel_yM (h : relT X M) : M 4 0 ≤ 999 := h.1.1.2.2
theorem rel_yX (h : relT X M) : X 0 4 0 ≤ 999 := by rw [relU_y h.1]; exact rel_yM h
theorem rel_rM (h : relT X M) : okR M := relR_okR h.1.2.1
theorem rel_rX (h : relT X M) : okRl (X 12) := h.1.2.1.2.2.2.2.2.1
theorem rel_bX (h : relT X M) : X 12 4 0 < p2 (X 12 3 0) := h.1.2.1.2.2.2.2.2.2
theorem rel_hM (h : relT X M) : 0 ≤ M 13 0 ∧ M 13 0 ≤ 96 := h.1.2.2.1.2.2.1
theorem rel_lM (h : relT X M) : ∀ j : Int, 0 ≤ j → j < 96 → 0 ≤ M 12 j ∧ M 12 j ≤ 255 := h.1.2.2.1.2.2.2
theorem rel_hX (h : relT X M) : 0 ≤ X 16 1 0 ∧ X 16 1 0 ≤ 96 := by rw [h.1.2.2.1.2.1]; exact rel_hM h
theorem rel_lX (h : relT X M) : ∀ j : Int, 0 ≤ j → j < 96 → 0 ≤ X 16 0 j ∧ X 16 0 j ≤ 255 := by rw [h.1.2.2.1.1]; exact rel_lM h
theorem rel_nM (h : relT X M) : 0 ≤ M 38 0 ∧ M 38 0 ≤ 12 := h.1.2.2.2.1.2.2.1
theorem rel_roM (h : relT X M) : ∀ j : Int, 0 ≤ j → j < 12 → 0 ≤ M 37 j ∧ M 37 j ≤ 99 := h.1.2.2.2.1.2.2.2
theorem rel_nX (h : relT X M) : 0 ≤ X 18 5 0 ∧ X 18 5 0 ≤ 12 := by rw [h.1.2.2.2.1.2.1]; exact rel_nM h
theorem rel_roX (h : relT X M) : ∀ j : Int, 0 ≤ j → j < 12 → 0 ≤ X 18 4 j ∧ X 18 4 j ≤ 99 := by rw [h.1.2.2.2.1.1]; exact rel_roM h
theorem rel_nnX (h : relT X M) : 0 ≤ X 12 3 0 ∧ X 12 3 0 ≤ 6 := (rel_rX h).1.1
theorem rel_nnM (h : relT X M) : 0 ≤ M 5 0 ∧ M 5 0 ≤ 6 := (rel_rM h).1
theorem rel_28M (h : relT X M) : 0 ≤ M 28 0 ∧ M 28 0 ≤ 8 := h.1.2.2.2.2.2.2.1
theorem rel_28 (h : relT X M) : X 15 3 0 = M 28 0 := h.1.2.2.2.2.2.1
theorem rel_15X (h : relT X M) : (0 ≤ X 15 2 0 ∧ X 15 2 0 < 8) ∧ 0 ≤ X 15 3 0 ∧ X 15 3 0 ≤ 8 := ⟨h.1.2.2.2.2.2.2.2.1, by rw [rel_28 h]; exact rel_28M h⟩
theorem rel_i (h : relT X M) : X 18 9 0 = M 22 0 := h.1.2.2.2.2.1.1
theorem rel_iM (h : relT X M) : M 22 0 = 0 ∨ M 22 0 = 1 := by
  rcases h.1.2.2.2.2.1.2.2 with k | ⟨k, _⟩
  · exact Or.inl k
  · exact Or.inr k
theorem rel_iX (h : relT X M) : X 18 9 0 = 0 ∨ X 18 9 0 = 1 := by rw [rel_i h]; exact rel_iM h
theorem rel_y1X (h : relT X M) : 0 ≤ X 1 4 0 := h.1.2.2.2.2.1.2.1
theorem rel_tX (h : relT X M) : okT (x0S X) := (rel_E h.1).2.2
theorem rel_tM (h : relT X M) : okT (mS M) := (rel_E h.1).2.1
theorem rel_p6 (h : relT X M) : X 12 0 = M 6 := h.1.2.1.1
theorem rel_p7 (h : relT X M) : X 12 1 = M 7 := h.1.2.1.2.1
theorem rel_p8 (h : relT X M) : X 12 2 = M 8 := h.1.2.1.2.2.1
theorem rel_p5 (h : relT X M) : X 12 3 0 = M 5 0 := h.1.2.1.2.2.2.1
theorem rel_p9 (h : relT X M) : uR (X 12) = M 9 := h.1.2.1.2.2.2.2.1
end
/-- what a pair of calls leaves -/
def lwJ (κ : Kp) (xa : Nat → Nat → Nat) (ma : Nat → Nat) (u u2 : va_W) : Prop := ∃ (X2 : XS) (M2 : MS), u = xw κ xa X2 ∧ u2 = mw κ ma M2 ∧ relT X2 M2
section
variable {κ : Kp} {xa : Nat → Nat → Nat} {ma : Nat → Nat} {X N : XS} {M NM : MS} {r r2 : Int32} {u u2 : va_W}
theorem opl_s {qa qb : Int} (h : relT X M) (hN : relU N NM) (e : qa = qb) (a : qXs κ xa N X qa r u) (b : qMs κ ma NM M qb r2 u2) : r = r2 ∧ lwJ κ xa ma u u2 := by
  obtain ⟨X2, a1, a2, a3, a4⟩ := a
  obtain ⟨M2, b1, b2, b3, b4⟩ := b
  subst e
  exact ⟨a2.trans b2.symm, X2, M2, a1, b1, rel_s hN a3 b3 h.2 a4 b4⟩
theorem opl_q {qa qb : Int} (h : relT X M) (e : qa = qb) (a : qX κ xa X qa r u) (b : qM κ ma M qb r2 u2) : r = r2 ∧ lwJ κ xa ma u u2 := opl_s h h.1 e a b
theorem opl_2 {qa qb s : Int} (h : relT X M) (e : qa = qb) (a : qX2 κ xa X qa s r u) (b : qM2 κ ma M qb s r2 u2) : r = r2 ∧ lwJ κ xa ma u u2 := by
  obtain ⟨X2, a1, a2, a3, a4⟩ := a
  obtain ⟨M2, b1, b2, b3, b4⟩ := b
  subst e
  exact ⟨a2.trans b2.symm, X2, M2, a1, b1, rel_s h.1 a3 b3 h.2 a4 b4⟩
theorem opl_L {r r2 : Int64} {qa qb s : Int} (h : relT X M) (e : qa = qb) (a : qXL κ xa X qa s r u) (b : qML κ ma M qb s r2 u2) : r = r2 ∧ lwJ κ xa ma u u2 := by
  obtain ⟨X2, a1, a2, a3, a4⟩ := a
  obtain ⟨M2, b1, b2, b3, b4⟩ := b
  subst e
  exact ⟨a2.trans b2.symm, X2, M2, a1, b1, rel_s h.1 a3 b3 h.2 a4 b4⟩
theorem sameM_9 {N M2 : MS} {v : Int → Int} (h : sameM N M2) : sameM (mA N 9 v) (mA M2 9 v) := by
  obtain ⟨m0, m1, m2, m3, m4, m5, m6, m7, m8, m9, m12, m13, m21, m22, m26, m28, m37, m38⟩ := h
  exact ⟨m0, m1, m2, m3, m4, m5, m6, m7, m8, rfl, m12, m13, m21, m22, m26, m28, m37, m38⟩
theorem opl_puts {p c : Int} {qa qb : Int} (h : relT X M) (e : qa = qb) (a : qXs κ xa (ePutsX X p c) X qa r u) (b : qMs κ ma (ePutsM M p c) M qb r2 u2) : r = r2 ∧ lwJ κ xa ma u u2 := by
  obtain ⟨v, h1, h2⟩ := eff_puts h.1 p c
  obtain ⟨X2, a1, a2, a3, a4⟩ := a
  obtain ⟨M2, b1, b2, b3, b4⟩ := b
  subst e
  have e9 : M2 9 = ePutsM M p c 9 := b3.2.2.2.2.2.2.2.2.2.1
  exact ⟨a2.trans b2.symm, X2, mA M2 9 v, a1, b1.trans (mw_9 (fun j j0 => by rw [e9]; exact h2 j j0)), rel_s h1 a3 (sameM_9 b3) h.2 a4 b4⟩
theorem opl_trou (h : relT X M) (a : ∃ (q : Int) (X2 : XS), r = iI q ∧ u = xw κ xa X2 ∧ trX X X2 q) (b : ∃ (q : Int) (M2 : MS), r2 = iI q ∧ u2 = mw κ ma M2 ∧ trM M M2 q) : r = r2 ∧ lwJ κ xa ma u u2 := by
  obtain ⟨q, X2, a1, a2, a3⟩ := a
  obtain ⟨q2, M2, b1, b2, b3⟩ := b
  obtain ⟨e, v, h1, h2⟩ := eff_trou h.1 h.2 a3 b3
  subst e
  exact ⟨a1.trans b1.symm, X2, mA M2 9 v, a2, b2.trans (mw_9 h2), h1⟩
end
theorem pcN_b : ∀ k : Nat, k < 6 → ∀ x : Nat, x < 2 ^ k → pcN (x + 2 ^ k) = pcN x + 1 := by decide +kernel
theorem frc_fb (u : Int → Int) (k : Nat) (hk : k ≤ 6) : pcnt (fbits u (k : Int)) = frc u (k : Int) := by
  induction k with
  | zero => exact pcnt_0
  | succ k ih =>
    have e : ((k + 1 : Nat) : Int) = (k : Int) + 1 := by omega
    have b := fbits_bd u (n := (k : Int)) (by omega)
    have ih := ih (by omega)
    have s : fbits u ((k : Int) + 1) = fbits u (k : Int) + fbf u (k : Int) := sumI_s _ (by omega)
    rw [e, s, frc_s u (by omega), ← ih]
    unfold fbf fr1
    by_cases q : u (k : Int) = 0
    · rw [if_pos q, if_pos q]
      have p : p2 (k : Int) = ((2 ^ k : Nat) : Int) := by unfold p2; rw [Int.toNat_natCast]
      rw [p] at b ⊢
      have t := pcN_b k (by omega) (fbits u (k : Int)).toNat (by omega)
      have t2 : (fbits u (k : Int) + ((2 ^ k : Nat) : Int)).toNat = (fbits u (k : Int)).toNat + 2 ^ k := by omega
      unfold pcnt
      rw [t2, t]
      omega
    · rw [if_neg q, if_neg q, Int.add_zero, Int.add_zero]
theorem rel_free {X : XS} {M : MS} (h : relT X M) : X 12 3 0 - pcnt (X 12 4 0) = pcnt (fbits (M 9) (M 5 0)) := by
  rw [free_cnt (rel_rX h) (rel_bX h), rel_p9 h, rel_p5 h]
  have n := rel_nnM h
  obtain ⟨k, e⟩ : ∃ k : Nat, M 5 0 = (k : Int) := ⟨(M 5 0).toNat, by omega⟩
  rw [e]
  exact (frc_fb _ k (by omega)).symm
theorem rel_rest {X : XS} {M S : MS} (h : relT X M) (e : M 22 0 = 1 → X 1 4 0 = S 4 0) : qRestore (X 18 9 0) (X 1 4 0) = qRestore (M 22 0) (S 4 0) := by
  unfold qRestore
  rw [rel_i h]
  by_cases q : M 22 0 = 1
  · rw [if_pos q, if_pos q]; exact e q
  · rw [if_neg q, if_neg q]
