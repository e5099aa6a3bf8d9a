/-! THE TWO SIDES, TIED: what the class's objects and the reference's arrays say of each other -/
def relI (C1 R13 : MS) (i : Int) (f : Int → Int) (j : Int) : Prop := i = j ∧ 0 ≤ C1 4 0 ∧ (j = 0 ∨ (j = 1 ∧ ∃ S : MS, (∀ z : Int, 0 ≤ z → z < 74 → f z = snapF S z) ∧ cl C1 = cl S ∧ okC (cl S) ∧ S 4 0 ≤ 999 ∧ R13 0 = S 6 ∧ R13 1 = S 7 ∧ R13 2 = S 8 ∧ R13 3 0 = S 5 0 ∧ uR R13 = S 9 ∧ okRl R13 ∧ R13 4 0 < p2 (R13 3 0)))
abbrev slI (nx h i : Int) : Int := (nx + 8 - h + i) % 8
abbrev relS (X : XS) (nx h : Int) (g : Int → Int) (N : Int) (P6 P7 P8 : Int → Int) (i : Int) : Prop := ∃ S : MS, (∀ z : Int, 0 ≤ z → z < 74 → g (74 * i + z) = snapF S z) ∧ cl (X (4 + (slI nx h i).toNat)) = cl S ∧ okC (cl S) ∧ S 4 0 ≤ 999 ∧ S 5 0 = N ∧ S 6 = P6 ∧ S 7 = P7 ∧ S 8 = P8 ∧ S 9 = (fun p => X 15 1 (slI nx h i) / p2 p % 2) ∧ 0 ≤ X 15 1 (slI nx h i) ∧ X 15 1 (slI nx h i) < p2 N
def relK (X : XS) (g : Int → Int) (h N : Int) (P6 P7 P8 : Int → Int) : Prop := X 15 3 0 = h ∧ (0 ≤ h ∧ h ≤ 8) ∧ (0 ≤ X 15 2 0 ∧ X 15 2 0 < 8) ∧ ∀ i : Int, 0 ≤ i → i < h → relS X (X 15 2 0) h g N P6 P7 P8 i
def relR (R M : MS) : Prop := R 0 = M 6 ∧ R 1 = M 7 ∧ R 2 = M 8 ∧ R 3 0 = M 5 0 ∧ uR R = M 9 ∧ okRl R ∧ R 4 0 < p2 (R 3 0)
def relU (X : XS) (M : MS) : Prop := (cl (X 0) = cl M ∧ okC (cl M) ∧ M 4 0 ≤ 999) ∧ relR (X 12) M ∧ (X 16 0 = M 12 ∧ X 16 1 0 = M 13 0 ∧ (0 ≤ M 13 0 ∧ M 13 0 ≤ 96) ∧ ∀ j : Int, 0 ≤ j → j < 96 → 0 ≤ M 12 j ∧ M 12 j ≤ 255) ∧ (X 18 4 = M 37 ∧ X 18 5 0 = M 38 0 ∧ (0 ≤ M 38 0 ∧ M 38 0 ≤ 12) ∧ ∀ j : Int, 0 ≤ j → j < 12 → 0 ≤ M 37 j ∧ M 37 j ≤ 99) ∧ relI (X 1) (X 13) (X 18 9 0) (M 21) (M 22 0) ∧ relK X (M 26) (M 28 0) (M 5 0) (M 6) (M 7) (M 8)
def relT (X : XS) (M : MS) : Prop := relU X M ∧ X 18 6 = M 11
theorem relK_X {X X2 : XS} {g : Int → Int} {h N : Int} {P6 P7 P8 : Int → Int} (k : relK X g h N P6 P7 P8) (h15 : X2 15 = X 15) (ho : ∀ o, 4 ≤ o → o < 12 → X2 o = X o) : relK X2 g h N P6 P7 P8 := by
  obtain ⟨k1, k2, k3, k4⟩ := k
  refine ⟨by rw [h15]; exact k1, k2, by rw [h15]; exact k3, fun i a b => ?_⟩
  have q := k4 i a b
  rw [h15]
  have hv : 0 ≤ slI (X 15 2 0) h i ∧ slI (X 15 2 0) h i < 8 := by unfold slI; omega
  obtain ⟨S, q1, q2, q3⟩ := q
  refine ⟨S, q1, ?_, by rw [h15]; exact q3⟩
  rw [ho _ (by omega) (by omega)]
  exact q2
/-- a call's end: what its effect N is tied, the answer's refusal counted on both sides -/
theorem rel_s {X N X2 : XS} {M NM M2 : MS} {q : Int} (h : relU N NM) (hx : sameX N X2) (hm : sameM NM M2) (hr : X 18 6 = M 11) (h6 : X2 18 6 = rfa (X 18 6) q) (h11 : M2 11 = rfa (M 11) q) : relT X2 M2 := by
  refine ⟨?_, by rw [h6, h11, hr]⟩
  obtain ⟨⟨x0, x1, xp, x12, x13, x15, x16⟩, y4, y5, y9⟩ := hx
  obtain ⟨m0, m1, m2, m3, m4, m5, m6, m7, m8, m9, m12, m13, m21, m22, m26, m28, m37, m38⟩ := hm
  obtain ⟨⟨a1, a2, a3⟩, ⟨b1, b2, b3, b4, b5, b6, b7⟩, ⟨c1, c2, c3, c4⟩, ⟨d1, d2, d3, d4⟩, e, f⟩ := h
  have hcl : cl M2 = cl NM := by
    show (M2 0, M2 1, M2 2, M2 3, M2 4 0) = (NM 0, NM 1, NM 2, NM 3, NM 4 0)
    rw [m0, m1, m2, m3, m4]
  refine ⟨⟨by rw [x0, hcl]; exact a1, by rw [hcl]; exact a2, by rw [m4]; exact a3⟩, ⟨?_, ?_, ?_, ?_, ?_, ?_, ?_⟩, ⟨?_, ?_, ?_, ?_⟩, ⟨?_, ?_, ?_, ?_⟩, ?_, ?_⟩
  · rw [x12, m6]; exact b1
  · rw [x12, m7]; exact b2
  · rw [x12, m8]; exact b3
  · rw [x12, m5]; exact b4
  · rw [x12, m9]; exact b5
  · rw [x12]; exact b6
  · rw [x12]; exact b7
  · rw [x16, m12]; exact c1
  · rw [x16, m13]; exact c2
  · rw [m13]; exact c3
  · rw [m12]; exact c4
  · rw [y4, m37]; exact d1
  · rw [y5, m38]; exact d2
  · rw [m38]; exact d3
  · rw [m37]; exact d4
  · rw [x1, x13, y9, m21, m22]; exact e
  · rw [m26, m28, m5, m6, m7, m8]; exact relK_X f x15 xp
/-- another cloth now -/
theorem rel_cl {X : XS} {M : MS} {D : MS} {C : Cl} (h : relU X M) (hD : cl D = C) (ok : okC C) (hy : yr C ≤ 999) : relU (setO X 0 D) (stC M C) := by
  obtain ⟨a, b, c, d, e, f⟩ := h
  refine ⟨⟨hD, ok, hy⟩, b, c, d, e, ?_⟩
  exact relK_X f rfl (fun o h1 h2 => setO_n (by omega))
theorem relU_12 {X : XS} {M : MS} (h : relU X M) : relU (setO X 12 (X 12)) M := by rw [setO_self]; exact h
theorem relU_0 {X : XS} {M : MS} (h : relU X M) : relU (setO X 0 (X 0)) M := by rw [setO_self]; exact h
/-- the facts that the calls ask for -/
theorem relU_y {X : XS} {M : MS} (h : relU X M) : X 0 4 0 = M 4 0 := congrArg yr h.1.1
theorem relU_a {X : XS} {M : MS} (h : relU X M) : X 0 2 = M 2 := congrArg ag h.1.1
theorem relU_k {X : XS} {M : MS} (h : relU X M) : X 0 0 = M 0 := congrArg ki h.1.1
theorem relU_w {X : XS} {M : MS} (h : relU X M) : X 0 3 = M 3 := congrArg we h.1.1
theorem relR_okR {R M : MS} (h : relR R M) : okR M := by
  obtain ⟨h1, h2, h3, h4, h5, ⟨⟨n0, n1⟩, hr⟩, _⟩ := h
  refine ⟨by rw [← h4]; exact n0, fun p a b => ?_⟩
  rw [← h1, ← h2, ← h3, ← h5]
  have k := hr p a b
  refine ⟨k.1, k.2.1, k.2.2, ?_⟩
  show 0 ≤ R 4 0 / p2 p % 2 ∧ R 4 0 / p2 p % 2 ≤ 1
  omega
/-- the snapshot's places -/
theorem seg_at {f S : Int → Int} {s k z : Int} (h0 : 0 ≤ z) (h1 : z < k) : segT f s S k (74 * s + z) = S z := by
  unfold segT
  rw [if_pos (by omega), show 74 * s + z - 74 * s = z by omega]
theorem seg_n {f S : Int → Int} {s i z : Int} (hi : i ≠ s) (h0 : 0 ≤ z) (h1 : z < 74) : segT f s S 74 (74 * i + z) = f (74 * i + z) := by
  unfold segT
  rw [if_neg (by omega)]
/-- a turn kept -/
theorem rel_note {X : XS} {M : MS} (h : relU X M) : relU (noteX X) (kpt M) := by
  obtain ⟨a, b, c, d, e, ⟨f1, f2, f3, f4⟩⟩ := h
  have hz := f3
  have e0 : noteX X 0 = X 0 := noteX_o hz (by omega)
  have e1 : noteX X 1 = X 1 := noteX_o hz (by omega)
  have e12 : noteX X 12 = X 12 := noteX_o hz (by omega)
  have e13 : noteX X 13 = X 13 := noteX_o hz (by omega)
  have e16 : noteX X 16 = X 16 := noteX_o hz (by omega)
  have e18 : noteX X 18 = X 18 := noteX_o hz (by omega)
  have e15 : noteX X 15 = mA (mA (mA (X 15) 1 (uI (X 15 1) (X 15 2 0) (X 12 4 0))) 2 (fun _ => (X 15 2 0 + 1) % 8)) 3 (fun _ => min 8 (X 15 3 0 + 1)) := setO_s
  obtain ⟨b1, b2, b3, b4, b5, b6, b7⟩ := b
  refine ⟨by rw [e0]; exact a, by rw [e12]; exact ⟨b1, b2, b3, b4, b5, b6, b7⟩, by rw [e16]; exact c, by rw [e18]; exact d, by rw [e1, e13, e18]; exact e, ?_, ?_, ?_, fun i i0 i1 => ?_⟩
  · rw [e15]
    show min 8 (X 15 3 0 + 1) = khn (M 28 0)
    unfold khn
    split <;> omega
  · show 0 ≤ khn (M 28 0) ∧ khn (M 28 0) ≤ 8
    unfold khn
    split <;> omega
  · rw [e15]
    show 0 ≤ (X 15 2 0 + 1) % 8 ∧ (X 15 2 0 + 1) % 8 < 8
    omega
  · have i1 : i < khn (M 28 0) := i1
    have n2 : noteX X 15 2 0 = (X 15 2 0 + 1) % 8 := by rw [e15]; rfl
    have n1 : noteX X 15 1 = uI (X 15 1) (X 15 2 0) (X 12 4 0) := by rw [e15]; rfl
    have m26 : kpt M 26 = khs (M 26) (M 28 0) (snapF M) := rfl
    have m28 : kpt M 28 0 = khn (M 28 0) := rfl
    unfold relS slI
    rw [n1, n2, m26, m28]
    obtain ⟨v, hv⟩ : ∃ v : Int, v = ((X 15 2 0 + 1) % 8 + 8 - khn (M 28 0) + i) % 8 := ⟨_, rfl⟩
    rw [← hv]
    by_cases q : i = khn (M 28 0) - 1
    · have vn : v = X 15 2 0 := by rw [hv]; omega
      refine ⟨M, fun z z0 z1 => ?_, ?_, a.2.1, a.2.2, rfl, rfl, rfl, rfl, ?_, ?_, ?_⟩
      · unfold khs
        unfold khn at q
        by_cases r : M 28 0 = 8
        · rw [if_pos r] at q ⊢
          rw [show i = 7 by omega]
          exact seg_at z0 z1
        · rw [if_neg r] at q ⊢
          rw [show i = M 28 0 by omega]
          exact seg_at z0 z1
      · rw [vn]
        show cl (noteX X (4 + (X 15 2 0).toNat)) = cl M
        unfold noteX
        rw [setO_n (by omega), setO_s]
        exact a.1
      · rw [vn, uI_s]; exact b5.symm
      · rw [vn, uI_s]; exact b6.1.2.1
      · rw [vn, uI_s]
        show X 12 4 0 < p2 (M 5 0)
        rw [← b4]; exact b7
    · have key : ∃ j : Int, (0 ≤ j ∧ j < M 28 0) ∧ v = (X 15 2 0 + 8 - M 28 0 + j) % 8 ∧ v ≠ X 15 2 0 ∧ ∀ z : Int, 0 ≤ z → z < 74 → khs (M 26) (M 28 0) (snapF M) (74 * i + z) = M 26 (74 * j + z) := by
        unfold khn at q hv i1
        by_cases r : M 28 0 = 8
        · rw [if_pos r] at q hv i1
          refine ⟨i + 1, by omega, by rw [hv]; omega, by rw [hv]; omega, fun z z0 z1 => ?_⟩
          unfold khs
          rw [if_pos r, seg_n (by omega) z0 z1]
          unfold shT
          rw [if_pos (by omega)]
          congr 1
          omega
        · rw [if_neg r] at q hv i1
          refine ⟨i, by omega, by rw [hv]; omega, by rw [hv]; omega, fun z z0 z1 => ?_⟩
          unfold khs
          rw [if_neg r, seg_n (by omega) z0 z1]
      obtain ⟨j, j1, j2, j3, j4⟩ := key
      obtain ⟨S, s1, s2, s3, s4, s5, s6, s7, s8, s9, s10, s11⟩ := f4 j j1.1 j1.2
      rw [show slI (X 15 2 0) (M 28 0) j = v from j2.symm] at s2 s9 s10 s11
      have hvb : 0 ≤ v ∧ v < 8 := by rw [hv]; omega
      refine ⟨S, fun z z0 z1 => by rw [j4 z z0 z1]; exact s1 z z0 z1, ?_, s3, s4, s5, s6, s7, s8, ?_, ?_, ?_⟩
      · have e : noteX X (4 + v.toNat) = X (4 + v.toNat) := by
          unfold noteX
          rw [setO_n (by omega), setO_n (by omega)]
        rw [e]; exact s2
      · rw [uI_n j3]; exact s9
      · rw [uI_n j3]; exact s10
      · rw [uI_n j3]; exact s11

theorem uI_at {f : Int → Int} {c : Int} (h : f c = 0) : uI f c 0 = f := by rw [← h]; exact uI_self f c
/-- the effects, tied -/
theorem eff_feed {X : XS} {M : MS} (h : relU X M) (l : Int) : relU (eFeedX X l) (eFeedM M l) := by
  have hc := h.2.2.1
  unfold eFeedX eFeedM
  rw [hc.2.1, hc.1]
  by_cases q : (0 ≤ l ∧ l ≤ 255) ∧ M 13 0 < 96
  · rw [if_pos q, if_pos q]
    obtain ⟨a, b, c, d, e, f⟩ := h
    refine ⟨a, b, ⟨rfl, ?_, ?_, fun j j0 j1 => ?_⟩, d, e, relK_X f rfl (fun o _ _ => setO_n (by omega))⟩
    · show M 13 0 + 1 = M 13 0 + 1; rfl
    · show 0 ≤ M 13 0 + 1 ∧ M 13 0 + 1 ≤ 96; omega
    · show 0 ≤ uI (M 12) (M 13 0) l j ∧ uI (M 12) (M 13 0) l j ≤ 255
      unfold uI
      split
      · exact q.1
      · exact c.2.2.2 j j0 j1
  · rw [if_neg q, if_neg q]; exact h
theorem eff_row {X : XS} {M : MS} (h : relU X M) (v : Int) : relU (eRowX X v) (eRowM M v) := by
  have hd := h.2.2.2.1
  unfold eRowX eRowM
  rw [hd.2.1, hd.1]
  by_cases q : (0 ≤ v ∧ v ≤ 99) ∧ M 38 0 < 12
  · rw [if_pos q, if_pos q]
    obtain ⟨a, b, c, d, e, f⟩ := h
    refine ⟨a, b, c, ⟨rfl, ?_, ?_, fun j j0 j1 => ?_⟩, e, relK_X f rfl (fun o _ _ => setO_n (by omega))⟩
    · show M 38 0 + 1 = M 38 0 + 1; rfl
    · show 0 ≤ M 38 0 + 1 ∧ M 38 0 + 1 ≤ 12; omega
    · show 0 ≤ uI (M 37) (M 38 0) v j ∧ uI (M 37) (M 38 0) v j ≤ 99
      unfold uI
      split
      · exact q.1
      · exact d.2.2.2 j j0 j1
  · rw [if_neg q, if_neg q]; exact h
theorem eff_judge {X : XS} {M : MS} (h : relU X M) : relU (eJudgeX X) (eJudgeM M) := by
  unfold eJudgeX eJudgeM
  rw [if_pos rfl, if_pos rfl]
  obtain ⟨a, b, c, d, e, f⟩ := h
  exact ⟨a, b, c, ⟨d.1, rfl, (by decide : (0 : Int) ≤ 0 ∧ (0 : Int) ≤ 12), d.2.2.2⟩, e, relK_X f rfl (fun o _ _ => setO_n (by omega))⟩
theorem eff_piece {X : XS} {M : MS} (h : relU X M) (k f a : Int) : relU (ePieceX X k f a) (ePieceM M k f a) := by
  have hb := h.2.1
  unfold ePieceX ePieceM
  rw [hb.2.2.2.1]
  by_cases q : okPiece (M 5 0) k f a
  · rw [if_pos q, if_pos q]
    obtain ⟨A, b, c, d, e, F⟩ := h
    obtain ⟨b1, b2, b3, b4, b5, ⟨⟨⟨n0, n6⟩, u0, u64⟩, hr⟩, b7⟩ := b
    have hz : M 9 (M 5 0) = 0 := by
      rw [← b5, ← b4]
      show X 12 4 0 / p2 (X 12 3 0) % 2 = 0
      rw [Int.ediv_eq_zero_of_lt u0 b7]; rfl
    refine ⟨A, ⟨?_, ?_, ?_, ?_, ?_, ⟨⟨⟨?_, ?_⟩, u0, u64⟩, fun j x y => ⟨?_, ?_, ?_⟩⟩, ?_⟩, c, d, e, ?_, ?_, F.2.2.1, fun i i0 i1 => ?_⟩
    · show uI (X 12 0) (M 5 0) k = uI (M 6) (M 5 0) k; rw [b1]
    · show uI (X 12 1) (M 5 0) f = uI (M 7) (M 5 0) f; rw [b2]
    · show uI (X 12 2) (M 5 0) a = uI (M 8) (M 5 0) a; rw [b3]
    · show M 5 0 + 1 = M 5 0 + 1; rfl
    · show uR (X 12) = uI (M 9) (M 5 0) 0
      rw [uI_at hz]; exact b5
    · show 0 ≤ M 5 0 + 1; omega
    · show M 5 0 + 1 ≤ 6; omega
    · exact uI6 (fun j a c => (hr j a c).1) (by omega) j x y
    · exact uI6 (fun j a c => (hr j a c).2.1) (by omega) j x y
    · exact uI6 (fun j a c => (hr j a c).2.2) (by omega) j x y
    · show X 12 4 0 < p2 (M 5 0 + 1)
      have := p2_le (c := X 12 3 0) (n := M 5 0 + 1) (by omega)
      omega
    · show (0 : Int) = 0; rfl
    · show (0 : Int) ≤ 0 ∧ (0 : Int) ≤ 8; decide
    · exact absurd (show i < 0 from i1) (by omega)
  · rw [if_neg q, if_neg q]; exact h
theorem rel_base {X : XS} {M : MS} (h : relU X M) : relU (setO (setO (noteX X) 12 (X 12)) 0 (X 0)) (kpt M) := by
  have hz := h.2.2.2.2.2.2.2.1
  have e12 : noteX X 12 = X 12 := noteX_o hz (by omega)
  have e0 : noteX X 0 = X 0 := noteX_o hz (by omega)
  rw [← e12, setO_self, ← e0, setO_self]
  exact rel_note h
theorem rel_base2 {X : XS} {M : MS} {D : MS} {C : Cl} (h : relU X M) (hD : cl D = C) (ok : okC C) (hy : yr C ≤ 999) : relU (setO (setO (noteX X) 12 (X 12)) 0 D) (stC (kpt M) C) := by
  have k := rel_cl (rel_base h) hD ok hy
  rw [setO_setO] at k
  exact k
theorem eff_cell {X : XS} {M : MS} (h : relU X M) (c k f a : Int) : relU (eCellX X c k f a) (eCellM M c k f a) := by
  unfold eCellX eCellM
  by_cases q : okCell c k f a
  · rw [if_pos q, if_pos q]
    refine rel_base2 h ?_ (make_ok h.1.2.1 (by omega) (by omega) (by omega)) h.1.2.2
    rw [h.1.1]; rfl
  · rw [if_neg q, if_neg q]; exact h
theorem eff_years {X : XS} {M : MS} (h : relU X M) (n : Int) : relU (eYearsX X n) (eYearsM M n) := by
  unfold eYearsX eYearsM
  rw [relU_y h]
  by_cases q : okYears (M 4 0) n
  · rw [if_pos q, if_pos q]
    refine rel_base2 h ?_ (goI_ok h.1.2.1 n) ?_
    · rw [h.1.1]; rfl
    · rw [goI_yr (by omega)]; exact q.2
  · rw [if_neg q, if_neg q]; exact h
theorem relU_M3 {X : XS} {M : MS} {f : Int → Int} (h : relU X (stC M (M 0, M 1, M 2, f, M 4 0))) : relU X (mA M 3 f) := h
theorem eff_wears {X : XS} {M : MS} (h : relU X M) (c v : Int) : relU (eWearsX X c v) (eWearsM M c v) := by
  unfold eWearsX eWearsM
  by_cases q : okWears c v
  · rw [if_pos q, if_pos q]
    have ok := h.1.2.1
    have k := rel_base2 (D := mA (X 0) 3 (uI (X 0 3) c v)) (C := (M 0, M 1, M 2, uI (M 3) c v, M 4 0)) h (by show (X 0 0, X 0 1, X 0 2, uI (X 0 3) c v, X 0 4 0) = _; rw [relU_w h, relU_k h, relU_a h, relU_y h, show X 0 1 = M 1 from congrArg fi h.1.1]) (okC.mk ok.k ok.f ok.a (uI_rng ok.w (by omega)) ok.2) h.1.2.2
    exact relU_M3 (M := kpt M) k
  · rw [if_neg q, if_neg q]; exact h
