/-! THE EFFECTS, ON: puts, back, image, restore, trousers -/
theorem mw_9 {κ : Kp} {ma : Nat → Nat} {M : MS} {u : Int → Int} (h : ∀ j : Int, 0 ≤ j → M 9 j = u j) : mw κ ma M = mw κ ma (mA M 9 u) := by
  have e : (fun j : Nat => iI (M 9 (j : Int))) = fun j : Nat => iI (u (j : Int)) := funext (fun j => by rw [h (j : Int) (by omega)])
  have h1 : mw κ ma M = mw κ ma (mA M 9 (M 9)) := by rw [mA_self]
  rw [h1, ← mse_9, ← mse_9, e]
/-- the roll's used ones laid anew -/
theorem rel_12 {X : XS} {M D : MS} (h : relU X M) (d0 : D 0 = X 12 0) (d1 : D 1 = X 12 1) (d2 : D 2 = X 12 2) (d3 : D 3 0 = X 12 3 0) (ho : okRl D) (hb : D 4 0 < p2 (D 3 0)) : relU (setO X 12 D) (mA M 9 (uR D)) := by
  obtain ⟨a, ⟨b1, b2, b3, b4, b5, b6, b7⟩, c, d, e, f⟩ := h
  exact ⟨a, ⟨d0.trans b1, d1.trans b2, d2.trans b3, d3.trans b4, rfl, ho, hb⟩, c, d, e, relK_X f rfl (fun o _ _ => setO_n (by omega))⟩
theorem okRl_4 {R : MS} {b : Int} (h : okRl R) (h0 : 0 ≤ b) (hb : b < p2 (R 3 0)) : okRl (mA R 4 (fun _ => b)) := by
  obtain ⟨⟨⟨n0, n6⟩, u0, u64⟩, hr⟩ := h
  have h64 := p2_le (c := R 3 0) (n := 6) n6
  have e64 : p2 6 = 64 := by decide
  exact ⟨⟨⟨n0, n6⟩, h0, (by show b < 64; omega)⟩, hr⟩
theorem eff_puts {X : XS} {M : MS} (h : relU X M) (p c : Int) : ∃ u, relU (ePutsX X p c) (mA (ePutsM M p c) 9 u) ∧ ∀ j : Int, 0 ≤ j → ePutsM M p c 9 j = u j := by
  have hb := h.2.1
  obtain ⟨b1, b2, b3, b4, b5, b6, b7⟩ := hb
  unfold ePutsX ePutsM
  rw [b5, b4]
  by_cases q : okPuts (M 9) (M 5 0) p c
  · rw [if_pos q, if_pos q]
    have hr := b6.2 p (by omega) (by have := b6.1.1; omega)
    have k := rel_base2 (D := stC (X 0) (mkp (cl (X 0)) (X 12 0) (X 12 1) (X 12 2) p c)) (C := mkp (cl M) (M 6) (M 7) (M 8) p c) h (by rw [cl_stC, h.1.1, b1, b2, b3]) (by rw [b1, b2, b3] at hr; exact make_ok h.1.2.1 hr.1 hr.2.1 hr.2.2) h.1.2.2
    have hbn := bor_p2b (b := X 12 4 0) (q := p) (N := X 12 3 0) b6.1.2.1 b7 q.1.1.1 (by omega)
    have e12 : setO (setO (noteX X) 12 (X 12)) 0 (stC (X 0) (mkp (cl (X 0)) (X 12 0) (X 12 1) (X 12 2) p c)) 12 = X 12 := rfl
    refine ⟨uR (mA (X 12) 4 (fun _ => bor (X 12 4 0) (p2 p))), ?_, fun j j0 => ?_⟩
    · have k2 := rel_12 (D := mA (X 12) 4 (fun _ => bor (X 12 4 0) (p2 p))) k rfl rfl rfl rfl (okRl_4 b6 (by unfold bor; omega) hbn) hbn
      rw [mA_mA]
      exact k2
    · show uI (M 9) p 1 j = bor (X 12 4 0) (p2 p) / p2 j % 2
      rw [uR_use q.1.1.1 j0 b6.1.2.1, b5]
  · rw [if_neg q, if_neg q]
    exact ⟨M 9, by rw [mA_self]; exact h, fun _ _ => rfl⟩
/-- what is taken back -/
theorem back_S {X : XS} {M : MS} (h : relU X M) : ∃ S : MS, (0 < M 28 0 → ∀ z : Int, 0 ≤ z → z < 74 → M 26 (74 * (M 28 0 - 1) + z) = snapF S z) ∧ relU (eBackX X) (eBackM M S) := by
  obtain ⟨a, ⟨b1, b2, b3, b4, b5, b6, b7⟩, c, d, e, ⟨f1, f2, f3, f4⟩⟩ := h
  unfold eBackX
  by_cases q : 0 < M 28 0
  · obtain ⟨S, s1, s2, s3, s4, s5, s6, s7, s8, s9, s10, s11⟩ := f4 (M 28 0 - 1) (by omega) (by omega)
    have hy : slI (X 15 2 0) (M 28 0) (M 28 0 - 1) = (X 15 2 0 + 8 - 1) % 8 := by unfold slI; omega
    rw [hy] at s2 s9 s10 s11
    refine ⟨S, fun _ => s1, ?_⟩
    unfold eBackM
    rw [if_pos (by omega), if_pos q]
    have hbb : X 15 1 ((X 15 2 0 + 8 - 1) % 8) < p2 (X 12 3 0) := by rw [b4]; exact s11
    refine ⟨⟨s2, s3, s4⟩, ⟨b1.trans s6.symm, b2.trans s7.symm, b3.trans s8.symm, b4.trans s5.symm, s9.symm, okRl_4 b6 s10 hbb, hbb⟩, c, d, e, ?_, ?_, ?_, fun i i0 i1 => ?_⟩
    · show X 15 3 0 - 1 = M 28 0 - 1; rw [f1]
    · show 0 ≤ M 28 0 - 1 ∧ M 28 0 - 1 ≤ 8; omega
    · show 0 ≤ (X 15 2 0 + 8 - 1) % 8 ∧ (X 15 2 0 + 8 - 1) % 8 < 8; omega
    · have i1 : i < M 28 0 - 1 := i1
      obtain ⟨T, t1, t2, t3, t4, t5, t6, t7, t8, t9, t10, t11⟩ := f4 i i0 (by omega)
      have hv : slI ((X 15 2 0 + 8 - 1) % 8) (M 28 0 - 1) i = slI (X 15 2 0) (M 28 0) i := by unfold slI; omega
      have hvb : 0 ≤ slI (X 15 2 0) (M 28 0) i ∧ slI (X 15 2 0) (M 28 0) i < 8 := by unfold slI; omega
      show relS (takeX X) ((X 15 2 0 + 8 - 1) % 8) (M 28 0 - 1) (M 26) (S 5 0) (S 6) (S 7) (S 8) i
      unfold relS
      rw [hv]
      refine ⟨T, t1, ?_, t3, t4, t5.trans s5.symm, t6.trans s6.symm, t7.trans s7.symm, t8.trans s8.symm, t9, t10, by rw [s5]; exact t11⟩
      have e0 : takeX X (4 + (slI (X 15 2 0) (M 28 0) i).toNat) = X (4 + (slI (X 15 2 0) (M 28 0) i).toNat) := by
        unfold takeX
        rw [setO_n (by omega), setO_n (by omega), setO_n (by omega)]
      rw [e0]; exact t2
  · refine ⟨M, fun z => absurd z q, ?_⟩
    unfold eBackM
    rw [if_neg (by omega), if_neg q]
    exact ⟨a, ⟨b1, b2, b3, b4, b5, b6, b7⟩, c, d, e, ⟨f1, f2, f3, f4⟩⟩
theorem eff_image {X : XS} {M : MS} (h : relU X M) : relU (eImageX X) (eImageM M) := by
  unfold eImageX eImageM
  rw [if_pos rfl, if_pos rfl]
  obtain ⟨a, ⟨b1, b2, b3, b4, b5, b6, b7⟩, c, d, e, f⟩ := h
  have hy : 0 ≤ yr (cl (X 0)) := by rw [a.1]; exact a.2.1.2
  exact ⟨a, ⟨b1, b2, b3, b4, b5, b6, b7⟩, c, d, ⟨rfl, hy, Or.inr ⟨rfl, M, fun _ _ _ => rfl, a.1, a.2.1, a.2.2, b1, b2, b3, b4, b5, b6, b7⟩⟩, relK_X f rfl (fun o h1 h2 => by rw [setO_n (by omega), setO_n (by omega), setO_n (by omega)])⟩
theorem restore_S {X : XS} {M : MS} (h : relU X M) : ∃ S : MS, (M 22 0 = 1 → ∀ z : Int, 0 ≤ z → z < 74 → M 21 z = snapF S z) ∧ 0 ≤ S 4 0 ∧ (M 22 0 = 1 → X 1 4 0 = S 4 0) ∧ relU (eRestoreX X) (eRestoreM M S) := by
  obtain ⟨a, b, c, d, ⟨e1, e2, e3⟩, f⟩ := h
  unfold eRestoreX
  rw [e1]
  rcases e3 with e3 | ⟨e3, S, s1, s2, s3, s4, s5, s6, s7, s8, s9, s10, s11⟩
  · refine ⟨M, fun z => by omega, a.2.1.2, fun z => by omega, ?_⟩
    unfold eRestoreM
    rw [if_neg (by omega), if_neg (by omega)]
    exact ⟨a, b, c, d, ⟨e1, e2, Or.inl e3⟩, f⟩
  · refine ⟨S, fun _ => s1, s3.2, fun _ => congrArg yr s2, ?_⟩
    unfold eRestoreM
    rw [if_pos e3, if_pos e3]
    refine ⟨⟨s2, s3, s4⟩, ⟨s5, s6, s7, s8, s9, s10, s11⟩, c, d, ⟨e1, e2, Or.inr ⟨e3, S, s1, s2, s3, s4, s5, s6, s7, s8, s9, s10, s11⟩⟩, ?_, ?_, f.2.2.1, fun i i0 i1 => ?_⟩
    · show (0 : Int) = 0; rfl
    · show (0 : Int) ≤ 0 ∧ (0 : Int) ≤ 8; decide
    · exact absurd (show i < 0 from i1) (by omega)
/-- the trousers -/
theorem rel_E {X : XS} {M : MS} (h : relU X M) : sE (x0S X) (mS M) ∧ okT (mS M) ∧ okT (x0S X) := by
  obtain ⟨a, b, c, d, e, f⟩ := h
  have k := relR_okR b
  obtain ⟨b1, b2, b3, b4, b5, b6, b7⟩ := b
  have hE : sE (x0S X) (mS M) := ⟨a.1, b1, b2, b3, b4, fun p _ => congrFun b5 p⟩
  have hM : okT (mS M) := ⟨a.2.1, a.2.2, k.1, k.2⟩
  refine ⟨hE, hM, ?_⟩
  unfold x0S
  rw [a.1, b1, b2, b3, b4, b5]
  exact hM
theorem eff_trou {X X2 : XS} {M M2 : MS} {q r : Int} (h : relU X M) (hr : X 18 6 = M 11) (hx : trX X X2 q) (hm : trM M M2 r) : q = r ∧ ∃ u, relT X2 (mA M2 9 u) ∧ ∀ j : Int, 0 ≤ j → M2 9 j = u j := by
  have hE := rel_E h
  obtain ⟨a, b, c, d, e, f⟩ := h
  obtain ⟨⟨f1, g1, g2⟩, x16, x18, x1, x13, xp⟩ := hx
  obtain ⟨⟨f2, k1, k2⟩, m13, m12, m11, m21, m22, m26, m37, m38⟩ := hm
  rw [c.1, c.2.1] at g1 g2
  have hf := FFR_eq g1 k1
  subst hf
  have hc : X2 16 0 = M2 12 ∧ X2 16 1 0 = M2 13 0 ∧ (0 ≤ M2 13 0 ∧ M2 13 0 ≤ 96) ∧ ∀ j : Int, 0 ≤ j → j < 96 → 0 ≤ M2 12 j ∧ M2 12 j ≤ 255 := by
    rw [x16, m12, m13]
    exact ⟨c.1, rfl, by decide, c.2.2.2⟩
  have hd : X2 18 4 = M2 37 ∧ X2 18 5 0 = M2 38 0 ∧ (0 ≤ M2 38 0 ∧ M2 38 0 ≤ 12) ∧ ∀ j : Int, 0 ≤ j → j < 12 → 0 ≤ M2 37 j ∧ M2 37 j ≤ 99 := by
    rw [x18, m37, m38]
    exact d
  have he : relI (X2 1) (X2 13) (X2 18 9 0) (M2 21) (M2 22 0) := by rw [x1, x13, x18, m21, m22]; exact e
  have h11 : X2 18 6 = M2 11 := by rw [x18, m11]; exact hr
  -- nothing has come
  have stay : X2 0 = X 0 → X2 12 = X 12 → X2 15 = X 15 → mS M2 = mS M → M2 28 = M 28 → ∃ u, relT X2 (mA M2 9 u) ∧ ∀ j : Int, 0 ≤ j → M2 9 j = u j := fun y0 y12 y15 yS y28 => by
    have z1 : cl M2 = cl M := congrArg Prod.fst yS
    have z2 : (M2 6, M2 7, M2 8, M2 5 0, M2 9) = (M 6, M 7, M 8, M 5 0, M 9) := congrArg Prod.snd yS
    have z6 : M2 6 = M 6 := congrArg (fun t : RO => t.1) z2
    have z7 : M2 7 = M 7 := congrArg (fun t : RO => t.2.1) z2
    have z8 : M2 8 = M 8 := congrArg (fun t : RO => t.2.2.1) z2
    have z5 : M2 5 0 = M 5 0 := congrArg (fun t : RO => t.2.2.2.1) z2
    have z9 : M2 9 = M 9 := congrArg (fun t : RO => t.2.2.2.2) z2
    have z4 : M2 4 0 = M 4 0 := congrArg yr z1
    obtain ⟨b1, b2, b3, b4, b5, b6, b7⟩ := b
    refine ⟨M2 9, ⟨?_, by rw [mA_self]; exact h11⟩, fun _ _ => rfl⟩
    rw [mA_self]
    refine ⟨by rw [y0, z1, z4]; exact a, ⟨?_, ?_, ?_, ?_, ?_, ?_, ?_⟩, hc, hd, he, ?_⟩
    · rw [y12, z6]; exact b1
    · rw [y12, z7]; exact b2
    · rw [y12, z8]; exact b3
    · rw [y12, z5]; exact b4
    · rw [y12, z9]; exact b5
    · rw [y12]; exact b6
    · rw [y12]; exact b7
    · rw [m26, y28, z5, z6, z7, z8]
      exact relK_X f y15 xp
  rcases g2 with ⟨p1, p2, p3, p4, p5⟩ | ⟨p1, t, p2, p3⟩ <;> rcases k2 with ⟨s1, s2, s3, s4⟩ | ⟨s1, t2, s2, s3⟩
  · exact ⟨by omega, stay p3 p4 p5 s3 s4⟩
  · omega
  · omega
  · obtain ⟨G0, hg⟩ : ∃ G0 : Nat, gd (M 12) (M 13 0) G0 ∧ M 13 0 ≤ ps (M 12) (M 13 0) G0 := by
      obtain ⟨K0, w1, w2⟩ := g1
      rcases w2 with ⟨y1, y2, y3⟩ | ⟨y1, y2, y3⟩
      · exact ⟨K0, w1, y2⟩
      · exact absurd (y3.symm.trans p1) y2
    have hT := TR_eq hE.1 hE.2.2 hg.1 hg.2 p2 s2
    refine ⟨hT.1, ?_⟩
    rcases p3 with ⟨y1, y2, y3, y4⟩ | ⟨y1, y2, y3, y4⟩ <;> rcases s3 with ⟨w1, w2, w3⟩ | ⟨w1, w2, w3⟩
    · -- all has come
      have okt : okT t2 := by
        obtain ⟨KK, v1, v2⟩ := s2
        rcases v2 with ⟨v3, v4, v5⟩ | ⟨v3, v4, v5, v6⟩
        · rw [v5]
          have hle := gd_in hg.1 hg.2 (fun j z => (v1 j z).1)
          exact sS_ok hE.2.1 KK (fun j z => hg.1 j (by omega)) (fun j z => (v1 j z).2)
        · rw [v6]; exact hE.2.1
      obtain ⟨e1, e2, e3, e4, e5, e6⟩ := hT.2
      obtain ⟨r1, r2, r3, r4, r5, r6, r7⟩ := y3
      have z1 : cl M2 = t2.1 := congrArg Prod.fst w2
      have z2 : (M2 6, M2 7, M2 8, M2 5 0, M2 9) = t2.2 := congrArg Prod.snd w2
      have z6 : M2 6 = pk t2.2 := congrArg (fun t : RO => t.1) z2
      have z7 : M2 7 = pf t2.2 := congrArg (fun t : RO => t.2.1) z2
      have z8 : M2 8 = pa t2.2 := congrArg (fun t : RO => t.2.2.1) z2
      have z5 : M2 5 0 = pn t2.2 := congrArg (fun t : RO => t.2.2.2.1) z2
      have z9 : M2 9 = pu t2.2 := congrArg (fun t : RO => t.2.2.2.2) z2
      refine ⟨uR (X2 12), ⟨⟨⟨?_, ?_, ?_⟩, ⟨?_, ?_, ?_, ?_, rfl, r6, r7⟩, hc, hd, he, ?_, ?_, ?_, fun i i0 i1 => ?_⟩, h11⟩, fun j j0 => ?_⟩
      · show cl (X2 0) = cl M2; rw [y2, z1, e1]
      · show okC (cl M2); rw [z1]; exact okt.1
      · show yr (cl M2) ≤ 999; rw [z1]; exact okt.2.1
      · show X2 12 0 = M2 6; rw [r1, z6, e2]
      · show X2 12 1 = M2 7; rw [r2, z7, e3]
      · show X2 12 2 = M2 8; rw [r3, z8, e4]
      · show X2 12 3 0 = M2 5 0; rw [r4, z5, e5]
      · rw [y4]; show (0 : Int) = M2 28 0; rw [w3]
      · show 0 ≤ M2 28 0 ∧ M2 28 0 ≤ 8; rw [w3]; decide
      · rw [y4]; exact f.2.2.1
      · have i1 : i < M2 28 0 := i1
        omega
      · rw [z9, r5 j j0, e6 j j0]
    · have := hT.1; omega
    · have := hT.1; omega
    · exact stay y2 y3 y4 w2 w3
