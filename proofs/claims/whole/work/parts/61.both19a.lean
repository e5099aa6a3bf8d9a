def xS (X : XS) : Sx := (cl (X 2), (X 14 0, X 14 1, X 14 2, X 14 3 0, uR (X 14)))
def x0S (X : XS) : Sx := (cl (X 0), (X 12 0, X 12 1, X 12 2, X 12 3 0, uR (X 12)))
def ap14 (L : Int → Int) (n p : Int) (D : MS) : MS := if lt L n p = 114 then mA (mA (mA (mA D 0 (uI (D 0) (D 3 0) (num L n (p + 1) 1))) 1 (uI (D 1) (D 3 0) (num L n (p + 2) 1))) 2 (uI (D 2) (D 3 0) (num L n (p + 3) 2))) 3 (fun _ => D 3 0 + 1) else if lt L n p = 112 then mA D 4 (fun _ => bor (D 4 0) (p2 (num L n (p + 1) 1))) else D
def tlX (L : Int → Int) (n p : Int) (X : XS) : XS := setO (setO X 2 (stC (X 2) (apC L n p (xS X)))) 14 (ap14 L n p (X 14))
theorem tl_set {κ : Kp} {xa : Nat → Nat → Nat} (X : XS) (A : MS) : xw κ xa (setO X 2 A) = xw κ xa (setO (setO X 2 A) 14 (X 14)) := congrArg (xw κ xa) (setO_self (X := setO X 2 A) (o := 14)).symm
theorem tl_c {κ : Kp} {xa : Nat → Nat → Nat} {L : Int → Int} {n p : Int} {X : XS} (h : lt L n p = 99) : xw κ xa (setO X 2 (stC (X 2) (fil (cl (X 2)) (num L n (p + 1) 2) (num L n (p + 3) 2) (num L n (p + 5) 1) (num L n (p + 5 + 1) 1) (num L n (p + 5 + 2) 2)))) = xw κ xa (tlX L n p X) := by
  have e1 : apC L n p (xS X) = fil (cl (X 2)) (num L n (p + 1) 2) (num L n (p + 3) 2) (num L n (p + 5) 1) (num L n (p + 6) 1) (num L n (p + 7) 2) := if_pos h
  have e2 : ap14 L n p (X 14) = X 14 := (if_neg (by omega)).trans (if_neg (by omega))
  unfold tlX
  rw [e1, e2, show p + 5 + 1 = p + 6 by omega, show p + 5 + 2 = p + 7 by omega]
  exact tl_set X _
theorem tl_r {κ : Kp} {xa : Nat → Nat → Nat} {L : Int → Int} {n p : Int} {X : XS} (h : lt L n p = 114) : xw κ xa (setO X 14 (mA (mA (mA (mA (X 14) 0 (uI (X 14 0) (X 14 3 0) (num L n (p + 1) 1))) 1 (uI (X 14 1) (X 14 3 0) (num L n (p + 2) 1))) 2 (uI (X 14 2) (X 14 3 0) (num L n (p + 3) 2))) 3 (fun _ => X 14 3 0 + 1))) = xw κ xa (tlX L n p X) := by
  have e1 : apC L n p (xS X) = cl (X 2) := (if_neg (by omega)).trans (if_pos h)
  have e2 : ap14 L n p (X 14) = mA (mA (mA (mA (X 14) 0 (uI (X 14 0) (X 14 3 0) (num L n (p + 1) 1))) 1 (uI (X 14 1) (X 14 3 0) (num L n (p + 2) 1))) 2 (uI (X 14 2) (X 14 3 0) (num L n (p + 3) 2))) 3 (fun _ => X 14 3 0 + 1) := if_pos h
  unfold tlX
  rw [e1, e2]
  rfl
theorem tl_p {κ : Kp} {xa : Nat → Nat → Nat} {L : Int → Int} {n p : Int} {X : XS} (h : lt L n p = 112) : xw κ xa (setO (setO X 2 (stC (X 2) (make (cl (X 2)) (num L n (p + 2) 2) (X 14 0 (num L n (p + 1) 1)) (X 14 1 (num L n (p + 1) 1)) (X 14 2 (num L n (p + 1) 1))))) 14 (mA (X 14) 4 (fun _ => bor (X 14 4 0) (p2 (num L n (p + 1) 1))))) = xw κ xa (tlX L n p X) := by
  have e1 : apC L n p (xS X) = make (cl (X 2)) (num L n (p + 2) 2) (X 14 0 (num L n (p + 1) 1)) (X 14 1 (num L n (p + 1) 1)) (X 14 2 (num L n (p + 1) 1)) := (if_neg (by omega)).trans ((if_neg (by omega)).trans (if_pos h))
  have e2 : ap14 L n p (X 14) = mA (X 14) 4 (fun _ => bor (X 14 4 0) (p2 (num L n (p + 1) 1))) := (if_neg (by omega)).trans (if_pos h)
  unfold tlX
  rw [e1, e2]
theorem tl_w {κ : Kp} {xa : Nat → Nat → Nat} {L : Int → Int} {n p : Int} {X : XS} (h : lt L n p = 119) : xw κ xa (setO X 2 (mA (X 2) 3 (uI (X 2 3) (num L n (p + 1) 2) (num L n (p + 3) 2)))) = xw κ xa (tlX L n p X) := by
  have e1 : apC L n p (xS X) = (X 2 0, X 2 1, X 2 2, uI (X 2 3) (num L n (p + 1) 2) (num L n (p + 3) 2), X 2 4 0) := (if_neg (by omega)).trans ((if_neg (by omega)).trans ((if_neg (by omega)).trans (if_pos h)))
  have e2 : ap14 L n p (X 14) = X 14 := (if_neg (by omega)).trans (if_neg (by omega))
  unfold tlX
  rw [e1, e2, ← tl_set]
  exact xc_ext (by decide) rfl
theorem tl_y {κ : Kp} {xa : Nat → Nat → Nat} {L : Int → Int} {n p : Int} {X : XS} (h : lt L n p = 121) : xw κ xa (setO X 2 (stC (X 2) (goI (num L n (p + 1) 2) (cl (X 2))))) = xw κ xa (tlX L n p X) := by
  have e1 : apC L n p (xS X) = goI (num L n (p + 1) 2) (cl (X 2)) := (if_neg (by omega)).trans ((if_neg (by omega)).trans ((if_neg (by omega)).trans (if_neg (by omega))))
  have e2 : ap14 L n p (X 14) = X 14 := (if_neg (by omega)).trans (if_neg (by omega))
  unfold tlX
  rw [e1, e2, ← tl_set]
theorem tl_if {κ : Kp} {xa : Nat → Nat → Nat} {L : Int → Int} {n p : Int} {X Y : XS} {c : Prop} [Decidable c] (hc : c ↔ okB L n p (xS X) = true) (hw : xw κ xa Y = xw κ xa (tlX L n p X)) : xw κ xa (if c then Y else X) = xw κ xa (if okB L n p (xS X) = true then tlX L n p X else X) := by
  by_cases q : c
  · rw [if_pos q, if_pos (hc.mp q)]; exact hw
  · rw [if_neg q, if_neg (fun z => q (hc.mpr z))]
/-- the class's roll, told as the reference's -/
def rolR (D : MS) (R : RO) : Prop := D 0 = pk R ∧ D 1 = pf R ∧ D 2 = pa R ∧ D 3 0 = pn R ∧ (∀ p : Int, 0 ≤ p → uR D p = pu R p) ∧ okRl D ∧ D 4 0 < p2 (D 3 0)
theorem mod2_bt (x y : Int) (h : (x % 2 = 1) ↔ (y % 2 = 1)) : x % 2 = y % 2 := by omega
theorem uR_use {D : MS} {q p : Int} (hq : 0 ≤ q) (hp : 0 ≤ p) (hb : 0 ≤ D 4 0) : bor (D 4 0) (p2 q) / p2 p % 2 = uI (uR D) q 1 p := by
  have h := bt_bor (x := D 4 0) (y := p2 q) (o := p) hb (by have := p2_pos q; omega)
  have k := bt_p2 (c := q) (o := p) hq hp
  unfold bt at h k
  by_cases r : p = q
  · rw [r, uI_s]
    rw [r] at h k
    exact h.mpr (Or.inr (k.mpr rfl))
  · rw [uI_n r]
    refine mod2_bt _ _ (h.trans ⟨fun z => z.elim id (fun y => absurd (k.mp y).symm r), fun z => Or.inl z⟩)
theorem bor_p2b {b q N : Int} (h0 : 0 ≤ b) (hb : b < p2 N) (hq : 0 ≤ q) (hN : q < N) : bor b (p2 q) < p2 N := by
  have e : p2 q < p2 N := by
    have h := p2_le (c := q + 1) (n := N) (by omega)
    rw [p2_s hq] at h
    have := p2_pos q
    omega
  have e1 : ∀ x : Int, p2 x = ((2 ^ x.toNat : Nat) : Int) := fun _ => rfl
  have k := Nat.or_lt_two_pow (x := b.toNat) (y := (p2 q).toNat) (n := N.toNat) (by rw [e1] at hb; omega) (by rw [e1 N] at e; have := p2_pos q; omega)
  unfold bor
  rw [e1 N]
  omega
theorem rolR_s {L : Int → Int} {n p : Int} {D : MS} {s : Sx} (h : rolR D s.2) (ok : okT s) (hs : okS L n p s) (hf : stF L n p = -1) (hp : 0 ≤ p) : rolR (ap14 L n p D) (apR L n p s) := by
  have hb := nbs_ok hf hp
  obtain ⟨h1, h2, h3, h4, h5, h6, h7⟩ := h
  obtain ⟨⟨⟨n0, n6⟩, b0, b64⟩, hr⟩ := h6
  unfold okS at hs
  by_cases q : lt L n p = 114
  · have b := hb.2.1 q
    rw [if_neg (by omega), if_pos q] at hs
    have e1 : ap14 L n p D = mA (mA (mA (mA D 0 (uI (D 0) (D 3 0) (num L n (p + 1) 1))) 1 (uI (D 1) (D 3 0) (num L n (p + 2) 1))) 2 (uI (D 2) (D 3 0) (num L n (p + 3) 2))) 3 (fun _ => D 3 0 + 1) := if_pos q
    have e2 : apR L n p s = (uI (pk s.2) (pn s.2) (num L n (p + 1) 1), uI (pf s.2) (pn s.2) (num L n (p + 2) 1), uI (pa s.2) (pn s.2) (num L n (p + 3) 2), pn s.2 + 1, uI (pu s.2) (pn s.2) 0) := if_pos q
    rw [e1, e2]
    refine ⟨?_, ?_, ?_, ?_, fun j a => ?_, ⟨⟨⟨?_, ?_⟩, b0, b64⟩, fun j a c => ⟨?_, ?_, ?_⟩⟩, ?_⟩
    · show uI (D 0) (D 3 0) _ = uI (pk s.2) (pn s.2) _; rw [h1, h4]
    · show uI (D 1) (D 3 0) _ = uI (pf s.2) (pn s.2) _; rw [h2, h4]
    · show uI (D 2) (D 3 0) _ = uI (pa s.2) (pn s.2) _; rw [h3, h4]
    · show D 3 0 + 1 = pn s.2 + 1; rw [h4]
    · show D 4 0 / p2 j % 2 = uI (pu s.2) (pn s.2) 0 j
      by_cases r : j = pn s.2
      · rw [r, uI_s, ← h4, Int.ediv_eq_zero_of_lt b0 h7]; rfl
      · rw [uI_n r]; exact h5 j a
    · show 0 ≤ D 3 0 + 1; omega
    · show D 3 0 + 1 ≤ 6; omega
    · exact uI6 (fun j a c => (hr j a c).1) (by omega) j a c
    · exact uI6 (fun j a c => (hr j a c).2.1) (by omega) j a c
    · exact uI6 (fun j a c => (hr j a c).2.2) (by omega) j a c
    · show D 4 0 < p2 (D 3 0 + 1)
      have := p2_le (c := D 3 0) (n := D 3 0 + 1) (by omega)
      omega
  · by_cases r : lt L n p = 112
    · have b := hb.2.2.1 r
      rw [if_neg (by omega), if_neg q, if_pos r] at hs
      have e1 : ap14 L n p D = mA D 4 (fun _ => bor (D 4 0) (p2 (num L n (p + 1) 1))) := (if_neg q).trans (if_pos r)
      have e2 : apR L n p s = (pk s.2, pf s.2, pa s.2, pn s.2, uI (pu s.2) (num L n (p + 1) 1) 1) := (if_neg q).trans (if_pos r)
      have hN : D 3 0 = pn s.2 := h4
      have hb2 := bor_p2b (b := D 4 0) (q := num L n (p + 1) 1) (N := D 3 0) b0 h7 b.1.1 (by omega)
      have h64 := p2_le (c := D 3 0) (n := 6) n6
      have e64 : p2 6 = 64 := by decide
      rw [e1, e2]
      refine ⟨h1, h2, h3, h4, fun j a => ?_, ⟨⟨⟨n0, n6⟩, ?_, ?_⟩, hr⟩, hb2⟩
      · show bor (D 4 0) (p2 (num L n (p + 1) 1)) / p2 j % 2 = uI (pu s.2) (num L n (p + 1) 1) 1 j
        rw [uR_use b.1.1 a b0]
        unfold uI
        split
        · rfl
        · exact h5 j a
      · show 0 ≤ bor (D 4 0) (p2 (num L n (p + 1) 1)); unfold bor; omega
      · show bor (D 4 0) (p2 (num L n (p + 1) 1)) < 64; omega
    · have e1 : ap14 L n p D = D := (if_neg q).trans (if_neg r)
      have e2 : apR L n p s = s.2 := (if_neg q).trans (if_neg r)
      rw [e1, e2]
      exact ⟨h1, h2, h3, h4, h5, ⟨⟨⟨n0, n6⟩, b0, b64⟩, hr⟩, h7⟩
/-- within the good ones -/
theorem gd_in {L : Int → Int} {n : Int} {G K : Nat} (hg : gd L n G) (hG : n ≤ ps L n G) (hK : ∀ j : Nat, j < K → ps L n j < n) : K ≤ G := by
  by_cases q : K ≤ G
  · exact q
  · have := hK G (by omega); omega
theorem dX5_tellOne_0 : decode cX5_tellOne 0 = .ok (.aload_n 0, 1) := by decide +kernel
theorem dX5_tellOne_1 : decode cX5_tellOne 1 = .ok (.getfield 33, 3) := by decide +kernel
theorem dX5_tellOne_4 : decode cX5_tellOne 4 = .ok (.iload_n 1, 1) := by decide +kernel
theorem dX5_tellOne_5 : decode cX5_tellOne 5 = .ok (.invokevirtual 111, 3) := by decide +kernel
theorem dX5_tellOne_8 : decode cX5_tellOne 8 = .ok (.lookupswitch 190 #[(99, 52), (112, 120), (114, 82), (119, 147), (121, 174)], 52) := by decide +kernel
theorem dX5_tellOne_60 : decode cX5_tellOne 60 = .ok (.aload_n 0, 1) := by decide +kernel
theorem dX5_tellOne_61 : decode cX5_tellOne 61 = .ok (.aload_n 0, 1) := by decide +kernel
theorem dX5_tellOne_62 : decode cX5_tellOne 62 = .ok (.getfield 33, 3) := by decide +kernel
theorem dX5_tellOne_65 : decode cX5_tellOne 65 = .ok (.iload_n 1, 1) := by decide +kernel
theorem dX5_tellOne_66 : decode cX5_tellOne 66 = .ok (.iconst 1, 1) := by decide +kernel
theorem dX5_tellOne_67 : decode cX5_tellOne 67 = .ok (.iadd, 1) := by decide +kernel
theorem dX5_tellOne_68 : decode cX5_tellOne 68 = .ok (.iconst 2, 1) := by decide +kernel
theorem dX5_tellOne_69 : decode cX5_tellOne 69 = .ok (.invokevirtual 114, 3) := by decide +kernel
theorem dX5_tellOne_72 : decode cX5_tellOne 72 = .ok (.aload_n 0, 1) := by decide +kernel
theorem dX5_tellOne_73 : decode cX5_tellOne 73 = .ok (.getfield 33, 3) := by decide +kernel
theorem dX5_tellOne_76 : decode cX5_tellOne 76 = .ok (.iload_n 1, 1) := by decide +kernel
theorem dX5_tellOne_77 : decode cX5_tellOne 77 = .ok (.iconst 3, 1) := by decide +kernel
theorem dX5_tellOne_78 : decode cX5_tellOne 78 = .ok (.iadd, 1) := by decide +kernel
theorem dX5_tellOne_79 : decode cX5_tellOne 79 = .ok (.iconst 2, 1) := by decide +kernel
theorem dX5_tellOne_80 : decode cX5_tellOne 80 = .ok (.invokevirtual 114, 3) := by decide +kernel
theorem dX5_tellOne_83 : decode cX5_tellOne 83 = .ok (.iload_n 1, 1) := by decide +kernel
theorem dX5_tellOne_84 : decode cX5_tellOne 84 = .ok (.iconst 5, 1) := by decide +kernel
theorem dX5_tellOne_85 : decode cX5_tellOne 85 = .ok (.iadd, 1) := by decide +kernel
theorem dX5_tellOne_86 : decode cX5_tellOne 86 = .ok (.invokevirtual 117, 3) := by decide +kernel
theorem dX5_tellOne_89 : decode cX5_tellOne 89 = .ok (.ireturn, 1) := by decide +kernel
theorem dX5_tellOne_90 : decode cX5_tellOne 90 = .ok (.aload_n 0, 1) := by decide +kernel
theorem dX5_tellOne_91 : decode cX5_tellOne 91 = .ok (.aload_n 0, 1) := by decide +kernel
theorem dX5_tellOne_92 : decode cX5_tellOne 92 = .ok (.getfield 33, 3) := by decide +kernel
theorem dX5_tellOne_95 : decode cX5_tellOne 95 = .ok (.iload_n 1, 1) := by decide +kernel
theorem dX5_tellOne_96 : decode cX5_tellOne 96 = .ok (.iconst 1, 1) := by decide +kernel
theorem dX5_tellOne_97 : decode cX5_tellOne 97 = .ok (.iadd, 1) := by decide +kernel
theorem dX5_tellOne_98 : decode cX5_tellOne 98 = .ok (.iconst 1, 1) := by decide +kernel
theorem dX5_tellOne_99 : decode cX5_tellOne 99 = .ok (.invokevirtual 114, 3) := by decide +kernel
theorem dX5_tellOne_102 : decode cX5_tellOne 102 = .ok (.aload_n 0, 1) := by decide +kernel
theorem dX5_tellOne_103 : decode cX5_tellOne 103 = .ok (.getfield 33, 3) := by decide +kernel
theorem dX5_tellOne_106 : decode cX5_tellOne 106 = .ok (.iload_n 1, 1) := by decide +kernel
theorem dX5_tellOne_107 : decode cX5_tellOne 107 = .ok (.iconst 2, 1) := by decide +kernel
theorem dX5_tellOne_108 : decode cX5_tellOne 108 = .ok (.iadd, 1) := by decide +kernel
theorem dX5_tellOne_109 : decode cX5_tellOne 109 = .ok (.iconst 1, 1) := by decide +kernel
theorem dX5_tellOne_110 : decode cX5_tellOne 110 = .ok (.invokevirtual 114, 3) := by decide +kernel
theorem dX5_tellOne_113 : decode cX5_tellOne 113 = .ok (.aload_n 0, 1) := by decide +kernel
theorem dX5_tellOne_114 : decode cX5_tellOne 114 = .ok (.getfield 33, 3) := by decide +kernel
theorem dX5_tellOne_117 : decode cX5_tellOne 117 = .ok (.iload_n 1, 1) := by decide +kernel
theorem dX5_tellOne_118 : decode cX5_tellOne 118 = .ok (.iconst 3, 1) := by decide +kernel
theorem dX5_tellOne_119 : decode cX5_tellOne 119 = .ok (.iadd, 1) := by decide +kernel
theorem dX5_tellOne_120 : decode cX5_tellOne 120 = .ok (.iconst 2, 1) := by decide +kernel
theorem dX5_tellOne_121 : decode cX5_tellOne 121 = .ok (.invokevirtual 114, 3) := by decide +kernel
theorem dX5_tellOne_124 : decode cX5_tellOne 124 = .ok (.invokevirtual 121, 3) := by decide +kernel
theorem dX5_tellOne_127 : decode cX5_tellOne 127 = .ok (.ireturn, 1) := by decide +kernel
theorem dX5_tellOne_128 : decode cX5_tellOne 128 = .ok (.aload_n 0, 1) := by decide +kernel
theorem dX5_tellOne_129 : decode cX5_tellOne 129 = .ok (.aload_n 0, 1) := by decide +kernel
theorem dX5_tellOne_130 : decode cX5_tellOne 130 = .ok (.getfield 33, 3) := by decide +kernel
theorem dX5_tellOne_133 : decode cX5_tellOne 133 = .ok (.iload_n 1, 1) := by decide +kernel
theorem dX5_tellOne_134 : decode cX5_tellOne 134 = .ok (.iconst 1, 1) := by decide +kernel
theorem dX5_tellOne_135 : decode cX5_tellOne 135 = .ok (.iadd, 1) := by decide +kernel
theorem dX5_tellOne_136 : decode cX5_tellOne 136 = .ok (.iconst 1, 1) := by decide +kernel
theorem dX5_tellOne_137 : decode cX5_tellOne 137 = .ok (.invokevirtual 114, 3) := by decide +kernel
theorem dX5_tellOne_140 : decode cX5_tellOne 140 = .ok (.aload_n 0, 1) := by decide +kernel
theorem dX5_tellOne_141 : decode cX5_tellOne 141 = .ok (.getfield 33, 3) := by decide +kernel
theorem dX5_tellOne_144 : decode cX5_tellOne 144 = .ok (.iload_n 1, 1) := by decide +kernel
theorem dX5_tellOne_145 : decode cX5_tellOne 145 = .ok (.iconst 2, 1) := by decide +kernel
theorem dX5_tellOne_146 : decode cX5_tellOne 146 = .ok (.iadd, 1) := by decide +kernel
theorem dX5_tellOne_147 : decode cX5_tellOne 147 = .ok (.iconst 2, 1) := by decide +kernel
theorem dX5_tellOne_148 : decode cX5_tellOne 148 = .ok (.invokevirtual 114, 3) := by decide +kernel
theorem dX5_tellOne_151 : decode cX5_tellOne 151 = .ok (.invokevirtual 124, 3) := by decide +kernel
theorem dX5_tellOne_154 : decode cX5_tellOne 154 = .ok (.ireturn, 1) := by decide +kernel
theorem dX5_tellOne_155 : decode cX5_tellOne 155 = .ok (.aload_n 0, 1) := by decide +kernel
theorem dX5_tellOne_156 : decode cX5_tellOne 156 = .ok (.aload_n 0, 1) := by decide +kernel
theorem dX5_tellOne_157 : decode cX5_tellOne 157 = .ok (.getfield 33, 3) := by decide +kernel
theorem dX5_tellOne_160 : decode cX5_tellOne 160 = .ok (.iload_n 1, 1) := by decide +kernel
theorem dX5_tellOne_161 : decode cX5_tellOne 161 = .ok (.iconst 1, 1) := by decide +kernel
theorem dX5_tellOne_162 : decode cX5_tellOne 162 = .ok (.iadd, 1) := by decide +kernel
theorem dX5_tellOne_163 : decode cX5_tellOne 163 = .ok (.iconst 2, 1) := by decide +kernel
theorem dX5_tellOne_164 : decode cX5_tellOne 164 = .ok (.invokevirtual 114, 3) := by decide +kernel
theorem dX5_tellOne_167 : decode cX5_tellOne 167 = .ok (.aload_n 0, 1) := by decide +kernel
theorem dX5_tellOne_168 : decode cX5_tellOne 168 = .ok (.getfield 33, 3) := by decide +kernel
theorem dX5_tellOne_171 : decode cX5_tellOne 171 = .ok (.iload_n 1, 1) := by decide +kernel
theorem dX5_tellOne_172 : decode cX5_tellOne 172 = .ok (.iconst 3, 1) := by decide +kernel
theorem dX5_tellOne_173 : decode cX5_tellOne 173 = .ok (.iadd, 1) := by decide +kernel
theorem dX5_tellOne_174 : decode cX5_tellOne 174 = .ok (.iconst 2, 1) := by decide +kernel
theorem dX5_tellOne_175 : decode cX5_tellOne 175 = .ok (.invokevirtual 114, 3) := by decide +kernel
theorem dX5_tellOne_178 : decode cX5_tellOne 178 = .ok (.invokevirtual 128, 3) := by decide +kernel
theorem dX5_tellOne_181 : decode cX5_tellOne 181 = .ok (.ireturn, 1) := by decide +kernel
theorem dX5_tellOne_182 : decode cX5_tellOne 182 = .ok (.aload_n 0, 1) := by decide +kernel
theorem dX5_tellOne_183 : decode cX5_tellOne 183 = .ok (.aload_n 0, 1) := by decide +kernel
theorem dX5_tellOne_184 : decode cX5_tellOne 184 = .ok (.getfield 33, 3) := by decide +kernel
theorem dX5_tellOne_187 : decode cX5_tellOne 187 = .ok (.iload_n 1, 1) := by decide +kernel
theorem dX5_tellOne_188 : decode cX5_tellOne 188 = .ok (.iconst 1, 1) := by decide +kernel
theorem dX5_tellOne_189 : decode cX5_tellOne 189 = .ok (.iadd, 1) := by decide +kernel
theorem dX5_tellOne_190 : decode cX5_tellOne 190 = .ok (.iconst 2, 1) := by decide +kernel
theorem dX5_tellOne_191 : decode cX5_tellOne 191 = .ok (.invokevirtual 114, 3) := by decide +kernel
theorem dX5_tellOne_194 : decode cX5_tellOne 194 = .ok (.invokevirtual 131, 3) := by decide +kernel
theorem dX5_tellOne_197 : decode cX5_tellOne 197 = .ok (.ireturn, 1) := by decide +kernel
theorem dX5_tellOne_198 : decode cX5_tellOne 198 = .ok (.iconst 0, 1) := by decide +kernel
theorem dX5_tellOne_199 : decode cX5_tellOne 199 = .ok (.ireturn, 1) := by decide +kernel
set_option maxRecDepth 100000 in
set_option maxHeartbeats 4000000 in
theorem k_X5_tellOne (κ : Kp) (xa : Nat → Nat → Nat) (X : XS) (p : Int) (hn : 0 ≤ X 16 1 0 ∧ X 16 1 0 ≤ 96) (hlr : ∀ j : Int, 0 ≤ j → j < 96 → 0 ≤ X 16 0 j ∧ X 16 0 j ≤ 255) (hf : stF (X 16 0) (X 16 1 0) p = -1) (hp : 0 ≤ p ∧ p ≤ 96) (ok : okC (cl (X 2))) (hy : 0 ≤ X 2 4 0 ∧ X 2 4 0 ≤ 999) (okr : okRl (X 14)) : mI κ yX5_tellOne cX5_tellOne 2 .boolean 6 [.ref (xa 18 100), .int (iI p)] (xw κ xa X) (is1 (iI (b2i (okB (X 16 0) (X 16 1 0) p (xS X) = true))) (xw κ xa (if okB (X 16 0) (X 16 1 0) p (xS X) = true then tlX (X 16 0) (X 16 1 0) p X else X))) := by
  refine mI_of (by decide) (Nat.le_of_ble_eq_true rfl) (fun E F K => ?_)
  refine g_lv (lv' := [(0, .ref (xa 18 100)), (1, .int (iI p))]) rfl ?_
  have hnb := nbs_ok hf hp.1
  have hl := sz_let (stF_ok hf hp.1).1
  have hlt := lt_bd (L := X 16 0) (n := X 16 1 0) hlr (by omega) p
  refine g_aload_n F 0 dX5_tellOne_0 rfl ?_
  refine g18_get_3 F  lf_X5_33 dX5_tellOne_1 ?_
  refine g_iload_n F 1 dX5_tellOne_4 rfl ?_
  refine g_callNI F (stk := [.int (iI p), .ref (xa 16 100)]) (st := []) (k_X3_letterAt κ xa X p (by omega) (show 0 ≤ ((X 16) 1 0) ∧ ((X 16) 1 0) ≤ 96 from by omega)) cal_X3_letterAt nm_X5_111 75 rfl rfl rfl rfl (by decide) rfl (Nat.le_of_ble_eq_true rfl) dX5_tellOne_5 (fun r5 ws5 _ hr5 => ?_)
  obtain ⟨rfl, rfl⟩ := hr5
  by_cases c8_99 : (lt (X 16 0) (X 16 1 0) p) = 99
  · skip
    refine g_lsw F 60 (by omega) dX5_tellOne_8 (by decide +kernel) (off := 52) (by rw [c8_99]; decide +kernel) (by decide) ?_
    refine g_aload_n F 0 dX5_tellOne_60 rfl ?_
    refine g_aload_n F 0 dX5_tellOne_61 rfl ?_
    refine g18_get_3 F  lf_X5_33 dX5_tellOne_62 ?_
    refine g_iload_n F 1 dX5_tellOne_65 rfl ?_
    refine g_iconst F dX5_tellOne_66 ?_
    refine g_iadd F dX5_tellOne_67 ?_
    refine g_iconst F dX5_tellOne_68 ?_
    refine g_callNI F (stk := [.int (iI 2), .int (iI (p + 1)), .ref (xa 16 100), .ref (xa 18 100)]) (st := [.ref (xa 18 100)]) (k_X3_number κ xa X (p + 1) 2 (by omega) (show 0 ≤ ((X 16) 1 0) ∧ ((X 16) 1 0) ≤ 96 from by omega)) cal_X3_number nm_X5_114 75 rfl rfl rfl rfl (by decide) rfl (Nat.le_of_ble_eq_true rfl) dX5_tellOne_69 (fun r69 ws69 _ hr69 => ?_)
    obtain ⟨rfl, rfl⟩ := hr69
    refine g_aload_n F 0 dX5_tellOne_72 rfl ?_
    refine g18_get_3 F  lf_X5_33 dX5_tellOne_73 ?_
    refine g_iload_n F 1 dX5_tellOne_76 rfl ?_
    refine g_iconst F dX5_tellOne_77 ?_
    refine g_iadd F dX5_tellOne_78 ?_
    refine g_iconst F dX5_tellOne_79 ?_
    refine g_callNI F (stk := [.int (iI 2), .int (iI (p + 3)), .ref (xa 16 100), .int (iI (num (X 16 0) (X 16 1 0) (p + 1) 2)), .ref (xa 18 100)]) (st := [.int (iI (num (X 16 0) (X 16 1 0) (p + 1) 2)), .ref (xa 18 100)]) (k_X3_number κ xa X (p + 3) 2 (by omega) (show 0 ≤ ((X 16) 1 0) ∧ ((X 16) 1 0) ≤ 96 from by omega)) cal_X3_number nm_X5_114 75 rfl rfl rfl rfl (by decide) rfl (Nat.le_of_ble_eq_true rfl) dX5_tellOne_80 (fun r80 ws80 _ hr80 => ?_)
    obtain ⟨rfl, rfl⟩ := hr80
    refine g_iload_n F 1 dX5_tellOne_83 rfl ?_
    refine g_iconst F dX5_tellOne_84 ?_
    refine g_iadd F dX5_tellOne_85 ?_
    refine g_callI F (stk := [.int (iI (p + 5)), .int (iI (num (X 16 0) (X 16 1 0) (p + 3) 2)), .int (iI (num (X 16 0) (X 16 1 0) (p + 1) 2)), .ref (xa 18 100)]) (st := []) (k_X5_tellCells κ xa X (num (X 16 0) (X 16 1 0) (p + 1) 2) (num (X 16 0) (X 16 1 0) (p + 3) 2) (p + 5) (by omega) hn) cal_X5_tellCells lm_X5_117 81 rfl rfl rfl rfl (by decide) rfl (Nat.le_of_ble_eq_true rfl) dX5_tellOne_86 (fun r86 ws86 _ hr86 => ?_)
    obtain ⟨rfl, rfl⟩ := hr86
    have hcc : lt (X 16 0) (X 16 1 0) p = 99 := c8_99
    have hiff : ((num (X 16 0) (X 16 1 0) (p + 1) 2) ≤ (num (X 16 0) (X 16 1 0) (p + 3) 2) ∧ (num (X 16 0) (X 16 1 0) (p + 3) 2) < 12 ∧ num (X 16 0) (X 16 1 0) (p + 5) 1 < 6) ↔ okB (X 16 0) (X 16 1 0) p (xS X) = true := by rw [okB_S]; unfold okS; rw [if_pos hcc] <;> exact Iff.rfl
    exact K xw_same ⟨b2i_c hiff, tl_if hiff (tl_c hcc)⟩ (b2i_nar _) dX5_tellOne_89
  by_cases c8_112 : (lt (X 16 0) (X 16 1 0) p) = 112
  · skip
    refine g_lsw F 128 (by omega) dX5_tellOne_8 (by decide +kernel) (off := 120) (by rw [c8_112]; decide +kernel) (by decide) ?_
    refine g_aload_n F 0 dX5_tellOne_128 rfl ?_
    refine g_aload_n F 0 dX5_tellOne_129 rfl ?_
    refine g18_get_3 F  lf_X5_33 dX5_tellOne_130 ?_
    refine g_iload_n F 1 dX5_tellOne_133 rfl ?_
    refine g_iconst F dX5_tellOne_134 ?_
    refine g_iadd F dX5_tellOne_135 ?_
    refine g_iconst F dX5_tellOne_136 ?_
    refine g_callNI F (stk := [.int (iI 1), .int (iI (p + 1)), .ref (xa 16 100), .ref (xa 18 100)]) (st := [.ref (xa 18 100)]) (k_X3_number κ xa X (p + 1) 1 (by omega) (show 0 ≤ ((X 16) 1 0) ∧ ((X 16) 1 0) ≤ 96 from by omega)) cal_X3_number nm_X5_114 75 rfl rfl rfl rfl (by decide) rfl (Nat.le_of_ble_eq_true rfl) dX5_tellOne_137 (fun r137 ws137 _ hr137 => ?_)
    obtain ⟨rfl, rfl⟩ := hr137
    refine g_aload_n F 0 dX5_tellOne_140 rfl ?_
    refine g18_get_3 F  lf_X5_33 dX5_tellOne_141 ?_
    refine g_iload_n F 1 dX5_tellOne_144 rfl ?_
    refine g_iconst F dX5_tellOne_145 ?_
    refine g_iadd F dX5_tellOne_146 ?_
    refine g_iconst F dX5_tellOne_147 ?_
    refine g_callNI F (stk := [.int (iI 2), .int (iI (p + 2)), .ref (xa 16 100), .int (iI (num (X 16 0) (X 16 1 0) (p + 1) 1)), .ref (xa 18 100)]) (st := [.int (iI (num (X 16 0) (X 16 1 0) (p + 1) 1)), .ref (xa 18 100)]) (k_X3_number κ xa X (p + 2) 2 (by omega) (show 0 ≤ ((X 16) 1 0) ∧ ((X 16) 1 0) ≤ 96 from by omega)) cal_X3_number nm_X5_114 75 rfl rfl rfl rfl (by decide) rfl (Nat.le_of_ble_eq_true rfl) dX5_tellOne_148 (fun r148 ws148 _ hr148 => ?_)
    obtain ⟨rfl, rfl⟩ := hr148
    refine g_callI F (stk := [.int (iI (num (X 16 0) (X 16 1 0) (p + 2) 2)), .int (iI (num (X 16 0) (X 16 1 0) (p + 1) 1)), .ref (xa 18 100)]) (st := []) (k_X5_tellPut κ xa X (num (X 16 0) (X 16 1 0) (p + 1) 1) (num (X 16 0) (X 16 1 0) (p + 2) 2) (by omega) okr) cal_X5_tellPut lm_X5_124 81 rfl rfl rfl rfl (by decide) rfl (Nat.le_of_ble_eq_true rfl) dX5_tellOne_151 (fun r151 ws151 _ hr151 => ?_)
    obtain ⟨rfl, rfl⟩ := hr151
    have hcc : lt (X 16 0) (X 16 1 0) p = 112 := c8_112
    have hiff : ((num (X 16 0) (X 16 1 0) (p + 1) 1) < X 14 3 0 ∧ uR (X 14) (num (X 16 0) (X 16 1 0) (p + 1) 1) = 0 ∧ (num (X 16 0) (X 16 1 0) (p + 2) 2) < 12) ↔ okB (X 16 0) (X 16 1 0) p (xS X) = true := by rw [okB_S]; unfold okS; rw [if_neg (by omega), if_neg (by omega), if_pos hcc] <;> exact Iff.rfl
    exact K xw_same ⟨b2i_c hiff, tl_if hiff (tl_p hcc)⟩ (b2i_nar _) dX5_tellOne_154
  by_cases c8_114 : (lt (X 16 0) (X 16 1 0) p) = 114
  · skip
    refine g_lsw F 90 (by omega) dX5_tellOne_8 (by decide +kernel) (off := 82) (by rw [c8_114]; decide +kernel) (by decide) ?_
    refine g_aload_n F 0 dX5_tellOne_90 rfl ?_
    refine g_aload_n F 0 dX5_tellOne_91 rfl ?_
    refine g18_get_3 F  lf_X5_33 dX5_tellOne_92 ?_
    refine g_iload_n F 1 dX5_tellOne_95 rfl ?_
    refine g_iconst F dX5_tellOne_96 ?_
    refine g_iadd F dX5_tellOne_97 ?_
    refine g_iconst F dX5_tellOne_98 ?_
    refine g_callNI F (stk := [.int (iI 1), .int (iI (p + 1)), .ref (xa 16 100), .ref (xa 18 100)]) (st := [.ref (xa 18 100)]) (k_X3_number κ xa X (p + 1) 1 (by omega) (show 0 ≤ ((X 16) 1 0) ∧ ((X 16) 1 0) ≤ 96 from by omega)) cal_X3_number nm_X5_114 75 rfl rfl rfl rfl (by decide) rfl (Nat.le_of_ble_eq_true rfl) dX5_tellOne_99 (fun r99 ws99 _ hr99 => ?_)
    obtain ⟨rfl, rfl⟩ := hr99
    refine g_aload_n F 0 dX5_tellOne_102 rfl ?_
    refine g18_get_3 F  lf_X5_33 dX5_tellOne_103 ?_
    refine g_iload_n F 1 dX5_tellOne_106 rfl ?_
    refine g_iconst F dX5_tellOne_107 ?_
    refine g_iadd F dX5_tellOne_108 ?_
    refine g_iconst F dX5_tellOne_109 ?_
    refine g_callNI F (stk := [.int (iI 1), .int (iI (p + 2)), .ref (xa 16 100), .int (iI (num (X 16 0) (X 16 1 0) (p + 1) 1)), .ref (xa 18 100)]) (st := [.int (iI (num (X 16 0) (X 16 1 0) (p + 1) 1)), .ref (xa 18 100)]) (k_X3_number κ xa X (p + 2) 1 (by omega) (show 0 ≤ ((X 16) 1 0) ∧ ((X 16) 1 0) ≤ 96 from by omega)) cal_X3_number nm_X5_114 75 rfl rfl rfl rfl (by decide) rfl (Nat.le_of_ble_eq_true rfl) dX5_tellOne_110 (fun r110 ws110 _ hr110 => ?_)
    obtain ⟨rfl, rfl⟩ := hr110
    refine g_aload_n F 0 dX5_tellOne_113 rfl ?_
    refine g18_get_3 F  lf_X5_33 dX5_tellOne_114 ?_
    refine g_iload_n F 1 dX5_tellOne_117 rfl ?_
    refine g_iconst F dX5_tellOne_118 ?_
    refine g_iadd F dX5_tellOne_119 ?_
    refine g_iconst F dX5_tellOne_120 ?_
    refine g_callNI F (stk := [.int (iI 2), .int (iI (p + 3)), .ref (xa 16 100), .int (iI (num (X 16 0) (X 16 1 0) (p + 2) 1)), .int (iI (num (X 16 0) (X 16 1 0) (p + 1) 1)), .ref (xa 18 100)]) (st := [.int (iI (num (X 16 0) (X 16 1 0) (p + 2) 1)), .int (iI (num (X 16 0) (X 16 1 0) (p + 1) 1)), .ref (xa 18 100)]) (k_X3_number κ xa X (p + 3) 2 (by omega) (show 0 ≤ ((X 16) 1 0) ∧ ((X 16) 1 0) ≤ 96 from by omega)) cal_X3_number nm_X5_114 75 rfl rfl rfl rfl (by decide) rfl (Nat.le_of_ble_eq_true rfl) dX5_tellOne_121 (fun r121 ws121 _ hr121 => ?_)
    obtain ⟨rfl, rfl⟩ := hr121
    refine g_callI F (stk := [.int (iI (num (X 16 0) (X 16 1 0) (p + 3) 2)), .int (iI (num (X 16 0) (X 16 1 0) (p + 2) 1)), .int (iI (num (X 16 0) (X 16 1 0) (p + 1) 1)), .ref (xa 18 100)]) (st := []) (k_X5_tellPiece κ xa X (num (X 16 0) (X 16 1 0) (p + 1) 1) (num (X 16 0) (X 16 1 0) (p + 2) 1) (num (X 16 0) (X 16 1 0) (p + 3) 2) ⟨by omega, okr.1.1⟩) cal_X5_tellPiece lm_X5_121 81 rfl rfl rfl rfl (by decide) rfl (Nat.le_of_ble_eq_true rfl) dX5_tellOne_124 (fun r124 ws124 _ hr124 => ?_)
    obtain ⟨rfl, rfl⟩ := hr124
    have hcc : lt (X 16 0) (X 16 1 0) p = 114 := c8_114
    have hiff : ((num (X 16 0) (X 16 1 0) (p + 1) 1) < 6 ∧ X 14 3 0 < 6) ↔ okB (X 16 0) (X 16 1 0) p (xS X) = true := by rw [okB_S]; unfold okS; rw [if_neg (by omega), if_pos hcc] <;> exact Iff.rfl
    exact K xw_same ⟨b2i_c hiff, tl_if hiff (tl_r hcc)⟩ (b2i_nar _) dX5_tellOne_127
  by_cases c8_119 : (lt (X 16 0) (X 16 1 0) p) = 119
  · skip
    refine g_lsw F 155 (by omega) dX5_tellOne_8 (by decide +kernel) (off := 147) (by rw [c8_119]; decide +kernel) (by decide) ?_
    refine g_aload_n F 0 dX5_tellOne_155 rfl ?_
    refine g_aload_n F 0 dX5_tellOne_156 rfl ?_
    refine g18_get_3 F  lf_X5_33 dX5_tellOne_157 ?_
    refine g_iload_n F 1 dX5_tellOne_160 rfl ?_
    refine g_iconst F dX5_tellOne_161 ?_
    refine g_iadd F dX5_tellOne_162 ?_
    refine g_iconst F dX5_tellOne_163 ?_
    refine g_callNI F (stk := [.int (iI 2), .int (iI (p + 1)), .ref (xa 16 100), .ref (xa 18 100)]) (st := [.ref (xa 18 100)]) (k_X3_number κ xa X (p + 1) 2 (by omega) (show 0 ≤ ((X 16) 1 0) ∧ ((X 16) 1 0) ≤ 96 from by omega)) cal_X3_number nm_X5_114 75 rfl rfl rfl rfl (by decide) rfl (Nat.le_of_ble_eq_true rfl) dX5_tellOne_164 (fun r164 ws164 _ hr164 => ?_)
    obtain ⟨rfl, rfl⟩ := hr164
    refine g_aload_n F 0 dX5_tellOne_167 rfl ?_
    refine g18_get_3 F  lf_X5_33 dX5_tellOne_168 ?_
    refine g_iload_n F 1 dX5_tellOne_171 rfl ?_
    refine g_iconst F dX5_tellOne_172 ?_
    refine g_iadd F dX5_tellOne_173 ?_
    refine g_iconst F dX5_tellOne_174 ?_
    refine g_callNI F (stk := [.int (iI 2), .int (iI (p + 3)), .ref (xa 16 100), .int (iI (num (X 16 0) (X 16 1 0) (p + 1) 2)), .ref (xa 18 100)]) (st := [.int (iI (num (X 16 0) (X 16 1 0) (p + 1) 2)), .ref (xa 18 100)]) (k_X3_number κ xa X (p + 3) 2 (by omega) (show 0 ≤ ((X 16) 1 0) ∧ ((X 16) 1 0) ≤ 96 from by omega)) cal_X3_number nm_X5_114 75 rfl rfl rfl rfl (by decide) rfl (Nat.le_of_ble_eq_true rfl) dX5_tellOne_175 (fun r175 ws175 _ hr175 => ?_)
    obtain ⟨rfl, rfl⟩ := hr175
    refine g_callI F (stk := [.int (iI (num (X 16 0) (X 16 1 0) (p + 3) 2)), .int (iI (num (X 16 0) (X 16 1 0) (p + 1) 2)), .ref (xa 18 100)]) (st := []) (k_X5_tellWear κ xa X (num (X 16 0) (X 16 1 0) (p + 1) 2) (num (X 16 0) (X 16 1 0) (p + 3) 2) (by omega)) cal_X5_tellWear lm_X5_128 81 rfl rfl rfl rfl (by decide) rfl (Nat.le_of_ble_eq_true rfl) dX5_tellOne_178 (fun r178 ws178 _ hr178 => ?_)
    obtain ⟨rfl, rfl⟩ := hr178
    have hcc : lt (X 16 0) (X 16 1 0) p = 119 := c8_119
    have hiff : ((num (X 16 0) (X 16 1 0) (p + 1) 2) < 12) ↔ okB (X 16 0) (X 16 1 0) p (xS X) = true := by rw [okB_S]; unfold okS; rw [if_neg (by omega), if_neg (by omega), if_neg (by omega), if_pos hcc] <;> exact Iff.rfl
    exact K xw_same ⟨b2i_c hiff, tl_if hiff (tl_w hcc)⟩ (b2i_nar _) dX5_tellOne_181
  by_cases c8_121 : (lt (X 16 0) (X 16 1 0) p) = 121
  · skip
    refine g_lsw F 182 (by omega) dX5_tellOne_8 (by decide +kernel) (off := 174) (by rw [c8_121]; decide +kernel) (by decide) ?_
    refine g_aload_n F 0 dX5_tellOne_182 rfl ?_
    refine g_aload_n F 0 dX5_tellOne_183 rfl ?_
    refine g18_get_3 F  lf_X5_33 dX5_tellOne_184 ?_
    refine g_iload_n F 1 dX5_tellOne_187 rfl ?_
    refine g_iconst F dX5_tellOne_188 ?_
    refine g_iadd F dX5_tellOne_189 ?_
    refine g_iconst F dX5_tellOne_190 ?_
    refine g_callNI F (stk := [.int (iI 2), .int (iI (p + 1)), .ref (xa 16 100), .ref (xa 18 100)]) (st := [.ref (xa 18 100)]) (k_X3_number κ xa X (p + 1) 2 (by omega) (show 0 ≤ ((X 16) 1 0) ∧ ((X 16) 1 0) ≤ 96 from by omega)) cal_X3_number nm_X5_114 75 rfl rfl rfl rfl (by decide) rfl (Nat.le_of_ble_eq_true rfl) dX5_tellOne_191 (fun r191 ws191 _ hr191 => ?_)
    obtain ⟨rfl, rfl⟩ := hr191
    refine g_callI F (stk := [.int (iI (num (X 16 0) (X 16 1 0) (p + 1) 2)), .ref (xa 18 100)]) (st := []) (k_X5_tellYears κ xa X (num (X 16 0) (X 16 1 0) (p + 1) 2) (by omega) hy ok) cal_X5_tellYears lm_X5_131 81 rfl rfl rfl rfl (by decide) rfl (Nat.le_of_ble_eq_true rfl) dX5_tellOne_194 (fun r194 ws194 _ hr194 => ?_)
    obtain ⟨rfl, rfl⟩ := hr194
    have hcc : lt (X 16 0) (X 16 1 0) p = 121 := c8_121
    have hiff : ((1 ≤ (num (X 16 0) (X 16 1 0) (p + 1) 2) ∧ (num (X 16 0) (X 16 1 0) (p + 1) 2) ≤ 60) ∧ yr (cl (X 2)) + (num (X 16 0) (X 16 1 0) (p + 1) 2) ≤ 999) ↔ okB (X 16 0) (X 16 1 0) p (xS X) = true := by rw [okB_S]; unfold okS; rw [if_neg (by omega), if_neg (by omega), if_neg (by omega), if_neg (by omega)] <;> exact Iff.rfl
    exact K xw_same ⟨b2i_c hiff, tl_if hiff (tl_y hcc)⟩ (b2i_nar _) dX5_tellOne_197
  refine g_lsw F 198 (by omega) dX5_tellOne_8 (by decide +kernel) (off := 190) (by simp [Op.lookupswitch.offset, List.find?]; omega) (by decide) ?_
  exact absurd hl (by omega)
