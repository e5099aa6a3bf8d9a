/-- while all is tried: what stays -/
def relP (a : Nat) : Bool := a == 10 || a == 11 || a == 12 || a == 13 || a == 21 || a == 22 || a == 26 || a == 28 || a == 30 || a == 31 || a == 37 || a == 38
def pst (M G : MS) : MS := fun a => if a = 20 then M 20 else if relP a = true then M a else G a
theorem mA_p {W : MS} {k a : Nat} {f : Int → Int} (h : relP a = true) (hk : relP k = false) : mA W k f a = W a := mA_n (fun q => by rw [q, hk] at h; cases h)
theorem pst_p {M G : MS} {a : Nat} (h : relP a = true) : pst M G a = M a := by
  have h20 : a ≠ 20 := fun q => by rw [q] at h; exact absurd h (by decide)
  unfold pst
  rw [if_neg h20, if_pos h]
theorem relP_c {a : Nat} (h : relP a = true) : 10 ≤ a ∧ a ≠ 20 ∧ a ≠ 23 ∧ a ≠ 24 ∧ a ≠ 25 := by
  unfold relP at h
  simp only [Bool.or_eq_true, beq_iff_eq] at h
  omega
theorem agn_p {M M0 : MS} {a : Nat} (h : relP a = true) : agn M M0 a = M a := by
  have k := relP_c h
  unfold agn cst
  rw [if_neg (by omega), if_neg (by omega), if_neg (by omega), if_neg (by omega), if_neg (by omega)]
theorem stC_p {M : MS} {C : Cl} {a : Nat} (h : relP a = true) : stC M C a = M a := by
  have k := relP_c h
  unfold stC
  rw [if_neg (by omega), if_neg (by omega), if_neg (by omega), if_neg (by omega), if_neg (by omega)]
theorem mw_36 {κ : Kp} {ma : Nat → Nat} (W : MS) : mw κ ma (mA W 36 (fun _ => W 36 0)) = mw κ ma W := rfl
theorem pst_norm {κ : Kp} {ma : Nat → Nat} (M W : MS) {T Wt : Int → Int} {ft : Int} (h34 : W 34 = T) (h35 : W 35 = Wt) (h36 : W 36 0 = ft) (h20 : W 20 = M 20) (hr : ∀ a : Nat, relP a = true → W a = M a) : mw κ ma W = mw κ ma (mA (mA (mA (pst M W) 34 T) 35 Wt) 36 (fun _ => ft)) := by
  have e : mA (mA (mA (pst M W) 34 T) 35 Wt) 36 (fun _ => ft) = mA W 36 (fun _ => ft) := by
    funext a
    by_cases q6 : a = 36
    · rw [q6, mA_s, mA_s]
    · rw [mA_n q6, mA_n q6]
      by_cases q5 : a = 35
      · rw [q5, mA_s, h35]
      · rw [mA_n q5]
        by_cases q4 : a = 34
        · rw [q4, mA_s, h34]
        · rw [mA_n q4]
          unfold pst
          by_cases q2 : a = 20
          · rw [if_pos q2, q2, h20]
          · rw [if_neg q2]
            by_cases qr : relP a = true
            · rw [if_pos qr, hr a qr]
            · rw [if_neg qr]
  rw [e, ← h36, mw_36]
/-- at the start; after a level's end; after a leaf; one level down -/
theorem pw_0 {κ : Kp} {ma : Nat → Nat} (M : MS) (T Wt : Int → Int) (ft : Int) : mw κ ma (mA (mA (mA M 34 T) 35 Wt) 36 (fun _ => ft)) = mw κ ma (mA (mA (mA (pst M (mA (mA (mA M 34 T) 35 Wt) 36 (fun _ => ft))) 34 T) 35 Wt) 36 (fun _ => ft)) :=
  pst_norm M _ (by rw [mA_n (by decide), mA_n (by decide), mA_s]) (by rw [mA_n (by decide), mA_s]) (by rw [mA_s]) (by rw [mA_n (by decide), mA_n (by decide), mA_n (by decide)]) (fun a ha => by rw [mA_p ha (by decide), mA_p ha (by decide), mA_p ha (by decide)])
theorem pw_i {κ : Kp} {ma : Nat → Nat} (M G : MS) (T T1 Wt : Int → Int) (ft : Int) : mw κ ma (mA (mA (mA (mA (pst M G) 34 T) 35 Wt) 36 (fun _ => ft)) 34 T1) = mw κ ma (mA (mA (mA (pst M G) 34 T1) 35 Wt) 36 (fun _ => ft)) := by
  rw [mA_swap (k := 36) (j := 34) (by decide), mA_swap (k := 35) (j := 34) (by decide), mA_mA]
theorem pw_i2 {κ : Kp} {ma : Nat → Nat} (M G : MS) (T Wt : Int → Int) (ft : Int) : mw κ ma (mA (mA (mA (pst M G) 34 T) 35 Wt) 36 (fun _ => ft)) = mw κ ma (mA (mA (mA (pst M (mA (mA (mA (pst M G) 34 T) 35 Wt) 36 (fun _ => ft))) 34 T) 35 Wt) 36 (fun _ => ft)) :=
  pst_norm M _ (by rw [mA_n (by decide), mA_n (by decide), mA_s]) (by rw [mA_n (by decide), mA_s]) (by rw [mA_s]) (by rw [mA_n (by decide), mA_n (by decide), mA_n (by decide)]; rfl) (fun a ha => by rw [mA_p ha (by decide), mA_p ha (by decide), mA_p ha (by decide)]; exact pst_p ha)
theorem pw_d {κ : Kp} {ma : Nat → Nat} (M G : MS) (T Wt W2 : Int → Int) (ft f2 : Int) : mw κ ma (mA (mA (mA (mA (mA (pst M G) 34 T) 35 Wt) 36 (fun _ => ft)) 35 W2) 36 (fun _ => f2)) = mw κ ma (mA (mA (mA (pst M (mA (mA (mA (mA (mA (pst M G) 34 T) 35 Wt) 36 (fun _ => ft)) 35 W2) 36 (fun _ => f2))) 34 T) 35 W2) 36 (fun _ => f2)) :=
  pst_norm M _ (by rw [mA_n (by decide), mA_n (by decide), mA_n (by decide), mA_n (by decide), mA_s]) (by rw [mA_n (by decide), mA_s]) (by rw [mA_s]) (by rw [mA_n (by decide), mA_n (by decide), mA_n (by decide), mA_n (by decide), mA_n (by decide)]; rfl) (fun a ha => by rw [mA_p ha (by decide), mA_p ha (by decide), mA_p ha (by decide), mA_p ha (by decide), mA_p ha (by decide)]; exact pst_p ha)
theorem pw_e {κ : Kp} {ma : Nat → Nat} (M M0 G : MS) (C : Cl) (T Wt W2 uu : Int → Int) (ft f2 : Int) : mw κ ma (mA (mA (mA (stC (agn (mA (mA (mA (pst M G) 34 T) 35 Wt) 36 (fun _ => ft)) M0) C) 9 uu) 35 W2) 36 (fun _ => f2)) = mw κ ma (mA (mA (mA (pst M (mA (mA (mA (stC (agn (mA (mA (mA (pst M G) 34 T) 35 Wt) 36 (fun _ => ft)) M0) C) 9 uu) 35 W2) 36 (fun _ => f2))) 34 T) 35 W2) 36 (fun _ => f2)) :=
  pst_norm M _ (by rw [mA_n (by decide), mA_n (by decide), mA_n (by decide)]; rfl) (by rw [mA_n (by decide), mA_s]) (by rw [mA_s]) (by rw [mA_n (by decide), mA_n (by decide), mA_n (by decide)]; rfl) (fun a ha => by rw [mA_p ha (by decide), mA_p ha (by decide), mA_p ha (by decide), stC_p ha, agn_p ha, mA_p ha (by decide), mA_p ha (by decide), mA_p ha (by decide)]; exact pst_p ha)
theorem pw_f {κ : Kp} {ma : Nat → Nat} (M G : MS) (T Wt T2 W2 : Int → Int) (ft : Int) : mw κ ma (mA (mA (mA (mA (mA (pst M G) 34 T) 35 Wt) 36 (fun _ => ft)) 34 T2) 35 W2) = mw κ ma (mA (mA (mA (pst M (mA (mA (mA (mA (mA (pst M G) 34 T) 35 Wt) 36 (fun _ => ft)) 34 T2) 35 W2)) 34 T2) 35 W2) 36 (fun _ => ft)) :=
  pst_norm M _ (by rw [mA_n (by decide), mA_s]) (by rw [mA_s]) (by rw [mA_n (by decide), mA_n (by decide), mA_s]) (by rw [mA_n (by decide), mA_n (by decide), mA_n (by decide), mA_n (by decide), mA_n (by decide)]; rfl) (fun a ha => by rw [mA_p ha (by decide), mA_p ha (by decide), mA_p ha (by decide), mA_p ha (by decide), mA_p ha (by decide)]; exact pst_p ha)
/-- said so that it is not opened -/
def lgd (a : Int → Int) (n t : Int) : Prop := legal a n t
theorem dX6_canTry_0 : decode cX6_canTry 0 = .ok (.iconst 1, 1) := by decide +kernel
theorem dX6_canTry_1 : decode cX6_canTry 1 = .ok (.istore_n 2, 1) := by decide +kernel
theorem dX6_canTry_2 : decode cX6_canTry 2 = .ok (.iconst 0, 1) := by decide +kernel
theorem dX6_canTry_3 : decode cX6_canTry 3 = .ok (.istore_n 3, 1) := by decide +kernel
theorem dX6_canTry_4 : decode cX6_canTry 4 = .ok (.iload_n 3, 1) := by decide +kernel
theorem dX6_canTry_5 : decode cX6_canTry 5 = .ok (.iload_n 1, 1) := by decide +kernel
theorem dX6_canTry_6 : decode cX6_canTry 6 = .ok (.if_icmp .ge 61, 3) := by decide +kernel
theorem dX6_canTry_9 : decode cX6_canTry 9 = .ok (.iload_n 2, 1) := by decide +kernel
theorem dX6_canTry_10 : decode cX6_canTry 10 = .ok (.ifCond .eq 49, 3) := by decide +kernel
theorem dX6_canTry_13 : decode cX6_canTry 13 = .ok (.aload_n 0, 1) := by decide +kernel
theorem dX6_canTry_14 : decode cX6_canTry 14 = .ok (.getfield 73, 3) := by decide +kernel
theorem dX6_canTry_17 : decode cX6_canTry 17 = .ok (.iload_n 3, 1) := by decide +kernel
theorem dX6_canTry_18 : decode cX6_canTry 18 = .ok (.iaload, 1) := by decide +kernel
theorem dX6_canTry_19 : decode cX6_canTry 19 = .ok (.bipush 12, 2) := by decide +kernel
theorem dX6_canTry_21 : decode cX6_canTry 21 = .ok (.idiv, 1) := by decide +kernel
theorem dX6_canTry_22 : decode cX6_canTry 22 = .ok (.aload_n 0, 1) := by decide +kernel
theorem dX6_canTry_23 : decode cX6_canTry 23 = .ok (.getfield 73, 3) := by decide +kernel
theorem dX6_canTry_26 : decode cX6_canTry 26 = .ok (.iload_n 1, 1) := by decide +kernel
theorem dX6_canTry_27 : decode cX6_canTry 27 = .ok (.iaload, 1) := by decide +kernel
theorem dX6_canTry_28 : decode cX6_canTry 28 = .ok (.bipush 12, 2) := by decide +kernel
theorem dX6_canTry_30 : decode cX6_canTry 30 = .ok (.idiv, 1) := by decide +kernel
theorem dX6_canTry_31 : decode cX6_canTry 31 = .ok (.if_icmp .eq 28, 3) := by decide +kernel
theorem dX6_canTry_34 : decode cX6_canTry 34 = .ok (.aload_n 0, 1) := by decide +kernel
theorem dX6_canTry_35 : decode cX6_canTry 35 = .ok (.getfield 73, 3) := by decide +kernel
theorem dX6_canTry_38 : decode cX6_canTry 38 = .ok (.iload_n 3, 1) := by decide +kernel
theorem dX6_canTry_39 : decode cX6_canTry 39 = .ok (.iaload, 1) := by decide +kernel
theorem dX6_canTry_40 : decode cX6_canTry 40 = .ok (.bipush 12, 2) := by decide +kernel
theorem dX6_canTry_42 : decode cX6_canTry 42 = .ok (.irem, 1) := by decide +kernel
theorem dX6_canTry_43 : decode cX6_canTry 43 = .ok (.aload_n 0, 1) := by decide +kernel
theorem dX6_canTry_44 : decode cX6_canTry 44 = .ok (.getfield 73, 3) := by decide +kernel
theorem dX6_canTry_47 : decode cX6_canTry 47 = .ok (.iload_n 1, 1) := by decide +kernel
theorem dX6_canTry_48 : decode cX6_canTry 48 = .ok (.iaload, 1) := by decide +kernel
theorem dX6_canTry_49 : decode cX6_canTry 49 = .ok (.bipush 12, 2) := by decide +kernel
theorem dX6_canTry_51 : decode cX6_canTry 51 = .ok (.irem, 1) := by decide +kernel
theorem dX6_canTry_52 : decode cX6_canTry 52 = .ok (.if_icmp .eq 7, 3) := by decide +kernel
theorem dX6_canTry_55 : decode cX6_canTry 55 = .ok (.iconst 1, 1) := by decide +kernel
theorem dX6_canTry_56 : decode cX6_canTry 56 = .ok (.goto 4, 3) := by decide +kernel
theorem dX6_canTry_59 : decode cX6_canTry 59 = .ok (.iconst 0, 1) := by decide +kernel
theorem dX6_canTry_60 : decode cX6_canTry 60 = .ok (.istore_n 2, 1) := by decide +kernel
theorem dX6_canTry_61 : decode cX6_canTry 61 = .ok (.iinc 3 1, 3) := by decide +kernel
theorem dX6_canTry_64 : decode cX6_canTry 64 = .ok (.goto (-60), 3) := by decide +kernel
theorem dX6_canTry_67 : decode cX6_canTry 67 = .ok (.iload_n 2, 1) := by decide +kernel
theorem dX6_canTry_68 : decode cX6_canTry 68 = .ok (.ireturn, 1) := by decide +kernel
set_option maxRecDepth 100000 in
set_option maxHeartbeats 4000000 in
theorem k_X6_canTry (κ : Kp) (ma : Nat → Nat) (M : MS) (d : Int)  (hd : (0 ≤ d ∧ d < 3) ∧ 1 ≤ M 31 0 ∧ M 31 0 ≤ 3) (hl : lgT (M 34) (M 31 0) d) (ht : 0 ≤ M 34 d ∧ M 34 d < 12 * M 31 0) : mI κ yX6_canTry cX6_canTry 4 .boolean 0 [.ref (ma 100), .int (iI d)] (mw κ ma M) (is1 (iI (b2i (legal (adI (M 34) d) (M 31 0) (M 34 d)))) (mw κ ma M)) := by
  refine mI_of (by decide) (Nat.le_of_ble_eq_true rfl) (fun E F K => ?_)
  refine g_lv (lv' := [(0, .ref (ma 100)), (1, .int (iI d))]) rfl ?_
  refine g_iconst F dX6_canTry_0 ?_
  refine g_istore_n F (lv' := [(2, .int (iI 1)), (0, .ref (ma 100)), (1, .int (iI d))]) 2 dX6_canTry_1 rfl (by decide) rfl ?_
  refine g_iconst F dX6_canTry_2 ?_
  refine g_istore_n F (lv' := [(3, .int (iI 0)), (2, .int (iI 1)), (0, .ref (ma 100)), (1, .int (iI d))]) 3 dX6_canTry_3 rfl (by decide) rfl ?_
  have L4 : ∀ (mz4 : Nat) (k : Int) (cn : Int), (d - k).toNat = mz4 → (0 ≤ k ∧ k ≤ d) → ((cn = 1 ∧ lgd (adI (M 34) k) (M 31 0) (M 34 d)) ∨ (cn = 0 ∧ ¬ lgd (adI (M 34) k) (M 31 0) (M 34 d))) → G E (mw κ ma M) [(3, .int (iI k)), (2, .int (iI cn)), (0, .ref (ma 100)), (1, .int (iI d))] 4 [] := by
    intro mz4
    induction mz4 using Nat.strongRecOn with
    | _ mz4 ih4 =>
    intro k cn hmz4 hk hc
    refine g_iload_n F 0 dX6_canTry_4 rfl ?_
    refine g_iload_n F 3 dX6_canTry_5 rfl ?_
    refine g_icmp_ge F 67 (by omega) dX6_canTry_6 (by decide) (fun c6 => ?_) (fun c6 => ?_)
    · skip
      refine g_iload_n F 1 dX6_canTry_67 rfl ?_
      have hke : k = d := by omega
      rw [hke] at hc
      exact K mw_same ⟨iIc (by unfold b2i; rcases hc with ⟨q1, q2⟩ | ⟨q1, q2⟩ <;> first | (rw [if_pos (show legal _ _ _ from q2)]; exact q1) | (rw [if_neg (show ¬ legal _ _ _ from q2)]; exact q1)), rfl⟩ (by rcases (show cn = 0 ∨ cn = 1 by omega) with q | q <;> rw [q] <;> decide +kernel) dX6_canTry_68
    · skip
      have hlk := (hl k hk.1 (by omega)).1
      have hls : ∀ _ : Unit, (lgd (adI (M 34) (k + 1)) (M 31 0) (M 34 d) ↔ lgd (adI (M 34) k) (M 31 0) (M 34 d) ∧ M 34 k / 12 ≠ M 34 d / 12 ∧ M 34 k % 12 ≠ M 34 d % 12) := fun _ => by show legal _ _ _ ↔ legal _ _ _ ∧ _; rw [ad_s _ hk.1]; exact lg_s (by omega) (by omega) (hl k hk.1 (by omega)).2.1 (by omega)
      have hcn : cn = 0 ∨ cn = 1 := by omega
      refine g_iload_n F 1 dX6_canTry_9 rfl ?_
      refine g_if_eq F 59 (by omega) dX6_canTry_10 (by decide) (fun c10 => ?_) (fun c10 => ?_)
      · skip
        refine g_iconst F dX6_canTry_59 ?_
        refine g_istore_n F (lv' := [(2, .int (iI 0)), (3, .int (iI k)), (0, .ref (ma 100)), (1, .int (iI d))]) 2 dX6_canTry_60 rfl (by decide) rfl ?_
        refine g_iinc F (lv' := [(3, .int (iI (k + 1))), (2, .int (iI 0)), (0, .ref (ma 100)), (1, .int (iI d))]) 1 dX6_canTry_61 rfl (by decide) rfl ?_
        refine g_goto F 4 dX6_canTry_64 (by decide) ?_
        refine g_sub F (lv' := [(3, .int (iI (k + 1))), (2, .int (iI 0)), (0, .ref (ma 100)), (1, .int (iI d))]) [0, 1, 2, 3] rfl ?_
        exact ih4 _ (by omega) (k + 1) 0 rfl (by omega) (by rcases hc with ⟨q1, q2⟩ | ⟨q1, q2⟩ <;> first | (exfalso; omega) | exact Or.inl ⟨rfl, (hls ()).mpr ⟨q2, c31, c52⟩⟩ | exact Or.inr ⟨rfl, fun z => ((hls ()).mp z).2.1 c31⟩ | exact Or.inr ⟨rfl, fun z => ((hls ()).mp z).2.2 c52⟩ | exact Or.inr ⟨rfl, fun z => q2 ((hls ()).mp z).1⟩)
      · skip
        refine g_aload_n F 2 dX6_canTry_13 rfl ?_
        refine gm_get_34 F dX6_canTry_14 ?_
        refine g_iload_n F 0 dX6_canTry_17 rfl ?_
        refine gm_ald_34 F (by omega) dX6_canTry_18 ?_
        refine g_bipush F dX6_canTry_19 (by decide +kernel) ?_
        refine g_idiv F dX6_canTry_21 (by omega) ?_
        refine g_aload_n F 2 dX6_canTry_22 rfl ?_
        refine gm_get_34 F dX6_canTry_23 ?_
        refine g_iload_n F 3 dX6_canTry_26 rfl ?_
        refine gm_ald_34 F (by omega) dX6_canTry_27 ?_
        refine g_bipush F dX6_canTry_28 (by decide +kernel) ?_
        refine g_idiv F dX6_canTry_30 (by omega) ?_
        refine g_icmp_eq F 59 (by omega) dX6_canTry_31 (by decide) (fun c31 => ?_) (fun c31 => ?_)
        · skip
          refine g_iconst F dX6_canTry_59 ?_
          refine g_istore_n F (lv' := [(2, .int (iI 0)), (3, .int (iI k)), (0, .ref (ma 100)), (1, .int (iI d))]) 2 dX6_canTry_60 rfl (by decide) rfl ?_
          refine g_iinc F (lv' := [(3, .int (iI (k + 1))), (2, .int (iI 0)), (0, .ref (ma 100)), (1, .int (iI d))]) 1 dX6_canTry_61 rfl (by decide) rfl ?_
          refine g_goto F 4 dX6_canTry_64 (by decide) ?_
          refine g_sub F (lv' := [(3, .int (iI (k + 1))), (2, .int (iI 0)), (0, .ref (ma 100)), (1, .int (iI d))]) [0, 1, 2, 3] rfl ?_
          exact ih4 _ (by omega) (k + 1) 0 rfl (by omega) (by rcases hc with ⟨q1, q2⟩ | ⟨q1, q2⟩ <;> first | (exfalso; omega) | exact Or.inl ⟨rfl, (hls ()).mpr ⟨q2, c31, c52⟩⟩ | exact Or.inr ⟨rfl, fun z => ((hls ()).mp z).2.1 c31⟩ | exact Or.inr ⟨rfl, fun z => ((hls ()).mp z).2.2 c52⟩ | exact Or.inr ⟨rfl, fun z => q2 ((hls ()).mp z).1⟩)
        · skip
          refine g_aload_n F 2 dX6_canTry_34 rfl ?_
          refine gm_get_34 F dX6_canTry_35 ?_
          refine g_iload_n F 0 dX6_canTry_38 rfl ?_
          refine gm_ald_34 F (by omega) dX6_canTry_39 ?_
          refine g_bipush F dX6_canTry_40 (by decide +kernel) ?_
          refine g_irem F dX6_canTry_42 (by omega) ?_
          refine g_aload_n F 2 dX6_canTry_43 rfl ?_
          refine gm_get_34 F dX6_canTry_44 ?_
          refine g_iload_n F 3 dX6_canTry_47 rfl ?_
          refine gm_ald_34 F (by omega) dX6_canTry_48 ?_
          refine g_bipush F dX6_canTry_49 (by decide +kernel) ?_
          refine g_irem F dX6_canTry_51 (by omega) ?_
          refine g_icmp_eq F 59 (by omega) dX6_canTry_52 (by decide) (fun c52 => ?_) (fun c52 => ?_)
          · skip
            refine g_iconst F dX6_canTry_59 ?_
            refine g_istore_n F (lv' := [(2, .int (iI 0)), (3, .int (iI k)), (0, .ref (ma 100)), (1, .int (iI d))]) 2 dX6_canTry_60 rfl (by decide) rfl ?_
            refine g_iinc F (lv' := [(3, .int (iI (k + 1))), (2, .int (iI 0)), (0, .ref (ma 100)), (1, .int (iI d))]) 1 dX6_canTry_61 rfl (by decide) rfl ?_
            refine g_goto F 4 dX6_canTry_64 (by decide) ?_
            refine g_sub F (lv' := [(3, .int (iI (k + 1))), (2, .int (iI 0)), (0, .ref (ma 100)), (1, .int (iI d))]) [0, 1, 2, 3] rfl ?_
            exact ih4 _ (by omega) (k + 1) 0 rfl (by omega) (by rcases hc with ⟨q1, q2⟩ | ⟨q1, q2⟩ <;> first | (exfalso; omega) | exact Or.inl ⟨rfl, (hls ()).mpr ⟨q2, c31, c52⟩⟩ | exact Or.inr ⟨rfl, fun z => ((hls ()).mp z).2.1 c31⟩ | exact Or.inr ⟨rfl, fun z => ((hls ()).mp z).2.2 c52⟩ | exact Or.inr ⟨rfl, fun z => q2 ((hls ()).mp z).1⟩)
          · skip
            refine g_iconst F dX6_canTry_55 ?_
            refine g_goto F 60 dX6_canTry_56 (by decide) ?_
            refine g_istore_n F (lv' := [(2, .int (iI 1)), (3, .int (iI k)), (0, .ref (ma 100)), (1, .int (iI d))]) 2 dX6_canTry_60 rfl (by decide) rfl ?_
            refine g_iinc F (lv' := [(3, .int (iI (k + 1))), (2, .int (iI 1)), (0, .ref (ma 100)), (1, .int (iI d))]) 1 dX6_canTry_61 rfl (by decide) rfl ?_
            refine g_goto F 4 dX6_canTry_64 (by decide) ?_
            refine g_sub F (lv' := [(3, .int (iI (k + 1))), (2, .int (iI 1)), (0, .ref (ma 100)), (1, .int (iI d))]) [0, 1, 2, 3] rfl ?_
            exact ih4 _ (by omega) (k + 1) 1 rfl (by omega) (by rcases hc with ⟨q1, q2⟩ | ⟨q1, q2⟩ <;> first | (exfalso; omega) | exact Or.inl ⟨rfl, (hls ()).mpr ⟨q2, c31, c52⟩⟩ | exact Or.inr ⟨rfl, fun z => ((hls ()).mp z).2.1 c31⟩ | exact Or.inr ⟨rfl, fun z => ((hls ()).mp z).2.2 c52⟩ | exact Or.inr ⟨rfl, fun z => q2 ((hls ()).mp z).1⟩)
  refine g_sub F (lv' := [(3, .int (iI 0)), (2, .int (iI 1)), (0, .ref (ma 100)), (1, .int (iI d))]) [0, 1, 2, 3] rfl ?_
  exact L4 _ 0 1 rfl (by omega) (Or.inl ⟨rfl, rfl, fun q => by rcases q with q | q | q <;> (have z : (-1 : Int) = M 34 d % 12 := q.2; omega)⟩)
theorem dX6_layTried_0 : decode cX6_layTried 0 = .ok (.aload_n 0, 1) := by decide +kernel
theorem dX6_layTried_1 : decode cX6_layTried 1 = .ok (.invokevirtual 197, 3) := by decide +kernel
theorem dX6_layTried_4 : decode cX6_layTried 4 = .ok (.iconst 0, 1) := by decide +kernel
theorem dX6_layTried_5 : decode cX6_layTried 5 = .ok (.istore_n 2, 1) := by decide +kernel
theorem dX6_layTried_6 : decode cX6_layTried 6 = .ok (.iload_n 2, 1) := by decide +kernel
theorem dX6_layTried_7 : decode cX6_layTried 7 = .ok (.iload_n 1, 1) := by decide +kernel
theorem dX6_layTried_8 : decode cX6_layTried 8 = .ok (.if_icmp .ge 36, 3) := by decide +kernel
theorem dX6_layTried_11 : decode cX6_layTried 11 = .ok (.aload_n 0, 1) := by decide +kernel
theorem dX6_layTried_12 : decode cX6_layTried 12 = .ok (.aload_n 0, 1) := by decide +kernel
theorem dX6_layTried_13 : decode cX6_layTried 13 = .ok (.getfield 64, 3) := by decide +kernel
theorem dX6_layTried_16 : decode cX6_layTried 16 = .ok (.aload_n 0, 1) := by decide +kernel
theorem dX6_layTried_17 : decode cX6_layTried 17 = .ok (.getfield 73, 3) := by decide +kernel
theorem dX6_layTried_20 : decode cX6_layTried 20 = .ok (.iload_n 2, 1) := by decide +kernel
theorem dX6_layTried_21 : decode cX6_layTried 21 = .ok (.iaload, 1) := by decide +kernel
theorem dX6_layTried_22 : decode cX6_layTried 22 = .ok (.bipush 12, 2) := by decide +kernel
theorem dX6_layTried_24 : decode cX6_layTried 24 = .ok (.idiv, 1) := by decide +kernel
theorem dX6_layTried_25 : decode cX6_layTried 25 = .ok (.iaload, 1) := by decide +kernel
theorem dX6_layTried_26 : decode cX6_layTried 26 = .ok (.aload_n 0, 1) := by decide +kernel
theorem dX6_layTried_27 : decode cX6_layTried 27 = .ok (.getfield 73, 3) := by decide +kernel
theorem dX6_layTried_30 : decode cX6_layTried 30 = .ok (.iload_n 2, 1) := by decide +kernel
theorem dX6_layTried_31 : decode cX6_layTried 31 = .ok (.iaload, 1) := by decide +kernel
theorem dX6_layTried_32 : decode cX6_layTried 32 = .ok (.bipush 12, 2) := by decide +kernel
theorem dX6_layTried_34 : decode cX6_layTried 34 = .ok (.irem, 1) := by decide +kernel
theorem dX6_layTried_35 : decode cX6_layTried 35 = .ok (.invokevirtual 179, 3) := by decide +kernel
theorem dX6_layTried_38 : decode cX6_layTried 38 = .ok (.iinc 2 1, 3) := by decide +kernel
theorem dX6_layTried_41 : decode cX6_layTried 41 = .ok (.goto (-35), 3) := by decide +kernel
theorem dX6_layTried_44 : decode cX6_layTried 44 = .ok (.return_, 1) := by decide +kernel
set_option maxRecDepth 100000 in
set_option maxHeartbeats 4000000 in
theorem k_X6_layTried (κ : Kp) (ma : Nat → Nat) (M M0 : MS) (hS : ∀ z : Int, 0 ≤ z → z < 74 → M 20 z = snapF M0 z) (hn : 1 ≤ M 31 0 ∧ M 31 0 ≤ 3) (hf6 : ∀ i : Int, 0 ≤ i → i < M 31 0 → 0 ≤ M 30 i ∧ M 30 i < 6) (hl : lgT (M 34) (M 31 0) (M 31 0)) : mV κ yX6_layTried cX6_layTried 3 3 [.ref (ma 100), .int (iI (M 31 0))] (mw κ ma M) (fun w => ∃ uu, w = mw κ ma (mA (stC (agn M M0) (asC (cl M0) (M0 6) (M0 7) (M0 8) (M 30) (adI (M 34) (M 31 0)) (M 31 0))) 9 uu)) := by
  refine mV_of (by decide) (Nat.le_of_ble_eq_true rfl) (fun E F K => ?_)
  refine g_lv (lv' := [(0, .ref (ma 100)), (1, .int (iI (M 31 0)))]) rfl ?_
  refine g_aload_n F 0 dX6_layTried_0 rfl ?_
  refine g_callV F (stk := [.ref (ma 100)]) (st := []) (k_X6_again κ ma M M0 hS) cal_X6_again lm_X6_197 0 rfl rfl rfl rfl (by decide) rfl (Nat.le_of_ble_eq_true rfl) dX6_layTried_1 (fun ws1 _ hr1 => ?_)
  obtain rfl := hr1
  refine g_iconst F dX6_layTried_4 ?_
  refine g_istore_n F (lv' := [(2, .int (iI 0)), (0, .ref (ma 100)), (1, .int (iI (M 31 0)))]) 2 dX6_layTried_5 rfl (by decide) rfl ?_
  have L6 : ∀ (mz6 : Nat) (k : Int) (uu : Int → Int), (M 31 0 - k).toNat = mz6 → (0 ≤ k ∧ k ≤ M 31 0) → G E (mw κ ma (mA (stC (agn M M0) (asC (cl M0) (M0 6) (M0 7) (M0 8) (M 30) (adI (M 34) k) (M 31 0))) 9 uu)) [(2, .int (iI k)), (0, .ref (ma 100)), (1, .int (iI (M 31 0)))] 6 [] := by
    intro mz6
    induction mz6 using Nat.strongRecOn with
    | _ mz6 ih6 =>
    intro k uu hmz6 hk
    refine g_iload_n F 0 dX6_layTried_6 rfl ?_
    refine g_iload_n F 2 dX6_layTried_7 rfl ?_
    refine g_icmp_ge F 44 (by omega) dX6_layTried_8 (by decide) (fun c8 => ?_) (fun c8 => ?_)
    · skip
      exact K mw_same ⟨uu, by rw [show k = M 31 0 by omega]⟩ dX6_layTried_44
    · skip
      have hlk := (hl k hk.1 (by omega)).1
      have hf := hf6 (M 34 k / 12) (by omega) (by omega)
      refine g_aload_n F 1 dX6_layTried_11 rfl ?_
      refine g_aload_n F 1 dX6_layTried_12 rfl ?_
      refine gm_get_30 F dX6_layTried_13 ?_
      refine g_aload_n F 1 dX6_layTried_16 rfl ?_
      refine gm_get_34 F dX6_layTried_17 ?_
      refine g_iload_n F 0 dX6_layTried_20 rfl ?_
      refine gm_ald_34 F (by omega) dX6_layTried_21 ?_
      refine g_top (y := iI (M 34 k)) rfl ?_
      refine g_bipush F dX6_layTried_22 (by decide +kernel) ?_
      refine g_idiv F dX6_layTried_24 (by omega) ?_
      refine gm_ald_30 F (by omega) dX6_layTried_25 ?_
      refine g_top (y := iI (M 30 ((M 34 k) / 12))) rfl ?_
      refine g_aload_n F 1 dX6_layTried_26 rfl ?_
      refine gm_get_34 F dX6_layTried_27 ?_
      refine g_iload_n F 0 dX6_layTried_30 rfl ?_
      refine gm_ald_34 F (by omega) dX6_layTried_31 ?_
      refine g_top (y := iI (M 34 k)) rfl ?_
      refine g_bipush F dX6_layTried_32 (by decide +kernel) ?_
      refine g_irem F dX6_layTried_34 (by omega) ?_
      refine g_callV F (stk := [.int (iI ((M 34 k) % 12)), .int (iI (M 30 ((M 34 k) / 12))), .ref (ma 100)]) (st := []) (k_X6_putOn κ ma (mA (stC (agn M M0) (asC (cl M0) (M0 6) (M0 7) (M0 8) (M 30) (adI (M 34) k) (M 31 0))) 9 uu) (M 30 ((M 34 k) / 12)) ((M 34 k) % 12) (by omega) (by omega)) cal_X6_putOn lm_X6_179 0 rfl rfl rfl rfl (by decide) rfl (Nat.le_of_ble_eq_true rfl) dX6_layTried_35 (fun ws35 _ hr35 => ?_)
      obtain rfl := hr35
      refine g_ws (ws' := mw κ ma (mA (stC (mA (stC (agn M M0) (asC (cl M0) (M0 6) (M0 7) (M0 8) (M 30) (adI (M 34) k) (M 31 0))) 9 uu) (make (asC (cl M0) (M0 6) (M0 7) (M0 8) (M 30) (adI (M 34) k) (M 31 0)) ((M 34 k) % 12) (M0 6 (M 30 ((M 34 k) / 12))) (M0 7 (M 30 ((M 34 k) / 12))) (M0 8 (M 30 ((M 34 k) / 12))))) 9 (uI uu (M 30 ((M 34 k) / 12)) 1))) rfl ?_
      refine g_iinc F (lv' := [(2, .int (iI (k + 1))), (0, .ref (ma 100)), (1, .int (iI (M 31 0)))]) 0 dX6_layTried_38 rfl (by decide) rfl ?_
      refine g_goto F 6 dX6_layTried_41 (by decide) ?_
      refine g_sub F (lv' := [(2, .int (iI (k + 1))), (0, .ref (ma 100)), (1, .int (iI (M 31 0)))]) [0, 1, 2] rfl ?_
      refine g_ws (ws' := mw κ ma (mA (stC (agn M M0) (asC (cl M0) (M0 6) (M0 7) (M0 8) (M 30) (adI (M 34) (k + 1)) (M 31 0))) 9 (uI uu (M 30 ((M 34 k) / 12)) 1))) (by have e := asC_put (cl M0) (M0 6) (M0 7) (M0 8) (M 30) (a := adI (M 34) k) (n := M 31 0) (i := M 34 k / 12) (c := M 34 k % 12) (by omega) (by omega) (by rw [(hl k hk.1 (by omega)).2.1]; decide) (by omega) (tkn_no (hl k hk.1 (by omega)).2.2 (by omega)); rw [e, ← ad_s _ hk.1]; rfl) ?_
      exact ih6 _ (by omega) (k + 1) (uI uu (M 30 ((M 34 k) / 12)) 1) rfl (by omega)
  refine g_sub F (lv' := [(2, .int (iI 0)), (0, .ref (ma 100)), (1, .int (iI (M 31 0)))]) [0, 1, 2] rfl ?_
  refine g_ws (ws' := mw κ ma (mA (stC (agn M M0) (asC (cl M0) (M0 6) (M0 7) (M0 8) (M 30) (adI (M 34) 0) (M 31 0))) 9 (M0 9))) (by rw [ad_0, asC_no (cl M0) (M0 6) (M0 7) (M0 8) (M 30) (a := fun _ => -1) (n := M 31 0) (fun _ _ _ => by decide)]; rfl) ?_
  exact L6 _ 0 (M0 9) rfl (by omega)
theorem dX6_isBetter_0 : decode cX6_isBetter 0 = .ok (.iload_n 2, 1) := by decide +kernel
theorem dX6_isBetter_1 : decode cX6_isBetter 1 = .ok (.iconst (-1), 1) := by decide +kernel
theorem dX6_isBetter_2 : decode cX6_isBetter 2 = .ok (.if_icmp .eq 22, 3) := by decide +kernel
theorem dX6_isBetter_5 : decode cX6_isBetter 5 = .ok (.iload_n 0, 1) := by decide +kernel
theorem dX6_isBetter_6 : decode cX6_isBetter 6 = .ok (.iconst 2, 1) := by decide +kernel
theorem dX6_isBetter_7 : decode cX6_isBetter 7 = .ok (.irem, 1) := by decide +kernel
theorem dX6_isBetter_8 : decode cX6_isBetter 8 = .ok (.ifCond .ne 11, 3) := by decide +kernel
theorem dX6_isBetter_11 : decode cX6_isBetter 11 = .ok (.iload_n 1, 1) := by decide +kernel
theorem dX6_isBetter_12 : decode cX6_isBetter 12 = .ok (.iload_n 2, 1) := by decide +kernel
theorem dX6_isBetter_13 : decode cX6_isBetter 13 = .ok (.if_icmp .ge 15, 3) := by decide +kernel
theorem dX6_isBetter_16 : decode cX6_isBetter 16 = .ok (.goto 8, 3) := by decide +kernel
theorem dX6_isBetter_19 : decode cX6_isBetter 19 = .ok (.iload_n 1, 1) := by decide +kernel
theorem dX6_isBetter_20 : decode cX6_isBetter 20 = .ok (.iload_n 2, 1) := by decide +kernel
theorem dX6_isBetter_21 : decode cX6_isBetter 21 = .ok (.if_icmp .le 7, 3) := by decide +kernel
theorem dX6_isBetter_24 : decode cX6_isBetter 24 = .ok (.iconst 1, 1) := by decide +kernel
theorem dX6_isBetter_25 : decode cX6_isBetter 25 = .ok (.goto 4, 3) := by decide +kernel
theorem dX6_isBetter_28 : decode cX6_isBetter 28 = .ok (.iconst 0, 1) := by decide +kernel
theorem dX6_isBetter_29 : decode cX6_isBetter 29 = .ok (.ireturn, 1) := by decide +kernel
set_option maxRecDepth 100000 in
set_option maxHeartbeats 4000000 in
theorem k_X6_isBetter (κ : Kp) (ws : va_W) (d : Int) (v : Int) (x : Int)  (hr : (0 ≤ d ∧ d ≤ 10) ∧ In32 v ∧ In32 x) : mI κ yX6_isBetter cX6_isBetter 3 .boolean 0 [.int (iI d), .int (iI v), .int (iI x)] ws (is1 (iI (b2i (btr d v x))) ws) := by
  refine mI_of (by decide) (Nat.le_of_ble_eq_true rfl) (fun E F K => ?_)
  refine g_lv (lv' := [(0, .int (iI d)), (1, .int (iI v)), (2, .int (iI x))]) rfl ?_
  refine g_iload_n F 2 dX6_isBetter_0 rfl ?_
  refine g_iconst F dX6_isBetter_1 ?_
  refine g_icmp_eq F 24 (by omega) dX6_isBetter_2 (by decide) (fun c2 => ?_) (fun c2 => ?_)
  · skip
    refine g_iconst F dX6_isBetter_24 ?_
    refine g_goto F 29 dX6_isBetter_25 (by decide) ?_
    exact K sameA.rf ⟨b2i_1 (by omega), rfl⟩ (by decide +kernel) dX6_isBetter_29
  · skip
    refine g_iload_n F 0 dX6_isBetter_5 rfl ?_
    refine g_iconst F dX6_isBetter_6 ?_
    refine g_irem F dX6_isBetter_7 (by omega) ?_
    refine g_if_ne F 19 (by omega) dX6_isBetter_8 (by decide) (fun c8 => ?_) (fun c8 => ?_)
    · skip
      refine g_iload_n F 1 dX6_isBetter_19 rfl ?_
      refine g_iload_n F 2 dX6_isBetter_20 rfl ?_
      refine g_icmp_le F 28 (by omega) dX6_isBetter_21 (by decide) (fun c21 => ?_) (fun c21 => ?_)
      · skip
        refine g_iconst F dX6_isBetter_28 ?_
        exact K sameA.rf ⟨b2i_0 (by omega), rfl⟩ (by decide +kernel) dX6_isBetter_29
      · skip
        refine g_iconst F dX6_isBetter_24 ?_
        refine g_goto F 29 dX6_isBetter_25 (by decide) ?_
        exact K sameA.rf ⟨b2i_1 (by omega), rfl⟩ (by decide +kernel) dX6_isBetter_29
    · skip
      refine g_iload_n F 1 dX6_isBetter_11 rfl ?_
      refine g_iload_n F 2 dX6_isBetter_12 rfl ?_
      refine g_icmp_ge F 28 (by omega) dX6_isBetter_13 (by decide) (fun c13 => ?_) (fun c13 => ?_)
      · skip
        refine g_iconst F dX6_isBetter_28 ?_
        exact K sameA.rf ⟨b2i_0 (by omega), rfl⟩ (by decide +kernel) dX6_isBetter_29
      · skip
        refine g_goto F 24 dX6_isBetter_16 (by decide) ?_
        refine g_iconst F dX6_isBetter_24 ?_
        refine g_goto F 29 dX6_isBetter_25 (by decide) ?_
        exact K sameA.rf ⟨b2i_1 (by omega), rfl⟩ (by decide +kernel) dX6_isBetter_29
theorem dX6_takeWorth_0 : decode cX6_takeWorth 0 = .ok (.iload_n 1, 1) := by decide +kernel
theorem dX6_takeWorth_1 : decode cX6_takeWorth 1 = .ok (.iload_n 2, 1) := by decide +kernel
theorem dX6_takeWorth_2 : decode cX6_takeWorth 2 = .ok (.aload_n 0, 1) := by decide +kernel
theorem dX6_takeWorth_3 : decode cX6_takeWorth 3 = .ok (.getfield 76, 3) := by decide +kernel
theorem dX6_takeWorth_6 : decode cX6_takeWorth 6 = .ok (.iload_n 1, 1) := by decide +kernel
theorem dX6_takeWorth_7 : decode cX6_takeWorth 7 = .ok (.iaload, 1) := by decide +kernel
theorem dX6_takeWorth_8 : decode cX6_takeWorth 8 = .ok (.invokestatic 288, 3) := by decide +kernel
theorem dX6_takeWorth_11 : decode cX6_takeWorth 11 = .ok (.ifCond .eq 31, 3) := by decide +kernel
theorem dX6_takeWorth_14 : decode cX6_takeWorth 14 = .ok (.aload_n 0, 1) := by decide +kernel
theorem dX6_takeWorth_15 : decode cX6_takeWorth 15 = .ok (.getfield 76, 3) := by decide +kernel
theorem dX6_takeWorth_18 : decode cX6_takeWorth 18 = .ok (.iload_n 1, 1) := by decide +kernel
theorem dX6_takeWorth_19 : decode cX6_takeWorth 19 = .ok (.iload_n 2, 1) := by decide +kernel
theorem dX6_takeWorth_20 : decode cX6_takeWorth 20 = .ok (.iastore, 1) := by decide +kernel
theorem dX6_takeWorth_21 : decode cX6_takeWorth 21 = .ok (.aload_n 0, 1) := by decide +kernel
theorem dX6_takeWorth_22 : decode cX6_takeWorth 22 = .ok (.iload_n 1, 1) := by decide +kernel
theorem dX6_takeWorth_23 : decode cX6_takeWorth 23 = .ok (.ifCond .ne 12, 3) := by decide +kernel
theorem dX6_takeWorth_26 : decode cX6_takeWorth 26 = .ok (.aload_n 0, 1) := by decide +kernel
theorem dX6_takeWorth_27 : decode cX6_takeWorth 27 = .ok (.getfield 73, 3) := by decide +kernel
theorem dX6_takeWorth_30 : decode cX6_takeWorth 30 = .ok (.iconst 0, 1) := by decide +kernel
theorem dX6_takeWorth_31 : decode cX6_takeWorth 31 = .ok (.iaload, 1) := by decide +kernel
theorem dX6_takeWorth_32 : decode cX6_takeWorth 32 = .ok (.goto 7, 3) := by decide +kernel
theorem dX6_takeWorth_35 : decode cX6_takeWorth 35 = .ok (.aload_n 0, 1) := by decide +kernel
theorem dX6_takeWorth_36 : decode cX6_takeWorth 36 = .ok (.getfield 276, 3) := by decide +kernel
theorem dX6_takeWorth_39 : decode cX6_takeWorth 39 = .ok (.putfield 276, 3) := by decide +kernel
theorem dX6_takeWorth_42 : decode cX6_takeWorth 42 = .ok (.return_, 1) := by decide +kernel
set_option maxRecDepth 100000 in
set_option maxHeartbeats 4000000 in
theorem k_X6_takeWorth (κ : Kp) (ma : Nat → Nat) (M : MS) (d : Int) (v : Int)  (hd : (0 ≤ d ∧ d < 3) ∧ 0 ≤ v ∧ v ≤ 3000) (hw : In32 (M 35 d)) : mV κ yX6_takeWorth cX6_takeWorth 3 1 [.ref (ma 100), .int (iI d), .int (iI v)] (mw κ ma M) (is0 (mw κ ma (mA (mA M 35 (tkW (M 35) d v)) 36 (fun _ => tkF (M 34) (M 35) (M 36 0) d v)))) := by
  refine mV_of (by decide) (Nat.le_of_ble_eq_true rfl) (fun E F K => ?_)
  refine g_lv (lv' := [(0, .ref (ma 100)), (1, .int (iI d)), (2, .int (iI v))]) rfl ?_
  refine g_iload_n F 1 dX6_takeWorth_0 rfl ?_
  refine g_iload_n F 2 dX6_takeWorth_1 rfl ?_
  refine g_aload_n F 0 dX6_takeWorth_2 rfl ?_
  refine gm_get_35 F dX6_takeWorth_3 ?_
  refine g_iload_n F 1 dX6_takeWorth_6 rfl ?_
  refine gm_ald_35 F (by omega) dX6_takeWorth_7 ?_
  refine g_callSI F (stk := [.int (iI (M 35 d)), .int (iI v), .int (iI d)]) (st := []) (k_X6_isBetter κ (mw κ ma M) d v (M 35 d) (by omega)) cal_X6_isBetter lm_X6_288 rfl (by decide) rfl (Nat.le_of_ble_eq_true rfl) dX6_takeWorth_8 (fun r8 ws8 _ hr8 => ?_)
  obtain ⟨rfl, rfl⟩ := hr8
  refine g_if_eq F 42 (b2i_in _) dX6_takeWorth_11 (by decide) (fun c11 => ?_) (fun c11 => ?_)
  · skip
    have c11 : ¬ (btr d v (M 35 d)) := b2i_f c11
    exact K mw_same (by unfold tkW tkF; rw [if_neg c11, if_neg (fun z => c11 z.1), mA_self]; rfl) dX6_takeWorth_42
  · skip
    have c11 : btr d v (M 35 d) := b2i_t c11
    refine g_aload_n F 0 dX6_takeWorth_14 rfl ?_
    refine gm_get_35 F dX6_takeWorth_15 ?_
    refine g_iload_n F 1 dX6_takeWorth_18 rfl ?_
    refine g_iload_n F 2 dX6_takeWorth_19 rfl ?_
    refine gm_ast_35 F (by omega) dX6_takeWorth_20 ?_
    refine g_aload_n F 0 dX6_takeWorth_21 rfl ?_
    refine g_iload_n F 1 dX6_takeWorth_22 rfl ?_
    refine g_if_ne F 35 (by omega) dX6_takeWorth_23 (by decide) (fun c23 => ?_) (fun c23 => ?_)
    · skip
      refine g_aload_n F 0 dX6_takeWorth_35 rfl ?_
      refine gm_get_36 F dX6_takeWorth_36 ?_
      refine g_top (y := iI (M 36 0)) rfl ?_
      refine gm_put_36 F dX6_takeWorth_39 ?_
      exact K mw_same (by unfold tkW tkF; rw [if_pos c11, if_neg (fun z => c23 z.2)]) dX6_takeWorth_42
    · skip
      refine g_aload_n F 0 dX6_takeWorth_26 rfl ?_
      refine gm_get_34 F dX6_takeWorth_27 ?_
      refine g_iconst F dX6_takeWorth_30 ?_
      refine gm_ald_34 F (by omega) dX6_takeWorth_31 ?_
      refine g_top (y := iI (M 34 0)) rfl ?_
      refine g_goto F 39 dX6_takeWorth_32 (by decide) ?_
      refine gm_put_36 F dX6_takeWorth_39 ?_
      exact K mw_same (by unfold tkW tkF; rw [if_pos c11, if_pos ⟨c11, c23⟩]) dX6_takeWorth_42
