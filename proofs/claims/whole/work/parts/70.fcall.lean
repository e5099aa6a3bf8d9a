/-! CALLS IN A LARGER WORLD: the class's, and the reference's, side by side -/
theorem va_appL {w1 w2 : va_W} {k : Nat} {q : Nat × va_E} (hk : w1[k]? = some q) : (w1 ++ w2)[k]? = some q := by
  rw [List.getElem?_append_left (List.getElem?_eq_some_iff.mp hk).1]; exact hk
theorem va_appR {w1 w2 : va_W} {k : Nat} {q : Nat × va_E} (hk : w2[k]? = some q) : (w1 ++ w2)[w1.length + k]? = some q := by
  rw [List.getElem?_append_right (Nat.le_add_right _ _), Nat.add_sub_cancel_left]; exact hk
theorem va_PL {D : va_G} {cl : List vw_C} {w1 w2 : va_W} {H : Heap} (h : va_P D cl (w1 ++ w2) H) : va_P D cl w1 H := fun k q hk => h k q (va_appL hk)
theorem va_PR {D : va_G} {cl : List vw_C} {w1 w2 : va_W} {H : Heap} (h : va_P D cl (w1 ++ w2) H) : va_P D cl w2 H := fun k q hk => h _ q (va_appR hk)
theorem va_DL {A : Nat → Prop} {w1 w2 : va_W} (h : va_D A (w1 ++ w2)) : va_D A w1 := ⟨fun i j p q hi hj e => h.1 i j p q (va_appL hi) (va_appL hj) e, fun k q hk => h.2 k q (va_appL hk)⟩
theorem va_DR {A : Nat → Prop} {w1 w2 : va_W} (h : va_D A (w1 ++ w2)) : va_D A w2 := ⟨fun i j p q hi hj e => by have := h.1 _ _ p q (va_appR hi) (va_appR hj) e; omega, fun k q hk => h.2 _ q (va_appR hk)⟩
theorem apartR {A : Nat → Prop} {w1 w2 : va_W} (h : va_D A (w1 ++ w2)) {k : Nat} {q : Nat × va_E} (hk : w2[k]? = some q) : ¬ adr w1 q.1 := fun ⟨j, e, hj⟩ => by
  have h1 := h.1 j (w1.length + k) (q.1, e) q (va_appL hj) (va_appR hk) rfl
  have h2 := (List.getElem?_eq_some_iff.mp hj).1
  omega
theorem apartL {A : Nat → Prop} {w1 w2 : va_W} (h : va_D A (w1 ++ w2)) {k : Nat} {q : Nat × va_E} (hk : w1[k]? = some q) : ¬ adr w2 q.1 := fun ⟨j, e, hj⟩ => by
  have h1 := h.1 k (w1.length + j) q (q.1, e) (va_appL hk) (va_appR hj) rfl
  have h2 := (List.getElem?_eq_some_iff.mp hk).1
  omega
theorem sameA_L {w1 u w2 : va_W} (h : sameA w1 u) : sameA (w1 ++ w2) (u ++ w2) := by
  show (u ++ w2).map Prod.fst = (w1 ++ w2).map Prod.fst
  rw [List.map_append, List.map_append, show u.map Prod.fst = w1.map Prod.fst from h]
theorem sameA_R {w1 u w2 : va_W} (h : sameA w2 u) : sameA (w1 ++ w2) (w1 ++ u) := by
  show (w1 ++ u).map Prod.fst = (w1 ++ w2).map Prod.fst
  rw [List.map_append, List.map_append, show u.map Prod.fst = w2.map Prod.fst from h]
section
variable {E : gE} {κ : Kp} {cc : ByteArray} {own : String} {n dd : Nat} {lv : List (Nat × Value)} {pc : Nat} {st : List Value} {w1 w2 : va_W}
theorem f_callI_L (F : Fx E κ cc own n dd) {y : MethodName} {bytes : ByteArray} {maxL d k0 b ci : Nat} {rt : FieldType} {As : List Value} {fs : List Value} {q : vw_C} {post : Int32 → va_W → Prop} {idx : Nat} {stk : List Value} (hM : mI κ y bytes maxL rt d (.ref b :: As) w1 post) (hc : CalV y bytes maxL (some rt) k0) (hli : Cond.methodLink own idx y ∈ TG) (q0 : Nat) (he : w1[q0]? = some (b, .inr (ci, fs))) (hci : vwCl[ci]? = some q) (hq : q.1 = y.cls) (hn : As.length = k0) (hdd : d + 1 ≤ dd) (hsk : stk = As.reverse ++ .ref b :: st) (hst : (st.map fun v => v.category).sum ≤ 8) (hd : decode cc pc = .ok (.invokevirtual idx, 3)) (k : ∀ (r : Int32) (u : va_W), post r u → G E (u ++ w2) lv (pc + 3) (.int r :: st)) : G E (w1 ++ w2) lv pc stk := by
  obtain ⟨p, l, e, R, s, m, args, below, meth, c, κ', A, cells, slots, Q, nL⟩ := E
  obtain ⟨rfl, hx, hb, hml, rfl, hown, hts, hlk, hK, hr1, hr2, hr3, hr4⟩ := F
  intro H locs ls hP hD hS hl
  subst hsk
  refine va_calli (va_runV ⟨hx, hb, hml, hown, hts⟩ (hM l) ⟨callB_of k0 hts (tg_call hc.2.2.2.1) rfl rfl rfl (hts _ hc.2.2.1) (hts _ hli) hc.2.2.2.2.1 ⟨by show d + 1 ≤ R.frames; omega, by show 8 + (maxL + 11) + 64 * d ≤ R.locals; have := hc.2.2.2.2.2; omega⟩, hts _ hc.1, hts _ hc.2.1⟩ (hq ▸ hK.preV (va_PL hP) (va_DL hD) hS he hci) rfl hn hl.1 rfl (lv_room hst) hd ⟨by omega, by omega⟩) hS (fun q _ h => adr_in (va_DL hD) q h) (adr_in (va_DL hD)) (fun r u t H1 locs1 ht hvm hw hB hz1 hk1 hS1 => k r u hw H1 locs1 ls (va_P.app (by have h9 := hB.1; rw [ht] at h9; exact h9) ((va_PR hP).kept (fun k2 q2 hq2 => hk1 q2.1 ((va_PR hP) k2 q2 hq2).lt (apartR hD hq2)))) ((sameA_L hB.2).D hD) hS1 hl)
theorem f_callL_L (F : Fx E κ cc own n dd) {y : MethodName} {bytes : ByteArray} {maxL d k0 b ci : Nat} {As : List Value} {fs : List Value} {q : vw_C} {post : Int64 → va_W → Prop} {idx : Nat} {stk : List Value} (hM : mL κ y bytes maxL d (.ref b :: As) w1 post) (hc : CalV y bytes maxL (some .long) k0) (hli : Cond.methodLink own idx y ∈ TG) (q0 : Nat) (he : w1[q0]? = some (b, .inr (ci, fs))) (hci : vwCl[ci]? = some q) (hq : q.1 = y.cls) (hn : As.length = k0) (hdd : d + 1 ≤ dd) (hsk : stk = As.reverse ++ .ref b :: st) (hst : (st.map fun v => v.category).sum ≤ 8) (hd : decode cc pc = .ok (.invokevirtual idx, 3)) (k : ∀ (r : Int64) (u : va_W), post r u → G E (u ++ w2) lv (pc + 3) (.long r :: st)) : G E (w1 ++ w2) lv pc stk := by
  obtain ⟨p, l, e, R, s, m, args, below, meth, c, κ', A, cells, slots, Q, nL⟩ := E
  obtain ⟨rfl, hx, hb, hml, rfl, hown, hts, hlk, hK, hr1, hr2, hr3, hr4⟩ := F
  intro H locs ls hP hD hS hl
  subst hsk
  refine va_calll (va_runV ⟨hx, hb, hml, hown, hts⟩ (hM l) ⟨callB_of k0 hts (tg_call hc.2.2.2.1) rfl rfl rfl (hts _ hc.2.2.1) (hts _ hli) hc.2.2.2.2.1 ⟨by show d + 1 ≤ R.frames; omega, by show 8 + (maxL + 11) + 64 * d ≤ R.locals; have := hc.2.2.2.2.2; omega⟩, hts _ hc.1, hts _ hc.2.1⟩ (hq ▸ hK.preV (va_PL hP) (va_DL hD) hS he hci) rfl hn hl.1 rfl (lv_room hst) hd ⟨by omega, by omega⟩) hS (fun q _ h => adr_in (va_DL hD) q h) (adr_in (va_DL hD)) (fun r u t H1 locs1 ht hvm hw hB hz1 hk1 hS1 => k r u hw H1 locs1 ls (va_P.app (by have h9 := hB.1; rw [ht] at h9; exact h9) ((va_PR hP).kept (fun k2 q2 hq2 => hk1 q2.1 ((va_PR hP) k2 q2 hq2).lt (apartR hD hq2)))) ((sameA_L hB.2).D hD) hS1 hl)
theorem f_callI_R (F : Fx E κ cc own n dd) {y : MethodName} {bytes : ByteArray} {maxL d k0 b ci : Nat} {rt : FieldType} {As : List Value} {fs : List Value} {q : vw_C} {post : Int32 → va_W → Prop} {idx : Nat} {stk : List Value} (hM : mI κ y bytes maxL rt d (.ref b :: As) w2 post) (hc : CalV y bytes maxL (some rt) k0) (hli : Cond.methodLink own idx y ∈ TG) (q0 : Nat) (he : w2[q0]? = some (b, .inr (ci, fs))) (hci : vwCl[ci]? = some q) (hq : q.1 = y.cls) (hn : As.length = k0) (hdd : d + 1 ≤ dd) (hsk : stk = As.reverse ++ .ref b :: st) (hst : (st.map fun v => v.category).sum ≤ 8) (hd : decode cc pc = .ok (.invokevirtual idx, 3)) (k : ∀ (r : Int32) (u : va_W), post r u → G E (w1 ++ u) lv (pc + 3) (.int r :: st)) : G E (w1 ++ w2) lv pc stk := by
  obtain ⟨p, l, e, R, s, m, args, below, meth, c, κ', A, cells, slots, Q, nL⟩ := E
  obtain ⟨rfl, hx, hb, hml, rfl, hown, hts, hlk, hK, hr1, hr2, hr3, hr4⟩ := F
  intro H locs ls hP hD hS hl
  subst hsk
  refine va_calli (va_runV ⟨hx, hb, hml, hown, hts⟩ (hM l) ⟨callB_of k0 hts (tg_call hc.2.2.2.1) rfl rfl rfl (hts _ hc.2.2.1) (hts _ hli) hc.2.2.2.2.1 ⟨by show d + 1 ≤ R.frames; omega, by show 8 + (maxL + 11) + 64 * d ≤ R.locals; have := hc.2.2.2.2.2; omega⟩, hts _ hc.1, hts _ hc.2.1⟩ (hq ▸ hK.preV (va_PR hP) (va_DR hD) hS he hci) rfl hn hl.1 rfl (lv_room hst) hd ⟨by omega, by omega⟩) hS (fun q _ h => adr_in (va_DR hD) q h) (adr_in (va_DR hD)) (fun r u t H1 locs1 ht hvm hw hB hz1 hk1 hS1 => k r u hw H1 locs1 ls (va_P.app ((va_PL hP).kept (fun k2 q2 hq2 => hk1 q2.1 ((va_PL hP) k2 q2 hq2).lt (apartL hD hq2))) (by have h9 := hB.1; rw [ht] at h9; exact h9)) ((sameA_R hB.2).D hD) hS1 hl)
theorem f_callL_R (F : Fx E κ cc own n dd) {y : MethodName} {bytes : ByteArray} {maxL d k0 b ci : Nat} {As : List Value} {fs : List Value} {q : vw_C} {post : Int64 → va_W → Prop} {idx : Nat} {stk : List Value} (hM : mL κ y bytes maxL d (.ref b :: As) w2 post) (hc : CalV y bytes maxL (some .long) k0) (hli : Cond.methodLink own idx y ∈ TG) (q0 : Nat) (he : w2[q0]? = some (b, .inr (ci, fs))) (hci : vwCl[ci]? = some q) (hq : q.1 = y.cls) (hn : As.length = k0) (hdd : d + 1 ≤ dd) (hsk : stk = As.reverse ++ .ref b :: st) (hst : (st.map fun v => v.category).sum ≤ 8) (hd : decode cc pc = .ok (.invokevirtual idx, 3)) (k : ∀ (r : Int64) (u : va_W), post r u → G E (w1 ++ u) lv (pc + 3) (.long r :: st)) : G E (w1 ++ w2) lv pc stk := by
  obtain ⟨p, l, e, R, s, m, args, below, meth, c, κ', A, cells, slots, Q, nL⟩ := E
  obtain ⟨rfl, hx, hb, hml, rfl, hown, hts, hlk, hK, hr1, hr2, hr3, hr4⟩ := F
  intro H locs ls hP hD hS hl
  subst hsk
  refine va_calll (va_runV ⟨hx, hb, hml, hown, hts⟩ (hM l) ⟨callB_of k0 hts (tg_call hc.2.2.2.1) rfl rfl rfl (hts _ hc.2.2.1) (hts _ hli) hc.2.2.2.2.1 ⟨by show d + 1 ≤ R.frames; omega, by show 8 + (maxL + 11) + 64 * d ≤ R.locals; have := hc.2.2.2.2.2; omega⟩, hts _ hc.1, hts _ hc.2.1⟩ (hq ▸ hK.preV (va_PR hP) (va_DR hD) hS he hci) rfl hn hl.1 rfl (lv_room hst) hd ⟨by omega, by omega⟩) hS (fun q _ h => adr_in (va_DR hD) q h) (adr_in (va_DR hD)) (fun r u t H1 locs1 ht hvm hw hB hz1 hk1 hS1 => k r u hw H1 locs1 ls (va_P.app ((va_PL hP).kept (fun k2 q2 hq2 => hk1 q2.1 ((va_PL hP) k2 q2 hq2).lt (apartL hD hq2))) (by have h9 := hB.1; rw [ht] at h9; exact h9)) ((sameA_R hB.2).D hD) hS1 hl)
/-- the script -/
def ScrX (E : gE) (b L : Nat) (xs : Nat → Int32) : Prop :=
  match E with
  | (_, _, _, _, s, _, _, _, _, _, _, A, _, _, _, _) => va_X b L xs s s.heap ∧ b < s.heap.size ∧ ¬ A b
/-- its numbers -/
def scI (xs : Nat → Int32) (z : Int) : Int := (xs z.toNat).toInt
theorem scI_in (xs : Nat → Int32) (z : Int) : In32 (scI xs z) := ⟨by have := (xs z.toNat).le_toInt; unfold scI; omega, by have := (xs z.toNat).toInt_lt; unfold scI; omega⟩
variable {ws : va_W}
theorem g_sld (F : Fx E κ cc own n dd) {b L : Nat} {xs : Nat → Int32} (hX : ScrX E b L xs) (hL : L ≤ 2147483647) {z : Int} (hz : 0 ≤ z ∧ z < (L : Int)) (hd : decode cc pc = .ok (.iaload, 1)) (k : G E ws lv (pc + 1) (.int (iI (scI xs z)) :: st)) : G E ws lv pc (.int (iI z) :: .ref b :: st) := by
  obtain ⟨p, l, e, R, s, m, args, below, meth, c, κ', A, cells, slots, Q, nL⟩ := E
  obtain ⟨rfl, hx, hb, hml, rfl, hown, hts, hlk, hK, hr1, hr2, hr3, hr4⟩ := F
  intro H locs ls hP hD hS hl
  have e : xs (iI z).toNatClampNeg = iI (scI xs z) := by
    rw [iI_clamp hz.1 (by omega)]
    exact (iI_self _).symm
  exact va_sld hx hb hX.1 hX.2.1 hX.2.2 hS (iI_in hz.1 hz.2 hL) hd (by rw [e]; exact k H locs ls hP hD hS hl)
theorem g_slen (F : Fx E κ cc own n dd) {b L : Nat} {xs : Nat → Int32} (hX : ScrX E b L xs) (hd : decode cc pc = .ok (.arraylength, 1)) (k : G E ws lv (pc + 1) (.int (iI (L : Int)) :: st)) : G E ws lv pc (.ref b :: st) := by
  obtain ⟨p, l, e, R, s, m, args, below, meth, c, κ', A, cells, slots, Q, nL⟩ := E
  obtain ⟨rfl, hx, hb, hml, rfl, hown, hts, hlk, hK, hr1, hr2, hr3, hr4⟩ := F
  intro H locs ls hP hD hS hl
  exact va_slen hx hb hX.1 hX.2.1 hX.2.2 hS hd (by rw [show Int32.ofNat L = iI (L : Int) from (iI_nat L).symm]; exact k H locs ls hP hD hS hl)
/-- both answers are the same -/
theorem g_icmp_same (F : Fx E κ cc own n dd) {r : Int32} {off : Int} (tgt : Nat) (hd : decode cc pc = .ok (.if_icmp .eq off, 3)) (ht : (pc : Int) + off = (tgt : Int)) (k : G E ws lv tgt st) : G E ws lv pc (.int r :: .int r :: st) := by
  obtain ⟨p, l, e, R, s, m, args, below, meth, c, κ', A, cells, slots, Q, nL⟩ := E
  obtain ⟨rfl, hx, hb, hml, rfl, hown, hts, hlk, hK, hr1, hr2, hr3, hr4⟩ := F
  intro H locs ls hP hD hS hl
  exact lv_icmp_eq hx hb hd ht (fun _ => k H locs ls hP hD hS hl) (fun q => absurd rfl q)
theorem g_lcmp_same (F : Fx E κ cc own n dd) {r : Int64} (hd : decode cc pc = .ok (.lcmp, 1)) (k : G E ws lv (pc + 1) (.int (iI 0) :: st)) : G E ws lv pc (.long r :: .long r :: st) := by
  obtain ⟨z, hz, rfl⟩ : ∃ z : Int, In64 z ∧ r = iL z := ⟨r.toInt, ⟨by have := r.le_toInt; omega, by have := r.toInt_lt; omega⟩, (Int64.ofInt_toInt r).symm⟩
  refine g_lcmp F ⟨hz, hz⟩ hd ?_
  have e : icmp z z = 0 := by unfold icmp; rw [if_neg (by omega)]; split <;> omega
  rw [e]
  exact k
end
