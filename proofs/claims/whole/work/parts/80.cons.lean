/-! NEW THINGS: constructors, in the layer -/
def eN (E : gE) (k n : Nat) : gE := (E.1, E.2.1, E.2.2.1, E.2.2.2.1, E.2.2.2.2.1, E.2.2.2.2.2.1, E.2.2.2.2.2.2.1, E.2.2.2.2.2.2.2.1, E.2.2.2.2.2.2.2.2.1, E.2.2.2.2.2.2.2.2.2.1, E.2.2.2.2.2.2.2.2.2.2.1, E.2.2.2.2.2.2.2.2.2.2.2.1, k, n, E.2.2.2.2.2.2.2.2.2.2.2.2.2.2)
/-- the room of new things; all that is new may be written -/
def FC (E : gE) (mc ms : Nat) : Prop :=
  match E with
  | (_, _, _, R, s, _, _, _, _, _, _, A, _, _, _, _) => R.cells = mc ∧ R.slots = ms ∧ (∀ q, s.heap.size ≤ q → A q) ∧ va_AO RX0 s
def FI (E : gE) : Prop :=
  match E with
  | (_, _, _, _, _, _, _, _, meth, _, _, _, _, _, _, _) => meth.name = "<init>"
section
variable {E : gE} {κ : Kp} {cc : ByteArray} {own : String} {n dd mc ms k j k2 j2 : Nat} {ws : va_W} {lv : List (Nat × Value)} {pc : Nat} {st : List Value}
theorem Fx.N (F : Fx E κ cc own n dd) (C : FC E mc ms) (hk : k ≤ mc) (hj : j ≤ ms) : Fx (eN E k j) κ cc own n dd := by
  obtain ⟨p, l, e, R, s, m, args, below, meth, c, κ', A, cells, slots, Q, nL⟩ := E
  obtain ⟨h1, h2, h3, h4, h5, h6, h7, h8, h9, h10, h11, h12, h13⟩ := F
  obtain ⟨c1, c2, c3, c4⟩ := C
  exact ⟨h1, h2, h3, h4, h5, h6, h7, h8, h9, h10, h11, (by rw [c1]; exact hk), (by rw [c2]; exact hj)⟩
theorem g_widen (h1 : k ≤ k2) (h2 : j ≤ j2) (kk : G (eN E k2 j2) ws lv pc st) : G (eN E k j) ws lv pc st := by
  obtain ⟨p, l, e, R, s, m, args, below, meth, c, κ', A, cells, slots, Q, nL⟩ := E
  intro H locs ls hP hD hS hl
  exact W.widen h1 h2 (kk H locs ls hP hD hS hl)
theorem g_subW {ws' : va_W} (is : List Nat) (hs : is.map (fun i => ws[i]?) = ws'.map some) (hn : va_nd is = true) (kk : G E ws' lv pc st) : G E ws lv pc st := by
  obtain ⟨p, l, e, R, s, m, args, below, meth, c, κ', A, cells, slots, Q, nL⟩ := E
  intro H locs ls hP hD hS hl
  exact kk H locs ls (hP.sub is (by have h := congrArg (List.filterMap id) hs; rw [List.filterMap_map, List.filterMap_map] at h; exact h.trans (by simp))) (hD.sub is hn hs) hS hl
theorem g_objInit (F : Fx E κ cc own n dd) {a idx : Nat} (hd1 : 1 ≤ dd) (hli : Cond.methodLink own idx objectInit ∈ TG) (hst : (st.map fun v => v.category).sum ≤ 8) (hd : decode cc pc = .ok (.invokespecial idx, 3)) (kk : G E ws lv (pc + 3) st) : G E ws lv pc (.ref a :: st) := by
  obtain ⟨p, l, e, R, s, m, args, below, meth, c, κ', A, cells, slots, Q, nL⟩ := E
  obtain ⟨rfl, hx, hb, hml, rfl, hown, hts, hlk, hK, hr1, hr2, hr3, hr4⟩ := F
  intro H locs ls hP hD hS hl
  exact W.objInit hx hb hown (hts _ hli) (hts _ oi_1) (hts _ oi_2) rfl (by rw [hml]; exact hl.1) rfl hd (by omega) (by have h2 := lv_room (m := m) (pc := pc) (ls := ls) (rest := .ref a :: st) hst; omega) (kk H locs ls hP hD hS hl)
theorem g_obj (F : Fx (eN E k j) κ cc own n dd) (C : FC E mc ms) {C0 : String} {T : u_T} {N ci idx : Nat} {fs : List Value} (ty : Nat → FieldType) (hty : ∀ i, i < N → parseFieldDescriptor (T i).2.2.1 = some (ty i)) (hin : ∀ w ∈ u_ws C0 T N, w ∈ TG) (hcl : Cond.classLink own idx C0 ∈ TG) (hins : Cond.instantiable C0 N ∈ TG) (hini : Cond.initialized C0 ∈ TG) (hc : vwCl[ci]? = some (C0, T, N)) (hfs : ∀ i, i < N → defaultValue (ty i) = vp_V fs i) (hk : k + 1 = k2) (hj : j + N = j2) (hk2 : k2 ≤ mc) (hj2 : j2 ≤ ms) (hd : decode cc pc = .ok (.new idx, 3)) (kk : ∀ q : Nat, G (eN E k2 j2) (ws ++ [(q, .inr (ci, fs))]) lv (pc + 3) (.ref q :: st)) : G (eN E k j) ws lv pc st := by
  obtain ⟨p, l, e, R, s, m, args, below, meth, c, κ', A, cells, slots, Q, nL⟩ := E
  have F : Fx (p, l, e, R, s, m, args, below, meth, c, κ', A, k, j, Q, nL) κ cc own n dd := F
  obtain ⟨rfl, hx, hb, hml, rfl, hown, hts, hlk, hK, hr1, hr2, hr3, hr4⟩ := F
  obtain ⟨c1, c2, c3, c4⟩ := C
  intro H locs ls hP hD hS hl
  subst hk hj
  exact va_new hx hb hts hin ty hty hown (hts _ hcl) (hts _ hins) (hts _ hini) hK.1 hP hD hS c3 hc hfs (by rw [c1]; exact hk2) (by rw [c2]; exact hj2) hd (fun q H1 hP hD hS => kk q H1 locs ls hP hD hS hl)
theorem g_arr (F : Fx (eN E k j) κ cc own n dd) (C : FC E mc ms) {z : Int} (N : Nat) (hz : z = (N : Int)) (hN : N ≤ 2000) (hk : k + 1 = k2) (hj : j + N = j2) (hk2 : k2 ≤ mc) (hj2 : j2 ≤ ms) (hd : decode cc pc = .ok (.newarray .int, 2)) (kk : ∀ q : Nat, G (eN E k2 j2) (ws ++ [(q, .inl (κ.2.1, N, .inl (fun _ : Nat => iI 0)))]) lv (pc + 2) (.ref q :: st)) : G (eN E k j) ws lv pc (.int (iI z) :: st) := by
  obtain ⟨p, l, e, R, s, m, args, below, meth, c, κ', A, cells, slots, Q, nL⟩ := E
  have F : Fx (p, l, e, R, s, m, args, below, meth, c, κ', A, k, j, Q, nL) κ cc own n dd := F
  obtain ⟨rfl, hx, hb, hml, rfl, hown, hts, hlk, hK, hr1, hr2, hr3, hr4⟩ := F
  obtain ⟨c1, c2, c3, c4⟩ := C
  intro H locs ls hP hD hS hl
  subst hk hj hz
  refine va_newa (atype := .int) (ty := .int) (N' := N) (a0 := (N, .inl (fun _ : Nat => iI 0))) hx hb (hts _ arr_int) rfl hK.1 hP hD hS c3 (fun cA => rfl) (by rw [show (0 : Int32) = iI 0 from rfl, iI_lt (by omega) (by omega)]; omega) ?_ (by show N * 4 ≤ 536870912; omega) (by rw [c1]; exact hk2) (by rw [c2]; exact hj2) hd (fun q cA H1 hK2 hP hD hS => ?_)
  · rw [iI_clamp (by omega) (by omega)]; omega
  · have e1 : va_RA s κ'.2.1 .int := (hK.1.2 0 (κ'.2.1, .int) rfl).2
    have e2 : va_RA s cA .int := (hK2.2 2 (cA, .int) rfl).2
    have e : κ'.2.1 = cA := Option.some.inj (Eq.trans (Eq.symm e1) e2)
    subst e
    exact kk q H1 locs ls hP hD hS hl
theorem g_arrq (F : Fx (eN E k j) κ cc own n dd) (C : FC E mc ms) {idx : Nat} (hcl : Cond.classLink own idx RX0 ∈ TG) (hk : k + 1 = k2) (hj : j + 8 = j2) (hk2 : k2 ≤ mc) (hj2 : j2 ≤ ms) (hd : decode cc pc = .ok (.anewarray idx, 3)) (kk : ∀ q : Nat, G (eN E k2 j2) (ws ++ [(q, .inl (κ.2.2.1, 8, .inr (.inr (.inr (.inr (fun _ : Nat => none))))))]) lv (pc + 3) (.ref q :: st)) : G (eN E k j) ws lv pc (.int (iI 8) :: st) := by
  obtain ⟨p, l, e, R, s, m, args, below, meth, c, κ', A, cells, slots, Q, nL⟩ := E
  have F : Fx (p, l, e, R, s, m, args, below, meth, c, κ', A, k, j, Q, nL) κ cc own n dd := F
  obtain ⟨rfl, hx, hb, hml, rfl, hown, hts, hlk, hK, hr1, hr2, hr3, hr4⟩ := F
  obtain ⟨c1, c2, c3, c4⟩ := C
  intro H locs ls hP hD hS hl
  subst hk hj
  refine va_newq (N' := 8) hx hb hown (hts _ hcl) c4 hK.1 hP hD hS c3 (by decide) (by decide) (by decide) (by rw [c1]; exact hk2) (by rw [c2]; exact hj2) hd (fun q cA H1 hK2 hP hD hS => ?_)
  obtain ⟨k1, d1, a1, a2, a3, a4⟩ : va_RA s κ'.2.2.1 (.object RX0) := (hK.1.2 1 (κ'.2.2.1, .object RX0) rfl).2
  obtain ⟨k2, d2, b1, b2, b3, b4⟩ : va_RA s cA (.object RX0) := (hK2.2 2 (cA, .object RX0) rfl).2
  have e : κ'.2.2.1 = cA := Option.some.inj (Eq.trans (Eq.symm a4) b4)
  subst e
  exact kk q H1 locs ls hP hD hS hl
theorem g_putF (F : Fx E κ cc own n dd) (I : FI E) {a ci : Nat} {fs : List Value} {ws' : va_W} (q0 : Nat) (he : ws[q0]? = some (a, .inr (ci, fs))) {C0 : String} {T : u_T} {N : Nat} (hc : vwCl[ci]? = some (C0, T, N)) (hin : ∀ w ∈ u_ws C0 T N, w ∈ TG) (ty0 : Nat → FieldType) (hty : ∀ i, i < N → parseFieldDescriptor (T i).2.2.1 = some (ty0 i)) (hnm : ∀ a, a < N → ∀ b, b < N → a ≠ b → (T a).2.1 ≠ (T b).2.1) (i : Nat) (hi : i < N) {idx : Nat} (hli : Cond.fieldLink own idx (T i).1 (T i).2.1 (T i).2.2.1 ∈ TG) (hfin : (T i).2.2.2 = true) (hdecl : (T i).1 = own) {v : Value} (hn : narrow (ty0 i) v = v) (hfit : fits (ty0 i) v = true) (hlen : i < fs.length) (hw : ws.set q0 (a, .inr (ci, fs.set i v)) = ws') (hd : decode cc pc = .ok (.putfield idx, 3)) (kk : G E ws' lv (pc + 3) st) : G E ws lv pc (v :: .ref a :: st) := by
  obtain ⟨p, l, e, R, s, m, args, below, meth, c, κ', A, cells, slots, Q, nL⟩ := E
  obtain ⟨rfl, hx, hb, hml, rfl, hown, hts, hlk, hK, hr1, hr2, hr3, hr4⟩ := F
  intro H locs ls hP hD hS hl
  subst hw
  exact va_putF hx hb hts hin ty0 hty hnm hown hK.1 hP hD hS q0 he hc i hi (hts _ hli) (fun _ h9 => h9) hfin I hdecl (hty i hi) hn hfit hlen hd (fun H locs hP hD hS => kk H locs ls hP hD hS hl)
end
/-- a constructor's contract: on a new object at h0 it leaves a world of 'post h0' -/
def PreC (κ : Kp) (h0 sz ci : Nat) (fs : List Value) : Array Value → State → Prop := va_Pc [.ref h0] (fun U => U.heap.size = sz ∧ va_P κ.1 vwCl [(h0, .inr (ci, fs))] U.heap ∧ va_D (fun _ => True) [(h0, .inr (ci, fs))] ∧ KE κ (va_A [(h0, .inr (ci, fs))] sz) U ∧ va_AO RX0 U)
def mC (κ : Kp) (y : MethodName) (cc : ByteArray) (n d mc ms ci : Nat) (fs : List Value) (post : Nat → va_W → Prop) : Prop :=
  ∀ (l : Launch) (h0 sz : Nat), Met l y (Cond.code y cc n none :: TG) { frames := d, cells := mc, slots := ms, locals := 64 * d } (PreC κ h0 sz ci fs) (va_Qv (post h0) (fun (ws' : va_W) t => va_P κ.1 vwCl ws' t.heap ∧ va_D (va_A [(h0, .inr (ci, fs))] sz) ws') (va_A [(h0, .inr (ci, fs))] sz)) mc ms (va_A [(h0, .inr (ci, fs))] sz)
theorem mC_of {κ : Kp} {y : MethodName} {cc : ByteArray} {n d mc ms ci : Nat} {fs : List Value} {post : Nat → va_W → Prop} (hy : plainName y.cls = true) (hn : 1 ≤ n)
    (hyn : y.name = "<init>") (body : ∀ (E : gE) (h0 : Nat), Fx (eN E 0 0) κ cc y.cls n d → FC E mc ms → FI E → (∀ {ws' : va_W} {lv : List (Nat × Value)} {pc : Nat}, post h0 ws' → decode cc pc = .ok (.return_, 1) → G (eN E mc ms) ws' lv pc []) → G (eN E 0 0) [(h0, .inr (ci, fs))] [(0, .ref h0)] 0 []) : mC κ y cc n d mc ms ci fs post := by
  intro l h0 sz
  refine Met.ofW (cc := cc) (maxL := n) (ret := none) hy rfl ?_
  intro p e s m args below meth c s₁ B hml hv
  obtain ⟨rfl, hsz, hP, hD0, hK, hAO⟩ := hv
  subst hsz
  have hx := B.exec
  have hb := B.bytes
  have hr := B.returns
  have hts := atoms_spec (ws := Cond.code y cc n none :: TG) B.pre
  have hown : s.vm.findClass y.cls = some m.cls := findClass_of_methodNamed B.named
  have hlk := B.notSynchronized
  have hin : meth.name = "<init>" := (name_of_methodNamed B.named B.method).1.trans hyn
  have hl := lv_entry [.ref h0] (n := n) hn
  have hD : va_D (va_A [(h0, .inr (ci, fs))] s.heap.size) [(h0, .inr (ci, fs))] := hD0.self
  rw [lg_entry_eq]
  refine body (p, l, e, { frames := d, cells := mc, slots := ms, locals := 64 * d }, s, m, [Value.ref h0].toArray, below, meth, c, κ, va_A [(h0, .inr (ci, fs))] s.heap.size, 0, 0, _, n) h0 ⟨rfl, hx, hb, hml, rfl, hown, fun w hw => hts w (List.mem_cons_of_mem _ hw), hlk, hK, Nat.le_refl _, Nat.le_refl _, Nat.zero_le _, Nat.zero_le _⟩ ⟨rfl, rfl, fun q h => Or.inr h, hAO⟩ hin ?_ s.heap [] _ hP hD va_S.rf hl
  intro ws' lv pc hpost hd H locs ls hP' hD' hS' hl'
  exact W.vret hx hb hr (fun t ht hW => ⟨⟨ws', rfl, hpost, by rw [ht]; exact hP', hD'⟩, hS'.F ht⟩) hS'.2.2 hd
def CalC (y : MethodName) (bytes : ByteArray) (maxL : Nat) : Prop := Cond.instanceMethod y ∈ TG ∧ y.name = "<init>" ∧ Cond.initialized y.cls ∈ TG ∧ Cond.code y bytes maxL none ∈ TG ∧ (y.cls ≠ "java/lang/invoke/MethodHandle" ∧ y.cls ≠ "java/lang/invoke/VarHandle" ∧ (parseMethodDescriptor y.desc).map (fun d => d.parameters.length) = some 0) ∧ maxL ≤ 45
theorem KE.wide {κ : Kp} {A : Nat → Prop} {ws : va_W} {s U : State} {H : Heap} {locs : List Loc} (h : KE κ A s) (hS : va_S A s.heap H locs) (hD : va_D A ws) (hA : ∀ q, s.heap.size ≤ q → A q) (hU : U.heap = H) (hW : s.WarmedH U.vm) : KE κ (va_A ws H.size) U := by
  obtain ⟨h1, h2, h3, h4⟩ := h
  have hAB : ∀ q, va_A ws H.size q → A q := fun q hq => by
    rcases hq with ⟨k, e, hk⟩ | hq
    · exact hD.2 k (q, e) hk
    · exact hA q (Nat.le_trans hS.1 hq)
  refine ⟨va_K.moved hW.alike h1, h2.warm hW, ?_, ?_⟩
  · rw [hU]
    exact ((h3.kept hS.2.1).narrow hAB).moved hW.alike
  · rw [hU]
    exact ((h4.kept hS.2.1).narrow hAB).moved hW.alike
theorem PreC.blind {κ : Kp} {h0 sz ci : Nat} {fs : List Value} : FrameBlind (PreC κ h0 sz ci fs) := by
  intro a U g mk h
  obtain ⟨q0, q1, qP, qD, qK, qA⟩ := h
  exact ⟨q0, q1, qP, qD, qK.blind g mk a, va_AO.moved (u := U) (U := U.calling g mk a) (Vm.Alike.refl U.vm) qA⟩
/-- the caller's things and what the constructor made -/
theorem c_join {κ : Kp} {A : Nat → Prop} {w1 w' : va_W} {q ci : Nat} {fs : List Value} {H H1 : Heap} (hP : va_P κ.1 vwCl (w1 ++ [(q, .inr (ci, fs))]) H) (hD : va_D A (w1 ++ [(q, .inr (ci, fs))])) (hA : ∀ x, va_A [(q, .inr (ci, fs))] H.size x → A x) (hk : ∀ x : Nat, x < H.size → ¬ va_A [(q, .inr (ci, fs))] H.size x → H1[x]? = H[x]?) (hP1 : va_P κ.1 vwCl w' H1) (hD1 : va_D (va_A [(q, .inr (ci, fs))] H.size) w') : va_P κ.1 vwCl (w1 ++ w') H1 ∧ va_D A (w1 ++ w') := by
  have hlt : ∀ (k : Nat) (x : Nat × va_E), w1[k]? = some x → x.1 < H.size ∧ ¬ va_A [(q, .inr (ci, fs))] H.size x.1 := fun k x hx => by
    have h1 := ((va_PL hP) k x hx).lt
    refine ⟨h1, fun h => ?_⟩
    rcases h with ⟨k2, e2, h2⟩ | h2
    · have h3 := apartL hD hx
      exact h3 ⟨k2, e2, h2⟩
    · omega
  refine ⟨va_P.app ((va_PL hP).kept (fun k x hx => hk x.1 (hlt k x hx).1 (hlt k x hx).2)) hP1, ⟨fun i i2 a b hi hi2 e => ?_, fun k x hx => ?_⟩⟩
  · by_cases c1 : i < w1.length <;> by_cases c2 : i2 < w1.length
    · rw [List.getElem?_append_left c1] at hi
      rw [List.getElem?_append_left c2] at hi2
      exact (va_DL hD).1 i i2 a b hi hi2 e
    · rw [List.getElem?_append_left c1] at hi
      rw [List.getElem?_append_right (by omega)] at hi2
      exact absurd (e ▸ hD1.2 _ b hi2) (hlt i a hi).2
    · rw [List.getElem?_append_right (by omega)] at hi
      rw [List.getElem?_append_left c2] at hi2
      exact absurd (e.symm ▸ hD1.2 _ a hi) (hlt i2 b hi2).2
    · rw [List.getElem?_append_right (by omega)] at hi
      rw [List.getElem?_append_right (by omega)] at hi2
      have := hD1.1 _ _ a b hi hi2 e
      omega
  · by_cases c1 : k < w1.length
    · rw [List.getElem?_append_left c1] at hx
      exact (va_DL hD).2 k x hx
    · rw [List.getElem?_append_right (by omega)] at hx
      exact hA _ (hD1.2 _ x hx)
section
variable {E : gE} {κ : Kp} {cc : ByteArray} {own : String} {n dd mc ms k j k2 j2 : Nat} {w1 : va_W} {lv : List (Nat × Value)} {pc : Nat} {st : List Value}
theorem c_free {A : Nat → Prop} {s : State} {H : Heap} {locs : List Loc} {q : Nat} {e : va_E} (hD : va_D A (w1 ++ [(q, e)])) (hS : va_S A s.heap H locs) (hA : ∀ q, s.heap.size ≤ q → A q) : ∀ x, va_A [(q, e)] H.size x → A x := fun x h => by
  rcases h with ⟨k, e2, h⟩ | h
  · exact (va_DR hD).2 k (x, e2) h
  · exact hA x (Nat.le_trans hS.1 h)
theorem g_callCN (F : Fx (eN E k j) κ cc own n dd) (C : FC E mc ms) {y : MethodName} {bytes : ByteArray} {maxL d mc1 ms1 ci idx q : Nat} {fs : List Value} {post : Nat → va_W → Prop} (hM : mC κ y bytes maxL d mc1 ms1 ci fs post) (hc : CalC y bytes maxL) {host : String} (hli : Cond.methodLinkNest own idx y host ∈ NWl) (hdd : d + 1 ≤ dd) (hst : (st.map fun v => v.category).sum ≤ 8) (hk : k + mc1 = k2) (hj : j + ms1 = j2) (hk2 : k2 ≤ mc) (hj2 : j2 ≤ ms) (hd : decode cc pc = .ok (.invokespecial idx, 3)) (kk : ∀ w' : va_W, post q w' → G (eN E k2 j2) (w1 ++ w') lv (pc + 3) st) : G (eN E k j) (w1 ++ [(q, .inr (ci, fs))]) lv pc (.ref q :: st) := by
  obtain ⟨p, l, e, R, s, m, args, below, meth, c, κ', A, cells, slots, Q, nL⟩ := E
  have F : Fx (p, l, e, R, s, m, args, below, meth, c, κ', A, k, j, Q, nL) κ cc own n dd := F
  obtain ⟨rfl, hx, hb, hml, rfl, hown, hts, hlk, hK, hr1, hr2, hr3, hr4⟩ := F
  obtain ⟨c1, c2, c3, c4⟩ := C
  intro H locs ls hP hD hS hl
  subst hk hj
  have hf := c_free hD hS c3
  refine va_callv (va_runIN (As := []) ⟨hx, hb, hml, hown, hts⟩ (hM l q H.size) ⟨va_cnB 0 hts (tg_call hc.2.2.2.1) rfl rfl rfl (hK.2.1 _ hli) (hts _ hc.2.2.1) hc.2.2.2.2.1 ⟨by show d + 1 ≤ R.frames; omega, by show 8 + (maxL + 11) + 64 * d ≤ R.locals; have := hc.2.2.2.2.2; omega⟩, hc.2.1, hts _ hc.1⟩ ⟨PreC.blind, fun U hU hW => ⟨rfl, by rw [hU], by rw [hU]; exact va_PR hP, (va_DR hD).weaken (fun _ _ _ _ => trivial), hK.wide hS (va_DR hD) c3 hU hW, va_AO.moved hW.alike c4⟩⟩ rfl rfl hl.1 rfl (lv_room hst) hd ⟨by rw [c1]; exact hk2, by rw [c2]; exact hj2⟩) hS (fun x _ h => hf x h) hf (fun w' t H1 locs1 ht hvm hw hB hz1 hk1 hS1 => ?_)
  have hP1 := hB.1
  rw [ht] at hP1
  have hJ := c_join hP hD hf hk1 hP1 hB.2
  exact kk w' hw H1 locs1 ls hJ.1 hJ.2 hS1 hl
theorem g_callC (F : Fx (eN E k j) κ cc own n dd) (C : FC E mc ms) {y : MethodName} {bytes : ByteArray} {maxL d mc1 ms1 ci idx q : Nat} {fs : List Value} {post : Nat → va_W → Prop} (hM : mC κ y bytes maxL d mc1 ms1 ci fs post) (hc : CalC y bytes maxL) (hli : Cond.methodLink own idx y ∈ TG) (hdd : d + 1 ≤ dd) (hst : (st.map fun v => v.category).sum ≤ 8) (hk : k + mc1 = k2) (hj : j + ms1 = j2) (hk2 : k2 ≤ mc) (hj2 : j2 ≤ ms) (hd : decode cc pc = .ok (.invokespecial idx, 3)) (kk : ∀ w' : va_W, post q w' → G (eN E k2 j2) (w1 ++ w') lv (pc + 3) st) : G (eN E k j) (w1 ++ [(q, .inr (ci, fs))]) lv pc (.ref q :: st) := by
  obtain ⟨p, l, e, R, s, m, args, below, meth, c, κ', A, cells, slots, Q, nL⟩ := E
  have F : Fx (p, l, e, R, s, m, args, below, meth, c, κ', A, k, j, Q, nL) κ cc own n dd := F
  obtain ⟨rfl, hx, hb, hml, rfl, hown, hts, hlk, hK, hr1, hr2, hr3, hr4⟩ := F
  obtain ⟨c1, c2, c3, c4⟩ := C
  intro H locs ls hP hD hS hl
  subst hk hj
  have hf := c_free hD hS c3
  refine va_callv (va_runI (As := []) ⟨hx, hb, hml, hown, hts⟩ (hM l q H.size) (cwI 0 hts (tg_call hc.2.2.2.1) rfl rfl rfl (hts _ hc.2.2.1) (hts _ hli) (hts _ hc.1) hc.2.1 hc.2.2.2.2.1 ⟨by show d + 1 ≤ R.frames; omega, by show 8 + (maxL + 11) + 64 * d ≤ R.locals; have := hc.2.2.2.2.2; omega⟩) ⟨PreC.blind, fun U hU hW => ⟨rfl, by rw [hU], by rw [hU]; exact va_PR hP, (va_DR hD).weaken (fun _ _ _ _ => trivial), hK.wide hS (va_DR hD) c3 hU hW, va_AO.moved hW.alike c4⟩⟩ rfl rfl hl.1 rfl (lv_room hst) hd ⟨by rw [c1]; exact hk2, by rw [c2]; exact hj2⟩) hS (fun x _ h => hf x h) hf (fun w' t H1 locs1 ht hvm hw hB hz1 hk1 hS1 => ?_)
  have hP1 := hB.1
  rw [ht] at hP1
  have hJ := c_join hP hD hf hk1 hP1 hB.2
  exact kk w' hw H1 locs1 ls hJ.1 hJ.2 hS1 hl
end
theorem Fx.NN {E : gE} {κ : Kp} {cc : ByteArray} {own : String} {n dd mc ms k j k2 j2 : Nat} (F : Fx (eN E k j) κ cc own n dd) (C : FC E mc ms) (hk : k2 ≤ mc) (hj : j2 ≤ ms) : Fx (eN E k2 j2) κ cc own n dd := by
  obtain ⟨p, l, e, R, s, m, args, below, meth, c, κ', A, cells, slots, Q, nL⟩ := E
  obtain ⟨h1, h2, h3, h4, h5, h6, h7, h8, h9, h10, h11, h12, h13⟩ := F
  obtain ⟨c1, c2, c3, c4⟩ := C
  exact ⟨h1, h2, h3, h4, h5, h6, h7, h8, h9, h10, h11, (by rw [← c1] at hk; exact hk), (by rw [← c2] at hj; exact hj)⟩
theorem FI.N {E : gE} {k j : Nat} (h : FI E) : FI (eN E k j) := by
  obtain ⟨p, l, e, R, s, m, args, below, meth, c, κ', A, cells, slots, Q, nL⟩ := E
  exact h
section
variable {E : gE} {κ : Kp} {cc : ByteArray} {own : String} {n dd : Nat} {ws : va_W} {lv : List (Nat × Value)} {pc : Nat} {st : List Value}
theorem g_astq (F : Fx E κ cc own n dd) {a v : Nat} {f : Nat → Option Nat} {vs : List Value} {ws' : va_W} {z : Int} (q0 qk : Nat) (ha : ws[q0]? = some (a, .inl (κ.2.2.1, 8, .inr (.inr (.inr (.inr f)))))) (hv : ws[qk]? = some (v, .inr (0, vs))) (hz : 0 ≤ z ∧ z < 8) (hw : ws.set q0 (a, .inl (κ.2.2.1, 8, .inr (.inr (.inr (.inr (va_up f z.toNat (some v))))))) = ws') (hd : decode cc pc = .ok (.aastore, 1)) (kk : G E ws' lv (pc + 1) st) : G E ws lv pc (.ref v :: .int (iI z) :: .ref a :: st) := by
  obtain ⟨p, l, e, R, s, m, args, below, meth, c, κ', A, cells, slots, Q, nL⟩ := E
  obtain ⟨rfl, hx, hb, hml, rfl, hown, hts, hlk, hK, hr1, hr2, hr3, hr4⟩ := F
  intro H locs ls hP hD hS hl
  subst hw
  exact va_astq (r := (RX0, TX0, 5)) hx hb hK.1 hP hD hS q0 1 qk 0 ha rfl hv rfl (iI_in hz.1 (n := 8) (by omega) (by decide)) hd (fun H locs hP hD hS => by rw [iI_clamp hz.1 (by omega)] at hP hD; exact kk H locs ls hP hD hS hl)
/-- an array of objects looks only at its own places -/
theorem g_arrF {a : Nat} {cA : ClassId} {N : Nat} {f g : Nat → Option Nat} {ws' : va_W} (q0 : Nat) (ha : ws[q0]? = some (a, .inl (cA, N, .inr (.inr (.inr (.inr f)))))) (hfg : ∀ j, j < N → f j = g j) (hw : ws.set q0 (a, .inl (cA, N, .inr (.inr (.inr (.inr g))))) = ws') (kk : G E ws' lv pc st) : G E ws lv pc st := by
  obtain ⟨p, l, e, R, s, m, args, below, meth, c, κ', A, cells, slots, Q, nL⟩ := E
  intro H locs ls hP hD hS hl
  subst hw
  have hc : vp_cell cA (N, .inr (.inr (.inr (.inr f)))) = vp_cell cA (N, .inr (.inr (.inr (.inr g)))) := by
    rw [vp_cell_q, vp_cell_q]
    unfold arrV
    congr 1
    exact congrArg Array.ofFn (funext fun j : Fin N => congrArg va_rf (hfg j.val j.isLt))
  have hq : q0 < ws.length := (List.getElem?_eq_some_iff.mp ha).1
  have hs : sameA ws (ws.set q0 (a, .inl (cA, N, .inr (.inr (.inr (.inr g)))))) := by
    show (ws.set q0 _).map Prod.fst = ws.map Prod.fst
    rw [List.map_set]
    have h1 : (ws.map Prod.fst)[q0]? = some a := by rw [List.getElem?_map, ha]; rfl
    obtain ⟨h2, h3⟩ := List.getElem?_eq_some_iff.mp h1
    rw [← h3, List.set_getElem_self]
  refine kk H locs ls (fun k q hk => ?_) (hs.D hD) hS hl
  by_cases e1 : k = q0
  · subst e1
    rw [List.getElem?_set_self hq] at hk
    cases hk
    have h0 := hP k _ ha
    show H[a]? = some _
    rw [← hc]
    exact h0
  · rw [List.getElem?_set_ne (Ne.symm e1)] at hk
    exact hP k q hk
end
theorem cac_X0 : CalC yX0_init cX0_init 1 := ⟨iin_X0_init, rfl, ini_X0, cod_X0_init, by decide +kernel, by decide⟩
theorem cac_X1 : CalC yX1_init cX1_init 2 := ⟨iin_X1_init, rfl, ini_X1, cod_X1_init, by decide +kernel, by decide⟩
theorem cac_X2 : CalC yX2_init cX2_init 1 := ⟨iin_X2_init, rfl, ini_X2, cod_X2_init, by decide +kernel, by decide⟩
theorem cac_X3 : CalC yX3_init cX3_init 1 := ⟨iin_X3_init, rfl, ini_X3, cod_X3_init, by decide +kernel, by decide⟩
theorem cac_X4 : CalC yX4_init cX4_init 1 := ⟨iin_X4_init, rfl, ini_X4, cod_X4_init, by decide +kernel, by decide⟩
theorem cac_X5 : CalC yX5_init cX5_init 1 := ⟨iin_X5_init, rfl, ini_X5, cod_X5_init, by decide +kernel, by decide⟩
theorem cac_X6 : CalC yX6_init cX6_init 1 := ⟨iin_X6_init, rfl, ini_X6, cod_X6_init, by decide +kernel, by decide⟩
