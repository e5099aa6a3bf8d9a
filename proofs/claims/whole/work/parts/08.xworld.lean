/-! THE CLASS'S WORLD: objects 0 now, 1 imageCloth, 2 mind, 3 later, 4 .. 11 the past's cloths, 12 roll, 13 imageRoll, 14 mindRoll, 15 past, 16 text, 17 ways, 18 the object itself -/
abbrev XS : Type := Nat → Nat → Int → Int
def setO (X : XS) (o : Nat) (C : MS) : XS := fun a => if a = o then C else X a
theorem setO_s {X : XS} {o : Nat} {C : MS} : setO X o C o = C := if_pos rfl
theorem setO_n {X : XS} {o a : Nat} {C : MS} (h : a ≠ o) : setO X o C a = X a := if_neg h
theorem setO_setO {X : XS} {o : Nat} {C D : MS} : setO (setO X o C) o D = setO X o D := by
  funext a
  unfold setO
  by_cases h : a = o
  · rw [if_pos h, if_pos h]
  · rw [if_neg h, if_neg h, if_neg h]
theorem setO_self {X : XS} {o : Nat} : setO X o (X o) = X := by
  funext a
  unfold setO
  by_cases h : a = o
  · rw [if_pos h, h]
  · rw [if_neg h]
theorem setO_swap {X : XS} {o a : Nat} {C D : MS} (h : o ≠ a) : setO (setO X o C) a D = setO (setO X a D) o C := by
  funext j
  unfold setO
  by_cases h1 : j = a
  · subst h1; rw [if_pos rfl, if_neg (Ne.symm h), if_pos rfl]
  · rw [if_neg h1]
    by_cases h2 : j = o
    · rw [if_pos h2, if_pos h2]
    · rw [if_neg h2, if_neg h2, if_neg h1]
def cfl (xa : Nat → Nat → Nat) (o : Nat) (C : MS) : List Value := [.ref (xa o 0), .ref (xa o 1), .ref (xa o 2), .ref (xa o 3), .int (iI (C 4 0))]
def rfv (xa : Nat → Nat → Nat) (o : Nat) (C : MS) : List Value := [.ref (xa o 0), .ref (xa o 1), .ref (xa o 2), .int (iI (C 3 0)), .int (iI (C 4 0))]
def pfv (xa : Nat → Nat → Nat) (C : MS) : List Value := [.ref (xa 15 0), .ref (xa 15 1), .int (iI (C 2 0)), .int (iI (C 3 0))]
def tfv (xa : Nat → Nat → Nat) (C : MS) : List Value := [.ref (xa 16 0), .int (iI (C 1 0))]
def wfv (xa : Nat → Nat → Nat) (C : MS) : List Value := [.ref (xa 17 0), .ref (xa 17 1), .ref (xa 17 2), .int (iI (C 3 0))]
def mfv (xa : Nat → Nat → Nat) (C : MS) : List Value := [.ref (xa 0 100), .ref (xa 12 100), .ref (xa 15 100), .ref (xa 16 100), .ref (xa 18 4), .int (iI (C 5 0)), .ref (xa 18 6), .ref (xa 1 100), .ref (xa 13 100), .int (iI (C 9 0)), .ref (xa 2 100), .ref (xa 3 100), .ref (xa 14 100), .ref (xa 17 100), .ref (xa 18 14)]
abbrev iar (κ : Kp) (n : Nat) (f : Int → Int) : va_E := .inl (κ.2.1, n, .inl (fun j : Nat => iI (f (j : Int))))
def xw (κ : Kp) (xa : Nat → Nat → Nat) (X : XS) : va_W := [(xa 0 100, .inr (0, cfl xa 0 (X 0))), (xa 0 0, .inl (κ.2.1, 12, .inl (fun j : Nat => iI (X 0 0 (j : Int))))), (xa 0 1, .inl (κ.2.1, 12, .inl (fun j : Nat => iI (X 0 1 (j : Int))))), (xa 0 2, .inl (κ.2.1, 12, .inl (fun j : Nat => iI (X 0 2 (j : Int))))), (xa 0 3, .inl (κ.2.1, 12, .inl (fun j : Nat => iI (X 0 3 (j : Int))))), (xa 1 100, .inr (0, cfl xa 1 (X 1))), (xa 1 0, .inl (κ.2.1, 12, .inl (fun j : Nat => iI (X 1 0 (j : Int))))), (xa 1 1, .inl (κ.2.1, 12, .inl (fun j : Nat => iI (X 1 1 (j : Int))))), (xa 1 2, .inl (κ.2.1, 12, .inl (fun j : Nat => iI (X 1 2 (j : Int))))), (xa 1 3, .inl (κ.2.1, 12, .inl (fun j : Nat => iI (X 1 3 (j : Int))))), (xa 2 100, .inr (0, cfl xa 2 (X 2))), (xa 2 0, .inl (κ.2.1, 12, .inl (fun j : Nat => iI (X 2 0 (j : Int))))), (xa 2 1, .inl (κ.2.1, 12, .inl (fun j : Nat => iI (X 2 1 (j : Int))))), (xa 2 2, .inl (κ.2.1, 12, .inl (fun j : Nat => iI (X 2 2 (j : Int))))), (xa 2 3, .inl (κ.2.1, 12, .inl (fun j : Nat => iI (X 2 3 (j : Int))))), (xa 3 100, .inr (0, cfl xa 3 (X 3))), (xa 3 0, .inl (κ.2.1, 12, .inl (fun j : Nat => iI (X 3 0 (j : Int))))), (xa 3 1, .inl (κ.2.1, 12, .inl (fun j : Nat => iI (X 3 1 (j : Int))))), (xa 3 2, .inl (κ.2.1, 12, .inl (fun j : Nat => iI (X 3 2 (j : Int))))), (xa 3 3, .inl (κ.2.1, 12, .inl (fun j : Nat => iI (X 3 3 (j : Int))))), (xa 4 100, .inr (0, cfl xa 4 (X 4))), (xa 4 0, .inl (κ.2.1, 12, .inl (fun j : Nat => iI (X 4 0 (j : Int))))), (xa 4 1, .inl (κ.2.1, 12, .inl (fun j : Nat => iI (X 4 1 (j : Int))))), (xa 4 2, .inl (κ.2.1, 12, .inl (fun j : Nat => iI (X 4 2 (j : Int))))), (xa 4 3, .inl (κ.2.1, 12, .inl (fun j : Nat => iI (X 4 3 (j : Int))))), (xa 5 100, .inr (0, cfl xa 5 (X 5))), (xa 5 0, .inl (κ.2.1, 12, .inl (fun j : Nat => iI (X 5 0 (j : Int))))), (xa 5 1, .inl (κ.2.1, 12, .inl (fun j : Nat => iI (X 5 1 (j : Int))))), (xa 5 2, .inl (κ.2.1, 12, .inl (fun j : Nat => iI (X 5 2 (j : Int))))), (xa 5 3, .inl (κ.2.1, 12, .inl (fun j : Nat => iI (X 5 3 (j : Int))))), (xa 6 100, .inr (0, cfl xa 6 (X 6))), (xa 6 0, .inl (κ.2.1, 12, .inl (fun j : Nat => iI (X 6 0 (j : Int))))), (xa 6 1, .inl (κ.2.1, 12, .inl (fun j : Nat => iI (X 6 1 (j : Int))))), (xa 6 2, .inl (κ.2.1, 12, .inl (fun j : Nat => iI (X 6 2 (j : Int))))), (xa 6 3, .inl (κ.2.1, 12, .inl (fun j : Nat => iI (X 6 3 (j : Int))))), (xa 7 100, .inr (0, cfl xa 7 (X 7))), (xa 7 0, .inl (κ.2.1, 12, .inl (fun j : Nat => iI (X 7 0 (j : Int))))), (xa 7 1, .inl (κ.2.1, 12, .inl (fun j : Nat => iI (X 7 1 (j : Int))))), (xa 7 2, .inl (κ.2.1, 12, .inl (fun j : Nat => iI (X 7 2 (j : Int))))), (xa 7 3, .inl (κ.2.1, 12, .inl (fun j : Nat => iI (X 7 3 (j : Int))))), (xa 8 100, .inr (0, cfl xa 8 (X 8))), (xa 8 0, .inl (κ.2.1, 12, .inl (fun j : Nat => iI (X 8 0 (j : Int))))), (xa 8 1, .inl (κ.2.1, 12, .inl (fun j : Nat => iI (X 8 1 (j : Int))))), (xa 8 2, .inl (κ.2.1, 12, .inl (fun j : Nat => iI (X 8 2 (j : Int))))), (xa 8 3, .inl (κ.2.1, 12, .inl (fun j : Nat => iI (X 8 3 (j : Int))))), (xa 9 100, .inr (0, cfl xa 9 (X 9))), (xa 9 0, .inl (κ.2.1, 12, .inl (fun j : Nat => iI (X 9 0 (j : Int))))), (xa 9 1, .inl (κ.2.1, 12, .inl (fun j : Nat => iI (X 9 1 (j : Int))))), (xa 9 2, .inl (κ.2.1, 12, .inl (fun j : Nat => iI (X 9 2 (j : Int))))), (xa 9 3, .inl (κ.2.1, 12, .inl (fun j : Nat => iI (X 9 3 (j : Int))))), (xa 10 100, .inr (0, cfl xa 10 (X 10))), (xa 10 0, .inl (κ.2.1, 12, .inl (fun j : Nat => iI (X 10 0 (j : Int))))), (xa 10 1, .inl (κ.2.1, 12, .inl (fun j : Nat => iI (X 10 1 (j : Int))))), (xa 10 2, .inl (κ.2.1, 12, .inl (fun j : Nat => iI (X 10 2 (j : Int))))), (xa 10 3, .inl (κ.2.1, 12, .inl (fun j : Nat => iI (X 10 3 (j : Int))))), (xa 11 100, .inr (0, cfl xa 11 (X 11))), (xa 11 0, .inl (κ.2.1, 12, .inl (fun j : Nat => iI (X 11 0 (j : Int))))), (xa 11 1, .inl (κ.2.1, 12, .inl (fun j : Nat => iI (X 11 1 (j : Int))))), (xa 11 2, .inl (κ.2.1, 12, .inl (fun j : Nat => iI (X 11 2 (j : Int))))), (xa 11 3, .inl (κ.2.1, 12, .inl (fun j : Nat => iI (X 11 3 (j : Int))))), (xa 12 100, .inr (2, rfv xa 12 (X 12))), (xa 12 0, .inl (κ.2.1, 6, .inl (fun j : Nat => iI (X 12 0 (j : Int))))), (xa 12 1, .inl (κ.2.1, 6, .inl (fun j : Nat => iI (X 12 1 (j : Int))))), (xa 12 2, .inl (κ.2.1, 6, .inl (fun j : Nat => iI (X 12 2 (j : Int))))), (xa 13 100, .inr (2, rfv xa 13 (X 13))), (xa 13 0, .inl (κ.2.1, 6, .inl (fun j : Nat => iI (X 13 0 (j : Int))))), (xa 13 1, .inl (κ.2.1, 6, .inl (fun j : Nat => iI (X 13 1 (j : Int))))), (xa 13 2, .inl (κ.2.1, 6, .inl (fun j : Nat => iI (X 13 2 (j : Int))))), (xa 14 100, .inr (2, rfv xa 14 (X 14))), (xa 14 0, .inl (κ.2.1, 6, .inl (fun j : Nat => iI (X 14 0 (j : Int))))), (xa 14 1, .inl (κ.2.1, 6, .inl (fun j : Nat => iI (X 14 1 (j : Int))))), (xa 14 2, .inl (κ.2.1, 6, .inl (fun j : Nat => iI (X 14 2 (j : Int))))), (xa 15 100, .inr (1, pfv xa (X 15))), (xa 15 0, .inl (κ.2.2.1, 8, .inr (.inr (.inr (.inr (fun j : Nat => some (xa (4 + j) 100))))))), (xa 15 1, .inl (κ.2.1, 8, .inl (fun j : Nat => iI (X 15 1 (j : Int))))), (xa 16 100, .inr (3, tfv xa (X 16))), (xa 16 0, .inl (κ.2.1, 96, .inl (fun j : Nat => iI (X 16 0 (j : Int))))), (xa 17 100, .inr (4, wfv xa (X 17))), (xa 17 0, .inl (κ.2.1, 3, .inl (fun j : Nat => iI (X 17 0 (j : Int))))), (xa 17 1, .inl (κ.2.1, 3, .inl (fun j : Nat => iI (X 17 1 (j : Int))))), (xa 17 2, .inl (κ.2.1, 1728, .inl (fun j : Nat => iI (X 17 2 (j : Int))))), (xa 18 100, .inr (5, mfv xa (X 18))), (xa 18 4, .inl (κ.2.1, 12, .inl (fun j : Nat => iI (X 18 4 (j : Int))))), (xa 18 6, .inl (κ.2.1, 7, .inl (fun j : Nat => iI (X 18 6 (j : Int))))), (xa 18 14, .inl (κ.2.1, 12, .inl (fun j : Nat => iI (X 18 14 (j : Int)))))]
theorem xw_same {κ : Kp} {xa : Nat → Nat → Nat} {X X' : XS} : sameA (xw κ xa X) (xw κ xa X') := rfl
section
variable {E : gE} {κ : Kp} {cc : ByteArray} {own : String} {n dd : Nat} {xa : Nat → Nat → Nat} {X : XS} {C : MS} {lv : List (Nat × Value)} {pc : Nat} {st : List Value} {o : Nat}
theorem xc_obj (ho : o < 12) : (xw κ xa X)[5 * o + 0]? = some (xa o 100, .inr (0, cfl xa o (X o))) := by
  match o, ho with
  | 0, _ => exact rfl
  | 1, _ => exact rfl
  | 2, _ => exact rfl
  | 3, _ => exact rfl
  | 4, _ => exact rfl
  | 5, _ => exact rfl
  | 6, _ => exact rfl
  | 7, _ => exact rfl
  | 8, _ => exact rfl
  | 9, _ => exact rfl
  | 10, _ => exact rfl
  | 11, _ => exact rfl
  | m + 12, h => exact absurd h (by omega)
theorem xc_arr_0 (ho : o < 12) : (xw κ xa X)[5 * o + 1]? = some (xa o 0, .inl (κ.2.1, 12, .inl (fun j : Nat => iI (X o 0 (j : Int))))) := by
  match o, ho with
  | 0, _ => exact rfl
  | 1, _ => exact rfl
  | 2, _ => exact rfl
  | 3, _ => exact rfl
  | 4, _ => exact rfl
  | 5, _ => exact rfl
  | 6, _ => exact rfl
  | 7, _ => exact rfl
  | 8, _ => exact rfl
  | 9, _ => exact rfl
  | 10, _ => exact rfl
  | 11, _ => exact rfl
  | m + 12, h => exact absurd h (by omega)
theorem xc_set_0 (ho : o < 12) {f : Int → Int} : (xw κ xa X).set (5 * o + 1) (xa o 0, .inl (κ.2.1, 12, .inl (fun j : Nat => iI (f (j : Int))))) = xw κ xa (setO X o (mA (X o) 0 f)) := by
  match o, ho with
  | 0, _ => exact rfl
  | 1, _ => exact rfl
  | 2, _ => exact rfl
  | 3, _ => exact rfl
  | 4, _ => exact rfl
  | 5, _ => exact rfl
  | 6, _ => exact rfl
  | 7, _ => exact rfl
  | 8, _ => exact rfl
  | 9, _ => exact rfl
  | 10, _ => exact rfl
  | 11, _ => exact rfl
  | m + 12, h => exact absurd h (by omega)
theorem xc_arr_1 (ho : o < 12) : (xw κ xa X)[5 * o + 2]? = some (xa o 1, .inl (κ.2.1, 12, .inl (fun j : Nat => iI (X o 1 (j : Int))))) := by
  match o, ho with
  | 0, _ => exact rfl
  | 1, _ => exact rfl
  | 2, _ => exact rfl
  | 3, _ => exact rfl
  | 4, _ => exact rfl
  | 5, _ => exact rfl
  | 6, _ => exact rfl
  | 7, _ => exact rfl
  | 8, _ => exact rfl
  | 9, _ => exact rfl
  | 10, _ => exact rfl
  | 11, _ => exact rfl
  | m + 12, h => exact absurd h (by omega)
theorem xc_set_1 (ho : o < 12) {f : Int → Int} : (xw κ xa X).set (5 * o + 2) (xa o 1, .inl (κ.2.1, 12, .inl (fun j : Nat => iI (f (j : Int))))) = xw κ xa (setO X o (mA (X o) 1 f)) := by
  match o, ho with
  | 0, _ => exact rfl
  | 1, _ => exact rfl
  | 2, _ => exact rfl
  | 3, _ => exact rfl
  | 4, _ => exact rfl
  | 5, _ => exact rfl
  | 6, _ => exact rfl
  | 7, _ => exact rfl
  | 8, _ => exact rfl
  | 9, _ => exact rfl
  | 10, _ => exact rfl
  | 11, _ => exact rfl
  | m + 12, h => exact absurd h (by omega)
theorem xc_arr_2 (ho : o < 12) : (xw κ xa X)[5 * o + 3]? = some (xa o 2, .inl (κ.2.1, 12, .inl (fun j : Nat => iI (X o 2 (j : Int))))) := by
  match o, ho with
  | 0, _ => exact rfl
  | 1, _ => exact rfl
  | 2, _ => exact rfl
  | 3, _ => exact rfl
  | 4, _ => exact rfl
  | 5, _ => exact rfl
  | 6, _ => exact rfl
  | 7, _ => exact rfl
  | 8, _ => exact rfl
  | 9, _ => exact rfl
  | 10, _ => exact rfl
  | 11, _ => exact rfl
  | m + 12, h => exact absurd h (by omega)
theorem xc_set_2 (ho : o < 12) {f : Int → Int} : (xw κ xa X).set (5 * o + 3) (xa o 2, .inl (κ.2.1, 12, .inl (fun j : Nat => iI (f (j : Int))))) = xw κ xa (setO X o (mA (X o) 2 f)) := by
  match o, ho with
  | 0, _ => exact rfl
  | 1, _ => exact rfl
  | 2, _ => exact rfl
  | 3, _ => exact rfl
  | 4, _ => exact rfl
  | 5, _ => exact rfl
  | 6, _ => exact rfl
  | 7, _ => exact rfl
  | 8, _ => exact rfl
  | 9, _ => exact rfl
  | 10, _ => exact rfl
  | 11, _ => exact rfl
  | m + 12, h => exact absurd h (by omega)
theorem xc_arr_3 (ho : o < 12) : (xw κ xa X)[5 * o + 4]? = some (xa o 3, .inl (κ.2.1, 12, .inl (fun j : Nat => iI (X o 3 (j : Int))))) := by
  match o, ho with
  | 0, _ => exact rfl
  | 1, _ => exact rfl
  | 2, _ => exact rfl
  | 3, _ => exact rfl
  | 4, _ => exact rfl
  | 5, _ => exact rfl
  | 6, _ => exact rfl
  | 7, _ => exact rfl
  | 8, _ => exact rfl
  | 9, _ => exact rfl
  | 10, _ => exact rfl
  | 11, _ => exact rfl
  | m + 12, h => exact absurd h (by omega)
theorem xc_set_3 (ho : o < 12) {f : Int → Int} : (xw κ xa X).set (5 * o + 4) (xa o 3, .inl (κ.2.1, 12, .inl (fun j : Nat => iI (f (j : Int))))) = xw κ xa (setO X o (mA (X o) 3 f)) := by
  match o, ho with
  | 0, _ => exact rfl
  | 1, _ => exact rfl
  | 2, _ => exact rfl
  | 3, _ => exact rfl
  | 4, _ => exact rfl
  | 5, _ => exact rfl
  | 6, _ => exact rfl
  | 7, _ => exact rfl
  | 8, _ => exact rfl
  | 9, _ => exact rfl
  | 10, _ => exact rfl
  | 11, _ => exact rfl
  | m + 12, h => exact absurd h (by omega)
theorem xc_put_4 (ho : o < 12) {z : Int} : (xw κ xa X).set (5 * o + 0) (xa o 100, .inr (0, (cfl xa o (X o)).set 4 (.int (iI z)))) = xw κ xa (setO X o (mA (X o) 4 (fun _ => z))) := by
  match o, ho with
  | 0, _ => exact rfl
  | 1, _ => exact rfl
  | 2, _ => exact rfl
  | 3, _ => exact rfl
  | 4, _ => exact rfl
  | 5, _ => exact rfl
  | 6, _ => exact rfl
  | 7, _ => exact rfl
  | 8, _ => exact rfl
  | 9, _ => exact rfl
  | 10, _ => exact rfl
  | 11, _ => exact rfl
  | m + 12, h => exact absurd h (by omega)
theorem gc_get_0 (F : Fx E κ cc own n dd) (ho : o < 12) {idx : Nat} (hli : Cond.fieldLink own idx "PatchesSameAge$Cloth" "kind" "[I" ∈ TG) (hd : decode cc pc = .ok (.getfield idx, 3)) (k : G E (xw κ xa X) lv (pc + 3) (.ref (xa o 0) :: st)) : G E (xw κ xa X) lv pc (.ref (xa o 100) :: st) := g_get F (C := RX0) (T := TX0) (N := 5) (5 * o + 0) (xc_obj ho) rfl i_X0 0 (by decide) hli rfl hd k
theorem gcS_get_0 (F : Fx E κ cc own n dd) (ho : o < 12) {idx : Nat} (hli : Cond.fieldLink own idx "PatchesSameAge$Cloth" "kind" "[I" ∈ TG) (hd : decode cc pc = .ok (.getfield idx, 3)) (k : G E (xw κ xa (setO X o C)) lv (pc + 3) (.ref (xa o 0) :: st)) : G E (xw κ xa (setO X o C)) lv pc (.ref (xa o 100) :: st) := gc_get_0 F ho hli hd k
theorem gc_getN_0 (F : Fx E κ cc own n dd) (ho : o < 12) {idx : Nat} {host : String} (hli : Cond.fieldLinkNest own idx "PatchesSameAge$Cloth" "kind" "[I" host ∈ NWl) (hd : decode cc pc = .ok (.getfield idx, 3)) (k : G E (xw κ xa X) lv (pc + 3) (.ref (xa o 0) :: st)) : G E (xw κ xa X) lv pc (.ref (xa o 100) :: st) := g_getN F (C := RX0) (T := TX0) (N := 5) (5 * o + 0) (xc_obj ho) rfl i_X0 0 (by decide) hli rfl hd k
theorem gcS_getN_0 (F : Fx E κ cc own n dd) (ho : o < 12) {idx : Nat} {host : String} (hli : Cond.fieldLinkNest own idx "PatchesSameAge$Cloth" "kind" "[I" host ∈ NWl) (hd : decode cc pc = .ok (.getfield idx, 3)) (k : G E (xw κ xa (setO X o C)) lv (pc + 3) (.ref (xa o 0) :: st)) : G E (xw κ xa (setO X o C)) lv pc (.ref (xa o 100) :: st) := gc_getN_0 F ho hli hd k
theorem gc_get_1 (F : Fx E κ cc own n dd) (ho : o < 12) {idx : Nat} (hli : Cond.fieldLink own idx "PatchesSameAge$Cloth" "figure" "[I" ∈ TG) (hd : decode cc pc = .ok (.getfield idx, 3)) (k : G E (xw κ xa X) lv (pc + 3) (.ref (xa o 1) :: st)) : G E (xw κ xa X) lv pc (.ref (xa o 100) :: st) := g_get F (C := RX0) (T := TX0) (N := 5) (5 * o + 0) (xc_obj ho) rfl i_X0 1 (by decide) hli rfl hd k
theorem gcS_get_1 (F : Fx E κ cc own n dd) (ho : o < 12) {idx : Nat} (hli : Cond.fieldLink own idx "PatchesSameAge$Cloth" "figure" "[I" ∈ TG) (hd : decode cc pc = .ok (.getfield idx, 3)) (k : G E (xw κ xa (setO X o C)) lv (pc + 3) (.ref (xa o 1) :: st)) : G E (xw κ xa (setO X o C)) lv pc (.ref (xa o 100) :: st) := gc_get_1 F ho hli hd k
theorem gc_getN_1 (F : Fx E κ cc own n dd) (ho : o < 12) {idx : Nat} {host : String} (hli : Cond.fieldLinkNest own idx "PatchesSameAge$Cloth" "figure" "[I" host ∈ NWl) (hd : decode cc pc = .ok (.getfield idx, 3)) (k : G E (xw κ xa X) lv (pc + 3) (.ref (xa o 1) :: st)) : G E (xw κ xa X) lv pc (.ref (xa o 100) :: st) := g_getN F (C := RX0) (T := TX0) (N := 5) (5 * o + 0) (xc_obj ho) rfl i_X0 1 (by decide) hli rfl hd k
theorem gcS_getN_1 (F : Fx E κ cc own n dd) (ho : o < 12) {idx : Nat} {host : String} (hli : Cond.fieldLinkNest own idx "PatchesSameAge$Cloth" "figure" "[I" host ∈ NWl) (hd : decode cc pc = .ok (.getfield idx, 3)) (k : G E (xw κ xa (setO X o C)) lv (pc + 3) (.ref (xa o 1) :: st)) : G E (xw κ xa (setO X o C)) lv pc (.ref (xa o 100) :: st) := gc_getN_1 F ho hli hd k
theorem gc_get_2 (F : Fx E κ cc own n dd) (ho : o < 12) {idx : Nat} (hli : Cond.fieldLink own idx "PatchesSameAge$Cloth" "age" "[I" ∈ TG) (hd : decode cc pc = .ok (.getfield idx, 3)) (k : G E (xw κ xa X) lv (pc + 3) (.ref (xa o 2) :: st)) : G E (xw κ xa X) lv pc (.ref (xa o 100) :: st) := g_get F (C := RX0) (T := TX0) (N := 5) (5 * o + 0) (xc_obj ho) rfl i_X0 2 (by decide) hli rfl hd k
theorem gcS_get_2 (F : Fx E κ cc own n dd) (ho : o < 12) {idx : Nat} (hli : Cond.fieldLink own idx "PatchesSameAge$Cloth" "age" "[I" ∈ TG) (hd : decode cc pc = .ok (.getfield idx, 3)) (k : G E (xw κ xa (setO X o C)) lv (pc + 3) (.ref (xa o 2) :: st)) : G E (xw κ xa (setO X o C)) lv pc (.ref (xa o 100) :: st) := gc_get_2 F ho hli hd k
theorem gc_getN_2 (F : Fx E κ cc own n dd) (ho : o < 12) {idx : Nat} {host : String} (hli : Cond.fieldLinkNest own idx "PatchesSameAge$Cloth" "age" "[I" host ∈ NWl) (hd : decode cc pc = .ok (.getfield idx, 3)) (k : G E (xw κ xa X) lv (pc + 3) (.ref (xa o 2) :: st)) : G E (xw κ xa X) lv pc (.ref (xa o 100) :: st) := g_getN F (C := RX0) (T := TX0) (N := 5) (5 * o + 0) (xc_obj ho) rfl i_X0 2 (by decide) hli rfl hd k
theorem gcS_getN_2 (F : Fx E κ cc own n dd) (ho : o < 12) {idx : Nat} {host : String} (hli : Cond.fieldLinkNest own idx "PatchesSameAge$Cloth" "age" "[I" host ∈ NWl) (hd : decode cc pc = .ok (.getfield idx, 3)) (k : G E (xw κ xa (setO X o C)) lv (pc + 3) (.ref (xa o 2) :: st)) : G E (xw κ xa (setO X o C)) lv pc (.ref (xa o 100) :: st) := gc_getN_2 F ho hli hd k
theorem gc_get_3 (F : Fx E κ cc own n dd) (ho : o < 12) {idx : Nat} (hli : Cond.fieldLink own idx "PatchesSameAge$Cloth" "wear" "[I" ∈ TG) (hd : decode cc pc = .ok (.getfield idx, 3)) (k : G E (xw κ xa X) lv (pc + 3) (.ref (xa o 3) :: st)) : G E (xw κ xa X) lv pc (.ref (xa o 100) :: st) := g_get F (C := RX0) (T := TX0) (N := 5) (5 * o + 0) (xc_obj ho) rfl i_X0 3 (by decide) hli rfl hd k
theorem gcS_get_3 (F : Fx E κ cc own n dd) (ho : o < 12) {idx : Nat} (hli : Cond.fieldLink own idx "PatchesSameAge$Cloth" "wear" "[I" ∈ TG) (hd : decode cc pc = .ok (.getfield idx, 3)) (k : G E (xw κ xa (setO X o C)) lv (pc + 3) (.ref (xa o 3) :: st)) : G E (xw κ xa (setO X o C)) lv pc (.ref (xa o 100) :: st) := gc_get_3 F ho hli hd k
theorem gc_getN_3 (F : Fx E κ cc own n dd) (ho : o < 12) {idx : Nat} {host : String} (hli : Cond.fieldLinkNest own idx "PatchesSameAge$Cloth" "wear" "[I" host ∈ NWl) (hd : decode cc pc = .ok (.getfield idx, 3)) (k : G E (xw κ xa X) lv (pc + 3) (.ref (xa o 3) :: st)) : G E (xw κ xa X) lv pc (.ref (xa o 100) :: st) := g_getN F (C := RX0) (T := TX0) (N := 5) (5 * o + 0) (xc_obj ho) rfl i_X0 3 (by decide) hli rfl hd k
theorem gcS_getN_3 (F : Fx E κ cc own n dd) (ho : o < 12) {idx : Nat} {host : String} (hli : Cond.fieldLinkNest own idx "PatchesSameAge$Cloth" "wear" "[I" host ∈ NWl) (hd : decode cc pc = .ok (.getfield idx, 3)) (k : G E (xw κ xa (setO X o C)) lv (pc + 3) (.ref (xa o 3) :: st)) : G E (xw κ xa (setO X o C)) lv pc (.ref (xa o 100) :: st) := gc_getN_3 F ho hli hd k
theorem gc_get_4 (F : Fx E κ cc own n dd) (ho : o < 12) {idx : Nat} (hli : Cond.fieldLink own idx "PatchesSameAge$Cloth" "year" "I" ∈ TG) (hd : decode cc pc = .ok (.getfield idx, 3)) (k : G E (xw κ xa X) lv (pc + 3) (.int (iI (X o 4 0)) :: st)) : G E (xw κ xa X) lv pc (.ref (xa o 100) :: st) := g_get F (C := RX0) (T := TX0) (N := 5) (5 * o + 0) (xc_obj ho) rfl i_X0 4 (by decide) hli rfl hd k
theorem gcS_get_4 (F : Fx E κ cc own n dd) (ho : o < 12) {idx : Nat} (hli : Cond.fieldLink own idx "PatchesSameAge$Cloth" "year" "I" ∈ TG) (hd : decode cc pc = .ok (.getfield idx, 3)) (k : G E (xw κ xa (setO X o C)) lv (pc + 3) (.int (iI (C 4 0)) :: st)) : G E (xw κ xa (setO X o C)) lv pc (.ref (xa o 100) :: st) := gc_get_4 F ho hli hd (by rw [setO_s]; exact k)
theorem gc_put_4 {z : Int} (F : Fx E κ cc own n dd) (ho : o < 12) {idx : Nat} (hli : Cond.fieldLink own idx "PatchesSameAge$Cloth" "year" "I" ∈ TG) (hd : decode cc pc = .ok (.putfield idx, 3)) (k : G E (xw κ xa (setO X o (mA (X o) 4 (fun _ => z)))) lv (pc + 3) st) : G E (xw κ xa X) lv pc (.int (iI z) :: .ref (xa o 100) :: st) := g_put F (C := RX0) (T := TX0) (N := 5) (5 * o + 0) (xc_obj ho) rfl i_X0 tyX0 tyX0_ok nmX0 4 (by decide) hli rfl rfl rfl (by show 4 < 5; decide) (xc_put_4 ho) hd k
theorem gcS_put_4 {z : Int} (F : Fx E κ cc own n dd) (ho : o < 12) {idx : Nat} (hli : Cond.fieldLink own idx "PatchesSameAge$Cloth" "year" "I" ∈ TG) (hd : decode cc pc = .ok (.putfield idx, 3)) (k : G E (xw κ xa (setO X o (mA C 4 (fun _ => z)))) lv (pc + 3) st) : G E (xw κ xa (setO X o C)) lv pc (.int (iI z) :: .ref (xa o 100) :: st) := gc_put_4 F ho hli hd (by rw [setO_s, setO_setO]; exact k)
theorem gc_getN_4 (F : Fx E κ cc own n dd) (ho : o < 12) {idx : Nat} {host : String} (hli : Cond.fieldLinkNest own idx "PatchesSameAge$Cloth" "year" "I" host ∈ NWl) (hd : decode cc pc = .ok (.getfield idx, 3)) (k : G E (xw κ xa X) lv (pc + 3) (.int (iI (X o 4 0)) :: st)) : G E (xw κ xa X) lv pc (.ref (xa o 100) :: st) := g_getN F (C := RX0) (T := TX0) (N := 5) (5 * o + 0) (xc_obj ho) rfl i_X0 4 (by decide) hli rfl hd k
theorem gcS_getN_4 (F : Fx E κ cc own n dd) (ho : o < 12) {idx : Nat} {host : String} (hli : Cond.fieldLinkNest own idx "PatchesSameAge$Cloth" "year" "I" host ∈ NWl) (hd : decode cc pc = .ok (.getfield idx, 3)) (k : G E (xw κ xa (setO X o C)) lv (pc + 3) (.int (iI (C 4 0)) :: st)) : G E (xw κ xa (setO X o C)) lv pc (.ref (xa o 100) :: st) := gc_getN_4 F ho hli hd (by rw [setO_s]; exact k)
theorem gc_putN_4 {z : Int} (F : Fx E κ cc own n dd) (ho : o < 12) {idx : Nat} {host : String} (hli : Cond.fieldLinkNest own idx "PatchesSameAge$Cloth" "year" "I" host ∈ NWl) (hd : decode cc pc = .ok (.putfield idx, 3)) (k : G E (xw κ xa (setO X o (mA (X o) 4 (fun _ => z)))) lv (pc + 3) st) : G E (xw κ xa X) lv pc (.int (iI z) :: .ref (xa o 100) :: st) := g_putN F (C := RX0) (T := TX0) (N := 5) (5 * o + 0) (xc_obj ho) rfl i_X0 tyX0 tyX0_ok nmX0 4 (by decide) hli rfl rfl rfl (by show 4 < 5; decide) (xc_put_4 ho) hd k
theorem gcS_putN_4 {z : Int} (F : Fx E κ cc own n dd) (ho : o < 12) {idx : Nat} {host : String} (hli : Cond.fieldLinkNest own idx "PatchesSameAge$Cloth" "year" "I" host ∈ NWl) (hd : decode cc pc = .ok (.putfield idx, 3)) (k : G E (xw κ xa (setO X o (mA C 4 (fun _ => z)))) lv (pc + 3) st) : G E (xw κ xa (setO X o C)) lv pc (.int (iI z) :: .ref (xa o 100) :: st) := gc_putN_4 F ho hli hd (by rw [setO_s, setO_setO]; exact k)
theorem gc_ald_0 {z : Int} (F : Fx E κ cc own n dd) (ho : o < 12) (hz : 0 ≤ z ∧ z < 12) (hd : decode cc pc = .ok (.iaload, 1)) (k : G E (xw κ xa X) lv (pc + 1) (.int (iI (X o 0 z)) :: st)) : G E (xw κ xa X) lv pc (.int (iI z) :: .ref (xa o 0) :: st) := g_ald F (5 * o + 1) (xc_arr_0 ho) hz (by decide) hd k
theorem gcS_ald_0 {z : Int} (F : Fx E κ cc own n dd) (ho : o < 12) (hz : 0 ≤ z ∧ z < 12) (hd : decode cc pc = .ok (.iaload, 1)) (k : G E (xw κ xa (setO X o C)) lv (pc + 1) (.int (iI (C 0 z)) :: st)) : G E (xw κ xa (setO X o C)) lv pc (.int (iI z) :: .ref (xa o 0) :: st) := gc_ald_0 F ho hz hd (by rw [setO_s]; exact k)
theorem gc_ast_0 {z v : Int} (F : Fx E κ cc own n dd) (ho : o < 12) (hz : 0 ≤ z ∧ z < 12) (hd : decode cc pc = .ok (.iastore, 1)) (k : G E (xw κ xa (setO X o (mA (X o) 0 (uI (X o 0) z v)))) lv (pc + 1) st) : G E (xw κ xa X) lv pc (.int (iI v) :: .int (iI z) :: .ref (xa o 0) :: st) := g_ast F (5 * o + 1) (xc_arr_0 ho) hz (by decide) (xc_set_0 ho) hd k
theorem gcS_ast_0 {z v : Int} (F : Fx E κ cc own n dd) (ho : o < 12) (hz : 0 ≤ z ∧ z < 12) (hd : decode cc pc = .ok (.iastore, 1)) (k : G E (xw κ xa (setO X o (mA C 0 (uI (C 0) z v)))) lv (pc + 1) st) : G E (xw κ xa (setO X o C)) lv pc (.int (iI v) :: .int (iI z) :: .ref (xa o 0) :: st) := gc_ast_0 F ho hz hd (by rw [setO_s, setO_setO]; exact k)
theorem gcSS_ast_0 {z v : Int} {f : Int → Int} (F : Fx E κ cc own n dd) (ho : o < 12) (hz : 0 ≤ z ∧ z < 12) (hd : decode cc pc = .ok (.iastore, 1)) (k : G E (xw κ xa (setO X o (mA C 0 (uI f z v)))) lv (pc + 1) st) : G E (xw κ xa (setO X o (mA C 0 f))) lv pc (.int (iI v) :: .int (iI z) :: .ref (xa o 0) :: st) := gcS_ast_0 F ho hz hd (by rw [mA_s, mA_mA]; exact k)
theorem gc_weq_0 {f g : Int → Int} (ho : o < 12) (h : ∀ j : Int, 0 ≤ j → j < 12 → f j = g j) (k : G E (xw κ xa (setO X o (mA C 0 g))) lv pc st) : G E (xw κ xa (setO X o (mA C 0 f))) lv pc st := g_weq (fun D H hP => by
  have e : ∀ q : Int → Int, xw κ xa (setO X o (mA C 0 q)) = (xw κ xa (setO X o C)).set (5 * o + 1) (xa o 0, .inl (κ.2.1, 12, .inl (fun j : Nat => iI (q (j : Int))))) := fun q => by rw [xc_set_0 ho, setO_s, setO_setO]
  rw [e] at hP ⊢
  exact va_P_set_congr (at_ext (fun j hj => by rw [h (j : Int) (by omega) (by omega)])) hP) xw_same k
theorem gc_ald_1 {z : Int} (F : Fx E κ cc own n dd) (ho : o < 12) (hz : 0 ≤ z ∧ z < 12) (hd : decode cc pc = .ok (.iaload, 1)) (k : G E (xw κ xa X) lv (pc + 1) (.int (iI (X o 1 z)) :: st)) : G E (xw κ xa X) lv pc (.int (iI z) :: .ref (xa o 1) :: st) := g_ald F (5 * o + 2) (xc_arr_1 ho) hz (by decide) hd k
theorem gcS_ald_1 {z : Int} (F : Fx E κ cc own n dd) (ho : o < 12) (hz : 0 ≤ z ∧ z < 12) (hd : decode cc pc = .ok (.iaload, 1)) (k : G E (xw κ xa (setO X o C)) lv (pc + 1) (.int (iI (C 1 z)) :: st)) : G E (xw κ xa (setO X o C)) lv pc (.int (iI z) :: .ref (xa o 1) :: st) := gc_ald_1 F ho hz hd (by rw [setO_s]; exact k)
theorem gc_ast_1 {z v : Int} (F : Fx E κ cc own n dd) (ho : o < 12) (hz : 0 ≤ z ∧ z < 12) (hd : decode cc pc = .ok (.iastore, 1)) (k : G E (xw κ xa (setO X o (mA (X o) 1 (uI (X o 1) z v)))) lv (pc + 1) st) : G E (xw κ xa X) lv pc (.int (iI v) :: .int (iI z) :: .ref (xa o 1) :: st) := g_ast F (5 * o + 2) (xc_arr_1 ho) hz (by decide) (xc_set_1 ho) hd k
theorem gcS_ast_1 {z v : Int} (F : Fx E κ cc own n dd) (ho : o < 12) (hz : 0 ≤ z ∧ z < 12) (hd : decode cc pc = .ok (.iastore, 1)) (k : G E (xw κ xa (setO X o (mA C 1 (uI (C 1) z v)))) lv (pc + 1) st) : G E (xw κ xa (setO X o C)) lv pc (.int (iI v) :: .int (iI z) :: .ref (xa o 1) :: st) := gc_ast_1 F ho hz hd (by rw [setO_s, setO_setO]; exact k)
theorem gcSS_ast_1 {z v : Int} {f : Int → Int} (F : Fx E κ cc own n dd) (ho : o < 12) (hz : 0 ≤ z ∧ z < 12) (hd : decode cc pc = .ok (.iastore, 1)) (k : G E (xw κ xa (setO X o (mA C 1 (uI f z v)))) lv (pc + 1) st) : G E (xw κ xa (setO X o (mA C 1 f))) lv pc (.int (iI v) :: .int (iI z) :: .ref (xa o 1) :: st) := gcS_ast_1 F ho hz hd (by rw [mA_s, mA_mA]; exact k)
theorem gc_weq_1 {f g : Int → Int} (ho : o < 12) (h : ∀ j : Int, 0 ≤ j → j < 12 → f j = g j) (k : G E (xw κ xa (setO X o (mA C 1 g))) lv pc st) : G E (xw κ xa (setO X o (mA C 1 f))) lv pc st := g_weq (fun D H hP => by
  have e : ∀ q : Int → Int, xw κ xa (setO X o (mA C 1 q)) = (xw κ xa (setO X o C)).set (5 * o + 2) (xa o 1, .inl (κ.2.1, 12, .inl (fun j : Nat => iI (q (j : Int))))) := fun q => by rw [xc_set_1 ho, setO_s, setO_setO]
  rw [e] at hP ⊢
  exact va_P_set_congr (at_ext (fun j hj => by rw [h (j : Int) (by omega) (by omega)])) hP) xw_same k
theorem gc_ald_2 {z : Int} (F : Fx E κ cc own n dd) (ho : o < 12) (hz : 0 ≤ z ∧ z < 12) (hd : decode cc pc = .ok (.iaload, 1)) (k : G E (xw κ xa X) lv (pc + 1) (.int (iI (X o 2 z)) :: st)) : G E (xw κ xa X) lv pc (.int (iI z) :: .ref (xa o 2) :: st) := g_ald F (5 * o + 3) (xc_arr_2 ho) hz (by decide) hd k
theorem gcS_ald_2 {z : Int} (F : Fx E κ cc own n dd) (ho : o < 12) (hz : 0 ≤ z ∧ z < 12) (hd : decode cc pc = .ok (.iaload, 1)) (k : G E (xw κ xa (setO X o C)) lv (pc + 1) (.int (iI (C 2 z)) :: st)) : G E (xw κ xa (setO X o C)) lv pc (.int (iI z) :: .ref (xa o 2) :: st) := gc_ald_2 F ho hz hd (by rw [setO_s]; exact k)
theorem gc_ast_2 {z v : Int} (F : Fx E κ cc own n dd) (ho : o < 12) (hz : 0 ≤ z ∧ z < 12) (hd : decode cc pc = .ok (.iastore, 1)) (k : G E (xw κ xa (setO X o (mA (X o) 2 (uI (X o 2) z v)))) lv (pc + 1) st) : G E (xw κ xa X) lv pc (.int (iI v) :: .int (iI z) :: .ref (xa o 2) :: st) := g_ast F (5 * o + 3) (xc_arr_2 ho) hz (by decide) (xc_set_2 ho) hd k
theorem gcS_ast_2 {z v : Int} (F : Fx E κ cc own n dd) (ho : o < 12) (hz : 0 ≤ z ∧ z < 12) (hd : decode cc pc = .ok (.iastore, 1)) (k : G E (xw κ xa (setO X o (mA C 2 (uI (C 2) z v)))) lv (pc + 1) st) : G E (xw κ xa (setO X o C)) lv pc (.int (iI v) :: .int (iI z) :: .ref (xa o 2) :: st) := gc_ast_2 F ho hz hd (by rw [setO_s, setO_setO]; exact k)
theorem gcSS_ast_2 {z v : Int} {f : Int → Int} (F : Fx E κ cc own n dd) (ho : o < 12) (hz : 0 ≤ z ∧ z < 12) (hd : decode cc pc = .ok (.iastore, 1)) (k : G E (xw κ xa (setO X o (mA C 2 (uI f z v)))) lv (pc + 1) st) : G E (xw κ xa (setO X o (mA C 2 f))) lv pc (.int (iI v) :: .int (iI z) :: .ref (xa o 2) :: st) := gcS_ast_2 F ho hz hd (by rw [mA_s, mA_mA]; exact k)
theorem gc_weq_2 {f g : Int → Int} (ho : o < 12) (h : ∀ j : Int, 0 ≤ j → j < 12 → f j = g j) (k : G E (xw κ xa (setO X o (mA C 2 g))) lv pc st) : G E (xw κ xa (setO X o (mA C 2 f))) lv pc st := g_weq (fun D H hP => by
  have e : ∀ q : Int → Int, xw κ xa (setO X o (mA C 2 q)) = (xw κ xa (setO X o C)).set (5 * o + 3) (xa o 2, .inl (κ.2.1, 12, .inl (fun j : Nat => iI (q (j : Int))))) := fun q => by rw [xc_set_2 ho, setO_s, setO_setO]
  rw [e] at hP ⊢
  exact va_P_set_congr (at_ext (fun j hj => by rw [h (j : Int) (by omega) (by omega)])) hP) xw_same k
theorem gc_ald_3 {z : Int} (F : Fx E κ cc own n dd) (ho : o < 12) (hz : 0 ≤ z ∧ z < 12) (hd : decode cc pc = .ok (.iaload, 1)) (k : G E (xw κ xa X) lv (pc + 1) (.int (iI (X o 3 z)) :: st)) : G E (xw κ xa X) lv pc (.int (iI z) :: .ref (xa o 3) :: st) := g_ald F (5 * o + 4) (xc_arr_3 ho) hz (by decide) hd k
theorem gcS_ald_3 {z : Int} (F : Fx E κ cc own n dd) (ho : o < 12) (hz : 0 ≤ z ∧ z < 12) (hd : decode cc pc = .ok (.iaload, 1)) (k : G E (xw κ xa (setO X o C)) lv (pc + 1) (.int (iI (C 3 z)) :: st)) : G E (xw κ xa (setO X o C)) lv pc (.int (iI z) :: .ref (xa o 3) :: st) := gc_ald_3 F ho hz hd (by rw [setO_s]; exact k)
theorem gc_ast_3 {z v : Int} (F : Fx E κ cc own n dd) (ho : o < 12) (hz : 0 ≤ z ∧ z < 12) (hd : decode cc pc = .ok (.iastore, 1)) (k : G E (xw κ xa (setO X o (mA (X o) 3 (uI (X o 3) z v)))) lv (pc + 1) st) : G E (xw κ xa X) lv pc (.int (iI v) :: .int (iI z) :: .ref (xa o 3) :: st) := g_ast F (5 * o + 4) (xc_arr_3 ho) hz (by decide) (xc_set_3 ho) hd k
theorem gcS_ast_3 {z v : Int} (F : Fx E κ cc own n dd) (ho : o < 12) (hz : 0 ≤ z ∧ z < 12) (hd : decode cc pc = .ok (.iastore, 1)) (k : G E (xw κ xa (setO X o (mA C 3 (uI (C 3) z v)))) lv (pc + 1) st) : G E (xw κ xa (setO X o C)) lv pc (.int (iI v) :: .int (iI z) :: .ref (xa o 3) :: st) := gc_ast_3 F ho hz hd (by rw [setO_s, setO_setO]; exact k)
theorem gcSS_ast_3 {z v : Int} {f : Int → Int} (F : Fx E κ cc own n dd) (ho : o < 12) (hz : 0 ≤ z ∧ z < 12) (hd : decode cc pc = .ok (.iastore, 1)) (k : G E (xw κ xa (setO X o (mA C 3 (uI f z v)))) lv (pc + 1) st) : G E (xw κ xa (setO X o (mA C 3 f))) lv pc (.int (iI v) :: .int (iI z) :: .ref (xa o 3) :: st) := gcS_ast_3 F ho hz hd (by rw [mA_s, mA_mA]; exact k)
theorem gc_weq_3 {f g : Int → Int} (ho : o < 12) (h : ∀ j : Int, 0 ≤ j → j < 12 → f j = g j) (k : G E (xw κ xa (setO X o (mA C 3 g))) lv pc st) : G E (xw κ xa (setO X o (mA C 3 f))) lv pc st := g_weq (fun D H hP => by
  have e : ∀ q : Int → Int, xw κ xa (setO X o (mA C 3 q)) = (xw κ xa (setO X o C)).set (5 * o + 4) (xa o 3, .inl (κ.2.1, 12, .inl (fun j : Nat => iI (q (j : Int))))) := fun q => by rw [xc_set_3 ho, setO_s, setO_setO]
  rw [e] at hP ⊢
  exact va_P_set_congr (at_ext (fun j hj => by rw [h (j : Int) (by omega) (by omega)])) hP) xw_same k
theorem xr_obj (ho : o < 3) : (xw κ xa X)[4 * o + 60]? = some (xa (12 + o) 100, .inr (2, rfv xa (12 + o) (X (12 + o)))) := by
  match o, ho with
  | 0, _ => exact rfl
  | 1, _ => exact rfl
  | 2, _ => exact rfl
  | m + 3, h => exact absurd h (by omega)
theorem xr_arr_0 (ho : o < 3) : (xw κ xa X)[4 * o + 61]? = some (xa (12 + o) 0, .inl (κ.2.1, 6, .inl (fun j : Nat => iI (X (12 + o) 0 (j : Int))))) := by
  match o, ho with
  | 0, _ => exact rfl
  | 1, _ => exact rfl
  | 2, _ => exact rfl
  | m + 3, h => exact absurd h (by omega)
theorem xr_set_0 (ho : o < 3) {f : Int → Int} : (xw κ xa X).set (4 * o + 61) (xa (12 + o) 0, .inl (κ.2.1, 6, .inl (fun j : Nat => iI (f (j : Int))))) = xw κ xa (setO X (12 + o) (mA (X (12 + o)) 0 f)) := by
  match o, ho with
  | 0, _ => exact rfl
  | 1, _ => exact rfl
  | 2, _ => exact rfl
  | m + 3, h => exact absurd h (by omega)
theorem xr_arr_1 (ho : o < 3) : (xw κ xa X)[4 * o + 62]? = some (xa (12 + o) 1, .inl (κ.2.1, 6, .inl (fun j : Nat => iI (X (12 + o) 1 (j : Int))))) := by
  match o, ho with
  | 0, _ => exact rfl
  | 1, _ => exact rfl
  | 2, _ => exact rfl
  | m + 3, h => exact absurd h (by omega)
theorem xr_set_1 (ho : o < 3) {f : Int → Int} : (xw κ xa X).set (4 * o + 62) (xa (12 + o) 1, .inl (κ.2.1, 6, .inl (fun j : Nat => iI (f (j : Int))))) = xw κ xa (setO X (12 + o) (mA (X (12 + o)) 1 f)) := by
  match o, ho with
  | 0, _ => exact rfl
  | 1, _ => exact rfl
  | 2, _ => exact rfl
  | m + 3, h => exact absurd h (by omega)
theorem xr_arr_2 (ho : o < 3) : (xw κ xa X)[4 * o + 63]? = some (xa (12 + o) 2, .inl (κ.2.1, 6, .inl (fun j : Nat => iI (X (12 + o) 2 (j : Int))))) := by
  match o, ho with
  | 0, _ => exact rfl
  | 1, _ => exact rfl
  | 2, _ => exact rfl
  | m + 3, h => exact absurd h (by omega)
theorem xr_set_2 (ho : o < 3) {f : Int → Int} : (xw κ xa X).set (4 * o + 63) (xa (12 + o) 2, .inl (κ.2.1, 6, .inl (fun j : Nat => iI (f (j : Int))))) = xw κ xa (setO X (12 + o) (mA (X (12 + o)) 2 f)) := by
  match o, ho with
  | 0, _ => exact rfl
  | 1, _ => exact rfl
  | 2, _ => exact rfl
  | m + 3, h => exact absurd h (by omega)
theorem xr_put_3 (ho : o < 3) {z : Int} : (xw κ xa X).set (4 * o + 60) (xa (12 + o) 100, .inr (2, (rfv xa (12 + o) (X (12 + o))).set 3 (.int (iI z)))) = xw κ xa (setO X (12 + o) (mA (X (12 + o)) 3 (fun _ => z))) := by
  match o, ho with
  | 0, _ => exact rfl
  | 1, _ => exact rfl
  | 2, _ => exact rfl
  | m + 3, h => exact absurd h (by omega)
theorem xr_put_4 (ho : o < 3) {z : Int} : (xw κ xa X).set (4 * o + 60) (xa (12 + o) 100, .inr (2, (rfv xa (12 + o) (X (12 + o))).set 4 (.int (iI z)))) = xw κ xa (setO X (12 + o) (mA (X (12 + o)) 4 (fun _ => z))) := by
  match o, ho with
  | 0, _ => exact rfl
  | 1, _ => exact rfl
  | 2, _ => exact rfl
  | m + 3, h => exact absurd h (by omega)
theorem gr_get_0 (F : Fx E κ cc own n dd) (ho : o < 3) {idx : Nat} (hli : Cond.fieldLink own idx "PatchesSameAge$Roll" "kind" "[I" ∈ TG) (hd : decode cc pc = .ok (.getfield idx, 3)) (k : G E (xw κ xa X) lv (pc + 3) (.ref (xa (12 + o) 0) :: st)) : G E (xw κ xa X) lv pc (.ref (xa (12 + o) 100) :: st) := g_get F (C := RX2) (T := TX2) (N := 5) (4 * o + 60) (xr_obj ho) rfl i_X2 0 (by decide) hli rfl hd k
theorem grS_get_0 (F : Fx E κ cc own n dd) (ho : o < 3) {idx : Nat} (hli : Cond.fieldLink own idx "PatchesSameAge$Roll" "kind" "[I" ∈ TG) (hd : decode cc pc = .ok (.getfield idx, 3)) (k : G E (xw κ xa (setO X (12 + o) C)) lv (pc + 3) (.ref (xa (12 + o) 0) :: st)) : G E (xw κ xa (setO X (12 + o) C)) lv pc (.ref (xa (12 + o) 100) :: st) := gr_get_0 F ho hli hd k
theorem gr_getN_0 (F : Fx E κ cc own n dd) (ho : o < 3) {idx : Nat} {host : String} (hli : Cond.fieldLinkNest own idx "PatchesSameAge$Roll" "kind" "[I" host ∈ NWl) (hd : decode cc pc = .ok (.getfield idx, 3)) (k : G E (xw κ xa X) lv (pc + 3) (.ref (xa (12 + o) 0) :: st)) : G E (xw κ xa X) lv pc (.ref (xa (12 + o) 100) :: st) := g_getN F (C := RX2) (T := TX2) (N := 5) (4 * o + 60) (xr_obj ho) rfl i_X2 0 (by decide) hli rfl hd k
theorem grS_getN_0 (F : Fx E κ cc own n dd) (ho : o < 3) {idx : Nat} {host : String} (hli : Cond.fieldLinkNest own idx "PatchesSameAge$Roll" "kind" "[I" host ∈ NWl) (hd : decode cc pc = .ok (.getfield idx, 3)) (k : G E (xw κ xa (setO X (12 + o) C)) lv (pc + 3) (.ref (xa (12 + o) 0) :: st)) : G E (xw κ xa (setO X (12 + o) C)) lv pc (.ref (xa (12 + o) 100) :: st) := gr_getN_0 F ho hli hd k
theorem gr_get_1 (F : Fx E κ cc own n dd) (ho : o < 3) {idx : Nat} (hli : Cond.fieldLink own idx "PatchesSameAge$Roll" "figure" "[I" ∈ TG) (hd : decode cc pc = .ok (.getfield idx, 3)) (k : G E (xw κ xa X) lv (pc + 3) (.ref (xa (12 + o) 1) :: st)) : G E (xw κ xa X) lv pc (.ref (xa (12 + o) 100) :: st) := g_get F (C := RX2) (T := TX2) (N := 5) (4 * o + 60) (xr_obj ho) rfl i_X2 1 (by decide) hli rfl hd k
theorem grS_get_1 (F : Fx E κ cc own n dd) (ho : o < 3) {idx : Nat} (hli : Cond.fieldLink own idx "PatchesSameAge$Roll" "figure" "[I" ∈ TG) (hd : decode cc pc = .ok (.getfield idx, 3)) (k : G E (xw κ xa (setO X (12 + o) C)) lv (pc + 3) (.ref (xa (12 + o) 1) :: st)) : G E (xw κ xa (setO X (12 + o) C)) lv pc (.ref (xa (12 + o) 100) :: st) := gr_get_1 F ho hli hd k
theorem gr_getN_1 (F : Fx E κ cc own n dd) (ho : o < 3) {idx : Nat} {host : String} (hli : Cond.fieldLinkNest own idx "PatchesSameAge$Roll" "figure" "[I" host ∈ NWl) (hd : decode cc pc = .ok (.getfield idx, 3)) (k : G E (xw κ xa X) lv (pc + 3) (.ref (xa (12 + o) 1) :: st)) : G E (xw κ xa X) lv pc (.ref (xa (12 + o) 100) :: st) := g_getN F (C := RX2) (T := TX2) (N := 5) (4 * o + 60) (xr_obj ho) rfl i_X2 1 (by decide) hli rfl hd k
theorem grS_getN_1 (F : Fx E κ cc own n dd) (ho : o < 3) {idx : Nat} {host : String} (hli : Cond.fieldLinkNest own idx "PatchesSameAge$Roll" "figure" "[I" host ∈ NWl) (hd : decode cc pc = .ok (.getfield idx, 3)) (k : G E (xw κ xa (setO X (12 + o) C)) lv (pc + 3) (.ref (xa (12 + o) 1) :: st)) : G E (xw κ xa (setO X (12 + o) C)) lv pc (.ref (xa (12 + o) 100) :: st) := gr_getN_1 F ho hli hd k
theorem gr_get_2 (F : Fx E κ cc own n dd) (ho : o < 3) {idx : Nat} (hli : Cond.fieldLink own idx "PatchesSameAge$Roll" "age" "[I" ∈ TG) (hd : decode cc pc = .ok (.getfield idx, 3)) (k : G E (xw κ xa X) lv (pc + 3) (.ref (xa (12 + o) 2) :: st)) : G E (xw κ xa X) lv pc (.ref (xa (12 + o) 100) :: st) := g_get F (C := RX2) (T := TX2) (N := 5) (4 * o + 60) (xr_obj ho) rfl i_X2 2 (by decide) hli rfl hd k
theorem grS_get_2 (F : Fx E κ cc own n dd) (ho : o < 3) {idx : Nat} (hli : Cond.fieldLink own idx "PatchesSameAge$Roll" "age" "[I" ∈ TG) (hd : decode cc pc = .ok (.getfield idx, 3)) (k : G E (xw κ xa (setO X (12 + o) C)) lv (pc + 3) (.ref (xa (12 + o) 2) :: st)) : G E (xw κ xa (setO X (12 + o) C)) lv pc (.ref (xa (12 + o) 100) :: st) := gr_get_2 F ho hli hd k
theorem gr_getN_2 (F : Fx E κ cc own n dd) (ho : o < 3) {idx : Nat} {host : String} (hli : Cond.fieldLinkNest own idx "PatchesSameAge$Roll" "age" "[I" host ∈ NWl) (hd : decode cc pc = .ok (.getfield idx, 3)) (k : G E (xw κ xa X) lv (pc + 3) (.ref (xa (12 + o) 2) :: st)) : G E (xw κ xa X) lv pc (.ref (xa (12 + o) 100) :: st) := g_getN F (C := RX2) (T := TX2) (N := 5) (4 * o + 60) (xr_obj ho) rfl i_X2 2 (by decide) hli rfl hd k
theorem grS_getN_2 (F : Fx E κ cc own n dd) (ho : o < 3) {idx : Nat} {host : String} (hli : Cond.fieldLinkNest own idx "PatchesSameAge$Roll" "age" "[I" host ∈ NWl) (hd : decode cc pc = .ok (.getfield idx, 3)) (k : G E (xw κ xa (setO X (12 + o) C)) lv (pc + 3) (.ref (xa (12 + o) 2) :: st)) : G E (xw κ xa (setO X (12 + o) C)) lv pc (.ref (xa (12 + o) 100) :: st) := gr_getN_2 F ho hli hd k
theorem gr_get_3 (F : Fx E κ cc own n dd) (ho : o < 3) {idx : Nat} (hli : Cond.fieldLink own idx "PatchesSameAge$Roll" "size" "I" ∈ TG) (hd : decode cc pc = .ok (.getfield idx, 3)) (k : G E (xw κ xa X) lv (pc + 3) (.int (iI (X (12 + o) 3 0)) :: st)) : G E (xw κ xa X) lv pc (.ref (xa (12 + o) 100) :: st) := g_get F (C := RX2) (T := TX2) (N := 5) (4 * o + 60) (xr_obj ho) rfl i_X2 3 (by decide) hli rfl hd k
theorem grS_get_3 (F : Fx E κ cc own n dd) (ho : o < 3) {idx : Nat} (hli : Cond.fieldLink own idx "PatchesSameAge$Roll" "size" "I" ∈ TG) (hd : decode cc pc = .ok (.getfield idx, 3)) (k : G E (xw κ xa (setO X (12 + o) C)) lv (pc + 3) (.int (iI (C 3 0)) :: st)) : G E (xw κ xa (setO X (12 + o) C)) lv pc (.ref (xa (12 + o) 100) :: st) := gr_get_3 F ho hli hd (by rw [setO_s]; exact k)
theorem gr_put_3 {z : Int} (F : Fx E κ cc own n dd) (ho : o < 3) {idx : Nat} (hli : Cond.fieldLink own idx "PatchesSameAge$Roll" "size" "I" ∈ TG) (hd : decode cc pc = .ok (.putfield idx, 3)) (k : G E (xw κ xa (setO X (12 + o) (mA (X (12 + o)) 3 (fun _ => z)))) lv (pc + 3) st) : G E (xw κ xa X) lv pc (.int (iI z) :: .ref (xa (12 + o) 100) :: st) := g_put F (C := RX2) (T := TX2) (N := 5) (4 * o + 60) (xr_obj ho) rfl i_X2 tyX2 tyX2_ok nmX2 3 (by decide) hli rfl rfl rfl (by show 3 < 5; decide) (xr_put_3 ho) hd k
theorem grS_put_3 {z : Int} (F : Fx E κ cc own n dd) (ho : o < 3) {idx : Nat} (hli : Cond.fieldLink own idx "PatchesSameAge$Roll" "size" "I" ∈ TG) (hd : decode cc pc = .ok (.putfield idx, 3)) (k : G E (xw κ xa (setO X (12 + o) (mA C 3 (fun _ => z)))) lv (pc + 3) st) : G E (xw κ xa (setO X (12 + o) C)) lv pc (.int (iI z) :: .ref (xa (12 + o) 100) :: st) := gr_put_3 F ho hli hd (by rw [setO_s, setO_setO]; exact k)
theorem gr_getN_3 (F : Fx E κ cc own n dd) (ho : o < 3) {idx : Nat} {host : String} (hli : Cond.fieldLinkNest own idx "PatchesSameAge$Roll" "size" "I" host ∈ NWl) (hd : decode cc pc = .ok (.getfield idx, 3)) (k : G E (xw κ xa X) lv (pc + 3) (.int (iI (X (12 + o) 3 0)) :: st)) : G E (xw κ xa X) lv pc (.ref (xa (12 + o) 100) :: st) := g_getN F (C := RX2) (T := TX2) (N := 5) (4 * o + 60) (xr_obj ho) rfl i_X2 3 (by decide) hli rfl hd k
theorem grS_getN_3 (F : Fx E κ cc own n dd) (ho : o < 3) {idx : Nat} {host : String} (hli : Cond.fieldLinkNest own idx "PatchesSameAge$Roll" "size" "I" host ∈ NWl) (hd : decode cc pc = .ok (.getfield idx, 3)) (k : G E (xw κ xa (setO X (12 + o) C)) lv (pc + 3) (.int (iI (C 3 0)) :: st)) : G E (xw κ xa (setO X (12 + o) C)) lv pc (.ref (xa (12 + o) 100) :: st) := gr_getN_3 F ho hli hd (by rw [setO_s]; exact k)
theorem gr_putN_3 {z : Int} (F : Fx E κ cc own n dd) (ho : o < 3) {idx : Nat} {host : String} (hli : Cond.fieldLinkNest own idx "PatchesSameAge$Roll" "size" "I" host ∈ NWl) (hd : decode cc pc = .ok (.putfield idx, 3)) (k : G E (xw κ xa (setO X (12 + o) (mA (X (12 + o)) 3 (fun _ => z)))) lv (pc + 3) st) : G E (xw κ xa X) lv pc (.int (iI z) :: .ref (xa (12 + o) 100) :: st) := g_putN F (C := RX2) (T := TX2) (N := 5) (4 * o + 60) (xr_obj ho) rfl i_X2 tyX2 tyX2_ok nmX2 3 (by decide) hli rfl rfl rfl (by show 3 < 5; decide) (xr_put_3 ho) hd k
theorem grS_putN_3 {z : Int} (F : Fx E κ cc own n dd) (ho : o < 3) {idx : Nat} {host : String} (hli : Cond.fieldLinkNest own idx "PatchesSameAge$Roll" "size" "I" host ∈ NWl) (hd : decode cc pc = .ok (.putfield idx, 3)) (k : G E (xw κ xa (setO X (12 + o) (mA C 3 (fun _ => z)))) lv (pc + 3) st) : G E (xw κ xa (setO X (12 + o) C)) lv pc (.int (iI z) :: .ref (xa (12 + o) 100) :: st) := gr_putN_3 F ho hli hd (by rw [setO_s, setO_setO]; exact k)
theorem gr_get_4 (F : Fx E κ cc own n dd) (ho : o < 3) {idx : Nat} (hli : Cond.fieldLink own idx "PatchesSameAge$Roll" "used" "I" ∈ TG) (hd : decode cc pc = .ok (.getfield idx, 3)) (k : G E (xw κ xa X) lv (pc + 3) (.int (iI (X (12 + o) 4 0)) :: st)) : G E (xw κ xa X) lv pc (.ref (xa (12 + o) 100) :: st) := g_get F (C := RX2) (T := TX2) (N := 5) (4 * o + 60) (xr_obj ho) rfl i_X2 4 (by decide) hli rfl hd k
theorem grS_get_4 (F : Fx E κ cc own n dd) (ho : o < 3) {idx : Nat} (hli : Cond.fieldLink own idx "PatchesSameAge$Roll" "used" "I" ∈ TG) (hd : decode cc pc = .ok (.getfield idx, 3)) (k : G E (xw κ xa (setO X (12 + o) C)) lv (pc + 3) (.int (iI (C 4 0)) :: st)) : G E (xw κ xa (setO X (12 + o) C)) lv pc (.ref (xa (12 + o) 100) :: st) := gr_get_4 F ho hli hd (by rw [setO_s]; exact k)
theorem gr_put_4 {z : Int} (F : Fx E κ cc own n dd) (ho : o < 3) {idx : Nat} (hli : Cond.fieldLink own idx "PatchesSameAge$Roll" "used" "I" ∈ TG) (hd : decode cc pc = .ok (.putfield idx, 3)) (k : G E (xw κ xa (setO X (12 + o) (mA (X (12 + o)) 4 (fun _ => z)))) lv (pc + 3) st) : G E (xw κ xa X) lv pc (.int (iI z) :: .ref (xa (12 + o) 100) :: st) := g_put F (C := RX2) (T := TX2) (N := 5) (4 * o + 60) (xr_obj ho) rfl i_X2 tyX2 tyX2_ok nmX2 4 (by decide) hli rfl rfl rfl (by show 4 < 5; decide) (xr_put_4 ho) hd k
theorem grS_put_4 {z : Int} (F : Fx E κ cc own n dd) (ho : o < 3) {idx : Nat} (hli : Cond.fieldLink own idx "PatchesSameAge$Roll" "used" "I" ∈ TG) (hd : decode cc pc = .ok (.putfield idx, 3)) (k : G E (xw κ xa (setO X (12 + o) (mA C 4 (fun _ => z)))) lv (pc + 3) st) : G E (xw κ xa (setO X (12 + o) C)) lv pc (.int (iI z) :: .ref (xa (12 + o) 100) :: st) := gr_put_4 F ho hli hd (by rw [setO_s, setO_setO]; exact k)
theorem gr_getN_4 (F : Fx E κ cc own n dd) (ho : o < 3) {idx : Nat} {host : String} (hli : Cond.fieldLinkNest own idx "PatchesSameAge$Roll" "used" "I" host ∈ NWl) (hd : decode cc pc = .ok (.getfield idx, 3)) (k : G E (xw κ xa X) lv (pc + 3) (.int (iI (X (12 + o) 4 0)) :: st)) : G E (xw κ xa X) lv pc (.ref (xa (12 + o) 100) :: st) := g_getN F (C := RX2) (T := TX2) (N := 5) (4 * o + 60) (xr_obj ho) rfl i_X2 4 (by decide) hli rfl hd k
theorem grS_getN_4 (F : Fx E κ cc own n dd) (ho : o < 3) {idx : Nat} {host : String} (hli : Cond.fieldLinkNest own idx "PatchesSameAge$Roll" "used" "I" host ∈ NWl) (hd : decode cc pc = .ok (.getfield idx, 3)) (k : G E (xw κ xa (setO X (12 + o) C)) lv (pc + 3) (.int (iI (C 4 0)) :: st)) : G E (xw κ xa (setO X (12 + o) C)) lv pc (.ref (xa (12 + o) 100) :: st) := gr_getN_4 F ho hli hd (by rw [setO_s]; exact k)
theorem gr_putN_4 {z : Int} (F : Fx E κ cc own n dd) (ho : o < 3) {idx : Nat} {host : String} (hli : Cond.fieldLinkNest own idx "PatchesSameAge$Roll" "used" "I" host ∈ NWl) (hd : decode cc pc = .ok (.putfield idx, 3)) (k : G E (xw κ xa (setO X (12 + o) (mA (X (12 + o)) 4 (fun _ => z)))) lv (pc + 3) st) : G E (xw κ xa X) lv pc (.int (iI z) :: .ref (xa (12 + o) 100) :: st) := g_putN F (C := RX2) (T := TX2) (N := 5) (4 * o + 60) (xr_obj ho) rfl i_X2 tyX2 tyX2_ok nmX2 4 (by decide) hli rfl rfl rfl (by show 4 < 5; decide) (xr_put_4 ho) hd k
theorem grS_putN_4 {z : Int} (F : Fx E κ cc own n dd) (ho : o < 3) {idx : Nat} {host : String} (hli : Cond.fieldLinkNest own idx "PatchesSameAge$Roll" "used" "I" host ∈ NWl) (hd : decode cc pc = .ok (.putfield idx, 3)) (k : G E (xw κ xa (setO X (12 + o) (mA C 4 (fun _ => z)))) lv (pc + 3) st) : G E (xw κ xa (setO X (12 + o) C)) lv pc (.int (iI z) :: .ref (xa (12 + o) 100) :: st) := gr_putN_4 F ho hli hd (by rw [setO_s, setO_setO]; exact k)
theorem gr_ald_0 {z : Int} (F : Fx E κ cc own n dd) (ho : o < 3) (hz : 0 ≤ z ∧ z < 6) (hd : decode cc pc = .ok (.iaload, 1)) (k : G E (xw κ xa X) lv (pc + 1) (.int (iI (X (12 + o) 0 z)) :: st)) : G E (xw κ xa X) lv pc (.int (iI z) :: .ref (xa (12 + o) 0) :: st) := g_ald F (4 * o + 61) (xr_arr_0 ho) hz (by decide) hd k
theorem grS_ald_0 {z : Int} (F : Fx E κ cc own n dd) (ho : o < 3) (hz : 0 ≤ z ∧ z < 6) (hd : decode cc pc = .ok (.iaload, 1)) (k : G E (xw κ xa (setO X (12 + o) C)) lv (pc + 1) (.int (iI (C 0 z)) :: st)) : G E (xw κ xa (setO X (12 + o) C)) lv pc (.int (iI z) :: .ref (xa (12 + o) 0) :: st) := gr_ald_0 F ho hz hd (by rw [setO_s]; exact k)
theorem gr_ast_0 {z v : Int} (F : Fx E κ cc own n dd) (ho : o < 3) (hz : 0 ≤ z ∧ z < 6) (hd : decode cc pc = .ok (.iastore, 1)) (k : G E (xw κ xa (setO X (12 + o) (mA (X (12 + o)) 0 (uI (X (12 + o) 0) z v)))) lv (pc + 1) st) : G E (xw κ xa X) lv pc (.int (iI v) :: .int (iI z) :: .ref (xa (12 + o) 0) :: st) := g_ast F (4 * o + 61) (xr_arr_0 ho) hz (by decide) (xr_set_0 ho) hd k
theorem grS_ast_0 {z v : Int} (F : Fx E κ cc own n dd) (ho : o < 3) (hz : 0 ≤ z ∧ z < 6) (hd : decode cc pc = .ok (.iastore, 1)) (k : G E (xw κ xa (setO X (12 + o) (mA C 0 (uI (C 0) z v)))) lv (pc + 1) st) : G E (xw κ xa (setO X (12 + o) C)) lv pc (.int (iI v) :: .int (iI z) :: .ref (xa (12 + o) 0) :: st) := gr_ast_0 F ho hz hd (by rw [setO_s, setO_setO]; exact k)
theorem grSS_ast_0 {z v : Int} {f : Int → Int} (F : Fx E κ cc own n dd) (ho : o < 3) (hz : 0 ≤ z ∧ z < 6) (hd : decode cc pc = .ok (.iastore, 1)) (k : G E (xw κ xa (setO X (12 + o) (mA C 0 (uI f z v)))) lv (pc + 1) st) : G E (xw κ xa (setO X (12 + o) (mA C 0 f))) lv pc (.int (iI v) :: .int (iI z) :: .ref (xa (12 + o) 0) :: st) := grS_ast_0 F ho hz hd (by rw [mA_s, mA_mA]; exact k)
theorem gr_weq_0 {f g : Int → Int} (ho : o < 3) (h : ∀ j : Int, 0 ≤ j → j < 6 → f j = g j) (k : G E (xw κ xa (setO X (12 + o) (mA C 0 g))) lv pc st) : G E (xw κ xa (setO X (12 + o) (mA C 0 f))) lv pc st := g_weq (fun D H hP => by
  have e : ∀ q : Int → Int, xw κ xa (setO X (12 + o) (mA C 0 q)) = (xw κ xa (setO X (12 + o) C)).set (4 * o + 61) (xa (12 + o) 0, .inl (κ.2.1, 6, .inl (fun j : Nat => iI (q (j : Int))))) := fun q => by rw [xr_set_0 ho, setO_s, setO_setO]
  rw [e] at hP ⊢
  exact va_P_set_congr (at_ext (fun j hj => by rw [h (j : Int) (by omega) (by omega)])) hP) xw_same k
theorem gr_ald_1 {z : Int} (F : Fx E κ cc own n dd) (ho : o < 3) (hz : 0 ≤ z ∧ z < 6) (hd : decode cc pc = .ok (.iaload, 1)) (k : G E (xw κ xa X) lv (pc + 1) (.int (iI (X (12 + o) 1 z)) :: st)) : G E (xw κ xa X) lv pc (.int (iI z) :: .ref (xa (12 + o) 1) :: st) := g_ald F (4 * o + 62) (xr_arr_1 ho) hz (by decide) hd k
theorem grS_ald_1 {z : Int} (F : Fx E κ cc own n dd) (ho : o < 3) (hz : 0 ≤ z ∧ z < 6) (hd : decode cc pc = .ok (.iaload, 1)) (k : G E (xw κ xa (setO X (12 + o) C)) lv (pc + 1) (.int (iI (C 1 z)) :: st)) : G E (xw κ xa (setO X (12 + o) C)) lv pc (.int (iI z) :: .ref (xa (12 + o) 1) :: st) := gr_ald_1 F ho hz hd (by rw [setO_s]; exact k)
theorem gr_ast_1 {z v : Int} (F : Fx E κ cc own n dd) (ho : o < 3) (hz : 0 ≤ z ∧ z < 6) (hd : decode cc pc = .ok (.iastore, 1)) (k : G E (xw κ xa (setO X (12 + o) (mA (X (12 + o)) 1 (uI (X (12 + o) 1) z v)))) lv (pc + 1) st) : G E (xw κ xa X) lv pc (.int (iI v) :: .int (iI z) :: .ref (xa (12 + o) 1) :: st) := g_ast F (4 * o + 62) (xr_arr_1 ho) hz (by decide) (xr_set_1 ho) hd k
theorem grS_ast_1 {z v : Int} (F : Fx E κ cc own n dd) (ho : o < 3) (hz : 0 ≤ z ∧ z < 6) (hd : decode cc pc = .ok (.iastore, 1)) (k : G E (xw κ xa (setO X (12 + o) (mA C 1 (uI (C 1) z v)))) lv (pc + 1) st) : G E (xw κ xa (setO X (12 + o) C)) lv pc (.int (iI v) :: .int (iI z) :: .ref (xa (12 + o) 1) :: st) := gr_ast_1 F ho hz hd (by rw [setO_s, setO_setO]; exact k)
theorem grSS_ast_1 {z v : Int} {f : Int → Int} (F : Fx E κ cc own n dd) (ho : o < 3) (hz : 0 ≤ z ∧ z < 6) (hd : decode cc pc = .ok (.iastore, 1)) (k : G E (xw κ xa (setO X (12 + o) (mA C 1 (uI f z v)))) lv (pc + 1) st) : G E (xw κ xa (setO X (12 + o) (mA C 1 f))) lv pc (.int (iI v) :: .int (iI z) :: .ref (xa (12 + o) 1) :: st) := grS_ast_1 F ho hz hd (by rw [mA_s, mA_mA]; exact k)
theorem gr_weq_1 {f g : Int → Int} (ho : o < 3) (h : ∀ j : Int, 0 ≤ j → j < 6 → f j = g j) (k : G E (xw κ xa (setO X (12 + o) (mA C 1 g))) lv pc st) : G E (xw κ xa (setO X (12 + o) (mA C 1 f))) lv pc st := g_weq (fun D H hP => by
  have e : ∀ q : Int → Int, xw κ xa (setO X (12 + o) (mA C 1 q)) = (xw κ xa (setO X (12 + o) C)).set (4 * o + 62) (xa (12 + o) 1, .inl (κ.2.1, 6, .inl (fun j : Nat => iI (q (j : Int))))) := fun q => by rw [xr_set_1 ho, setO_s, setO_setO]
  rw [e] at hP ⊢
  exact va_P_set_congr (at_ext (fun j hj => by rw [h (j : Int) (by omega) (by omega)])) hP) xw_same k
theorem gr_ald_2 {z : Int} (F : Fx E κ cc own n dd) (ho : o < 3) (hz : 0 ≤ z ∧ z < 6) (hd : decode cc pc = .ok (.iaload, 1)) (k : G E (xw κ xa X) lv (pc + 1) (.int (iI (X (12 + o) 2 z)) :: st)) : G E (xw κ xa X) lv pc (.int (iI z) :: .ref (xa (12 + o) 2) :: st) := g_ald F (4 * o + 63) (xr_arr_2 ho) hz (by decide) hd k
theorem grS_ald_2 {z : Int} (F : Fx E κ cc own n dd) (ho : o < 3) (hz : 0 ≤ z ∧ z < 6) (hd : decode cc pc = .ok (.iaload, 1)) (k : G E (xw κ xa (setO X (12 + o) C)) lv (pc + 1) (.int (iI (C 2 z)) :: st)) : G E (xw κ xa (setO X (12 + o) C)) lv pc (.int (iI z) :: .ref (xa (12 + o) 2) :: st) := gr_ald_2 F ho hz hd (by rw [setO_s]; exact k)
theorem gr_ast_2 {z v : Int} (F : Fx E κ cc own n dd) (ho : o < 3) (hz : 0 ≤ z ∧ z < 6) (hd : decode cc pc = .ok (.iastore, 1)) (k : G E (xw κ xa (setO X (12 + o) (mA (X (12 + o)) 2 (uI (X (12 + o) 2) z v)))) lv (pc + 1) st) : G E (xw κ xa X) lv pc (.int (iI v) :: .int (iI z) :: .ref (xa (12 + o) 2) :: st) := g_ast F (4 * o + 63) (xr_arr_2 ho) hz (by decide) (xr_set_2 ho) hd k
theorem grS_ast_2 {z v : Int} (F : Fx E κ cc own n dd) (ho : o < 3) (hz : 0 ≤ z ∧ z < 6) (hd : decode cc pc = .ok (.iastore, 1)) (k : G E (xw κ xa (setO X (12 + o) (mA C 2 (uI (C 2) z v)))) lv (pc + 1) st) : G E (xw κ xa (setO X (12 + o) C)) lv pc (.int (iI v) :: .int (iI z) :: .ref (xa (12 + o) 2) :: st) := gr_ast_2 F ho hz hd (by rw [setO_s, setO_setO]; exact k)
theorem grSS_ast_2 {z v : Int} {f : Int → Int} (F : Fx E κ cc own n dd) (ho : o < 3) (hz : 0 ≤ z ∧ z < 6) (hd : decode cc pc = .ok (.iastore, 1)) (k : G E (xw κ xa (setO X (12 + o) (mA C 2 (uI f z v)))) lv (pc + 1) st) : G E (xw κ xa (setO X (12 + o) (mA C 2 f))) lv pc (.int (iI v) :: .int (iI z) :: .ref (xa (12 + o) 2) :: st) := grS_ast_2 F ho hz hd (by rw [mA_s, mA_mA]; exact k)
theorem gr_weq_2 {f g : Int → Int} (ho : o < 3) (h : ∀ j : Int, 0 ≤ j → j < 6 → f j = g j) (k : G E (xw κ xa (setO X (12 + o) (mA C 2 g))) lv pc st) : G E (xw κ xa (setO X (12 + o) (mA C 2 f))) lv pc st := g_weq (fun D H hP => by
  have e : ∀ q : Int → Int, xw κ xa (setO X (12 + o) (mA C 2 q)) = (xw κ xa (setO X (12 + o) C)).set (4 * o + 63) (xa (12 + o) 2, .inl (κ.2.1, 6, .inl (fun j : Nat => iI (q (j : Int))))) := fun q => by rw [xr_set_2 ho, setO_s, setO_setO]
  rw [e] at hP ⊢
  exact va_P_set_congr (at_ext (fun j hj => by rw [h (j : Int) (by omega) (by omega)])) hP) xw_same k
theorem xc_cl (ho : o < 12) (Z D : MS) : xw κ xa (setO X o D) = xw κ xa (setO X o (stC Z (cl D))) := by
  match o, ho with
  | 0, _ => exact rfl
  | 1, _ => exact rfl
  | 2, _ => exact rfl
  | 3, _ => exact rfl
  | 4, _ => exact rfl
  | 5, _ => exact rfl
  | 6, _ => exact rfl
  | 7, _ => exact rfl
  | 8, _ => exact rfl
  | 9, _ => exact rfl
  | 10, _ => exact rfl
  | 11, _ => exact rfl
  | m + 12, h => exact absurd h (by omega)
theorem xc_ext {D D2 : MS} (ho : o < 12) (h : cl D = cl D2) : xw κ xa (setO X o D) = xw κ xa (setO X o D2) := by rw [xc_cl ho (fun _ _ => 0) D, xc_cl ho (fun _ _ => 0) D2, h]
def rl (D : MS) : (Int → Int) × (Int → Int) × (Int → Int) × Int × Int := (D 0, D 1, D 2, D 3 0, D 4 0)
def stR (M : MS) (R : (Int → Int) × (Int → Int) × (Int → Int) × Int × Int) : MS := fun a => if a = 0 then R.1 else if a = 1 then R.2.1 else if a = 2 then R.2.2.1 else if a = 3 then (fun _ => R.2.2.2.1) else if a = 4 then (fun _ => R.2.2.2.2) else M a
theorem xr_rl (ho : o < 3) (Z D : MS) : xw κ xa (setO X (12 + o) D) = xw κ xa (setO X (12 + o) (stR Z (rl D))) := by
  match o, ho with
  | 0, _ => exact rfl
  | 1, _ => exact rfl
  | 2, _ => exact rfl
  | m + 3, h => exact absurd h (by omega)
theorem xr_ext {D D2 : MS} (ho : o < 3) (h : rl D = rl D2) : xw κ xa (setO X (12 + o) D) = xw κ xa (setO X (12 + o) D2) := by rw [xr_rl ho (fun _ _ => 0) D, xr_rl ho (fun _ _ => 0) D2, h]
theorem g15_get_0 (F : Fx E κ cc own n dd) {idx : Nat} (hli : Cond.fieldLink own idx "PatchesSameAge$Past" "cloth" "[LPatchesSameAge$Cloth;" ∈ TG) (hd : decode cc pc = .ok (.getfield idx, 3)) (k : G E (xw κ xa X) lv (pc + 3) (.ref (xa 15 0) :: st)) : G E (xw κ xa X) lv pc (.ref (xa 15 100) :: st) := g_get F (C := RX1) (T := TX1) (N := 4) 72 rfl rfl i_X1 0 (by decide) hli rfl hd k
theorem g15_getN_0 (F : Fx E κ cc own n dd) {idx : Nat} {host : String} (hli : Cond.fieldLinkNest own idx "PatchesSameAge$Past" "cloth" "[LPatchesSameAge$Cloth;" host ∈ NWl) (hd : decode cc pc = .ok (.getfield idx, 3)) (k : G E (xw κ xa X) lv (pc + 3) (.ref (xa 15 0) :: st)) : G E (xw κ xa X) lv pc (.ref (xa 15 100) :: st) := g_getN F (C := RX1) (T := TX1) (N := 4) 72 rfl rfl i_X1 0 (by decide) hli rfl hd k
theorem g15_get_1 (F : Fx E κ cc own n dd) {idx : Nat} (hli : Cond.fieldLink own idx "PatchesSameAge$Past" "used" "[I" ∈ TG) (hd : decode cc pc = .ok (.getfield idx, 3)) (k : G E (xw κ xa X) lv (pc + 3) (.ref (xa 15 1) :: st)) : G E (xw κ xa X) lv pc (.ref (xa 15 100) :: st) := g_get F (C := RX1) (T := TX1) (N := 4) 72 rfl rfl i_X1 1 (by decide) hli rfl hd k
theorem g15_getN_1 (F : Fx E κ cc own n dd) {idx : Nat} {host : String} (hli : Cond.fieldLinkNest own idx "PatchesSameAge$Past" "used" "[I" host ∈ NWl) (hd : decode cc pc = .ok (.getfield idx, 3)) (k : G E (xw κ xa X) lv (pc + 3) (.ref (xa 15 1) :: st)) : G E (xw κ xa X) lv pc (.ref (xa 15 100) :: st) := g_getN F (C := RX1) (T := TX1) (N := 4) 72 rfl rfl i_X1 1 (by decide) hli rfl hd k
theorem g15_get_2 (F : Fx E κ cc own n dd) {idx : Nat} (hli : Cond.fieldLink own idx "PatchesSameAge$Past" "next" "I" ∈ TG) (hd : decode cc pc = .ok (.getfield idx, 3)) (k : G E (xw κ xa X) lv (pc + 3) (.int (iI (X 15 2 0)) :: st)) : G E (xw κ xa X) lv pc (.ref (xa 15 100) :: st) := g_get F (C := RX1) (T := TX1) (N := 4) 72 rfl rfl i_X1 2 (by decide) hli rfl hd k
theorem x15_put_2 {z : Int} : (xw κ xa X).set 72 (xa 15 100, .inr (1, (pfv xa (X 15)).set 2 (.int (iI z)))) = xw κ xa (setO X 15 (mA (X 15) 2 (fun _ => z))) := rfl
theorem g15_put_2 {z : Int} (F : Fx E κ cc own n dd) {idx : Nat} (hli : Cond.fieldLink own idx "PatchesSameAge$Past" "next" "I" ∈ TG) (hd : decode cc pc = .ok (.putfield idx, 3)) (k : G E (xw κ xa (setO X 15 (mA (X 15) 2 (fun _ => z)))) lv (pc + 3) st) : G E (xw κ xa X) lv pc (.int (iI z) :: .ref (xa 15 100) :: st) := g_put F (C := RX1) (T := TX1) (N := 4) 72 rfl rfl i_X1 tyX1 tyX1_ok nmX1 2 (by decide) hli rfl rfl rfl (by show 2 < 4; decide) x15_put_2 hd k
theorem g15_getN_2 (F : Fx E κ cc own n dd) {idx : Nat} {host : String} (hli : Cond.fieldLinkNest own idx "PatchesSameAge$Past" "next" "I" host ∈ NWl) (hd : decode cc pc = .ok (.getfield idx, 3)) (k : G E (xw κ xa X) lv (pc + 3) (.int (iI (X 15 2 0)) :: st)) : G E (xw κ xa X) lv pc (.ref (xa 15 100) :: st) := g_getN F (C := RX1) (T := TX1) (N := 4) 72 rfl rfl i_X1 2 (by decide) hli rfl hd k
theorem g15_putN_2 {z : Int} (F : Fx E κ cc own n dd) {idx : Nat} {host : String} (hli : Cond.fieldLinkNest own idx "PatchesSameAge$Past" "next" "I" host ∈ NWl) (hd : decode cc pc = .ok (.putfield idx, 3)) (k : G E (xw κ xa (setO X 15 (mA (X 15) 2 (fun _ => z)))) lv (pc + 3) st) : G E (xw κ xa X) lv pc (.int (iI z) :: .ref (xa 15 100) :: st) := g_putN F (C := RX1) (T := TX1) (N := 4) 72 rfl rfl i_X1 tyX1 tyX1_ok nmX1 2 (by decide) hli rfl rfl rfl (by show 2 < 4; decide) x15_put_2 hd k
theorem g15_get_3 (F : Fx E κ cc own n dd) {idx : Nat} (hli : Cond.fieldLink own idx "PatchesSameAge$Past" "size" "I" ∈ TG) (hd : decode cc pc = .ok (.getfield idx, 3)) (k : G E (xw κ xa X) lv (pc + 3) (.int (iI (X 15 3 0)) :: st)) : G E (xw κ xa X) lv pc (.ref (xa 15 100) :: st) := g_get F (C := RX1) (T := TX1) (N := 4) 72 rfl rfl i_X1 3 (by decide) hli rfl hd k
theorem x15_put_3 {z : Int} : (xw κ xa X).set 72 (xa 15 100, .inr (1, (pfv xa (X 15)).set 3 (.int (iI z)))) = xw κ xa (setO X 15 (mA (X 15) 3 (fun _ => z))) := rfl
theorem g15_put_3 {z : Int} (F : Fx E κ cc own n dd) {idx : Nat} (hli : Cond.fieldLink own idx "PatchesSameAge$Past" "size" "I" ∈ TG) (hd : decode cc pc = .ok (.putfield idx, 3)) (k : G E (xw κ xa (setO X 15 (mA (X 15) 3 (fun _ => z)))) lv (pc + 3) st) : G E (xw κ xa X) lv pc (.int (iI z) :: .ref (xa 15 100) :: st) := g_put F (C := RX1) (T := TX1) (N := 4) 72 rfl rfl i_X1 tyX1 tyX1_ok nmX1 3 (by decide) hli rfl rfl rfl (by show 3 < 4; decide) x15_put_3 hd k
theorem g15_getN_3 (F : Fx E κ cc own n dd) {idx : Nat} {host : String} (hli : Cond.fieldLinkNest own idx "PatchesSameAge$Past" "size" "I" host ∈ NWl) (hd : decode cc pc = .ok (.getfield idx, 3)) (k : G E (xw κ xa X) lv (pc + 3) (.int (iI (X 15 3 0)) :: st)) : G E (xw κ xa X) lv pc (.ref (xa 15 100) :: st) := g_getN F (C := RX1) (T := TX1) (N := 4) 72 rfl rfl i_X1 3 (by decide) hli rfl hd k
theorem g15_putN_3 {z : Int} (F : Fx E κ cc own n dd) {idx : Nat} {host : String} (hli : Cond.fieldLinkNest own idx "PatchesSameAge$Past" "size" "I" host ∈ NWl) (hd : decode cc pc = .ok (.putfield idx, 3)) (k : G E (xw κ xa (setO X 15 (mA (X 15) 3 (fun _ => z)))) lv (pc + 3) st) : G E (xw κ xa X) lv pc (.int (iI z) :: .ref (xa 15 100) :: st) := g_putN F (C := RX1) (T := TX1) (N := 4) 72 rfl rfl i_X1 tyX1 tyX1_ok nmX1 3 (by decide) hli rfl rfl rfl (by show 3 < 4; decide) x15_put_3 hd k
theorem x15_arr_1 : (xw κ xa X)[74]? = some (xa 15 1, .inl (κ.2.1, 8, .inl (fun j : Nat => iI (X 15 1 (j : Int))))) := rfl
theorem x15_set_1 {f : Int → Int} : (xw κ xa X).set 74 (xa 15 1, .inl (κ.2.1, 8, .inl (fun j : Nat => iI (f (j : Int))))) = xw κ xa (setO X 15 (mA (X 15) 1 f)) := rfl
theorem g15_ald_1 {z : Int} (F : Fx E κ cc own n dd) (hz : 0 ≤ z ∧ z < 8) (hd : decode cc pc = .ok (.iaload, 1)) (k : G E (xw κ xa X) lv (pc + 1) (.int (iI (X 15 1 z)) :: st)) : G E (xw κ xa X) lv pc (.int (iI z) :: .ref (xa 15 1) :: st) := g_ald F 74 x15_arr_1 hz (by decide) hd k
theorem g15_ast_1 {z v : Int} (F : Fx E κ cc own n dd) (hz : 0 ≤ z ∧ z < 8) (hd : decode cc pc = .ok (.iastore, 1)) (k : G E (xw κ xa (setO X 15 (mA (X 15) 1 (uI (X 15 1) z v)))) lv (pc + 1) st) : G E (xw κ xa X) lv pc (.int (iI v) :: .int (iI z) :: .ref (xa 15 1) :: st) := g_ast F 74 x15_arr_1 hz (by decide) x15_set_1 hd k
theorem g16_get_0 (F : Fx E κ cc own n dd) {idx : Nat} (hli : Cond.fieldLink own idx "PatchesSameAge$Text" "letter" "[I" ∈ TG) (hd : decode cc pc = .ok (.getfield idx, 3)) (k : G E (xw κ xa X) lv (pc + 3) (.ref (xa 16 0) :: st)) : G E (xw κ xa X) lv pc (.ref (xa 16 100) :: st) := g_get F (C := RX3) (T := TX3) (N := 2) 75 rfl rfl i_X3 0 (by decide) hli rfl hd k
theorem g16_getN_0 (F : Fx E κ cc own n dd) {idx : Nat} {host : String} (hli : Cond.fieldLinkNest own idx "PatchesSameAge$Text" "letter" "[I" host ∈ NWl) (hd : decode cc pc = .ok (.getfield idx, 3)) (k : G E (xw κ xa X) lv (pc + 3) (.ref (xa 16 0) :: st)) : G E (xw κ xa X) lv pc (.ref (xa 16 100) :: st) := g_getN F (C := RX3) (T := TX3) (N := 2) 75 rfl rfl i_X3 0 (by decide) hli rfl hd k
theorem g16_get_1 (F : Fx E κ cc own n dd) {idx : Nat} (hli : Cond.fieldLink own idx "PatchesSameAge$Text" "length" "I" ∈ TG) (hd : decode cc pc = .ok (.getfield idx, 3)) (k : G E (xw κ xa X) lv (pc + 3) (.int (iI (X 16 1 0)) :: st)) : G E (xw κ xa X) lv pc (.ref (xa 16 100) :: st) := g_get F (C := RX3) (T := TX3) (N := 2) 75 rfl rfl i_X3 1 (by decide) hli rfl hd k
theorem x16_put_1 {z : Int} : (xw κ xa X).set 75 (xa 16 100, .inr (3, (tfv xa (X 16)).set 1 (.int (iI z)))) = xw κ xa (setO X 16 (mA (X 16) 1 (fun _ => z))) := rfl
theorem g16_put_1 {z : Int} (F : Fx E κ cc own n dd) {idx : Nat} (hli : Cond.fieldLink own idx "PatchesSameAge$Text" "length" "I" ∈ TG) (hd : decode cc pc = .ok (.putfield idx, 3)) (k : G E (xw κ xa (setO X 16 (mA (X 16) 1 (fun _ => z)))) lv (pc + 3) st) : G E (xw κ xa X) lv pc (.int (iI z) :: .ref (xa 16 100) :: st) := g_put F (C := RX3) (T := TX3) (N := 2) 75 rfl rfl i_X3 tyX3 tyX3_ok nmX3 1 (by decide) hli rfl rfl rfl (by show 1 < 2; decide) x16_put_1 hd k
theorem g16_getN_1 (F : Fx E κ cc own n dd) {idx : Nat} {host : String} (hli : Cond.fieldLinkNest own idx "PatchesSameAge$Text" "length" "I" host ∈ NWl) (hd : decode cc pc = .ok (.getfield idx, 3)) (k : G E (xw κ xa X) lv (pc + 3) (.int (iI (X 16 1 0)) :: st)) : G E (xw κ xa X) lv pc (.ref (xa 16 100) :: st) := g_getN F (C := RX3) (T := TX3) (N := 2) 75 rfl rfl i_X3 1 (by decide) hli rfl hd k
theorem g16_putN_1 {z : Int} (F : Fx E κ cc own n dd) {idx : Nat} {host : String} (hli : Cond.fieldLinkNest own idx "PatchesSameAge$Text" "length" "I" host ∈ NWl) (hd : decode cc pc = .ok (.putfield idx, 3)) (k : G E (xw κ xa (setO X 16 (mA (X 16) 1 (fun _ => z)))) lv (pc + 3) st) : G E (xw κ xa X) lv pc (.int (iI z) :: .ref (xa 16 100) :: st) := g_putN F (C := RX3) (T := TX3) (N := 2) 75 rfl rfl i_X3 tyX3 tyX3_ok nmX3 1 (by decide) hli rfl rfl rfl (by show 1 < 2; decide) x16_put_1 hd k
theorem x16_arr_0 : (xw κ xa X)[76]? = some (xa 16 0, .inl (κ.2.1, 96, .inl (fun j : Nat => iI (X 16 0 (j : Int))))) := rfl
theorem x16_set_0 {f : Int → Int} : (xw κ xa X).set 76 (xa 16 0, .inl (κ.2.1, 96, .inl (fun j : Nat => iI (f (j : Int))))) = xw κ xa (setO X 16 (mA (X 16) 0 f)) := rfl
theorem g16_ald_0 {z : Int} (F : Fx E κ cc own n dd) (hz : 0 ≤ z ∧ z < 96) (hd : decode cc pc = .ok (.iaload, 1)) (k : G E (xw κ xa X) lv (pc + 1) (.int (iI (X 16 0 z)) :: st)) : G E (xw κ xa X) lv pc (.int (iI z) :: .ref (xa 16 0) :: st) := g_ald F 76 x16_arr_0 hz (by decide) hd k
theorem g16_ast_0 {z v : Int} (F : Fx E κ cc own n dd) (hz : 0 ≤ z ∧ z < 96) (hd : decode cc pc = .ok (.iastore, 1)) (k : G E (xw κ xa (setO X 16 (mA (X 16) 0 (uI (X 16 0) z v)))) lv (pc + 1) st) : G E (xw κ xa X) lv pc (.int (iI v) :: .int (iI z) :: .ref (xa 16 0) :: st) := g_ast F 76 x16_arr_0 hz (by decide) x16_set_0 hd k
theorem g17_get_0 (F : Fx E κ cc own n dd) {idx : Nat} (hli : Cond.fieldLink own idx "PatchesSameAge$Ways" "piece" "[I" ∈ TG) (hd : decode cc pc = .ok (.getfield idx, 3)) (k : G E (xw κ xa X) lv (pc + 3) (.ref (xa 17 0) :: st)) : G E (xw κ xa X) lv pc (.ref (xa 17 100) :: st) := g_get F (C := RX4) (T := TX4) (N := 4) 77 rfl rfl i_X4 0 (by decide) hli rfl hd k
theorem g17_getN_0 (F : Fx E κ cc own n dd) {idx : Nat} {host : String} (hli : Cond.fieldLinkNest own idx "PatchesSameAge$Ways" "piece" "[I" host ∈ NWl) (hd : decode cc pc = .ok (.getfield idx, 3)) (k : G E (xw κ xa X) lv (pc + 3) (.ref (xa 17 0) :: st)) : G E (xw κ xa X) lv pc (.ref (xa 17 100) :: st) := g_getN F (C := RX4) (T := TX4) (N := 4) 77 rfl rfl i_X4 0 (by decide) hli rfl hd k
theorem g17_get_1 (F : Fx E κ cc own n dd) {idx : Nat} (hli : Cond.fieldLink own idx "PatchesSameAge$Ways" "at" "[I" ∈ TG) (hd : decode cc pc = .ok (.getfield idx, 3)) (k : G E (xw κ xa X) lv (pc + 3) (.ref (xa 17 1) :: st)) : G E (xw κ xa X) lv pc (.ref (xa 17 100) :: st) := g_get F (C := RX4) (T := TX4) (N := 4) 77 rfl rfl i_X4 1 (by decide) hli rfl hd k
theorem g17_getN_1 (F : Fx E κ cc own n dd) {idx : Nat} {host : String} (hli : Cond.fieldLinkNest own idx "PatchesSameAge$Ways" "at" "[I" host ∈ NWl) (hd : decode cc pc = .ok (.getfield idx, 3)) (k : G E (xw κ xa X) lv (pc + 3) (.ref (xa 17 1) :: st)) : G E (xw κ xa X) lv pc (.ref (xa 17 100) :: st) := g_getN F (C := RX4) (T := TX4) (N := 4) 77 rfl rfl i_X4 1 (by decide) hli rfl hd k
theorem g17_get_2 (F : Fx E κ cc own n dd) {idx : Nat} (hli : Cond.fieldLink own idx "PatchesSameAge$Ways" "pull" "[I" ∈ TG) (hd : decode cc pc = .ok (.getfield idx, 3)) (k : G E (xw κ xa X) lv (pc + 3) (.ref (xa 17 2) :: st)) : G E (xw κ xa X) lv pc (.ref (xa 17 100) :: st) := g_get F (C := RX4) (T := TX4) (N := 4) 77 rfl rfl i_X4 2 (by decide) hli rfl hd k
theorem g17_getN_2 (F : Fx E κ cc own n dd) {idx : Nat} {host : String} (hli : Cond.fieldLinkNest own idx "PatchesSameAge$Ways" "pull" "[I" host ∈ NWl) (hd : decode cc pc = .ok (.getfield idx, 3)) (k : G E (xw κ xa X) lv (pc + 3) (.ref (xa 17 2) :: st)) : G E (xw κ xa X) lv pc (.ref (xa 17 100) :: st) := g_getN F (C := RX4) (T := TX4) (N := 4) 77 rfl rfl i_X4 2 (by decide) hli rfl hd k
theorem g17_get_3 (F : Fx E κ cc own n dd) {idx : Nat} (hli : Cond.fieldLink own idx "PatchesSameAge$Ways" "size" "I" ∈ TG) (hd : decode cc pc = .ok (.getfield idx, 3)) (k : G E (xw κ xa X) lv (pc + 3) (.int (iI (X 17 3 0)) :: st)) : G E (xw κ xa X) lv pc (.ref (xa 17 100) :: st) := g_get F (C := RX4) (T := TX4) (N := 4) 77 rfl rfl i_X4 3 (by decide) hli rfl hd k
theorem x17_put_3 {z : Int} : (xw κ xa X).set 77 (xa 17 100, .inr (4, (wfv xa (X 17)).set 3 (.int (iI z)))) = xw κ xa (setO X 17 (mA (X 17) 3 (fun _ => z))) := rfl
theorem g17_put_3 {z : Int} (F : Fx E κ cc own n dd) {idx : Nat} (hli : Cond.fieldLink own idx "PatchesSameAge$Ways" "size" "I" ∈ TG) (hd : decode cc pc = .ok (.putfield idx, 3)) (k : G E (xw κ xa (setO X 17 (mA (X 17) 3 (fun _ => z)))) lv (pc + 3) st) : G E (xw κ xa X) lv pc (.int (iI z) :: .ref (xa 17 100) :: st) := g_put F (C := RX4) (T := TX4) (N := 4) 77 rfl rfl i_X4 tyX4 tyX4_ok nmX4 3 (by decide) hli rfl rfl rfl (by show 3 < 4; decide) x17_put_3 hd k
theorem g17_getN_3 (F : Fx E κ cc own n dd) {idx : Nat} {host : String} (hli : Cond.fieldLinkNest own idx "PatchesSameAge$Ways" "size" "I" host ∈ NWl) (hd : decode cc pc = .ok (.getfield idx, 3)) (k : G E (xw κ xa X) lv (pc + 3) (.int (iI (X 17 3 0)) :: st)) : G E (xw κ xa X) lv pc (.ref (xa 17 100) :: st) := g_getN F (C := RX4) (T := TX4) (N := 4) 77 rfl rfl i_X4 3 (by decide) hli rfl hd k
theorem g17_putN_3 {z : Int} (F : Fx E κ cc own n dd) {idx : Nat} {host : String} (hli : Cond.fieldLinkNest own idx "PatchesSameAge$Ways" "size" "I" host ∈ NWl) (hd : decode cc pc = .ok (.putfield idx, 3)) (k : G E (xw κ xa (setO X 17 (mA (X 17) 3 (fun _ => z)))) lv (pc + 3) st) : G E (xw κ xa X) lv pc (.int (iI z) :: .ref (xa 17 100) :: st) := g_putN F (C := RX4) (T := TX4) (N := 4) 77 rfl rfl i_X4 tyX4 tyX4_ok nmX4 3 (by decide) hli rfl rfl rfl (by show 3 < 4; decide) x17_put_3 hd k
theorem x17_arr_0 : (xw κ xa X)[78]? = some (xa 17 0, .inl (κ.2.1, 3, .inl (fun j : Nat => iI (X 17 0 (j : Int))))) := rfl
theorem x17_set_0 {f : Int → Int} : (xw κ xa X).set 78 (xa 17 0, .inl (κ.2.1, 3, .inl (fun j : Nat => iI (f (j : Int))))) = xw κ xa (setO X 17 (mA (X 17) 0 f)) := rfl
theorem g17_ald_0 {z : Int} (F : Fx E κ cc own n dd) (hz : 0 ≤ z ∧ z < 3) (hd : decode cc pc = .ok (.iaload, 1)) (k : G E (xw κ xa X) lv (pc + 1) (.int (iI (X 17 0 z)) :: st)) : G E (xw κ xa X) lv pc (.int (iI z) :: .ref (xa 17 0) :: st) := g_ald F 78 x17_arr_0 hz (by decide) hd k
theorem g17_ast_0 {z v : Int} (F : Fx E κ cc own n dd) (hz : 0 ≤ z ∧ z < 3) (hd : decode cc pc = .ok (.iastore, 1)) (k : G E (xw κ xa (setO X 17 (mA (X 17) 0 (uI (X 17 0) z v)))) lv (pc + 1) st) : G E (xw κ xa X) lv pc (.int (iI v) :: .int (iI z) :: .ref (xa 17 0) :: st) := g_ast F 78 x17_arr_0 hz (by decide) x17_set_0 hd k
theorem x17_arr_1 : (xw κ xa X)[79]? = some (xa 17 1, .inl (κ.2.1, 3, .inl (fun j : Nat => iI (X 17 1 (j : Int))))) := rfl
theorem x17_set_1 {f : Int → Int} : (xw κ xa X).set 79 (xa 17 1, .inl (κ.2.1, 3, .inl (fun j : Nat => iI (f (j : Int))))) = xw κ xa (setO X 17 (mA (X 17) 1 f)) := rfl
theorem g17_ald_1 {z : Int} (F : Fx E κ cc own n dd) (hz : 0 ≤ z ∧ z < 3) (hd : decode cc pc = .ok (.iaload, 1)) (k : G E (xw κ xa X) lv (pc + 1) (.int (iI (X 17 1 z)) :: st)) : G E (xw κ xa X) lv pc (.int (iI z) :: .ref (xa 17 1) :: st) := g_ald F 79 x17_arr_1 hz (by decide) hd k
theorem g17_ast_1 {z v : Int} (F : Fx E κ cc own n dd) (hz : 0 ≤ z ∧ z < 3) (hd : decode cc pc = .ok (.iastore, 1)) (k : G E (xw κ xa (setO X 17 (mA (X 17) 1 (uI (X 17 1) z v)))) lv (pc + 1) st) : G E (xw κ xa X) lv pc (.int (iI v) :: .int (iI z) :: .ref (xa 17 1) :: st) := g_ast F 79 x17_arr_1 hz (by decide) x17_set_1 hd k
theorem x17_arr_2 : (xw κ xa X)[80]? = some (xa 17 2, .inl (κ.2.1, 1728, .inl (fun j : Nat => iI (X 17 2 (j : Int))))) := rfl
theorem x17_set_2 {f : Int → Int} : (xw κ xa X).set 80 (xa 17 2, .inl (κ.2.1, 1728, .inl (fun j : Nat => iI (f (j : Int))))) = xw κ xa (setO X 17 (mA (X 17) 2 f)) := rfl
theorem g17_ald_2 {z : Int} (F : Fx E κ cc own n dd) (hz : 0 ≤ z ∧ z < 1728) (hd : decode cc pc = .ok (.iaload, 1)) (k : G E (xw κ xa X) lv (pc + 1) (.int (iI (X 17 2 z)) :: st)) : G E (xw κ xa X) lv pc (.int (iI z) :: .ref (xa 17 2) :: st) := g_ald F 80 x17_arr_2 hz (by decide) hd k
theorem g17_ast_2 {z v : Int} (F : Fx E κ cc own n dd) (hz : 0 ≤ z ∧ z < 1728) (hd : decode cc pc = .ok (.iastore, 1)) (k : G E (xw κ xa (setO X 17 (mA (X 17) 2 (uI (X 17 2) z v)))) lv (pc + 1) st) : G E (xw κ xa X) lv pc (.int (iI v) :: .int (iI z) :: .ref (xa 17 2) :: st) := g_ast F 80 x17_arr_2 hz (by decide) x17_set_2 hd k
theorem g18_get_0 (F : Fx E κ cc own n dd) {idx : Nat} (hli : Cond.fieldLink own idx "PatchesSameAge" "now" "LPatchesSameAge$Cloth;" ∈ TG) (hd : decode cc pc = .ok (.getfield idx, 3)) (k : G E (xw κ xa X) lv (pc + 3) (.ref (xa 0 100) :: st)) : G E (xw κ xa X) lv pc (.ref (xa 18 100) :: st) := g_get F (C := RX5) (T := TX5) (N := 15) 81 rfl rfl i_X5 0 (by decide) hli rfl hd k
theorem g18_get_1 (F : Fx E κ cc own n dd) {idx : Nat} (hli : Cond.fieldLink own idx "PatchesSameAge" "roll" "LPatchesSameAge$Roll;" ∈ TG) (hd : decode cc pc = .ok (.getfield idx, 3)) (k : G E (xw κ xa X) lv (pc + 3) (.ref (xa 12 100) :: st)) : G E (xw κ xa X) lv pc (.ref (xa 18 100) :: st) := g_get F (C := RX5) (T := TX5) (N := 15) 81 rfl rfl i_X5 1 (by decide) hli rfl hd k
theorem g18_get_2 (F : Fx E κ cc own n dd) {idx : Nat} (hli : Cond.fieldLink own idx "PatchesSameAge" "past" "LPatchesSameAge$Past;" ∈ TG) (hd : decode cc pc = .ok (.getfield idx, 3)) (k : G E (xw κ xa X) lv (pc + 3) (.ref (xa 15 100) :: st)) : G E (xw κ xa X) lv pc (.ref (xa 18 100) :: st) := g_get F (C := RX5) (T := TX5) (N := 15) 81 rfl rfl i_X5 2 (by decide) hli rfl hd k
theorem g18_get_3 (F : Fx E κ cc own n dd) {idx : Nat} (hli : Cond.fieldLink own idx "PatchesSameAge" "text" "LPatchesSameAge$Text;" ∈ TG) (hd : decode cc pc = .ok (.getfield idx, 3)) (k : G E (xw κ xa X) lv (pc + 3) (.ref (xa 16 100) :: st)) : G E (xw κ xa X) lv pc (.ref (xa 18 100) :: st) := g_get F (C := RX5) (T := TX5) (N := 15) 81 rfl rfl i_X5 3 (by decide) hli rfl hd k
theorem g18_get_4 (F : Fx E κ cc own n dd) {idx : Nat} (hli : Cond.fieldLink own idx "PatchesSameAge" "numbers" "[I" ∈ TG) (hd : decode cc pc = .ok (.getfield idx, 3)) (k : G E (xw κ xa X) lv (pc + 3) (.ref (xa 18 4) :: st)) : G E (xw κ xa X) lv pc (.ref (xa 18 100) :: st) := g_get F (C := RX5) (T := TX5) (N := 15) 81 rfl rfl i_X5 4 (by decide) hli rfl hd k
theorem g18_get_5 (F : Fx E κ cc own n dd) {idx : Nat} (hli : Cond.fieldLink own idx "PatchesSameAge" "numberCount" "I" ∈ TG) (hd : decode cc pc = .ok (.getfield idx, 3)) (k : G E (xw κ xa X) lv (pc + 3) (.int (iI (X 18 5 0)) :: st)) : G E (xw κ xa X) lv pc (.ref (xa 18 100) :: st) := g_get F (C := RX5) (T := TX5) (N := 15) 81 rfl rfl i_X5 5 (by decide) hli rfl hd k
theorem x18_put_5 {z : Int} : (xw κ xa X).set 81 (xa 18 100, .inr (5, (mfv xa (X 18)).set 5 (.int (iI z)))) = xw κ xa (setO X 18 (mA (X 18) 5 (fun _ => z))) := rfl
theorem g18_put_5 {z : Int} (F : Fx E κ cc own n dd) {idx : Nat} (hli : Cond.fieldLink own idx "PatchesSameAge" "numberCount" "I" ∈ TG) (hd : decode cc pc = .ok (.putfield idx, 3)) (k : G E (xw κ xa (setO X 18 (mA (X 18) 5 (fun _ => z)))) lv (pc + 3) st) : G E (xw κ xa X) lv pc (.int (iI z) :: .ref (xa 18 100) :: st) := g_put F (C := RX5) (T := TX5) (N := 15) 81 rfl rfl i_X5 tyX5 tyX5_ok nmX5 5 (by decide) hli rfl rfl rfl (by show 5 < 15; decide) x18_put_5 hd k
theorem g18_get_6 (F : Fx E κ cc own n dd) {idx : Nat} (hli : Cond.fieldLink own idx "PatchesSameAge" "refused" "[I" ∈ TG) (hd : decode cc pc = .ok (.getfield idx, 3)) (k : G E (xw κ xa X) lv (pc + 3) (.ref (xa 18 6) :: st)) : G E (xw κ xa X) lv pc (.ref (xa 18 100) :: st) := g_get F (C := RX5) (T := TX5) (N := 15) 81 rfl rfl i_X5 6 (by decide) hli rfl hd k
theorem g18_get_7 (F : Fx E κ cc own n dd) {idx : Nat} (hli : Cond.fieldLink own idx "PatchesSameAge" "imageCloth" "LPatchesSameAge$Cloth;" ∈ TG) (hd : decode cc pc = .ok (.getfield idx, 3)) (k : G E (xw κ xa X) lv (pc + 3) (.ref (xa 1 100) :: st)) : G E (xw κ xa X) lv pc (.ref (xa 18 100) :: st) := g_get F (C := RX5) (T := TX5) (N := 15) 81 rfl rfl i_X5 7 (by decide) hli rfl hd k
theorem g18_get_8 (F : Fx E κ cc own n dd) {idx : Nat} (hli : Cond.fieldLink own idx "PatchesSameAge" "imageRoll" "LPatchesSameAge$Roll;" ∈ TG) (hd : decode cc pc = .ok (.getfield idx, 3)) (k : G E (xw κ xa X) lv (pc + 3) (.ref (xa 13 100) :: st)) : G E (xw κ xa X) lv pc (.ref (xa 18 100) :: st) := g_get F (C := RX5) (T := TX5) (N := 15) 81 rfl rfl i_X5 8 (by decide) hli rfl hd k
theorem g18_get_9 (F : Fx E κ cc own n dd) {idx : Nat} (hli : Cond.fieldLink own idx "PatchesSameAge" "imageTaken" "Z" ∈ TG) (hd : decode cc pc = .ok (.getfield idx, 3)) (k : G E (xw κ xa X) lv (pc + 3) (.int (iI (X 18 9 0)) :: st)) : G E (xw κ xa X) lv pc (.ref (xa 18 100) :: st) := g_get F (C := RX5) (T := TX5) (N := 15) 81 rfl rfl i_X5 9 (by decide) hli rfl hd k
theorem x18_put_9 {z : Int} : (xw κ xa X).set 81 (xa 18 100, .inr (5, (mfv xa (X 18)).set 9 (.int (iI z)))) = xw κ xa (setO X 18 (mA (X 18) 9 (fun _ => z))) := rfl
theorem g18_put_9 {z : Int} (F : Fx E κ cc own n dd) (hz : z = 0 ∨ z = 1) {idx : Nat} (hli : Cond.fieldLink own idx "PatchesSameAge" "imageTaken" "Z" ∈ TG) (hd : decode cc pc = .ok (.putfield idx, 3)) (k : G E (xw κ xa (setO X 18 (mA (X 18) 9 (fun _ => z)))) lv (pc + 3) st) : G E (xw κ xa X) lv pc (.int (iI z) :: .ref (xa 18 100) :: st) := g_put F (C := RX5) (T := TX5) (N := 15) 81 rfl rfl i_X5 tyX5 tyX5_ok nmX5 9 (by decide) hli rfl (by rcases hz with rfl | rfl <;> decide +kernel) (by rcases hz with rfl | rfl <;> decide +kernel) (by show 9 < 15; decide) x18_put_9 hd k
theorem g18_get_10 (F : Fx E κ cc own n dd) {idx : Nat} (hli : Cond.fieldLink own idx "PatchesSameAge" "mind" "LPatchesSameAge$Cloth;" ∈ TG) (hd : decode cc pc = .ok (.getfield idx, 3)) (k : G E (xw κ xa X) lv (pc + 3) (.ref (xa 2 100) :: st)) : G E (xw κ xa X) lv pc (.ref (xa 18 100) :: st) := g_get F (C := RX5) (T := TX5) (N := 15) 81 rfl rfl i_X5 10 (by decide) hli rfl hd k
theorem g18_get_11 (F : Fx E κ cc own n dd) {idx : Nat} (hli : Cond.fieldLink own idx "PatchesSameAge" "later" "LPatchesSameAge$Cloth;" ∈ TG) (hd : decode cc pc = .ok (.getfield idx, 3)) (k : G E (xw κ xa X) lv (pc + 3) (.ref (xa 3 100) :: st)) : G E (xw κ xa X) lv pc (.ref (xa 18 100) :: st) := g_get F (C := RX5) (T := TX5) (N := 15) 81 rfl rfl i_X5 11 (by decide) hli rfl hd k
theorem g18_get_12 (F : Fx E κ cc own n dd) {idx : Nat} (hli : Cond.fieldLink own idx "PatchesSameAge" "mindRoll" "LPatchesSameAge$Roll;" ∈ TG) (hd : decode cc pc = .ok (.getfield idx, 3)) (k : G E (xw κ xa X) lv (pc + 3) (.ref (xa 14 100) :: st)) : G E (xw κ xa X) lv pc (.ref (xa 18 100) :: st) := g_get F (C := RX5) (T := TX5) (N := 15) 81 rfl rfl i_X5 12 (by decide) hli rfl hd k
theorem g18_get_13 (F : Fx E κ cc own n dd) {idx : Nat} (hli : Cond.fieldLink own idx "PatchesSameAge" "ways" "LPatchesSameAge$Ways;" ∈ TG) (hd : decode cc pc = .ok (.getfield idx, 3)) (k : G E (xw κ xa X) lv (pc + 3) (.ref (xa 17 100) :: st)) : G E (xw κ xa X) lv pc (.ref (xa 18 100) :: st) := g_get F (C := RX5) (T := TX5) (N := 15) 81 rfl rfl i_X5 13 (by decide) hli rfl hd k
theorem g18_get_14 (F : Fx E κ cc own n dd) {idx : Nat} (hli : Cond.fieldLink own idx "PatchesSameAge" "list" "[I" ∈ TG) (hd : decode cc pc = .ok (.getfield idx, 3)) (k : G E (xw κ xa X) lv (pc + 3) (.ref (xa 18 14) :: st)) : G E (xw κ xa X) lv pc (.ref (xa 18 100) :: st) := g_get F (C := RX5) (T := TX5) (N := 15) 81 rfl rfl i_X5 14 (by decide) hli rfl hd k
theorem x18_arr_4 : (xw κ xa X)[82]? = some (xa 18 4, .inl (κ.2.1, 12, .inl (fun j : Nat => iI (X 18 4 (j : Int))))) := rfl
theorem x18_set_4 {f : Int → Int} : (xw κ xa X).set 82 (xa 18 4, .inl (κ.2.1, 12, .inl (fun j : Nat => iI (f (j : Int))))) = xw κ xa (setO X 18 (mA (X 18) 4 f)) := rfl
theorem g18_ald_4 {z : Int} (F : Fx E κ cc own n dd) (hz : 0 ≤ z ∧ z < 12) (hd : decode cc pc = .ok (.iaload, 1)) (k : G E (xw κ xa X) lv (pc + 1) (.int (iI (X 18 4 z)) :: st)) : G E (xw κ xa X) lv pc (.int (iI z) :: .ref (xa 18 4) :: st) := g_ald F 82 x18_arr_4 hz (by decide) hd k
theorem g18_ast_4 {z v : Int} (F : Fx E κ cc own n dd) (hz : 0 ≤ z ∧ z < 12) (hd : decode cc pc = .ok (.iastore, 1)) (k : G E (xw κ xa (setO X 18 (mA (X 18) 4 (uI (X 18 4) z v)))) lv (pc + 1) st) : G E (xw κ xa X) lv pc (.int (iI v) :: .int (iI z) :: .ref (xa 18 4) :: st) := g_ast F 82 x18_arr_4 hz (by decide) x18_set_4 hd k
theorem x18_arr_6 : (xw κ xa X)[83]? = some (xa 18 6, .inl (κ.2.1, 7, .inl (fun j : Nat => iI (X 18 6 (j : Int))))) := rfl
theorem x18_set_6 {f : Int → Int} : (xw κ xa X).set 83 (xa 18 6, .inl (κ.2.1, 7, .inl (fun j : Nat => iI (f (j : Int))))) = xw κ xa (setO X 18 (mA (X 18) 6 f)) := rfl
theorem g18_ald_6 {z : Int} (F : Fx E κ cc own n dd) (hz : 0 ≤ z ∧ z < 7) (hd : decode cc pc = .ok (.iaload, 1)) (k : G E (xw κ xa X) lv (pc + 1) (.int (iI (X 18 6 z)) :: st)) : G E (xw κ xa X) lv pc (.int (iI z) :: .ref (xa 18 6) :: st) := g_ald F 83 x18_arr_6 hz (by decide) hd k
theorem g18_ast_6 {z v : Int} (F : Fx E κ cc own n dd) (hz : 0 ≤ z ∧ z < 7) (hd : decode cc pc = .ok (.iastore, 1)) (k : G E (xw κ xa (setO X 18 (mA (X 18) 6 (uI (X 18 6) z v)))) lv (pc + 1) st) : G E (xw κ xa X) lv pc (.int (iI v) :: .int (iI z) :: .ref (xa 18 6) :: st) := g_ast F 83 x18_arr_6 hz (by decide) x18_set_6 hd k
theorem x18_arr_14 : (xw κ xa X)[84]? = some (xa 18 14, .inl (κ.2.1, 12, .inl (fun j : Nat => iI (X 18 14 (j : Int))))) := rfl
theorem x18_set_14 {f : Int → Int} : (xw κ xa X).set 84 (xa 18 14, .inl (κ.2.1, 12, .inl (fun j : Nat => iI (f (j : Int))))) = xw κ xa (setO X 18 (mA (X 18) 14 f)) := rfl
theorem g18_ald_14 {z : Int} (F : Fx E κ cc own n dd) (hz : 0 ≤ z ∧ z < 12) (hd : decode cc pc = .ok (.iaload, 1)) (k : G E (xw κ xa X) lv (pc + 1) (.int (iI (X 18 14 z)) :: st)) : G E (xw κ xa X) lv pc (.int (iI z) :: .ref (xa 18 14) :: st) := g_ald F 84 x18_arr_14 hz (by decide) hd k
theorem g18_ast_14 {z v : Int} (F : Fx E κ cc own n dd) (hz : 0 ≤ z ∧ z < 12) (hd : decode cc pc = .ok (.iastore, 1)) (k : G E (xw κ xa (setO X 18 (mA (X 18) 14 (uI (X 18 14) z v)))) lv (pc + 1) st) : G E (xw κ xa X) lv pc (.int (iI v) :: .int (iI z) :: .ref (xa 18 14) :: st) := g_ast F 84 x18_arr_14 hz (by decide) x18_set_14 hd k
end
