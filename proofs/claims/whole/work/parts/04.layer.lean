/-! THE LAYER: 'G E ws lv pc st': the machine, in any heap that holds the world ws, with locals lv, at pc, stack st, comes to the end that E names -/
def TG : List Cond := lw_tbl.filter goodWord
theorem tg_in {w : Cond} (h : w ∈ lw_tbl) (g : goodWord w = true) : w ∈ TG := List.mem_filter.mpr ⟨h, g⟩
theorem tg_good {w : Cond} (h : w ∈ TG) : goodWord w = true := (List.mem_filter.mp h).2
theorem tg_tbl {w : Cond} (h : w ∈ TG) : w ∈ lw_tbl := (List.mem_filter.mp h).1
theorem tg_call {y : MethodName} {cc : ByteArray} {n : Nat} {r : Option FieldType} (hc : Cond.code y cc n r ∈ TG) : GoodIn TG (Cond.code y cc n r :: TG) := by
  intro w hw
  rcases List.mem_cons.mp hw with rfl | h
  · exact ⟨hc, good_of_word (tg_good hc)⟩
  · exact ⟨h, good_of_word (tg_good h)⟩
/-- the nest's words -/
def NWl : List Cond := [(Jvm.Cond.methodLinkNest "PatchesSameAge" (9 : Nat) ({ cls := "PatchesSameAge$Cloth", name := "<init>", desc := "()V" } : Jvm.MethodName) "PatchesSameAge"), (Jvm.Cond.fieldLinkNest "PatchesSameAge" (169 : Nat) "PatchesSameAge$Cloth" "kind" "[I" "PatchesSameAge"), (Jvm.Cond.fieldLinkNest "PatchesSameAge" (172 : Nat) "PatchesSameAge$Cloth" "figure" "[I" "PatchesSameAge"), (Jvm.Cond.fieldLinkNest "PatchesSameAge" (175 : Nat) "PatchesSameAge$Cloth" "age" "[I" "PatchesSameAge"), (Jvm.Cond.fieldLinkNest "PatchesSameAge" (160 : Nat) "PatchesSameAge$Cloth" "wear" "[I" "PatchesSameAge"), (Jvm.Cond.fieldLinkNest "PatchesSameAge" (163 : Nat) "PatchesSameAge$Cloth" "year" "I" "PatchesSameAge"), (Jvm.Cond.methodLinkNest "PatchesSameAge" (18 : Nat) ({ cls := "PatchesSameAge$Roll", name := "<init>", desc := "()V" } : Jvm.MethodName) "PatchesSameAge"), (Jvm.Cond.fieldLinkNest "PatchesSameAge$Cloth" (34 : Nat) "PatchesSameAge$Roll" "kind" "[I" "PatchesSameAge"), (Jvm.Cond.fieldLinkNest "PatchesSameAge" (193 : Nat) "PatchesSameAge$Roll" "kind" "[I" "PatchesSameAge"), (Jvm.Cond.fieldLinkNest "PatchesSameAge$Cloth" (37 : Nat) "PatchesSameAge$Roll" "figure" "[I" "PatchesSameAge"), (Jvm.Cond.fieldLinkNest "PatchesSameAge" (194 : Nat) "PatchesSameAge$Roll" "figure" "[I" "PatchesSameAge"), (Jvm.Cond.fieldLinkNest "PatchesSameAge$Cloth" (38 : Nat) "PatchesSameAge$Roll" "age" "[I" "PatchesSameAge"), (Jvm.Cond.fieldLinkNest "PatchesSameAge" (195 : Nat) "PatchesSameAge$Roll" "age" "[I" "PatchesSameAge"), (Jvm.Cond.fieldLinkNest "PatchesSameAge$Ways" (25 : Nat) "PatchesSameAge$Roll" "size" "I" "PatchesSameAge"), (Jvm.Cond.fieldLinkNest "PatchesSameAge" (144 : Nat) "PatchesSameAge$Roll" "size" "I" "PatchesSameAge"), (Jvm.Cond.fieldLinkNest "PatchesSameAge$Past" (30 : Nat) "PatchesSameAge$Roll" "used" "I" "PatchesSameAge"), (Jvm.Cond.methodLinkNest "PatchesSameAge" (25 : Nat) ({ cls := "PatchesSameAge$Past", name := "<init>", desc := "()V" } : Jvm.MethodName) "PatchesSameAge"), (Jvm.Cond.methodLinkNest "PatchesSameAge$Past" (21 : Nat) ({ cls := "PatchesSameAge$Cloth", name := "<init>", desc := "()V" } : Jvm.MethodName) "PatchesSameAge"), (Jvm.Cond.fieldLinkNest "PatchesSameAge" (211 : Nat) "PatchesSameAge$Past" "size" "I" "PatchesSameAge"), (Jvm.Cond.methodLinkNest "PatchesSameAge" (32 : Nat) ({ cls := "PatchesSameAge$Text", name := "<init>", desc := "()V" } : Jvm.MethodName) "PatchesSameAge"), (Jvm.Cond.fieldLinkNest "PatchesSameAge" (73 : Nat) "PatchesSameAge$Text" "length" "I" "PatchesSameAge"), (Jvm.Cond.methodLinkNest "PatchesSameAge" (61 : Nat) ({ cls := "PatchesSameAge$Ways", name := "<init>", desc := "()V" } : Jvm.MethodName) "PatchesSameAge"), (Jvm.Cond.fieldLinkNest "PatchesSameAge" (267 : Nat) "PatchesSameAge$Ways" "piece" "[I" "PatchesSameAge"), (Jvm.Cond.fieldLinkNest "PatchesSameAge" (260 : Nat) "PatchesSameAge$Ways" "at" "[I" "PatchesSameAge"), (Jvm.Cond.fieldLinkNest "PatchesSameAge" (248 : Nat) "PatchesSameAge$Ways" "pull" "[I" "PatchesSameAge"), (Jvm.Cond.fieldLinkNest "PatchesSameAge" (259 : Nat) "PatchesSameAge$Ways" "size" "I" "PatchesSameAge"), (Jvm.Cond.methodLinkNest "PatchesSameAge" (77 : Nat) ({ cls := "PatchesSameAge$Text", name := "add", desc := "(I)V" } : Jvm.MethodName) "PatchesSameAge"), (Jvm.Cond.methodLinkNest "PatchesSameAge" (81 : Nat) ({ cls := "PatchesSameAge$Text", name := "formFault", desc := "()I" } : Jvm.MethodName) "PatchesSameAge"), (Jvm.Cond.methodLinkNest "PatchesSameAge" (88 : Nat) ({ cls := "PatchesSameAge$Cloth", name := "become", desc := "(LPatchesSameAge$Cloth;)V" } : Jvm.MethodName) "PatchesSameAge"), (Jvm.Cond.methodLinkNest "PatchesSameAge" (92 : Nat) ({ cls := "PatchesSameAge$Roll", name := "become", desc := "(LPatchesSameAge$Roll;)V" } : Jvm.MethodName) "PatchesSameAge"), (Jvm.Cond.methodLinkNest "PatchesSameAge" (111 : Nat) ({ cls := "PatchesSameAge$Text", name := "letterAt", desc := "(I)I" } : Jvm.MethodName) "PatchesSameAge"), (Jvm.Cond.methodLinkNest "PatchesSameAge" (114 : Nat) ({ cls := "PatchesSameAge$Text", name := "number", desc := "(II)I" } : Jvm.MethodName) "PatchesSameAge"), (Jvm.Cond.methodLinkNest "PatchesSameAge" (140 : Nat) ({ cls := "PatchesSameAge$Cloth", name := "make", desc := "(IIII)V" } : Jvm.MethodName) "PatchesSameAge"), (Jvm.Cond.methodLinkNest "PatchesSameAge" (147 : Nat) ({ cls := "PatchesSameAge$Roll", name := "add", desc := "(III)V" } : Jvm.MethodName) "PatchesSameAge"), (Jvm.Cond.methodLinkNest "PatchesSameAge" (150 : Nat) ({ cls := "PatchesSameAge$Roll", name := "isFree", desc := "(I)Z" } : Jvm.MethodName) "PatchesSameAge"), (Jvm.Cond.methodLinkNest "PatchesSameAge" (153 : Nat) ({ cls := "PatchesSameAge$Cloth", name := "put", desc := "(LPatchesSameAge$Roll;II)V" } : Jvm.MethodName) "PatchesSameAge"), (Jvm.Cond.methodLinkNest "PatchesSameAge" (157 : Nat) ({ cls := "PatchesSameAge$Roll", name := "use", desc := "(I)V" } : Jvm.MethodName) "PatchesSameAge"), (Jvm.Cond.methodLinkNest "PatchesSameAge" (166 : Nat) ({ cls := "PatchesSameAge$Cloth", name := "goOn", desc := "(I)V" } : Jvm.MethodName) "PatchesSameAge"), (Jvm.Cond.fieldLinkNest "PatchesSameAge$Cloth" (47 : Nat) "PatchesSameAge" "BESIDE" "[I" "PatchesSameAge"), (Jvm.Cond.methodLinkNest "PatchesSameAge" (99 : Nat) ({ cls := "PatchesSameAge$Text", name := "sizeAt", desc := "(I)I" } : Jvm.MethodName) "PatchesSameAge"), (Jvm.Cond.methodLinkNest "PatchesSameAge" (108 : Nat) ({ cls := "PatchesSameAge$Past", name := "forget", desc := "()V" } : Jvm.MethodName) "PatchesSameAge"), (Jvm.Cond.methodLinkNest "PatchesSameAge" (178 : Nat) ({ cls := "PatchesSameAge$Cloth", name := "pull", desc := "(I)I" } : Jvm.MethodName) "PatchesSameAge"), (Jvm.Cond.methodLinkNest "PatchesSameAge" (181 : Nat) ({ cls := "PatchesSameAge$Cloth", name := "wearing", desc := "(I)I" } : Jvm.MethodName) "PatchesSameAge"), (Jvm.Cond.methodLinkNest "PatchesSameAge" (184 : Nat) ({ cls := "PatchesSameAge$Cloth", name := "hold", desc := "(I)I" } : Jvm.MethodName) "PatchesSameAge"), (Jvm.Cond.methodLinkNest "PatchesSameAge" (187 : Nat) ({ cls := "PatchesSameAge$Cloth", name := "isHole", desc := "(I)Z" } : Jvm.MethodName) "PatchesSameAge"), (Jvm.Cond.methodLinkNest "PatchesSameAge" (190 : Nat) ({ cls := "PatchesSameAge$Roll", name := "has", desc := "(I)Z" } : Jvm.MethodName) "PatchesSameAge"), (Jvm.Cond.methodLinkNest "PatchesSameAge" (196 : Nat) ({ cls := "PatchesSameAge$Past", name := "note", desc := "(LPatchesSameAge$Cloth;LPatchesSameAge$Roll;)V" } : Jvm.MethodName) "PatchesSameAge"), (Jvm.Cond.methodLinkNest "PatchesSameAge$Past" (26 : Nat) ({ cls := "PatchesSameAge$Cloth", name := "become", desc := "(LPatchesSameAge$Cloth;)V" } : Jvm.MethodName) "PatchesSameAge"), (Jvm.Cond.methodLinkNest "PatchesSameAge" (200 : Nat) ({ cls := "PatchesSameAge$Cloth", name := "pullTogether", desc := "()I" } : Jvm.MethodName) "PatchesSameAge"), (Jvm.Cond.methodLinkNest "PatchesSameAge" (203 : Nat) ({ cls := "PatchesSameAge$Cloth", name := "holeBits", desc := "()I" } : Jvm.MethodName) "PatchesSameAge"), (Jvm.Cond.methodLinkNest "PatchesSameAge" (212 : Nat) ({ cls := "PatchesSameAge$Past", name := "takeBack", desc := "(LPatchesSameAge$Cloth;LPatchesSameAge$Roll;)V" } : Jvm.MethodName) "PatchesSameAge"), (Jvm.Cond.methodLinkNest "PatchesSameAge" (218 : Nat) ({ cls := "PatchesSameAge$Cloth", name := "wearTogether", desc := "()I" } : Jvm.MethodName) "PatchesSameAge"), (Jvm.Cond.methodLinkNest "PatchesSameAge" (224 : Nat) ({ cls := "PatchesSameAge$Cloth", name := "yearsToHole", desc := "(II)I" } : Jvm.MethodName) "PatchesSameAge"), (Jvm.Cond.methodLinkNest "PatchesSameAge" (231 : Nat) ({ cls := "PatchesSameAge$Cloth", name := "growOlder", desc := "(I)V" } : Jvm.MethodName) "PatchesSameAge"), (Jvm.Cond.methodLinkNest "PatchesSameAge" (235 : Nat) ({ cls := "PatchesSameAge$Roll", name := "free", desc := "()I" } : Jvm.MethodName) "PatchesSameAge"), (Jvm.Cond.methodLinkNest "PatchesSameAge" (238 : Nat) ({ cls := "PatchesSameAge$Ways", name := "gather", desc := "(LPatchesSameAge$Roll;)V" } : Jvm.MethodName) "PatchesSameAge"), (Jvm.Cond.methodLinkNest "PatchesSameAge$Ways" (28 : Nat) ({ cls := "PatchesSameAge$Roll", name := "isFree", desc := "(I)Z" } : Jvm.MethodName) "PatchesSameAge"), (Jvm.Cond.methodLinkNest "PatchesSameAge" (241 : Nat) ({ cls := "PatchesSameAge$Ways", name := "reckon", desc := "(LPatchesSameAge$Cloth;LPatchesSameAge$Roll;LPatchesSameAge$Cloth;)V" } : Jvm.MethodName) "PatchesSameAge"), (Jvm.Cond.methodLinkNest "PatchesSameAge$Ways" (39 : Nat) ({ cls := "PatchesSameAge$Cloth", name := "become", desc := "(LPatchesSameAge$Cloth;)V" } : Jvm.MethodName) "PatchesSameAge"), (Jvm.Cond.methodLinkNest "PatchesSameAge$Ways" (52 : Nat) ({ cls := "PatchesSameAge$Cloth", name := "put", desc := "(LPatchesSameAge$Roll;II)V" } : Jvm.MethodName) "PatchesSameAge"), (Jvm.Cond.methodLinkNest "PatchesSameAge$Ways" (56 : Nat) ({ cls := "PatchesSameAge$Cloth", name := "pullTogether", desc := "()I" } : Jvm.MethodName) "PatchesSameAge"), (Jvm.Cond.methodLinkNest "PatchesSameAge" (245 : Nat) ({ cls := "PatchesSameAge$Ways", name := "leastWay", desc := "()I" } : Jvm.MethodName) "PatchesSameAge"), (Jvm.Cond.methodLinkNest "PatchesSameAge" (250 : Nat) ({ cls := "PatchesSameAge$Ways", name := "placeOf", desc := "(I)I" } : Jvm.MethodName) "PatchesSameAge"), (Jvm.Cond.methodLinkNest "PatchesSameAge" (253 : Nat) ({ cls := "PatchesSameAge$Ways", name := "cellIn", desc := "(II)I" } : Jvm.MethodName) "PatchesSameAge"), (Jvm.Cond.methodLinkNest "PatchesSameAge" (256 : Nat) ({ cls := "PatchesSameAge$Ways", name := "takeOff", desc := "()V" } : Jvm.MethodName) "PatchesSameAge"), (Jvm.Cond.methodLinkNest "PatchesSameAge" (270 : Nat) ({ cls := "PatchesSameAge$Ways", name := "number", desc := "()I" } : Jvm.MethodName) "PatchesSameAge"), (Jvm.Cond.methodLinkNest "PatchesSameAge" (272 : Nat) ({ cls := "PatchesSameAge$Ways", name := "isTaken", desc := "(I)Z" } : Jvm.MethodName) "PatchesSameAge"), (Jvm.Cond.methodLinkNest "PatchesSameAge" (294 : Nat) ({ cls := "PatchesSameAge$Cloth", name := "heapOf", desc := "(II)I" } : Jvm.MethodName) "PatchesSameAge"), (Jvm.Cond.methodLinkNest "PatchesSameAge" (297 : Nat) ({ cls := "PatchesSameAge$Cloth", name := "risingFrom", desc := "(I)I" } : Jvm.MethodName) "PatchesSameAge"), (Jvm.Cond.methodLinkNest "PatchesSameAge" (300 : Nat) ({ cls := "PatchesSameAge$Cloth", name := "change", desc := "(II)V" } : Jvm.MethodName) "PatchesSameAge"), (Jvm.Cond.methodLinkNest "PatchesSameAge" (314 : Nat) ({ cls := "PatchesSameAge$Cloth", name := "moreWorn", desc := "(I)I" } : Jvm.MethodName) "PatchesSameAge"), (Jvm.Cond.methodLinkNest "PatchesSameAge" (329 : Nat) ({ cls := "PatchesSameAge$Cloth", name := "ageTogether", desc := "()I" } : Jvm.MethodName) "PatchesSameAge")]
def isNestW : Cond → Bool
  | .fieldLinkNest .. => true
  | .methodLinkNest .. => true
  | _ => false
theorem nwl_nest : ∀ w ∈ NWl, isNestW w = true := by decide +kernel
def NW (U : State) : Prop := ∀ w ∈ NWl, va_Nw w U
theorem NW.same {u U : State} (h : u.vm = U.vm) (k : NW u) : NW U := fun w hw => by
  have hn := nwl_nest w hw
  have hk := k w hw
  cases w <;> first | (simp [isNestW] at hn; done) | exact va_Nw.same rfl h hk
theorem NW.warm {s U : State} (hW : s.WarmedH U.vm) (k : NW s) : NW U := fun w hw => by
  have hn := nwl_nest w hw
  have hk := k w hw
  cases w <;> first | (simp [isNestW] at hn; done) | exact va_Nw.warmF hW hk | exact va_Nw.warmM hW hk
/-- the cell beside, by the place in the table: up, left, right, down; -1 none -/
def nb (c w : Int) : Int := if w = 0 then (if c < 4 then -1 else c - 4) else if w = 1 then (if c % 4 = 0 then -1 else c - 1) else if w = 2 then (if c % 4 = 3 then -1 else c + 1) else (if 7 < c then -1 else c + 4)
def bes (j : Int) : Int := nb (j / 4) (j % 4)
/-- what is the same all the way: the classes' numbers, the arrays' classes, the table's address -/
abbrev Kp : Type := va_G × ClassId × ClassId × Nat
abbrev tysOf (κ : Kp) : List (ClassId × FieldType) := [(κ.2.1, .int), (κ.2.2.1, .object RX0)]
def bsV : Nat → Value := fun j => .int (iI (bes (j : Int)))
def KE (κ : Kp) (A : Nat → Prop) (U : State) : Prop := va_K κ.1 vwCl (tysOf κ) U ∧ NW U ∧ va_Z "PatchesSameAge" "BESIDE" "[I" (.ref κ.2.2.2) A U U.heap ∧ va_T .int κ.2.2.2 48 bsV A U U.heap
def rmD (d : Nat) : Room := { frames := d, cells := 0, slots := 0, locals := 64 * d }
def adr (ws : va_W) : Nat → Prop := fun q => ∃ (k : Nat) (e : va_E), ws[k]? = some (q, e)
def sameA (ws ws' : va_W) : Prop := ws'.map Prod.fst = ws.map Prod.fst
theorem sameA.rf {ws : va_W} : sameA ws ws := rfl
theorem sameA.tr {a b c : va_W} (h : sameA a b) (k : sameA b c) : sameA a c := Eq.trans k h
theorem sameA.D {A : Nat → Prop} {ws ws' : va_W} (h : sameA ws ws') (k : va_D A ws) : va_D A ws' := by
  have key : ∀ (i : Nat) (q : Nat × va_E), ws'[i]? = some q → ∃ q2 : Nat × va_E, ws[i]? = some q2 ∧ q2.1 = q.1 := by
    intro i q hq
    have h1 : (ws'.map Prod.fst)[i]? = some q.1 := by rw [List.getElem?_map, hq]; rfl
    rw [show ws'.map Prod.fst = ws.map Prod.fst from h, List.getElem?_map] at h1
    cases h2 : ws[i]? with
    | none => rw [h2] at h1; cases h1
    | some q2 => rw [h2] at h1; exact ⟨q2, rfl, Option.some.inj h1⟩
  refine ⟨fun i j p q hp hq hpq => ?_, fun i q hq => ?_⟩
  · obtain ⟨p2, e1, e2⟩ := key i p hp
    obtain ⟨q2, e3, e4⟩ := key j q hq
    exact k.1 i j p2 q2 e1 e3 (by rw [e2, e4]; exact hpq)
  · obtain ⟨q2, e1, e2⟩ := key i q hq
    rw [← e2]
    exact k.2 i q2 e1
/-- a method's start: the world, apart, and what is the same all the way -/
def PreW (κ : Kp) (As : List Value) (ws : va_W) : Array Value → State → Prop := va_Pc As (fun U => va_P κ.1 vwCl ws U.heap ∧ va_D (fun _ => True) ws ∧ KE κ (adr ws) U)
abbrev endW (κ : Kp) (ws : va_W) : va_W → State → Prop := fun ws' t => va_P κ.1 vwCl ws' t.heap ∧ sameA ws ws'
/-- CONTRACTS: method y, of these arguments, in this world, answers r and leaves ws' with 'post r ws'' -/
def mI (κ : Kp) (y : MethodName) (cc : ByteArray) (n : Nat) (rt : FieldType) (d : Nat) (As : List Value) (ws : va_W) (post : Int32 → va_W → Prop) : Prop :=
  ∀ l : Launch, Met l y (Cond.code y cc n (some rt) :: TG) (rmD d) (PreW κ As ws) (va_Qi post (endW κ ws) (adr ws)) 0 0 (adr ws)
def mL (κ : Kp) (y : MethodName) (cc : ByteArray) (n : Nat) (d : Nat) (As : List Value) (ws : va_W) (post : Int64 → va_W → Prop) : Prop :=
  ∀ l : Launch, Met l y (Cond.code y cc n (some .long) :: TG) (rmD d) (PreW κ As ws) (va_Ql post (endW κ ws) (adr ws)) 0 0 (adr ws)
def mV (κ : Kp) (y : MethodName) (cc : ByteArray) (n : Nat) (d : Nat) (As : List Value) (ws : va_W) (post : va_W → Prop) : Prop :=
  ∀ l : Launch, Met l y (Cond.code y cc n none :: TG) (rmD d) (PreW κ As ws) (va_Qv post (endW κ ws) (adr ws)) 0 0 (adr ws)
/-- one answer, one world -/
abbrev is1 (r : Int32) (ws : va_W) : Int32 → va_W → Prop := fun r' ws' => r' = r ∧ ws' = ws
abbrev is1L (r : Int64) (ws : va_W) : Int64 → va_W → Prop := fun r' ws' => r' = r ∧ ws' = ws
abbrev is0 (ws : va_W) : va_W → Prop := fun ws' => ws' = ws
abbrev gE : Type := Program × Launch × Env × Room × State × MethodId × Array Value × List Frame × Method × Code × Kp × (Nat → Prop) × Nat × Nat × (State → Prop) × Nat
def G (E : gE) (ws : va_W) (lv : List (Nat × Value)) (pc : Nat) (st : List Value) : Prop :=
  match E with
  | (p, l, e, R, s, m, args, below, meth, c, κ, A, cells, slots, Q, nL) => ∀ (H : Heap) (locs : List Loc) (ls : Array Slot), va_P κ.1 vwCl ws H → va_D A ws → va_S A s.heap H locs → lv_has ls nL lv → W p l e R s m args below meth c H locs cells slots Q (F0 m pc ls st)
def Fx (E : gE) (κ : Kp) (cc : ByteArray) (own : String) (n dd : Nat) : Prop :=
  match E with
  | (p, _, _, R, s, m, args, _, meth, c, κ', A, cells, slots, _, nL) => κ' = κ ∧ p.tables.exec = Jvm.exec ∧ c.code = cc ∧ c.maxLocals = nL ∧ nL = n ∧ s.vm.findClass own = some m.cls ∧ (∀ w ∈ TG, w.before args s = true) ∧ meth.locks = false ∧ KE κ A s ∧ dd ≤ R.frames ∧ 64 * dd ≤ R.locals ∧ cells ≤ R.cells ∧ slots ≤ R.slots
theorem NWl_use {w : Cond} {U : State} (h : NW U) (hw : w ∈ NWl) : va_Nw w U := h w hw
theorem KE.blind {κ : Kp} {A : Nat → Prop} {U : State} (h : KE κ A U) (g : JFrame) (mk : MethodId) (a : Array Value) : KE κ A (U.calling g mk a) := by
  obtain ⟨h1, h2, h3, h4⟩ := h
  exact ⟨va_K.moved (u := U) (U := U.calling g mk a) (Vm.Alike.refl U.vm) h1, NW.same (u := U) (U := U.calling g mk a) rfl h2, va_Z.moved (u := U) (U := U.calling g mk a) (Vm.Alike.refl U.vm) h3, va_T.moved (u := U) (U := U.calling g mk a) (Vm.Alike.refl U.vm) h4⟩
theorem PreW.blind {κ : Kp} {As : List Value} {ws : va_W} : FrameBlind (PreW κ As ws) := by
  intro a U g mk h
  obtain ⟨h0, h1, h2, h3⟩ := h
  exact ⟨h0, h1, h2, h3.blind g mk a⟩
/-- what the caller holds is enough for the callee's start -/
theorem KE.at {κ : Kp} {A : Nat → Prop} {ws : va_W} {s U : State} {H : Heap} {locs : List Loc} (h : KE κ A s) (hS : va_S A s.heap H locs) (hD : va_D A ws) (hU : U.heap = H) (hW : s.WarmedH U.vm) : KE κ (adr ws) U := by
  obtain ⟨h1, h2, h3, h4⟩ := h
  have hAB : ∀ q, adr ws q → A q := fun q hq => by
    obtain ⟨k, e, hk⟩ := hq
    exact hD.2 k (q, e) hk
  refine ⟨va_K.moved hW.alike h1, h2.warm hW, ?_, ?_⟩
  · rw [hU]
    exact ((h3.kept hS.2.1).narrow hAB).moved hW.alike
  · rw [hU]
    exact ((h4.kept hS.2.1).narrow hAB).moved hW.alike
/-- A METHOD OUT OF ITS WALK -/
theorem mI_of {κ : Kp} {y : MethodName} {cc : ByteArray} {n : Nat} {rt : FieldType} {d : Nat} {As : List Value} {ws : va_W} {post : Int32 → va_W → Prop} (hy : plainName y.cls = true) (hn : (lg_sl As).length ≤ n)
    (body : ∀ E : gE, Fx E κ cc y.cls n d → (∀ {ws' : va_W} {lv : List (Nat × Value)} {pc : Nat} {r : Int32}, sameA ws ws' → post r ws' → narrow rt (.int r) = .int r → decode cc pc = .ok (.ireturn, 1) → G E ws' lv pc [.int r]) → G E ws (lv_args 0 As) 0 []) : mI κ y cc n rt d As ws post := by
  intro l
  refine Met.ofW (cc := cc) (maxL := n) (ret := some rt) hy rfl ?_
  intro p e s m args below meth c s₁ B hml hv
  obtain ⟨rfl, hP, hD0, hK⟩ := hv
  have hx := B.exec
  have hb := B.bytes
  have hr := B.returns
  have hts := atoms_spec (ws := Cond.code y cc n (some rt) :: TG) B.pre
  have hown : s.vm.findClass y.cls = some m.cls := findClass_of_methodNamed B.named
  have hlk := B.notSynchronized
  have hl := lv_entry As (n := n) hn
  have hD : va_D (adr ws) ws := ⟨hD0.1, fun k q hk => ⟨k, q.2, hk⟩⟩
  rw [lg_entry_eq]
  refine body (p, l, e, _, s, m, As.toArray, below, meth, c, κ, adr ws, 0, 0, _, n) ⟨rfl, hx, hb, hml, rfl, hown, fun w hw => hts w (List.mem_cons_of_mem _ hw), hlk, hK, Nat.le_refl _, Nat.le_refl _, Nat.zero_le _, Nat.zero_le _⟩ ?_ s.heap [] _ hP hD va_S.rf hl
  intro ws' lv pc r hsame hpost hnr hd H locs ls hP' hD' hS' hl'
  exact W.zret hx hb hr hnr (fun t ht hW => ⟨⟨r, ws', rfl, hpost, by rw [ht]; exact hP', hsame⟩, hS'.F ht⟩) hS'.2.2 hd
theorem mL_of {κ : Kp} {y : MethodName} {cc : ByteArray} {n : Nat} {d : Nat} {As : List Value} {ws : va_W} {post : Int64 → va_W → Prop} (hy : plainName y.cls = true) (hn : (lg_sl As).length ≤ n)
    (body : ∀ E : gE, Fx E κ cc y.cls n d → (∀ {ws' : va_W} {lv : List (Nat × Value)} {pc : Nat} {r : Int64}, sameA ws ws' → post r ws' → decode cc pc = .ok (.lreturn, 1) → G E ws' lv pc [.long r]) → G E ws (lv_args 0 As) 0 []) : mL κ y cc n d As ws post := by
  intro l
  refine Met.ofW (cc := cc) (maxL := n) (ret := some .long) hy rfl ?_
  intro p e s m args below meth c s₁ B hml hv
  obtain ⟨rfl, hP, hD0, hK⟩ := hv
  have hx := B.exec
  have hb := B.bytes
  have hr := B.returns
  have hts := atoms_spec (ws := Cond.code y cc n (some .long) :: TG) B.pre
  have hown : s.vm.findClass y.cls = some m.cls := findClass_of_methodNamed B.named
  have hlk := B.notSynchronized
  have hl := lv_entry As (n := n) hn
  have hD : va_D (adr ws) ws := ⟨hD0.1, fun k q hk => ⟨k, q.2, hk⟩⟩
  rw [lg_entry_eq]
  refine body (p, l, e, _, s, m, As.toArray, below, meth, c, κ, adr ws, 0, 0, _, n) ⟨rfl, hx, hb, hml, rfl, hown, fun w hw => hts w (List.mem_cons_of_mem _ hw), hlk, hK, Nat.le_refl _, Nat.le_refl _, Nat.zero_le _, Nat.zero_le _⟩ ?_ s.heap [] _ hP hD va_S.rf hl
  intro ws' lv pc r hsame hpost hd H locs ls hP' hD' hS' hl'
  exact W.lret hx hb hr (fun t ht hW => ⟨⟨r, ws', rfl, hpost, by rw [ht]; exact hP', hsame⟩, hS'.F ht⟩) hS'.2.2 hd
theorem mV_of {κ : Kp} {y : MethodName} {cc : ByteArray} {n : Nat} {d : Nat} {As : List Value} {ws : va_W} {post : va_W → Prop} (hy : plainName y.cls = true) (hn : (lg_sl As).length ≤ n)
    (body : ∀ E : gE, Fx E κ cc y.cls n d → (∀ {ws' : va_W} {lv : List (Nat × Value)} {pc : Nat}, sameA ws ws' → post ws' → decode cc pc = .ok (.return_, 1) → G E ws' lv pc []) → G E ws (lv_args 0 As) 0 []) : mV κ y cc n d As ws post := by
  intro l
  refine Met.ofW (cc := cc) (maxL := n) (ret := none) hy rfl ?_
  intro p e s m args below meth c s₁ B hml hv
  obtain ⟨rfl, hP, hD0, hK⟩ := hv
  have hx := B.exec
  have hb := B.bytes
  have hr := B.returns
  have hts := atoms_spec (ws := Cond.code y cc n none :: TG) B.pre
  have hown : s.vm.findClass y.cls = some m.cls := findClass_of_methodNamed B.named
  have hlk := B.notSynchronized
  have hl := lv_entry As (n := n) hn
  have hD : va_D (adr ws) ws := ⟨hD0.1, fun k q hk => ⟨k, q.2, hk⟩⟩
  rw [lg_entry_eq]
  refine body (p, l, e, _, s, m, As.toArray, below, meth, c, κ, adr ws, 0, 0, _, n) ⟨rfl, hx, hb, hml, rfl, hown, fun w hw => hts w (List.mem_cons_of_mem _ hw), hlk, hK, Nat.le_refl _, Nat.le_refl _, Nat.zero_le _, Nat.zero_le _⟩ ?_ s.heap [] _ hP hD va_S.rf hl
  intro ws' lv pc hsame hpost hd H locs ls hP' hD' hS' hl'
  exact W.vret hx hb hr (fun t ht hW => ⟨⟨ws', rfl, hpost, by rw [ht]; exact hP', hsame⟩, hS'.F ht⟩) hS'.2.2 hd
section
variable {E : gE} {κ : Kp} {cc : ByteArray} {own : String} {n dd : Nat} {ws : va_W} {lv lv' : List (Nat × Value)} {pc : Nat} {st : List Value}
theorem g_iconst (F : Fx E κ cc own n dd) {z : Int} (hd : decode cc pc = .ok (.iconst z, 1)) (k : G E ws lv (pc + 1) (.int (iI z) :: st)) : G E ws lv pc st := by
  obtain ⟨p, l, e, R, s, m, args, below, meth, c, κ', A, cells, slots, Q, nL⟩ := E
  obtain ⟨rfl, hx, hb, hml, rfl, hown, hts, hlk, hK, hr1, hr2, hr3, hr4⟩ := F
  intro H locs ls hP hD hS hl
  exact lv_iconst hx hb hd rfl (k H locs ls hP hD hS hl)
theorem g_bipush (F : Fx E κ cc own n dd) {z : Int} (hd : decode cc pc = .ok (.bipush z, 2)) (hv : (Int8.ofInt z).toInt32 = iI z) (k : G E ws lv (pc + 2) (.int (iI z) :: st)) : G E ws lv pc st := by
  obtain ⟨p, l, e, R, s, m, args, below, meth, c, κ', A, cells, slots, Q, nL⟩ := E
  obtain ⟨rfl, hx, hb, hml, rfl, hown, hts, hlk, hK, hr1, hr2, hr3, hr4⟩ := F
  intro H locs ls hP hD hS hl
  exact lv_bipush hx hb hd hv (k H locs ls hP hD hS hl)
theorem g_sipush (F : Fx E κ cc own n dd) {z : Int} (hd : decode cc pc = .ok (.sipush z, 3)) (hv : (Int16.ofInt z).toInt32 = iI z) (k : G E ws lv (pc + 3) (.int (iI z) :: st)) : G E ws lv pc st := by
  obtain ⟨p, l, e, R, s, m, args, below, meth, c, κ', A, cells, slots, Q, nL⟩ := E
  obtain ⟨rfl, hx, hb, hml, rfl, hown, hts, hlk, hK, hr1, hr2, hr3, hr4⟩ := F
  intro H locs ls hP hD hS hl
  exact lv_sipush hx hb hd hv (k H locs ls hP hD hS hl)
theorem g_lconst (F : Fx E κ cc own n dd) {j : Fin 2} {z : Int} (hd : decode cc pc = .ok (.lconst j, 1)) (hz : ((j : Nat) : Int) = z) (k : G E ws lv (pc + 1) (.long (iL z) :: st)) : G E ws lv pc st := by
  obtain ⟨p, l, e, R, s, m, args, below, meth, c, κ', A, cells, slots, Q, nL⟩ := E
  obtain ⟨rfl, hx, hb, hml, rfl, hown, hts, hlk, hK, hr1, hr2, hr3, hr4⟩ := F
  intro H locs ls hP hD hS hl
  subst hz; exact lv_lconst hx hb hd (show Int64.ofNat (j : Nat) = iL ((j : Nat) : Int) from Int64.ofInt_eq_ofNat.symm) (k H locs ls hP hD hS hl)
theorem g_iload_n (F : Fx E κ cc own n dd) {i : Fin 4} {x : Int32} (j : Nat) (hd : decode cc pc = .ok (.iload_n i, 1)) (hj : lv[j]? = some ((i : Nat), .int x)) (k : G E ws lv (pc + 1) (.int x :: st)) : G E ws lv pc st := by
  obtain ⟨p, l, e, R, s, m, args, below, meth, c, κ', A, cells, slots, Q, nL⟩ := E
  obtain ⟨rfl, hx, hb, hml, rfl, hown, hts, hlk, hK, hr1, hr2, hr3, hr4⟩ := F
  intro H locs ls hP hD hS hl
  exact lv_iload_n hx hb hd rfl (lv_at hl j hj) (k H locs ls hP hD hS hl)
theorem g_iload (F : Fx E κ cc own n dd) {i : Nat} {x : Int32} (j : Nat) (hd : decode cc pc = .ok (.iload i, 2)) (hj : lv[j]? = some (i, .int x)) (k : G E ws lv (pc + 2) (.int x :: st)) : G E ws lv pc st := by
  obtain ⟨p, l, e, R, s, m, args, below, meth, c, κ', A, cells, slots, Q, nL⟩ := E
  obtain ⟨rfl, hx, hb, hml, rfl, hown, hts, hlk, hK, hr1, hr2, hr3, hr4⟩ := F
  intro H locs ls hP hD hS hl
  exact lv_iload hx hb hd (lv_at hl j hj) (k H locs ls hP hD hS hl)
theorem g_istore_n (F : Fx E κ cc own n dd) {j : Fin 4} {x : Int32} (i : Nat) (hd : decode cc pc = .ok (.istore_n j, 1)) (hji : (j : Nat) = i) (hi : i < n) (hv : (i, Value.int x) :: lv.filter (fun q => !(q.1 == i) && !(q.1 + 1 == i && q.2.category == 2)) = lv') (k : G E ws lv' (pc + 1) st) : G E ws lv pc (.int x :: st) := by
  obtain ⟨p, l, e, R, s, m, args, below, meth, c, κ', A, cells, slots, Q, nL⟩ := E
  obtain ⟨rfl, hx, hb, hml, rfl, hown, hts, hlk, hK, hr1, hr2, hr3, hr4⟩ := F
  intro H locs ls hP hD hS hl
  subst hji; exact lv_istore_n hx hb hd rfl hl hi hv (fun ls hl => k H locs ls hP hD hS hl)
theorem g_istore (F : Fx E κ cc own n dd) {x : Int32} {i : Nat} (hd : decode cc pc = .ok (.istore i, 2)) (hi : i < n) (hv : (i, Value.int x) :: lv.filter (fun q => !(q.1 == i) && !(q.1 + 1 == i && q.2.category == 2)) = lv') (k : G E ws lv' (pc + 2) st) : G E ws lv pc (.int x :: st) := by
  obtain ⟨p, l, e, R, s, m, args, below, meth, c, κ', A, cells, slots, Q, nL⟩ := E
  obtain ⟨rfl, hx, hb, hml, rfl, hown, hts, hlk, hK, hr1, hr2, hr3, hr4⟩ := F
  intro H locs ls hP hD hS hl
  exact lv_istore hx hb hd hl hi hv (fun ls hl => k H locs ls hP hD hS hl)
theorem g_lload_n (F : Fx E κ cc own n dd) {i : Fin 4} {x : Int64} (j : Nat) (hd : decode cc pc = .ok (.lload_n i, 1)) (hj : lv[j]? = some ((i : Nat), .long x)) (k : G E ws lv (pc + 1) (.long x :: st)) : G E ws lv pc st := by
  obtain ⟨p, l, e, R, s, m, args, below, meth, c, κ', A, cells, slots, Q, nL⟩ := E
  obtain ⟨rfl, hx, hb, hml, rfl, hown, hts, hlk, hK, hr1, hr2, hr3, hr4⟩ := F
  intro H locs ls hP hD hS hl
  exact lv_lload_n hx hb hd rfl (lv_at hl j hj) (k H locs ls hP hD hS hl)
theorem g_lload (F : Fx E κ cc own n dd) {i : Nat} {x : Int64} (j : Nat) (hd : decode cc pc = .ok (.lload i, 2)) (hj : lv[j]? = some (i, .long x)) (k : G E ws lv (pc + 2) (.long x :: st)) : G E ws lv pc st := by
  obtain ⟨p, l, e, R, s, m, args, below, meth, c, κ', A, cells, slots, Q, nL⟩ := E
  obtain ⟨rfl, hx, hb, hml, rfl, hown, hts, hlk, hK, hr1, hr2, hr3, hr4⟩ := F
  intro H locs ls hP hD hS hl
  exact lv_lload hx hb hd (lv_at hl j hj) (k H locs ls hP hD hS hl)
theorem g_lstore_n (F : Fx E κ cc own n dd) {j : Fin 4} {x : Int64} (i : Nat) (hd : decode cc pc = .ok (.lstore_n j, 1)) (hji : (j : Nat) = i) (hi : i + 1 < n) (hv : (i, Value.long x) :: lv.filter (fun q => !(q.1 == i) && (!(q.1 == i + 1) && !(q.1 + 1 == i && q.2.category == 2))) = lv') (k : G E ws lv' (pc + 1) st) : G E ws lv pc (.long x :: st) := by
  obtain ⟨p, l, e, R, s, m, args, below, meth, c, κ', A, cells, slots, Q, nL⟩ := E
  obtain ⟨rfl, hx, hb, hml, rfl, hown, hts, hlk, hK, hr1, hr2, hr3, hr4⟩ := F
  intro H locs ls hP hD hS hl
  subst hji; exact lv_lstore_n hx hb hd rfl hl hi hv (fun ls hl => k H locs ls hP hD hS hl)
theorem g_lstore (F : Fx E κ cc own n dd) {x : Int64} {i : Nat} (hd : decode cc pc = .ok (.lstore i, 2)) (hi : i + 1 < n) (hv : (i, Value.long x) :: lv.filter (fun q => !(q.1 == i) && (!(q.1 == i + 1) && !(q.1 + 1 == i && q.2.category == 2))) = lv') (k : G E ws lv' (pc + 2) st) : G E ws lv pc (.long x :: st) := by
  obtain ⟨p, l, e, R, s, m, args, below, meth, c, κ', A, cells, slots, Q, nL⟩ := E
  obtain ⟨rfl, hx, hb, hml, rfl, hown, hts, hlk, hK, hr1, hr2, hr3, hr4⟩ := F
  intro H locs ls hP hD hS hl
  exact lv_lstore hx hb hd hl hi hv (fun ls hl => k H locs ls hP hD hS hl)
theorem g_aload_n (F : Fx E κ cc own n dd) {i : Fin 4} {x : Nat} (j : Nat) (hd : decode cc pc = .ok (.aload_n i, 1)) (hj : lv[j]? = some ((i : Nat), .ref x)) (k : G E ws lv (pc + 1) (.ref x :: st)) : G E ws lv pc st := by
  obtain ⟨p, l, e, R, s, m, args, below, meth, c, κ', A, cells, slots, Q, nL⟩ := E
  obtain ⟨rfl, hx, hb, hml, rfl, hown, hts, hlk, hK, hr1, hr2, hr3, hr4⟩ := F
  intro H locs ls hP hD hS hl
  exact lv_aload_n hx hb hd rfl (lv_at hl j hj) (k H locs ls hP hD hS hl)
theorem g_aload (F : Fx E κ cc own n dd) {i : Nat} {x : Nat} (j : Nat) (hd : decode cc pc = .ok (.aload i, 2)) (hj : lv[j]? = some (i, .ref x)) (k : G E ws lv (pc + 2) (.ref x :: st)) : G E ws lv pc st := by
  obtain ⟨p, l, e, R, s, m, args, below, meth, c, κ', A, cells, slots, Q, nL⟩ := E
  obtain ⟨rfl, hx, hb, hml, rfl, hown, hts, hlk, hK, hr1, hr2, hr3, hr4⟩ := F
  intro H locs ls hP hD hS hl
  exact lv_aload hx hb hd (lv_at hl j hj) (k H locs ls hP hD hS hl)
theorem g_astore_n (F : Fx E κ cc own n dd) {j : Fin 4} {x : Nat} (i : Nat) (hd : decode cc pc = .ok (.astore_n j, 1)) (hji : (j : Nat) = i) (hi : i < n) (hv : (i, Value.ref x) :: lv.filter (fun q => !(q.1 == i) && !(q.1 + 1 == i && q.2.category == 2)) = lv') (k : G E ws lv' (pc + 1) st) : G E ws lv pc (.ref x :: st) := by
  obtain ⟨p, l, e, R, s, m, args, below, meth, c, κ', A, cells, slots, Q, nL⟩ := E
  obtain ⟨rfl, hx, hb, hml, rfl, hown, hts, hlk, hK, hr1, hr2, hr3, hr4⟩ := F
  intro H locs ls hP hD hS hl
  subst hji; exact lv_astore_n hx hb hd rfl hl hi hv (fun ls hl => k H locs ls hP hD hS hl)
theorem g_astore (F : Fx E κ cc own n dd) {x : Nat} {i : Nat} (hd : decode cc pc = .ok (.astore i, 2)) (hi : i < n) (hv : (i, Value.ref x) :: lv.filter (fun q => !(q.1 == i) && !(q.1 + 1 == i && q.2.category == 2)) = lv') (k : G E ws lv' (pc + 2) st) : G E ws lv pc (.ref x :: st) := by
  obtain ⟨p, l, e, R, s, m, args, below, meth, c, κ', A, cells, slots, Q, nL⟩ := E
  obtain ⟨rfl, hx, hb, hml, rfl, hown, hts, hlk, hK, hr1, hr2, hr3, hr4⟩ := F
  intro H locs ls hP hD hS hl
  exact lv_astore hx hb hd hl hi hv (fun ls hl => k H locs ls hP hD hS hl)
theorem g_iinc (F : Fx E κ cc own n dd) {i : Nat} {z y : Int} (j : Nat) (hd : decode cc pc = .ok (.iinc i z, 3)) (hj : lv[j]? = some (i, .int (iI y))) (hi : i < n) (hv : (i, Value.int (iI (y + z))) :: lv.filter (fun q => !(q.1 == i) && !(q.1 + 1 == i && q.2.category == 2)) = lv') (k : G E ws lv' (pc + 3) st) : G E ws lv pc st := by
  obtain ⟨p, l, e, R, s, m, args, below, meth, c, κ', A, cells, slots, Q, nL⟩ := E
  obtain ⟨rfl, hx, hb, hml, rfl, hown, hts, hlk, hK, hr1, hr2, hr3, hr4⟩ := F
  intro H locs ls hP hD hS hl
  exact lv_iinc hx hb hd hl hj (iI_add y z) hi hv (fun ls hl => k H locs ls hP hD hS hl)
theorem g_iadd (F : Fx E κ cc own n dd) {a b : Int} (hd : decode cc pc = .ok (.iadd, 1)) (k : G E ws lv (pc + 1) (.int (iI (a + b)) :: st)) : G E ws lv pc (.int (iI b) :: .int (iI a) :: st) := by
  obtain ⟨p, l, e, R, s, m, args, below, meth, c, κ', A, cells, slots, Q, nL⟩ := E
  obtain ⟨rfl, hx, hb, hml, rfl, hown, hts, hlk, hK, hr1, hr2, hr3, hr4⟩ := F
  intro H locs ls hP hD hS hl
  exact lv_iadd hx hb hd (by rw [iI_add]; exact k H locs ls hP hD hS hl)
theorem g_ladd (F : Fx E κ cc own n dd) {a b : Int} (hd : decode cc pc = .ok (.ladd, 1)) (k : G E ws lv (pc + 1) (.long (iL (a + b)) :: st)) : G E ws lv pc (.long (iL b) :: .long (iL a) :: st) := by
  obtain ⟨p, l, e, R, s, m, args, below, meth, c, κ', A, cells, slots, Q, nL⟩ := E
  obtain ⟨rfl, hx, hb, hml, rfl, hown, hts, hlk, hK, hr1, hr2, hr3, hr4⟩ := F
  intro H locs ls hP hD hS hl
  exact lv_ladd hx hb hd (by rw [iL_add]; exact k H locs ls hP hD hS hl)
theorem g_isub (F : Fx E κ cc own n dd) {a b : Int} (hd : decode cc pc = .ok (.isub, 1)) (k : G E ws lv (pc + 1) (.int (iI (a - b)) :: st)) : G E ws lv pc (.int (iI b) :: .int (iI a) :: st) := by
  obtain ⟨p, l, e, R, s, m, args, below, meth, c, κ', A, cells, slots, Q, nL⟩ := E
  obtain ⟨rfl, hx, hb, hml, rfl, hown, hts, hlk, hK, hr1, hr2, hr3, hr4⟩ := F
  intro H locs ls hP hD hS hl
  exact lv_isub hx hb hd (by rw [iI_sub]; exact k H locs ls hP hD hS hl)
theorem g_lsub (F : Fx E κ cc own n dd) {a b : Int} (hd : decode cc pc = .ok (.lsub, 1)) (k : G E ws lv (pc + 1) (.long (iL (a - b)) :: st)) : G E ws lv pc (.long (iL b) :: .long (iL a) :: st) := by
  obtain ⟨p, l, e, R, s, m, args, below, meth, c, κ', A, cells, slots, Q, nL⟩ := E
  obtain ⟨rfl, hx, hb, hml, rfl, hown, hts, hlk, hK, hr1, hr2, hr3, hr4⟩ := F
  intro H locs ls hP hD hS hl
  exact lv_lsub hx hb hd (by rw [iL_sub]; exact k H locs ls hP hD hS hl)
theorem g_imul (F : Fx E κ cc own n dd) {a b : Int} (hd : decode cc pc = .ok (.imul, 1)) (k : G E ws lv (pc + 1) (.int (iI (a * b)) :: st)) : G E ws lv pc (.int (iI b) :: .int (iI a) :: st) := by
  obtain ⟨p, l, e, R, s, m, args, below, meth, c, κ', A, cells, slots, Q, nL⟩ := E
  obtain ⟨rfl, hx, hb, hml, rfl, hown, hts, hlk, hK, hr1, hr2, hr3, hr4⟩ := F
  intro H locs ls hP hD hS hl
  exact lv_imul hx hb hd (by rw [iI_mul]; exact k H locs ls hP hD hS hl)
theorem g_lmul (F : Fx E κ cc own n dd) {a b : Int} (hd : decode cc pc = .ok (.lmul, 1)) (k : G E ws lv (pc + 1) (.long (iL (a * b)) :: st)) : G E ws lv pc (.long (iL b) :: .long (iL a) :: st) := by
  obtain ⟨p, l, e, R, s, m, args, below, meth, c, κ', A, cells, slots, Q, nL⟩ := E
  obtain ⟨rfl, hx, hb, hml, rfl, hown, hts, hlk, hK, hr1, hr2, hr3, hr4⟩ := F
  intro H locs ls hP hD hS hl
  exact lv_lmul hx hb hd (by rw [iL_mul]; exact k H locs ls hP hD hS hl)
theorem g_idiv (F : Fx E κ cc own n dd) {a b : Int} (hd : decode cc pc = .ok (.idiv, 1)) (hh : (0 ≤ a ∧ a ≤ 2147483647) ∧ 0 < b ∧ b ≤ 2147483647) (k : G E ws lv (pc + 1) (.int (iI (a / b)) :: st)) : G E ws lv pc (.int (iI b) :: .int (iI a) :: st) := by
  obtain ⟨p, l, e, R, s, m, args, below, meth, c, κ', A, cells, slots, Q, nL⟩ := E
  obtain ⟨rfl, hx, hb, hml, rfl, hown, hts, hlk, hK, hr1, hr2, hr3, hr4⟩ := F
  intro H locs ls hP hD hS hl
  have hne : ¬ iI b = 0 := fun q => by have q2 := congrArg Int32.toInt q; rw [iI_toInt ⟨by omega, by omega⟩] at q2; have q3 : b = 0 := q2; omega
  exact lv_idiv hx hb hd hne (by rw [iI_div hh.1.1 hh.1.2 hh.2.1 hh.2.2]; exact k H locs ls hP hD hS hl)
theorem g_irem (F : Fx E κ cc own n dd) {a b : Int} (hd : decode cc pc = .ok (.irem, 1)) (hh : (0 ≤ a ∧ a ≤ 2147483647) ∧ 0 < b ∧ b ≤ 2147483647) (k : G E ws lv (pc + 1) (.int (iI (a % b)) :: st)) : G E ws lv pc (.int (iI b) :: .int (iI a) :: st) := by
  obtain ⟨p, l, e, R, s, m, args, below, meth, c, κ', A, cells, slots, Q, nL⟩ := E
  obtain ⟨rfl, hx, hb, hml, rfl, hown, hts, hlk, hK, hr1, hr2, hr3, hr4⟩ := F
  intro H locs ls hP hD hS hl
  have hne : ¬ iI b = 0 := fun q => by have q2 := congrArg Int32.toInt q; rw [iI_toInt ⟨by omega, by omega⟩] at q2; have q3 : b = 0 := q2; omega
  exact lv_irem hx hb hd hne (by rw [iI_rem hh.1.1 hh.1.2 hh.2.1 hh.2.2]; exact k H locs ls hP hD hS hl)
theorem g_ldiv (F : Fx E κ cc own n dd) {a b : Int} (hd : decode cc pc = .ok (.ldiv, 1)) (hh : (0 ≤ a ∧ a ≤ 9223372036854775807) ∧ 0 < b ∧ b ≤ 9223372036854775807) (k : G E ws lv (pc + 1) (.long (iL (a / b)) :: st)) : G E ws lv pc (.long (iL b) :: .long (iL a) :: st) := by
  obtain ⟨p, l, e, R, s, m, args, below, meth, c, κ', A, cells, slots, Q, nL⟩ := E
  obtain ⟨rfl, hx, hb, hml, rfl, hown, hts, hlk, hK, hr1, hr2, hr3, hr4⟩ := F
  intro H locs ls hP hD hS hl
  have hne : ¬ iL b = 0 := fun q => by have q2 := congrArg Int64.toInt q; rw [iL_toInt ⟨by omega, by omega⟩] at q2; have q3 : b = 0 := q2; omega
  exact lv_ldiv hx hb hd hne (by rw [iL_div hh.1.1 hh.1.2 hh.2.1 hh.2.2]; exact k H locs ls hP hD hS hl)
theorem g_lrem (F : Fx E κ cc own n dd) {a b : Int} (hd : decode cc pc = .ok (.lrem, 1)) (hh : (0 ≤ a ∧ a ≤ 9223372036854775807) ∧ 0 < b ∧ b ≤ 9223372036854775807) (k : G E ws lv (pc + 1) (.long (iL (a % b)) :: st)) : G E ws lv pc (.long (iL b) :: .long (iL a) :: st) := by
  obtain ⟨p, l, e, R, s, m, args, below, meth, c, κ', A, cells, slots, Q, nL⟩ := E
  obtain ⟨rfl, hx, hb, hml, rfl, hown, hts, hlk, hK, hr1, hr2, hr3, hr4⟩ := F
  intro H locs ls hP hD hS hl
  have hne : ¬ iL b = 0 := fun q => by have q2 := congrArg Int64.toInt q; rw [iL_toInt ⟨by omega, by omega⟩] at q2; have q3 : b = 0 := q2; omega
  exact lv_lrem hx hb hd hne (by rw [iL_rem hh.1.1 hh.1.2 hh.2.1 hh.2.2]; exact k H locs ls hP hD hS hl)
theorem g_ineg (F : Fx E κ cc own n dd) {a : Int} (hd : decode cc pc = .ok (.ineg, 1)) (k : G E ws lv (pc + 1) (.int (iI (-a)) :: st)) : G E ws lv pc (.int (iI a) :: st) := by
  obtain ⟨p, l, e, R, s, m, args, below, meth, c, κ', A, cells, slots, Q, nL⟩ := E
  obtain ⟨rfl, hx, hb, hml, rfl, hown, hts, hlk, hK, hr1, hr2, hr3, hr4⟩ := F
  intro H locs ls hP hD hS hl
  exact lv_ineg hx hb hd (by rw [iI_neg]; exact k H locs ls hP hD hS hl)
theorem g_iand (F : Fx E κ cc own n dd) {x y : Int32} (hd : decode cc pc = .ok (.iand, 1)) (k : G E ws lv (pc + 1) (.int (x &&& y) :: st)) : G E ws lv pc (.int y :: .int x :: st) := by
  obtain ⟨p, l, e, R, s, m, args, below, meth, c, κ', A, cells, slots, Q, nL⟩ := E
  obtain ⟨rfl, hx, hb, hml, rfl, hown, hts, hlk, hK, hr1, hr2, hr3, hr4⟩ := F
  intro H locs ls hP hD hS hl
  exact lv_iand hx hb hd (k H locs ls hP hD hS hl)
theorem g_ior (F : Fx E κ cc own n dd) {x y : Int32} (hd : decode cc pc = .ok (.ior, 1)) (k : G E ws lv (pc + 1) (.int (x ||| y) :: st)) : G E ws lv pc (.int y :: .int x :: st) := by
  obtain ⟨p, l, e, R, s, m, args, below, meth, c, κ', A, cells, slots, Q, nL⟩ := E
  obtain ⟨rfl, hx, hb, hml, rfl, hown, hts, hlk, hK, hr1, hr2, hr3, hr4⟩ := F
  intro H locs ls hP hD hS hl
  exact lv_ior hx hb hd (k H locs ls hP hD hS hl)
theorem g_ixor (F : Fx E κ cc own n dd) {x y : Int32} (hd : decode cc pc = .ok (.ixor, 1)) (k : G E ws lv (pc + 1) (.int (x ^^^ y) :: st)) : G E ws lv pc (.int y :: .int x :: st) := by
  obtain ⟨p, l, e, R, s, m, args, below, meth, c, κ', A, cells, slots, Q, nL⟩ := E
  obtain ⟨rfl, hx, hb, hml, rfl, hown, hts, hlk, hK, hr1, hr2, hr3, hr4⟩ := F
  intro H locs ls hP hD hS hl
  exact lv_ixor hx hb hd (k H locs ls hP hD hS hl)
theorem g_ishl (F : Fx E κ cc own n dd) {x y : Int32} (hd : decode cc pc = .ok (.ishl, 1)) (k : G E ws lv (pc + 1) (.int (x <<< (y &&& 31)) :: st)) : G E ws lv pc (.int y :: .int x :: st) := by
  obtain ⟨p, l, e, R, s, m, args, below, meth, c, κ', A, cells, slots, Q, nL⟩ := E
  obtain ⟨rfl, hx, hb, hml, rfl, hown, hts, hlk, hK, hr1, hr2, hr3, hr4⟩ := F
  intro H locs ls hP hD hS hl
  exact lv_ishl hx hb hd (k H locs ls hP hD hS hl)
theorem g_ishr (F : Fx E κ cc own n dd) {x y : Int32} (hd : decode cc pc = .ok (.ishr, 1)) (k : G E ws lv (pc + 1) (.int (x >>> (y &&& 31)) :: st)) : G E ws lv pc (.int y :: .int x :: st) := by
  obtain ⟨p, l, e, R, s, m, args, below, meth, c, κ', A, cells, slots, Q, nL⟩ := E
  obtain ⟨rfl, hx, hb, hml, rfl, hown, hts, hlk, hK, hr1, hr2, hr3, hr4⟩ := F
  intro H locs ls hP hD hS hl
  exact lv_ishr hx hb hd (k H locs ls hP hD hS hl)
theorem g_iushr (F : Fx E κ cc own n dd) {x y : Int32} (hd : decode cc pc = .ok (.iushr, 1)) (k : G E ws lv (pc + 1) (.int ((x.toUInt32 >>> (y.toUInt32 &&& Int32.toUInt32 31)).toInt32) :: st)) : G E ws lv pc (.int y :: .int x :: st) := by
  obtain ⟨p, l, e, R, s, m, args, below, meth, c, κ', A, cells, slots, Q, nL⟩ := E
  obtain ⟨rfl, hx, hb, hml, rfl, hown, hts, hlk, hK, hr1, hr2, hr3, hr4⟩ := F
  intro H locs ls hP hD hS hl
  exact lv_iushr hx hb hd rfl (k H locs ls hP hD hS hl)
theorem g_iaddR (F : Fx E κ cc own n dd) {x y : Int32} (hd : decode cc pc = .ok (.iadd, 1)) (k : G E ws lv (pc + 1) (.int (x + y) :: st)) : G E ws lv pc (.int y :: .int x :: st) := by
  obtain ⟨p, l, e, R, s, m, args, below, meth, c, κ', A, cells, slots, Q, nL⟩ := E
  obtain ⟨rfl, hx, hb, hml, rfl, hown, hts, hlk, hK, hr1, hr2, hr3, hr4⟩ := F
  intro H locs ls hP hD hS hl
  exact lv_iadd hx hb hd (k H locs ls hP hD hS hl)
theorem g_isubR (F : Fx E κ cc own n dd) {x y : Int32} (hd : decode cc pc = .ok (.isub, 1)) (k : G E ws lv (pc + 1) (.int (x - y) :: st)) : G E ws lv pc (.int y :: .int x :: st) := by
  obtain ⟨p, l, e, R, s, m, args, below, meth, c, κ', A, cells, slots, Q, nL⟩ := E
  obtain ⟨rfl, hx, hb, hml, rfl, hown, hts, hlk, hK, hr1, hr2, hr3, hr4⟩ := F
  intro H locs ls hP hD hS hl
  exact lv_isub hx hb hd (k H locs ls hP hD hS hl)
theorem g_top {x y : Int32} (h : x = y) (k : G E ws lv pc (.int y :: st)) : G E ws lv pc (.int x :: st) := h ▸ k
theorem g_topL {x y : Int64} (h : x = y) (k : G E ws lv pc (.long y :: st)) : G E ws lv pc (.long x :: st) := h ▸ k
theorem g_ws {ws' : va_W} (h : ws = ws') (k : G E ws' lv pc st) : G E ws lv pc st := h ▸ k
theorem g_st {st' : List Value} (h : st = st') (k : G E ws lv pc st') : G E ws lv pc st := h ▸ k
theorem g_lv (h : lv = lv') (k : G E ws lv' pc st) : G E ws lv pc st := h ▸ k
theorem g_sub (F : Fx E κ cc own n dd) (ks : List Nat) (h : lv_pick lv ks = lv') (k : G E ws lv' pc st) : G E ws lv pc st := by
  obtain ⟨p, l, e, R, s, m, args, below, meth, c, κ', A, cells, slots, Q, nL⟩ := E
  obtain ⟨rfl, hx, hb, hml, rfl, hown, hts, hlk, hK, hr1, hr2, hr3, hr4⟩ := F
  intro H locs ls hP hD hS hl
  exact k H locs ls hP hD hS (lv_sub hl ks h)
theorem g_goto (F : Fx E κ cc own n dd) {off : Int} (tgt : Nat) (hd : decode cc pc = .ok (.goto off, 3)) (ht : (pc : Int) + off = (tgt : Int)) (k : G E ws lv tgt st) : G E ws lv pc st := by
  obtain ⟨p, l, e, R, s, m, args, below, meth, c, κ', A, cells, slots, Q, nL⟩ := E
  obtain ⟨rfl, hx, hb, hml, rfl, hown, hts, hlk, hK, hr1, hr2, hr3, hr4⟩ := F
  intro H locs ls hP hD hS hl
  exact lv_goto hx hb hd ht (k H locs ls hP hD hS hl)
theorem g_if_eq (F : Fx E κ cc own n dd) {z off : Int} (tgt : Nat) (hz : In32 z) (hd : decode cc pc = .ok (.ifCond .eq off, 3)) (ht : (pc : Int) + off = (tgt : Int)) (kt : z = 0 → G E ws lv tgt st) (kf : z ≠ 0 → G E ws lv (pc + 3) st) : G E ws lv pc (.int (iI z) :: st) := by
  obtain ⟨p, l, e, R, s, m, args, below, meth, c, κ', A, cells, slots, Q, nL⟩ := E
  obtain ⟨rfl, hx, hb, hml, rfl, hown, hts, hlk, hK, hr1, hr2, hr3, hr4⟩ := F
  intro H locs ls hP hD hS hl
  have e := iI_eq hz (by decide : In32 0)
  rw [iI_z] at e
  exact lv_if_eq hx hb hd ht (fun q => kt (by exact e.mp q) H locs ls hP hD hS hl) (fun q => kf (by exact fun z0 => q (e.mpr z0)) H locs ls hP hD hS hl)
theorem g_if_ne (F : Fx E κ cc own n dd) {z off : Int} (tgt : Nat) (hz : In32 z) (hd : decode cc pc = .ok (.ifCond .ne off, 3)) (ht : (pc : Int) + off = (tgt : Int)) (kt : z ≠ 0 → G E ws lv tgt st) (kf : z = 0 → G E ws lv (pc + 3) st) : G E ws lv pc (.int (iI z) :: st) := by
  obtain ⟨p, l, e, R, s, m, args, below, meth, c, κ', A, cells, slots, Q, nL⟩ := E
  obtain ⟨rfl, hx, hb, hml, rfl, hown, hts, hlk, hK, hr1, hr2, hr3, hr4⟩ := F
  intro H locs ls hP hD hS hl
  have e := iI_eq hz (by decide : In32 0)
  rw [iI_z] at e
  exact lv_if_ne hx hb hd ht (fun q => kt (by exact fun z0 => q (e.mpr z0)) H locs ls hP hD hS hl) (fun q => kf (by exact e.mp q) H locs ls hP hD hS hl)
theorem g_if_lt (F : Fx E κ cc own n dd) {z off : Int} (tgt : Nat) (hz : In32 z) (hd : decode cc pc = .ok (.ifCond .lt off, 3)) (ht : (pc : Int) + off = (tgt : Int)) (kt : z < 0 → G E ws lv tgt st) (kf : 0 ≤ z → G E ws lv (pc + 3) st) : G E ws lv pc (.int (iI z) :: st) := by
  obtain ⟨p, l, e, R, s, m, args, below, meth, c, κ', A, cells, slots, Q, nL⟩ := E
  obtain ⟨rfl, hx, hb, hml, rfl, hown, hts, hlk, hK, hr1, hr2, hr3, hr4⟩ := F
  intro H locs ls hP hD hS hl
  have e := iI_lt hz (by decide : In32 0)
  rw [iI_z] at e
  exact lv_if_lt hx hb hd ht (fun q => kt (by exact e.mp q) H locs ls hP hD hS hl) (fun q => kf (by have q2 : ¬ (z < 0) := fun z0 => q (e.mpr z0); omega) H locs ls hP hD hS hl)
theorem g_if_ge (F : Fx E κ cc own n dd) {z off : Int} (tgt : Nat) (hz : In32 z) (hd : decode cc pc = .ok (.ifCond .ge off, 3)) (ht : (pc : Int) + off = (tgt : Int)) (kt : 0 ≤ z → G E ws lv tgt st) (kf : z < 0 → G E ws lv (pc + 3) st) : G E ws lv pc (.int (iI z) :: st) := by
  obtain ⟨p, l, e, R, s, m, args, below, meth, c, κ', A, cells, slots, Q, nL⟩ := E
  obtain ⟨rfl, hx, hb, hml, rfl, hown, hts, hlk, hK, hr1, hr2, hr3, hr4⟩ := F
  intro H locs ls hP hD hS hl
  have e := iI_le (by decide : In32 0) hz
  rw [iI_z] at e
  exact lv_if_ge hx hb hd ht (fun q => kt (by exact e.mp q) H locs ls hP hD hS hl) (fun q => kf (by have q2 : ¬ (0 ≤ z) := fun z0 => q (e.mpr z0); omega) H locs ls hP hD hS hl)
theorem g_if_gt (F : Fx E κ cc own n dd) {z off : Int} (tgt : Nat) (hz : In32 z) (hd : decode cc pc = .ok (.ifCond .gt off, 3)) (ht : (pc : Int) + off = (tgt : Int)) (kt : 0 < z → G E ws lv tgt st) (kf : z ≤ 0 → G E ws lv (pc + 3) st) : G E ws lv pc (.int (iI z) :: st) := by
  obtain ⟨p, l, e, R, s, m, args, below, meth, c, κ', A, cells, slots, Q, nL⟩ := E
  obtain ⟨rfl, hx, hb, hml, rfl, hown, hts, hlk, hK, hr1, hr2, hr3, hr4⟩ := F
  intro H locs ls hP hD hS hl
  have e := iI_lt (by decide : In32 0) hz
  rw [iI_z] at e
  exact lv_if_gt hx hb hd ht (fun q => kt (by exact e.mp q) H locs ls hP hD hS hl) (fun q => kf (by have q2 : ¬ (0 < z) := fun z0 => q (e.mpr z0); omega) H locs ls hP hD hS hl)
theorem g_if_le (F : Fx E κ cc own n dd) {z off : Int} (tgt : Nat) (hz : In32 z) (hd : decode cc pc = .ok (.ifCond .le off, 3)) (ht : (pc : Int) + off = (tgt : Int)) (kt : z ≤ 0 → G E ws lv tgt st) (kf : 0 < z → G E ws lv (pc + 3) st) : G E ws lv pc (.int (iI z) :: st) := by
  obtain ⟨p, l, e, R, s, m, args, below, meth, c, κ', A, cells, slots, Q, nL⟩ := E
  obtain ⟨rfl, hx, hb, hml, rfl, hown, hts, hlk, hK, hr1, hr2, hr3, hr4⟩ := F
  intro H locs ls hP hD hS hl
  have e := iI_le hz (by decide : In32 0)
  rw [iI_z] at e
  exact lv_if_le hx hb hd ht (fun q => kt (by exact e.mp q) H locs ls hP hD hS hl) (fun q => kf (by have q2 : ¬ (z ≤ 0) := fun z0 => q (e.mpr z0); omega) H locs ls hP hD hS hl)
theorem g_icmp_eq (F : Fx E κ cc own n dd) {a b off : Int} (tgt : Nat) (hz : In32 a ∧ In32 b) (hd : decode cc pc = .ok (.if_icmp .eq off, 3)) (ht : (pc : Int) + off = (tgt : Int)) (kt : a = b → G E ws lv tgt st) (kf : a ≠ b → G E ws lv (pc + 3) st) : G E ws lv pc (.int (iI b) :: .int (iI a) :: st) := by
  obtain ⟨p, l, e, R, s, m, args, below, meth, c, κ', A, cells, slots, Q, nL⟩ := E
  obtain ⟨rfl, hx, hb, hml, rfl, hown, hts, hlk, hK, hr1, hr2, hr3, hr4⟩ := F
  intro H locs ls hP hD hS hl
  have e := iI_eq hz.1 hz.2
  exact lv_icmp_eq hx hb hd ht (fun q => kt (by exact e.mp q) H locs ls hP hD hS hl) (fun q => kf (by exact fun z0 => q (e.mpr z0)) H locs ls hP hD hS hl)
theorem g_icmp_ne (F : Fx E κ cc own n dd) {a b off : Int} (tgt : Nat) (hz : In32 a ∧ In32 b) (hd : decode cc pc = .ok (.if_icmp .ne off, 3)) (ht : (pc : Int) + off = (tgt : Int)) (kt : a ≠ b → G E ws lv tgt st) (kf : a = b → G E ws lv (pc + 3) st) : G E ws lv pc (.int (iI b) :: .int (iI a) :: st) := by
  obtain ⟨p, l, e, R, s, m, args, below, meth, c, κ', A, cells, slots, Q, nL⟩ := E
  obtain ⟨rfl, hx, hb, hml, rfl, hown, hts, hlk, hK, hr1, hr2, hr3, hr4⟩ := F
  intro H locs ls hP hD hS hl
  have e := iI_eq hz.1 hz.2
  exact lv_icmp_ne hx hb hd ht (fun q => kt (by exact fun z0 => q (e.mpr z0)) H locs ls hP hD hS hl) (fun q => kf (by exact e.mp q) H locs ls hP hD hS hl)
theorem g_icmp_lt (F : Fx E κ cc own n dd) {a b off : Int} (tgt : Nat) (hz : In32 a ∧ In32 b) (hd : decode cc pc = .ok (.if_icmp .lt off, 3)) (ht : (pc : Int) + off = (tgt : Int)) (kt : a < b → G E ws lv tgt st) (kf : b ≤ a → G E ws lv (pc + 3) st) : G E ws lv pc (.int (iI b) :: .int (iI a) :: st) := by
  obtain ⟨p, l, e, R, s, m, args, below, meth, c, κ', A, cells, slots, Q, nL⟩ := E
  obtain ⟨rfl, hx, hb, hml, rfl, hown, hts, hlk, hK, hr1, hr2, hr3, hr4⟩ := F
  intro H locs ls hP hD hS hl
  have e := iI_lt hz.1 hz.2
  exact lv_icmp_lt hx hb hd ht (fun q => kt (by exact e.mp q) H locs ls hP hD hS hl) (fun q => kf (by have q2 : ¬ (a < b) := fun z0 => q (e.mpr z0); omega) H locs ls hP hD hS hl)
theorem g_icmp_ge (F : Fx E κ cc own n dd) {a b off : Int} (tgt : Nat) (hz : In32 a ∧ In32 b) (hd : decode cc pc = .ok (.if_icmp .ge off, 3)) (ht : (pc : Int) + off = (tgt : Int)) (kt : b ≤ a → G E ws lv tgt st) (kf : a < b → G E ws lv (pc + 3) st) : G E ws lv pc (.int (iI b) :: .int (iI a) :: st) := by
  obtain ⟨p, l, e, R, s, m, args, below, meth, c, κ', A, cells, slots, Q, nL⟩ := E
  obtain ⟨rfl, hx, hb, hml, rfl, hown, hts, hlk, hK, hr1, hr2, hr3, hr4⟩ := F
  intro H locs ls hP hD hS hl
  have e := iI_le hz.2 hz.1
  exact lv_icmp_ge hx hb hd ht (fun q => kt (by exact e.mp q) H locs ls hP hD hS hl) (fun q => kf (by have q2 : ¬ (b ≤ a) := fun z0 => q (e.mpr z0); omega) H locs ls hP hD hS hl)
theorem g_icmp_gt (F : Fx E κ cc own n dd) {a b off : Int} (tgt : Nat) (hz : In32 a ∧ In32 b) (hd : decode cc pc = .ok (.if_icmp .gt off, 3)) (ht : (pc : Int) + off = (tgt : Int)) (kt : b < a → G E ws lv tgt st) (kf : a ≤ b → G E ws lv (pc + 3) st) : G E ws lv pc (.int (iI b) :: .int (iI a) :: st) := by
  obtain ⟨p, l, e, R, s, m, args, below, meth, c, κ', A, cells, slots, Q, nL⟩ := E
  obtain ⟨rfl, hx, hb, hml, rfl, hown, hts, hlk, hK, hr1, hr2, hr3, hr4⟩ := F
  intro H locs ls hP hD hS hl
  have e := iI_lt hz.2 hz.1
  exact lv_icmp_gt hx hb hd ht (fun q => kt (by exact e.mp q) H locs ls hP hD hS hl) (fun q => kf (by have q2 : ¬ (b < a) := fun z0 => q (e.mpr z0); omega) H locs ls hP hD hS hl)
theorem g_icmp_le (F : Fx E κ cc own n dd) {a b off : Int} (tgt : Nat) (hz : In32 a ∧ In32 b) (hd : decode cc pc = .ok (.if_icmp .le off, 3)) (ht : (pc : Int) + off = (tgt : Int)) (kt : a ≤ b → G E ws lv tgt st) (kf : b < a → G E ws lv (pc + 3) st) : G E ws lv pc (.int (iI b) :: .int (iI a) :: st) := by
  obtain ⟨p, l, e, R, s, m, args, below, meth, c, κ', A, cells, slots, Q, nL⟩ := E
  obtain ⟨rfl, hx, hb, hml, rfl, hown, hts, hlk, hK, hr1, hr2, hr3, hr4⟩ := F
  intro H locs ls hP hD hS hl
  have e := iI_le hz.1 hz.2
  exact lv_icmp_le hx hb hd ht (fun q => kt (by exact e.mp q) H locs ls hP hD hS hl) (fun q => kf (by have q2 : ¬ (a ≤ b) := fun z0 => q (e.mpr z0); omega) H locs ls hP hD hS hl)
theorem g_if_eqR (F : Fx E κ cc own n dd) {x : Int32} {off : Int} (tgt : Nat) (hd : decode cc pc = .ok (.ifCond .eq off, 3)) (ht : (pc : Int) + off = (tgt : Int)) (kt : x = 0 → G E ws lv tgt st) (kf : ¬ x = 0 → G E ws lv (pc + 3) st) : G E ws lv pc (.int x :: st) := by
  obtain ⟨p, l, e, R, s, m, args, below, meth, c, κ', A, cells, slots, Q, nL⟩ := E
  obtain ⟨rfl, hx, hb, hml, rfl, hown, hts, hlk, hK, hr1, hr2, hr3, hr4⟩ := F
  intro H locs ls hP hD hS hl
  exact lv_if_eq hx hb hd ht (fun q => kt q H locs ls hP hD hS hl) (fun q => kf q H locs ls hP hD hS hl)
theorem g_if_neR (F : Fx E κ cc own n dd) {x : Int32} {off : Int} (tgt : Nat) (hd : decode cc pc = .ok (.ifCond .ne off, 3)) (ht : (pc : Int) + off = (tgt : Int)) (kt : ¬ x = 0 → G E ws lv tgt st) (kf : x = 0 → G E ws lv (pc + 3) st) : G E ws lv pc (.int x :: st) := by
  obtain ⟨p, l, e, R, s, m, args, below, meth, c, κ', A, cells, slots, Q, nL⟩ := E
  obtain ⟨rfl, hx, hb, hml, rfl, hown, hts, hlk, hK, hr1, hr2, hr3, hr4⟩ := F
  intro H locs ls hP hD hS hl
  exact lv_if_ne hx hb hd ht (fun q => kt q H locs ls hP hD hS hl) (fun q => kf q H locs ls hP hD hS hl)
theorem g_tsw_in (F : Fx E κ cc own n dd) {z dflt lo hi off : Int} {offs : Array Int} {len : Nat} (tgt : Nat) (hz : In32 z) (hd : decode cc pc = .ok (.tableswitch dflt lo hi offs, len)) (h1 : lo ≤ z) (h2 : z ≤ hi) (ho : offs[(z - lo).toNat]? = some off) (ht : (pc : Int) + off = (tgt : Int)) (k : G E ws lv tgt st) : G E ws lv pc (.int (iI z) :: st) := by
  obtain ⟨p, l, e, R, s, m, args, below, meth, c, κ', A, cells, slots, Q, nL⟩ := E
  obtain ⟨rfl, hx, hb, hml, rfl, hown, hts, hlk, hK, hr1, hr2, hr3, hr4⟩ := F
  intro H locs ls hP hD hS hl
  exact lv_tableIn hx hb hd (by rw [iI_toInt hz]; omega) (by rw [iI_toInt hz]; omega) (by rw [iI_toInt hz]; exact ho) ht (k H locs ls hP hD hS hl)
theorem g_tsw_out (F : Fx E κ cc own n dd) {z dflt lo hi : Int} {offs : Array Int} {len : Nat} (tgt : Nat) (hz : In32 z) (hd : decode cc pc = .ok (.tableswitch dflt lo hi offs, len)) (h1 : z < lo ∨ hi < z) (ht : (pc : Int) + dflt = (tgt : Int)) (k : G E ws lv tgt st) : G E ws lv pc (.int (iI z) :: st) := by
  obtain ⟨p, l, e, R, s, m, args, below, meth, c, κ', A, cells, slots, Q, nL⟩ := E
  obtain ⟨rfl, hx, hb, hml, rfl, hown, hts, hlk, hK, hr1, hr2, hr3, hr4⟩ := F
  intro H locs ls hP hD hS hl
  exact lv_tableOut hx hb hd (by rw [iI_toInt hz]; exact h1) ht (k H locs ls hP hD hS hl)
theorem g_lsw (F : Fx E κ cc own n dd) {z dflt off : Int} {ps : Array (Int × Int)} {len : Nat} (tgt : Nat) (hz : In32 z) (hd : decode cc pc = .ok (.lookupswitch dflt ps, len)) (hp : (ps.toList.zip (ps.toList.drop 1)).all (fun (a, next) => a.1 < next.1) = true) (ho : Op.lookupswitch.offset ps.toList dflt z = off) (ht : (pc : Int) + off = (tgt : Int)) (k : G E ws lv tgt st) : G E ws lv pc (.int (iI z) :: st) := by
  obtain ⟨p, l, e, R, s, m, args, below, meth, c, κ', A, cells, slots, Q, nL⟩ := E
  obtain ⟨rfl, hx, hb, hml, rfl, hown, hts, hlk, hK, hr1, hr2, hr3, hr4⟩ := F
  intro H locs ls hP hD hS hl
  exact lv_lookup hx hb hd hp (by rw [iI_toInt hz]; exact ho) ht (k H locs ls hP hD hS hl)
theorem g_dup (F : Fx E κ cc own n dd) {v : Value} (hd : decode cc pc = .ok (.dup, 1)) (hv : v.category = 1) (k : G E ws lv (pc + 1) (v :: v :: st)) : G E ws lv pc (v :: st) := by
  obtain ⟨p, l, e, R, s, m, args, below, meth, c, κ', A, cells, slots, Q, nL⟩ := E
  obtain ⟨rfl, hx, hb, hml, rfl, hown, hts, hlk, hK, hr1, hr2, hr3, hr4⟩ := F
  intro H locs ls hP hD hS hl
  exact lv_dup hx hb hd hv (k H locs ls hP hD hS hl)
theorem g_dup2 (F : Fx E κ cc own n dd) {v w : Value} (hd : decode cc pc = .ok (.dup2, 1)) (hv : v.category = 1) (hw : w.category = 1) (k : G E ws lv (pc + 1) (v :: w :: v :: w :: st)) : G E ws lv pc (v :: w :: st) := by
  obtain ⟨p, l, e, R, s, m, args, below, meth, c, κ', A, cells, slots, Q, nL⟩ := E
  obtain ⟨rfl, hx, hb, hml, rfl, hown, hts, hlk, hK, hr1, hr2, hr3, hr4⟩ := F
  intro H locs ls hP hD hS hl
  exact lv_dup2_11 hx hb hd hv hw (k H locs ls hP hD hS hl)
theorem g_pop (F : Fx E κ cc own n dd) {v : Value} (hd : decode cc pc = .ok (.pop, 1)) (hv : v.category = 1) (k : G E ws lv (pc + 1) st) : G E ws lv pc (v :: st) := by
  obtain ⟨p, l, e, R, s, m, args, below, meth, c, κ', A, cells, slots, Q, nL⟩ := E
  obtain ⟨rfl, hx, hb, hml, rfl, hown, hts, hlk, hK, hr1, hr2, hr3, hr4⟩ := F
  intro H locs ls hP hD hS hl
  exact lv_pop hx hb hd hv (k H locs ls hP hD hS hl)
theorem g_ldc (F : Fx E κ cc own n dd) {idx : Nat} {v : Int32} {z : Int} (hc : Cond.constant own idx v ∈ TG) (hv : v = iI z) (hd : decode cc pc = .ok (.ldc idx, 2)) (k : G E ws lv (pc + 2) (.int (iI z) :: st)) : G E ws lv pc st := by
  obtain ⟨p, l, e, R, s, m, args, below, meth, c, κ', A, cells, slots, Q, nL⟩ := E
  obtain ⟨rfl, hx, hb, hml, rfl, hown, hts, hlk, hK, hr1, hr2, hr3, hr4⟩ := F
  intro H locs ls hP hD hS hl
  subst hv; exact lv_ldc hx hb hown (hts _ hc) hd (k H locs ls hP hD hS hl)
theorem g_ldcw (F : Fx E κ cc own n dd) {idx : Nat} {v : Int32} {z : Int} (hc : Cond.constant own idx v ∈ TG) (hv : v = iI z) (hd : decode cc pc = .ok (.ldc_w idx, 3)) (k : G E ws lv (pc + 3) (.int (iI z) :: st)) : G E ws lv pc st := by
  obtain ⟨p, l, e, R, s, m, args, below, meth, c, κ', A, cells, slots, Q, nL⟩ := E
  obtain ⟨rfl, hx, hb, hml, rfl, hown, hts, hlk, hK, hr1, hr2, hr3, hr4⟩ := F
  intro H locs ls hP hD hS hl
  subst hv; exact lv_ldcw hx hb hown (hts _ hc) hd (k H locs ls hP hD hS hl)
theorem g_ldc2 (F : Fx E κ cc own n dd) {idx : Nat} {v : Int64} {z : Int} (hc : Cond.constantLong own idx v ∈ TG) (hv : v = iL z) (hd : decode cc pc = .ok (.ldc2_w idx, 3)) (k : G E ws lv (pc + 3) (.long (iL z) :: st)) : G E ws lv pc st := by
  obtain ⟨p, l, e, R, s, m, args, below, meth, c, κ', A, cells, slots, Q, nL⟩ := E
  obtain ⟨rfl, hx, hb, hml, rfl, hown, hts, hlk, hK, hr1, hr2, hr3, hr4⟩ := F
  intro H locs ls hP hD hS hl
  subst hv; exact lv_ldc2 hx hb hown (hts _ hc) hd (k H locs ls hP hD hS hl)
theorem g_i2l (F : Fx E κ cc own n dd) {z : Int} (hz : In32 z) (hd : decode cc pc = .ok (.i2l, 1)) (k : G E ws lv (pc + 1) (.long (iL z) :: st)) : G E ws lv pc (.int (iI z) :: st) := by
  obtain ⟨p, l, e, R, s, m, args, below, meth, c, κ', A, cells, slots, Q, nL⟩ := E
  obtain ⟨rfl, hx, hb, hml, rfl, hown, hts, hlk, hK, hr1, hr2, hr3, hr4⟩ := F
  intro H locs ls hP hD hS hl
  exact lv_i2l hx hb hd (iI_long hz) (k H locs ls hP hD hS hl)
def icmp (a b : Int) : Int := if b < a then 1 else if a = b then 0 else -1
theorem lg_cmp_iL {a b : Int} (ha : In64 a) (hb : In64 b) : lg_cmp (iL a) (iL b) = iI (icmp a b) := by
  unfold lg_cmp icmp
  by_cases h1 : b < a
  · rw [if_pos (show iL a > iL b from (iL_lt hb ha).mpr h1), if_pos h1]; decide +kernel
  · rw [if_neg (show ¬ iL a > iL b from fun q => h1 ((iL_lt hb ha).mp q)), if_neg h1]
    by_cases h2 : a = b
    · rw [if_pos ((iL_eq ha hb).mpr h2), if_pos h2]; decide +kernel
    · rw [if_neg (fun q => h2 ((iL_eq ha hb).mp q)), if_neg h2]; decide +kernel
theorem g_lcmp (F : Fx E κ cc own n dd) {a b : Int} (hz : In64 a ∧ In64 b) (hd : decode cc pc = .ok (.lcmp, 1)) (k : G E ws lv (pc + 1) (.int (iI (icmp a b)) :: st)) : G E ws lv pc (.long (iL b) :: .long (iL a) :: st) := by
  obtain ⟨p, l, e, R, s, m, args, below, meth, c, κ', A, cells, slots, Q, nL⟩ := E
  obtain ⟨rfl, hx, hb, hml, rfl, hown, hts, hlk, hK, hr1, hr2, hr3, hr4⟩ := F
  intro H locs ls hP hD hS hl
  exact W.lcmp hx hb hd (by rw [lg_cmp_iL hz.1 hz.2]; exact k H locs ls hP hD hS hl)
theorem g_get (F : Fx E κ cc own n dd) {a ci : Nat} {fs : List Value} (q0 : Nat) (he : ws[q0]? = some (a, .inr (ci, fs))) {C : String} {T : u_T} {N : Nat} (hc : vwCl[ci]? = some (C, T, N)) (hin : ∀ w ∈ u_ws C T N, w ∈ TG) (j : Nat) (hj : j < N) {idx : Nat} (hli : Cond.fieldLink own idx (T j).1 (T j).2.1 (T j).2.2.1 ∈ TG) {v : Value} (hv : fs[j]? = some v) (hd : decode cc pc = .ok (.getfield idx, 3)) (k : G E ws lv (pc + 3) (v :: st)) : G E ws lv pc (.ref a :: st) := by
  obtain ⟨p, l, e, R, s, m, args, below, meth, c, κ', A, cells, slots, Q, nL⟩ := E
  obtain ⟨rfl, hx, hb, hml, rfl, hown, hts, hlk, hK, hr1, hr2, hr3, hr4⟩ := F
  intro H locs ls hP hD hS hl
  exact va_get hx hb hts hin hown hK.1 hP q0 he hc j hj (hts _ hli) (fun _ h9 => h9) hv hd (k H locs ls hP hD hS hl)
theorem g_getN (F : Fx E κ cc own n dd) {a ci : Nat} {fs : List Value} (q0 : Nat) (he : ws[q0]? = some (a, .inr (ci, fs))) {C : String} {T : u_T} {N : Nat} (hc : vwCl[ci]? = some (C, T, N)) (hin : ∀ w ∈ u_ws C T N, w ∈ TG) (j : Nat) (hj : j < N) {idx : Nat} {host : String} (hli : Cond.fieldLinkNest own idx (T j).1 (T j).2.1 (T j).2.2.1 host ∈ NWl) {v : Value} (hv : fs[j]? = some v) (hd : decode cc pc = .ok (.getfield idx, 3)) (k : G E ws lv (pc + 3) (v :: st)) : G E ws lv pc (.ref a :: st) := by
  obtain ⟨p, l, e, R, s, m, args, below, meth, c, κ', A, cells, slots, Q, nL⟩ := E
  obtain ⟨rfl, hx, hb, hml, rfl, hown, hts, hlk, hK, hr1, hr2, hr3, hr4⟩ := F
  intro H locs ls hP hD hS hl
  exact va_getN hx hb hts hin hown hK.1 hP q0 he hc j hj (va_Nw.use rfl (hK.2.1 _ hli)) (fun _ h9 => h9) hv hd (k H locs ls hP hD hS hl)
theorem g_put (F : Fx E κ cc own n dd) {a ci : Nat} {fs : List Value} {ws' : va_W} (q0 : Nat) (he : ws[q0]? = some (a, .inr (ci, fs))) {C : String} {T : u_T} {N : Nat} (hc : vwCl[ci]? = some (C, T, N)) (hin : ∀ w ∈ u_ws C T N, w ∈ TG) (ty0 : Nat → FieldType) (hty : ∀ k, k < N → parseFieldDescriptor (T k).2.2.1 = some (ty0 k)) (hnm : ∀ a, a < N → ∀ b, b < N → a ≠ b → (T a).2.1 ≠ (T b).2.1) (j : Nat) (hj : j < N) {idx : Nat} (hli : Cond.fieldLink own idx (T j).1 (T j).2.1 (T j).2.2.1 ∈ TG) (hfin : (T j).2.2.2 = false) {v : Value} (hn : narrow (ty0 j) v = v) (hfit : fits (ty0 j) v = true) (hlen : j < fs.length) (hw : ws.set q0 (a, .inr (ci, fs.set j v)) = ws') (hd : decode cc pc = .ok (.putfield idx, 3)) (k : G E ws' lv (pc + 3) st) : G E ws lv pc (v :: .ref a :: st) := by
  obtain ⟨p, l, e, R, s, m, args, below, meth, c, κ', A, cells, slots, Q, nL⟩ := E
  obtain ⟨rfl, hx, hb, hml, rfl, hown, hts, hlk, hK, hr1, hr2, hr3, hr4⟩ := F
  intro H locs ls hP hD hS hl
  subst hw; exact va_put hx hb hts hin ty0 hty hnm hown hK.1 hP hD hS q0 he hc j hj (hts _ hli) (fun _ h9 => h9) hfin (hty j hj) hn hfit hlen hd (fun H locs hP hD hS => k H locs ls hP hD hS hl)
theorem g_putN (F : Fx E κ cc own n dd) {a ci : Nat} {fs : List Value} {ws' : va_W} (q0 : Nat) (he : ws[q0]? = some (a, .inr (ci, fs))) {C : String} {T : u_T} {N : Nat} (hc : vwCl[ci]? = some (C, T, N)) (hin : ∀ w ∈ u_ws C T N, w ∈ TG) (ty0 : Nat → FieldType) (hty : ∀ k, k < N → parseFieldDescriptor (T k).2.2.1 = some (ty0 k)) (hnm : ∀ a, a < N → ∀ b, b < N → a ≠ b → (T a).2.1 ≠ (T b).2.1) (j : Nat) (hj : j < N) {idx : Nat} {host : String} (hli : Cond.fieldLinkNest own idx (T j).1 (T j).2.1 (T j).2.2.1 host ∈ NWl) (hfin : (T j).2.2.2 = false) {v : Value} (hn : narrow (ty0 j) v = v) (hfit : fits (ty0 j) v = true) (hlen : j < fs.length) (hw : ws.set q0 (a, .inr (ci, fs.set j v)) = ws') (hd : decode cc pc = .ok (.putfield idx, 3)) (k : G E ws' lv (pc + 3) st) : G E ws lv pc (v :: .ref a :: st) := by
  obtain ⟨p, l, e, R, s, m, args, below, meth, c, κ', A, cells, slots, Q, nL⟩ := E
  obtain ⟨rfl, hx, hb, hml, rfl, hown, hts, hlk, hK, hr1, hr2, hr3, hr4⟩ := F
  intro H locs ls hP hD hS hl
  subst hw; exact va_putN hx hb hts hin ty0 hty hnm hown hK.1 hP hD hS q0 he hc j hj (va_Nw.use rfl (hK.2.1 _ hli)) (fun _ h9 => h9) hfin (hty j hj) hn hfit hlen hd (fun H locs hP hD hS => k H locs ls hP hD hS hl)
theorem g_ald (F : Fx E κ cc own n dd) {a : Nat} {N : Nat} {f : Int → Int} {z : Int} (q0 : Nat) (ha : ws[q0]? = some (a, .inl (κ.2.1, N, .inl (fun j : Nat => iI (f (j : Int)))))) (hz : 0 ≤ z ∧ z < (N : Int)) (hN : N ≤ 2147483647) (hd : decode cc pc = .ok (.iaload, 1)) (k : G E ws lv (pc + 1) (.int (iI (f z)) :: st)) : G E ws lv pc (.int (iI z) :: .ref a :: st) := by
  obtain ⟨p, l, e, R, s, m, args, below, meth, c, κ', A, cells, slots, Q, nL⟩ := E
  obtain ⟨rfl, hx, hb, hml, rfl, hown, hts, hlk, hK, hr1, hr2, hr3, hr4⟩ := F
  intro H locs ls hP hD hS hl
  exact va_iald hx hb hK.1 hP q0 0 ha rfl (iI_in hz.1 hz.2 hN) hd (by rw [iI_clamp hz.1 (by omega), Int.toNat_of_nonneg hz.1]; exact k H locs ls hP hD hS hl)
theorem g_ast (F : Fx E κ cc own n dd) {a : Nat} {N : Nat} {f : Int → Int} {z v : Int} {ws' : va_W} (q0 : Nat) (ha : ws[q0]? = some (a, .inl (κ.2.1, N, .inl (fun j : Nat => iI (f (j : Int)))))) (hz : 0 ≤ z ∧ z < (N : Int)) (hN : N ≤ 2147483647) (hw : ws.set q0 (a, .inl (κ.2.1, N, .inl (fun j : Nat => iI (uI f z v (j : Int))))) = ws') (hd : decode cc pc = .ok (.iastore, 1)) (k : G E ws' lv (pc + 1) st) : G E ws lv pc (.int (iI v) :: .int (iI z) :: .ref a :: st) := by
  obtain ⟨p, l, e, R, s, m, args, below, meth, c, κ', A, cells, slots, Q, nL⟩ := E
  obtain ⟨rfl, hx, hb, hml, rfl, hown, hts, hlk, hK, hr1, hr2, hr3, hr4⟩ := F
  intro H locs ls hP hD hS hl
  subst hw; exact va_iast hx hb hK.1 hP hD hS q0 0 ha rfl (iI_in hz.1 hz.2 hN) hd (fun H locs hP hD hS => by rw [upd_iI f v hz.1 (by omega)] at hP hD; exact k H locs ls hP hD hS hl)
theorem g_bes (F : Fx E κ cc own n dd) {idx : Nat} (hli : Cond.fieldLink own idx "PatchesSameAge" "BESIDE" "[I" ∈ TG) (hd : decode cc pc = .ok (.getstatic idx, 3)) (k : G E ws lv (pc + 3) (.ref κ.2.2.2 :: st)) : G E ws lv pc st := by
  obtain ⟨p, l, e, R, s, m, args, below, meth, c, κ', A, cells, slots, Q, nL⟩ := E
  obtain ⟨rfl, hx, hb, hml, rfl, hown, hts, hlk, hK, hr1, hr2, hr3, hr4⟩ := F
  intro H locs ls hP hD hS hl
  exact va_gets hx hb hK.2.2.1 hS hown (hts _ hli) (fun _ h9 => h9) hd (k H locs ls hP hD hS hl)
theorem g_besN (F : Fx E κ cc own n dd) {idx : Nat} {host : String} (hli : Cond.fieldLinkNest own idx "PatchesSameAge" "BESIDE" "[I" host ∈ NWl) (hd : decode cc pc = .ok (.getstatic idx, 3)) (k : G E ws lv (pc + 3) (.ref κ.2.2.2 :: st)) : G E ws lv pc st := by
  obtain ⟨p, l, e, R, s, m, args, below, meth, c, κ', A, cells, slots, Q, nL⟩ := E
  obtain ⟨rfl, hx, hb, hml, rfl, hown, hts, hlk, hK, hr1, hr2, hr3, hr4⟩ := F
  intro H locs ls hP hD hS hl
  exact va_getsN hx hb hK.2.2.1 hS hown (va_Nw.use rfl (hK.2.1 _ hli)) (fun _ h9 => h9) hd (k H locs ls hP hD hS hl)
theorem g_beld (F : Fx E κ cc own n dd) {z : Int} (hz : 0 ≤ z ∧ z < 48) (hd : decode cc pc = .ok (.iaload, 1)) (k : G E ws lv (pc + 1) (.int (iI (bes z)) :: st)) : G E ws lv pc (.int (iI z) :: .ref κ.2.2.2 :: st) := by
  obtain ⟨p, l, e, R, s, m, args, below, meth, c, κ', A, cells, slots, Q, nL⟩ := E
  obtain ⟨rfl, hx, hb, hml, rfl, hown, hts, hlk, hK, hr1, hr2, hr3, hr4⟩ := F
  intro H locs ls hP hD hS hl
  exact va_ti hx hb hK.2.2.2 hS (iI_in hz.1 hz.2 (by decide)) (v := .int (iI (bes z))) (by show Value.int (iI (bes (((iI z).toNatClampNeg : Nat) : Int))) = _; rw [iI_clamp hz.1 (by omega), Int.toNat_of_nonneg hz.1]) hd (k H locs ls hP hD hS hl)
theorem if_abs {a : Int} (h : In32 a) : (if 0 ≤ iI a then iI a else 0 - iI a) = iI ((a.natAbs : Nat) : Int) := by
  have e := iI_le (a := 0) (b := a) (by decide) h
  rw [iI_z] at e
  by_cases h1 : 0 ≤ a
  · rw [if_pos (e.mpr h1), show ((a.natAbs : Nat) : Int) = a by omega]
  · rw [if_neg (fun q => h1 (e.mp q)), show ((a.natAbs : Nat) : Int) = 0 - a by omega, ← iI_sub, iI_z]
theorem if_max {a b : Int} (ha : In32 a) (hb : In32 b) : (if iI a < iI b then iI b else iI a) = iI (max a b) := by
  by_cases h1 : a < b
  · rw [if_pos ((iI_lt ha hb).mpr h1), show max a b = b by omega]
  · rw [if_neg (fun q => h1 ((iI_lt ha hb).mp q)), show max a b = a by omega]
theorem if_min {a b : Int} (ha : In32 a) (hb : In32 b) : (if iI b < iI a then iI b else iI a) = iI (min a b) := by
  by_cases h1 : b < a
  · rw [if_pos ((iI_lt hb ha).mpr h1), show min a b = b by omega]
  · rw [if_neg (fun q => h1 ((iI_lt hb ha).mp q)), show min a b = a by omega]
theorem g_abs (F : Fx E κ cc own n dd) {a : Int} (hz : In32 a) {idx : Nat} (hli : Cond.methodLink own idx Lib.Math.abs.name ∈ TG) (hs1 : Cond.static Lib.Math.abs.name ∈ TG) (hs2 : Cond.initialized "java/lang/Math" ∈ TG) (hs3 : Cond.code Lib.Math.abs.name Lib.Math.abs.code 1 (some .int) ∈ TG) (hdd : 1 ≤ dd) (hst : (st.map fun v => v.category).sum ≤ 8) (hd : decode cc pc = .ok (.invokestatic idx, 3)) (k : G E ws lv (pc + 3) (.int (iI ((a.natAbs : Nat) : Int)) :: st)) : G E ws lv pc (.int (iI a) :: st) := by
  obtain ⟨p, l, e, R, s, m, args, below, meth, c, κ', A, cells, slots, Q, nL⟩ := E
  obtain ⟨rfl, hx, hb, hml, rfl, hown, hts, hlk, hK, hr1, hr2, hr3, hr4⟩ := F
  intro H locs ls hP hD hS hl
  exact va_mabs hx hb (hml.trans hl.1.symm) hown (hts _ hli) (hts _ hs1) (hts _ hs2) (hts _ hs3) (by omega) (by omega) hr3 hr4 hd (by rw [if_abs hz]; exact k H locs ls hP hD hS hl)
theorem g_max (F : Fx E κ cc own n dd) {a b : Int} (hz : In32 a ∧ In32 b) {idx : Nat} (hli : Cond.methodLink own idx Lib.Math.max.name ∈ TG) (hs1 : Cond.static Lib.Math.max.name ∈ TG) (hs2 : Cond.initialized "java/lang/Math" ∈ TG) (hs3 : Cond.code Lib.Math.max.name Lib.Math.max.code 2 (some .int) ∈ TG) (hdd : 1 ≤ dd) (hst : (st.map fun v => v.category).sum ≤ 8) (hd : decode cc pc = .ok (.invokestatic idx, 3)) (k : G E ws lv (pc + 3) (.int (iI (max a b)) :: st)) : G E ws lv pc (.int (iI b) :: .int (iI a) :: st) := by
  obtain ⟨p, l, e, R, s, m, args, below, meth, c, κ', A, cells, slots, Q, nL⟩ := E
  obtain ⟨rfl, hx, hb, hml, rfl, hown, hts, hlk, hK, hr1, hr2, hr3, hr4⟩ := F
  intro H locs ls hP hD hS hl
  exact va_mmax hx hb (hml.trans hl.1.symm) hown (hts _ hli) (hts _ hs1) (hts _ hs2) (hts _ hs3) (by omega) (by omega) hr3 hr4 hd (by rw [if_max hz.1 hz.2]; exact k H locs ls hP hD hS hl)
theorem g_min (F : Fx E κ cc own n dd) {a b : Int} (hz : In32 a ∧ In32 b) {idx : Nat} (hli : Cond.methodLink own idx Lib.Math.min.name ∈ TG) (hs1 : Cond.static Lib.Math.min.name ∈ TG) (hs2 : Cond.initialized "java/lang/Math" ∈ TG) (hs3 : Cond.code Lib.Math.min.name Lib.Math.min.code 2 (some .int) ∈ TG) (hdd : 1 ≤ dd) (hst : (st.map fun v => v.category).sum ≤ 8) (hd : decode cc pc = .ok (.invokestatic idx, 3)) (k : G E ws lv (pc + 3) (.int (iI (min a b)) :: st)) : G E ws lv pc (.int (iI b) :: .int (iI a) :: st) := by
  obtain ⟨p, l, e, R, s, m, args, below, meth, c, κ', A, cells, slots, Q, nL⟩ := E
  obtain ⟨rfl, hx, hb, hml, rfl, hown, hts, hlk, hK, hr1, hr2, hr3, hr4⟩ := F
  intro H locs ls hP hD hS hl
  exact va_mmin hx hb (hml.trans hl.1.symm) hown (hts _ hli) (hts _ hs1) (hts _ hs2) (hts _ hs3) (by omega) (by omega) hr3 hr4 hd (by rw [if_min hz.1 hz.2]; exact k H locs ls hP hD hS hl)
theorem arrV_congr {c : ClassId} {N : Nat} {f g : Nat → Value} (h : ∀ j, j < N → f j = g j) : arrV c N f = arrV c N g := by
  unfold arrV
  have e : (fun j : Fin N => f j.val) = fun j : Fin N => g j.val := funext fun j => h j.val j.isLt
  rw [e]
theorem at_ext {D : va_G} {cl : List vw_C} {a N : Nat} {c : ClassId} {f g : Nat → Int32} {H : Heap} (h : ∀ j, j < N → f j = g j) (k : va_at D cl (a, .inl (c, N, .inl f)) H) : va_at D cl (a, .inl (c, N, .inl g)) H := by
  show H[a]? = some (vp_cell c (N, .inl g))
  rw [vp_cell_i, ← arrV_congr (fun j hj => by rw [h j hj] : ∀ j, j < N → Value.int (f j) = Value.int (g j))]
  exact k
theorem cpy_in {f g : Int → Int} {N : Nat} (hN : N ≤ 2147483647) : ∀ j, j < N → va_cpy (fun j : Nat => iI (f (j : Int))) (fun j : Nat => iI (g (j : Int))) (iI 0).toNatClampNeg (iI 0).toNatClampNeg (iI (N : Int)).toNatClampNeg j = iI (f (j : Int)) := by
  intro j hj
  have e1 : (iI (N : Int)).toNatClampNeg = N := by rw [iI_clamp (by omega) (by omega)]; omega
  have e2 : (iI 0).toNatClampNeg = 0 := by decide +kernel
  rw [e1, e2]
  unfold va_cpy
  rw [if_pos ⟨Nat.zero_le _, by omega⟩]
  simp
theorem va_P_set_congr {D : va_G} {cl : List vw_C} {q a : Nat} {x y : va_E} {H : Heap} (h : va_at D cl (a, x) H → va_at D cl (a, y) H) (hP : va_P D cl (ws.set q (a, x)) H) : va_P D cl (ws.set q (a, y)) H := by
  intro k z hz
  by_cases hk : k = q
  · subst hk
    rw [List.getElem?_set_self' ] at hz
    cases hw : ws[k]? with
    | none => rw [hw] at hz; cases hz
    | some w =>
      rw [hw] at hz
      cases hz
      refine h (hP k (a, x) ?_)
      rw [List.getElem?_set_self', hw]
      rfl
  · rw [List.getElem?_set_ne (Ne.symm hk)] at hz
    exact hP k z (by rw [List.getElem?_set_ne (Ne.symm hk)]; exact hz)
theorem va_D_set_congr {A : Nat → Prop} {q a : Nat} {x y : va_E} (h : va_D A (ws.set q (a, x))) : va_D A (ws.set q (a, y)) := by
  refine sameA.D (ws := ws.set q (a, x)) ?_ h
  show (ws.set q (a, y)).map Prod.fst = (ws.set q (a, x)).map Prod.fst
  rw [List.map_set, List.map_set]
theorem g_weq {ws' : va_W} (h : ∀ (D : va_G) (H : Heap), va_P D vwCl ws H → va_P D vwCl ws' H) (ha : sameA ws ws') (k : G E ws' lv pc st) : G E ws lv pc st := by
  obtain ⟨p, l, e, R, s, m, args, below, meth, c, κ', A, cells, slots, Q, nL⟩ := E
  intro H locs ls hP hD hS hl
  exact k H locs ls (h _ _ hP) (ha.D hD) hS hl
theorem g_copy (F : Fx E κ cc own n dd) {a0 a1 N : Nat} {f g : Int → Int} {ws' : va_W} (q0 q1 : Nat) (h0 : ws[q0]? = some (a0, .inl (κ.2.1, N, .inl (fun j : Nat => iI (f (j : Int)))))) (h1 : ws[q1]? = some (a1, .inl (κ.2.1, N, .inl (fun j : Nat => iI (g (j : Int)))))) (hN : N ≤ 2147483647) (hw : ws.set q1 (a1, .inl (κ.2.1, N, .inl (fun j : Nat => iI (f (j : Int))))) = ws') {idx : Nat} (hli : Cond.methodLink own idx arraycopyName ∈ TG) (hs1 : Cond.native arraycopyName ∈ TG) (hs2 : Cond.static arraycopyName ∈ TG) (hs3 : Cond.initialized "java/lang/System" ∈ TG) (hdd : 1 ≤ dd) (hst : (st.map fun v => v.category).sum ≤ 8) (hd : decode cc pc = .ok (.invokestatic idx, 3)) (k : G E ws' lv (pc + 3) st) : G E ws lv pc (.int (iI (N : Int)) :: .int (iI 0) :: .ref a1 :: .int (iI 0) :: .ref a0 :: st) := by
  obtain ⟨p, l, e, R, s, m, args, below, meth, c, κ', A, cells, slots, Q, nL⟩ := E
  obtain ⟨rfl, hx, hb, hml, rfl, hown, hts, hlk, hK, hr1, hr2, hr3, hr4⟩ := F
  intro H locs ls hP hD hS hl
  subst hw
  have e0 : (iI 0).toNatClampNeg = 0 := by decide +kernel
  have e1 : (iI (N : Int)).toNatClampNeg = N := by rw [iI_clamp (by omega) (by omega)]; omega
  have ew : nativeFrameWords "java/lang/System" "arraycopy" 5 + 11 ≤ 56 := by decide +kernel
  exact va_copyi hx hb (hml.trans hl.1.symm) hown (hts _ hli) (hts _ hs1) (hts _ hs2) (hts _ hs3) hK.1 hP hD hS q0 q1 0 0 h0 h1 rfl rfl rfl (by rw [iI_z]; decide) (by rw [iI_z]; decide) (by rw [← iI_z, iI_lt (by omega) (by decide)]; omega) (by rw [e0, e1]; omega) (by rw [e0, e1]; omega) (fun _ _ => rfl) (by omega) (by omega) hd (fun H locs hP hD hS => k H locs ls (va_P_set_congr (at_ext (cpy_in hN)) hP) (va_D_set_congr hD) hS hl)
/-- what a call needs of the callee, out of the tables -/
def CalV (y : MethodName) (bytes : ByteArray) (maxL : Nat) (ret : Option FieldType) (k : Nat) : Prop := Cond.instanceMethod y ∈ TG ∧ Cond.selects y.cls y y ∈ TG ∧ Cond.initialized y.cls ∈ TG ∧ Cond.code y bytes maxL ret ∈ TG ∧ (y.cls ≠ "java/lang/invoke/MethodHandle" ∧ y.cls ≠ "java/lang/invoke/VarHandle" ∧ (parseMethodDescriptor y.desc).map (fun d => d.parameters.length) = some k) ∧ maxL ≤ 45
def CalS (y : MethodName) (bytes : ByteArray) (maxL : Nat) (ret : Option FieldType) (k : Nat) : Prop := Cond.static y ∈ TG ∧ Cond.initialized y.cls ∈ TG ∧ Cond.code y bytes maxL ret ∈ TG ∧ (y.cls ≠ "java/lang/invoke/MethodHandle" ∧ y.cls ≠ "java/lang/invoke/VarHandle" ∧ (parseMethodDescriptor y.desc).map (fun d => d.parameters.length) = some k) ∧ maxL ≤ 45
theorem KE.preS {κ : Kp} {A : Nat → Prop} {s : State} {H : Heap} {locs : List Loc} {As : List Value} (hK : KE κ A s) (hP : va_P κ.1 vwCl ws H) (hD : va_D A ws) (hS : va_S A s.heap H locs) : PreS s H (PreW κ As ws) As :=
  ⟨PreW.blind, fun U hU hW => ⟨rfl, by rw [hU]; exact hP, hD.weaken (fun _ _ _ _ => trivial), hK.at hS hD hU hW⟩⟩
theorem KE.preV {κ : Kp} {A : Nat → Prop} {s : State} {H : Heap} {locs : List Loc} {As : List Value} {b ci q0 : Nat} {fs : List Value} {q : vw_C} (hK : KE κ A s) (hP : va_P κ.1 vwCl ws H) (hD : va_D A ws) (hS : va_S A s.heap H locs) (he : ws[q0]? = some (b, .inr (ci, fs))) (hc : vwCl[ci]? = some q) : PreV s H q.1 b (PreW κ (.ref b :: As) ws) As :=
  ⟨PreW.blind, va_recv hK.1 hP hc he, fun U hU hW => ⟨rfl, by rw [hU]; exact hP, hD.weaken (fun _ _ _ _ => trivial), hK.at hS hD hU hW⟩⟩
theorem adr_in {A : Nat → Prop} (hD : va_D A ws) : ∀ q, adr ws q → A q := fun q hq => by
  obtain ⟨k, e, hk⟩ := hq
  exact hD.2 k (q, e) hk
theorem g_callI (F : Fx E κ cc own n dd) {y : MethodName} {bytes : ByteArray} {maxL d k0 b ci : Nat} {rt : FieldType} {As : List Value} {fs : List Value} {q : vw_C} {post : Int32 → va_W → Prop} {idx : Nat} {stk : List Value} (hM : mI κ y bytes maxL rt d (.ref b :: As) ws post) (hc : CalV y bytes maxL (some rt) k0) (hli : Cond.methodLink own idx y ∈ TG) (q0 : Nat) (he : ws[q0]? = some (b, .inr (ci, fs))) (hci : vwCl[ci]? = some q) (hq : q.1 = y.cls) (hn : As.length = k0) (hdd : d + 1 ≤ dd) (hsk : stk = As.reverse ++ .ref b :: st) (hst : (st.map fun v => v.category).sum ≤ 8) (hd : decode cc pc = .ok (.invokevirtual idx, 3)) (k : ∀ (r : Int32) (ws' : va_W), sameA ws ws' → post r ws' → G E ws' lv (pc + 3) (.int r :: st)) : G E ws lv pc stk := by
  obtain ⟨p, l, e, R, s, m, args, below, meth, c, κ', A, cells, slots, Q, nL⟩ := E
  obtain ⟨rfl, hx, hb, hml, rfl, hown, hts, hlk, hK, hr1, hr2, hr3, hr4⟩ := F
  intro H locs ls hP hD hS hl
  subst hsk
  refine va_calli (va_runV ⟨hx, hb, hml, hown, hts⟩ (hM l) ⟨callB_of k0 hts (tg_call hc.2.2.2.1) rfl rfl rfl (hts _ hc.2.2.1) (hts _ hli) hc.2.2.2.2.1 ⟨by show d + 1 ≤ R.frames; omega, by show 8 + (maxL + 11) + 64 * d ≤ R.locals; have := hc.2.2.2.2.2; omega⟩, hts _ hc.1, hts _ hc.2.1⟩ (hq ▸ hK.preV hP hD hS he hci) rfl hn hl.1 rfl (lv_room hst) hd ⟨by omega, by omega⟩) hS (fun q _ h => adr_in hD q h) (adr_in hD) (fun r u t H1 locs1 ht hvm hw hB hz1 hk1 hS1 => k r u hB.2 hw H1 locs1 ls (by have h9 := hB.1; rw [ht] at h9; exact h9) (hB.2.D hD) hS1 hl)
theorem g_callNI (F : Fx E κ cc own n dd) {y : MethodName} {bytes : ByteArray} {maxL d k0 b ci : Nat} {rt : FieldType} {As : List Value} {fs : List Value} {q : vw_C} {post : Int32 → va_W → Prop} {idx : Nat} {stk : List Value} (hM : mI κ y bytes maxL rt d (.ref b :: As) ws post) (hc : CalV y bytes maxL (some rt) k0) {host : String} (hli : Cond.methodLinkNest own idx y host ∈ NWl) (q0 : Nat) (he : ws[q0]? = some (b, .inr (ci, fs))) (hci : vwCl[ci]? = some q) (hq : q.1 = y.cls) (hn : As.length = k0) (hdd : d + 1 ≤ dd) (hsk : stk = As.reverse ++ .ref b :: st) (hst : (st.map fun v => v.category).sum ≤ 8) (hd : decode cc pc = .ok (.invokevirtual idx, 3)) (k : ∀ (r : Int32) (ws' : va_W), sameA ws ws' → post r ws' → G E ws' lv (pc + 3) (.int r :: st)) : G E ws lv pc stk := by
  obtain ⟨p, l, e, R, s, m, args, below, meth, c, κ', A, cells, slots, Q, nL⟩ := E
  obtain ⟨rfl, hx, hb, hml, rfl, hown, hts, hlk, hK, hr1, hr2, hr3, hr4⟩ := F
  intro H locs ls hP hD hS hl
  subst hsk
  refine va_calli (va_runVN ⟨hx, hb, hml, hown, hts⟩ (hM l) ⟨va_cnB k0 hts (tg_call hc.2.2.2.1) rfl rfl rfl (hK.2.1 _ hli) (hts _ hc.2.2.1) hc.2.2.2.2.1 ⟨by show d + 1 ≤ R.frames; omega, by show 8 + (maxL + 11) + 64 * d ≤ R.locals; have := hc.2.2.2.2.2; omega⟩, hts _ hc.1, hts _ hc.2.1⟩ (hq ▸ hK.preV hP hD hS he hci) rfl hn hl.1 rfl (lv_room hst) hd ⟨by omega, by omega⟩) hS (fun q _ h => adr_in hD q h) (adr_in hD) (fun r u t H1 locs1 ht hvm hw hB hz1 hk1 hS1 => k r u hB.2 hw H1 locs1 ls (by have h9 := hB.1; rw [ht] at h9; exact h9) (hB.2.D hD) hS1 hl)
theorem g_callL (F : Fx E κ cc own n dd) {y : MethodName} {bytes : ByteArray} {maxL d k0 b ci : Nat} {As : List Value} {fs : List Value} {q : vw_C} {post : Int64 → va_W → Prop} {idx : Nat} {stk : List Value} (hM : mL κ y bytes maxL d (.ref b :: As) ws post) (hc : CalV y bytes maxL (some .long) k0) (hli : Cond.methodLink own idx y ∈ TG) (q0 : Nat) (he : ws[q0]? = some (b, .inr (ci, fs))) (hci : vwCl[ci]? = some q) (hq : q.1 = y.cls) (hn : As.length = k0) (hdd : d + 1 ≤ dd) (hsk : stk = As.reverse ++ .ref b :: st) (hst : (st.map fun v => v.category).sum ≤ 8) (hd : decode cc pc = .ok (.invokevirtual idx, 3)) (k : ∀ (r : Int64) (ws' : va_W), sameA ws ws' → post r ws' → G E ws' lv (pc + 3) (.long r :: st)) : G E ws lv pc stk := by
  obtain ⟨p, l, e, R, s, m, args, below, meth, c, κ', A, cells, slots, Q, nL⟩ := E
  obtain ⟨rfl, hx, hb, hml, rfl, hown, hts, hlk, hK, hr1, hr2, hr3, hr4⟩ := F
  intro H locs ls hP hD hS hl
  subst hsk
  refine va_calll (va_runV ⟨hx, hb, hml, hown, hts⟩ (hM l) ⟨callB_of k0 hts (tg_call hc.2.2.2.1) rfl rfl rfl (hts _ hc.2.2.1) (hts _ hli) hc.2.2.2.2.1 ⟨by show d + 1 ≤ R.frames; omega, by show 8 + (maxL + 11) + 64 * d ≤ R.locals; have := hc.2.2.2.2.2; omega⟩, hts _ hc.1, hts _ hc.2.1⟩ (hq ▸ hK.preV hP hD hS he hci) rfl hn hl.1 rfl (lv_room hst) hd ⟨by omega, by omega⟩) hS (fun q _ h => adr_in hD q h) (adr_in hD) (fun r u t H1 locs1 ht hvm hw hB hz1 hk1 hS1 => k r u hB.2 hw H1 locs1 ls (by have h9 := hB.1; rw [ht] at h9; exact h9) (hB.2.D hD) hS1 hl)
theorem g_callNL (F : Fx E κ cc own n dd) {y : MethodName} {bytes : ByteArray} {maxL d k0 b ci : Nat} {As : List Value} {fs : List Value} {q : vw_C} {post : Int64 → va_W → Prop} {idx : Nat} {stk : List Value} (hM : mL κ y bytes maxL d (.ref b :: As) ws post) (hc : CalV y bytes maxL (some .long) k0) {host : String} (hli : Cond.methodLinkNest own idx y host ∈ NWl) (q0 : Nat) (he : ws[q0]? = some (b, .inr (ci, fs))) (hci : vwCl[ci]? = some q) (hq : q.1 = y.cls) (hn : As.length = k0) (hdd : d + 1 ≤ dd) (hsk : stk = As.reverse ++ .ref b :: st) (hst : (st.map fun v => v.category).sum ≤ 8) (hd : decode cc pc = .ok (.invokevirtual idx, 3)) (k : ∀ (r : Int64) (ws' : va_W), sameA ws ws' → post r ws' → G E ws' lv (pc + 3) (.long r :: st)) : G E ws lv pc stk := by
  obtain ⟨p, l, e, R, s, m, args, below, meth, c, κ', A, cells, slots, Q, nL⟩ := E
  obtain ⟨rfl, hx, hb, hml, rfl, hown, hts, hlk, hK, hr1, hr2, hr3, hr4⟩ := F
  intro H locs ls hP hD hS hl
  subst hsk
  refine va_calll (va_runVN ⟨hx, hb, hml, hown, hts⟩ (hM l) ⟨va_cnB k0 hts (tg_call hc.2.2.2.1) rfl rfl rfl (hK.2.1 _ hli) (hts _ hc.2.2.1) hc.2.2.2.2.1 ⟨by show d + 1 ≤ R.frames; omega, by show 8 + (maxL + 11) + 64 * d ≤ R.locals; have := hc.2.2.2.2.2; omega⟩, hts _ hc.1, hts _ hc.2.1⟩ (hq ▸ hK.preV hP hD hS he hci) rfl hn hl.1 rfl (lv_room hst) hd ⟨by omega, by omega⟩) hS (fun q _ h => adr_in hD q h) (adr_in hD) (fun r u t H1 locs1 ht hvm hw hB hz1 hk1 hS1 => k r u hB.2 hw H1 locs1 ls (by have h9 := hB.1; rw [ht] at h9; exact h9) (hB.2.D hD) hS1 hl)
theorem g_callV (F : Fx E κ cc own n dd) {y : MethodName} {bytes : ByteArray} {maxL d k0 b ci : Nat} {As : List Value} {fs : List Value} {q : vw_C} {post : va_W → Prop} {idx : Nat} {stk : List Value} (hM : mV κ y bytes maxL d (.ref b :: As) ws post) (hc : CalV y bytes maxL none k0) (hli : Cond.methodLink own idx y ∈ TG) (q0 : Nat) (he : ws[q0]? = some (b, .inr (ci, fs))) (hci : vwCl[ci]? = some q) (hq : q.1 = y.cls) (hn : As.length = k0) (hdd : d + 1 ≤ dd) (hsk : stk = As.reverse ++ .ref b :: st) (hst : (st.map fun v => v.category).sum ≤ 8) (hd : decode cc pc = .ok (.invokevirtual idx, 3)) (k : ∀ (ws' : va_W), sameA ws ws' → post ws' → G E ws' lv (pc + 3) st) : G E ws lv pc stk := by
  obtain ⟨p, l, e, R, s, m, args, below, meth, c, κ', A, cells, slots, Q, nL⟩ := E
  obtain ⟨rfl, hx, hb, hml, rfl, hown, hts, hlk, hK, hr1, hr2, hr3, hr4⟩ := F
  intro H locs ls hP hD hS hl
  subst hsk
  refine va_callv (va_runV ⟨hx, hb, hml, hown, hts⟩ (hM l) ⟨callB_of k0 hts (tg_call hc.2.2.2.1) rfl rfl rfl (hts _ hc.2.2.1) (hts _ hli) hc.2.2.2.2.1 ⟨by show d + 1 ≤ R.frames; omega, by show 8 + (maxL + 11) + 64 * d ≤ R.locals; have := hc.2.2.2.2.2; omega⟩, hts _ hc.1, hts _ hc.2.1⟩ (hq ▸ hK.preV hP hD hS he hci) rfl hn hl.1 rfl (lv_room hst) hd ⟨by omega, by omega⟩) hS (fun q _ h => adr_in hD q h) (adr_in hD) (fun u t H1 locs1 ht hvm hw hB hz1 hk1 hS1 => k u hB.2 hw H1 locs1 ls (by have h9 := hB.1; rw [ht] at h9; exact h9) (hB.2.D hD) hS1 hl)
theorem g_callNV (F : Fx E κ cc own n dd) {y : MethodName} {bytes : ByteArray} {maxL d k0 b ci : Nat} {As : List Value} {fs : List Value} {q : vw_C} {post : va_W → Prop} {idx : Nat} {stk : List Value} (hM : mV κ y bytes maxL d (.ref b :: As) ws post) (hc : CalV y bytes maxL none k0) {host : String} (hli : Cond.methodLinkNest own idx y host ∈ NWl) (q0 : Nat) (he : ws[q0]? = some (b, .inr (ci, fs))) (hci : vwCl[ci]? = some q) (hq : q.1 = y.cls) (hn : As.length = k0) (hdd : d + 1 ≤ dd) (hsk : stk = As.reverse ++ .ref b :: st) (hst : (st.map fun v => v.category).sum ≤ 8) (hd : decode cc pc = .ok (.invokevirtual idx, 3)) (k : ∀ (ws' : va_W), sameA ws ws' → post ws' → G E ws' lv (pc + 3) st) : G E ws lv pc stk := by
  obtain ⟨p, l, e, R, s, m, args, below, meth, c, κ', A, cells, slots, Q, nL⟩ := E
  obtain ⟨rfl, hx, hb, hml, rfl, hown, hts, hlk, hK, hr1, hr2, hr3, hr4⟩ := F
  intro H locs ls hP hD hS hl
  subst hsk
  refine va_callv (va_runVN ⟨hx, hb, hml, hown, hts⟩ (hM l) ⟨va_cnB k0 hts (tg_call hc.2.2.2.1) rfl rfl rfl (hK.2.1 _ hli) (hts _ hc.2.2.1) hc.2.2.2.2.1 ⟨by show d + 1 ≤ R.frames; omega, by show 8 + (maxL + 11) + 64 * d ≤ R.locals; have := hc.2.2.2.2.2; omega⟩, hts _ hc.1, hts _ hc.2.1⟩ (hq ▸ hK.preV hP hD hS he hci) rfl hn hl.1 rfl (lv_room hst) hd ⟨by omega, by omega⟩) hS (fun q _ h => adr_in hD q h) (adr_in hD) (fun u t H1 locs1 ht hvm hw hB hz1 hk1 hS1 => k u hB.2 hw H1 locs1 ls (by have h9 := hB.1; rw [ht] at h9; exact h9) (hB.2.D hD) hS1 hl)
theorem g_callSI (F : Fx E κ cc own n dd) {y : MethodName} {bytes : ByteArray} {maxL d k0 : Nat} {rt : FieldType} {As : List Value} {post : Int32 → va_W → Prop} {idx : Nat} {stk : List Value} (hM : mI κ y bytes maxL rt d As ws post) (hc : CalS y bytes maxL (some rt) k0) (hli : Cond.methodLink own idx y ∈ TG) (hn : As.length = k0) (hdd : d + 1 ≤ dd) (hsk : stk = As.reverse ++ st) (hst : (st.map fun v => v.category).sum ≤ 8) (hd : decode cc pc = .ok (.invokestatic idx, 3)) (k : ∀ (r : Int32) (ws' : va_W), sameA ws ws' → post r ws' → G E ws' lv (pc + 3) (.int r :: st)) : G E ws lv pc stk := by
  obtain ⟨p, l, e, R, s, m, args, below, meth, c, κ', A, cells, slots, Q, nL⟩ := E
  obtain ⟨rfl, hx, hb, hml, rfl, hown, hts, hlk, hK, hr1, hr2, hr3, hr4⟩ := F
  intro H locs ls hP hD hS hl
  subst hsk
  refine va_calli (va_runS ⟨hx, hb, hml, hown, hts⟩ (hM l) ⟨callB_of k0 hts (tg_call hc.2.2.1) rfl rfl rfl (hts _ hc.2.1) (hts _ hli) hc.2.2.2.1 ⟨by show d + 1 ≤ R.frames; omega, by show 8 + (maxL + 11) + 64 * d ≤ R.locals; have := hc.2.2.2.2; omega⟩, hts _ hc.1⟩ (hK.preS hP hD hS) rfl hn hl.1 rfl (lv_room hst) hd ⟨by omega, by omega⟩) hS (fun q _ h => adr_in hD q h) (adr_in hD) (fun r u t H1 locs1 ht hvm hw hB hz1 hk1 hS1 => k r u hB.2 hw H1 locs1 ls (by have h9 := hB.1; rw [ht] at h9; exact h9) (hB.2.D hD) hS1 hl)
theorem g_callSL (F : Fx E κ cc own n dd) {y : MethodName} {bytes : ByteArray} {maxL d k0 : Nat} {As : List Value} {post : Int64 → va_W → Prop} {idx : Nat} {stk : List Value} (hM : mL κ y bytes maxL d As ws post) (hc : CalS y bytes maxL (some .long) k0) (hli : Cond.methodLink own idx y ∈ TG) (hn : As.length = k0) (hdd : d + 1 ≤ dd) (hsk : stk = As.reverse ++ st) (hst : (st.map fun v => v.category).sum ≤ 8) (hd : decode cc pc = .ok (.invokestatic idx, 3)) (k : ∀ (r : Int64) (ws' : va_W), sameA ws ws' → post r ws' → G E ws' lv (pc + 3) (.long r :: st)) : G E ws lv pc stk := by
  obtain ⟨p, l, e, R, s, m, args, below, meth, c, κ', A, cells, slots, Q, nL⟩ := E
  obtain ⟨rfl, hx, hb, hml, rfl, hown, hts, hlk, hK, hr1, hr2, hr3, hr4⟩ := F
  intro H locs ls hP hD hS hl
  subst hsk
  refine va_calll (va_runS ⟨hx, hb, hml, hown, hts⟩ (hM l) ⟨callB_of k0 hts (tg_call hc.2.2.1) rfl rfl rfl (hts _ hc.2.1) (hts _ hli) hc.2.2.2.1 ⟨by show d + 1 ≤ R.frames; omega, by show 8 + (maxL + 11) + 64 * d ≤ R.locals; have := hc.2.2.2.2; omega⟩, hts _ hc.1⟩ (hK.preS hP hD hS) rfl hn hl.1 rfl (lv_room hst) hd ⟨by omega, by omega⟩) hS (fun q _ h => adr_in hD q h) (adr_in hD) (fun r u t H1 locs1 ht hvm hw hB hz1 hk1 hS1 => k r u hB.2 hw H1 locs1 ls (by have h9 := hB.1; rw [ht] at h9; exact h9) (hB.2.D hD) hS1 hl)
theorem g_callSV (F : Fx E κ cc own n dd) {y : MethodName} {bytes : ByteArray} {maxL d k0 : Nat} {As : List Value} {post : va_W → Prop} {idx : Nat} {stk : List Value} (hM : mV κ y bytes maxL d As ws post) (hc : CalS y bytes maxL none k0) (hli : Cond.methodLink own idx y ∈ TG) (hn : As.length = k0) (hdd : d + 1 ≤ dd) (hsk : stk = As.reverse ++ st) (hst : (st.map fun v => v.category).sum ≤ 8) (hd : decode cc pc = .ok (.invokestatic idx, 3)) (k : ∀ (ws' : va_W), sameA ws ws' → post ws' → G E ws' lv (pc + 3) st) : G E ws lv pc stk := by
  obtain ⟨p, l, e, R, s, m, args, below, meth, c, κ', A, cells, slots, Q, nL⟩ := E
  obtain ⟨rfl, hx, hb, hml, rfl, hown, hts, hlk, hK, hr1, hr2, hr3, hr4⟩ := F
  intro H locs ls hP hD hS hl
  subst hsk
  refine va_callv (va_runS ⟨hx, hb, hml, hown, hts⟩ (hM l) ⟨callB_of k0 hts (tg_call hc.2.2.1) rfl rfl rfl (hts _ hc.2.1) (hts _ hli) hc.2.2.2.1 ⟨by show d + 1 ≤ R.frames; omega, by show 8 + (maxL + 11) + 64 * d ≤ R.locals; have := hc.2.2.2.2; omega⟩, hts _ hc.1⟩ (hK.preS hP hD hS) rfl hn hl.1 rfl (lv_room hst) hd ⟨by omega, by omega⟩) hS (fun q _ h => adr_in hD q h) (adr_in hD) (fun u t H1 locs1 ht hvm hw hB hz1 hk1 hS1 => k u hB.2 hw H1 locs1 ls (by have h9 := hB.1; rw [ht] at h9; exact h9) (hB.2.D hD) hS1 hl)
end
