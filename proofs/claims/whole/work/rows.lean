section
-- ===== PART A: goes FIRST, ahead of the names: the tables' words, and 'selects' of the private methods out of them =====
/-- a private method of a class that the tables say can be made, by its rows of tables_1 -/
def lw_okq (q : MethodName × Nat) : Prop := (q.1.cls ≠ "java/lang/invoke/MethodHandle" ∧ q.1.cls ≠ "java/lang/invoke/VarHandle") ∧ Cond.instantiable q.1.cls q.2 ∈ tables_1 ∧ Cond.privateMethod q.1 ∈ tables_1 ∧ Cond.instanceMethod q.1 ∈ tables_1
theorem lw_p0 : lw_okq (⟨"PatchesSameAge", "refuse", "(I)I"⟩, 15) := ⟨⟨by decide +kernel, by decide +kernel⟩, List.mem_of_getElem? (i := 12) (by decide +kernel), List.mem_of_getElem? (i := 189) (by decide +kernel), List.mem_of_getElem? (i := 190) (by decide +kernel)⟩
theorem lw_p1 : lw_okq (⟨"PatchesSameAge$Text", "add", "(I)V"⟩, 2) := ⟨⟨by decide +kernel, by decide +kernel⟩, List.mem_of_getElem? (i := 102) (by decide +kernel), List.mem_of_getElem? (i := 193) (by decide +kernel), List.mem_of_getElem? (i := 194) (by decide +kernel)⟩
theorem lw_p2 : lw_okq (⟨"PatchesSameAge$Text", "formFault", "()I"⟩, 2) := ⟨⟨by decide +kernel, by decide +kernel⟩, List.mem_of_getElem? (i := 102) (by decide +kernel), List.mem_of_getElem? (i := 201) (by decide +kernel), List.mem_of_getElem? (i := 202) (by decide +kernel)⟩
theorem lw_p3 : lw_okq (⟨"PatchesSameAge$Text", "sizeAt", "(I)I"⟩, 2) := ⟨⟨by decide +kernel, by decide +kernel⟩, List.mem_of_getElem? (i := 102) (by decide +kernel), List.mem_of_getElem? (i := 205) (by decide +kernel), List.mem_of_getElem? (i := 206) (by decide +kernel)⟩
theorem lw_p4 : lw_okq (⟨"PatchesSameAge$Text", "letterAt", "(I)I"⟩, 2) := ⟨⟨by decide +kernel, by decide +kernel⟩, List.mem_of_getElem? (i := 102) (by decide +kernel), List.mem_of_getElem? (i := 209) (by decide +kernel), List.mem_of_getElem? (i := 210) (by decide +kernel)⟩
theorem lw_p5 : lw_okq (⟨"PatchesSameAge", "tellAll", "()I"⟩, 15) := ⟨⟨by decide +kernel, by decide +kernel⟩, List.mem_of_getElem? (i := 12) (by decide +kernel), List.mem_of_getElem? (i := 216) (by decide +kernel), List.mem_of_getElem? (i := 217) (by decide +kernel)⟩
theorem lw_p6 : lw_okq (⟨"PatchesSameAge$Cloth", "become", "(LPatchesSameAge$Cloth;)V"⟩, 5) := ⟨⟨by decide +kernel, by decide +kernel⟩, List.mem_of_getElem? (i := 20) (by decide +kernel), List.mem_of_getElem? (i := 220) (by decide +kernel), List.mem_of_getElem? (i := 221) (by decide +kernel)⟩
theorem lw_p7 : lw_okq (⟨"PatchesSameAge$Roll", "become", "(LPatchesSameAge$Roll;)V"⟩, 5) := ⟨⟨by decide +kernel, by decide +kernel⟩, List.mem_of_getElem? (i := 48) (by decide +kernel), List.mem_of_getElem? (i := 227) (by decide +kernel), List.mem_of_getElem? (i := 228) (by decide +kernel)⟩
theorem lw_p8 : lw_okq (⟨"PatchesSameAge", "tellOne", "(I)Z"⟩, 15) := ⟨⟨by decide +kernel, by decide +kernel⟩, List.mem_of_getElem? (i := 12) (by decide +kernel), List.mem_of_getElem? (i := 232) (by decide +kernel), List.mem_of_getElem? (i := 233) (by decide +kernel)⟩
theorem lw_p9 : lw_okq (⟨"PatchesSameAge$Text", "number", "(II)I"⟩, 2) := ⟨⟨by decide +kernel, by decide +kernel⟩, List.mem_of_getElem? (i := 102) (by decide +kernel), List.mem_of_getElem? (i := 237) (by decide +kernel), List.mem_of_getElem? (i := 238) (by decide +kernel)⟩
theorem lw_p10 : lw_okq (⟨"PatchesSameAge", "tellCells", "(III)Z"⟩, 15) := ⟨⟨by decide +kernel, by decide +kernel⟩, List.mem_of_getElem? (i := 12) (by decide +kernel), List.mem_of_getElem? (i := 241) (by decide +kernel), List.mem_of_getElem? (i := 242) (by decide +kernel)⟩
theorem lw_p11 : lw_okq (⟨"PatchesSameAge$Cloth", "make", "(IIII)V"⟩, 5) := ⟨⟨by decide +kernel, by decide +kernel⟩, List.mem_of_getElem? (i := 20) (by decide +kernel), List.mem_of_getElem? (i := 251) (by decide +kernel), List.mem_of_getElem? (i := 252) (by decide +kernel)⟩
theorem lw_p12 : lw_okq (⟨"PatchesSameAge", "tellPiece", "(III)Z"⟩, 15) := ⟨⟨by decide +kernel, by decide +kernel⟩, List.mem_of_getElem? (i := 12) (by decide +kernel), List.mem_of_getElem? (i := 255) (by decide +kernel), List.mem_of_getElem? (i := 256) (by decide +kernel)⟩
theorem lw_p13 : lw_okq (⟨"PatchesSameAge$Roll", "add", "(III)V"⟩, 5) := ⟨⟨by decide +kernel, by decide +kernel⟩, List.mem_of_getElem? (i := 48) (by decide +kernel), List.mem_of_getElem? (i := 259) (by decide +kernel), List.mem_of_getElem? (i := 260) (by decide +kernel)⟩
theorem lw_p14 : lw_okq (⟨"PatchesSameAge", "tellPut", "(II)Z"⟩, 15) := ⟨⟨by decide +kernel, by decide +kernel⟩, List.mem_of_getElem? (i := 12) (by decide +kernel), List.mem_of_getElem? (i := 263) (by decide +kernel), List.mem_of_getElem? (i := 264) (by decide +kernel)⟩
theorem lw_p15 : lw_okq (⟨"PatchesSameAge$Roll", "isFree", "(I)Z"⟩, 5) := ⟨⟨by decide +kernel, by decide +kernel⟩, List.mem_of_getElem? (i := 48) (by decide +kernel), List.mem_of_getElem? (i := 267) (by decide +kernel), List.mem_of_getElem? (i := 268) (by decide +kernel)⟩
def lw_privs_1 : List (MethodName × Nat) := [(⟨"PatchesSameAge", "refuse", "(I)I"⟩, 15), (⟨"PatchesSameAge$Text", "add", "(I)V"⟩, 2), (⟨"PatchesSameAge$Text", "formFault", "()I"⟩, 2), (⟨"PatchesSameAge$Text", "sizeAt", "(I)I"⟩, 2), (⟨"PatchesSameAge$Text", "letterAt", "(I)I"⟩, 2), (⟨"PatchesSameAge", "tellAll", "()I"⟩, 15), (⟨"PatchesSameAge$Cloth", "become", "(LPatchesSameAge$Cloth;)V"⟩, 5), (⟨"PatchesSameAge$Roll", "become", "(LPatchesSameAge$Roll;)V"⟩, 5), (⟨"PatchesSameAge", "tellOne", "(I)Z"⟩, 15), (⟨"PatchesSameAge$Text", "number", "(II)I"⟩, 2), (⟨"PatchesSameAge", "tellCells", "(III)Z"⟩, 15), (⟨"PatchesSameAge$Cloth", "make", "(IIII)V"⟩, 5), (⟨"PatchesSameAge", "tellPiece", "(III)Z"⟩, 15), (⟨"PatchesSameAge$Roll", "add", "(III)V"⟩, 5), (⟨"PatchesSameAge", "tellPut", "(II)Z"⟩, 15), (⟨"PatchesSameAge$Roll", "isFree", "(I)Z"⟩, 5)]
theorem lw_r1 : ∀ q ∈ lw_privs_1, lw_okq q := List.forall_mem_cons.mpr ⟨lw_p0, List.forall_mem_cons.mpr ⟨lw_p1, List.forall_mem_cons.mpr ⟨lw_p2, List.forall_mem_cons.mpr ⟨lw_p3, List.forall_mem_cons.mpr ⟨lw_p4, List.forall_mem_cons.mpr ⟨lw_p5, List.forall_mem_cons.mpr ⟨lw_p6, List.forall_mem_cons.mpr ⟨lw_p7, List.forall_mem_cons.mpr ⟨lw_p8, List.forall_mem_cons.mpr ⟨lw_p9, List.forall_mem_cons.mpr ⟨lw_p10, List.forall_mem_cons.mpr ⟨lw_p11, List.forall_mem_cons.mpr ⟨lw_p12, List.forall_mem_cons.mpr ⟨lw_p13, List.forall_mem_cons.mpr ⟨lw_p14, List.forall_mem_cons.mpr ⟨lw_p15, fun _ h => absurd h List.not_mem_nil⟩⟩⟩⟩⟩⟩⟩⟩⟩⟩⟩⟩⟩⟩⟩⟩
theorem lw_p16 : lw_okq (⟨"PatchesSameAge$Roll", "has", "(I)Z"⟩, 5) := ⟨⟨by decide +kernel, by decide +kernel⟩, List.mem_of_getElem? (i := 48) (by decide +kernel), List.mem_of_getElem? (i := 271) (by decide +kernel), List.mem_of_getElem? (i := 272) (by decide +kernel)⟩
theorem lw_p17 : lw_okq (⟨"PatchesSameAge$Cloth", "put", "(LPatchesSameAge$Roll;II)V"⟩, 5) := ⟨⟨by decide +kernel, by decide +kernel⟩, List.mem_of_getElem? (i := 20) (by decide +kernel), List.mem_of_getElem? (i := 275) (by decide +kernel), List.mem_of_getElem? (i := 276) (by decide +kernel)⟩
theorem lw_p18 : lw_okq (⟨"PatchesSameAge$Roll", "use", "(I)V"⟩, 5) := ⟨⟨by decide +kernel, by decide +kernel⟩, List.mem_of_getElem? (i := 48) (by decide +kernel), List.mem_of_getElem? (i := 280) (by decide +kernel), List.mem_of_getElem? (i := 281) (by decide +kernel)⟩
theorem lw_p19 : lw_okq (⟨"PatchesSameAge", "tellWear", "(II)Z"⟩, 15) := ⟨⟨by decide +kernel, by decide +kernel⟩, List.mem_of_getElem? (i := 12) (by decide +kernel), List.mem_of_getElem? (i := 284) (by decide +kernel), List.mem_of_getElem? (i := 285) (by decide +kernel)⟩
theorem lw_p20 : lw_okq (⟨"PatchesSameAge", "tellYears", "(I)Z"⟩, 15) := ⟨⟨by decide +kernel, by decide +kernel⟩, List.mem_of_getElem? (i := 12) (by decide +kernel), List.mem_of_getElem? (i := 288) (by decide +kernel), List.mem_of_getElem? (i := 289) (by decide +kernel)⟩
theorem lw_p21 : lw_okq (⟨"PatchesSameAge$Cloth", "goOn", "(I)V"⟩, 5) := ⟨⟨by decide +kernel, by decide +kernel⟩, List.mem_of_getElem? (i := 20) (by decide +kernel), List.mem_of_getElem? (i := 292) (by decide +kernel), List.mem_of_getElem? (i := 293) (by decide +kernel)⟩
theorem lw_p22 : lw_okq (⟨"PatchesSameAge$Cloth", "wearing", "(I)I"⟩, 5) := ⟨⟨by decide +kernel, by decide +kernel⟩, List.mem_of_getElem? (i := 20) (by decide +kernel), List.mem_of_getElem? (i := 296) (by decide +kernel), List.mem_of_getElem? (i := 297) (by decide +kernel)⟩
theorem lw_p23 : lw_okq (⟨"PatchesSameAge$Cloth", "pull", "(I)I"⟩, 5) := ⟨⟨by decide +kernel, by decide +kernel⟩, List.mem_of_getElem? (i := 20) (by decide +kernel), List.mem_of_getElem? (i := 300) (by decide +kernel), List.mem_of_getElem? (i := 301) (by decide +kernel)⟩
theorem lw_p24 : lw_okq (⟨"PatchesSameAge$Cloth", "growOlder", "(I)V"⟩, 5) := ⟨⟨by decide +kernel, by decide +kernel⟩, List.mem_of_getElem? (i := 20) (by decide +kernel), List.mem_of_getElem? (i := 315) (by decide +kernel), List.mem_of_getElem? (i := 316) (by decide +kernel)⟩
theorem lw_p25 : lw_okq (⟨"PatchesSameAge$Past", "forget", "()V"⟩, 4) := ⟨⟨by decide +kernel, by decide +kernel⟩, List.mem_of_getElem? (i := 79) (by decide +kernel), List.mem_of_getElem? (i := 321) (by decide +kernel), List.mem_of_getElem? (i := 322) (by decide +kernel)⟩
theorem lw_p26 : lw_okq (⟨"PatchesSameAge$Cloth", "hold", "(I)I"⟩, 5) := ⟨⟨by decide +kernel, by decide +kernel⟩, List.mem_of_getElem? (i := 20) (by decide +kernel), List.mem_of_getElem? (i := 331) (by decide +kernel), List.mem_of_getElem? (i := 332) (by decide +kernel)⟩
theorem lw_p27 : lw_okq (⟨"PatchesSameAge$Cloth", "isHole", "(I)Z"⟩, 5) := ⟨⟨by decide +kernel, by decide +kernel⟩, List.mem_of_getElem? (i := 20) (by decide +kernel), List.mem_of_getElem? (i := 335) (by decide +kernel), List.mem_of_getElem? (i := 336) (by decide +kernel)⟩
theorem lw_p28 : lw_okq (⟨"PatchesSameAge$Past", "note", "(LPatchesSameAge$Cloth;LPatchesSameAge$Roll;)V"⟩, 4) := ⟨⟨by decide +kernel, by decide +kernel⟩, List.mem_of_getElem? (i := 79) (by decide +kernel), List.mem_of_getElem? (i := 353) (by decide +kernel), List.mem_of_getElem? (i := 354) (by decide +kernel)⟩
theorem lw_p29 : lw_okq (⟨"PatchesSameAge$Cloth", "pullTogether", "()I"⟩, 5) := ⟨⟨by decide +kernel, by decide +kernel⟩, List.mem_of_getElem? (i := 20) (by decide +kernel), List.mem_of_getElem? (i := 363) (by decide +kernel), List.mem_of_getElem? (i := 364) (by decide +kernel)⟩
theorem lw_p30 : lw_okq (⟨"PatchesSameAge$Cloth", "holeBits", "()I"⟩, 5) := ⟨⟨by decide +kernel, by decide +kernel⟩, List.mem_of_getElem? (i := 20) (by decide +kernel), List.mem_of_getElem? (i := 375) (by decide +kernel), List.mem_of_getElem? (i := 376) (by decide +kernel)⟩
theorem lw_p31 : lw_okq (⟨"PatchesSameAge$Past", "takeBack", "(LPatchesSameAge$Cloth;LPatchesSameAge$Roll;)V"⟩, 4) := ⟨⟨by decide +kernel, by decide +kernel⟩, List.mem_of_getElem? (i := 79) (by decide +kernel), List.mem_of_getElem? (i := 390) (by decide +kernel), List.mem_of_getElem? (i := 391) (by decide +kernel)⟩
def lw_privs_2 : List (MethodName × Nat) := [(⟨"PatchesSameAge$Roll", "has", "(I)Z"⟩, 5), (⟨"PatchesSameAge$Cloth", "put", "(LPatchesSameAge$Roll;II)V"⟩, 5), (⟨"PatchesSameAge$Roll", "use", "(I)V"⟩, 5), (⟨"PatchesSameAge", "tellWear", "(II)Z"⟩, 15), (⟨"PatchesSameAge", "tellYears", "(I)Z"⟩, 15), (⟨"PatchesSameAge$Cloth", "goOn", "(I)V"⟩, 5), (⟨"PatchesSameAge$Cloth", "wearing", "(I)I"⟩, 5), (⟨"PatchesSameAge$Cloth", "pull", "(I)I"⟩, 5), (⟨"PatchesSameAge$Cloth", "growOlder", "(I)V"⟩, 5), (⟨"PatchesSameAge$Past", "forget", "()V"⟩, 4), (⟨"PatchesSameAge$Cloth", "hold", "(I)I"⟩, 5), (⟨"PatchesSameAge$Cloth", "isHole", "(I)Z"⟩, 5), (⟨"PatchesSameAge$Past", "note", "(LPatchesSameAge$Cloth;LPatchesSameAge$Roll;)V"⟩, 4), (⟨"PatchesSameAge$Cloth", "pullTogether", "()I"⟩, 5), (⟨"PatchesSameAge$Cloth", "holeBits", "()I"⟩, 5), (⟨"PatchesSameAge$Past", "takeBack", "(LPatchesSameAge$Cloth;LPatchesSameAge$Roll;)V"⟩, 4)]
theorem lw_r2 : ∀ q ∈ lw_privs_2, lw_okq q := List.forall_mem_cons.mpr ⟨lw_p16, List.forall_mem_cons.mpr ⟨lw_p17, List.forall_mem_cons.mpr ⟨lw_p18, List.forall_mem_cons.mpr ⟨lw_p19, List.forall_mem_cons.mpr ⟨lw_p20, List.forall_mem_cons.mpr ⟨lw_p21, List.forall_mem_cons.mpr ⟨lw_p22, List.forall_mem_cons.mpr ⟨lw_p23, List.forall_mem_cons.mpr ⟨lw_p24, List.forall_mem_cons.mpr ⟨lw_p25, List.forall_mem_cons.mpr ⟨lw_p26, List.forall_mem_cons.mpr ⟨lw_p27, List.forall_mem_cons.mpr ⟨lw_p28, List.forall_mem_cons.mpr ⟨lw_p29, List.forall_mem_cons.mpr ⟨lw_p30, List.forall_mem_cons.mpr ⟨lw_p31, fun _ h => absurd h List.not_mem_nil⟩⟩⟩⟩⟩⟩⟩⟩⟩⟩⟩⟩⟩⟩⟩⟩
theorem lw_p32 : lw_okq (⟨"PatchesSameAge", "thinkYears", "(I)V"⟩, 15) := ⟨⟨by decide +kernel, by decide +kernel⟩, List.mem_of_getElem? (i := 12) (by decide +kernel), List.mem_of_getElem? (i := 398) (by decide +kernel), List.mem_of_getElem? (i := 399) (by decide +kernel)⟩
theorem lw_p33 : lw_okq (⟨"PatchesSameAge$Cloth", "wearTogether", "()I"⟩, 5) := ⟨⟨by decide +kernel, by decide +kernel⟩, List.mem_of_getElem? (i := 20) (by decide +kernel), List.mem_of_getElem? (i := 406) (by decide +kernel), List.mem_of_getElem? (i := 407) (by decide +kernel)⟩
theorem lw_p34 : lw_okq (⟨"PatchesSameAge", "lastWhole", "()I"⟩, 15) := ⟨⟨by decide +kernel, by decide +kernel⟩, List.mem_of_getElem? (i := 12) (by decide +kernel), List.mem_of_getElem? (i := 414) (by decide +kernel), List.mem_of_getElem? (i := 415) (by decide +kernel)⟩
theorem lw_p35 : lw_okq (⟨"PatchesSameAge$Cloth", "yearsToHole", "(II)I"⟩, 5) := ⟨⟨by decide +kernel, by decide +kernel⟩, List.mem_of_getElem? (i := 20) (by decide +kernel), List.mem_of_getElem? (i := 418) (by decide +kernel), List.mem_of_getElem? (i := 419) (by decide +kernel)⟩
theorem lw_p36 : lw_okq (⟨"PatchesSameAge$Roll", "free", "()I"⟩, 5) := ⟨⟨by decide +kernel, by decide +kernel⟩, List.mem_of_getElem? (i := 48) (by decide +kernel), List.mem_of_getElem? (i := 462) (by decide +kernel), List.mem_of_getElem? (i := 463) (by decide +kernel)⟩
theorem lw_p37 : lw_okq (⟨"PatchesSameAge$Ways", "gather", "(LPatchesSameAge$Roll;)V"⟩, 4) := ⟨⟨by decide +kernel, by decide +kernel⟩, List.mem_of_getElem? (i := 116) (by decide +kernel), List.mem_of_getElem? (i := 467) (by decide +kernel), List.mem_of_getElem? (i := 468) (by decide +kernel)⟩
theorem lw_p38 : lw_okq (⟨"PatchesSameAge$Ways", "reckon", "(LPatchesSameAge$Cloth;LPatchesSameAge$Roll;LPatchesSameAge$Cloth;)V"⟩, 4) := ⟨⟨by decide +kernel, by decide +kernel⟩, List.mem_of_getElem? (i := 116) (by decide +kernel), List.mem_of_getElem? (i := 472) (by decide +kernel), List.mem_of_getElem? (i := 473) (by decide +kernel)⟩
theorem lw_p39 : lw_okq (⟨"PatchesSameAge$Ways", "many", "()I"⟩, 4) := ⟨⟨by decide +kernel, by decide +kernel⟩, List.mem_of_getElem? (i := 116) (by decide +kernel), List.mem_of_getElem? (i := 476) (by decide +kernel), List.mem_of_getElem? (i := 477) (by decide +kernel)⟩
theorem lw_p40 : lw_okq (⟨"PatchesSameAge$Ways", "takeOff", "()V"⟩, 4) := ⟨⟨by decide +kernel, by decide +kernel⟩, List.mem_of_getElem? (i := 116) (by decide +kernel), List.mem_of_getElem? (i := 480) (by decide +kernel), List.mem_of_getElem? (i := 481) (by decide +kernel)⟩
theorem lw_p41 : lw_okq (⟨"PatchesSameAge$Ways", "cellIn", "(II)I"⟩, 4) := ⟨⟨by decide +kernel, by decide +kernel⟩, List.mem_of_getElem? (i := 116) (by decide +kernel), List.mem_of_getElem? (i := 485) (by decide +kernel), List.mem_of_getElem? (i := 486) (by decide +kernel)⟩
theorem lw_p42 : lw_okq (⟨"PatchesSameAge$Ways", "isTaken", "(I)Z"⟩, 4) := ⟨⟨by decide +kernel, by decide +kernel⟩, List.mem_of_getElem? (i := 116) (by decide +kernel), List.mem_of_getElem? (i := 489) (by decide +kernel), List.mem_of_getElem? (i := 490) (by decide +kernel)⟩
theorem lw_p43 : lw_okq (⟨"PatchesSameAge$Ways", "leastWay", "()I"⟩, 4) := ⟨⟨by decide +kernel, by decide +kernel⟩, List.mem_of_getElem? (i := 116) (by decide +kernel), List.mem_of_getElem? (i := 495) (by decide +kernel), List.mem_of_getElem? (i := 496) (by decide +kernel)⟩
theorem lw_p44 : lw_okq (⟨"PatchesSameAge$Ways", "placeOf", "(I)I"⟩, 4) := ⟨⟨by decide +kernel, by decide +kernel⟩, List.mem_of_getElem? (i := 116) (by decide +kernel), List.mem_of_getElem? (i := 500) (by decide +kernel), List.mem_of_getElem? (i := 501) (by decide +kernel)⟩
theorem lw_p45 : lw_okq (⟨"PatchesSameAge$Ways", "number", "()I"⟩, 4) := ⟨⟨by decide +kernel, by decide +kernel⟩, List.mem_of_getElem? (i := 116) (by decide +kernel), List.mem_of_getElem? (i := 517) (by decide +kernel), List.mem_of_getElem? (i := 518) (by decide +kernel)⟩
theorem lw_p46 : lw_okq (⟨"PatchesSameAge", "thinkOther", "(III)V"⟩, 15) := ⟨⟨by decide +kernel, by decide +kernel⟩, List.mem_of_getElem? (i := 12) (by decide +kernel), List.mem_of_getElem? (i := 527) (by decide +kernel), List.mem_of_getElem? (i := 528) (by decide +kernel)⟩
theorem lw_p47 : lw_okq (⟨"PatchesSameAge", "bitsThatWoreSo", "(III)I"⟩, 15) := ⟨⟨by decide +kernel, by decide +kernel⟩, List.mem_of_getElem? (i := 12) (by decide +kernel), List.mem_of_getElem? (i := 547) (by decide +kernel), List.mem_of_getElem? (i := 548) (by decide +kernel)⟩
def lw_privs_3 : List (MethodName × Nat) := [(⟨"PatchesSameAge", "thinkYears", "(I)V"⟩, 15), (⟨"PatchesSameAge$Cloth", "wearTogether", "()I"⟩, 5), (⟨"PatchesSameAge", "lastWhole", "()I"⟩, 15), (⟨"PatchesSameAge$Cloth", "yearsToHole", "(II)I"⟩, 5), (⟨"PatchesSameAge$Roll", "free", "()I"⟩, 5), (⟨"PatchesSameAge$Ways", "gather", "(LPatchesSameAge$Roll;)V"⟩, 4), (⟨"PatchesSameAge$Ways", "reckon", "(LPatchesSameAge$Cloth;LPatchesSameAge$Roll;LPatchesSameAge$Cloth;)V"⟩, 4), (⟨"PatchesSameAge$Ways", "many", "()I"⟩, 4), (⟨"PatchesSameAge$Ways", "takeOff", "()V"⟩, 4), (⟨"PatchesSameAge$Ways", "cellIn", "(II)I"⟩, 4), (⟨"PatchesSameAge$Ways", "isTaken", "(I)Z"⟩, 4), (⟨"PatchesSameAge$Ways", "leastWay", "()I"⟩, 4), (⟨"PatchesSameAge$Ways", "placeOf", "(I)I"⟩, 4), (⟨"PatchesSameAge$Ways", "number", "()I"⟩, 4), (⟨"PatchesSameAge", "thinkOther", "(III)V"⟩, 15), (⟨"PatchesSameAge", "bitsThatWoreSo", "(III)I"⟩, 15)]
theorem lw_r3 : ∀ q ∈ lw_privs_3, lw_okq q := List.forall_mem_cons.mpr ⟨lw_p32, List.forall_mem_cons.mpr ⟨lw_p33, List.forall_mem_cons.mpr ⟨lw_p34, List.forall_mem_cons.mpr ⟨lw_p35, List.forall_mem_cons.mpr ⟨lw_p36, List.forall_mem_cons.mpr ⟨lw_p37, List.forall_mem_cons.mpr ⟨lw_p38, List.forall_mem_cons.mpr ⟨lw_p39, List.forall_mem_cons.mpr ⟨lw_p40, List.forall_mem_cons.mpr ⟨lw_p41, List.forall_mem_cons.mpr ⟨lw_p42, List.forall_mem_cons.mpr ⟨lw_p43, List.forall_mem_cons.mpr ⟨lw_p44, List.forall_mem_cons.mpr ⟨lw_p45, List.forall_mem_cons.mpr ⟨lw_p46, List.forall_mem_cons.mpr ⟨lw_p47, fun _ h => absurd h List.not_mem_nil⟩⟩⟩⟩⟩⟩⟩⟩⟩⟩⟩⟩⟩⟩⟩⟩
theorem lw_p48 : lw_okq (⟨"PatchesSameAge", "mindWoreSo", "(I)Z"⟩, 15) := ⟨⟨by decide +kernel, by decide +kernel⟩, List.mem_of_getElem? (i := 12) (by decide +kernel), List.mem_of_getElem? (i := 551) (by decide +kernel), List.mem_of_getElem? (i := 552) (by decide +kernel)⟩
theorem lw_p49 : lw_okq (⟨"PatchesSameAge", "agesThatWoreSo", "(I)I"⟩, 15) := ⟨⟨by decide +kernel, by decide +kernel⟩, List.mem_of_getElem? (i := 12) (by decide +kernel), List.mem_of_getElem? (i := 555) (by decide +kernel), List.mem_of_getElem? (i := 556) (by decide +kernel)⟩
theorem lw_p50 : lw_okq (⟨"PatchesSameAge$Cloth", "heapOf", "(II)I"⟩, 5) := ⟨⟨by decide +kernel, by decide +kernel⟩, List.mem_of_getElem? (i := 20) (by decide +kernel), List.mem_of_getElem? (i := 563) (by decide +kernel), List.mem_of_getElem? (i := 564) (by decide +kernel)⟩
theorem lw_p51 : lw_okq (⟨"PatchesSameAge$Cloth", "hangingOn", "(II)I"⟩, 5) := ⟨⟨by decide +kernel, by decide +kernel⟩, List.mem_of_getElem? (i := 20) (by decide +kernel), List.mem_of_getElem? (i := 567) (by decide +kernel), List.mem_of_getElem? (i := 568) (by decide +kernel)⟩
theorem lw_p52 : lw_okq (⟨"PatchesSameAge$Cloth", "risingFrom", "(I)I"⟩, 5) := ⟨⟨by decide +kernel, by decide +kernel⟩, List.mem_of_getElem? (i := 20) (by decide +kernel), List.mem_of_getElem? (i := 575) (by decide +kernel), List.mem_of_getElem? (i := 576) (by decide +kernel)⟩
theorem lw_p53 : lw_okq (⟨"PatchesSameAge$Cloth", "change", "(II)V"⟩, 5) := ⟨⟨by decide +kernel, by decide +kernel⟩, List.mem_of_getElem? (i := 20) (by decide +kernel), List.mem_of_getElem? (i := 583) (by decide +kernel), List.mem_of_getElem? (i := 584) (by decide +kernel)⟩
theorem lw_p54 : lw_okq (⟨"PatchesSameAge$Cloth", "moreWorn", "(I)I"⟩, 5) := ⟨⟨by decide +kernel, by decide +kernel⟩, List.mem_of_getElem? (i := 20) (by decide +kernel), List.mem_of_getElem? (i := 627) (by decide +kernel), List.mem_of_getElem? (i := 628) (by decide +kernel)⟩
theorem lw_p55 : lw_okq (⟨"PatchesSameAge", "refuseLong", "(I)J"⟩, 15) := ⟨⟨by decide +kernel, by decide +kernel⟩, List.mem_of_getElem? (i := 12) (by decide +kernel), List.mem_of_getElem? (i := 639) (by decide +kernel), List.mem_of_getElem? (i := 640) (by decide +kernel)⟩
theorem lw_p56 : lw_okq (⟨"PatchesSameAge", "waysToHole", "(III)J"⟩, 15) := ⟨⟨by decide +kernel, by decide +kernel⟩, List.mem_of_getElem? (i := 12) (by decide +kernel), List.mem_of_getElem? (i := 644) (by decide +kernel), List.mem_of_getElem? (i := 645) (by decide +kernel)⟩
theorem lw_p57 : lw_okq (⟨"PatchesSameAge$Cloth", "ageTogether", "()I"⟩, 5) := ⟨⟨by decide +kernel, by decide +kernel⟩, List.mem_of_getElem? (i := 20) (by decide +kernel), List.mem_of_getElem? (i := 655) (by decide +kernel), List.mem_of_getElem? (i := 656) (by decide +kernel)⟩
theorem lw_p58 : lw_okq (⟨"PatchesSameAgeModel", "refuse", "(I)I"⟩, 43) := ⟨⟨by decide +kernel, by decide +kernel⟩, List.mem_of_getElem? (i := 678) (by decide +kernel), List.mem_of_getElem? (i := 818) (by decide +kernel), List.mem_of_getElem? (i := 819) (by decide +kernel)⟩
theorem lw_p59 : lw_okq (⟨"PatchesSameAgeModel", "readStatement", "()V"⟩, 43) := ⟨⟨by decide +kernel, by decide +kernel⟩, List.mem_of_getElem? (i := 678) (by decide +kernel), List.mem_of_getElem? (i := 826) (by decide +kernel), List.mem_of_getElem? (i := 827) (by decide +kernel)⟩
theorem lw_p60 : lw_okq (⟨"PatchesSameAgeModel", "here", "()I"⟩, 43) := ⟨⟨by decide +kernel, by decide +kernel⟩, List.mem_of_getElem? (i := 678) (by decide +kernel), List.mem_of_getElem? (i := 830) (by decide +kernel), List.mem_of_getElem? (i := 831) (by decide +kernel)⟩
theorem lw_p61 : lw_okq (⟨"PatchesSameAgeModel", "readNumbers", "(II)V"⟩, 43) := ⟨⟨by decide +kernel, by decide +kernel⟩, List.mem_of_getElem? (i := 678) (by decide +kernel), List.mem_of_getElem? (i := 837) (by decide +kernel), List.mem_of_getElem? (i := 838) (by decide +kernel)⟩
theorem lw_p62 : lw_okq (⟨"PatchesSameAgeModel", "readDigits", "(I)I"⟩, 43) := ⟨⟨by decide +kernel, by decide +kernel⟩, List.mem_of_getElem? (i := 678) (by decide +kernel), List.mem_of_getElem? (i := 841) (by decide +kernel), List.mem_of_getElem? (i := 842) (by decide +kernel)⟩
theorem lw_p63 : lw_okq (⟨"PatchesSameAgeModel", "think", "()V"⟩, 43) := ⟨⟨by decide +kernel, by decide +kernel⟩, List.mem_of_getElem? (i := 678) (by decide +kernel), List.mem_of_getElem? (i := 850) (by decide +kernel), List.mem_of_getElem? (i := 851) (by decide +kernel)⟩
def lw_privs_4 : List (MethodName × Nat) := [(⟨"PatchesSameAge", "mindWoreSo", "(I)Z"⟩, 15), (⟨"PatchesSameAge", "agesThatWoreSo", "(I)I"⟩, 15), (⟨"PatchesSameAge$Cloth", "heapOf", "(II)I"⟩, 5), (⟨"PatchesSameAge$Cloth", "hangingOn", "(II)I"⟩, 5), (⟨"PatchesSameAge$Cloth", "risingFrom", "(I)I"⟩, 5), (⟨"PatchesSameAge$Cloth", "change", "(II)V"⟩, 5), (⟨"PatchesSameAge$Cloth", "moreWorn", "(I)I"⟩, 5), (⟨"PatchesSameAge", "refuseLong", "(I)J"⟩, 15), (⟨"PatchesSameAge", "waysToHole", "(III)J"⟩, 15), (⟨"PatchesSameAge$Cloth", "ageTogether", "()I"⟩, 5), (⟨"PatchesSameAgeModel", "refuse", "(I)I"⟩, 43), (⟨"PatchesSameAgeModel", "readStatement", "()V"⟩, 43), (⟨"PatchesSameAgeModel", "here", "()I"⟩, 43), (⟨"PatchesSameAgeModel", "readNumbers", "(II)V"⟩, 43), (⟨"PatchesSameAgeModel", "readDigits", "(I)I"⟩, 43), (⟨"PatchesSameAgeModel", "think", "()V"⟩, 43)]
theorem lw_r4 : ∀ q ∈ lw_privs_4, lw_okq q := List.forall_mem_cons.mpr ⟨lw_p48, List.forall_mem_cons.mpr ⟨lw_p49, List.forall_mem_cons.mpr ⟨lw_p50, List.forall_mem_cons.mpr ⟨lw_p51, List.forall_mem_cons.mpr ⟨lw_p52, List.forall_mem_cons.mpr ⟨lw_p53, List.forall_mem_cons.mpr ⟨lw_p54, List.forall_mem_cons.mpr ⟨lw_p55, List.forall_mem_cons.mpr ⟨lw_p56, List.forall_mem_cons.mpr ⟨lw_p57, List.forall_mem_cons.mpr ⟨lw_p58, List.forall_mem_cons.mpr ⟨lw_p59, List.forall_mem_cons.mpr ⟨lw_p60, List.forall_mem_cons.mpr ⟨lw_p61, List.forall_mem_cons.mpr ⟨lw_p62, List.forall_mem_cons.mpr ⟨lw_p63, fun _ h => absurd h List.not_mem_nil⟩⟩⟩⟩⟩⟩⟩⟩⟩⟩⟩⟩⟩⟩⟩⟩
theorem lw_p64 : lw_okq (⟨"PatchesSameAgeModel", "carryAll", "([IZ)V"⟩, 43) := ⟨⟨by decide +kernel, by decide +kernel⟩, List.mem_of_getElem? (i := 678) (by decide +kernel), List.mem_of_getElem? (i := 854) (by decide +kernel), List.mem_of_getElem? (i := 855) (by decide +kernel)⟩
theorem lw_p65 : lw_okq (⟨"PatchesSameAgeModel", "carry", "(I)I"⟩, 43) := ⟨⟨by decide +kernel, by decide +kernel⟩, List.mem_of_getElem? (i := 678) (by decide +kernel), List.mem_of_getElem? (i := 858) (by decide +kernel), List.mem_of_getElem? (i := 859) (by decide +kernel)⟩
theorem lw_p66 : lw_okq (⟨"PatchesSameAgeModel", "comesTold", "(I)Z"⟩, 43) := ⟨⟨by decide +kernel, by decide +kernel⟩, List.mem_of_getElem? (i := 678) (by decide +kernel), List.mem_of_getElem? (i := 862) (by decide +kernel), List.mem_of_getElem? (i := 863) (by decide +kernel)⟩
theorem lw_p67 : lw_okq (⟨"PatchesSameAgeModel", "makeCell", "(IIII)V"⟩, 43) := ⟨⟨by decide +kernel, by decide +kernel⟩, List.mem_of_getElem? (i := 678) (by decide +kernel), List.mem_of_getElem? (i := 866) (by decide +kernel), List.mem_of_getElem? (i := 867) (by decide +kernel)⟩
theorem lw_p68 : lw_okq (⟨"PatchesSameAgeModel", "pieceComes", "(III)V"⟩, 43) := ⟨⟨by decide +kernel, by decide +kernel⟩, List.mem_of_getElem? (i := 678) (by decide +kernel), List.mem_of_getElem? (i := 870) (by decide +kernel), List.mem_of_getElem? (i := 871) (by decide +kernel)⟩
theorem lw_p69 : lw_okq (⟨"PatchesSameAgeModel", "isPiece", "(I)Z"⟩, 43) := ⟨⟨by decide +kernel, by decide +kernel⟩, List.mem_of_getElem? (i := 678) (by decide +kernel), List.mem_of_getElem? (i := 874) (by decide +kernel), List.mem_of_getElem? (i := 875) (by decide +kernel)⟩
theorem lw_p70 : lw_okq (⟨"PatchesSameAgeModel", "putOn", "(II)V"⟩, 43) := ⟨⟨by decide +kernel, by decide +kernel⟩, List.mem_of_getElem? (i := 678) (by decide +kernel), List.mem_of_getElem? (i := 878) (by decide +kernel), List.mem_of_getElem? (i := 879) (by decide +kernel)⟩
theorem lw_p71 : lw_okq (⟨"PatchesSameAgeModel", "goYears", "(I)V"⟩, 43) := ⟨⟨by decide +kernel, by decide +kernel⟩, List.mem_of_getElem? (i := 678) (by decide +kernel), List.mem_of_getElem? (i := 883) (by decide +kernel), List.mem_of_getElem? (i := 884) (by decide +kernel)⟩
theorem lw_p72 : lw_okq (⟨"PatchesSameAgeModel", "yearOn", "()V"⟩, 43) := ⟨⟨by decide +kernel, by decide +kernel⟩, List.mem_of_getElem? (i := 678) (by decide +kernel), List.mem_of_getElem? (i := 887) (by decide +kernel), List.mem_of_getElem? (i := 888) (by decide +kernel)⟩
theorem lw_p73 : lw_okq (⟨"PatchesSameAgeModel", "wearsIn", "(II)I"⟩, 43) := ⟨⟨by decide +kernel, by decide +kernel⟩, List.mem_of_getElem? (i := 678) (by decide +kernel), List.mem_of_getElem? (i := 891) (by decide +kernel), List.mem_of_getElem? (i := 892) (by decide +kernel)⟩
theorem lw_p74 : lw_okq (⟨"PatchesSameAgeModel", "pullOf", "(I)I"⟩, 43) := ⟨⟨by decide +kernel, by decide +kernel⟩, List.mem_of_getElem? (i := 678) (by decide +kernel), List.mem_of_getElem? (i := 895) (by decide +kernel), List.mem_of_getElem? (i := 896) (by decide +kernel)⟩
theorem lw_p75 : lw_okq (⟨"PatchesSameAgeModel", "again", "()V"⟩, 43) := ⟨⟨by decide +kernel, by decide +kernel⟩, List.mem_of_getElem? (i := 678) (by decide +kernel), List.mem_of_getElem? (i := 908) (by decide +kernel), List.mem_of_getElem? (i := 909) (by decide +kernel)⟩
theorem lw_p76 : lw_okq (⟨"PatchesSameAgeModel", "holdsOf", "(I)I"⟩, 43) := ⟨⟨by decide +kernel, by decide +kernel⟩, List.mem_of_getElem? (i := 678) (by decide +kernel), List.mem_of_getElem? (i := 933) (by decide +kernel), List.mem_of_getElem? (i := 934) (by decide +kernel)⟩
theorem lw_p77 : lw_okq (⟨"PatchesSameAgeModel", "isHole", "(I)Z"⟩, 43) := ⟨⟨by decide +kernel, by decide +kernel⟩, List.mem_of_getElem? (i := 678) (by decide +kernel), List.mem_of_getElem? (i := 937) (by decide +kernel), List.mem_of_getElem? (i := 938) (by decide +kernel)⟩
theorem lw_p78 : lw_okq (⟨"PatchesSameAgeModel", "keepTurn", "()V"⟩, 43) := ⟨⟨by decide +kernel, by decide +kernel⟩, List.mem_of_getElem? (i := 678) (by decide +kernel), List.mem_of_getElem? (i := 955) (by decide +kernel), List.mem_of_getElem? (i := 956) (by decide +kernel)⟩
theorem lw_p79 : lw_okq (⟨"PatchesSameAgeModel", "allPull", "()I"⟩, 43) := ⟨⟨by decide +kernel, by decide +kernel⟩, List.mem_of_getElem? (i := 678) (by decide +kernel), List.mem_of_getElem? (i := 963) (by decide +kernel), List.mem_of_getElem? (i := 964) (by decide +kernel)⟩
def lw_privs_5 : List (MethodName × Nat) := [(⟨"PatchesSameAgeModel", "carryAll", "([IZ)V"⟩, 43), (⟨"PatchesSameAgeModel", "carry", "(I)I"⟩, 43), (⟨"PatchesSameAgeModel", "comesTold", "(I)Z"⟩, 43), (⟨"PatchesSameAgeModel", "makeCell", "(IIII)V"⟩, 43), (⟨"PatchesSameAgeModel", "pieceComes", "(III)V"⟩, 43), (⟨"PatchesSameAgeModel", "isPiece", "(I)Z"⟩, 43), (⟨"PatchesSameAgeModel", "putOn", "(II)V"⟩, 43), (⟨"PatchesSameAgeModel", "goYears", "(I)V"⟩, 43), (⟨"PatchesSameAgeModel", "yearOn", "()V"⟩, 43), (⟨"PatchesSameAgeModel", "wearsIn", "(II)I"⟩, 43), (⟨"PatchesSameAgeModel", "pullOf", "(I)I"⟩, 43), (⟨"PatchesSameAgeModel", "again", "()V"⟩, 43), (⟨"PatchesSameAgeModel", "holdsOf", "(I)I"⟩, 43), (⟨"PatchesSameAgeModel", "isHole", "(I)Z"⟩, 43), (⟨"PatchesSameAgeModel", "keepTurn", "()V"⟩, 43), (⟨"PatchesSameAgeModel", "allPull", "()I"⟩, 43)]
theorem lw_r5 : ∀ q ∈ lw_privs_5, lw_okq q := List.forall_mem_cons.mpr ⟨lw_p64, List.forall_mem_cons.mpr ⟨lw_p65, List.forall_mem_cons.mpr ⟨lw_p66, List.forall_mem_cons.mpr ⟨lw_p67, List.forall_mem_cons.mpr ⟨lw_p68, List.forall_mem_cons.mpr ⟨lw_p69, List.forall_mem_cons.mpr ⟨lw_p70, List.forall_mem_cons.mpr ⟨lw_p71, List.forall_mem_cons.mpr ⟨lw_p72, List.forall_mem_cons.mpr ⟨lw_p73, List.forall_mem_cons.mpr ⟨lw_p74, List.forall_mem_cons.mpr ⟨lw_p75, List.forall_mem_cons.mpr ⟨lw_p76, List.forall_mem_cons.mpr ⟨lw_p77, List.forall_mem_cons.mpr ⟨lw_p78, List.forall_mem_cons.mpr ⟨lw_p79, fun _ h => absurd h List.not_mem_nil⟩⟩⟩⟩⟩⟩⟩⟩⟩⟩⟩⟩⟩⟩⟩⟩
theorem lw_p80 : lw_okq (⟨"PatchesSameAgeModel", "holeBits", "()I"⟩, 43) := ⟨⟨by decide +kernel, by decide +kernel⟩, List.mem_of_getElem? (i := 678) (by decide +kernel), List.mem_of_getElem? (i := 978) (by decide +kernel), List.mem_of_getElem? (i := 979) (by decide +kernel)⟩
theorem lw_p81 : lw_okq (⟨"PatchesSameAgeModel", "allWear", "()I"⟩, 43) := ⟨⟨by decide +kernel, by decide +kernel⟩, List.mem_of_getElem? (i := 678) (by decide +kernel), List.mem_of_getElem? (i := 996) (by decide +kernel), List.mem_of_getElem? (i := 997) (by decide +kernel)⟩
theorem lw_p82 : lw_okq (⟨"PatchesSameAgeModel", "layLasts", "()V"⟩, 43) := ⟨⟨by decide +kernel, by decide +kernel⟩, List.mem_of_getElem? (i := 678) (by decide +kernel), List.mem_of_getElem? (i := 1005) (by decide +kernel), List.mem_of_getElem? (i := 1006) (by decide +kernel)⟩
theorem lw_p83 : lw_okq (⟨"PatchesSameAgeModel", "firstOf", "()I"⟩, 43) := ⟨⟨by decide +kernel, by decide +kernel⟩, List.mem_of_getElem? (i := 678) (by decide +kernel), List.mem_of_getElem? (i := 1009) (by decide +kernel), List.mem_of_getElem? (i := 1010) (by decide +kernel)⟩
theorem lw_p84 : lw_okq (⟨"PatchesSameAgeModel", "freeBits", "()I"⟩, 43) := ⟨⟨by decide +kernel, by decide +kernel⟩, List.mem_of_getElem? (i := 678) (by decide +kernel), List.mem_of_getElem? (i := 1029) (by decide +kernel), List.mem_of_getElem? (i := 1030) (by decide +kernel)⟩
theorem lw_p85 : lw_okq (⟨"PatchesSameAgeModel", "layFree", "()V"⟩, 43) := ⟨⟨by decide +kernel, by decide +kernel⟩, List.mem_of_getElem? (i := 678) (by decide +kernel), List.mem_of_getElem? (i := 1041) (by decide +kernel), List.mem_of_getElem? (i := 1042) (by decide +kernel)⟩
theorem lw_p86 : lw_okq (⟨"PatchesSameAgeModel", "areApart", "()Z"⟩, 43) := ⟨⟨by decide +kernel, by decide +kernel⟩, List.mem_of_getElem? (i := 678) (by decide +kernel), List.mem_of_getElem? (i := 1046) (by decide +kernel), List.mem_of_getElem? (i := 1047) (by decide +kernel)⟩
theorem lw_p87 : lw_okq (⟨"PatchesSameAgeModel", "playAll", "()V"⟩, 43) := ⟨⟨by decide +kernel, by decide +kernel⟩, List.mem_of_getElem? (i := 678) (by decide +kernel), List.mem_of_getElem? (i := 1058) (by decide +kernel), List.mem_of_getElem? (i := 1059) (by decide +kernel)⟩
theorem lw_p88 : lw_okq (⟨"PatchesSameAgeModel", "canTry", "(I)Z"⟩, 43) := ⟨⟨by decide +kernel, by decide +kernel⟩, List.mem_of_getElem? (i := 678) (by decide +kernel), List.mem_of_getElem? (i := 1062) (by decide +kernel), List.mem_of_getElem? (i := 1063) (by decide +kernel)⟩
theorem lw_p89 : lw_okq (⟨"PatchesSameAgeModel", "takeWorth", "(II)V"⟩, 43) := ⟨⟨by decide +kernel, by decide +kernel⟩, List.mem_of_getElem? (i := 678) (by decide +kernel), List.mem_of_getElem? (i := 1066) (by decide +kernel), List.mem_of_getElem? (i := 1067) (by decide +kernel)⟩
theorem lw_p90 : lw_okq (⟨"PatchesSameAgeModel", "layTried", "(I)V"⟩, 43) := ⟨⟨by decide +kernel, by decide +kernel⟩, List.mem_of_getElem? (i := 678) (by decide +kernel), List.mem_of_getElem? (i := 1073) (by decide +kernel), List.mem_of_getElem? (i := 1074) (by decide +kernel)⟩
theorem lw_p91 : lw_okq (⟨"PatchesSameAgeModel", "isRow", "(I)Z"⟩, 43) := ⟨⟨by decide +kernel, by decide +kernel⟩, List.mem_of_getElem? (i := 678) (by decide +kernel), List.mem_of_getElem? (i := 1081) (by decide +kernel), List.mem_of_getElem? (i := 1082) (by decide +kernel)⟩
theorem lw_p92 : lw_okq (⟨"PatchesSameAgeModel", "layHeaps", "(I)V"⟩, 43) := ⟨⟨by decide +kernel, by decide +kernel⟩, List.mem_of_getElem? (i := 678) (by decide +kernel), List.mem_of_getElem? (i := 1089) (by decide +kernel), List.mem_of_getElem? (i := 1090) (by decide +kernel)⟩
theorem lw_p93 : lw_okq (⟨"PatchesSameAgeModel", "swapCells", "(II)V"⟩, 43) := ⟨⟨by decide +kernel, by decide +kernel⟩, List.mem_of_getElem? (i := 678) (by decide +kernel), List.mem_of_getElem? (i := 1101) (by decide +kernel), List.mem_of_getElem? (i := 1102) (by decide +kernel)⟩
theorem lw_p94 : lw_okq (⟨"PatchesSameAgeModel", "ofSize", "(II)I"⟩, 43) := ⟨⟨by decide +kernel, by decide +kernel⟩, List.mem_of_getElem? (i := 678) (by decide +kernel), List.mem_of_getElem? (i := 1126) (by decide +kernel), List.mem_of_getElem? (i := 1127) (by decide +kernel)⟩
theorem lw_p95 : lw_okq (⟨"PatchesSameAgeModel", "allAges", "()I"⟩, 43) := ⟨⟨by decide +kernel, by decide +kernel⟩, List.mem_of_getElem? (i := 678) (by decide +kernel), List.mem_of_getElem? (i := 1171) (by decide +kernel), List.mem_of_getElem? (i := 1172) (by decide +kernel)⟩
def lw_privs_6 : List (MethodName × Nat) := [(⟨"PatchesSameAgeModel", "holeBits", "()I"⟩, 43), (⟨"PatchesSameAgeModel", "allWear", "()I"⟩, 43), (⟨"PatchesSameAgeModel", "layLasts", "()V"⟩, 43), (⟨"PatchesSameAgeModel", "firstOf", "()I"⟩, 43), (⟨"PatchesSameAgeModel", "freeBits", "()I"⟩, 43), (⟨"PatchesSameAgeModel", "layFree", "()V"⟩, 43), (⟨"PatchesSameAgeModel", "areApart", "()Z"⟩, 43), (⟨"PatchesSameAgeModel", "playAll", "()V"⟩, 43), (⟨"PatchesSameAgeModel", "canTry", "(I)Z"⟩, 43), (⟨"PatchesSameAgeModel", "takeWorth", "(II)V"⟩, 43), (⟨"PatchesSameAgeModel", "layTried", "(I)V"⟩, 43), (⟨"PatchesSameAgeModel", "isRow", "(I)Z"⟩, 43), (⟨"PatchesSameAgeModel", "layHeaps", "(I)V"⟩, 43), (⟨"PatchesSameAgeModel", "swapCells", "(II)V"⟩, 43), (⟨"PatchesSameAgeModel", "ofSize", "(II)I"⟩, 43), (⟨"PatchesSameAgeModel", "allAges", "()I"⟩, 43)]
theorem lw_r6 : ∀ q ∈ lw_privs_6, lw_okq q := List.forall_mem_cons.mpr ⟨lw_p80, List.forall_mem_cons.mpr ⟨lw_p81, List.forall_mem_cons.mpr ⟨lw_p82, List.forall_mem_cons.mpr ⟨lw_p83, List.forall_mem_cons.mpr ⟨lw_p84, List.forall_mem_cons.mpr ⟨lw_p85, List.forall_mem_cons.mpr ⟨lw_p86, List.forall_mem_cons.mpr ⟨lw_p87, List.forall_mem_cons.mpr ⟨lw_p88, List.forall_mem_cons.mpr ⟨lw_p89, List.forall_mem_cons.mpr ⟨lw_p90, List.forall_mem_cons.mpr ⟨lw_p91, List.forall_mem_cons.mpr ⟨lw_p92, List.forall_mem_cons.mpr ⟨lw_p93, List.forall_mem_cons.mpr ⟨lw_p94, List.forall_mem_cons.mpr ⟨lw_p95, fun _ h => absurd h List.not_mem_nil⟩⟩⟩⟩⟩⟩⟩⟩⟩⟩⟩⟩⟩⟩⟩⟩
theorem lw_p96 : lw_okq (⟨"PatchesSameAgeModel", "drawBelow", "(I)I"⟩, 43) := ⟨⟨by decide +kernel, by decide +kernel⟩, List.mem_of_getElem? (i := 678) (by decide +kernel), List.mem_of_getElem? (i := 1200) (by decide +kernel), List.mem_of_getElem? (i := 1201) (by decide +kernel)⟩
def lw_privs_7 : List (MethodName × Nat) := [(⟨"PatchesSameAgeModel", "drawBelow", "(I)I"⟩, 43)]
theorem lw_r7 : ∀ q ∈ lw_privs_7, lw_okq q := List.forall_mem_cons.mpr ⟨lw_p96, fun _ h => absurd h List.not_mem_nil⟩
def lw_privs : List (MethodName × Nat) := lw_privs_1 ++ (lw_privs_2 ++ (lw_privs_3 ++ (lw_privs_4 ++ (lw_privs_5 ++ (lw_privs_6 ++ (lw_privs_7))))))
def lw_tbl : List Cond := k2_sels lw_privs ++ tables_1
theorem lw_privs_ok : ∀ q ∈ lw_privs, lw_okq q := by
  show ∀ q ∈ lw_privs_1 ++ (lw_privs_2 ++ (lw_privs_3 ++ (lw_privs_4 ++ (lw_privs_5 ++ (lw_privs_6 ++ (lw_privs_7)))))), lw_okq q
  exact List.forall_mem_append.mpr ⟨lw_r1, List.forall_mem_append.mpr ⟨lw_r2, List.forall_mem_append.mpr ⟨lw_r3, List.forall_mem_append.mpr ⟨lw_r4, List.forall_mem_append.mpr ⟨lw_r5, List.forall_mem_append.mpr ⟨lw_r6, lw_r7⟩⟩⟩⟩⟩⟩
end
section
def RX0 : String := "PatchesSameAge$Cloth"
def TX0 : u_T := fun k => match k with
  | 0 => ("PatchesSameAge$Cloth", "kind", "[I", true)
  | 1 => ("PatchesSameAge$Cloth", "figure", "[I", true)
  | 2 => ("PatchesSameAge$Cloth", "age", "[I", true)
  | 3 => ("PatchesSameAge$Cloth", "wear", "[I", true)
  | _ => ("PatchesSameAge$Cloth", "year", "I", false)
def tyX0 : Nat → FieldType := fun k => match k with
  | 0 => .array .int
  | 1 => .array .int
  | 2 => .array .int
  | 3 => .array .int
  | _ => .int
abbrev wsX00 : List Cond := u_ws RX0 TX0 5
theorem nmX0 : ∀ a, a < 5 → ∀ b, b < 5 → a ≠ b → (TX0 a).2.1 ≠ (TX0 b).2.1 := by decide +kernel
theorem tyX0_ok : ∀ k, k < 5 → parseFieldDescriptor (TX0 k).2.2.1 = some (tyX0 k) := by decide +kernel
abbrev cX0_init : ByteArray := prog_2_method_1_code
def yX0_init : MethodName := ⟨RX0, "<init>", "()V"⟩
abbrev cX0_become : ByteArray := prog_2_method_2_code
def yX0_become : MethodName := ⟨RX0, "become", "(LPatchesSameAge$Cloth;)V"⟩
abbrev cX0_make : ByteArray := prog_2_method_3_code
def yX0_make : MethodName := ⟨RX0, "make", "(IIII)V"⟩
abbrev cX0_put : ByteArray := prog_2_method_4_code
def yX0_put : MethodName := ⟨RX0, "put", "(LPatchesSameAge$Roll;II)V"⟩
abbrev cX0_change : ByteArray := prog_2_method_5_code
def yX0_change : MethodName := ⟨RX0, "change", "(II)V"⟩
abbrev cX0_changeIn : ByteArray := prog_2_method_6_code
def yX0_changeIn : MethodName := ⟨RX0, "changeIn", "([III)V"⟩
abbrev cX0_pull : ByteArray := prog_2_method_7_code
def yX0_pull : MethodName := ⟨RX0, "pull", "(I)I"⟩
abbrev cX0_pullTogether : ByteArray := prog_2_method_8_code
def yX0_pullTogether : MethodName := ⟨RX0, "pullTogether", "()I"⟩
abbrev cX0_wearing : ByteArray := prog_2_method_9_code
def yX0_wearing : MethodName := ⟨RX0, "wearing", "(I)I"⟩
abbrev cX0_hold : ByteArray := prog_2_method_10_code
def yX0_hold : MethodName := ⟨RX0, "hold", "(I)I"⟩
abbrev cX0_isHole : ByteArray := prog_2_method_11_code
def yX0_isHole : MethodName := ⟨RX0, "isHole", "(I)Z"⟩
abbrev cX0_holeBits : ByteArray := prog_2_method_12_code
def yX0_holeBits : MethodName := ⟨RX0, "holeBits", "()I"⟩
abbrev cX0_goOn : ByteArray := prog_2_method_13_code
def yX0_goOn : MethodName := ⟨RX0, "goOn", "(I)V"⟩
abbrev cX0_growOlder : ByteArray := prog_2_method_14_code
def yX0_growOlder : MethodName := ⟨RX0, "growOlder", "(I)V"⟩
abbrev cX0_yearsToHole : ByteArray := prog_2_method_15_code
def yX0_yearsToHole : MethodName := ⟨RX0, "yearsToHole", "(II)I"⟩
abbrev cX0_ageTogether : ByteArray := prog_2_method_16_code
def yX0_ageTogether : MethodName := ⟨RX0, "ageTogether", "()I"⟩
abbrev cX0_wearTogether : ByteArray := prog_2_method_17_code
def yX0_wearTogether : MethodName := ⟨RX0, "wearTogether", "()I"⟩
abbrev cX0_moreWorn : ByteArray := prog_2_method_18_code
def yX0_moreWorn : MethodName := ⟨RX0, "moreWorn", "(I)I"⟩
abbrev cX0_risingFrom : ByteArray := prog_2_method_19_code
def yX0_risingFrom : MethodName := ⟨RX0, "risingFrom", "(I)I"⟩
abbrev cX0_heapOf : ByteArray := prog_2_method_20_code
def yX0_heapOf : MethodName := ⟨RX0, "heapOf", "(II)I"⟩
abbrev cX0_hangingOn : ByteArray := prog_2_method_21_code
def yX0_hangingOn : MethodName := ⟨RX0, "hangingOn", "(II)I"⟩
def RX1 : String := "PatchesSameAge$Past"
def TX1 : u_T := fun k => match k with
  | 0 => ("PatchesSameAge$Past", "cloth", "[LPatchesSameAge$Cloth;", true)
  | 1 => ("PatchesSameAge$Past", "used", "[I", true)
  | 2 => ("PatchesSameAge$Past", "next", "I", false)
  | _ => ("PatchesSameAge$Past", "size", "I", false)
def tyX1 : Nat → FieldType := fun k => match k with
  | 0 => .array (.object "PatchesSameAge$Cloth")
  | 1 => .array .int
  | 2 => .int
  | _ => .int
abbrev wsX10 : List Cond := u_ws RX1 TX1 4
theorem nmX1 : ∀ a, a < 4 → ∀ b, b < 4 → a ≠ b → (TX1 a).2.1 ≠ (TX1 b).2.1 := by decide +kernel
theorem tyX1_ok : ∀ k, k < 4 → parseFieldDescriptor (TX1 k).2.2.1 = some (tyX1 k) := by decide +kernel
abbrev cX1_init : ByteArray := prog_3_method_1_code
def yX1_init : MethodName := ⟨RX1, "<init>", "()V"⟩
abbrev cX1_note : ByteArray := prog_3_method_2_code
def yX1_note : MethodName := ⟨RX1, "note", "(LPatchesSameAge$Cloth;LPatchesSameAge$Roll;)V"⟩
abbrev cX1_takeBack : ByteArray := prog_3_method_3_code
def yX1_takeBack : MethodName := ⟨RX1, "takeBack", "(LPatchesSameAge$Cloth;LPatchesSameAge$Roll;)V"⟩
abbrev cX1_forget : ByteArray := prog_3_method_4_code
def yX1_forget : MethodName := ⟨RX1, "forget", "()V"⟩
def RX2 : String := "PatchesSameAge$Roll"
def TX2 : u_T := fun k => match k with
  | 0 => ("PatchesSameAge$Roll", "kind", "[I", true)
  | 1 => ("PatchesSameAge$Roll", "figure", "[I", true)
  | 2 => ("PatchesSameAge$Roll", "age", "[I", true)
  | 3 => ("PatchesSameAge$Roll", "size", "I", false)
  | _ => ("PatchesSameAge$Roll", "used", "I", false)
def tyX2 : Nat → FieldType := fun k => match k with
  | 0 => .array .int
  | 1 => .array .int
  | 2 => .array .int
  | 3 => .int
  | _ => .int
abbrev wsX20 : List Cond := u_ws RX2 TX2 5
theorem nmX2 : ∀ a, a < 5 → ∀ b, b < 5 → a ≠ b → (TX2 a).2.1 ≠ (TX2 b).2.1 := by decide +kernel
theorem tyX2_ok : ∀ k, k < 5 → parseFieldDescriptor (TX2 k).2.2.1 = some (tyX2 k) := by decide +kernel
abbrev cX2_init : ByteArray := prog_4_method_1_code
def yX2_init : MethodName := ⟨RX2, "<init>", "()V"⟩
abbrev cX2_become : ByteArray := prog_4_method_2_code
def yX2_become : MethodName := ⟨RX2, "become", "(LPatchesSameAge$Roll;)V"⟩
abbrev cX2_add : ByteArray := prog_4_method_3_code
def yX2_add : MethodName := ⟨RX2, "add", "(III)V"⟩
abbrev cX2_has : ByteArray := prog_4_method_4_code
def yX2_has : MethodName := ⟨RX2, "has", "(I)Z"⟩
abbrev cX2_isFree : ByteArray := prog_4_method_5_code
def yX2_isFree : MethodName := ⟨RX2, "isFree", "(I)Z"⟩
abbrev cX2_use : ByteArray := prog_4_method_6_code
def yX2_use : MethodName := ⟨RX2, "use", "(I)V"⟩
abbrev cX2_free : ByteArray := prog_4_method_7_code
def yX2_free : MethodName := ⟨RX2, "free", "()I"⟩
def RX3 : String := "PatchesSameAge$Text"
def TX3 : u_T := fun k => match k with
  | 0 => ("PatchesSameAge$Text", "letter", "[I", true)
  | _ => ("PatchesSameAge$Text", "length", "I", false)
def tyX3 : Nat → FieldType := fun k => match k with
  | 0 => .array .int
  | _ => .int
abbrev wsX30 : List Cond := u_ws RX3 TX3 2
theorem nmX3 : ∀ a, a < 2 → ∀ b, b < 2 → a ≠ b → (TX3 a).2.1 ≠ (TX3 b).2.1 := by decide +kernel
theorem tyX3_ok : ∀ k, k < 2 → parseFieldDescriptor (TX3 k).2.2.1 = some (tyX3 k) := by decide +kernel
abbrev cX3_init : ByteArray := prog_5_method_1_code
def yX3_init : MethodName := ⟨RX3, "<init>", "()V"⟩
abbrev cX3_add : ByteArray := prog_5_method_2_code
def yX3_add : MethodName := ⟨RX3, "add", "(I)V"⟩
abbrev cX3_letterAt : ByteArray := prog_5_method_3_code
def yX3_letterAt : MethodName := ⟨RX3, "letterAt", "(I)I"⟩
abbrev cX3_sizeAt : ByteArray := prog_5_method_4_code
def yX3_sizeAt : MethodName := ⟨RX3, "sizeAt", "(I)I"⟩
abbrev cX3_formFault : ByteArray := prog_5_method_5_code
def yX3_formFault : MethodName := ⟨RX3, "formFault", "()I"⟩
abbrev cX3_isDigit : ByteArray := prog_5_method_6_code
def yX3_isDigit : MethodName := ⟨RX3, "isDigit", "(I)Z"⟩
abbrev cX3_number : ByteArray := prog_5_method_7_code
def yX3_number : MethodName := ⟨RX3, "number", "(II)I"⟩
def RX4 : String := "PatchesSameAge$Ways"
def TX4 : u_T := fun k => match k with
  | 0 => ("PatchesSameAge$Ways", "piece", "[I", true)
  | 1 => ("PatchesSameAge$Ways", "at", "[I", true)
  | 2 => ("PatchesSameAge$Ways", "pull", "[I", true)
  | _ => ("PatchesSameAge$Ways", "size", "I", false)
def tyX4 : Nat → FieldType := fun k => match k with
  | 0 => .array .int
  | 1 => .array .int
  | 2 => .array .int
  | _ => .int
abbrev wsX40 : List Cond := u_ws RX4 TX4 4
theorem nmX4 : ∀ a, a < 4 → ∀ b, b < 4 → a ≠ b → (TX4 a).2.1 ≠ (TX4 b).2.1 := by decide +kernel
theorem tyX4_ok : ∀ k, k < 4 → parseFieldDescriptor (TX4 k).2.2.1 = some (tyX4 k) := by decide +kernel
abbrev cX4_init : ByteArray := prog_6_method_1_code
def yX4_init : MethodName := ⟨RX4, "<init>", "()V"⟩
abbrev cX4_gather : ByteArray := prog_6_method_2_code
def yX4_gather : MethodName := ⟨RX4, "gather", "(LPatchesSameAge$Roll;)V"⟩
abbrev cX4_placeOf : ByteArray := prog_6_method_3_code
def yX4_placeOf : MethodName := ⟨RX4, "placeOf", "(I)I"⟩
abbrev cX4_many : ByteArray := prog_6_method_4_code
def yX4_many : MethodName := ⟨RX4, "many", "()I"⟩
abbrev cX4_cellIn : ByteArray := prog_6_method_5_code
def yX4_cellIn : MethodName := ⟨RX4, "cellIn", "(II)I"⟩
abbrev cX4_reckon : ByteArray := prog_6_method_6_code
def yX4_reckon : MethodName := ⟨RX4, "reckon", "(LPatchesSameAge$Cloth;LPatchesSameAge$Roll;LPatchesSameAge$Cloth;)V"⟩
abbrev cX4_leastWay : ByteArray := prog_6_method_7_code
def yX4_leastWay : MethodName := ⟨RX4, "leastWay", "()I"⟩
abbrev cX4_takeOff : ByteArray := prog_6_method_8_code
def yX4_takeOff : MethodName := ⟨RX4, "takeOff", "()V"⟩
abbrev cX4_isTaken : ByteArray := prog_6_method_9_code
def yX4_isTaken : MethodName := ⟨RX4, "isTaken", "(I)Z"⟩
abbrev cX4_number : ByteArray := prog_6_method_10_code
def yX4_number : MethodName := ⟨RX4, "number", "()I"⟩
def RX5 : String := "PatchesSameAge"
def TX5 : u_T := fun k => match k with
  | 0 => ("PatchesSameAge", "now", "LPatchesSameAge$Cloth;", true)
  | 1 => ("PatchesSameAge", "roll", "LPatchesSameAge$Roll;", true)
  | 2 => ("PatchesSameAge", "past", "LPatchesSameAge$Past;", true)
  | 3 => ("PatchesSameAge", "text", "LPatchesSameAge$Text;", true)
  | 4 => ("PatchesSameAge", "numbers", "[I", true)
  | 5 => ("PatchesSameAge", "numberCount", "I", false)
  | 6 => ("PatchesSameAge", "refused", "[I", true)
  | 7 => ("PatchesSameAge", "imageCloth", "LPatchesSameAge$Cloth;", true)
  | 8 => ("PatchesSameAge", "imageRoll", "LPatchesSameAge$Roll;", true)
  | 9 => ("PatchesSameAge", "imageTaken", "Z", false)
  | 10 => ("PatchesSameAge", "mind", "LPatchesSameAge$Cloth;", true)
  | 11 => ("PatchesSameAge", "later", "LPatchesSameAge$Cloth;", true)
  | 12 => ("PatchesSameAge", "mindRoll", "LPatchesSameAge$Roll;", true)
  | 13 => ("PatchesSameAge", "ways", "LPatchesSameAge$Ways;", true)
  | _ => ("PatchesSameAge", "list", "[I", true)
def tyX5 : Nat → FieldType := fun k => match k with
  | 0 => .object "PatchesSameAge$Cloth"
  | 1 => .object "PatchesSameAge$Roll"
  | 2 => .object "PatchesSameAge$Past"
  | 3 => .object "PatchesSameAge$Text"
  | 4 => .array .int
  | 5 => .int
  | 6 => .array .int
  | 7 => .object "PatchesSameAge$Cloth"
  | 8 => .object "PatchesSameAge$Roll"
  | 9 => .boolean
  | 10 => .object "PatchesSameAge$Cloth"
  | 11 => .object "PatchesSameAge$Cloth"
  | 12 => .object "PatchesSameAge$Roll"
  | 13 => .object "PatchesSameAge$Ways"
  | _ => .array .int
abbrev wsX50 : List Cond := u_ws RX5 TX5 15
theorem nmX5 : ∀ a, a < 15 → ∀ b, b < 15 → a ≠ b → (TX5 a).2.1 ≠ (TX5 b).2.1 := by decide +kernel
theorem tyX5_ok : ∀ k, k < 15 → parseFieldDescriptor (TX5 k).2.2.1 = some (tyX5 k) := by decide +kernel
abbrev cX5_init : ByteArray := prog_1_method_1_code
def yX5_init : MethodName := ⟨RX5, "<init>", "()V"⟩
abbrev cX5_feed : ByteArray := prog_1_method_2_code
def yX5_feed : MethodName := ⟨RX5, "feed", "(I)I"⟩
abbrev cX5_trousers : ByteArray := prog_1_method_3_code
def yX5_trousers : MethodName := ⟨RX5, "trousers", "()I"⟩
abbrev cX5_tellAll : ByteArray := prog_1_method_4_code
def yX5_tellAll : MethodName := ⟨RX5, "tellAll", "()I"⟩
abbrev cX5_tellOne : ByteArray := prog_1_method_5_code
def yX5_tellOne : MethodName := ⟨RX5, "tellOne", "(I)Z"⟩
abbrev cX5_tellCells : ByteArray := prog_1_method_6_code
def yX5_tellCells : MethodName := ⟨RX5, "tellCells", "(III)Z"⟩
abbrev cX5_tellPiece : ByteArray := prog_1_method_7_code
def yX5_tellPiece : MethodName := ⟨RX5, "tellPiece", "(III)Z"⟩
abbrev cX5_tellPut : ByteArray := prog_1_method_8_code
def yX5_tellPut : MethodName := ⟨RX5, "tellPut", "(II)Z"⟩
abbrev cX5_tellWear : ByteArray := prog_1_method_9_code
def yX5_tellWear : MethodName := ⟨RX5, "tellWear", "(II)Z"⟩
abbrev cX5_tellYears : ByteArray := prog_1_method_10_code
def yX5_tellYears : MethodName := ⟨RX5, "tellYears", "(I)Z"⟩
abbrev cX5_cellOf : ByteArray := prog_1_method_11_code
def yX5_cellOf : MethodName := ⟨RX5, "cellOf", "(II)I"⟩
abbrev cX5_pieceOf : ByteArray := prog_1_method_12_code
def yX5_pieceOf : MethodName := ⟨RX5, "pieceOf", "(II)I"⟩
abbrev cX5_piece : ByteArray := prog_1_method_13_code
def yX5_piece : MethodName := ⟨RX5, "piece", "(III)I"⟩
abbrev cX5_cell : ByteArray := prog_1_method_14_code
def yX5_cell : MethodName := ⟨RX5, "cell", "(IIII)I"⟩
abbrev cX5_puts : ByteArray := prog_1_method_15_code
def yX5_puts : MethodName := ⟨RX5, "puts", "(II)I"⟩
abbrev cX5_wears : ByteArray := prog_1_method_16_code
def yX5_wears : MethodName := ⟨RX5, "wears", "(II)I"⟩
abbrev cX5_years : ByteArray := prog_1_method_17_code
def yX5_years : MethodName := ⟨RX5, "years", "(I)I"⟩
abbrev cX5_back : ByteArray := prog_1_method_18_code
def yX5_back : MethodName := ⟨RX5, "back", "()I"⟩
abbrev cX5_behind : ByteArray := prog_1_method_19_code
def yX5_behind : MethodName := ⟨RX5, "behind", "(III)I"⟩
abbrev cX5_all : ByteArray := prog_1_method_20_code
def yX5_all : MethodName := ⟨RX5, "all", "(II)I"⟩
abbrev cX5_thinkYears : ByteArray := prog_1_method_21_code
def yX5_thinkYears : MethodName := ⟨RX5, "thinkYears", "(I)V"⟩
abbrev cX5_holes : ByteArray := prog_1_method_22_code
def yX5_holes : MethodName := ⟨RX5, "holes", "(I)I"⟩
abbrev cX5_lastWhole : ByteArray := prog_1_method_23_code
def yX5_lastWhole : MethodName := ⟨RX5, "lastWhole", "()I"⟩
abbrev cX5_lasts : ByteArray := prog_1_method_24_code
def yX5_lasts : MethodName := ⟨RX5, "lasts", "(I)I"⟩
abbrev cX5_doomed : ByteArray := prog_1_method_25_code
def yX5_doomed : MethodName := ⟨RX5, "doomed", "(I)I"⟩
abbrev cX5_younger : ByteArray := prog_1_method_26_code
def yX5_younger : MethodName := ⟨RX5, "younger", "(I)I"⟩
abbrev cX5_fits : ByteArray := prog_1_method_27_code
def yX5_fits : MethodName := ⟨RX5, "fits", "(II)I"⟩
abbrev cX5_bestPiece : ByteArray := prog_1_method_28_code
def yX5_bestPiece : MethodName := ⟨RX5, "bestPiece", "(I)I"⟩
abbrev cX5_mend : ByteArray := prog_1_method_29_code
def yX5_mend : MethodName := ⟨RX5, "mend", "()I"⟩
abbrev cX5_keep : ByteArray := prog_1_method_30_code
def yX5_keep : MethodName := ⟨RX5, "keep", "()I"⟩
abbrev cX5_placed : ByteArray := prog_1_method_31_code
def yX5_placed : MethodName := ⟨RX5, "placed", "(I)I"⟩
abbrev cX5_when : ByteArray := prog_1_method_32_code
def yX5_when : MethodName := ⟨RX5, "when", "(II)I"⟩
abbrev cX5_turns : ByteArray := prog_1_method_33_code
def yX5_turns : MethodName := ⟨RX5, "turns", "(I)I"⟩
abbrev cX5_endOf : ByteArray := prog_1_method_34_code
def yX5_endOf : MethodName := ⟨RX5, "endOf", "(LPatchesSameAge$Ways;I)I"⟩
abbrev cX5_bestOf : ByteArray := prog_1_method_35_code
def yX5_bestOf : MethodName := ⟨RX5, "bestOf", "(II)I"⟩
abbrev cX5_row : ByteArray := prog_1_method_36_code
def yX5_row : MethodName := ⟨RX5, "row", "(I)I"⟩
abbrev cX5_clear : ByteArray := prog_1_method_37_code
def yX5_clear : MethodName := ⟨RX5, "clear", "()I"⟩
abbrev cX5_judge : ByteArray := prog_1_method_38_code
def yX5_judge : MethodName := ⟨RX5, "judge", "()I"⟩
abbrev cX5_whose : ByteArray := prog_1_method_39_code
def yX5_whose : MethodName := ⟨RX5, "whose", "(II)I"⟩
abbrev cX5_bitsThatWoreSo : ByteArray := prog_1_method_40_code
def yX5_bitsThatWoreSo : MethodName := ⟨RX5, "bitsThatWoreSo", "(III)I"⟩
abbrev cX5_agesThatWoreSo : ByteArray := prog_1_method_41_code
def yX5_agesThatWoreSo : MethodName := ⟨RX5, "agesThatWoreSo", "(I)I"⟩
abbrev cX5_thinkOther : ByteArray := prog_1_method_42_code
def yX5_thinkOther : MethodName := ⟨RX5, "thinkOther", "(III)V"⟩
abbrev cX5_mindWoreSo : ByteArray := prog_1_method_43_code
def yX5_mindWoreSo : MethodName := ⟨RX5, "mindWoreSo", "(I)Z"⟩
abbrev cX5_islands : ByteArray := prog_1_method_44_code
def yX5_islands : MethodName := ⟨RX5, "islands", "(II)I"⟩
abbrev cX5_strip : ByteArray := prog_1_method_45_code
def yX5_strip : MethodName := ⟨RX5, "strip", "(I)I"⟩
abbrev cX5_swap : ByteArray := prog_1_method_46_code
def yX5_swap : MethodName := ⟨RX5, "swap", "()I"⟩
abbrev cX5_oldest : ByteArray := prog_1_method_47_code
def yX5_oldest : MethodName := ⟨RX5, "oldest", "(I)I"⟩
abbrev cX5_tightest : ByteArray := prog_1_method_48_code
def yX5_tightest : MethodName := ⟨RX5, "tightest", "(I)I"⟩
abbrev cX5_ageFor : ByteArray := prog_1_method_49_code
def yX5_ageFor : MethodName := ⟨RX5, "ageFor", "(I)I"⟩
abbrev cX5_entire : ByteArray := prog_1_method_50_code
def yX5_entire : MethodName := ⟨RX5, "entire", "()I"⟩
abbrev cX5_harm : ByteArray := prog_1_method_51_code
def yX5_harm : MethodName := ⟨RX5, "harm", "(I)I"⟩
abbrev cX5_pairs : ByteArray := prog_1_method_52_code
def yX5_pairs : MethodName := ⟨RX5, "pairs", "()I"⟩
abbrev cX5_sumOf : ByteArray := prog_1_method_53_code
def yX5_sumOf : MethodName := ⟨RX5, "sumOf", "(I)I"⟩
abbrev cX5_rank : ByteArray := prog_1_method_54_code
def yX5_rank : MethodName := ⟨RX5, "rank", "(I)I"⟩
abbrev cX5_unlike : ByteArray := prog_1_method_55_code
def yX5_unlike : MethodName := ⟨RX5, "unlike", "()I"⟩
abbrev cX5_chance : ByteArray := prog_1_method_56_code
def yX5_chance : MethodName := ⟨RX5, "chance", "(IIII)J"⟩
abbrev cX5_waysToHole : ByteArray := prog_1_method_57_code
def yX5_waysToHole : MethodName := ⟨RX5, "waysToHole", "(III)J"⟩
abbrev cX5_mean : ByteArray := prog_1_method_58_code
def yX5_mean : MethodName := ⟨RX5, "mean", "(I)J"⟩
abbrev cX5_partOf : ByteArray := prog_1_method_59_code
def yX5_partOf : MethodName := ⟨RX5, "partOf", "(JJI)J"⟩
abbrev cX5_lots : ByteArray := prog_1_method_60_code
def yX5_lots : MethodName := ⟨RX5, "lots", "(III)I"⟩
abbrev cX5_image : ByteArray := prog_1_method_61_code
def yX5_image : MethodName := ⟨RX5, "image", "()I"⟩
abbrev cX5_restore : ByteArray := prog_1_method_62_code
def yX5_restore : MethodName := ⟨RX5, "restore", "()I"⟩
abbrev cX5_count : ByteArray := prog_1_method_63_code
def yX5_count : MethodName := ⟨RX5, "count", "(I)I"⟩
abbrev cX5_refuse : ByteArray := prog_1_method_64_code
def yX5_refuse : MethodName := ⟨RX5, "refuse", "(I)I"⟩
abbrev cX5_refuseLong : ByteArray := prog_1_method_65_code
def yX5_refuseLong : MethodName := ⟨RX5, "refuseLong", "(I)J"⟩
abbrev cX5_isCell : ByteArray := prog_1_method_66_code
def yX5_isCell : MethodName := ⟨RX5, "isCell", "(I)Z"⟩
abbrev cX5_isKind : ByteArray := prog_1_method_67_code
def yX5_isKind : MethodName := ⟨RX5, "isKind", "(I)Z"⟩
abbrev cX5_least : ByteArray := prog_1_method_68_code
def yX5_least : MethodName := ⟨RX5, "least", "(I)I"⟩
abbrev cX5_bySize : ByteArray := prog_1_method_69_code
def yX5_bySize : MethodName := ⟨RX5, "bySize", "([III)I"⟩
def RX6 : String := "PatchesSameAgeModel"
def TX6 : u_T := fun k => match k with
  | 0 => ("PatchesSameAgeModel", "kinds", "[I", true)
  | 1 => ("PatchesSameAgeModel", "figures", "[I", true)
  | 2 => ("PatchesSameAgeModel", "ages", "[I", true)
  | 3 => ("PatchesSameAgeModel", "wear0", "[I", true)
  | 4 => ("PatchesSameAgeModel", "year", "I", false)
  | 5 => ("PatchesSameAgeModel", "pieces", "I", false)
  | 6 => ("PatchesSameAgeModel", "pieceKind", "[I", true)
  | 7 => ("PatchesSameAgeModel", "pieceFigure", "[I", true)
  | 8 => ("PatchesSameAgeModel", "pieceAge", "[I", true)
  | 9 => ("PatchesSameAgeModel", "pieceUsed", "[I", true)
  | 10 => ("PatchesSameAgeModel", "thrown", "I", false)
  | 11 => ("PatchesSameAgeModel", "refusals", "[I", true)
  | 12 => ("PatchesSameAgeModel", "letters", "[I", true)
  | 13 => ("PatchesSameAgeModel", "letterMany", "I", false)
  | 14 => ("PatchesSameAgeModel", "at", "I", false)
  | 15 => ("PatchesSameAgeModel", "isBad", "Z", false)
  | 16 => ("PatchesSameAgeModel", "statements", "I", false)
  | 17 => ("PatchesSameAgeModel", "placeIn", "[I", true)
  | 18 => ("PatchesSameAgeModel", "letterOf", "[I", true)
  | 19 => ("PatchesSameAgeModel", "told", "[I", true)
  | 20 => ("PatchesSameAgeModel", "kept", "[I", true)
  | 21 => ("PatchesSameAgeModel", "imaged", "[I", true)
  | 22 => ("PatchesSameAgeModel", "hasImage", "Z", false)
  | 23 => ("PatchesSameAgeModel", "place0", "I", false)
  | 24 => ("PatchesSameAgeModel", "isTaking", "Z", false)
  | 25 => ("PatchesSameAgeModel", "keptIn", "[I", false)
  | 26 => ("PatchesSameAgeModel", "turns0", "[I", true)
  | 27 => ("PatchesSameAgeModel", "turnOf", "[I", true)
  | 28 => ("PatchesSameAgeModel", "turned", "I", false)
  | 29 => ("PatchesSameAgeModel", "lastsOf", "[I", true)
  | 30 => ("PatchesSameAgeModel", "free0", "[I", true)
  | 31 => ("PatchesSameAgeModel", "freeMany", "I", false)
  | 32 => ("PatchesSameAgeModel", "cellFor", "[I", true)
  | 33 => ("PatchesSameAgeModel", "bestFor", "[I", true)
  | 34 => ("PatchesSameAgeModel", "tried", "[I", true)
  | 35 => ("PatchesSameAgeModel", "worthAt", "[I", true)
  | 36 => ("PatchesSameAgeModel", "firstTried", "I", false)
  | 37 => ("PatchesSameAgeModel", "row", "[I", true)
  | 38 => ("PatchesSameAgeModel", "rowMany", "I", false)
  | 39 => ("PatchesSameAgeModel", "heapOf", "[I", true)
  | 40 => ("PatchesSameAgeModel", "wearAt", "[I", true)
  | 41 => ("PatchesSameAgeModel", "sorted", "[I", true)
  | _ => ("PatchesSameAgeModel", "seed", "I", false)
def tyX6 : Nat → FieldType := fun k => match k with
  | 0 => .array .int
  | 1 => .array .int
  | 2 => .array .int
  | 3 => .array .int
  | 4 => .int
  | 5 => .int
  | 6 => .array .int
  | 7 => .array .int
  | 8 => .array .int
  | 9 => .array .int
  | 10 => .int
  | 11 => .array .int
  | 12 => .array .int
  | 13 => .int
  | 14 => .int
  | 15 => .boolean
  | 16 => .int
  | 17 => .array .int
  | 18 => .array .int
  | 19 => .array .int
  | 20 => .array .int
  | 21 => .array .int
  | 22 => .boolean
  | 23 => .int
  | 24 => .boolean
  | 25 => .array .int
  | 26 => .array .int
  | 27 => .array .int
  | 28 => .int
  | 29 => .array .int
  | 30 => .array .int
  | 31 => .int
  | 32 => .array .int
  | 33 => .array .int
  | 34 => .array .int
  | 35 => .array .int
  | 36 => .int
  | 37 => .array .int
  | 38 => .int
  | 39 => .array .int
  | 40 => .array .int
  | 41 => .array .int
  | _ => .int
abbrev wsX60 : List Cond := u_ws RX6 TX6 43
theorem nmX6 : ∀ a, a < 43 → ∀ b, b < 43 → a ≠ b → (TX6 a).2.1 ≠ (TX6 b).2.1 := by decide +kernel
theorem tyX6_ok : ∀ k, k < 43 → parseFieldDescriptor (TX6 k).2.2.1 = some (tyX6 k) := by decide +kernel
abbrev cX6_init : ByteArray := prog_8_method_1_code
def yX6_init : MethodName := ⟨RX6, "<init>", "()V"⟩
abbrev cX6_in : ByteArray := prog_8_method_3_code
def yX6_in : MethodName := ⟨RX6, "in", "(JJJ)Z"⟩
abbrev cX6_refuse : ByteArray := prog_8_method_4_code
def yX6_refuse : MethodName := ⟨RX6, "refuse", "(I)I"⟩
abbrev cX6_isCell : ByteArray := prog_8_method_5_code
def yX6_isCell : MethodName := ⟨RX6, "isCell", "(I)Z"⟩
abbrev cX6_isPiece : ByteArray := prog_8_method_6_code
def yX6_isPiece : MethodName := ⟨RX6, "isPiece", "(I)Z"⟩
abbrev cX6_wrongNumber : ByteArray := prog_8_method_7_code
def yX6_wrongNumber : MethodName := ⟨RX6, "wrongNumber", "(III)I"⟩
abbrev cX6_wrongBit : ByteArray := prog_8_method_8_code
def yX6_wrongBit : MethodName := ⟨RX6, "wrongBit", "(III)I"⟩
abbrev cX6_hasBit : ByteArray := prog_8_method_9_code
def yX6_hasBit : MethodName := ⟨RX6, "hasBit", "(II)Z"⟩
abbrev cX6_onesOf : ByteArray := prog_8_method_10_code
def yX6_onesOf : MethodName := ⟨RX6, "onesOf", "(I)I"⟩
abbrev cX6_held : ByteArray := prog_8_method_11_code
def yX6_held : MethodName := ⟨RX6, "held", "(II)I"⟩
abbrev cX6_apart : ByteArray := prog_8_method_12_code
def yX6_apart : MethodName := ⟨RX6, "apart", "(II)I"⟩
abbrev cX6_besideOf : ByteArray := prog_8_method_13_code
def yX6_besideOf : MethodName := ⟨RX6, "besideOf", "(II)I"⟩
abbrev cX6_pullOf : ByteArray := prog_8_method_14_code
def yX6_pullOf : MethodName := ⟨RX6, "pullOf", "(I)I"⟩
abbrev cX6_wearsIn : ByteArray := prog_8_method_15_code
def yX6_wearsIn : MethodName := ⟨RX6, "wearsIn", "(II)I"⟩
abbrev cX6_holdsOf : ByteArray := prog_8_method_16_code
def yX6_holdsOf : MethodName := ⟨RX6, "holdsOf", "(I)I"⟩
abbrev cX6_isHole : ByteArray := prog_8_method_17_code
def yX6_isHole : MethodName := ⟨RX6, "isHole", "(I)Z"⟩
abbrev cX6_holeBits : ByteArray := prog_8_method_18_code
def yX6_holeBits : MethodName := ⟨RX6, "holeBits", "()I"⟩
abbrev cX6_allPull : ByteArray := prog_8_method_19_code
def yX6_allPull : MethodName := ⟨RX6, "allPull", "()I"⟩
abbrev cX6_allWear : ByteArray := prog_8_method_20_code
def yX6_allWear : MethodName := ⟨RX6, "allWear", "()I"⟩
abbrev cX6_allAges : ByteArray := prog_8_method_21_code
def yX6_allAges : MethodName := ⟨RX6, "allAges", "()I"⟩
abbrev cX6_yearOn : ByteArray := prog_8_method_22_code
def yX6_yearOn : MethodName := ⟨RX6, "yearOn", "()V"⟩
abbrev cX6_goYears : ByteArray := prog_8_method_23_code
def yX6_goYears : MethodName := ⟨RX6, "goYears", "(I)V"⟩
abbrev cX6_makeCell : ByteArray := prog_8_method_24_code
def yX6_makeCell : MethodName := ⟨RX6, "makeCell", "(IIII)V"⟩
abbrev cX6_putOn : ByteArray := prog_8_method_25_code
def yX6_putOn : MethodName := ⟨RX6, "putOn", "(II)V"⟩
abbrev cX6_feed : ByteArray := prog_8_method_26_code
def yX6_feed : MethodName := ⟨RX6, "feed", "(I)I"⟩
abbrev cX6_here : ByteArray := prog_8_method_27_code
def yX6_here : MethodName := ⟨RX6, "here", "()I"⟩
abbrev cX6_readDigits : ByteArray := prog_8_method_28_code
def yX6_readDigits : MethodName := ⟨RX6, "readDigits", "(I)I"⟩
abbrev cX6_isLetter : ByteArray := prog_8_method_29_code
def yX6_isLetter : MethodName := ⟨RX6, "isLetter", "(I)Z"⟩
abbrev cX6_readNumbers : ByteArray := prog_8_method_30_code
def yX6_readNumbers : MethodName := ⟨RX6, "readNumbers", "(II)V"⟩
abbrev cX6_readStatement : ByteArray := prog_8_method_31_code
def yX6_readStatement : MethodName := ⟨RX6, "readStatement", "()V"⟩
abbrev cX6_pieceComes : ByteArray := prog_8_method_32_code
def yX6_pieceComes : MethodName := ⟨RX6, "pieceComes", "(III)V"⟩
abbrev cX6_comesTold : ByteArray := prog_8_method_33_code
def yX6_comesTold : MethodName := ⟨RX6, "comesTold", "(I)Z"⟩
abbrev cX6_trousers : ByteArray := prog_8_method_34_code
def yX6_trousers : MethodName := ⟨RX6, "trousers", "()I"⟩
abbrev cX6_carry : ByteArray := prog_8_method_35_code
def yX6_carry : MethodName := ⟨RX6, "carry", "(I)I"⟩
abbrev cX6_carryAll : ByteArray := prog_8_method_36_code
def yX6_carryAll : MethodName := ⟨RX6, "carryAll", "([IZ)V"⟩
abbrev cX6_think : ByteArray := prog_8_method_37_code
def yX6_think : MethodName := ⟨RX6, "think", "()V"⟩
abbrev cX6_again : ByteArray := prog_8_method_38_code
def yX6_again : MethodName := ⟨RX6, "again", "()V"⟩
abbrev cX6_image : ByteArray := prog_8_method_39_code
def yX6_image : MethodName := ⟨RX6, "image", "()I"⟩
abbrev cX6_restore : ByteArray := prog_8_method_40_code
def yX6_restore : MethodName := ⟨RX6, "restore", "()I"⟩
abbrev cX6_keepTurn : ByteArray := prog_8_method_41_code
def yX6_keepTurn : MethodName := ⟨RX6, "keepTurn", "()V"⟩
abbrev cX6_back : ByteArray := prog_8_method_42_code
def yX6_back : MethodName := ⟨RX6, "back", "()I"⟩
abbrev cX6_cellOf : ByteArray := prog_8_method_43_code
def yX6_cellOf : MethodName := ⟨RX6, "cellOf", "(II)I"⟩
abbrev cX6_pieceOf : ByteArray := prog_8_method_44_code
def yX6_pieceOf : MethodName := ⟨RX6, "pieceOf", "(II)I"⟩
abbrev cX6_piece : ByteArray := prog_8_method_45_code
def yX6_piece : MethodName := ⟨RX6, "piece", "(III)I"⟩
abbrev cX6_cell : ByteArray := prog_8_method_46_code
def yX6_cell : MethodName := ⟨RX6, "cell", "(IIII)I"⟩
abbrev cX6_puts : ByteArray := prog_8_method_47_code
def yX6_puts : MethodName := ⟨RX6, "puts", "(II)I"⟩
abbrev cX6_wears : ByteArray := prog_8_method_48_code
def yX6_wears : MethodName := ⟨RX6, "wears", "(II)I"⟩
abbrev cX6_years : ByteArray := prog_8_method_49_code
def yX6_years : MethodName := ⟨RX6, "years", "(I)I"⟩
abbrev cX6_behind : ByteArray := prog_8_method_50_code
def yX6_behind : MethodName := ⟨RX6, "behind", "(III)I"⟩
abbrev cX6_all : ByteArray := prog_8_method_51_code
def yX6_all : MethodName := ⟨RX6, "all", "(II)I"⟩
abbrev cX6_layLasts : ByteArray := prog_8_method_52_code
def yX6_layLasts : MethodName := ⟨RX6, "layLasts", "()V"⟩
abbrev cX6_firstOf : ByteArray := prog_8_method_53_code
def yX6_firstOf : MethodName := ⟨RX6, "firstOf", "()I"⟩
abbrev cX6_holes : ByteArray := prog_8_method_54_code
def yX6_holes : MethodName := ⟨RX6, "holes", "(I)I"⟩
abbrev cX6_lasts : ByteArray := prog_8_method_55_code
def yX6_lasts : MethodName := ⟨RX6, "lasts", "(I)I"⟩
abbrev cX6_fits : ByteArray := prog_8_method_56_code
def yX6_fits : MethodName := ⟨RX6, "fits", "(II)I"⟩
abbrev cX6_bestPiece : ByteArray := prog_8_method_57_code
def yX6_bestPiece : MethodName := ⟨RX6, "bestPiece", "(I)I"⟩
abbrev cX6_freeBits : ByteArray := prog_8_method_58_code
def yX6_freeBits : MethodName := ⟨RX6, "freeBits", "()I"⟩
abbrev cX6_mend : ByteArray := prog_8_method_59_code
def yX6_mend : MethodName := ⟨RX6, "mend", "()I"⟩
abbrev cX6_keep : ByteArray := prog_8_method_60_code
def yX6_keep : MethodName := ⟨RX6, "keep", "()I"⟩
abbrev cX6_layFree : ByteArray := prog_8_method_61_code
def yX6_layFree : MethodName := ⟨RX6, "layFree", "()V"⟩
abbrev cX6_areApart : ByteArray := prog_8_method_62_code
def yX6_areApart : MethodName := ⟨RX6, "areApart", "()Z"⟩
abbrev cX6_placed : ByteArray := prog_8_method_63_code
def yX6_placed : MethodName := ⟨RX6, "placed", "(I)I"⟩
abbrev cX6_when : ByteArray := prog_8_method_64_code
def yX6_when : MethodName := ⟨RX6, "when", "(II)I"⟩
abbrev cX6_canTry : ByteArray := prog_8_method_65_code
def yX6_canTry : MethodName := ⟨RX6, "canTry", "(I)Z"⟩
abbrev cX6_layTried : ByteArray := prog_8_method_66_code
def yX6_layTried : MethodName := ⟨RX6, "layTried", "(I)V"⟩
abbrev cX6_isBetter : ByteArray := prog_8_method_67_code
def yX6_isBetter : MethodName := ⟨RX6, "isBetter", "(III)Z"⟩
abbrev cX6_playAll : ByteArray := prog_8_method_68_code
def yX6_playAll : MethodName := ⟨RX6, "playAll", "()V"⟩
abbrev cX6_takeWorth : ByteArray := prog_8_method_69_code
def yX6_takeWorth : MethodName := ⟨RX6, "takeWorth", "(II)V"⟩
abbrev cX6_turns : ByteArray := prog_8_method_70_code
def yX6_turns : MethodName := ⟨RX6, "turns", "(I)I"⟩
abbrev cX6_isRow : ByteArray := prog_8_method_71_code
def yX6_isRow : MethodName := ⟨RX6, "isRow", "(I)Z"⟩
abbrev cX6_whose : ByteArray := prog_8_method_72_code
def yX6_whose : MethodName := ⟨RX6, "whose", "(II)I"⟩
abbrev cX6_layHeaps : ByteArray := prog_8_method_73_code
def yX6_layHeaps : MethodName := ⟨RX6, "layHeaps", "(I)V"⟩
abbrev cX6_islands : ByteArray := prog_8_method_74_code
def yX6_islands : MethodName := ⟨RX6, "islands", "(II)I"⟩
abbrev cX6_strip : ByteArray := prog_8_method_75_code
def yX6_strip : MethodName := ⟨RX6, "strip", "(I)I"⟩
abbrev cX6_swapIn : ByteArray := prog_8_method_76_code
def yX6_swapIn : MethodName := ⟨RX6, "swapIn", "([III)V"⟩
abbrev cX6_swapCells : ByteArray := prog_8_method_77_code
def yX6_swapCells : MethodName := ⟨RX6, "swapCells", "(II)V"⟩
abbrev cX6_swap : ByteArray := prog_8_method_78_code
def yX6_swap : MethodName := ⟨RX6, "swap", "()I"⟩
abbrev cX6_divisor : ByteArray := prog_8_method_79_code
def yX6_divisor : MethodName := ⟨RX6, "divisor", "(JJ)J"⟩
abbrev cX6_partOf : ByteArray := prog_8_method_80_code
def yX6_partOf : MethodName := ⟨RX6, "partOf", "(JJI)J"⟩
abbrev cX6_chance : ByteArray := prog_8_method_81_code
def yX6_chance : MethodName := ⟨RX6, "chance", "(IIII)J"⟩
abbrev cX6_ofSize : ByteArray := prog_8_method_82_code
def yX6_ofSize : MethodName := ⟨RX6, "ofSize", "(II)I"⟩
abbrev cX6_oldest : ByteArray := prog_8_method_83_code
def yX6_oldest : MethodName := ⟨RX6, "oldest", "(I)I"⟩
abbrev cX6_tightest : ByteArray := prog_8_method_84_code
def yX6_tightest : MethodName := ⟨RX6, "tightest", "(I)I"⟩
abbrev cX6_ageFor : ByteArray := prog_8_method_85_code
def yX6_ageFor : MethodName := ⟨RX6, "ageFor", "(I)I"⟩
abbrev cX6_entire : ByteArray := prog_8_method_86_code
def yX6_entire : MethodName := ⟨RX6, "entire", "()I"⟩
abbrev cX6_bestOf : ByteArray := prog_8_method_87_code
def yX6_bestOf : MethodName := ⟨RX6, "bestOf", "(II)I"⟩
abbrev cX6_harm : ByteArray := prog_8_method_88_code
def yX6_harm : MethodName := ⟨RX6, "harm", "(I)I"⟩
abbrev cX6_pairs : ByteArray := prog_8_method_89_code
def yX6_pairs : MethodName := ⟨RX6, "pairs", "()I"⟩
abbrev cX6_sumOf : ByteArray := prog_8_method_90_code
def yX6_sumOf : MethodName := ⟨RX6, "sumOf", "(I)I"⟩
abbrev cX6_rank : ByteArray := prog_8_method_91_code
def yX6_rank : MethodName := ⟨RX6, "rank", "(I)I"⟩
abbrev cX6_doomed : ByteArray := prog_8_method_92_code
def yX6_doomed : MethodName := ⟨RX6, "doomed", "(I)I"⟩
abbrev cX6_mean : ByteArray := prog_8_method_93_code
def yX6_mean : MethodName := ⟨RX6, "mean", "(I)J"⟩
abbrev cX6_younger : ByteArray := prog_8_method_94_code
def yX6_younger : MethodName := ⟨RX6, "younger", "(I)I"⟩
abbrev cX6_unlike : ByteArray := prog_8_method_95_code
def yX6_unlike : MethodName := ⟨RX6, "unlike", "()I"⟩
abbrev cX6_row : ByteArray := prog_8_method_96_code
def yX6_row : MethodName := ⟨RX6, "row", "(I)I"⟩
abbrev cX6_judge : ByteArray := prog_8_method_97_code
def yX6_judge : MethodName := ⟨RX6, "judge", "()I"⟩
abbrev cX6_clear : ByteArray := prog_8_method_98_code
def yX6_clear : MethodName := ⟨RX6, "clear", "()I"⟩
abbrev cX6_drawBelow : ByteArray := prog_8_method_99_code
def yX6_drawBelow : MethodName := ⟨RX6, "drawBelow", "(I)I"⟩
abbrev cX6_lots : ByteArray := prog_8_method_100_code
def yX6_lots : MethodName := ⟨RX6, "lots", "(III)I"⟩
abbrev cX6_count : ByteArray := prog_8_method_101_code
def yX6_count : MethodName := ⟨RX6, "count", "(I)I"⟩
def RJ6 : String := "java/lang/Integer"
def TJ6 : u_T := fun k => match k with
  | _ => ("", "", "", false)
def tyJ6 : Nat → FieldType := fun k => match k with
  | _ => .int
abbrev wsJ60 : List Cond := u_ws RJ6 TJ6 0
theorem nmJ6 : ∀ a, a < 0 → ∀ b, b < 0 → a ≠ b → (TJ6 a).2.1 ≠ (TJ6 b).2.1 := by decide +kernel
theorem tyJ6_ok : ∀ k, k < 0 → parseFieldDescriptor (TJ6 k).2.2.1 = some (tyJ6 k) := by decide +kernel
abbrev cJ6_bitCount_0f7a4 : ByteArray := prog_9_method_49_code
def yJ6_bitCount_0f7a4 : MethodName := ⟨RJ6, "bitCount", "(I)I"⟩
def RJ9 : String := "java/lang/Math"
def TJ9 : u_T := fun k => match k with
  | _ => ("", "", "", false)
def tyJ9 : Nat → FieldType := fun k => match k with
  | _ => .int
abbrev wsJ90 : List Cond := u_ws RJ9 TJ9 0
theorem nmJ9 : ∀ a, a < 0 → ∀ b, b < 0 → a ≠ b → (TJ9 a).2.1 ≠ (TJ9 b).2.1 := by decide +kernel
theorem tyJ9_ok : ∀ k, k < 0 → parseFieldDescriptor (TJ9 k).2.2.1 = some (tyJ9 k) := by decide +kernel
abbrev cJ9_abs_0f7a4 : ByteArray := prog_10_method_59_code
def yJ9_abs_0f7a4 : MethodName := ⟨RJ9, "abs", "(I)I"⟩
abbrev cJ9_max_7cf53 : ByteArray := prog_10_method_65_code
def yJ9_max_7cf53 : MethodName := ⟨RJ9, "max", "(II)I"⟩
abbrev cJ9_min_7cf53 : ByteArray := prog_10_method_69_code
def yJ9_min_7cf53 : MethodName := ⟨RJ9, "min", "(II)I"⟩
def RJ10 : String := "java/lang/System"
def TJ10 : u_T := fun k => match k with
  | _ => ("", "", "", false)
def tyJ10 : Nat → FieldType := fun k => match k with
  | _ => .int
abbrev wsJ100 : List Cond := u_ws RJ10 TJ10 0
theorem nmJ10 : ∀ a, a < 0 → ∀ b, b < 0 → a ≠ b → (TJ10 a).2.1 ≠ (TJ10 b).2.1 := by decide +kernel
theorem tyJ10_ok : ∀ k, k < 0 → parseFieldDescriptor (TJ10 k).2.2.1 = some (tyJ10 k) := by decide +kernel
def RL : String := "PatchesSameAgeLaw"
abbrev cL_law : ByteArray := code
def yL_law : MethodName := ⟨RL, "law", "([I)Z"⟩
abbrev vwCl : List vw_C := [(RX0, TX0, 5), (RX1, TX1, 4), (RX2, TX2, 5), (RX3, TX3, 2), (RX4, TX4, 4), (RX5, TX5, 15), (RX6, TX6, 43)]
end
section
def tb_pull : List (Nat × Instr × Nat) := [(0, .iconst 0, 1), (1, .istore_n 2, 1), (2, .iconst 0, 1), (3, .istore_n 3, 1), (4, .iconst 0, 1), (5, .istore 4, 2), (7, .iload 4, 2), (9, .iconst 4, 1), (10, .if_icmp .ge 53, 3), (13, .getstatic 47, 3), (16, .iload_n 1, 1), (17, .iconst 4, 1), (18, .imul, 1), (19, .iload 4, 2), (21, .iadd, 1), (22, .iaload, 1), (23, .istore 5, 2), (25, .iload 5, 2), (27, .iconst (-1), 1), (28, .if_icmp .ne 6, 3), (31, .goto 26, 3), (34, .iload_n 2, 1), (35, .aload_n 0, 1), (36, .getfield 18, 3), (39, .iload_n 1, 1), (40, .iaload, 1), (41, .aload_n 0, 1), (42, .getfield 18, 3), (45, .iload 5, 2), (47, .iaload, 1), (48, .isub, 1), (49, .invokestatic 50, 3), (52, .iadd, 1), (53, .istore_n 2, 1), (54, .iinc 3 1, 3), (57, .iinc 4 1, 3), (60, .goto (-53), 3), (63, .iload_n 2, 1), (64, .iconst 4, 1), (65, .idiv, 1), (66, .istore 4, 2), (68, .aload_n 0, 1), (69, .getfield 9, 3), (72, .iload_n 1, 1), (73, .iaload, 1), (74, .tableswitch 79 1 5 #[34, 39, 44, 58, 63], 34), (108, .iload 4, 2), (110, .iconst 2, 1), (111, .idiv, 1), (112, .ireturn, 1), (113, .iload 4, 2), (115, .iload_n 3, 1), (116, .iadd, 1), (117, .ireturn, 1), (118, .iload 4, 2), (120, .iconst 2, 1), (121, .idiv, 1), (122, .aload_n 0, 1), (123, .getfield 15, 3), (126, .iload_n 1, 1), (127, .iaload, 1), (128, .iconst 3, 1), (129, .idiv, 1), (130, .iadd, 1), (131, .ireturn, 1), (132, .iconst 2, 1), (133, .iload 4, 2), (135, .imul, 1), (136, .ireturn, 1), (137, .iconst 0, 1), (138, .iconst 2, 1), (139, .iload 4, 2), (141, .imul, 1), (142, .aload_n 0, 1), (143, .getfield 15, 3), (146, .iload_n 1, 1), (147, .iaload, 1), (148, .isub, 1), (149, .invokestatic 56, 3), (152, .ireturn, 1), (153, .iload 4, 2), (155, .ireturn, 1)]
theorem tb_pull_ok : ∀ e ∈ tb_pull, decode cX0_pull e.1 = .ok e.2 := by decide +kernel
theorem dd_pull_0 : decode cX0_pull 0 = .ok (.iconst 0, 1) := tb_pull_ok (0, .iconst 0, 1) (List.mem_of_getElem? (i := 0) rfl)
theorem de_pull_0 : decode cX0_pull 0 = .ok (.iconst 0, 1) := tb_pull_ok (0, .iconst 0, 1) (List.mem_of_getElem? (i := 0) rfl)
theorem de_pull_1 : decode cX0_pull 1 = .ok (.istore_n 2, 1) := tb_pull_ok (1, .istore_n 2, 1) (List.mem_of_getElem? (i := 1) rfl)
theorem de_pull_2 : decode cX0_pull 2 = .ok (.iconst 0, 1) := tb_pull_ok (2, .iconst 0, 1) (List.mem_of_getElem? (i := 2) rfl)
theorem de_pull_3 : decode cX0_pull 3 = .ok (.istore_n 3, 1) := tb_pull_ok (3, .istore_n 3, 1) (List.mem_of_getElem? (i := 3) rfl)
theorem de_pull_4 : decode cX0_pull 4 = .ok (.iconst 0, 1) := tb_pull_ok (4, .iconst 0, 1) (List.mem_of_getElem? (i := 4) rfl)
theorem de_pull_5 : decode cX0_pull 5 = .ok (.istore 4, 2) := tb_pull_ok (5, .istore 4, 2) (List.mem_of_getElem? (i := 5) rfl)
theorem de_pull_7 : decode cX0_pull 7 = .ok (.iload 4, 2) := tb_pull_ok (7, .iload 4, 2) (List.mem_of_getElem? (i := 6) rfl)
theorem de_pull_9 : decode cX0_pull 9 = .ok (.iconst 4, 1) := tb_pull_ok (9, .iconst 4, 1) (List.mem_of_getElem? (i := 7) rfl)
theorem de_pull_10 : decode cX0_pull 10 = .ok (.if_icmp .ge 53, 3) := tb_pull_ok (10, .if_icmp .ge 53, 3) (List.mem_of_getElem? (i := 8) rfl)
theorem de_pull_13 : decode cX0_pull 13 = .ok (.getstatic 47, 3) := tb_pull_ok (13, .getstatic 47, 3) (List.mem_of_getElem? (i := 9) rfl)
theorem de_pull_16 : decode cX0_pull 16 = .ok (.iload_n 1, 1) := tb_pull_ok (16, .iload_n 1, 1) (List.mem_of_getElem? (i := 10) rfl)
theorem de_pull_17 : decode cX0_pull 17 = .ok (.iconst 4, 1) := tb_pull_ok (17, .iconst 4, 1) (List.mem_of_getElem? (i := 11) rfl)
theorem de_pull_18 : decode cX0_pull 18 = .ok (.imul, 1) := tb_pull_ok (18, .imul, 1) (List.mem_of_getElem? (i := 12) rfl)
theorem de_pull_19 : decode cX0_pull 19 = .ok (.iload 4, 2) := tb_pull_ok (19, .iload 4, 2) (List.mem_of_getElem? (i := 13) rfl)
theorem de_pull_21 : decode cX0_pull 21 = .ok (.iadd, 1) := tb_pull_ok (21, .iadd, 1) (List.mem_of_getElem? (i := 14) rfl)
theorem de_pull_22 : decode cX0_pull 22 = .ok (.iaload, 1) := tb_pull_ok (22, .iaload, 1) (List.mem_of_getElem? (i := 15) rfl)
theorem de_pull_23 : decode cX0_pull 23 = .ok (.istore 5, 2) := tb_pull_ok (23, .istore 5, 2) (List.mem_of_getElem? (i := 16) rfl)
theorem de_pull_25 : decode cX0_pull 25 = .ok (.iload 5, 2) := tb_pull_ok (25, .iload 5, 2) (List.mem_of_getElem? (i := 17) rfl)
theorem de_pull_27 : decode cX0_pull 27 = .ok (.iconst (-1), 1) := tb_pull_ok (27, .iconst (-1), 1) (List.mem_of_getElem? (i := 18) rfl)
theorem de_pull_28 : decode cX0_pull 28 = .ok (.if_icmp .ne 6, 3) := tb_pull_ok (28, .if_icmp .ne 6, 3) (List.mem_of_getElem? (i := 19) rfl)
theorem de_pull_31 : decode cX0_pull 31 = .ok (.goto 26, 3) := tb_pull_ok (31, .goto 26, 3) (List.mem_of_getElem? (i := 20) rfl)
theorem de_pull_34 : decode cX0_pull 34 = .ok (.iload_n 2, 1) := tb_pull_ok (34, .iload_n 2, 1) (List.mem_of_getElem? (i := 21) rfl)
theorem de_pull_35 : decode cX0_pull 35 = .ok (.aload_n 0, 1) := tb_pull_ok (35, .aload_n 0, 1) (List.mem_of_getElem? (i := 22) rfl)
theorem de_pull_36 : decode cX0_pull 36 = .ok (.getfield 18, 3) := tb_pull_ok (36, .getfield 18, 3) (List.mem_of_getElem? (i := 23) rfl)
theorem de_pull_39 : decode cX0_pull 39 = .ok (.iload_n 1, 1) := tb_pull_ok (39, .iload_n 1, 1) (List.mem_of_getElem? (i := 24) rfl)
theorem de_pull_40 : decode cX0_pull 40 = .ok (.iaload, 1) := tb_pull_ok (40, .iaload, 1) (List.mem_of_getElem? (i := 25) rfl)
theorem de_pull_41 : decode cX0_pull 41 = .ok (.aload_n 0, 1) := tb_pull_ok (41, .aload_n 0, 1) (List.mem_of_getElem? (i := 26) rfl)
theorem de_pull_42 : decode cX0_pull 42 = .ok (.getfield 18, 3) := tb_pull_ok (42, .getfield 18, 3) (List.mem_of_getElem? (i := 27) rfl)
theorem de_pull_45 : decode cX0_pull 45 = .ok (.iload 5, 2) := tb_pull_ok (45, .iload 5, 2) (List.mem_of_getElem? (i := 28) rfl)
theorem de_pull_47 : decode cX0_pull 47 = .ok (.iaload, 1) := tb_pull_ok (47, .iaload, 1) (List.mem_of_getElem? (i := 29) rfl)
theorem de_pull_48 : decode cX0_pull 48 = .ok (.isub, 1) := tb_pull_ok (48, .isub, 1) (List.mem_of_getElem? (i := 30) rfl)
theorem de_pull_49 : decode cX0_pull 49 = .ok (.invokestatic 50, 3) := tb_pull_ok (49, .invokestatic 50, 3) (List.mem_of_getElem? (i := 31) rfl)
theorem de_pull_52 : decode cX0_pull 52 = .ok (.iadd, 1) := tb_pull_ok (52, .iadd, 1) (List.mem_of_getElem? (i := 32) rfl)
theorem de_pull_53 : decode cX0_pull 53 = .ok (.istore_n 2, 1) := tb_pull_ok (53, .istore_n 2, 1) (List.mem_of_getElem? (i := 33) rfl)
theorem de_pull_54 : decode cX0_pull 54 = .ok (.iinc 3 1, 3) := tb_pull_ok (54, .iinc 3 1, 3) (List.mem_of_getElem? (i := 34) rfl)
theorem de_pull_57 : decode cX0_pull 57 = .ok (.iinc 4 1, 3) := tb_pull_ok (57, .iinc 4 1, 3) (List.mem_of_getElem? (i := 35) rfl)
theorem de_pull_60 : decode cX0_pull 60 = .ok (.goto (-53), 3) := tb_pull_ok (60, .goto (-53), 3) (List.mem_of_getElem? (i := 36) rfl)
theorem de_pull_63 : decode cX0_pull 63 = .ok (.iload_n 2, 1) := tb_pull_ok (63, .iload_n 2, 1) (List.mem_of_getElem? (i := 37) rfl)
theorem de_pull_64 : decode cX0_pull 64 = .ok (.iconst 4, 1) := tb_pull_ok (64, .iconst 4, 1) (List.mem_of_getElem? (i := 38) rfl)
theorem de_pull_65 : decode cX0_pull 65 = .ok (.idiv, 1) := tb_pull_ok (65, .idiv, 1) (List.mem_of_getElem? (i := 39) rfl)
theorem de_pull_66 : decode cX0_pull 66 = .ok (.istore 4, 2) := tb_pull_ok (66, .istore 4, 2) (List.mem_of_getElem? (i := 40) rfl)
theorem de_pull_68 : decode cX0_pull 68 = .ok (.aload_n 0, 1) := tb_pull_ok (68, .aload_n 0, 1) (List.mem_of_getElem? (i := 41) rfl)
theorem de_pull_69 : decode cX0_pull 69 = .ok (.getfield 9, 3) := tb_pull_ok (69, .getfield 9, 3) (List.mem_of_getElem? (i := 42) rfl)
theorem de_pull_72 : decode cX0_pull 72 = .ok (.iload_n 1, 1) := tb_pull_ok (72, .iload_n 1, 1) (List.mem_of_getElem? (i := 43) rfl)
theorem de_pull_73 : decode cX0_pull 73 = .ok (.iaload, 1) := tb_pull_ok (73, .iaload, 1) (List.mem_of_getElem? (i := 44) rfl)
theorem de_pull_74 : decode cX0_pull 74 = .ok (.tableswitch 79 1 5 #[34, 39, 44, 58, 63], 34) := tb_pull_ok (74, .tableswitch 79 1 5 #[34, 39, 44, 58, 63], 34) (List.mem_of_getElem? (i := 45) rfl)
theorem de_pull_108 : decode cX0_pull 108 = .ok (.iload 4, 2) := tb_pull_ok (108, .iload 4, 2) (List.mem_of_getElem? (i := 46) rfl)
theorem de_pull_110 : decode cX0_pull 110 = .ok (.iconst 2, 1) := tb_pull_ok (110, .iconst 2, 1) (List.mem_of_getElem? (i := 47) rfl)
theorem de_pull_111 : decode cX0_pull 111 = .ok (.idiv, 1) := tb_pull_ok (111, .idiv, 1) (List.mem_of_getElem? (i := 48) rfl)
theorem de_pull_112 : decode cX0_pull 112 = .ok (.ireturn, 1) := tb_pull_ok (112, .ireturn, 1) (List.mem_of_getElem? (i := 49) rfl)
theorem de_pull_113 : decode cX0_pull 113 = .ok (.iload 4, 2) := tb_pull_ok (113, .iload 4, 2) (List.mem_of_getElem? (i := 50) rfl)
theorem de_pull_115 : decode cX0_pull 115 = .ok (.iload_n 3, 1) := tb_pull_ok (115, .iload_n 3, 1) (List.mem_of_getElem? (i := 51) rfl)
theorem de_pull_116 : decode cX0_pull 116 = .ok (.iadd, 1) := tb_pull_ok (116, .iadd, 1) (List.mem_of_getElem? (i := 52) rfl)
theorem de_pull_117 : decode cX0_pull 117 = .ok (.ireturn, 1) := tb_pull_ok (117, .ireturn, 1) (List.mem_of_getElem? (i := 53) rfl)
theorem de_pull_118 : decode cX0_pull 118 = .ok (.iload 4, 2) := tb_pull_ok (118, .iload 4, 2) (List.mem_of_getElem? (i := 54) rfl)
theorem de_pull_120 : decode cX0_pull 120 = .ok (.iconst 2, 1) := tb_pull_ok (120, .iconst 2, 1) (List.mem_of_getElem? (i := 55) rfl)
theorem de_pull_121 : decode cX0_pull 121 = .ok (.idiv, 1) := tb_pull_ok (121, .idiv, 1) (List.mem_of_getElem? (i := 56) rfl)
theorem de_pull_122 : decode cX0_pull 122 = .ok (.aload_n 0, 1) := tb_pull_ok (122, .aload_n 0, 1) (List.mem_of_getElem? (i := 57) rfl)
theorem de_pull_123 : decode cX0_pull 123 = .ok (.getfield 15, 3) := tb_pull_ok (123, .getfield 15, 3) (List.mem_of_getElem? (i := 58) rfl)
theorem de_pull_126 : decode cX0_pull 126 = .ok (.iload_n 1, 1) := tb_pull_ok (126, .iload_n 1, 1) (List.mem_of_getElem? (i := 59) rfl)
theorem de_pull_127 : decode cX0_pull 127 = .ok (.iaload, 1) := tb_pull_ok (127, .iaload, 1) (List.mem_of_getElem? (i := 60) rfl)
theorem de_pull_128 : decode cX0_pull 128 = .ok (.iconst 3, 1) := tb_pull_ok (128, .iconst 3, 1) (List.mem_of_getElem? (i := 61) rfl)
theorem de_pull_129 : decode cX0_pull 129 = .ok (.idiv, 1) := tb_pull_ok (129, .idiv, 1) (List.mem_of_getElem? (i := 62) rfl)
theorem de_pull_130 : decode cX0_pull 130 = .ok (.iadd, 1) := tb_pull_ok (130, .iadd, 1) (List.mem_of_getElem? (i := 63) rfl)
theorem de_pull_131 : decode cX0_pull 131 = .ok (.ireturn, 1) := tb_pull_ok (131, .ireturn, 1) (List.mem_of_getElem? (i := 64) rfl)
theorem de_pull_132 : decode cX0_pull 132 = .ok (.iconst 2, 1) := tb_pull_ok (132, .iconst 2, 1) (List.mem_of_getElem? (i := 65) rfl)
theorem de_pull_133 : decode cX0_pull 133 = .ok (.iload 4, 2) := tb_pull_ok (133, .iload 4, 2) (List.mem_of_getElem? (i := 66) rfl)
theorem de_pull_135 : decode cX0_pull 135 = .ok (.imul, 1) := tb_pull_ok (135, .imul, 1) (List.mem_of_getElem? (i := 67) rfl)
theorem de_pull_136 : decode cX0_pull 136 = .ok (.ireturn, 1) := tb_pull_ok (136, .ireturn, 1) (List.mem_of_getElem? (i := 68) rfl)
theorem de_pull_137 : decode cX0_pull 137 = .ok (.iconst 0, 1) := tb_pull_ok (137, .iconst 0, 1) (List.mem_of_getElem? (i := 69) rfl)
theorem de_pull_138 : decode cX0_pull 138 = .ok (.iconst 2, 1) := tb_pull_ok (138, .iconst 2, 1) (List.mem_of_getElem? (i := 70) rfl)
theorem de_pull_139 : decode cX0_pull 139 = .ok (.iload 4, 2) := tb_pull_ok (139, .iload 4, 2) (List.mem_of_getElem? (i := 71) rfl)
theorem de_pull_141 : decode cX0_pull 141 = .ok (.imul, 1) := tb_pull_ok (141, .imul, 1) (List.mem_of_getElem? (i := 72) rfl)
theorem de_pull_142 : decode cX0_pull 142 = .ok (.aload_n 0, 1) := tb_pull_ok (142, .aload_n 0, 1) (List.mem_of_getElem? (i := 73) rfl)
theorem de_pull_143 : decode cX0_pull 143 = .ok (.getfield 15, 3) := tb_pull_ok (143, .getfield 15, 3) (List.mem_of_getElem? (i := 74) rfl)
theorem de_pull_146 : decode cX0_pull 146 = .ok (.iload_n 1, 1) := tb_pull_ok (146, .iload_n 1, 1) (List.mem_of_getElem? (i := 75) rfl)
theorem de_pull_147 : decode cX0_pull 147 = .ok (.iaload, 1) := tb_pull_ok (147, .iaload, 1) (List.mem_of_getElem? (i := 76) rfl)
theorem de_pull_148 : decode cX0_pull 148 = .ok (.isub, 1) := tb_pull_ok (148, .isub, 1) (List.mem_of_getElem? (i := 77) rfl)
theorem de_pull_149 : decode cX0_pull 149 = .ok (.invokestatic 56, 3) := tb_pull_ok (149, .invokestatic 56, 3) (List.mem_of_getElem? (i := 78) rfl)
theorem de_pull_152 : decode cX0_pull 152 = .ok (.ireturn, 1) := tb_pull_ok (152, .ireturn, 1) (List.mem_of_getElem? (i := 79) rfl)
theorem de_pull_153 : decode cX0_pull 153 = .ok (.iload 4, 2) := tb_pull_ok (153, .iload 4, 2) (List.mem_of_getElem? (i := 80) rfl)
theorem de_pull_155 : decode cX0_pull 155 = .ok (.ireturn, 1) := tb_pull_ok (155, .ireturn, 1) (List.mem_of_getElem? (i := 81) rfl)
end
