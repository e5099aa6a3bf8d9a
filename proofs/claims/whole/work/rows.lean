section
-- ===== PART A: goes FIRST, ahead of the names: the tables' words, and 'selects' of the private methods out of them =====
/-- a private method of a class that the tables say can be made, by its rows of tables_1 -/
def lw_okq (q : MethodName × Nat) : Prop := (q.1.cls ≠ "java/lang/invoke/MethodHandle" ∧ q.1.cls ≠ "java/lang/invoke/VarHandle") ∧ Cond.instantiable q.1.cls q.2 ∈ tables_1 ∧ Cond.privateMethod q.1 ∈ tables_1 ∧ Cond.instanceMethod q.1 ∈ tables_1
theorem lw_p0 : lw_okq (⟨"PatchesSameAge", "refuse", "(I)I"⟩, 15) := ⟨⟨by decide +kernel, by decide +kernel⟩, List.mem_of_getElem? (i := 12) (by decide +kernel), List.mem_of_getElem? (i := 189) (by decide +kernel), List.mem_of_getElem? (i := 190) (by decide +kernel)⟩
theorem lw_p1 : lw_okq (⟨"PatchesSameAge$Text", "add", "(I)V"⟩, 2) := ⟨⟨by decide +kernel, by decide +kernel⟩, List.mem_of_getElem? (i := 102) (by decide +kernel), List.mem_of_getElem? (i := 193) (by decide +kernel), List.mem_of_getElem? (i := 194) (by decide +kernel)⟩
theorem lw_p2 : lw_okq (⟨"PatchesSameAge$Text", "formFault", "()I"⟩, 2) := ⟨⟨by decide +kernel, by decide +kernel⟩, List.mem_of_getElem? (i := 102) (by decide +kernel), List.mem_of_getElem? (i := 201) (by decide +kernel), List.mem_of_getElem? (i := 202) (by decide +kernel)⟩
theorem lw_p3 : lw_okq (⟨"PatchesSameAge$Text", "sizeAt", "(I)I"⟩, 2) := ⟨⟨by decide +kernel, by decide +kernel⟩, List.mem_of_getElem? (i := 102) (by decide +kernel), List.mem_of_getElem? (i := 205) (by decide +kernel), List.mem_of_getElem? (i := 206) (by decide +kernel)⟩
theorem lw_p4 : lw_okq (⟨"PatchesSameAge$Text", "letterAt", "(I)I"⟩, 2) := ⟨⟨by decide +kernel, by decide +kernel⟩, List.mem_of_getElem? (i := 102) (by decide +kernel), List.mem_of_getElem? (i := 209) (by decide +kernel), List.mem_of_getElem? (i := 210) (by decide +kernel)⟩
theorem lw_p5 : lw_okq (⟨"PatchesSameAge", "tellAll", "()I"⟩, 15) := ⟨⟨by decide +kernel, by decide +kernel⟩, List.mem_of_getElem? (i := 12) (by decide +kernel), List.mem_of_getElem? (i := 216) (by decide +kernel), List.mem_of_getElem? (i := 217) (by decide +kernel)⟩
theorem lw_p6 : lw_okq (⟨"PatchesSameAge$Cloth", "become", "(LPatchesSameAge$Cloth;)V"⟩, 5) := ⟨⟨by decide +kernel, by decide +kernel⟩, List.mem_of_getElem? (i := 20) (by decide +kernel), List.mem_of_getElem? (i := 220) (by decide +kernel), List.mem_of_getElem? (i := 221) (by decide +kernel)⟩
theorem lw_p7 : lw_okq (⟨"PatchesSameAge$Roll", "become", "(LPatchesSameAge$Roll;)V"⟩, 5) := ⟨⟨by decide +kernel, by decide +kernel⟩, List.mem_of_getElem? (i := 48) (by decide +kernel), List.mem_of_getElem? (i := 227) (by decide +kernel), List.mem_of_getElem? (i := 228) (by decide +kernel)⟩
theorem lw_p8 : lw_okq (⟨"PatchesSameAge", "tellOne", "(I)Z"⟩, 15) := ⟨⟨by decide +kernel, by decide +kernel⟩, List.mem_of_getElem? (i := 12) (by decide +kernel), List.mem_of_getElem? (i := 232) (by decide +kernel), List.mem_of_getElem? (i := 233) (by decide +kernel)⟩
theorem lw_p9 : lw_okq (⟨"PatchesSameAge$Text", "number", "(II)I"⟩, 2) := ⟨⟨by decide +kernel, by decide +kernel⟩, List.mem_of_getElem? (i := 102) (by decide +kernel), List.mem_of_getElem? (i := 237) (by decide +kernel), List.mem_of_getElem? (i := 238) (by decide +kernel)⟩
theorem lw_p10 : lw_okq (⟨"PatchesSameAge", "tellCells", "(III)Z"⟩, 15) := ⟨⟨by decide +kernel, by decide +kernel⟩, List.mem_of_getElem? (i := 12) (by decide +kernel), List.mem_of_getElem? (i := 241) (by decide +kernel), List.mem_of_getElem? (i := 242) (by decide +kernel)⟩
theorem lw_p11 : lw_okq (⟨"PatchesSameAge$Cloth", "make", "(IIII)V"⟩, 5) := ⟨⟨by decide +kernel, by decide +kernel⟩, List.mem_of_getElem? (i := 20) (by decide +kernel), List.mem_of_getElem? (i := 251) (by decide +kernel), List.mem_of_getElem? (i := 252) (by decide +kernel)⟩
theorem lw_p12 : lw_okq (⟨"PatchesSameAge", "tellPiece", "(III)Z"⟩, 15) := ⟨⟨by decide +kernel, by decide +kernel⟩, List.mem_of_getElem? (i := 12) (by decide +kernel), List.mem_of_getElem? (i := 255) (by decide +kernel), List.mem_of_getElem? (i := 256) (by decide +kernel)⟩
theorem lw_p13 : lw_okq (⟨"PatchesSameAge$Roll", "add", "(III)V"⟩, 5) := ⟨⟨by decide +kernel, by decide +kernel⟩, List.mem_of_getElem? (i := 48) (by decide +kernel), List.mem_of_getElem? (i := 259) (by decide +kernel), List.mem_of_getElem? (i := 260) (by decide +kernel)⟩
theorem lw_p14 : lw_okq (⟨"PatchesSameAge", "tellPut", "(II)Z"⟩, 15) := ⟨⟨by decide +kernel, by decide +kernel⟩, List.mem_of_getElem? (i := 12) (by decide +kernel), List.mem_of_getElem? (i := 263) (by decide +kernel), List.mem_of_getElem? (i := 264) (by decide +kernel)⟩
theorem lw_p15 : lw_okq (⟨"PatchesSameAge$Roll", "isFree", "(I)Z"⟩, 5) := ⟨⟨by decide +kernel, by decide +kernel⟩, List.mem_of_getElem? (i := 48) (by decide +kernel), List.mem_of_getElem? (i := 267) (by decide +kernel), List.mem_of_getElem? (i := 268) (by decide +kernel)⟩
def lw_privs_1 : List (MethodName × Nat) := [(⟨"PatchesSameAge", "refuse", "(I)I"⟩, 15), (⟨"PatchesSameAge$Text", "add", "(I)V"⟩, 2), (⟨"PatchesSameAge$Text", "formFault", "()I"⟩, 2), (⟨"PatchesSameAge$Text", "sizeAt", "(I)I"⟩, 2), (⟨"PatchesSameAge$Text", "letterAt", "(I)I"⟩, 2), (⟨"PatchesSameAge", "tellAll", "()I"⟩, 15), (⟨"PatchesSameAge$Cloth", "become", "(LPatchesSameAge$Cloth;)V"⟩, 5), (⟨"PatchesSameAge$Roll", "become", "(LPatchesSameAge$Roll;)V"⟩, 5), (⟨"PatchesSameAge", "tellOne", "(I)Z"⟩, 15), (⟨"PatchesSameAge$Text", "number", "(II)I"⟩, 2), (⟨"PatchesSameAge", "tellCells", "(III)Z"⟩, 15), (⟨"PatchesSameAge$Cloth", "make", "(IIII)V"⟩, 5), (⟨"PatchesSameAge", "tellPiece", "(III)Z"⟩, 15), (⟨"PatchesSameAge$Roll", "add", "(III)V"⟩, 5), (⟨"PatchesSameAge", "tellPut", "(II)Z"⟩, 15), (⟨"PatchesSameAge$Roll", "isFree", "(I)Z"⟩, 5)]
theorem lw_r1 : ∀ q ∈ lw_privs_1, lw_okq q := List.forall_mem_cons.mpr ⟨lw_p0, List.forall_mem_cons.mpr ⟨lw_p1, List.forall_mem_cons.mpr ⟨lw_p2, List.forall_mem_cons.mpr ⟨lw_p3, List.forall_mem_cons.mpr ⟨lw_p4, List.forall_mem_cons.mpr ⟨lw_p5, List.forall_mem_cons.mpr ⟨lw_p6, List.forall_mem_cons.mpr ⟨lw_p7, List.forall_mem_cons.mpr ⟨lw_p8, List.forall_mem_cons.mpr ⟨lw_p9, List.forall_mem_cons.mpr ⟨lw_p10, List.forall_mem_cons.mpr ⟨lw_p11, List.forall_mem_cons.mpr ⟨lw_p12, List.forall_mem_cons.mpr ⟨lw_p13, List.forall_mem_cons.mpr ⟨lw_p14, List.forall_mem_cons.mpr ⟨lw_p15, fun _ h => absurd h List.not_mem_nil⟩⟩⟩⟩⟩⟩⟩⟩⟩⟩⟩⟩⟩⟩⟩⟩
theorem lw_p16 : lw_okq (⟨"PatchesSameAge$Roll", "has", "(I)Z"⟩, 5) := ⟨⟨by decide +kernel, by decide +kernel⟩, List.mem_of_getElem? (i := 48) (by decide +kernel), List.mem_of_getElem? (i := 271) (by decide +kernel), List.mem_of_getElem? (i := 272) (by decide +kernel)⟩
theorem lw_p17 : lw_okq (⟨"PatchesSameAge$Cloth", "put", "(LPatchesSameAge$Roll;II)V"⟩, 5) := ⟨⟨by decide +kernel, by decide +kernel⟩, List.mem_of_getElem? (i := 20) (by decide +kernel), List.mem_of_getElem? (i := 275) (by decide +kernel), List.mem_of_getElem? (i := 276) (by decide +kernel)⟩
theorem lw_p18 : lw_okq (⟨"PatchesSameAge$Roll", "use", "(I)V"⟩, 5) := ⟨⟨by decide +kernel, by decide +kernel⟩, List.mem_of_getElem? (i := 48) (by decide +kernel), List.mem_of_getElem? (i := 280) (by decide +kernel), List.mem_of_getElem? (i := 281) (by decide +kernel)⟩
theorem lw_p19 : lw_okq (⟨"PatchesSameAge", "tellWear", "(II)Z"⟩, 15) := ⟨⟨by decide +kernel, by decide +kernel⟩, List.mem_of_getElem? (i := 12) (by decide +kernel), List.mem_of_getElem? (i := 284) (by decide +kernel), List.mem_of_getElem? (i := 285) (by decide +kernel)⟩
theorem lw_p20 : lw_okq (⟨"PatchesSameAge", "tellYears", "(I)Z"⟩, 15) := ⟨⟨by decide +kernel, by decide +kernel⟩, List.mem_of_getElem? (i := 12) (by decide +kernel), List.mem_of_getElem? (i := 288) (by decide +kernel), List.mem_of_getElem? (i := 289) (by decide +kernel)⟩
theorem lw_p21 : lw_okq (⟨"PatchesSameAge$Cloth", "goOn", "(I)V"⟩, 5) := ⟨⟨by decide +kernel, by decide +kernel⟩, List.mem_of_getElem? (i := 20) (by decide +kernel), List.mem_of_getElem? (i := 292) (by decide +kernel), List.mem_of_getElem? (i := 293) (by decide +kernel)⟩
theorem lw_p22 : lw_okq (⟨"PatchesSameAge$Cloth", "wearing", "(I)I"⟩, 5) := ⟨⟨by decide +kernel, by decide +kernel⟩, List.mem_of_getElem? (i := 20) (by decide +kernel), List.mem_of_getElem? (i := 296) (by decide +kernel), List.mem_of_getElem? (i := 297) (by decide +kernel)⟩
theorem lw_p23 : lw_okq (⟨"PatchesSameAge$Cloth", "pull", "(I)I"⟩, 5) := ⟨⟨by decide +kernel, by decide +kernel⟩, List.mem_of_getElem? (i := 20) (by decide +kernel), List.mem_of_getElem? (i := 300) (by decide +kernel), List.mem_of_getElem? (i := 301) (by decide +kernel)⟩
theorem lw_p24 : lw_okq (⟨"PatchesSameAge$Cloth", "growOlder", "(I)V"⟩, 5) := ⟨⟨by decide +kernel, by decide +kernel⟩, List.mem_of_getElem? (i := 20) (by decide +kernel), List.mem_of_getElem? (i := 315) (by decide +kernel), List.mem_of_getElem? (i := 316) (by decide +kernel)⟩
theorem lw_p25 : lw_okq (⟨"PatchesSameAge$Past", "forget", "()V"⟩, 4) := ⟨⟨by decide +kernel, by decide +kernel⟩, List.mem_of_getElem? (i := 79) (by decide +kernel), List.mem_of_getElem? (i := 321) (by decide +kernel), List.mem_of_getElem? (i := 322) (by decide +kernel)⟩
theorem lw_p26 : lw_okq (⟨"PatchesSameAge$Cloth", "hold", "(I)I"⟩, 5) := ⟨⟨by decide +kernel, by decide +kernel⟩, List.mem_of_getElem? (i := 20) (by decide +kernel), List.mem_of_getElem? (i := 331) (by decide +kernel), List.mem_of_getElem? (i := 332) (by decide +kernel)⟩
theorem lw_p27 : lw_okq (⟨"PatchesSameAge$Cloth", "isHole", "(I)Z"⟩, 5) := ⟨⟨by decide +kernel, by decide +kernel⟩, List.mem_of_getElem? (i := 20) (by decide +kernel), List.mem_of_getElem? (i := 335) (by decide +kernel), List.mem_of_getElem? (i := 336) (by decide +kernel)⟩
theorem lw_p28 : lw_okq (⟨"PatchesSameAge$Past", "note", "(LPatchesSameAge$Cloth;LPatchesSameAge$Roll;)V"⟩, 4) := ⟨⟨by decide +kernel, by decide +kernel⟩, List.mem_of_getElem? (i := 79) (by decide +kernel), List.mem_of_getElem? (i := 353) (by decide +kernel), List.mem_of_getElem? (i := 354) (by decide +kernel)⟩
theorem lw_p29 : lw_okq (⟨"PatchesSameAge$Cloth", "pullTogether", "()I"⟩, 5) := ⟨⟨by decide +kernel, by decide +kernel⟩, List.mem_of_getElem? (i := 20) (by decide +kernel), List.mem_of_getElem? (i := 363) (by decide +kernel), List.mem_of_getElem? (i := 364) (by decide +kernel)⟩
theorem lw_p30 : lw_okq (⟨"PatchesSameAge$Cloth", "holeBits", "()I"⟩, 5) := ⟨⟨by decide +kernel, by decide +kernel⟩, List.mem_of_getElem? (i := 20) (by decide +kernel), List.mem_of_getElem? (i := 375) (by decide +kernel), List.mem_of_getElem? (i := 376) (by decide +kernel)⟩
theorem lw_p31 : lw_okq (⟨"PatchesSameAge$Past", "takeBack", "(LPatchesSameAge$Cloth;LPatchesSameAge$Roll;)V"⟩, 4) := ⟨⟨by decide +kernel, by decide +kernel⟩, List.mem_of_getElem? (i := 79) (by decide +kernel), List.mem_of_getElem? (i := 390) (by decide +kernel), List.mem_of_getElem? (i := 391) (by decide +kernel)⟩
def lw_privs_2 : List (MethodName × Nat) := [(⟨"PatchesSameAge$Roll", "has", "(I)Z"⟩, 5), (⟨"PatchesSameAge$Cloth", "put", "(LPatchesSameAge$Roll;II)V"⟩, 5), (⟨"PatchesSameAge$Roll", "use", "(I)V"⟩, 5), (⟨"PatchesSameAge", "tellWear", "(II)Z"⟩, 15), (⟨"PatchesSameAge", "tellYears", "(I)Z"⟩, 15), (⟨"PatchesSameAge$Cloth", "goOn", "(I)V"⟩, 5), (⟨"PatchesSameAge$Cloth", "wearing", "(I)I"⟩, 5), (⟨"PatchesSameAge$Cloth", "pull", "(I)I"⟩, 5), (⟨"PatchesSameAge$Cloth", "growOlder", "(I)V"⟩, 5), (⟨"PatchesSameAge$Past", "forget", "()V"⟩, 4), (⟨"PatchesSameAge$Cloth", "hold", "(I)I"⟩, 5), (⟨"PatchesSameAge$Cloth", "isHole", "(I)Z"⟩, 5), (⟨"PatchesSameAge$Past", "note", "(LPatchesSameAge$Cloth;LPatchesSameAge$Roll;)V"⟩, 4), (⟨"PatchesSameAge$Cloth", "pullTogether", "()I"⟩, 5), (⟨"PatchesSameAge$Cloth", "holeBits", "()I"⟩, 5), (⟨"PatchesSameAge$Past", "takeBack", "(LPatchesSameAge$Cloth;LPatchesSameAge$Roll;)V"⟩, 4)]
theorem lw_r2 : ∀ q ∈ lw_privs_2, lw_okq q := List.forall_mem_cons.mpr ⟨lw_p16, List.forall_mem_cons.mpr ⟨lw_p17, List.forall_mem_cons.mpr ⟨lw_p18, List.forall_mem_cons.mpr ⟨lw_p19, List.forall_mem_cons.mpr ⟨lw_p20, List.forall_mem_cons.mpr ⟨lw_p21, List.forall_mem_cons.mpr ⟨lw_p22, List.forall_mem_cons.mpr ⟨lw_p23, List.forall_mem_cons.mpr ⟨lw_p24, List.forall_mem_cons.mpr ⟨lw_p25, List.forall_mem_cons.mpr ⟨lw_p26, List.forall_mem_cons.mpr ⟨lw_p27, List.forall_mem_cons.mpr ⟨lw_p28, List.forall_mem_cons.mpr ⟨lw_p29, List.forall_mem_cons.mpr ⟨lw_p30, List.forall_mem_cons.mpr ⟨lw_p31, fun _ h => absurd h List.not_mem_nil⟩⟩⟩⟩⟩⟩⟩⟩⟩⟩⟩⟩⟩⟩⟩⟩
theorem lw_p32 : lw_okq (⟨"PatchesSameAge", "thinkYears", "(I)V"⟩, 15) := ⟨⟨by decide +kernel, by decide +kernel⟩, List.mem_of_getElem? (i := 12) (by decide +kernel), List.mem_of_getElem? (i := 398) (by decide +kernel), List.mem_of_getElem? (i := 399) (by decide +kernel)⟩
theorem lw_p33 : lw_okq (⟨"PatchesSameAge$Cloth", "wearTogether", "()I"⟩, 5) := ⟨⟨by decide +kernel, by decide +kernel⟩, List.mem_of_getElem? (i := 20) (by decide +kernel), List.mem_of_getElem? (i := 406) (by decide +kernel), List.mem_of_getElem? (i := 407) (by decide +kernel)⟩
theorem lw_p34 : lw_okq (⟨"PatchesSameAge", "lastWhole", "()I"⟩, 15) := ⟨⟨by decide +kernel, by decide +kernel⟩, List.mem_of_getElem? (i := 12) (by decide +kernel), List.mem_of_getElem? (i := 414) (by decide +kernel), List.mem_of_getElem? (i := 415) (by decide +kernel)⟩
theorem lw_p35 : lw_okq (⟨"PatchesSameAge$Cloth", "yearsToHole", "(II)I"⟩, 5) := ⟨⟨by decide +kernel, by decide +kernel⟩, List.mem_of_getElem? (i := 20) (by decide +kernel), List.mem_of_getElem? (i := 418) (by decide +kernel), List.mem_of_getElem? (i := 419) (by decide +kernel)⟩
theorem lw_p36 : lw_okq (⟨"PatchesSameAge$Roll", "free", "()I"⟩, 5) := ⟨⟨by decide +kernel, by decide +kernel⟩, List.mem_of_getElem? (i := 48) (by decide +kernel), List.mem_of_getElem? (i := 462) (by decide +kernel), List.mem_of_getElem? (i := 463) (by decide +kernel)⟩
theorem lw_p37 : lw_okq (⟨"PatchesSameAge$Ways", "gather", "(LPatchesSameAge$Roll;)V"⟩, 4) := ⟨⟨by decide +kernel, by decide +kernel⟩, List.mem_of_getElem? (i := 116) (by decide +kernel), List.mem_of_getElem? (i := 467) (by decide +kernel), List.mem_of_getElem? (i := 468) (by decide +kernel)⟩
theorem lw_p38 : lw_okq (⟨"PatchesSameAge$Ways", "reckon", "(LPatchesSameAge$Cloth;LPatchesSameAge$Roll;LPatchesSameAge$Cloth;)V"⟩, 4) := ⟨⟨by decide +kernel, by decide +kernel⟩, List.mem_of_getElem? (i := 116) (by decide +kernel), List.mem_of_getElem? (i := 472) (by decide +kernel), List.mem_of_getElem? (i := 473) (by decide +kernel)⟩
theorem lw_p39 : lw_okq (⟨"PatchesSameAge$Ways", "many", "()I"⟩, 4) := ⟨⟨by decide +kernel, by decide +kernel⟩, List.mem_of_getElem? (i := 116) (by decide +kernel), List.mem_of_getElem? (i := 476) (by decide +kernel), List.mem_of_getElem? (i := 477) (by decide +kernel)⟩
theorem lw_p40 : lw_okq (⟨"PatchesSameAge$Ways", "takeOff", "()V"⟩, 4) := ⟨⟨by decide +kernel, by decide +kernel⟩, List.mem_of_getElem? (i := 116) (by decide +kernel), List.mem_of_getElem? (i := 480) (by decide +kernel), List.mem_of_getElem? (i := 481) (by decide +kernel)⟩
theorem lw_p41 : lw_okq (⟨"PatchesSameAge$Ways", "cellIn", "(II)I"⟩, 4) := ⟨⟨by decide +kernel, by decide +kernel⟩, List.mem_of_getElem? (i := 116) (by decide +kernel), List.mem_of_getElem? (i := 485) (by decide +kernel), List.mem_of_getElem? (i := 486) (by decide +kernel)⟩
theorem lw_p42 : lw_okq (⟨"PatchesSameAge$Ways", "isTaken", "(I)Z"⟩, 4) := ⟨⟨by decide +kernel, by decide +kernel⟩, List.mem_of_getElem? (i := 116) (by decide +kernel), List.mem_of_getElem? (i := 489) (by decide +kernel), List.mem_of_getElem? (i := 490) (by decide +kernel)⟩
theorem lw_p43 : lw_okq (⟨"PatchesSameAge$Ways", "leastWay", "()I"⟩, 4) := ⟨⟨by decide +kernel, by decide +kernel⟩, List.mem_of_getElem? (i := 116) (by decide +kernel), List.mem_of_getElem? (i := 495) (by decide +kernel), List.mem_of_getElem? (i := 496) (by decide +kernel)⟩
theorem lw_p44 : lw_okq (⟨"PatchesSameAge$Ways", "placeOf", "(I)I"⟩, 4) := ⟨⟨by decide +kernel, by decide +kernel⟩, List.mem_of_getElem? (i := 116) (by decide +kernel), List.mem_of_getElem? (i := 500) (by decide +kernel), List.mem_of_getElem? (i := 501) (by decide +kernel)⟩
theorem lw_p45 : lw_okq (⟨"PatchesSameAge$Ways", "number", "()I"⟩, 4) := ⟨⟨by decide +kernel, by decide +kernel⟩, List.mem_of_getElem? (i := 116) (by decide +kernel), List.mem_of_getElem? (i := 517) (by decide +kernel), List.mem_of_getElem? (i := 518) (by decide +kernel)⟩
theorem lw_p46 : lw_okq (⟨"PatchesSameAge", "thinkOther", "(III)V"⟩, 15) := ⟨⟨by decide +kernel, by decide +kernel⟩, List.mem_of_getElem? (i := 12) (by decide +kernel), List.mem_of_getElem? (i := 527) (by decide +kernel), List.mem_of_getElem? (i := 528) (by decide +kernel)⟩
theorem lw_p47 : lw_okq (⟨"PatchesSameAge", "bitsThatWoreSo", "(III)I"⟩, 15) := ⟨⟨by decide +kernel, by decide +kernel⟩, List.mem_of_getElem? (i := 12) (by decide +kernel), List.mem_of_getElem? (i := 547) (by decide +kernel), List.mem_of_getElem? (i := 548) (by decide +kernel)⟩
def lw_privs_3 : List (MethodName × Nat) := [(⟨"PatchesSameAge", "thinkYears", "(I)V"⟩, 15), (⟨"PatchesSameAge$Cloth", "wearTogether", "()I"⟩, 5), (⟨"PatchesSameAge", "lastWhole", "()I"⟩, 15), (⟨"PatchesSameAge$Cloth", "yearsToHole", "(II)I"⟩, 5), (⟨"PatchesSameAge$Roll", "free", "()I"⟩, 5), (⟨"PatchesSameAge$Ways", "gather", "(LPatchesSameAge$Roll;)V"⟩, 4), (⟨"PatchesSameAge$Ways", "reckon", "(LPatchesSameAge$Cloth;LPatchesSameAge$Roll;LPatchesSameAge$Cloth;)V"⟩, 4), (⟨"PatchesSameAge$Ways", "many", "()I"⟩, 4), (⟨"PatchesSameAge$Ways", "takeOff", "()V"⟩, 4), (⟨"PatchesSameAge$Ways", "cellIn", "(II)I"⟩, 4), (⟨"PatchesSameAge$Ways", "isTaken", "(I)Z"⟩, 4), (⟨"PatchesSameAge$Ways", "leastWay", "()I"⟩, 4), (⟨"PatchesSameAge$Ways", "placeOf", "(I)I"⟩, 4), (⟨"PatchesSameAge$Ways", "number", "()I"⟩, 4), (⟨"PatchesSameAge", "thinkOther", "(III)V"⟩, 15), (⟨"PatchesSameAge", "bitsThatWoreSo", "(III)I"⟩, 15)]
theorem lw_r3 : ∀ q ∈ lw_privs_3, lw_okq q := List.forall_mem_cons.mpr ⟨lw_p32, List.forall_mem_cons.mpr ⟨lw_p33, List.forall_mem_cons.mpr ⟨lw_p34, List.forall_mem_cons.mpr ⟨lw_p35, List.forall_mem_cons.mpr ⟨lw_p36, List.forall_mem_cons.mpr ⟨lw_p37, List.forall_mem_cons.mpr ⟨lw_p38, List.forall_mem_cons.mpr ⟨lw_p39, List.forall_mem_cons.mpr ⟨lw_p40, List.forall_mem_cons.mpr ⟨lw_p41, List.forall_mem_cons.mpr ⟨lw_p42, List.forall_mem_cons.mpr ⟨lw_p43, List.forall_mem_cons.mpr ⟨lw_p44, List.forall_mem_cons.mpr ⟨lw_p45, List.forall_mem_cons.mpr ⟨lw_p46, List.forall_mem_cons.mpr ⟨lw_p47, fun _ h => absurd h List.not_mem_nil⟩⟩⟩⟩⟩⟩⟩⟩⟩⟩⟩⟩⟩⟩⟩⟩
theorem lw_p48 : lw_okq (⟨"PatchesSameAge", "mindWoreSo", "(I)Z"⟩, 15) := ⟨⟨by decide +kernel, by decide +kernel⟩, List.mem_of_getElem? (i := 12) (by decide +kernel), List.mem_of_getElem? (i := 551) (by decide +kernel), List.mem_of_getElem? (i := 552) (by decide +kernel)⟩
theorem lw_p49 : lw_okq (⟨"PatchesSameAge", "agesThatWoreSo", "(I)I"⟩, 15) := ⟨⟨by decide +kernel, by decide +kernel⟩, List.mem_of_getElem? (i := 12) (by decide +kernel), List.mem_of_getElem? (i := 555) (by decide +kernel), List.mem_of_getElem? (i := 556) (by decide +kernel)⟩
theorem lw_p50 : lw_okq (⟨"PatchesSameAge$Cloth", "heapOf", "(II)I"⟩, 5) := ⟨⟨by decide +kernel, by decide +kernel⟩, List.mem_of_getElem? (i := 20) (by decide +kernel), List.mem_of_getElem? (i := 563) (by decide +kernel), List.mem_of_getElem? (i := 564) (by decide +kernel)⟩
theorem lw_p51 : lw_okq (⟨"PatchesSameAge$Cloth", "hangingOn", "(II)I"⟩, 5) := ⟨⟨by decide +kernel, by decide +kernel⟩, List.mem_of_getElem? (i := 20) (by decide +kernel), List.mem_of_getElem? (i := 567) (by decide +kernel), List.mem_of_getElem? (i := 568) (by decide +kernel)⟩
theorem lw_p52 : lw_okq (⟨"PatchesSameAge$Cloth", "risingFrom", "(I)I"⟩, 5) := ⟨⟨by decide +kernel, by decide +kernel⟩, List.mem_of_getElem? (i := 20) (by decide +kernel), List.mem_of_getElem? (i := 575) (by decide +kernel), List.mem_of_getElem? (i := 576) (by decide +kernel)⟩
theorem lw_p53 : lw_okq (⟨"PatchesSameAge$Cloth", "change", "(II)V"⟩, 5) := ⟨⟨by decide +kernel, by decide +kernel⟩, List.mem_of_getElem? (i := 20) (by decide +kernel), List.mem_of_getElem? (i := 583) (by decide +kernel), List.mem_of_getElem? (i := 584) (by decide +kernel)⟩
theorem lw_p54 : lw_okq (⟨"PatchesSameAge$Cloth", "moreWorn", "(I)I"⟩, 5) := ⟨⟨by decide +kernel, by decide +kernel⟩, List.mem_of_getElem? (i := 20) (by decide +kernel), List.mem_of_getElem? (i := 627) (by decide +kernel), List.mem_of_getElem? (i := 628) (by decide +kernel)⟩
theorem lw_p55 : lw_okq (⟨"PatchesSameAge", "refuseLong", "(I)J"⟩, 15) := ⟨⟨by decide +kernel, by decide +kernel⟩, List.mem_of_getElem? (i := 12) (by decide +kernel), List.mem_of_getElem? (i := 639) (by decide +kernel), List.mem_of_getElem? (i := 640) (by decide +kernel)⟩
theorem lw_p56 : lw_okq (⟨"PatchesSameAge", "waysToHole", "(III)J"⟩, 15) := ⟨⟨by decide +kernel, by decide +kernel⟩, List.mem_of_getElem? (i := 12) (by decide +kernel), List.mem_of_getElem? (i := 644) (by decide +kernel), List.mem_of_getElem? (i := 645) (by decide +kernel)⟩
theorem lw_p57 : lw_okq (⟨"PatchesSameAge$Cloth", "ageTogether", "()I"⟩, 5) := ⟨⟨by decide +kernel, by decide +kernel⟩, List.mem_of_getElem? (i := 20) (by decide +kernel), List.mem_of_getElem? (i := 655) (by decide +kernel), List.mem_of_getElem? (i := 656) (by decide +kernel)⟩
theorem lw_p58 : lw_okq (⟨"PatchesSameAgeModel", "refuse", "(I)I"⟩, 43) := ⟨⟨by decide +kernel, by decide +kernel⟩, List.mem_of_getElem? (i := 678) (by decide +kernel), List.mem_of_getElem? (i := 818) (by decide +kernel), List.mem_of_getElem? (i := 819) (by decide +kernel)⟩
theorem lw_p59 : lw_okq (⟨"PatchesSameAgeModel", "readStatement", "()V"⟩, 43) := ⟨⟨by decide +kernel, by decide +kernel⟩, List.mem_of_getElem? (i := 678) (by decide +kernel), List.mem_of_getElem? (i := 826) (by decide +kernel), List.mem_of_getElem? (i := 827) (by decide +kernel)⟩
theorem lw_p60 : lw_okq (⟨"PatchesSameAgeModel", "here", "()I"⟩, 43) := ⟨⟨by decide +kernel, by decide +kernel⟩, List.mem_of_getElem? (i := 678) (by decide +kernel), List.mem_of_getElem? (i := 830) (by decide +kernel), List.mem_of_getElem? (i := 831) (by decide +kernel)⟩
theorem lw_p61 : lw_okq (⟨"PatchesSameAgeModel", "readNumbers", "(II)V"⟩, 43) := ⟨⟨by decide +kernel, by decide +kernel⟩, List.mem_of_getElem? (i := 678) (by decide +kernel), List.mem_of_getElem? (i := 837) (by decide +kernel), List.mem_of_getElem? (i := 838) (by decide +kernel)⟩
theorem lw_p62 : lw_okq (⟨"PatchesSameAgeModel", "readDigits", "(I)I"⟩, 43) := ⟨⟨by decide +kernel, by decide +kernel⟩, List.mem_of_getElem? (i := 678) (by decide +kernel), List.mem_of_getElem? (i := 841) (by decide +kernel), List.mem_of_getElem? (i := 842) (by decide +kernel)⟩
theorem lw_p63 : lw_okq (⟨"PatchesSameAgeModel", "think", "()V"⟩, 43) := ⟨⟨by decide +kernel, by decide +kernel⟩, List.mem_of_getElem? (i := 678) (by decide +kernel), List.mem_of_getElem? (i := 850) (by decide +kernel), List.mem_of_getElem? (i := 851) (by decide +kernel)⟩
def lw_privs_4 : List (MethodName × Nat) := [(⟨"PatchesSameAge", "mindWoreSo", "(I)Z"⟩, 15), (⟨"PatchesSameAge", "agesThatWoreSo", "(I)I"⟩, 15), (⟨"PatchesSameAge$Cloth", "heapOf", "(II)I"⟩, 5), (⟨"PatchesSameAge$Cloth", "hangingOn", "(II)I"⟩, 5), (⟨"PatchesSameAge$Cloth", "risingFrom", "(I)I"⟩, 5), (⟨"PatchesSameAge$Cloth", "change", "(II)V"⟩, 5), (⟨"PatchesSameAge$Cloth", "moreWorn", "(I)I"⟩, 5), (⟨"PatchesSameAge", "refuseLong", "(I)J"⟩, 15), (⟨"PatchesSameAge", "waysToHole", "(III)J"⟩, 15), (⟨"PatchesSameAge$Cloth", "ageTogether", "()I"⟩, 5), (⟨"PatchesSameAgeModel", "refuse", "(I)I"⟩, 43), (⟨"PatchesSameAgeModel", "readStatement", "()V"⟩, 43), (⟨"PatchesSameAgeModel", "here", "()I"⟩, 43), (⟨"PatchesSameAgeModel", "readNumbers", "(II)V"⟩, 43), (⟨"PatchesSameAgeModel", "readDigits", "(I)I"⟩, 43), (⟨"PatchesSameAgeModel", "think", "()V"⟩, 43)]
theorem lw_r4 : ∀ q ∈ lw_privs_4, lw_okq q := List.forall_mem_cons.mpr ⟨lw_p48, List.forall_mem_cons.mpr ⟨lw_p49, List.forall_mem_cons.mpr ⟨lw_p50, List.forall_mem_cons.mpr ⟨lw_p51, List.forall_mem_cons.mpr ⟨lw_p52, List.forall_mem_cons.mpr ⟨lw_p53, List.forall_mem_cons.mpr ⟨lw_p54, List.forall_mem_cons.mpr ⟨lw_p55, List.forall_mem_cons.mpr ⟨lw_p56, List.forall_mem_cons.mpr ⟨lw_p57, List.forall_mem_cons.mpr ⟨lw_p58, List.forall_mem_cons.mpr ⟨lw_p59, List.forall_mem_cons.mpr ⟨lw_p60, List.forall_mem_cons.mpr ⟨lw_p61, List.forall_mem_cons.mpr ⟨lw_p62, List.forall_mem_cons.mpr ⟨lw_p63, fun _ h => absurd h List.not_mem_nil⟩⟩⟩⟩⟩⟩⟩⟩⟩⟩⟩⟩⟩⟩⟩⟩
theorem lw_p64 : lw_okq (⟨"PatchesSameAgeModel", "carryAll", "([IZ)V"⟩, 43) := ⟨⟨by decide +kernel, by decide +kernel⟩, List.mem_of_getElem? (i := 678) (by decide +kernel), List.mem_of_getElem? (i := 854) (by decide +kernel), List.mem_of_getElem? (i := 855) (by decide +kernel)⟩
theorem lw_p65 : lw_okq (⟨"PatchesSameAgeModel", "carry", "(I)I"⟩, 43) := ⟨⟨by decide +kernel, by decide +kernel⟩, List.mem_of_getElem? (i := 678) (by decide +kernel), List.mem_of_getElem? (i := 858) (by decide +kernel), List.mem_of_getElem? (i := 859) (by decide +kernel)⟩
theorem lw_p66 : lw_okq (⟨"PatchesSameAgeModel", "comesTold", "(I)Z"⟩, 43) := ⟨⟨by decide +kernel, by decide +kernel⟩, List.mem_of_getElem? (i := 678) (by decide +kernel), List.mem_of_getElem? (i := 862) (by decide +kernel), List.mem_of_getElem? (i := 863) (by decide +kernel)⟩
theorem lw_p67 : lw_okq (⟨"PatchesSameAgeModel", "makeCell", "(IIII)V"⟩, 43) := ⟨⟨by decide +kernel, by decide +kernel⟩, List.mem_of_getElem? (i := 678) (by decide +kernel), List.mem_of_getElem? (i := 866) (by decide +kernel), List.mem_of_getElem? (i := 867) (by decide +kernel)⟩
theorem lw_p68 : lw_okq (⟨"PatchesSameAgeModel", "pieceComes", "(III)V"⟩, 43) := ⟨⟨by decide +kernel, by decide +kernel⟩, List.mem_of_getElem? (i := 678) (by decide +kernel), List.mem_of_getElem? (i := 870) (by decide +kernel), List.mem_of_getElem? (i := 871) (by decide +kernel)⟩
theorem lw_p69 : lw_okq (⟨"PatchesSameAgeModel", "isPiece", "(I)Z"⟩, 43) := ⟨⟨by decide +kernel, by decide +kernel⟩, List.mem_of_getElem? (i := 678) (by decide +kernel), List.mem_of_getElem? (i := 874) (by decide +kernel), List.mem_of_getElem? (i := 875) (by decide +kernel)⟩
theorem lw_p70 : lw_okq (⟨"PatchesSameAgeModel", "putOn", "(II)V"⟩, 43) := ⟨⟨by decide +kernel, by decide +kernel⟩, List.mem_of_getElem? (i := 678) (by decide +kernel), List.mem_of_getElem? (i := 878) (by decide +kernel), List.mem_of_getElem? (i := 879) (by decide +kernel)⟩
theorem lw_p71 : lw_okq (⟨"PatchesSameAgeModel", "goYears", "(I)V"⟩, 43) := ⟨⟨by decide +kernel, by decide +kernel⟩, List.mem_of_getElem? (i := 678) (by decide +kernel), List.mem_of_getElem? (i := 883) (by decide +kernel), List.mem_of_getElem? (i := 884) (by decide +kernel)⟩
theorem lw_p72 : lw_okq (⟨"PatchesSameAgeModel", "yearOn", "()V"⟩, 43) := ⟨⟨by decide +kernel, by decide +kernel⟩, List.mem_of_getElem? (i := 678) (by decide +kernel), List.mem_of_getElem? (i := 887) (by decide +kernel), List.mem_of_getElem? (i := 888) (by decide +kernel)⟩
theorem lw_p73 : lw_okq (⟨"PatchesSameAgeModel", "wearsIn", "(II)I"⟩, 43) := ⟨⟨by decide +kernel, by decide +kernel⟩, List.mem_of_getElem? (i := 678) (by decide +kernel), List.mem_of_getElem? (i := 891) (by decide +kernel), List.mem_of_getElem? (i := 892) (by decide +kernel)⟩
theorem lw_p74 : lw_okq (⟨"PatchesSameAgeModel", "pullOf", "(I)I"⟩, 43) := ⟨⟨by decide +kernel, by decide +kernel⟩, List.mem_of_getElem? (i := 678) (by decide +kernel), List.mem_of_getElem? (i := 895) (by decide +kernel), List.mem_of_getElem? (i := 896) (by decide +kernel)⟩
theorem lw_p75 : lw_okq (⟨"PatchesSameAgeModel", "again", "()V"⟩, 43) := ⟨⟨by decide +kernel, by decide +kernel⟩, List.mem_of_getElem? (i := 678) (by decide +kernel), List.mem_of_getElem? (i := 908) (by decide +kernel), List.mem_of_getElem? (i := 909) (by decide +kernel)⟩
theorem lw_p76 : lw_okq (⟨"PatchesSameAgeModel", "holdsOf", "(I)I"⟩, 43) := ⟨⟨by decide +kernel, by decide +kernel⟩, List.mem_of_getElem? (i := 678) (by decide +kernel), List.mem_of_getElem? (i := 933) (by decide +kernel), List.mem_of_getElem? (i := 934) (by decide +kernel)⟩
theorem lw_p77 : lw_okq (⟨"PatchesSameAgeModel", "isHole", "(I)Z"⟩, 43) := ⟨⟨by decide +kernel, by decide +kernel⟩, List.mem_of_getElem? (i := 678) (by decide +kernel), List.mem_of_getElem? (i := 937) (by decide +kernel), List.mem_of_getElem? (i := 938) (by decide +kernel)⟩
theorem lw_p78 : lw_okq (⟨"PatchesSameAgeModel", "keepTurn", "()V"⟩, 43) := ⟨⟨by decide +kernel, by decide +kernel⟩, List.mem_of_getElem? (i := 678) (by decide +kernel), List.mem_of_getElem? (i := 955) (by decide +kernel), List.mem_of_getElem? (i := 956) (by decide +kernel)⟩
theorem lw_p79 : lw_okq (⟨"PatchesSameAgeModel", "allPull", "()I"⟩, 43) := ⟨⟨by decide +kernel, by decide +kernel⟩, List.mem_of_getElem? (i := 678) (by decide +kernel), List.mem_of_getElem? (i := 963) (by decide +kernel), List.mem_of_getElem? (i := 964) (by decide +kernel)⟩
def lw_privs_5 : List (MethodName × Nat) := [(⟨"PatchesSameAgeModel", "carryAll", "([IZ)V"⟩, 43), (⟨"PatchesSameAgeModel", "carry", "(I)I"⟩, 43), (⟨"PatchesSameAgeModel", "comesTold", "(I)Z"⟩, 43), (⟨"PatchesSameAgeModel", "makeCell", "(IIII)V"⟩, 43), (⟨"PatchesSameAgeModel", "pieceComes", "(III)V"⟩, 43), (⟨"PatchesSameAgeModel", "isPiece", "(I)Z"⟩, 43), (⟨"PatchesSameAgeModel", "putOn", "(II)V"⟩, 43), (⟨"PatchesSameAgeModel", "goYears", "(I)V"⟩, 43), (⟨"PatchesSameAgeModel", "yearOn", "()V"⟩, 43), (⟨"PatchesSameAgeModel", "wearsIn", "(II)I"⟩, 43), (⟨"PatchesSameAgeModel", "pullOf", "(I)I"⟩, 43), (⟨"PatchesSameAgeModel", "again", "()V"⟩, 43), (⟨"PatchesSameAgeModel", "holdsOf", "(I)I"⟩, 43), (⟨"PatchesSameAgeModel", "isHole", "(I)Z"⟩, 43), (⟨"PatchesSameAgeModel", "keepTurn", "()V"⟩, 43), (⟨"PatchesSameAgeModel", "allPull", "()I"⟩, 43)]
theorem lw_r5 : ∀ q ∈ lw_privs_5, lw_okq q := List.forall_mem_cons.mpr ⟨lw_p64, List.forall_mem_cons.mpr ⟨lw_p65, List.forall_mem_cons.mpr ⟨lw_p66, List.forall_mem_cons.mpr ⟨lw_p67, List.forall_mem_cons.mpr ⟨lw_p68, List.forall_mem_cons.mpr ⟨lw_p69, List.forall_mem_cons.mpr ⟨lw_p70, List.forall_mem_cons.mpr ⟨lw_p71, List.forall_mem_cons.mpr ⟨lw_p72, List.forall_mem_cons.mpr ⟨lw_p73, List.forall_mem_cons.mpr ⟨lw_p74, List.forall_mem_cons.mpr ⟨lw_p75, List.forall_mem_cons.mpr ⟨lw_p76, List.forall_mem_cons.mpr ⟨lw_p77, List.forall_mem_cons.mpr ⟨lw_p78, List.forall_mem_cons.mpr ⟨lw_p79, fun _ h => absurd h List.not_mem_nil⟩⟩⟩⟩⟩⟩⟩⟩⟩⟩⟩⟩⟩⟩⟩⟩
theorem lw_p80 : lw_okq (⟨"PatchesSameAgeModel", "holeBits", "()I"⟩, 43) := ⟨⟨by decide +kernel, by decide +kernel⟩, List.mem_of_getElem? (i := 678) (by decide +kernel), List.mem_of_getElem? (i := 978) (by decide +kernel), List.mem_of_getElem? (i := 979) (by decide +kernel)⟩
theorem lw_p81 : lw_okq (⟨"PatchesSameAgeModel", "allWear", "()I"⟩, 43) := ⟨⟨by decide +kernel, by decide +kernel⟩, List.mem_of_getElem? (i := 678) (by decide +kernel), List.mem_of_getElem? (i := 996) (by decide +kernel), List.mem_of_getElem? (i := 997) (by decide +kernel)⟩
theorem lw_p82 : lw_okq (⟨"PatchesSameAgeModel", "layLasts", "()V"⟩, 43) := ⟨⟨by decide +kernel, by decide +kernel⟩, List.mem_of_getElem? (i := 678) (by decide +kernel), List.mem_of_getElem? (i := 1005) (by decide +kernel), List.mem_of_getElem? (i := 1006) (by decide +kernel)⟩
theorem lw_p83 : lw_okq (⟨"PatchesSameAgeModel", "firstOf", "()I"⟩, 43) := ⟨⟨by decide +kernel, by decide +kernel⟩, List.mem_of_getElem? (i := 678) (by decide +kernel), List.mem_of_getElem? (i := 1009) (by decide +kernel), List.mem_of_getElem? (i := 1010) (by decide +kernel)⟩
theorem lw_p84 : lw_okq (⟨"PatchesSameAgeModel", "freeBits", "()I"⟩, 43) := ⟨⟨by decide +kernel, by decide +kernel⟩, List.mem_of_getElem? (i := 678) (by decide +kernel), List.mem_of_getElem? (i := 1029) (by decide +kernel), List.mem_of_getElem? (i := 1030) (by decide +kernel)⟩
theorem lw_p85 : lw_okq (⟨"PatchesSameAgeModel", "layFree", "()V"⟩, 43) := ⟨⟨by decide +kernel, by decide +kernel⟩, List.mem_of_getElem? (i := 678) (by decide +kernel), List.mem_of_getElem? (i := 1041) (by decide +kernel), List.mem_of_getElem? (i := 1042) (by decide +kernel)⟩
theorem lw_p86 : lw_okq (⟨"PatchesSameAgeModel", "areApart", "()Z"⟩, 43) := ⟨⟨by decide +kernel, by decide +kernel⟩, List.mem_of_getElem? (i := 678) (by decide +kernel), List.mem_of_getElem? (i := 1046) (by decide +kernel), List.mem_of_getElem? (i := 1047) (by decide +kernel)⟩
theorem lw_p87 : lw_okq (⟨"PatchesSameAgeModel", "playAll", "()V"⟩, 43) := ⟨⟨by decide +kernel, by decide +kernel⟩, List.mem_of_getElem? (i := 678) (by decide +kernel), List.mem_of_getElem? (i := 1058) (by decide +kernel), List.mem_of_getElem? (i := 1059) (by decide +kernel)⟩
theorem lw_p88 : lw_okq (⟨"PatchesSameAgeModel", "canTry", "(I)Z"⟩, 43) := ⟨⟨by decide +kernel, by decide +kernel⟩, List.mem_of_getElem? (i := 678) (by decide +kernel), List.mem_of_getElem? (i := 1062) (by decide +kernel), List.mem_of_getElem? (i := 1063) (by decide +kernel)⟩
theorem lw_p89 : lw_okq (⟨"PatchesSameAgeModel", "takeWorth", "(II)V"⟩, 43) := ⟨⟨by decide +kernel, by decide +kernel⟩, List.mem_of_getElem? (i := 678) (by decide +kernel), List.mem_of_getElem? (i := 1066) (by decide +kernel), List.mem_of_getElem? (i := 1067) (by decide +kernel)⟩
theorem lw_p90 : lw_okq (⟨"PatchesSameAgeModel", "layTried", "(I)V"⟩, 43) := ⟨⟨by decide +kernel, by decide +kernel⟩, List.mem_of_getElem? (i := 678) (by decide +kernel), List.mem_of_getElem? (i := 1073) (by decide +kernel), List.mem_of_getElem? (i := 1074) (by decide +kernel)⟩
theorem lw_p91 : lw_okq (⟨"PatchesSameAgeModel", "isRow", "(I)Z"⟩, 43) := ⟨⟨by decide +kernel, by decide +kernel⟩, List.mem_of_getElem? (i := 678) (by decide +kernel), List.mem_of_getElem? (i := 1081) (by decide +kernel), List.mem_of_getElem? (i := 1082) (by decide +kernel)⟩
theorem lw_p92 : lw_okq (⟨"PatchesSameAgeModel", "layHeaps", "(I)V"⟩, 43) := ⟨⟨by decide +kernel, by decide +kernel⟩, List.mem_of_getElem? (i := 678) (by decide +kernel), List.mem_of_getElem? (i := 1089) (by decide +kernel), List.mem_of_getElem? (i := 1090) (by decide +kernel)⟩
theorem lw_p93 : lw_okq (⟨"PatchesSameAgeModel", "swapCells", "(II)V"⟩, 43) := ⟨⟨by decide +kernel, by decide +kernel⟩, List.mem_of_getElem? (i := 678) (by decide +kernel), List.mem_of_getElem? (i := 1101) (by decide +kernel), List.mem_of_getElem? (i := 1102) (by decide +kernel)⟩
theorem lw_p94 : lw_okq (⟨"PatchesSameAgeModel", "ofSize", "(II)I"⟩, 43) := ⟨⟨by decide +kernel, by decide +kernel⟩, List.mem_of_getElem? (i := 678) (by decide +kernel), List.mem_of_getElem? (i := 1126) (by decide +kernel), List.mem_of_getElem? (i := 1127) (by decide +kernel)⟩
theorem lw_p95 : lw_okq (⟨"PatchesSameAgeModel", "allAges", "()I"⟩, 43) := ⟨⟨by decide +kernel, by decide +kernel⟩, List.mem_of_getElem? (i := 678) (by decide +kernel), List.mem_of_getElem? (i := 1171) (by decide +kernel), List.mem_of_getElem? (i := 1172) (by decide +kernel)⟩
def lw_privs_6 : List (MethodName × Nat) := [(⟨"PatchesSameAgeModel", "holeBits", "()I"⟩, 43), (⟨"PatchesSameAgeModel", "allWear", "()I"⟩, 43), (⟨"PatchesSameAgeModel", "layLasts", "()V"⟩, 43), (⟨"PatchesSameAgeModel", "firstOf", "()I"⟩, 43), (⟨"PatchesSameAgeModel", "freeBits", "()I"⟩, 43), (⟨"PatchesSameAgeModel", "layFree", "()V"⟩, 43), (⟨"PatchesSameAgeModel", "areApart", "()Z"⟩, 43), (⟨"PatchesSameAgeModel", "playAll", "()V"⟩, 43), (⟨"PatchesSameAgeModel", "canTry", "(I)Z"⟩, 43), (⟨"PatchesSameAgeModel", "takeWorth", "(II)V"⟩, 43), (⟨"PatchesSameAgeModel", "layTried", "(I)V"⟩, 43), (⟨"PatchesSameAgeModel", "isRow", "(I)Z"⟩, 43), (⟨"PatchesSameAgeModel", "layHeaps", "(I)V"⟩, 43), (⟨"PatchesSameAgeModel", "swapCells", "(II)V"⟩, 43), (⟨"PatchesSameAgeModel", "ofSize", "(II)I"⟩, 43), (⟨"PatchesSameAgeModel", "allAges", "()I"⟩, 43)]
theorem lw_r6 : ∀ q ∈ lw_privs_6, lw_okq q := List.forall_mem_cons.mpr ⟨lw_p80, List.forall_mem_cons.mpr ⟨lw_p81, List.forall_mem_cons.mpr ⟨lw_p82, List.forall_mem_cons.mpr ⟨lw_p83, List.forall_mem_cons.mpr ⟨lw_p84, List.forall_mem_cons.mpr ⟨lw_p85, List.forall_mem_cons.mpr ⟨lw_p86, List.forall_mem_cons.mpr ⟨lw_p87, List.forall_mem_cons.mpr ⟨lw_p88, List.forall_mem_cons.mpr ⟨lw_p89, List.forall_mem_cons.mpr ⟨lw_p90, List.forall_mem_cons.mpr ⟨lw_p91, List.forall_mem_cons.mpr ⟨lw_p92, List.forall_mem_cons.mpr ⟨lw_p93, List.forall_mem_cons.mpr ⟨lw_p94, List.forall_mem_cons.mpr ⟨lw_p95, fun _ h => absurd h List.not_mem_nil⟩⟩⟩⟩⟩⟩⟩⟩⟩⟩⟩⟩⟩⟩⟩⟩
theorem lw_p96 : lw_okq (⟨"PatchesSameAgeModel", "drawBelow", "(I)I"⟩, 43) := ⟨⟨by decide +kernel, by decide +kernel⟩, List.mem_of_getElem? (i := 678) (by decide +kernel), List.mem_of_getElem? (i := 1200) (by decide +kernel), List.mem_of_getElem? (i := 1201) (by decide +kernel)⟩
def lw_privs_7 : List (MethodName × Nat) := [(⟨"PatchesSameAgeModel", "drawBelow", "(I)I"⟩, 43)]
theorem lw_r7 : ∀ q ∈ lw_privs_7, lw_okq q := List.forall_mem_cons.mpr ⟨lw_p96, fun _ h => absurd h List.not_mem_nil⟩
def lw_privs : List (MethodName × Nat) := lw_privs_1 ++ (lw_privs_2 ++ (lw_privs_3 ++ (lw_privs_4 ++ (lw_privs_5 ++ (lw_privs_6 ++ (lw_privs_7))))))
def lw_tbl : List Cond := k2_sels lw_privs ++ tables_1
theorem lw_privs_ok : ∀ q ∈ lw_privs, lw_okq q := by
  show ∀ q ∈ lw_privs_1 ++ (lw_privs_2 ++ (lw_privs_3 ++ (lw_privs_4 ++ (lw_privs_5 ++ (lw_privs_6 ++ (lw_privs_7)))))), lw_okq q
  exact List.forall_mem_append.mpr ⟨lw_r1, List.forall_mem_append.mpr ⟨lw_r2, List.forall_mem_append.mpr ⟨lw_r3, List.forall_mem_append.mpr ⟨lw_r4, List.forall_mem_append.mpr ⟨lw_r5, List.forall_mem_append.mpr ⟨lw_r6, lw_r7⟩⟩⟩⟩⟩⟩
end
section
def RX0 : String := "PatchesSameAge$Cloth"
def TX0 : u_T := fun k => match k with
  | 0 => ("PatchesSameAge$Cloth", "kind", "[I", true)
  | 1 => ("PatchesSameAge$Cloth", "figure", "[I", true)
  | 2 => ("PatchesSameAge$Cloth", "age", "[I", true)
  | 3 => ("PatchesSameAge$Cloth", "wear", "[I", true)
  | _ => ("PatchesSameAge$Cloth", "year", "I", false)
def tyX0 : Nat → FieldType := fun k => match k with
  | 0 => .array .int
  | 1 => .array .int
  | 2 => .array .int
  | 3 => .array .int
  | _ => .int
abbrev wsX00 : List Cond := u_ws RX0 TX0 5
theorem nmX0 : ∀ a, a < 5 → ∀ b, b < 5 → a ≠ b → (TX0 a).2.1 ≠ (TX0 b).2.1 := by decide +kernel
theorem tyX0_ok : ∀ k, k < 5 → parseFieldDescriptor (TX0 k).2.2.1 = some (tyX0 k) := by decide +kernel
abbrev cX0_init : ByteArray := prog_2_method_1_code
def yX0_init : MethodName := ⟨RX0, "<init>", "()V"⟩
abbrev cX0_become : ByteArray := prog_2_method_2_code
def yX0_become : MethodName := ⟨RX0, "become", "(LPatchesSameAge$Cloth;)V"⟩
abbrev cX0_make : ByteArray := prog_2_method_3_code
def yX0_make : MethodName := ⟨RX0, "make", "(IIII)V"⟩
abbrev cX0_put : ByteArray := prog_2_method_4_code
def yX0_put : MethodName := ⟨RX0, "put", "(LPatchesSameAge$Roll;II)V"⟩
abbrev cX0_change : ByteArray := prog_2_method_5_code
def yX0_change : MethodName := ⟨RX0, "change", "(II)V"⟩
abbrev cX0_changeIn : ByteArray := prog_2_method_6_code
def yX0_changeIn : MethodName := ⟨RX0, "changeIn", "([III)V"⟩
abbrev cX0_pull : ByteArray := prog_2_method_7_code
def yX0_pull : MethodName := ⟨RX0, "pull", "(I)I"⟩
abbrev cX0_pullTogether : ByteArray := prog_2_method_8_code
def yX0_pullTogether : MethodName := ⟨RX0, "pullTogether", "()I"⟩
abbrev cX0_wearing : ByteArray := prog_2_method_9_code
def yX0_wearing : MethodName := ⟨RX0, "wearing", "(I)I"⟩
abbrev cX0_hold : ByteArray := prog_2_method_10_code
def yX0_hold : MethodName := ⟨RX0, "hold", "(I)I"⟩
abbrev cX0_isHole : ByteArray := prog_2_method_11_code
def yX0_isHole : MethodName := ⟨RX0, "isHole", "(I)Z"⟩
abbrev cX0_holeBits : ByteArray := prog_2_method_12_code
def yX0_holeBits : MethodName := ⟨RX0, "holeBits", "()I"⟩
abbrev cX0_goOn : ByteArray := prog_2_method_13_code
def yX0_goOn : MethodName := ⟨RX0, "goOn", "(I)V"⟩
abbrev cX0_growOlder : ByteArray := prog_2_method_14_code
def yX0_growOlder : MethodName := ⟨RX0, "growOlder", "(I)V"⟩
abbrev cX0_yearsToHole : ByteArray := prog_2_method_15_code
def yX0_yearsToHole : MethodName := ⟨RX0, "yearsToHole", "(II)I"⟩
abbrev cX0_ageTogether : ByteArray := prog_2_method_16_code
def yX0_ageTogether : MethodName := ⟨RX0, "ageTogether", "()I"⟩
abbrev cX0_wearTogether : ByteArray := prog_2_method_17_code
def yX0_wearTogether : MethodName := ⟨RX0, "wearTogether", "()I"⟩
abbrev cX0_moreWorn : ByteArray := prog_2_method_18_code
def yX0_moreWorn : MethodName := ⟨RX0, "moreWorn", "(I)I"⟩
abbrev cX0_risingFrom : ByteArray := prog_2_method_19_code
def yX0_risingFrom : MethodName := ⟨RX0, "risingFrom", "(I)I"⟩
abbrev cX0_heapOf : ByteArray := prog_2_method_20_code
def yX0_heapOf : MethodName := ⟨RX0, "heapOf", "(II)I"⟩
abbrev cX0_hangingOn : ByteArray := prog_2_method_21_code
def yX0_hangingOn : MethodName := ⟨RX0, "hangingOn", "(II)I"⟩
def RX1 : String := "PatchesSameAge$Past"
def TX1 : u_T := fun k => match k with
  | 0 => ("PatchesSameAge$Past", "cloth", "[LPatchesSameAge$Cloth;", true)
  | 1 => ("PatchesSameAge$Past", "used", "[I", true)
  | 2 => ("PatchesSameAge$Past", "next", "I", false)
  | _ => ("PatchesSameAge$Past", "size", "I", false)
def tyX1 : Nat → FieldType := fun k => match k with
  | 0 => .array (.object "PatchesSameAge$Cloth")
  | 1 => .array .int
  | 2 => .int
  | _ => .int
abbrev wsX10 : List Cond := u_ws RX1 TX1 4
theorem nmX1 : ∀ a, a < 4 → ∀ b, b < 4 → a ≠ b → (TX1 a).2.1 ≠ (TX1 b).2.1 := by decide +kernel
theorem tyX1_ok : ∀ k, k < 4 → parseFieldDescriptor (TX1 k).2.2.1 = some (tyX1 k) := by decide +kernel
abbrev cX1_init : ByteArray := prog_3_method_1_code
def yX1_init : MethodName := ⟨RX1, "<init>", "()V"⟩
abbrev cX1_note : ByteArray := prog_3_method_2_code
def yX1_note : MethodName := ⟨RX1, "note", "(LPatchesSameAge$Cloth;LPatchesSameAge$Roll;)V"⟩
abbrev cX1_takeBack : ByteArray := prog_3_method_3_code
def yX1_takeBack : MethodName := ⟨RX1, "takeBack", "(LPatchesSameAge$Cloth;LPatchesSameAge$Roll;)V"⟩
abbrev cX1_forget : ByteArray := prog_3_method_4_code
def yX1_forget : MethodName := ⟨RX1, "forget", "()V"⟩
def RX2 : String := "PatchesSameAge$Roll"
def TX2 : u_T := fun k => match k with
  | 0 => ("PatchesSameAge$Roll", "kind", "[I", true)
  | 1 => ("PatchesSameAge$Roll", "figure", "[I", true)
  | 2 => ("PatchesSameAge$Roll", "age", "[I", true)
  | 3 => ("PatchesSameAge$Roll", "size", "I", false)
  | _ => ("PatchesSameAge$Roll", "used", "I", false)
def tyX2 : Nat → FieldType := fun k => match k with
  | 0 => .array .int
  | 1 => .array .int
  | 2 => .array .int
  | 3 => .int
  | _ => .int
abbrev wsX20 : List Cond := u_ws RX2 TX2 5
theorem nmX2 : ∀ a, a < 5 → ∀ b, b < 5 → a ≠ b → (TX2 a).2.1 ≠ (TX2 b).2.1 := by decide +kernel
theorem tyX2_ok : ∀ k, k < 5 → parseFieldDescriptor (TX2 k).2.2.1 = some (tyX2 k) := by decide +kernel
abbrev cX2_init : ByteArray := prog_4_method_1_code
def yX2_init : MethodName := ⟨RX2, "<init>", "()V"⟩
abbrev cX2_become : ByteArray := prog_4_method_2_code
def yX2_become : MethodName := ⟨RX2, "become", "(LPatchesSameAge$Roll;)V"⟩
abbrev cX2_add : ByteArray := prog_4_method_3_code
def yX2_add : MethodName := ⟨RX2, "add", "(III)V"⟩
abbrev cX2_has : ByteArray := prog_4_method_4_code
def yX2_has : MethodName := ⟨RX2, "has", "(I)Z"⟩
abbrev cX2_isFree : ByteArray := prog_4_method_5_code
def yX2_isFree : MethodName := ⟨RX2, "isFree", "(I)Z"⟩
abbrev cX2_use : ByteArray := prog_4_method_6_code
def yX2_use : MethodName := ⟨RX2, "use", "(I)V"⟩
abbrev cX2_free : ByteArray := prog_4_method_7_code
def yX2_free : MethodName := ⟨RX2, "free", "()I"⟩
def RX3 : String := "PatchesSameAge$Text"
def TX3 : u_T := fun k => match k with
  | 0 => ("PatchesSameAge$Text", "letter", "[I", true)
  | _ => ("PatchesSameAge$Text", "length", "I", false)
def tyX3 : Nat → FieldType := fun k => match k with
  | 0 => .array .int
  | _ => .int
abbrev wsX30 : List Cond := u_ws RX3 TX3 2
theorem nmX3 : ∀ a, a < 2 → ∀ b, b < 2 → a ≠ b → (TX3 a).2.1 ≠ (TX3 b).2.1 := by decide +kernel
theorem tyX3_ok : ∀ k, k < 2 → parseFieldDescriptor (TX3 k).2.2.1 = some (tyX3 k) := by decide +kernel
abbrev cX3_init : ByteArray := prog_5_method_1_code
def yX3_init : MethodName := ⟨RX3, "<init>", "()V"⟩
abbrev cX3_add : ByteArray := prog_5_method_2_code
def yX3_add : MethodName := ⟨RX3, "add", "(I)V"⟩
abbrev cX3_letterAt : ByteArray := prog_5_method_3_code
def yX3_letterAt : MethodName := ⟨RX3, "letterAt", "(I)I"⟩
abbrev cX3_sizeAt : ByteArray := prog_5_method_4_code
def yX3_sizeAt : MethodName := ⟨RX3, "sizeAt", "(I)I"⟩
abbrev cX3_formFault : ByteArray := prog_5_method_5_code
def yX3_formFault : MethodName := ⟨RX3, "formFault", "()I"⟩
abbrev cX3_isDigit : ByteArray := prog_5_method_6_code
def yX3_isDigit : MethodName := ⟨RX3, "isDigit", "(I)Z"⟩
abbrev cX3_number : ByteArray := prog_5_method_7_code
def yX3_number : MethodName := ⟨RX3, "number", "(II)I"⟩
def RX4 : String := "PatchesSameAge$Ways"
def TX4 : u_T := fun k => match k with
  | 0 => ("PatchesSameAge$Ways", "piece", "[I", true)
  | 1 => ("PatchesSameAge$Ways", "at", "[I", true)
  | 2 => ("PatchesSameAge$Ways", "pull", "[I", true)
  | _ => ("PatchesSameAge$Ways", "size", "I", false)
def tyX4 : Nat → FieldType := fun k => match k with
  | 0 => .array .int
  | 1 => .array .int
  | 2 => .array .int
  | _ => .int
abbrev wsX40 : List Cond := u_ws RX4 TX4 4
theorem nmX4 : ∀ a, a < 4 → ∀ b, b < 4 → a ≠ b → (TX4 a).2.1 ≠ (TX4 b).2.1 := by decide +kernel
theorem tyX4_ok : ∀ k, k < 4 → parseFieldDescriptor (TX4 k).2.2.1 = some (tyX4 k) := by decide +kernel
abbrev cX4_init : ByteArray := prog_6_method_1_code
def yX4_init : MethodName := ⟨RX4, "<init>", "()V"⟩
abbrev cX4_gather : ByteArray := prog_6_method_2_code
def yX4_gather : MethodName := ⟨RX4, "gather", "(LPatchesSameAge$Roll;)V"⟩
abbrev cX4_placeOf : ByteArray := prog_6_method_3_code
def yX4_placeOf : MethodName := ⟨RX4, "placeOf", "(I)I"⟩
abbrev cX4_many : ByteArray := prog_6_method_4_code
def yX4_many : MethodName := ⟨RX4, "many", "()I"⟩
abbrev cX4_cellIn : ByteArray := prog_6_method_5_code
def yX4_cellIn : MethodName := ⟨RX4, "cellIn", "(II)I"⟩
abbrev cX4_reckon : ByteArray := prog_6_method_6_code
def yX4_reckon : MethodName := ⟨RX4, "reckon", "(LPatchesSameAge$Cloth;LPatchesSameAge$Roll;LPatchesSameAge$Cloth;)V"⟩
abbrev cX4_leastWay : ByteArray := prog_6_method_7_code
def yX4_leastWay : MethodName := ⟨RX4, "leastWay", "()I"⟩
abbrev cX4_takeOff : ByteArray := prog_6_method_8_code
def yX4_takeOff : MethodName := ⟨RX4, "takeOff", "()V"⟩
abbrev cX4_isTaken : ByteArray := prog_6_method_9_code
def yX4_isTaken : MethodName := ⟨RX4, "isTaken", "(I)Z"⟩
abbrev cX4_number : ByteArray := prog_6_method_10_code
def yX4_number : MethodName := ⟨RX4, "number", "()I"⟩
def RX5 : String := "PatchesSameAge"
def TX5 : u_T := fun k => match k with
  | 0 => ("PatchesSameAge", "now", "LPatchesSameAge$Cloth;", true)
  | 1 => ("PatchesSameAge", "roll", "LPatchesSameAge$Roll;", true)
  | 2 => ("PatchesSameAge", "past", "LPatchesSameAge$Past;", true)
  | 3 => ("PatchesSameAge", "text", "LPatchesSameAge$Text;", true)
  | 4 => ("PatchesSameAge", "numbers", "[I", true)
  | 5 => ("PatchesSameAge", "numberCount", "I", false)
  | 6 => ("PatchesSameAge", "refused", "[I", true)
  | 7 => ("PatchesSameAge", "imageCloth", "LPatchesSameAge$Cloth;", true)
  | 8 => ("PatchesSameAge", "imageRoll", "LPatchesSameAge$Roll;", true)
  | 9 => ("PatchesSameAge", "imageTaken", "Z", false)
  | 10 => ("PatchesSameAge", "mind", "LPatchesSameAge$Cloth;", true)
  | 11 => ("PatchesSameAge", "later", "LPatchesSameAge$Cloth;", true)
  | 12 => ("PatchesSameAge", "mindRoll", "LPatchesSameAge$Roll;", true)
  | 13 => ("PatchesSameAge", "ways", "LPatchesSameAge$Ways;", true)
  | _ => ("PatchesSameAge", "list", "[I", true)
def tyX5 : Nat → FieldType := fun k => match k with
  | 0 => .object "PatchesSameAge$Cloth"
  | 1 => .object "PatchesSameAge$Roll"
  | 2 => .object "PatchesSameAge$Past"
  | 3 => .object "PatchesSameAge$Text"
  | 4 => .array .int
  | 5 => .int
  | 6 => .array .int
  | 7 => .object "PatchesSameAge$Cloth"
  | 8 => .object "PatchesSameAge$Roll"
  | 9 => .boolean
  | 10 => .object "PatchesSameAge$Cloth"
  | 11 => .object "PatchesSameAge$Cloth"
  | 12 => .object "PatchesSameAge$Roll"
  | 13 => .object "PatchesSameAge$Ways"
  | _ => .array .int
abbrev wsX50 : List Cond := u_ws RX5 TX5 15
theorem nmX5 : ∀ a, a < 15 → ∀ b, b < 15 → a ≠ b → (TX5 a).2.1 ≠ (TX5 b).2.1 := by decide +kernel
theorem tyX5_ok : ∀ k, k < 15 → parseFieldDescriptor (TX5 k).2.2.1 = some (tyX5 k) := by decide +kernel
abbrev cX5_init : ByteArray := prog_1_method_1_code
def yX5_init : MethodName := ⟨RX5, "<init>", "()V"⟩
abbrev cX5_feed : ByteArray := prog_1_method_2_code
def yX5_feed : MethodName := ⟨RX5, "feed", "(I)I"⟩
abbrev cX5_trousers : ByteArray := prog_1_method_3_code
def yX5_trousers : MethodName := ⟨RX5, "trousers", "()I"⟩
abbrev cX5_tellAll : ByteArray := prog_1_method_4_code
def yX5_tellAll : MethodName := ⟨RX5, "tellAll", "()I"⟩
abbrev cX5_tellOne : ByteArray := prog_1_method_5_code
def yX5_tellOne : MethodName := ⟨RX5, "tellOne", "(I)Z"⟩
abbrev cX5_tellCells : ByteArray := prog_1_method_6_code
def yX5_tellCells : MethodName := ⟨RX5, "tellCells", "(III)Z"⟩
abbrev cX5_tellPiece : ByteArray := prog_1_method_7_code
def yX5_tellPiece : MethodName := ⟨RX5, "tellPiece", "(III)Z"⟩
abbrev cX5_tellPut : ByteArray := prog_1_method_8_code
def yX5_tellPut : MethodName := ⟨RX5, "tellPut", "(II)Z"⟩
abbrev cX5_tellWear : ByteArray := prog_1_method_9_code
def yX5_tellWear : MethodName := ⟨RX5, "tellWear", "(II)Z"⟩
abbrev cX5_tellYears : ByteArray := prog_1_method_10_code
def yX5_tellYears : MethodName := ⟨RX5, "tellYears", "(I)Z"⟩
abbrev cX5_cellOf : ByteArray := prog_1_method_11_code
def yX5_cellOf : MethodName := ⟨RX5, "cellOf", "(II)I"⟩
abbrev cX5_pieceOf : ByteArray := prog_1_method_12_code
def yX5_pieceOf : MethodName := ⟨RX5, "pieceOf", "(II)I"⟩
abbrev cX5_piece : ByteArray := prog_1_method_13_code
def yX5_piece : MethodName := ⟨RX5, "piece", "(III)I"⟩
abbrev cX5_cell : ByteArray := prog_1_method_14_code
def yX5_cell : MethodName := ⟨RX5, "cell", "(IIII)I"⟩
abbrev cX5_puts : ByteArray := prog_1_method_15_code
def yX5_puts : MethodName := ⟨RX5, "puts", "(II)I"⟩
abbrev cX5_wears : ByteArray := prog_1_method_16_code
def yX5_wears : MethodName := ⟨RX5, "wears", "(II)I"⟩
abbrev cX5_years : ByteArray := prog_1_method_17_code
def yX5_years : MethodName := ⟨RX5, "years", "(I)I"⟩
abbrev cX5_back : ByteArray := prog_1_method_18_code
def yX5_back : MethodName := ⟨RX5, "back", "()I"⟩
abbrev cX5_behind : ByteArray := prog_1_method_19_code
def yX5_behind : MethodName := ⟨RX5, "behind", "(III)I"⟩
abbrev cX5_all : ByteArray := prog_1_method_20_code
def yX5_all : MethodName := ⟨RX5, "all", "(II)I"⟩
abbrev cX5_thinkYears : ByteArray := prog_1_method_21_code
def yX5_thinkYears : MethodName := ⟨RX5, "thinkYears", "(I)V"⟩
abbrev cX5_holes : ByteArray := prog_1_method_22_code
def yX5_holes : MethodName := ⟨RX5, "holes", "(I)I"⟩
abbrev cX5_lastWhole : ByteArray := prog_1_method_23_code
def yX5_lastWhole : MethodName := ⟨RX5, "lastWhole", "()I"⟩
abbrev cX5_lasts : ByteArray := prog_1_method_24_code
def yX5_lasts : MethodName := ⟨RX5, "lasts", "(I)I"⟩
abbrev cX5_doomed : ByteArray := prog_1_method_25_code
def yX5_doomed : MethodName := ⟨RX5, "doomed", "(I)I"⟩
abbrev cX5_younger : ByteArray := prog_1_method_26_code
def yX5_younger : MethodName := ⟨RX5, "younger", "(I)I"⟩
abbrev cX5_fits : ByteArray := prog_1_method_27_code
def yX5_fits : MethodName := ⟨RX5, "fits", "(II)I"⟩
abbrev cX5_bestPiece : ByteArray := prog_1_method_28_code
def yX5_bestPiece : MethodName := ⟨RX5, "bestPiece", "(I)I"⟩
abbrev cX5_mend : ByteArray := prog_1_method_29_code
def yX5_mend : MethodName := ⟨RX5, "mend", "()I"⟩
abbrev cX5_keep : ByteArray := prog_1_method_30_code
def yX5_keep : MethodName := ⟨RX5, "keep", "()I"⟩
abbrev cX5_placed : ByteArray := prog_1_method_31_code
def yX5_placed : MethodName := ⟨RX5, "placed", "(I)I"⟩
abbrev cX5_when : ByteArray := prog_1_method_32_code
def yX5_when : MethodName := ⟨RX5, "when", "(II)I"⟩
abbrev cX5_turns : ByteArray := prog_1_method_33_code
def yX5_turns : MethodName := ⟨RX5, "turns", "(I)I"⟩
abbrev cX5_endOf : ByteArray := prog_1_method_34_code
def yX5_endOf : MethodName := ⟨RX5, "endOf", "(LPatchesSameAge$Ways;I)I"⟩
abbrev cX5_bestOf : ByteArray := prog_1_method_35_code
def yX5_bestOf : MethodName := ⟨RX5, "bestOf", "(II)I"⟩
abbrev cX5_row : ByteArray := prog_1_method_36_code
def yX5_row : MethodName := ⟨RX5, "row", "(I)I"⟩
abbrev cX5_clear : ByteArray := prog_1_method_37_code
def yX5_clear : MethodName := ⟨RX5, "clear", "()I"⟩
abbrev cX5_judge : ByteArray := prog_1_method_38_code
def yX5_judge : MethodName := ⟨RX5, "judge", "()I"⟩
abbrev cX5_whose : ByteArray := prog_1_method_39_code
def yX5_whose : MethodName := ⟨RX5, "whose", "(II)I"⟩
abbrev cX5_bitsThatWoreSo : ByteArray := prog_1_method_40_code
def yX5_bitsThatWoreSo : MethodName := ⟨RX5, "bitsThatWoreSo", "(III)I"⟩
abbrev cX5_agesThatWoreSo : ByteArray := prog_1_method_41_code
def yX5_agesThatWoreSo : MethodName := ⟨RX5, "agesThatWoreSo", "(I)I"⟩
abbrev cX5_thinkOther : ByteArray := prog_1_method_42_code
def yX5_thinkOther : MethodName := ⟨RX5, "thinkOther", "(III)V"⟩
abbrev cX5_mindWoreSo : ByteArray := prog_1_method_43_code
def yX5_mindWoreSo : MethodName := ⟨RX5, "mindWoreSo", "(I)Z"⟩
abbrev cX5_islands : ByteArray := prog_1_method_44_code
def yX5_islands : MethodName := ⟨RX5, "islands", "(II)I"⟩
abbrev cX5_strip : ByteArray := prog_1_method_45_code
def yX5_strip : MethodName := ⟨RX5, "strip", "(I)I"⟩
abbrev cX5_swap : ByteArray := prog_1_method_46_code
def yX5_swap : MethodName := ⟨RX5, "swap", "()I"⟩
abbrev cX5_oldest : ByteArray := prog_1_method_47_code
def yX5_oldest : MethodName := ⟨RX5, "oldest", "(I)I"⟩
abbrev cX5_tightest : ByteArray := prog_1_method_48_code
def yX5_tightest : MethodName := ⟨RX5, "tightest", "(I)I"⟩
abbrev cX5_ageFor : ByteArray := prog_1_method_49_code
def yX5_ageFor : MethodName := ⟨RX5, "ageFor", "(I)I"⟩
abbrev cX5_entire : ByteArray := prog_1_method_50_code
def yX5_entire : MethodName := ⟨RX5, "entire", "()I"⟩
abbrev cX5_harm : ByteArray := prog_1_method_51_code
def yX5_harm : MethodName := ⟨RX5, "harm", "(I)I"⟩
abbrev cX5_pairs : ByteArray := prog_1_method_52_code
def yX5_pairs : MethodName := ⟨RX5, "pairs", "()I"⟩
abbrev cX5_sumOf : ByteArray := prog_1_method_53_code
def yX5_sumOf : MethodName := ⟨RX5, "sumOf", "(I)I"⟩
abbrev cX5_rank : ByteArray := prog_1_method_54_code
def yX5_rank : MethodName := ⟨RX5, "rank", "(I)I"⟩
abbrev cX5_unlike : ByteArray := prog_1_method_55_code
def yX5_unlike : MethodName := ⟨RX5, "unlike", "()I"⟩
abbrev cX5_chance : ByteArray := prog_1_method_56_code
def yX5_chance : MethodName := ⟨RX5, "chance", "(IIII)J"⟩
abbrev cX5_waysToHole : ByteArray := prog_1_method_57_code
def yX5_waysToHole : MethodName := ⟨RX5, "waysToHole", "(III)J"⟩
abbrev cX5_mean : ByteArray := prog_1_method_58_code
def yX5_mean : MethodName := ⟨RX5, "mean", "(I)J"⟩
abbrev cX5_partOf : ByteArray := prog_1_method_59_code
def yX5_partOf : MethodName := ⟨RX5, "partOf", "(JJI)J"⟩
abbrev cX5_lots : ByteArray := prog_1_method_60_code
def yX5_lots : MethodName := ⟨RX5, "lots", "(III)I"⟩
abbrev cX5_image : ByteArray := prog_1_method_61_code
def yX5_image : MethodName := ⟨RX5, "image", "()I"⟩
abbrev cX5_restore : ByteArray := prog_1_method_62_code
def yX5_restore : MethodName := ⟨RX5, "restore", "()I"⟩
abbrev cX5_count : ByteArray := prog_1_method_63_code
def yX5_count : MethodName := ⟨RX5, "count", "(I)I"⟩
abbrev cX5_refuse : ByteArray := prog_1_method_64_code
def yX5_refuse : MethodName := ⟨RX5, "refuse", "(I)I"⟩
abbrev cX5_refuseLong : ByteArray := prog_1_method_65_code
def yX5_refuseLong : MethodName := ⟨RX5, "refuseLong", "(I)J"⟩
abbrev cX5_isCell : ByteArray := prog_1_method_66_code
def yX5_isCell : MethodName := ⟨RX5, "isCell", "(I)Z"⟩
abbrev cX5_isKind : ByteArray := prog_1_method_67_code
def yX5_isKind : MethodName := ⟨RX5, "isKind", "(I)Z"⟩
abbrev cX5_least : ByteArray := prog_1_method_68_code
def yX5_least : MethodName := ⟨RX5, "least", "(I)I"⟩
abbrev cX5_bySize : ByteArray := prog_1_method_69_code
def yX5_bySize : MethodName := ⟨RX5, "bySize", "([III)I"⟩
def RX6 : String := "PatchesSameAgeModel"
def TX6 : u_T := fun k => match k with
  | 0 => ("PatchesSameAgeModel", "kinds", "[I", true)
  | 1 => ("PatchesSameAgeModel", "figures", "[I", true)
  | 2 => ("PatchesSameAgeModel", "ages", "[I", true)
  | 3 => ("PatchesSameAgeModel", "wear0", "[I", true)
  | 4 => ("PatchesSameAgeModel", "year", "I", false)
  | 5 => ("PatchesSameAgeModel", "pieces", "I", false)
  | 6 => ("PatchesSameAgeModel", "pieceKind", "[I", true)
  | 7 => ("PatchesSameAgeModel", "pieceFigure", "[I", true)
  | 8 => ("PatchesSameAgeModel", "pieceAge", "[I", true)
  | 9 => ("PatchesSameAgeModel", "pieceUsed", "[I", true)
  | 10 => ("PatchesSameAgeModel", "thrown", "I", false)
  | 11 => ("PatchesSameAgeModel", "refusals", "[I", true)
  | 12 => ("PatchesSameAgeModel", "letters", "[I", true)
  | 13 => ("PatchesSameAgeModel", "letterMany", "I", false)
  | 14 => ("PatchesSameAgeModel", "at", "I", false)
  | 15 => ("PatchesSameAgeModel", "isBad", "Z", false)
  | 16 => ("PatchesSameAgeModel", "statements", "I", false)
  | 17 => ("PatchesSameAgeModel", "placeIn", "[I", true)
  | 18 => ("PatchesSameAgeModel", "letterOf", "[I", true)
  | 19 => ("PatchesSameAgeModel", "told", "[I", true)
  | 20 => ("PatchesSameAgeModel", "kept", "[I", true)
  | 21 => ("PatchesSameAgeModel", "imaged", "[I", true)
  | 22 => ("PatchesSameAgeModel", "hasImage", "Z", false)
  | 23 => ("PatchesSameAgeModel", "place0", "I", false)
  | 24 => ("PatchesSameAgeModel", "isTaking", "Z", false)
  | 25 => ("PatchesSameAgeModel", "keptIn", "[I", false)
  | 26 => ("PatchesSameAgeModel", "turns0", "[I", true)
  | 27 => ("PatchesSameAgeModel", "turnOf", "[I", true)
  | 28 => ("PatchesSameAgeModel", "turned", "I", false)
  | 29 => ("PatchesSameAgeModel", "lastsOf", "[I", true)
  | 30 => ("PatchesSameAgeModel", "free0", "[I", true)
  | 31 => ("PatchesSameAgeModel", "freeMany", "I", false)
  | 32 => ("PatchesSameAgeModel", "cellFor", "[I", true)
  | 33 => ("PatchesSameAgeModel", "bestFor", "[I", true)
  | 34 => ("PatchesSameAgeModel", "tried", "[I", true)
  | 35 => ("PatchesSameAgeModel", "worthAt", "[I", true)
  | 36 => ("PatchesSameAgeModel", "firstTried", "I", false)
  | 37 => ("PatchesSameAgeModel", "row", "[I", true)
  | 38 => ("PatchesSameAgeModel", "rowMany", "I", false)
  | 39 => ("PatchesSameAgeModel", "heapOf", "[I", true)
  | 40 => ("PatchesSameAgeModel", "wearAt", "[I", true)
  | 41 => ("PatchesSameAgeModel", "sorted", "[I", true)
  | _ => ("PatchesSameAgeModel", "seed", "I", false)
def tyX6 : Nat → FieldType := fun k => match k with
  | 0 => .array .int
  | 1 => .array .int
  | 2 => .array .int
  | 3 => .array .int
  | 4 => .int
  | 5 => .int
  | 6 => .array .int
  | 7 => .array .int
  | 8 => .array .int
  | 9 => .array .int
  | 10 => .int
  | 11 => .array .int
  | 12 => .array .int
  | 13 => .int
  | 14 => .int
  | 15 => .boolean
  | 16 => .int
  | 17 => .array .int
  | 18 => .array .int
  | 19 => .array .int
  | 20 => .array .int
  | 21 => .array .int
  | 22 => .boolean
  | 23 => .int
  | 24 => .boolean
  | 25 => .array .int
  | 26 => .array .int
  | 27 => .array .int
  | 28 => .int
  | 29 => .array .int
  | 30 => .array .int
  | 31 => .int
  | 32 => .array .int
  | 33 => .array .int
  | 34 => .array .int
  | 35 => .array .int
  | 36 => .int
  | 37 => .array .int
  | 38 => .int
  | 39 => .array .int
  | 40 => .array .int
  | 41 => .array .int
  | _ => .int
abbrev wsX60 : List Cond := u_ws RX6 TX6 43
theorem nmX6 : ∀ a, a < 43 → ∀ b, b < 43 → a ≠ b → (TX6 a).2.1 ≠ (TX6 b).2.1 := by decide +kernel
theorem tyX6_ok : ∀ k, k < 43 → parseFieldDescriptor (TX6 k).2.2.1 = some (tyX6 k) := by decide +kernel
abbrev cX6_init : ByteArray := prog_8_method_1_code
def yX6_init : MethodName := ⟨RX6, "<init>", "()V"⟩
abbrev cX6_in : ByteArray := prog_8_method_3_code
def yX6_in : MethodName := ⟨RX6, "in", "(JJJ)Z"⟩
abbrev cX6_refuse : ByteArray := prog_8_method_4_code
def yX6_refuse : MethodName := ⟨RX6, "refuse", "(I)I"⟩
abbrev cX6_isCell : ByteArray := prog_8_method_5_code
def yX6_isCell : MethodName := ⟨RX6, "isCell", "(I)Z"⟩
abbrev cX6_isPiece : ByteArray := prog_8_method_6_code
def yX6_isPiece : MethodName := ⟨RX6, "isPiece", "(I)Z"⟩
abbrev cX6_wrongNumber : ByteArray := prog_8_method_7_code
def yX6_wrongNumber : MethodName := ⟨RX6, "wrongNumber", "(III)I"⟩
abbrev cX6_wrongBit : ByteArray := prog_8_method_8_code
def yX6_wrongBit : MethodName := ⟨RX6, "wrongBit", "(III)I"⟩
abbrev cX6_hasBit : ByteArray := prog_8_method_9_code
def yX6_hasBit : MethodName := ⟨RX6, "hasBit", "(II)Z"⟩
abbrev cX6_onesOf : ByteArray := prog_8_method_10_code
def yX6_onesOf : MethodName := ⟨RX6, "onesOf", "(I)I"⟩
abbrev cX6_held : ByteArray := prog_8_method_11_code
def yX6_held : MethodName := ⟨RX6, "held", "(II)I"⟩
abbrev cX6_apart : ByteArray := prog_8_method_12_code
def yX6_apart : MethodName := ⟨RX6, "apart", "(II)I"⟩
abbrev cX6_besideOf : ByteArray := prog_8_method_13_code
def yX6_besideOf : MethodName := ⟨RX6, "besideOf", "(II)I"⟩
abbrev cX6_pullOf : ByteArray := prog_8_method_14_code
def yX6_pullOf : MethodName := ⟨RX6, "pullOf", "(I)I"⟩
abbrev cX6_wearsIn : ByteArray := prog_8_method_15_code
def yX6_wearsIn : MethodName := ⟨RX6, "wearsIn", "(II)I"⟩
abbrev cX6_holdsOf : ByteArray := prog_8_method_16_code
def yX6_holdsOf : MethodName := ⟨RX6, "holdsOf", "(I)I"⟩
abbrev cX6_isHole : ByteArray := prog_8_method_17_code
def yX6_isHole : MethodName := ⟨RX6, "isHole", "(I)Z"⟩
abbrev cX6_holeBits : ByteArray := prog_8_method_18_code
def yX6_holeBits : MethodName := ⟨RX6, "holeBits", "()I"⟩
abbrev cX6_allPull : ByteArray := prog_8_method_19_code
def yX6_allPull : MethodName := ⟨RX6, "allPull", "()I"⟩
abbrev cX6_allWear : ByteArray := prog_8_method_20_code
def yX6_allWear : MethodName := ⟨RX6, "allWear", "()I"⟩
abbrev cX6_allAges : ByteArray := prog_8_method_21_code
def yX6_allAges : MethodName := ⟨RX6, "allAges", "()I"⟩
abbrev cX6_yearOn : ByteArray := prog_8_method_22_code
def yX6_yearOn : MethodName := ⟨RX6, "yearOn", "()V"⟩
abbrev cX6_goYears : ByteArray := prog_8_method_23_code
def yX6_goYears : MethodName := ⟨RX6, "goYears", "(I)V"⟩
abbrev cX6_makeCell : ByteArray := prog_8_method_24_code
def yX6_makeCell : MethodName := ⟨RX6, "makeCell", "(IIII)V"⟩
abbrev cX6_putOn : ByteArray := prog_8_method_25_code
def yX6_putOn : MethodName := ⟨RX6, "putOn", "(II)V"⟩
abbrev cX6_feed : ByteArray := prog_8_method_26_code
def yX6_feed : MethodName := ⟨RX6, "feed", "(I)I"⟩
abbrev cX6_here : ByteArray := prog_8_method_27_code
def yX6_here : MethodName := ⟨RX6, "here", "()I"⟩
abbrev cX6_readDigits : ByteArray := prog_8_method_28_code
def yX6_readDigits : MethodName := ⟨RX6, "readDigits", "(I)I"⟩
abbrev cX6_isLetter : ByteArray := prog_8_method_29_code
def yX6_isLetter : MethodName := ⟨RX6, "isLetter", "(I)Z"⟩
abbrev cX6_readNumbers : ByteArray := prog_8_method_30_code
def yX6_readNumbers : MethodName := ⟨RX6, "readNumbers", "(II)V"⟩
abbrev cX6_readStatement : ByteArray := prog_8_method_31_code
def yX6_readStatement : MethodName := ⟨RX6, "readStatement", "()V"⟩
abbrev cX6_pieceComes : ByteArray := prog_8_method_32_code
def yX6_pieceComes : MethodName := ⟨RX6, "pieceComes", "(III)V"⟩
abbrev cX6_comesTold : ByteArray := prog_8_method_33_code
def yX6_comesTold : MethodName := ⟨RX6, "comesTold", "(I)Z"⟩
abbrev cX6_trousers : ByteArray := prog_8_method_34_code
def yX6_trousers : MethodName := ⟨RX6, "trousers", "()I"⟩
abbrev cX6_carry : ByteArray := prog_8_method_35_code
def yX6_carry : MethodName := ⟨RX6, "carry", "(I)I"⟩
abbrev cX6_carryAll : ByteArray := prog_8_method_36_code
def yX6_carryAll : MethodName := ⟨RX6, "carryAll", "([IZ)V"⟩
abbrev cX6_think : ByteArray := prog_8_method_37_code
def yX6_think : MethodName := ⟨RX6, "think", "()V"⟩
abbrev cX6_again : ByteArray := prog_8_method_38_code
def yX6_again : MethodName := ⟨RX6, "again", "()V"⟩
abbrev cX6_image : ByteArray := prog_8_method_39_code
def yX6_image : MethodName := ⟨RX6, "image", "()I"⟩
abbrev cX6_restore : ByteArray := prog_8_method_40_code
def yX6_restore : MethodName := ⟨RX6, "restore", "()I"⟩
abbrev cX6_keepTurn : ByteArray := prog_8_method_41_code
def yX6_keepTurn : MethodName := ⟨RX6, "keepTurn", "()V"⟩
abbrev cX6_back : ByteArray := prog_8_method_42_code
def yX6_back : MethodName := ⟨RX6, "back", "()I"⟩
abbrev cX6_cellOf : ByteArray := prog_8_method_43_code
def yX6_cellOf : MethodName := ⟨RX6, "cellOf", "(II)I"⟩
abbrev cX6_pieceOf : ByteArray := prog_8_method_44_code
def yX6_pieceOf : MethodName := ⟨RX6, "pieceOf", "(II)I"⟩
abbrev cX6_piece : ByteArray := prog_8_method_45_code
def yX6_piece : MethodName := ⟨RX6, "piece", "(III)I"⟩
abbrev cX6_cell : ByteArray := prog_8_method_46_code
def yX6_cell : MethodName := ⟨RX6, "cell", "(IIII)I"⟩
abbrev cX6_puts : ByteArray := prog_8_method_47_code
def yX6_puts : MethodName := ⟨RX6, "puts", "(II)I"⟩
abbrev cX6_wears : ByteArray := prog_8_method_48_code
def yX6_wears : MethodName := ⟨RX6, "wears", "(II)I"⟩
abbrev cX6_years : ByteArray := prog_8_method_49_code
def yX6_years : MethodName := ⟨RX6, "years", "(I)I"⟩
abbrev cX6_behind : ByteArray := prog_8_method_50_code
def yX6_behind : MethodName := ⟨RX6, "behind", "(III)I"⟩
abbrev cX6_all : ByteArray := prog_8_method_51_code
def yX6_all : MethodName := ⟨RX6, "all", "(II)I"⟩
abbrev cX6_layLasts : ByteArray := prog_8_method_52_code
def yX6_layLasts : MethodName := ⟨RX6, "layLasts", "()V"⟩
abbrev cX6_firstOf : ByteArray := prog_8_method_53_code
def yX6_firstOf : MethodName := ⟨RX6, "firstOf", "()I"⟩
abbrev cX6_holes : ByteArray := prog_8_method_54_code
def yX6_holes : MethodName := ⟨RX6, "holes", "(I)I"⟩
abbrev cX6_lasts : ByteArray := prog_8_method_55_code
def yX6_lasts : MethodName := ⟨RX6, "lasts", "(I)I"⟩
abbrev cX6_fits : ByteArray := prog_8_method_56_code
def yX6_fits : MethodName := ⟨RX6, "fits", "(II)I"⟩
abbrev cX6_bestPiece : ByteArray := prog_8_method_57_code
def yX6_bestPiece : MethodName := ⟨RX6, "bestPiece", "(I)I"⟩
abbrev cX6_freeBits : ByteArray := prog_8_method_58_code
def yX6_freeBits : MethodName := ⟨RX6, "freeBits", "()I"⟩
abbrev cX6_mend : ByteArray := prog_8_method_59_code
def yX6_mend : MethodName := ⟨RX6, "mend", "()I"⟩
abbrev cX6_keep : ByteArray := prog_8_method_60_code
def yX6_keep : MethodName := ⟨RX6, "keep", "()I"⟩
abbrev cX6_layFree : ByteArray := prog_8_method_61_code
def yX6_layFree : MethodName := ⟨RX6, "layFree", "()V"⟩
abbrev cX6_areApart : ByteArray := prog_8_method_62_code
def yX6_areApart : MethodName := ⟨RX6, "areApart", "()Z"⟩
abbrev cX6_placed : ByteArray := prog_8_method_63_code
def yX6_placed : MethodName := ⟨RX6, "placed", "(I)I"⟩
abbrev cX6_when : ByteArray := prog_8_method_64_code
def yX6_when : MethodName := ⟨RX6, "when", "(II)I"⟩
abbrev cX6_canTry : ByteArray := prog_8_method_65_code
def yX6_canTry : MethodName := ⟨RX6, "canTry", "(I)Z"⟩
abbrev cX6_layTried : ByteArray := prog_8_method_66_code
def yX6_layTried : MethodName := ⟨RX6, "layTried", "(I)V"⟩
abbrev cX6_isBetter : ByteArray := prog_8_method_67_code
def yX6_isBetter : MethodName := ⟨RX6, "isBetter", "(III)Z"⟩
abbrev cX6_playAll : ByteArray := prog_8_method_68_code
def yX6_playAll : MethodName := ⟨RX6, "playAll", "()V"⟩
abbrev cX6_takeWorth : ByteArray := prog_8_method_69_code
def yX6_takeWorth : MethodName := ⟨RX6, "takeWorth", "(II)V"⟩
abbrev cX6_turns : ByteArray := prog_8_method_70_code
def yX6_turns : MethodName := ⟨RX6, "turns", "(I)I"⟩
abbrev cX6_isRow : ByteArray := prog_8_method_71_code
def yX6_isRow : MethodName := ⟨RX6, "isRow", "(I)Z"⟩
abbrev cX6_whose : ByteArray := prog_8_method_72_code
def yX6_whose : MethodName := ⟨RX6, "whose", "(II)I"⟩
abbrev cX6_layHeaps : ByteArray := prog_8_method_73_code
def yX6_layHeaps : MethodName := ⟨RX6, "layHeaps", "(I)V"⟩
abbrev cX6_islands : ByteArray := prog_8_method_74_code
def yX6_islands : MethodName := ⟨RX6, "islands", "(II)I"⟩
abbrev cX6_strip : ByteArray := prog_8_method_75_code
def yX6_strip : MethodName := ⟨RX6, "strip", "(I)I"⟩
abbrev cX6_swapIn : ByteArray := prog_8_method_76_code
def yX6_swapIn : MethodName := ⟨RX6, "swapIn", "([III)V"⟩
abbrev cX6_swapCells : ByteArray := prog_8_method_77_code
def yX6_swapCells : MethodName := ⟨RX6, "swapCells", "(II)V"⟩
abbrev cX6_swap : ByteArray := prog_8_method_78_code
def yX6_swap : MethodName := ⟨RX6, "swap", "()I"⟩
abbrev cX6_divisor : ByteArray := prog_8_method_79_code
def yX6_divisor : MethodName := ⟨RX6, "divisor", "(JJ)J"⟩
abbrev cX6_partOf : ByteArray := prog_8_method_80_code
def yX6_partOf : MethodName := ⟨RX6, "partOf", "(JJI)J"⟩
abbrev cX6_chance : ByteArray := prog_8_method_81_code
def yX6_chance : MethodName := ⟨RX6, "chance", "(IIII)J"⟩
abbrev cX6_ofSize : ByteArray := prog_8_method_82_code
def yX6_ofSize : MethodName := ⟨RX6, "ofSize", "(II)I"⟩
abbrev cX6_oldest : ByteArray := prog_8_method_83_code
def yX6_oldest : MethodName := ⟨RX6, "oldest", "(I)I"⟩
abbrev cX6_tightest : ByteArray := prog_8_method_84_code
def yX6_tightest : MethodName := ⟨RX6, "tightest", "(I)I"⟩
abbrev cX6_ageFor : ByteArray := prog_8_method_85_code
def yX6_ageFor : MethodName := ⟨RX6, "ageFor", "(I)I"⟩
abbrev cX6_entire : ByteArray := prog_8_method_86_code
def yX6_entire : MethodName := ⟨RX6, "entire", "()I"⟩
abbrev cX6_bestOf : ByteArray := prog_8_method_87_code
def yX6_bestOf : MethodName := ⟨RX6, "bestOf", "(II)I"⟩
abbrev cX6_harm : ByteArray := prog_8_method_88_code
def yX6_harm : MethodName := ⟨RX6, "harm", "(I)I"⟩
abbrev cX6_pairs : ByteArray := prog_8_method_89_code
def yX6_pairs : MethodName := ⟨RX6, "pairs", "()I"⟩
abbrev cX6_sumOf : ByteArray := prog_8_method_90_code
def yX6_sumOf : MethodName := ⟨RX6, "sumOf", "(I)I"⟩
abbrev cX6_rank : ByteArray := prog_8_method_91_code
def yX6_rank : MethodName := ⟨RX6, "rank", "(I)I"⟩
abbrev cX6_doomed : ByteArray := prog_8_method_92_code
def yX6_doomed : MethodName := ⟨RX6, "doomed", "(I)I"⟩
abbrev cX6_mean : ByteArray := prog_8_method_93_code
def yX6_mean : MethodName := ⟨RX6, "mean", "(I)J"⟩
abbrev cX6_younger : ByteArray := prog_8_method_94_code
def yX6_younger : MethodName := ⟨RX6, "younger", "(I)I"⟩
abbrev cX6_unlike : ByteArray := prog_8_method_95_code
def yX6_unlike : MethodName := ⟨RX6, "unlike", "()I"⟩
abbrev cX6_row : ByteArray := prog_8_method_96_code
def yX6_row : MethodName := ⟨RX6, "row", "(I)I"⟩
abbrev cX6_judge : ByteArray := prog_8_method_97_code
def yX6_judge : MethodName := ⟨RX6, "judge", "()I"⟩
abbrev cX6_clear : ByteArray := prog_8_method_98_code
def yX6_clear : MethodName := ⟨RX6, "clear", "()I"⟩
abbrev cX6_drawBelow : ByteArray := prog_8_method_99_code
def yX6_drawBelow : MethodName := ⟨RX6, "drawBelow", "(I)I"⟩
abbrev cX6_lots : ByteArray := prog_8_method_100_code
def yX6_lots : MethodName := ⟨RX6, "lots", "(III)I"⟩
abbrev cX6_count : ByteArray := prog_8_method_101_code
def yX6_count : MethodName := ⟨RX6, "count", "(I)I"⟩
def RJ6 : String := "java/lang/Integer"
def TJ6 : u_T := fun k => match k with
  | _ => ("", "", "", false)
def tyJ6 : Nat → FieldType := fun k => match k with
  | _ => .int
abbrev wsJ60 : List Cond := u_ws RJ6 TJ6 0
theorem nmJ6 : ∀ a, a < 0 → ∀ b, b < 0 → a ≠ b → (TJ6 a).2.1 ≠ (TJ6 b).2.1 := by decide +kernel
theorem tyJ6_ok : ∀ k, k < 0 → parseFieldDescriptor (TJ6 k).2.2.1 = some (tyJ6 k) := by decide +kernel
abbrev cJ6_bitCount_0f7a4 : ByteArray := prog_9_method_49_code
def yJ6_bitCount_0f7a4 : MethodName := ⟨RJ6, "bitCount", "(I)I"⟩
def RJ9 : String := "java/lang/Math"
def TJ9 : u_T := fun k => match k with
  | _ => ("", "", "", false)
def tyJ9 : Nat → FieldType := fun k => match k with
  | _ => .int
abbrev wsJ90 : List Cond := u_ws RJ9 TJ9 0
theorem nmJ9 : ∀ a, a < 0 → ∀ b, b < 0 → a ≠ b → (TJ9 a).2.1 ≠ (TJ9 b).2.1 := by decide +kernel
theorem tyJ9_ok : ∀ k, k < 0 → parseFieldDescriptor (TJ9 k).2.2.1 = some (tyJ9 k) := by decide +kernel
abbrev cJ9_abs_0f7a4 : ByteArray := prog_10_method_59_code
def yJ9_abs_0f7a4 : MethodName := ⟨RJ9, "abs", "(I)I"⟩
abbrev cJ9_max_7cf53 : ByteArray := prog_10_method_65_code
def yJ9_max_7cf53 : MethodName := ⟨RJ9, "max", "(II)I"⟩
abbrev cJ9_min_7cf53 : ByteArray := prog_10_method_69_code
def yJ9_min_7cf53 : MethodName := ⟨RJ9, "min", "(II)I"⟩
def RJ10 : String := "java/lang/System"
def TJ10 : u_T := fun k => match k with
  | _ => ("", "", "", false)
def tyJ10 : Nat → FieldType := fun k => match k with
  | _ => .int
abbrev wsJ100 : List Cond := u_ws RJ10 TJ10 0
theorem nmJ10 : ∀ a, a < 0 → ∀ b, b < 0 → a ≠ b → (TJ10 a).2.1 ≠ (TJ10 b).2.1 := by decide +kernel
theorem tyJ10_ok : ∀ k, k < 0 → parseFieldDescriptor (TJ10 k).2.2.1 = some (tyJ10 k) := by decide +kernel
def RL : String := "PatchesSameAgeLaw"
abbrev cL_law : ByteArray := code
def yL_law : MethodName := ⟨RL, "law", "([I)Z"⟩
abbrev vwCl : List vw_C := [(RX0, TX0, 5), (RX1, TX1, 4), (RX2, TX2, 5), (RX3, TX3, 2), (RX4, TX4, 4), (RX5, TX5, 15), (RX6, TX6, 43)]
end
section
/-! NUMBERS: the Int32 and the Int64 of an Int -/
def iI (z : Int) : Int32 := Int32.ofInt z
def iL (z : Int) : Int64 := Int64.ofInt z
abbrev In32 (z : Int) : Prop := -2147483648 ≤ z ∧ z ≤ 2147483647
abbrev In64 (z : Int) : Prop := -9223372036854775808 ≤ z ∧ z ≤ 9223372036854775807
theorem iI_toInt {z : Int} (h : In32 z) : (iI z).toInt = z := Int32.toInt_ofInt_of_le (by have := h.1; omega) (by have := h.2; omega)
theorem iL_toInt {z : Int} (h : In64 z) : (iL z).toInt = z := Int64.toInt_ofInt_of_le (by have := h.1; omega) (by have := h.2; omega)
theorem iI_self (x : Int32) : iI x.toInt = x := Int32.ofInt_toInt x
theorem iI_of (x : Int32) : ∃ z : Int, In32 z ∧ x = iI z := ⟨x.toInt, ⟨by have := x.le_toInt; omega, by have := x.toInt_lt; omega⟩, (iI_self x).symm⟩
theorem iI_add (a b : Int) : iI a + iI b = iI (a + b) := (Int32.ofInt_add a b).symm
theorem iI_sub (a b : Int) : iI a - iI b = iI (a - b) := (Int32.ofInt_sub a b).symm
theorem iI_mul (a b : Int) : iI a * iI b = iI (a * b) := (Int32.ofInt_mul a b).symm
theorem iI_neg (a : Int) : -iI a = iI (-a) := (Int32.ofInt_neg a).symm
theorem iI_lt {a b : Int} (ha : In32 a) (hb : In32 b) : iI a < iI b ↔ a < b := by rw [Int32.lt_iff_toInt_lt, iI_toInt ha, iI_toInt hb]
theorem iI_le {a b : Int} (ha : In32 a) (hb : In32 b) : iI a ≤ iI b ↔ a ≤ b := by rw [Int32.le_iff_toInt_le, iI_toInt ha, iI_toInt hb]
theorem iI_eq {a b : Int} (ha : In32 a) (hb : In32 b) : iI a = iI b ↔ a = b := ⟨fun h => by have h2 := congrArg Int32.toInt h; rwa [iI_toInt ha, iI_toInt hb] at h2, fun h => by rw [h]⟩
theorem iI_z : iI 0 = 0 := by decide +kernel
theorem iI_div {a b : Int} (ha : 0 ≤ a) (ha2 : a ≤ 2147483647) (hb : 0 < b) (hb2 : b ≤ 2147483647) : iI a / iI b = iI (a / b) := by
  have h := Int32.ofInt_tdiv (a := a) (b := b) (by show (-2147483648 : Int) ≤ a; omega) (by show a ≤ (2147483647 : Int); omega) (by show (-2147483648 : Int) ≤ b; omega) (by show b ≤ (2147483647 : Int); omega)
  rw [Int.tdiv_eq_ediv_of_nonneg ha] at h
  exact h.symm
theorem iI_rem {a b : Int} (ha : 0 ≤ a) (ha2 : a ≤ 2147483647) (hb : 0 < b) (hb2 : b ≤ 2147483647) : iI a - iI a / iI b * iI b = iI (a % b) := by
  rw [iI_div ha ha2 hb hb2, iI_mul, iI_sub, Int.emod_def, Int.mul_comm]
theorem iI_clamp {z : Int} (h0 : 0 ≤ z) (h1 : z ≤ 2147483647) : (iI z).toNatClampNeg = z.toNat := Int32.toNatClampNeg_ofInt_of_le (by omega) (by omega)
theorem iI_in {z : Int} {n : Nat} (h0 : 0 ≤ z) (h1 : z < (n : Int)) (hn : n ≤ 2147483647) : vp_in (iI z) n := by
  rw [vp_in_iff, iI_toInt ⟨by omega, by omega⟩]
  exact ⟨h0, h1⟩
theorem iI_nat (n : Nat) : iI (n : Int) = nI n := Int32.ofInt_eq_ofNat
theorem iI_long {z : Int} (h : In32 z) : (iI z).toInt64 = iL z := Int32.toInt64_ofInt (by show (-2147483648 : Int) ≤ z; exact h.1) (by show z ≤ (2147483647 : Int); exact h.2)
theorem iL_add (a b : Int) : iL a + iL b = iL (a + b) := (Int64.ofInt_add a b).symm
theorem iL_sub (a b : Int) : iL a - iL b = iL (a - b) := (Int64.ofInt_sub a b).symm
theorem iL_mul (a b : Int) : iL a * iL b = iL (a * b) := (Int64.ofInt_mul a b).symm
theorem iL_lt {a b : Int} (ha : In64 a) (hb : In64 b) : iL a < iL b ↔ a < b := by rw [Int64.lt_iff_toInt_lt, iL_toInt ha, iL_toInt hb]
theorem iL_eq {a b : Int} (ha : In64 a) (hb : In64 b) : iL a = iL b ↔ a = b := ⟨fun h => by have h2 := congrArg Int64.toInt h; rwa [iL_toInt ha, iL_toInt hb] at h2, fun h => by rw [h]⟩
theorem iL_div {a b : Int} (ha : 0 ≤ a) (ha2 : a ≤ 9223372036854775807) (hb : 0 < b) (hb2 : b ≤ 9223372036854775807) : iL a / iL b = iL (a / b) := by
  have h := Int64.ofInt_tdiv (a := a) (b := b) (by show (-9223372036854775808 : Int) ≤ a; omega) (by show a ≤ (9223372036854775807 : Int); omega) (by show (-9223372036854775808 : Int) ≤ b; omega) (by show b ≤ (9223372036854775807 : Int); omega)
  rw [Int.tdiv_eq_ediv_of_nonneg ha] at h
  exact h.symm
theorem iL_rem {a b : Int} (ha : 0 ≤ a) (ha2 : a ≤ 9223372036854775807) (hb : 0 < b) (hb2 : b ≤ 9223372036854775807) : iL a - iL a / iL b * iL b = iL (a % b) := by
  rw [iL_div ha ha2 hb hb2, iL_mul, iL_sub, Int.emod_def, Int.mul_comm]
/-! functions from places: one value more, whole stretches -/
def uI (f : Int → Int) (i v : Int) : Int → Int := fun j => if j = i then v else f j
/-- the places 0 .. n-1 as g has them, the others as f -/
def upTo (f g : Int → Int) (n : Int) : Int → Int := fun j => if 0 ≤ j ∧ j < n then g j else f j
theorem uI_s {f : Int → Int} {i v : Int} : uI f i v i = v := by simp [uI]
theorem uI_n {f : Int → Int} {i v j : Int} (h : j ≠ i) : uI f i v j = f j := by simp [uI, h]
theorem upTo_0 (f g : Int → Int) : upTo f g 0 = f := by
  funext j
  unfold upTo
  rw [if_neg (by omega)]
theorem upTo_s (f g : Int → Int) {n : Int} (h : 0 ≤ n) : uI (upTo f g n) n (g n) = upTo f g (n + 1) := by
  funext j
  unfold uI upTo
  by_cases h1 : j = n
  · subst h1; rw [if_pos rfl, if_pos (by omega)]
  · rw [if_neg h1]
    by_cases h2 : 0 ≤ j ∧ j < n
    · rw [if_pos h2, if_pos (by omega)]
    · rw [if_neg h2, if_neg (by omega)]
theorem upTo_in {f g : Int → Int} {n j : Int} (h0 : 0 ≤ j) (h : j < n) : upTo f g n j = g j := if_pos ⟨h0, h⟩
theorem upTo_out {f g : Int → Int} {n j : Int} (h : n ≤ j) : upTo f g n j = f j := if_neg (by omega)
/-- an array's contents, and what a store makes of them -/
theorem upd_iI (f : Int → Int) {i : Int} (v : Int) (h0 : 0 ≤ i) (h1 : i ≤ 2147483647) : upd (fun j : Nat => iI (f (j : Int))) (iI i).toNatClampNeg (iI v) = fun j : Nat => iI (uI f i v (j : Int)) := by
  funext j
  rw [iI_clamp h0 h1]
  unfold upd uI
  by_cases h : j = i.toNat
  · rw [if_pos h, if_pos (by omega)]
  · rw [if_neg h, if_neg (by omega)]
theorem rd_iI (f : Int → Int) {i : Int} (h0 : 0 ≤ i) (h1 : i ≤ 2147483647) : (fun j : Nat => iI (f (j : Int))) (iI i).toNatClampNeg = iI (f i) := by
  show iI (f (((iI i).toNatClampNeg : Nat) : Int)) = _
  rw [iI_clamp h0 h1, Int.toNat_of_nonneg h0]
end
section
/-! THE LAYER: 'G E ws lv pc st': the machine, in any heap that holds the world ws, with locals lv, at pc, stack st, comes to the end that E names -/
def TG : List Cond := lw_tbl.filter goodWord
theorem tg_in {w : Cond} (h : w ∈ lw_tbl) (g : goodWord w = true) : w ∈ TG := List.mem_filter.mpr ⟨h, g⟩
theorem tg_good {w : Cond} (h : w ∈ TG) : goodWord w = true := (List.mem_filter.mp h).2
theorem tg_tbl {w : Cond} (h : w ∈ TG) : w ∈ lw_tbl := (List.mem_filter.mp h).1
theorem tg_call {y : MethodName} {cc : ByteArray} {n : Nat} {r : Option FieldType} (hc : Cond.code y cc n r ∈ TG) : GoodIn TG (Cond.code y cc n r :: TG) := by
  intro w hw
  rcases List.mem_cons.mp hw with rfl | h
  · exact ⟨hc, good_of_word (tg_good hc)⟩
  · exact ⟨h, good_of_word (tg_good h)⟩
/-- the nest's words -/
def NWl : List Cond := [(Jvm.Cond.methodLinkNest "PatchesSameAge" (9 : Nat) ({ cls := "PatchesSameAge$Cloth", name := "<init>", desc := "()V" } : Jvm.MethodName) "PatchesSameAge"), (Jvm.Cond.fieldLinkNest "PatchesSameAge" (169 : Nat) "PatchesSameAge$Cloth" "kind" "[I" "PatchesSameAge"), (Jvm.Cond.fieldLinkNest "PatchesSameAge" (172 : Nat) "PatchesSameAge$Cloth" "figure" "[I" "PatchesSameAge"), (Jvm.Cond.fieldLinkNest "PatchesSameAge" (175 : Nat) "PatchesSameAge$Cloth" "age" "[I" "PatchesSameAge"), (Jvm.Cond.fieldLinkNest "PatchesSameAge" (160 : Nat) "PatchesSameAge$Cloth" "wear" "[I" "PatchesSameAge"), (Jvm.Cond.fieldLinkNest "PatchesSameAge" (163 : Nat) "PatchesSameAge$Cloth" "year" "I" "PatchesSameAge"), (Jvm.Cond.methodLinkNest "PatchesSameAge" (18 : Nat) ({ cls := "PatchesSameAge$Roll", name := "<init>", desc := "()V" } : Jvm.MethodName) "PatchesSameAge"), (Jvm.Cond.fieldLinkNest "PatchesSameAge$Cloth" (34 : Nat) "PatchesSameAge$Roll" "kind" "[I" "PatchesSameAge"), (Jvm.Cond.fieldLinkNest "PatchesSameAge" (193 : Nat) "PatchesSameAge$Roll" "kind" "[I" "PatchesSameAge"), (Jvm.Cond.fieldLinkNest "PatchesSameAge$Cloth" (37 : Nat) "PatchesSameAge$Roll" "figure" "[I" "PatchesSameAge"), (Jvm.Cond.fieldLinkNest "PatchesSameAge" (194 : Nat) "PatchesSameAge$Roll" "figure" "[I" "PatchesSameAge"), (Jvm.Cond.fieldLinkNest "PatchesSameAge$Cloth" (38 : Nat) "PatchesSameAge$Roll" "age" "[I" "PatchesSameAge"), (Jvm.Cond.fieldLinkNest "PatchesSameAge" (195 : Nat) "PatchesSameAge$Roll" "age" "[I" "PatchesSameAge"), (Jvm.Cond.fieldLinkNest "PatchesSameAge$Ways" (25 : Nat) "PatchesSameAge$Roll" "size" "I" "PatchesSameAge"), (Jvm.Cond.fieldLinkNest "PatchesSameAge" (144 : Nat) "PatchesSameAge$Roll" "size" "I" "PatchesSameAge"), (Jvm.Cond.fieldLinkNest "PatchesSameAge$Past" (30 : Nat) "PatchesSameAge$Roll" "used" "I" "PatchesSameAge"), (Jvm.Cond.methodLinkNest "PatchesSameAge" (25 : Nat) ({ cls := "PatchesSameAge$Past", name := "<init>", desc := "()V" } : Jvm.MethodName) "PatchesSameAge"), (Jvm.Cond.methodLinkNest "PatchesSameAge$Past" (21 : Nat) ({ cls := "PatchesSameAge$Cloth", name := "<init>", desc := "()V" } : Jvm.MethodName) "PatchesSameAge"), (Jvm.Cond.fieldLinkNest "PatchesSameAge" (211 : Nat) "PatchesSameAge$Past" "size" "I" "PatchesSameAge"), (Jvm.Cond.methodLinkNest "PatchesSameAge" (32 : Nat) ({ cls := "PatchesSameAge$Text", name := "<init>", desc := "()V" } : Jvm.MethodName) "PatchesSameAge"), (Jvm.Cond.fieldLinkNest "PatchesSameAge" (73 : Nat) "PatchesSameAge$Text" "length" "I" "PatchesSameAge"), (Jvm.Cond.methodLinkNest "PatchesSameAge" (61 : Nat) ({ cls := "PatchesSameAge$Ways", name := "<init>", desc := "()V" } : Jvm.MethodName) "PatchesSameAge"), (Jvm.Cond.fieldLinkNest "PatchesSameAge" (267 : Nat) "PatchesSameAge$Ways" "piece" "[I" "PatchesSameAge"), (Jvm.Cond.fieldLinkNest "PatchesSameAge" (260 : Nat) "PatchesSameAge$Ways" "at" "[I" "PatchesSameAge"), (Jvm.Cond.fieldLinkNest "PatchesSameAge" (248 : Nat) "PatchesSameAge$Ways" "pull" "[I" "PatchesSameAge"), (Jvm.Cond.fieldLinkNest "PatchesSameAge" (259 : Nat) "PatchesSameAge$Ways" "size" "I" "PatchesSameAge"), (Jvm.Cond.methodLinkNest "PatchesSameAge" (77 : Nat) ({ cls := "PatchesSameAge$Text", name := "add", desc := "(I)V" } : Jvm.MethodName) "PatchesSameAge"), (Jvm.Cond.methodLinkNest "PatchesSameAge" (81 : Nat) ({ cls := "PatchesSameAge$Text", name := "formFault", desc := "()I" } : Jvm.MethodName) "PatchesSameAge"), (Jvm.Cond.methodLinkNest "PatchesSameAge" (88 : Nat) ({ cls := "PatchesSameAge$Cloth", name := "become", desc := "(LPatchesSameAge$Cloth;)V" } : Jvm.MethodName) "PatchesSameAge"), (Jvm.Cond.methodLinkNest "PatchesSameAge" (92 : Nat) ({ cls := "PatchesSameAge$Roll", name := "become", desc := "(LPatchesSameAge$Roll;)V" } : Jvm.MethodName) "PatchesSameAge"), (Jvm.Cond.methodLinkNest "PatchesSameAge" (111 : Nat) ({ cls := "PatchesSameAge$Text", name := "letterAt", desc := "(I)I" } : Jvm.MethodName) "PatchesSameAge"), (Jvm.Cond.methodLinkNest "PatchesSameAge" (114 : Nat) ({ cls := "PatchesSameAge$Text", name := "number", desc := "(II)I" } : Jvm.MethodName) "PatchesSameAge"), (Jvm.Cond.methodLinkNest "PatchesSameAge" (140 : Nat) ({ cls := "PatchesSameAge$Cloth", name := "make", desc := "(IIII)V" } : Jvm.MethodName) "PatchesSameAge"), (Jvm.Cond.methodLinkNest "PatchesSameAge" (147 : Nat) ({ cls := "PatchesSameAge$Roll", name := "add", desc := "(III)V" } : Jvm.MethodName) "PatchesSameAge"), (Jvm.Cond.methodLinkNest "PatchesSameAge" (150 : Nat) ({ cls := "PatchesSameAge$Roll", name := "isFree", desc := "(I)Z" } : Jvm.MethodName) "PatchesSameAge"), (Jvm.Cond.methodLinkNest "PatchesSameAge" (153 : Nat) ({ cls := "PatchesSameAge$Cloth", name := "put", desc := "(LPatchesSameAge$Roll;II)V" } : Jvm.MethodName) "PatchesSameAge"), (Jvm.Cond.methodLinkNest "PatchesSameAge" (157 : Nat) ({ cls := "PatchesSameAge$Roll", name := "use", desc := "(I)V" } : Jvm.MethodName) "PatchesSameAge"), (Jvm.Cond.methodLinkNest "PatchesSameAge" (166 : Nat) ({ cls := "PatchesSameAge$Cloth", name := "goOn", desc := "(I)V" } : Jvm.MethodName) "PatchesSameAge"), (Jvm.Cond.fieldLinkNest "PatchesSameAge$Cloth" (47 : Nat) "PatchesSameAge" "BESIDE" "[I" "PatchesSameAge"), (Jvm.Cond.methodLinkNest "PatchesSameAge" (99 : Nat) ({ cls := "PatchesSameAge$Text", name := "sizeAt", desc := "(I)I" } : Jvm.MethodName) "PatchesSameAge"), (Jvm.Cond.methodLinkNest "PatchesSameAge" (108 : Nat) ({ cls := "PatchesSameAge$Past", name := "forget", desc := "()V" } : Jvm.MethodName) "PatchesSameAge"), (Jvm.Cond.methodLinkNest "PatchesSameAge" (178 : Nat) ({ cls := "PatchesSameAge$Cloth", name := "pull", desc := "(I)I" } : Jvm.MethodName) "PatchesSameAge"), (Jvm.Cond.methodLinkNest "PatchesSameAge" (181 : Nat) ({ cls := "PatchesSameAge$Cloth", name := "wearing", desc := "(I)I" } : Jvm.MethodName) "PatchesSameAge"), (Jvm.Cond.methodLinkNest "PatchesSameAge" (184 : Nat) ({ cls := "PatchesSameAge$Cloth", name := "hold", desc := "(I)I" } : Jvm.MethodName) "PatchesSameAge"), (Jvm.Cond.methodLinkNest "PatchesSameAge" (187 : Nat) ({ cls := "PatchesSameAge$Cloth", name := "isHole", desc := "(I)Z" } : Jvm.MethodName) "PatchesSameAge"), (Jvm.Cond.methodLinkNest "PatchesSameAge" (190 : Nat) ({ cls := "PatchesSameAge$Roll", name := "has", desc := "(I)Z" } : Jvm.MethodName) "PatchesSameAge"), (Jvm.Cond.methodLinkNest "PatchesSameAge" (196 : Nat) ({ cls := "PatchesSameAge$Past", name := "note", desc := "(LPatchesSameAge$Cloth;LPatchesSameAge$Roll;)V" } : Jvm.MethodName) "PatchesSameAge"), (Jvm.Cond.methodLinkNest "PatchesSameAge$Past" (26 : Nat) ({ cls := "PatchesSameAge$Cloth", name := "become", desc := "(LPatchesSameAge$Cloth;)V" } : Jvm.MethodName) "PatchesSameAge"), (Jvm.Cond.methodLinkNest "PatchesSameAge" (200 : Nat) ({ cls := "PatchesSameAge$Cloth", name := "pullTogether", desc := "()I" } : Jvm.MethodName) "PatchesSameAge"), (Jvm.Cond.methodLinkNest "PatchesSameAge" (203 : Nat) ({ cls := "PatchesSameAge$Cloth", name := "holeBits", desc := "()I" } : Jvm.MethodName) "PatchesSameAge"), (Jvm.Cond.methodLinkNest "PatchesSameAge" (212 : Nat) ({ cls := "PatchesSameAge$Past", name := "takeBack", desc := "(LPatchesSameAge$Cloth;LPatchesSameAge$Roll;)V" } : Jvm.MethodName) "PatchesSameAge"), (Jvm.Cond.methodLinkNest "PatchesSameAge" (218 : Nat) ({ cls := "PatchesSameAge$Cloth", name := "wearTogether", desc := "()I" } : Jvm.MethodName) "PatchesSameAge"), (Jvm.Cond.methodLinkNest "PatchesSameAge" (224 : Nat) ({ cls := "PatchesSameAge$Cloth", name := "yearsToHole", desc := "(II)I" } : Jvm.MethodName) "PatchesSameAge"), (Jvm.Cond.methodLinkNest "PatchesSameAge" (231 : Nat) ({ cls := "PatchesSameAge$Cloth", name := "growOlder", desc := "(I)V" } : Jvm.MethodName) "PatchesSameAge"), (Jvm.Cond.methodLinkNest "PatchesSameAge" (235 : Nat) ({ cls := "PatchesSameAge$Roll", name := "free", desc := "()I" } : Jvm.MethodName) "PatchesSameAge"), (Jvm.Cond.methodLinkNest "PatchesSameAge" (238 : Nat) ({ cls := "PatchesSameAge$Ways", name := "gather", desc := "(LPatchesSameAge$Roll;)V" } : Jvm.MethodName) "PatchesSameAge"), (Jvm.Cond.methodLinkNest "PatchesSameAge$Ways" (28 : Nat) ({ cls := "PatchesSameAge$Roll", name := "isFree", desc := "(I)Z" } : Jvm.MethodName) "PatchesSameAge"), (Jvm.Cond.methodLinkNest "PatchesSameAge" (241 : Nat) ({ cls := "PatchesSameAge$Ways", name := "reckon", desc := "(LPatchesSameAge$Cloth;LPatchesSameAge$Roll;LPatchesSameAge$Cloth;)V" } : Jvm.MethodName) "PatchesSameAge"), (Jvm.Cond.methodLinkNest "PatchesSameAge$Ways" (39 : Nat) ({ cls := "PatchesSameAge$Cloth", name := "become", desc := "(LPatchesSameAge$Cloth;)V" } : Jvm.MethodName) "PatchesSameAge"), (Jvm.Cond.methodLinkNest "PatchesSameAge$Ways" (52 : Nat) ({ cls := "PatchesSameAge$Cloth", name := "put", desc := "(LPatchesSameAge$Roll;II)V" } : Jvm.MethodName) "PatchesSameAge"), (Jvm.Cond.methodLinkNest "PatchesSameAge$Ways" (56 : Nat) ({ cls := "PatchesSameAge$Cloth", name := "pullTogether", desc := "()I" } : Jvm.MethodName) "PatchesSameAge"), (Jvm.Cond.methodLinkNest "PatchesSameAge" (245 : Nat) ({ cls := "PatchesSameAge$Ways", name := "leastWay", desc := "()I" } : Jvm.MethodName) "PatchesSameAge"), (Jvm.Cond.methodLinkNest "PatchesSameAge" (250 : Nat) ({ cls := "PatchesSameAge$Ways", name := "placeOf", desc := "(I)I" } : Jvm.MethodName) "PatchesSameAge"), (Jvm.Cond.methodLinkNest "PatchesSameAge" (253 : Nat) ({ cls := "PatchesSameAge$Ways", name := "cellIn", desc := "(II)I" } : Jvm.MethodName) "PatchesSameAge"), (Jvm.Cond.methodLinkNest "PatchesSameAge" (256 : Nat) ({ cls := "PatchesSameAge$Ways", name := "takeOff", desc := "()V" } : Jvm.MethodName) "PatchesSameAge"), (Jvm.Cond.methodLinkNest "PatchesSameAge" (270 : Nat) ({ cls := "PatchesSameAge$Ways", name := "number", desc := "()I" } : Jvm.MethodName) "PatchesSameAge"), (Jvm.Cond.methodLinkNest "PatchesSameAge" (272 : Nat) ({ cls := "PatchesSameAge$Ways", name := "isTaken", desc := "(I)Z" } : Jvm.MethodName) "PatchesSameAge"), (Jvm.Cond.methodLinkNest "PatchesSameAge" (294 : Nat) ({ cls := "PatchesSameAge$Cloth", name := "heapOf", desc := "(II)I" } : Jvm.MethodName) "PatchesSameAge"), (Jvm.Cond.methodLinkNest "PatchesSameAge" (297 : Nat) ({ cls := "PatchesSameAge$Cloth", name := "risingFrom", desc := "(I)I" } : Jvm.MethodName) "PatchesSameAge"), (Jvm.Cond.methodLinkNest "PatchesSameAge" (300 : Nat) ({ cls := "PatchesSameAge$Cloth", name := "change", desc := "(II)V" } : Jvm.MethodName) "PatchesSameAge"), (Jvm.Cond.methodLinkNest "PatchesSameAge" (314 : Nat) ({ cls := "PatchesSameAge$Cloth", name := "moreWorn", desc := "(I)I" } : Jvm.MethodName) "PatchesSameAge"), (Jvm.Cond.methodLinkNest "PatchesSameAge" (329 : Nat) ({ cls := "PatchesSameAge$Cloth", name := "ageTogether", desc := "()I" } : Jvm.MethodName) "PatchesSameAge")]
def isNestW : Cond → Bool
  | .fieldLinkNest .. => true
  | .methodLinkNest .. => true
  | _ => false
theorem nwl_nest : ∀ w ∈ NWl, isNestW w = true := by decide +kernel
def NW (U : State) : Prop := ∀ w ∈ NWl, va_Nw w U
theorem NW.same {u U : State} (h : u.vm = U.vm) (k : NW u) : NW U := fun w hw => by
  have hn := nwl_nest w hw
  have hk := k w hw
  cases w <;> first | (simp [isNestW] at hn; done) | exact va_Nw.same rfl h hk
theorem NW.warm {s U : State} (hW : s.WarmedH U.vm) (k : NW s) : NW U := fun w hw => by
  have hn := nwl_nest w hw
  have hk := k w hw
  cases w <;> first | (simp [isNestW] at hn; done) | exact va_Nw.warmF hW hk | exact va_Nw.warmM hW hk
/-- the cell beside, by the place in the table: up, left, right, down; -1 none -/
def nb (c w : Int) : Int := if w = 0 then (if c < 4 then -1 else c - 4) else if w = 1 then (if c % 4 = 0 then -1 else c - 1) else if w = 2 then (if c % 4 = 3 then -1 else c + 1) else (if 7 < c then -1 else c + 4)
def bes (j : Int) : Int := nb (j / 4) (j % 4)
/-- what is the same all the way: the classes' numbers, the arrays' classes, the table's address -/
abbrev Kp : Type := va_G × ClassId × ClassId × Nat
abbrev tysOf (κ : Kp) : List (ClassId × FieldType) := [(κ.2.1, .int), (κ.2.2.1, .object RX0)]
def bsV : Nat → Value := fun j => .int (iI (bes (j : Int)))
def KE (κ : Kp) (A : Nat → Prop) (U : State) : Prop := va_K κ.1 vwCl (tysOf κ) U ∧ NW U ∧ va_Z "PatchesSameAge" "BESIDE" "[I" (.ref κ.2.2.2) A U U.heap ∧ va_T .int κ.2.2.2 48 bsV A U U.heap
def rmD (d : Nat) : Room := { frames := d, cells := 0, slots := 0, locals := 64 * d }
def adr (ws : va_W) : Nat → Prop := fun q => ∃ (k : Nat) (e : va_E), ws[k]? = some (q, e)
def sameA (ws ws' : va_W) : Prop := ws'.map Prod.fst = ws.map Prod.fst
theorem sameA.rf {ws : va_W} : sameA ws ws := rfl
theorem sameA.tr {a b c : va_W} (h : sameA a b) (k : sameA b c) : sameA a c := Eq.trans k h
theorem sameA.D {A : Nat → Prop} {ws ws' : va_W} (h : sameA ws ws') (k : va_D A ws) : va_D A ws' := by
  have key : ∀ (i : Nat) (q : Nat × va_E), ws'[i]? = some q → ∃ q2 : Nat × va_E, ws[i]? = some q2 ∧ q2.1 = q.1 := by
    intro i q hq
    have h1 : (ws'.map Prod.fst)[i]? = some q.1 := by rw [List.getElem?_map, hq]; rfl
    rw [show ws'.map Prod.fst = ws.map Prod.fst from h, List.getElem?_map] at h1
    cases h2 : ws[i]? with
    | none => rw [h2] at h1; cases h1
    | some q2 => rw [h2] at h1; exact ⟨q2, rfl, Option.some.inj h1⟩
  refine ⟨fun i j p q hp hq hpq => ?_, fun i q hq => ?_⟩
  · obtain ⟨p2, e1, e2⟩ := key i p hp
    obtain ⟨q2, e3, e4⟩ := key j q hq
    exact k.1 i j p2 q2 e1 e3 (by rw [e2, e4]; exact hpq)
  · obtain ⟨q2, e1, e2⟩ := key i q hq
    rw [← e2]
    exact k.2 i q2 e1
/-- a method's start: the world, apart, and what is the same all the way -/
def PreW (κ : Kp) (As : List Value) (ws : va_W) : Array Value → State → Prop := va_Pc As (fun U => va_P κ.1 vwCl ws U.heap ∧ va_D (fun _ => True) ws ∧ KE κ (adr ws) U)
abbrev endW (κ : Kp) (ws : va_W) : va_W → State → Prop := fun ws' t => va_P κ.1 vwCl ws' t.heap ∧ sameA ws ws'
/-- CONTRACTS: method y, of these arguments, in this world, answers r and leaves ws' with 'post r ws'' -/
def mI (κ : Kp) (y : MethodName) (cc : ByteArray) (n : Nat) (rt : FieldType) (d : Nat) (As : List Value) (ws : va_W) (post : Int32 → va_W → Prop) : Prop :=
  ∀ l : Launch, Met l y (Cond.code y cc n (some rt) :: TG) (rmD d) (PreW κ As ws) (va_Qi post (endW κ ws) (adr ws)) 0 0 (adr ws)
def mL (κ : Kp) (y : MethodName) (cc : ByteArray) (n : Nat) (d : Nat) (As : List Value) (ws : va_W) (post : Int64 → va_W → Prop) : Prop :=
  ∀ l : Launch, Met l y (Cond.code y cc n (some .long) :: TG) (rmD d) (PreW κ As ws) (va_Ql post (endW κ ws) (adr ws)) 0 0 (adr ws)
def mV (κ : Kp) (y : MethodName) (cc : ByteArray) (n : Nat) (d : Nat) (As : List Value) (ws : va_W) (post : va_W → Prop) : Prop :=
  ∀ l : Launch, Met l y (Cond.code y cc n none :: TG) (rmD d) (PreW κ As ws) (va_Qv post (endW κ ws) (adr ws)) 0 0 (adr ws)
/-- one answer, one world -/
abbrev is1 (r : Int32) (ws : va_W) : Int32 → va_W → Prop := fun r' ws' => r' = r ∧ ws' = ws
abbrev is1L (r : Int64) (ws : va_W) : Int64 → va_W → Prop := fun r' ws' => r' = r ∧ ws' = ws
abbrev is0 (ws : va_W) : va_W → Prop := fun ws' => ws' = ws
abbrev gE : Type := Program × Launch × Env × Room × State × MethodId × Array Value × List Frame × Method × Code × Kp × (Nat → Prop) × Nat × Nat × (State → Prop) × Nat
def G (E : gE) (ws : va_W) (lv : List (Nat × Value)) (pc : Nat) (st : List Value) : Prop :=
  match E with
  | (p, l, e, R, s, m, args, below, meth, c, κ, A, cells, slots, Q, nL) => ∀ (H : Heap) (locs : List Loc) (ls : Array Slot), va_P κ.1 vwCl ws H → va_D A ws → va_S A s.heap H locs → lv_has ls nL lv → W p l e R s m args below meth c H locs cells slots Q (F0 m pc ls st)
def Fx (E : gE) (κ : Kp) (cc : ByteArray) (own : String) (n dd : Nat) : Prop :=
  match E with
  | (p, _, _, R, s, m, args, _, meth, c, κ', A, cells, slots, _, nL) => κ' = κ ∧ p.tables.exec = Jvm.exec ∧ c.code = cc ∧ c.maxLocals = nL ∧ nL = n ∧ s.vm.findClass own = some m.cls ∧ (∀ w ∈ TG, w.before args s = true) ∧ meth.locks = false ∧ KE κ A s ∧ dd ≤ R.frames ∧ 64 * dd ≤ R.locals ∧ cells ≤ R.cells ∧ slots ≤ R.slots
theorem NWl_use {w : Cond} {U : State} (h : NW U) (hw : w ∈ NWl) : va_Nw w U := h w hw
theorem KE.blind {κ : Kp} {A : Nat → Prop} {U : State} (h : KE κ A U) (g : JFrame) (mk : MethodId) (a : Array Value) : KE κ A (U.calling g mk a) := by
  obtain ⟨h1, h2, h3, h4⟩ := h
  exact ⟨va_K.moved (u := U) (U := U.calling g mk a) (Vm.Alike.refl U.vm) h1, NW.same (u := U) (U := U.calling g mk a) rfl h2, va_Z.moved (u := U) (U := U.calling g mk a) (Vm.Alike.refl U.vm) h3, va_T.moved (u := U) (U := U.calling g mk a) (Vm.Alike.refl U.vm) h4⟩
theorem PreW.blind {κ : Kp} {As : List Value} {ws : va_W} : FrameBlind (PreW κ As ws) := by
  intro a U g mk h
  obtain ⟨h0, h1, h2, h3⟩ := h
  exact ⟨h0, h1, h2, h3.blind g mk a⟩
/-- what the caller holds is enough for the callee's start -/
theorem KE.at {κ : Kp} {A : Nat → Prop} {ws : va_W} {s U : State} {H : Heap} {locs : List Loc} (h : KE κ A s) (hS : va_S A s.heap H locs) (hD : va_D A ws) (hU : U.heap = H) (hW : s.WarmedH U.vm) : KE κ (adr ws) U := by
  obtain ⟨h1, h2, h3, h4⟩ := h
  have hAB : ∀ q, adr ws q → A q := fun q hq => by
    obtain ⟨k, e, hk⟩ := hq
    exact hD.2 k (q, e) hk
  refine ⟨va_K.moved hW.alike h1, h2.warm hW, ?_, ?_⟩
  · rw [hU]
    exact ((h3.kept hS.2.1).narrow hAB).moved hW.alike
  · rw [hU]
    exact ((h4.kept hS.2.1).narrow hAB).moved hW.alike
/-- A METHOD OUT OF ITS WALK -/
theorem mI_of {κ : Kp} {y : MethodName} {cc : ByteArray} {n : Nat} {rt : FieldType} {d : Nat} {As : List Value} {ws : va_W} {post : Int32 → va_W → Prop} (hy : plainName y.cls = true) (hn : (lg_sl As).length ≤ n)
    (body : ∀ E : gE, Fx E κ cc y.cls n d → (∀ {ws' : va_W} {lv : List (Nat × Value)} {pc : Nat} {r : Int32}, sameA ws ws' → post r ws' → narrow rt (.int r) = .int r → decode cc pc = .ok (.ireturn, 1) → G E ws' lv pc [.int r]) → G E ws (lv_args 0 As) 0 []) : mI κ y cc n rt d As ws post := by
  intro l
  refine Met.ofW (cc := cc) (maxL := n) (ret := some rt) hy rfl ?_
  intro p e s m args below meth c s₁ B hml hv
  obtain ⟨rfl, hP, hD0, hK⟩ := hv
  have hx := B.exec
  have hb := B.bytes
  have hr := B.returns
  have hts := atoms_spec (ws := Cond.code y cc n (some rt) :: TG) B.pre
  have hown : s.vm.findClass y.cls = some m.cls := findClass_of_methodNamed B.named
  have hlk := B.notSynchronized
  have hl := lv_entry As (n := n) hn
  have hD : va_D (adr ws) ws := ⟨hD0.1, fun k q hk => ⟨k, q.2, hk⟩⟩
  rw [lg_entry_eq]
  refine body (p, l, e, _, s, m, As.toArray, below, meth, c, κ, adr ws, 0, 0, _, n) ⟨rfl, hx, hb, hml, rfl, hown, fun w hw => hts w (List.mem_cons_of_mem _ hw), hlk, hK, Nat.le_refl _, Nat.le_refl _, Nat.zero_le _, Nat.zero_le _⟩ ?_ s.heap [] _ hP hD va_S.rf hl
  intro ws' lv pc r hsame hpost hnr hd H locs ls hP' hD' hS' hl'
  exact W.zret hx hb hr hnr (fun t ht hW => ⟨⟨r, ws', rfl, hpost, by rw [ht]; exact hP', hsame⟩, hS'.F ht⟩) hS'.2.2 hd
theorem mL_of {κ : Kp} {y : MethodName} {cc : ByteArray} {n : Nat} {d : Nat} {As : List Value} {ws : va_W} {post : Int64 → va_W → Prop} (hy : plainName y.cls = true) (hn : (lg_sl As).length ≤ n)
    (body : ∀ E : gE, Fx E κ cc y.cls n d → (∀ {ws' : va_W} {lv : List (Nat × Value)} {pc : Nat} {r : Int64}, sameA ws ws' → post r ws' → decode cc pc = .ok (.lreturn, 1) → G E ws' lv pc [.long r]) → G E ws (lv_args 0 As) 0 []) : mL κ y cc n d As ws post := by
  intro l
  refine Met.ofW (cc := cc) (maxL := n) (ret := some .long) hy rfl ?_
  intro p e s m args below meth c s₁ B hml hv
  obtain ⟨rfl, hP, hD0, hK⟩ := hv
  have hx := B.exec
  have hb := B.bytes
  have hr := B.returns
  have hts := atoms_spec (ws := Cond.code y cc n (some .long) :: TG) B.pre
  have hown : s.vm.findClass y.cls = some m.cls := findClass_of_methodNamed B.named
  have hlk := B.notSynchronized
  have hl := lv_entry As (n := n) hn
  have hD : va_D (adr ws) ws := ⟨hD0.1, fun k q hk => ⟨k, q.2, hk⟩⟩
  rw [lg_entry_eq]
  refine body (p, l, e, _, s, m, As.toArray, below, meth, c, κ, adr ws, 0, 0, _, n) ⟨rfl, hx, hb, hml, rfl, hown, fun w hw => hts w (List.mem_cons_of_mem _ hw), hlk, hK, Nat.le_refl _, Nat.le_refl _, Nat.zero_le _, Nat.zero_le _⟩ ?_ s.heap [] _ hP hD va_S.rf hl
  intro ws' lv pc r hsame hpost hd H locs ls hP' hD' hS' hl'
  exact W.lret hx hb hr (fun t ht hW => ⟨⟨r, ws', rfl, hpost, by rw [ht]; exact hP', hsame⟩, hS'.F ht⟩) hS'.2.2 hd
theorem mV_of {κ : Kp} {y : MethodName} {cc : ByteArray} {n : Nat} {d : Nat} {As : List Value} {ws : va_W} {post : va_W → Prop} (hy : plainName y.cls = true) (hn : (lg_sl As).length ≤ n)
    (body : ∀ E : gE, Fx E κ cc y.cls n d → (∀ {ws' : va_W} {lv : List (Nat × Value)} {pc : Nat}, sameA ws ws' → post ws' → decode cc pc = .ok (.return_, 1) → G E ws' lv pc []) → G E ws (lv_args 0 As) 0 []) : mV κ y cc n d As ws post := by
  intro l
  refine Met.ofW (cc := cc) (maxL := n) (ret := none) hy rfl ?_
  intro p e s m args below meth c s₁ B hml hv
  obtain ⟨rfl, hP, hD0, hK⟩ := hv
  have hx := B.exec
  have hb := B.bytes
  have hr := B.returns
  have hts := atoms_spec (ws := Cond.code y cc n none :: TG) B.pre
  have hown : s.vm.findClass y.cls = some m.cls := findClass_of_methodNamed B.named
  have hlk := B.notSynchronized
  have hl := lv_entry As (n := n) hn
  have hD : va_D (adr ws) ws := ⟨hD0.1, fun k q hk => ⟨k, q.2, hk⟩⟩
  rw [lg_entry_eq]
  refine body (p, l, e, _, s, m, As.toArray, below, meth, c, κ, adr ws, 0, 0, _, n) ⟨rfl, hx, hb, hml, rfl, hown, fun w hw => hts w (List.mem_cons_of_mem _ hw), hlk, hK, Nat.le_refl _, Nat.le_refl _, Nat.zero_le _, Nat.zero_le _⟩ ?_ s.heap [] _ hP hD va_S.rf hl
  intro ws' lv pc hsame hpost hd H locs ls hP' hD' hS' hl'
  exact W.vret hx hb hr (fun t ht hW => ⟨⟨ws', rfl, hpost, by rw [ht]; exact hP', hsame⟩, hS'.F ht⟩) hS'.2.2 hd
section
variable {E : gE} {κ : Kp} {cc : ByteArray} {own : String} {n dd : Nat} {ws : va_W} {lv lv' : List (Nat × Value)} {pc : Nat} {st : List Value}
theorem g_iconst (F : Fx E κ cc own n dd) {z : Int} (hd : decode cc pc = .ok (.iconst z, 1)) (k : G E ws lv (pc + 1) (.int (iI z) :: st)) : G E ws lv pc st := by
  obtain ⟨p, l, e, R, s, m, args, below, meth, c, κ', A, cells, slots, Q, nL⟩ := E
  obtain ⟨rfl, hx, hb, hml, rfl, hown, hts, hlk, hK, hr1, hr2, hr3, hr4⟩ := F
  intro H locs ls hP hD hS hl
  exact lv_iconst hx hb hd rfl (k H locs ls hP hD hS hl)
theorem g_bipush (F : Fx E κ cc own n dd) {z : Int} (hd : decode cc pc = .ok (.bipush z, 2)) (hv : (Int8.ofInt z).toInt32 = iI z) (k : G E ws lv (pc + 2) (.int (iI z) :: st)) : G E ws lv pc st := by
  obtain ⟨p, l, e, R, s, m, args, below, meth, c, κ', A, cells, slots, Q, nL⟩ := E
  obtain ⟨rfl, hx, hb, hml, rfl, hown, hts, hlk, hK, hr1, hr2, hr3, hr4⟩ := F
  intro H locs ls hP hD hS hl
  exact lv_bipush hx hb hd hv (k H locs ls hP hD hS hl)
theorem g_sipush (F : Fx E κ cc own n dd) {z : Int} (hd : decode cc pc = .ok (.sipush z, 3)) (hv : (Int16.ofInt z).toInt32 = iI z) (k : G E ws lv (pc + 3) (.int (iI z) :: st)) : G E ws lv pc st := by
  obtain ⟨p, l, e, R, s, m, args, below, meth, c, κ', A, cells, slots, Q, nL⟩ := E
  obtain ⟨rfl, hx, hb, hml, rfl, hown, hts, hlk, hK, hr1, hr2, hr3, hr4⟩ := F
  intro H locs ls hP hD hS hl
  exact lv_sipush hx hb hd hv (k H locs ls hP hD hS hl)
theorem g_lconst (F : Fx E κ cc own n dd) {j : Fin 2} {z : Int} (hd : decode cc pc = .ok (.lconst j, 1)) (hz : ((j : Nat) : Int) = z) (k : G E ws lv (pc + 1) (.long (iL z) :: st)) : G E ws lv pc st := by
  obtain ⟨p, l, e, R, s, m, args, below, meth, c, κ', A, cells, slots, Q, nL⟩ := E
  obtain ⟨rfl, hx, hb, hml, rfl, hown, hts, hlk, hK, hr1, hr2, hr3, hr4⟩ := F
  intro H locs ls hP hD hS hl
  subst hz; exact lv_lconst hx hb hd (show Int64.ofNat (j : Nat) = iL ((j : Nat) : Int) from Int64.ofInt_eq_ofNat.symm) (k H locs ls hP hD hS hl)
theorem g_iload_n (F : Fx E κ cc own n dd) {i : Fin 4} {x : Int32} (j : Nat) (hd : decode cc pc = .ok (.iload_n i, 1)) (hj : lv[j]? = some ((i : Nat), .int x)) (k : G E ws lv (pc + 1) (.int x :: st)) : G E ws lv pc st := by
  obtain ⟨p, l, e, R, s, m, args, below, meth, c, κ', A, cells, slots, Q, nL⟩ := E
  obtain ⟨rfl, hx, hb, hml, rfl, hown, hts, hlk, hK, hr1, hr2, hr3, hr4⟩ := F
  intro H locs ls hP hD hS hl
  exact lv_iload_n hx hb hd rfl (lv_at hl j hj) (k H locs ls hP hD hS hl)
theorem g_iload (F : Fx E κ cc own n dd) {i : Nat} {x : Int32} (j : Nat) (hd : decode cc pc = .ok (.iload i, 2)) (hj : lv[j]? = some (i, .int x)) (k : G E ws lv (pc + 2) (.int x :: st)) : G E ws lv pc st := by
  obtain ⟨p, l, e, R, s, m, args, below, meth, c, κ', A, cells, slots, Q, nL⟩ := E
  obtain ⟨rfl, hx, hb, hml, rfl, hown, hts, hlk, hK, hr1, hr2, hr3, hr4⟩ := F
  intro H locs ls hP hD hS hl
  exact lv_iload hx hb hd (lv_at hl j hj) (k H locs ls hP hD hS hl)
theorem g_istore_n (F : Fx E κ cc own n dd) {j : Fin 4} {x : Int32} (i : Nat) (hd : decode cc pc = .ok (.istore_n j, 1)) (hji : (j : Nat) = i) (hi : i < n) (hv : (i, Value.int x) :: lv.filter (fun q => !(q.1 == i) && !(q.1 + 1 == i && q.2.category == 2)) = lv') (k : G E ws lv' (pc + 1) st) : G E ws lv pc (.int x :: st) := by
  obtain ⟨p, l, e, R, s, m, args, below, meth, c, κ', A, cells, slots, Q, nL⟩ := E
  obtain ⟨rfl, hx, hb, hml, rfl, hown, hts, hlk, hK, hr1, hr2, hr3, hr4⟩ := F
  intro H locs ls hP hD hS hl
  subst hji; exact lv_istore_n hx hb hd rfl hl hi hv (fun ls hl => k H locs ls hP hD hS hl)
theorem g_istore (F : Fx E κ cc own n dd) {x : Int32} {i : Nat} (hd : decode cc pc = .ok (.istore i, 2)) (hi : i < n) (hv : (i, Value.int x) :: lv.filter (fun q => !(q.1 == i) && !(q.1 + 1 == i && q.2.category == 2)) = lv') (k : G E ws lv' (pc + 2) st) : G E ws lv pc (.int x :: st) := by
  obtain ⟨p, l, e, R, s, m, args, below, meth, c, κ', A, cells, slots, Q, nL⟩ := E
  obtain ⟨rfl, hx, hb, hml, rfl, hown, hts, hlk, hK, hr1, hr2, hr3, hr4⟩ := F
  intro H locs ls hP hD hS hl
  exact lv_istore hx hb hd hl hi hv (fun ls hl => k H locs ls hP hD hS hl)
theorem g_lload_n (F : Fx E κ cc own n dd) {i : Fin 4} {x : Int64} (j : Nat) (hd : decode cc pc = .ok (.lload_n i, 1)) (hj : lv[j]? = some ((i : Nat), .long x)) (k : G E ws lv (pc + 1) (.long x :: st)) : G E ws lv pc st := by
  obtain ⟨p, l, e, R, s, m, args, below, meth, c, κ', A, cells, slots, Q, nL⟩ := E
  obtain ⟨rfl, hx, hb, hml, rfl, hown, hts, hlk, hK, hr1, hr2, hr3, hr4⟩ := F
  intro H locs ls hP hD hS hl
  exact lv_lload_n hx hb hd rfl (lv_at hl j hj) (k H locs ls hP hD hS hl)
theorem g_lload (F : Fx E κ cc own n dd) {i : Nat} {x : Int64} (j : Nat) (hd : decode cc pc = .ok (.lload i, 2)) (hj : lv[j]? = some (i, .long x)) (k : G E ws lv (pc + 2) (.long x :: st)) : G E ws lv pc st := by
  obtain ⟨p, l, e, R, s, m, args, below, meth, c, κ', A, cells, slots, Q, nL⟩ := E
  obtain ⟨rfl, hx, hb, hml, rfl, hown, hts, hlk, hK, hr1, hr2, hr3, hr4⟩ := F
  intro H locs ls hP hD hS hl
  exact lv_lload hx hb hd (lv_at hl j hj) (k H locs ls hP hD hS hl)
theorem g_lstore_n (F : Fx E κ cc own n dd) {j : Fin 4} {x : Int64} (i : Nat) (hd : decode cc pc = .ok (.lstore_n j, 1)) (hji : (j : Nat) = i) (hi : i + 1 < n) (hv : (i, Value.long x) :: lv.filter (fun q => !(q.1 == i) && (!(q.1 == i + 1) && !(q.1 + 1 == i && q.2.category == 2))) = lv') (k : G E ws lv' (pc + 1) st) : G E ws lv pc (.long x :: st) := by
  obtain ⟨p, l, e, R, s, m, args, below, meth, c, κ', A, cells, slots, Q, nL⟩ := E
  obtain ⟨rfl, hx, hb, hml, rfl, hown, hts, hlk, hK, hr1, hr2, hr3, hr4⟩ := F
  intro H locs ls hP hD hS hl
  subst hji; exact lv_lstore_n hx hb hd rfl hl hi hv (fun ls hl => k H locs ls hP hD hS hl)
theorem g_lstore (F : Fx E κ cc own n dd) {x : Int64} {i : Nat} (hd : decode cc pc = .ok (.lstore i, 2)) (hi : i + 1 < n) (hv : (i, Value.long x) :: lv.filter (fun q => !(q.1 == i) && (!(q.1 == i + 1) && !(q.1 + 1 == i && q.2.category == 2))) = lv') (k : G E ws lv' (pc + 2) st) : G E ws lv pc (.long x :: st) := by
  obtain ⟨p, l, e, R, s, m, args, below, meth, c, κ', A, cells, slots, Q, nL⟩ := E
  obtain ⟨rfl, hx, hb, hml, rfl, hown, hts, hlk, hK, hr1, hr2, hr3, hr4⟩ := F
  intro H locs ls hP hD hS hl
  exact lv_lstore hx hb hd hl hi hv (fun ls hl => k H locs ls hP hD hS hl)
theorem g_aload_n (F : Fx E κ cc own n dd) {i : Fin 4} {x : Nat} (j : Nat) (hd : decode cc pc = .ok (.aload_n i, 1)) (hj : lv[j]? = some ((i : Nat), .ref x)) (k : G E ws lv (pc + 1) (.ref x :: st)) : G E ws lv pc st := by
  obtain ⟨p, l, e, R, s, m, args, below, meth, c, κ', A, cells, slots, Q, nL⟩ := E
  obtain ⟨rfl, hx, hb, hml, rfl, hown, hts, hlk, hK, hr1, hr2, hr3, hr4⟩ := F
  intro H locs ls hP hD hS hl
  exact lv_aload_n hx hb hd rfl (lv_at hl j hj) (k H locs ls hP hD hS hl)
theorem g_aload (F : Fx E κ cc own n dd) {i : Nat} {x : Nat} (j : Nat) (hd : decode cc pc = .ok (.aload i, 2)) (hj : lv[j]? = some (i, .ref x)) (k : G E ws lv (pc + 2) (.ref x :: st)) : G E ws lv pc st := by
  obtain ⟨p, l, e, R, s, m, args, below, meth, c, κ', A, cells, slots, Q, nL⟩ := E
  obtain ⟨rfl, hx, hb, hml, rfl, hown, hts, hlk, hK, hr1, hr2, hr3, hr4⟩ := F
  intro H locs ls hP hD hS hl
  exact lv_aload hx hb hd (lv_at hl j hj) (k H locs ls hP hD hS hl)
theorem g_astore_n (F : Fx E κ cc own n dd) {j : Fin 4} {x : Nat} (i : Nat) (hd : decode cc pc = .ok (.astore_n j, 1)) (hji : (j : Nat) = i) (hi : i < n) (hv : (i, Value.ref x) :: lv.filter (fun q => !(q.1 == i) && !(q.1 + 1 == i && q.2.category == 2)) = lv') (k : G E ws lv' (pc + 1) st) : G E ws lv pc (.ref x :: st) := by
  obtain ⟨p, l, e, R, s, m, args, below, meth, c, κ', A, cells, slots, Q, nL⟩ := E
  obtain ⟨rfl, hx, hb, hml, rfl, hown, hts, hlk, hK, hr1, hr2, hr3, hr4⟩ := F
  intro H locs ls hP hD hS hl
  subst hji; exact lv_astore_n hx hb hd rfl hl hi hv (fun ls hl => k H locs ls hP hD hS hl)
theorem g_astore (F : Fx E κ cc own n dd) {x : Nat} {i : Nat} (hd : decode cc pc = .ok (.astore i, 2)) (hi : i < n) (hv : (i, Value.ref x) :: lv.filter (fun q => !(q.1 == i) && !(q.1 + 1 == i && q.2.category == 2)) = lv') (k : G E ws lv' (pc + 2) st) : G E ws lv pc (.ref x :: st) := by
  obtain ⟨p, l, e, R, s, m, args, below, meth, c, κ', A, cells, slots, Q, nL⟩ := E
  obtain ⟨rfl, hx, hb, hml, rfl, hown, hts, hlk, hK, hr1, hr2, hr3, hr4⟩ := F
  intro H locs ls hP hD hS hl
  exact lv_astore hx hb hd hl hi hv (fun ls hl => k H locs ls hP hD hS hl)
theorem g_iinc (F : Fx E κ cc own n dd) {i : Nat} {z y : Int} (j : Nat) (hd : decode cc pc = .ok (.iinc i z, 3)) (hj : lv[j]? = some (i, .int (iI y))) (hi : i < n) (hv : (i, Value.int (iI (y + z))) :: lv.filter (fun q => !(q.1 == i) && !(q.1 + 1 == i && q.2.category == 2)) = lv') (k : G E ws lv' (pc + 3) st) : G E ws lv pc st := by
  obtain ⟨p, l, e, R, s, m, args, below, meth, c, κ', A, cells, slots, Q, nL⟩ := E
  obtain ⟨rfl, hx, hb, hml, rfl, hown, hts, hlk, hK, hr1, hr2, hr3, hr4⟩ := F
  intro H locs ls hP hD hS hl
  exact lv_iinc hx hb hd hl hj (iI_add y z) hi hv (fun ls hl => k H locs ls hP hD hS hl)
theorem g_iadd (F : Fx E κ cc own n dd) {a b : Int} (hd : decode cc pc = .ok (.iadd, 1)) (k : G E ws lv (pc + 1) (.int (iI (a + b)) :: st)) : G E ws lv pc (.int (iI b) :: .int (iI a) :: st) := by
  obtain ⟨p, l, e, R, s, m, args, below, meth, c, κ', A, cells, slots, Q, nL⟩ := E
  obtain ⟨rfl, hx, hb, hml, rfl, hown, hts, hlk, hK, hr1, hr2, hr3, hr4⟩ := F
  intro H locs ls hP hD hS hl
  exact lv_iadd hx hb hd (by rw [iI_add]; exact k H locs ls hP hD hS hl)
theorem g_ladd (F : Fx E κ cc own n dd) {a b : Int} (hd : decode cc pc = .ok (.ladd, 1)) (k : G E ws lv (pc + 1) (.long (iL (a + b)) :: st)) : G E ws lv pc (.long (iL b) :: .long (iL a) :: st) := by
  obtain ⟨p, l, e, R, s, m, args, below, meth, c, κ', A, cells, slots, Q, nL⟩ := E
  obtain ⟨rfl, hx, hb, hml, rfl, hown, hts, hlk, hK, hr1, hr2, hr3, hr4⟩ := F
  intro H locs ls hP hD hS hl
  exact lv_ladd hx hb hd (by rw [iL_add]; exact k H locs ls hP hD hS hl)
theorem g_isub (F : Fx E κ cc own n dd) {a b : Int} (hd : decode cc pc = .ok (.isub, 1)) (k : G E ws lv (pc + 1) (.int (iI (a - b)) :: st)) : G E ws lv pc (.int (iI b) :: .int (iI a) :: st) := by
  obtain ⟨p, l, e, R, s, m, args, below, meth, c, κ', A, cells, slots, Q, nL⟩ := E
  obtain ⟨rfl, hx, hb, hml, rfl, hown, hts, hlk, hK, hr1, hr2, hr3, hr4⟩ := F
  intro H locs ls hP hD hS hl
  exact lv_isub hx hb hd (by rw [iI_sub]; exact k H locs ls hP hD hS hl)
theorem g_lsub (F : Fx E κ cc own n dd) {a b : Int} (hd : decode cc pc = .ok (.lsub, 1)) (k : G E ws lv (pc + 1) (.long (iL (a - b)) :: st)) : G E ws lv pc (.long (iL b) :: .long (iL a) :: st) := by
  obtain ⟨p, l, e, R, s, m, args, below, meth, c, κ', A, cells, slots, Q, nL⟩ := E
  obtain ⟨rfl, hx, hb, hml, rfl, hown, hts, hlk, hK, hr1, hr2, hr3, hr4⟩ := F
  intro H locs ls hP hD hS hl
  exact lv_lsub hx hb hd (by rw [iL_sub]; exact k H locs ls hP hD hS hl)
theorem g_imul (F : Fx E κ cc own n dd) {a b : Int} (hd : decode cc pc = .ok (.imul, 1)) (k : G E ws lv (pc + 1) (.int (iI (a * b)) :: st)) : G E ws lv pc (.int (iI b) :: .int (iI a) :: st) := by
  obtain ⟨p, l, e, R, s, m, args, below, meth, c, κ', A, cells, slots, Q, nL⟩ := E
  obtain ⟨rfl, hx, hb, hml, rfl, hown, hts, hlk, hK, hr1, hr2, hr3, hr4⟩ := F
  intro H locs ls hP hD hS hl
  exact lv_imul hx hb hd (by rw [iI_mul]; exact k H locs ls hP hD hS hl)
theorem g_lmul (F : Fx E κ cc own n dd) {a b : Int} (hd : decode cc pc = .ok (.lmul, 1)) (k : G E ws lv (pc + 1) (.long (iL (a * b)) :: st)) : G E ws lv pc (.long (iL b) :: .long (iL a) :: st) := by
  obtain ⟨p, l, e, R, s, m, args, below, meth, c, κ', A, cells, slots, Q, nL⟩ := E
  obtain ⟨rfl, hx, hb, hml, rfl, hown, hts, hlk, hK, hr1, hr2, hr3, hr4⟩ := F
  intro H locs ls hP hD hS hl
  exact lv_lmul hx hb hd (by rw [iL_mul]; exact k H locs ls hP hD hS hl)
theorem g_idiv (F : Fx E κ cc own n dd) {a b : Int} (hd : decode cc pc = .ok (.idiv, 1)) (hh : (0 ≤ a ∧ a ≤ 2147483647) ∧ 0 < b ∧ b ≤ 2147483647) (k : G E ws lv (pc + 1) (.int (iI (a / b)) :: st)) : G E ws lv pc (.int (iI b) :: .int (iI a) :: st) := by
  obtain ⟨p, l, e, R, s, m, args, below, meth, c, κ', A, cells, slots, Q, nL⟩ := E
  obtain ⟨rfl, hx, hb, hml, rfl, hown, hts, hlk, hK, hr1, hr2, hr3, hr4⟩ := F
  intro H locs ls hP hD hS hl
  have hne : ¬ iI b = 0 := fun q => by have q2 := congrArg Int32.toInt q; rw [iI_toInt ⟨by omega, by omega⟩] at q2; have q3 : b = 0 := q2; omega
  exact lv_idiv hx hb hd hne (by rw [iI_div hh.1.1 hh.1.2 hh.2.1 hh.2.2]; exact k H locs ls hP hD hS hl)
theorem g_irem (F : Fx E κ cc own n dd) {a b : Int} (hd : decode cc pc = .ok (.irem, 1)) (hh : (0 ≤ a ∧ a ≤ 2147483647) ∧ 0 < b ∧ b ≤ 2147483647) (k : G E ws lv (pc + 1) (.int (iI (a % b)) :: st)) : G E ws lv pc (.int (iI b) :: .int (iI a) :: st) := by
  obtain ⟨p, l, e, R, s, m, args, below, meth, c, κ', A, cells, slots, Q, nL⟩ := E
  obtain ⟨rfl, hx, hb, hml, rfl, hown, hts, hlk, hK, hr1, hr2, hr3, hr4⟩ := F
  intro H locs ls hP hD hS hl
  have hne : ¬ iI b = 0 := fun q => by have q2 := congrArg Int32.toInt q; rw [iI_toInt ⟨by omega, by omega⟩] at q2; have q3 : b = 0 := q2; omega
  exact lv_irem hx hb hd hne (by rw [iI_rem hh.1.1 hh.1.2 hh.2.1 hh.2.2]; exact k H locs ls hP hD hS hl)
theorem g_ldiv (F : Fx E κ cc own n dd) {a b : Int} (hd : decode cc pc = .ok (.ldiv, 1)) (hh : (0 ≤ a ∧ a ≤ 9223372036854775807) ∧ 0 < b ∧ b ≤ 9223372036854775807) (k : G E ws lv (pc + 1) (.long (iL (a / b)) :: st)) : G E ws lv pc (.long (iL b) :: .long (iL a) :: st) := by
  obtain ⟨p, l, e, R, s, m, args, below, meth, c, κ', A, cells, slots, Q, nL⟩ := E
  obtain ⟨rfl, hx, hb, hml, rfl, hown, hts, hlk, hK, hr1, hr2, hr3, hr4⟩ := F
  intro H locs ls hP hD hS hl
  have hne : ¬ iL b = 0 := fun q => by have q2 := congrArg Int64.toInt q; rw [iL_toInt ⟨by omega, by omega⟩] at q2; have q3 : b = 0 := q2; omega
  exact lv_ldiv hx hb hd hne (by rw [iL_div hh.1.1 hh.1.2 hh.2.1 hh.2.2]; exact k H locs ls hP hD hS hl)
theorem g_lrem (F : Fx E κ cc own n dd) {a b : Int} (hd : decode cc pc = .ok (.lrem, 1)) (hh : (0 ≤ a ∧ a ≤ 9223372036854775807) ∧ 0 < b ∧ b ≤ 9223372036854775807) (k : G E ws lv (pc + 1) (.long (iL (a % b)) :: st)) : G E ws lv pc (.long (iL b) :: .long (iL a) :: st) := by
  obtain ⟨p, l, e, R, s, m, args, below, meth, c, κ', A, cells, slots, Q, nL⟩ := E
  obtain ⟨rfl, hx, hb, hml, rfl, hown, hts, hlk, hK, hr1, hr2, hr3, hr4⟩ := F
  intro H locs ls hP hD hS hl
  have hne : ¬ iL b = 0 := fun q => by have q2 := congrArg Int64.toInt q; rw [iL_toInt ⟨by omega, by omega⟩] at q2; have q3 : b = 0 := q2; omega
  exact lv_lrem hx hb hd hne (by rw [iL_rem hh.1.1 hh.1.2 hh.2.1 hh.2.2]; exact k H locs ls hP hD hS hl)
theorem g_ineg (F : Fx E κ cc own n dd) {a : Int} (hd : decode cc pc = .ok (.ineg, 1)) (k : G E ws lv (pc + 1) (.int (iI (-a)) :: st)) : G E ws lv pc (.int (iI a) :: st) := by
  obtain ⟨p, l, e, R, s, m, args, below, meth, c, κ', A, cells, slots, Q, nL⟩ := E
  obtain ⟨rfl, hx, hb, hml, rfl, hown, hts, hlk, hK, hr1, hr2, hr3, hr4⟩ := F
  intro H locs ls hP hD hS hl
  exact lv_ineg hx hb hd (by rw [iI_neg]; exact k H locs ls hP hD hS hl)
theorem g_iand (F : Fx E κ cc own n dd) {x y : Int32} (hd : decode cc pc = .ok (.iand, 1)) (k : G E ws lv (pc + 1) (.int (x &&& y) :: st)) : G E ws lv pc (.int y :: .int x :: st) := by
  obtain ⟨p, l, e, R, s, m, args, below, meth, c, κ', A, cells, slots, Q, nL⟩ := E
  obtain ⟨rfl, hx, hb, hml, rfl, hown, hts, hlk, hK, hr1, hr2, hr3, hr4⟩ := F
  intro H locs ls hP hD hS hl
  exact lv_iand hx hb hd (k H locs ls hP hD hS hl)
theorem g_ior (F : Fx E κ cc own n dd) {x y : Int32} (hd : decode cc pc = .ok (.ior, 1)) (k : G E ws lv (pc + 1) (.int (x ||| y) :: st)) : G E ws lv pc (.int y :: .int x :: st) := by
  obtain ⟨p, l, e, R, s, m, args, below, meth, c, κ', A, cells, slots, Q, nL⟩ := E
  obtain ⟨rfl, hx, hb, hml, rfl, hown, hts, hlk, hK, hr1, hr2, hr3, hr4⟩ := F
  intro H locs ls hP hD hS hl
  exact lv_ior hx hb hd (k H locs ls hP hD hS hl)
theorem g_ixor (F : Fx E κ cc own n dd) {x y : Int32} (hd : decode cc pc = .ok (.ixor, 1)) (k : G E ws lv (pc + 1) (.int (x ^^^ y) :: st)) : G E ws lv pc (.int y :: .int x :: st) := by
  obtain ⟨p, l, e, R, s, m, args, below, meth, c, κ', A, cells, slots, Q, nL⟩ := E
  obtain ⟨rfl, hx, hb, hml, rfl, hown, hts, hlk, hK, hr1, hr2, hr3, hr4⟩ := F
  intro H locs ls hP hD hS hl
  exact lv_ixor hx hb hd (k H locs ls hP hD hS hl)
theorem g_ishl (F : Fx E κ cc own n dd) {x y : Int32} (hd : decode cc pc = .ok (.ishl, 1)) (k : G E ws lv (pc + 1) (.int (x <<< (y &&& 31)) :: st)) : G E ws lv pc (.int y :: .int x :: st) := by
  obtain ⟨p, l, e, R, s, m, args, below, meth, c, κ', A, cells, slots, Q, nL⟩ := E
  obtain ⟨rfl, hx, hb, hml, rfl, hown, hts, hlk, hK, hr1, hr2, hr3, hr4⟩ := F
  intro H locs ls hP hD hS hl
  exact lv_ishl hx hb hd (k H locs ls hP hD hS hl)
theorem g_ishr (F : Fx E κ cc own n dd) {x y : Int32} (hd : decode cc pc = .ok (.ishr, 1)) (k : G E ws lv (pc + 1) (.int (x >>> (y &&& 31)) :: st)) : G E ws lv pc (.int y :: .int x :: st) := by
  obtain ⟨p, l, e, R, s, m, args, below, meth, c, κ', A, cells, slots, Q, nL⟩ := E
  obtain ⟨rfl, hx, hb, hml, rfl, hown, hts, hlk, hK, hr1, hr2, hr3, hr4⟩ := F
  intro H locs ls hP hD hS hl
  exact lv_ishr hx hb hd (k H locs ls hP hD hS hl)
theorem g_iushr (F : Fx E κ cc own n dd) {x y : Int32} (hd : decode cc pc = .ok (.iushr, 1)) (k : G E ws lv (pc + 1) (.int ((x.toUInt32 >>> (y.toUInt32 &&& Int32.toUInt32 31)).toInt32) :: st)) : G E ws lv pc (.int y :: .int x :: st) := by
  obtain ⟨p, l, e, R, s, m, args, below, meth, c, κ', A, cells, slots, Q, nL⟩ := E
  obtain ⟨rfl, hx, hb, hml, rfl, hown, hts, hlk, hK, hr1, hr2, hr3, hr4⟩ := F
  intro H locs ls hP hD hS hl
  exact lv_iushr hx hb hd rfl (k H locs ls hP hD hS hl)
theorem g_iaddR (F : Fx E κ cc own n dd) {x y : Int32} (hd : decode cc pc = .ok (.iadd, 1)) (k : G E ws lv (pc + 1) (.int (x + y) :: st)) : G E ws lv pc (.int y :: .int x :: st) := by
  obtain ⟨p, l, e, R, s, m, args, below, meth, c, κ', A, cells, slots, Q, nL⟩ := E
  obtain ⟨rfl, hx, hb, hml, rfl, hown, hts, hlk, hK, hr1, hr2, hr3, hr4⟩ := F
  intro H locs ls hP hD hS hl
  exact lv_iadd hx hb hd (k H locs ls hP hD hS hl)
theorem g_isubR (F : Fx E κ cc own n dd) {x y : Int32} (hd : decode cc pc = .ok (.isub, 1)) (k : G E ws lv (pc + 1) (.int (x - y) :: st)) : G E ws lv pc (.int y :: .int x :: st) := by
  obtain ⟨p, l, e, R, s, m, args, below, meth, c, κ', A, cells, slots, Q, nL⟩ := E
  obtain ⟨rfl, hx, hb, hml, rfl, hown, hts, hlk, hK, hr1, hr2, hr3, hr4⟩ := F
  intro H locs ls hP hD hS hl
  exact lv_isub hx hb hd (k H locs ls hP hD hS hl)
theorem g_top {x y : Int32} (h : x = y) (k : G E ws lv pc (.int y :: st)) : G E ws lv pc (.int x :: st) := h ▸ k
theorem g_topL {x y : Int64} (h : x = y) (k : G E ws lv pc (.long y :: st)) : G E ws lv pc (.long x :: st) := h ▸ k
theorem g_ws {ws' : va_W} (h : ws = ws') (k : G E ws' lv pc st) : G E ws lv pc st := h ▸ k
theorem g_st {st' : List Value} (h : st = st') (k : G E ws lv pc st') : G E ws lv pc st := h ▸ k
theorem g_lv (h : lv = lv') (k : G E ws lv' pc st) : G E ws lv pc st := h ▸ k
theorem g_sub (F : Fx E κ cc own n dd) (ks : List Nat) (h : lv_pick lv ks = lv') (k : G E ws lv' pc st) : G E ws lv pc st := by
  obtain ⟨p, l, e, R, s, m, args, below, meth, c, κ', A, cells, slots, Q, nL⟩ := E
  obtain ⟨rfl, hx, hb, hml, rfl, hown, hts, hlk, hK, hr1, hr2, hr3, hr4⟩ := F
  intro H locs ls hP hD hS hl
  exact k H locs ls hP hD hS (lv_sub hl ks h)
theorem g_goto (F : Fx E κ cc own n dd) {off : Int} (tgt : Nat) (hd : decode cc pc = .ok (.goto off, 3)) (ht : (pc : Int) + off = (tgt : Int)) (k : G E ws lv tgt st) : G E ws lv pc st := by
  obtain ⟨p, l, e, R, s, m, args, below, meth, c, κ', A, cells, slots, Q, nL⟩ := E
  obtain ⟨rfl, hx, hb, hml, rfl, hown, hts, hlk, hK, hr1, hr2, hr3, hr4⟩ := F
  intro H locs ls hP hD hS hl
  exact lv_goto hx hb hd ht (k H locs ls hP hD hS hl)
theorem g_if_eq (F : Fx E κ cc own n dd) {z off : Int} (tgt : Nat) (hz : In32 z) (hd : decode cc pc = .ok (.ifCond .eq off, 3)) (ht : (pc : Int) + off = (tgt : Int)) (kt : z = 0 → G E ws lv tgt st) (kf : z ≠ 0 → G E ws lv (pc + 3) st) : G E ws lv pc (.int (iI z) :: st) := by
  obtain ⟨p, l, e, R, s, m, args, below, meth, c, κ', A, cells, slots, Q, nL⟩ := E
  obtain ⟨rfl, hx, hb, hml, rfl, hown, hts, hlk, hK, hr1, hr2, hr3, hr4⟩ := F
  intro H locs ls hP hD hS hl
  have e := iI_eq hz (by decide : In32 0)
  rw [iI_z] at e
  exact lv_if_eq hx hb hd ht (fun q => kt (by exact e.mp q) H locs ls hP hD hS hl) (fun q => kf (by exact fun z0 => q (e.mpr z0)) H locs ls hP hD hS hl)
theorem g_if_ne (F : Fx E κ cc own n dd) {z off : Int} (tgt : Nat) (hz : In32 z) (hd : decode cc pc = .ok (.ifCond .ne off, 3)) (ht : (pc : Int) + off = (tgt : Int)) (kt : z ≠ 0 → G E ws lv tgt st) (kf : z = 0 → G E ws lv (pc + 3) st) : G E ws lv pc (.int (iI z) :: st) := by
  obtain ⟨p, l, e, R, s, m, args, below, meth, c, κ', A, cells, slots, Q, nL⟩ := E
  obtain ⟨rfl, hx, hb, hml, rfl, hown, hts, hlk, hK, hr1, hr2, hr3, hr4⟩ := F
  intro H locs ls hP hD hS hl
  have e := iI_eq hz (by decide : In32 0)
  rw [iI_z] at e
  exact lv_if_ne hx hb hd ht (fun q => kt (by exact fun z0 => q (e.mpr z0)) H locs ls hP hD hS hl) (fun q => kf (by exact e.mp q) H locs ls hP hD hS hl)
theorem g_if_lt (F : Fx E κ cc own n dd) {z off : Int} (tgt : Nat) (hz : In32 z) (hd : decode cc pc = .ok (.ifCond .lt off, 3)) (ht : (pc : Int) + off = (tgt : Int)) (kt : z < 0 → G E ws lv tgt st) (kf : 0 ≤ z → G E ws lv (pc + 3) st) : G E ws lv pc (.int (iI z) :: st) := by
  obtain ⟨p, l, e, R, s, m, args, below, meth, c, κ', A, cells, slots, Q, nL⟩ := E
  obtain ⟨rfl, hx, hb, hml, rfl, hown, hts, hlk, hK, hr1, hr2, hr3, hr4⟩ := F
  intro H locs ls hP hD hS hl
  have e := iI_lt hz (by decide : In32 0)
  rw [iI_z] at e
  exact lv_if_lt hx hb hd ht (fun q => kt (by exact e.mp q) H locs ls hP hD hS hl) (fun q => kf (by have q2 : ¬ (z < 0) := fun z0 => q (e.mpr z0); omega) H locs ls hP hD hS hl)
theorem g_if_ge (F : Fx E κ cc own n dd) {z off : Int} (tgt : Nat) (hz : In32 z) (hd : decode cc pc = .ok (.ifCond .ge off, 3)) (ht : (pc : Int) + off = (tgt : Int)) (kt : 0 ≤ z → G E ws lv tgt st) (kf : z < 0 → G E ws lv (pc + 3) st) : G E ws lv pc (.int (iI z) :: st) := by
  obtain ⟨p, l, e, R, s, m, args, below, meth, c, κ', A, cells, slots, Q, nL⟩ := E
  obtain ⟨rfl, hx, hb, hml, rfl, hown, hts, hlk, hK, hr1, hr2, hr3, hr4⟩ := F
  intro H locs ls hP hD hS hl
  have e := iI_le (by decide : In32 0) hz
  rw [iI_z] at e
  exact lv_if_ge hx hb hd ht (fun q => kt (by exact e.mp q) H locs ls hP hD hS hl) (fun q => kf (by have q2 : ¬ (0 ≤ z) := fun z0 => q (e.mpr z0); omega) H locs ls hP hD hS hl)
theorem g_if_gt (F : Fx E κ cc own n dd) {z off : Int} (tgt : Nat) (hz : In32 z) (hd : decode cc pc = .ok (.ifCond .gt off, 3)) (ht : (pc : Int) + off = (tgt : Int)) (kt : 0 < z → G E ws lv tgt st) (kf : z ≤ 0 → G E ws lv (pc + 3) st) : G E ws lv pc (.int (iI z) :: st) := by
  obtain ⟨p, l, e, R, s, m, args, below, meth, c, κ', A, cells, slots, Q, nL⟩ := E
  obtain ⟨rfl, hx, hb, hml, rfl, hown, hts, hlk, hK, hr1, hr2, hr3, hr4⟩ := F
  intro H locs ls hP hD hS hl
  have e := iI_lt (by decide : In32 0) hz
  rw [iI_z] at e
  exact lv_if_gt hx hb hd ht (fun q => kt (by exact e.mp q) H locs ls hP hD hS hl) (fun q => kf (by have q2 : ¬ (0 < z) := fun z0 => q (e.mpr z0); omega) H locs ls hP hD hS hl)
theorem g_if_le (F : Fx E κ cc own n dd) {z off : Int} (tgt : Nat) (hz : In32 z) (hd : decode cc pc = .ok (.ifCond .le off, 3)) (ht : (pc : Int) + off = (tgt : Int)) (kt : z ≤ 0 → G E ws lv tgt st) (kf : 0 < z → G E ws lv (pc + 3) st) : G E ws lv pc (.int (iI z) :: st) := by
  obtain ⟨p, l, e, R, s, m, args, below, meth, c, κ', A, cells, slots, Q, nL⟩ := E
  obtain ⟨rfl, hx, hb, hml, rfl, hown, hts, hlk, hK, hr1, hr2, hr3, hr4⟩ := F
  intro H locs ls hP hD hS hl
  have e := iI_le hz (by decide : In32 0)
  rw [iI_z] at e
  exact lv_if_le hx hb hd ht (fun q => kt (by exact e.mp q) H locs ls hP hD hS hl) (fun q => kf (by have q2 : ¬ (z ≤ 0) := fun z0 => q (e.mpr z0); omega) H locs ls hP hD hS hl)
theorem g_icmp_eq (F : Fx E κ cc own n dd) {a b off : Int} (tgt : Nat) (hz : In32 a ∧ In32 b) (hd : decode cc pc = .ok (.if_icmp .eq off, 3)) (ht : (pc : Int) + off = (tgt : Int)) (kt : a = b → G E ws lv tgt st) (kf : a ≠ b → G E ws lv (pc + 3) st) : G E ws lv pc (.int (iI b) :: .int (iI a) :: st) := by
  obtain ⟨p, l, e, R, s, m, args, below, meth, c, κ', A, cells, slots, Q, nL⟩ := E
  obtain ⟨rfl, hx, hb, hml, rfl, hown, hts, hlk, hK, hr1, hr2, hr3, hr4⟩ := F
  intro H locs ls hP hD hS hl
  have e := iI_eq hz.1 hz.2
  exact lv_icmp_eq hx hb hd ht (fun q => kt (by exact e.mp q) H locs ls hP hD hS hl) (fun q => kf (by exact fun z0 => q (e.mpr z0)) H locs ls hP hD hS hl)
theorem g_icmp_ne (F : Fx E κ cc own n dd) {a b off : Int} (tgt : Nat) (hz : In32 a ∧ In32 b) (hd : decode cc pc = .ok (.if_icmp .ne off, 3)) (ht : (pc : Int) + off = (tgt : Int)) (kt : a ≠ b → G E ws lv tgt st) (kf : a = b → G E ws lv (pc + 3) st) : G E ws lv pc (.int (iI b) :: .int (iI a) :: st) := by
  obtain ⟨p, l, e, R, s, m, args, below, meth, c, κ', A, cells, slots, Q, nL⟩ := E
  obtain ⟨rfl, hx, hb, hml, rfl, hown, hts, hlk, hK, hr1, hr2, hr3, hr4⟩ := F
  intro H locs ls hP hD hS hl
  have e := iI_eq hz.1 hz.2
  exact lv_icmp_ne hx hb hd ht (fun q => kt (by exact fun z0 => q (e.mpr z0)) H locs ls hP hD hS hl) (fun q => kf (by exact e.mp q) H locs ls hP hD hS hl)
theorem g_icmp_lt (F : Fx E κ cc own n dd) {a b off : Int} (tgt : Nat) (hz : In32 a ∧ In32 b) (hd : decode cc pc = .ok (.if_icmp .lt off, 3)) (ht : (pc : Int) + off = (tgt : Int)) (kt : a < b → G E ws lv tgt st) (kf : b ≤ a → G E ws lv (pc + 3) st) : G E ws lv pc (.int (iI b) :: .int (iI a) :: st) := by
  obtain ⟨p, l, e, R, s, m, args, below, meth, c, κ', A, cells, slots, Q, nL⟩ := E
  obtain ⟨rfl, hx, hb, hml, rfl, hown, hts, hlk, hK, hr1, hr2, hr3, hr4⟩ := F
  intro H locs ls hP hD hS hl
  have e := iI_lt hz.1 hz.2
  exact lv_icmp_lt hx hb hd ht (fun q => kt (by exact e.mp q) H locs ls hP hD hS hl) (fun q => kf (by have q2 : ¬ (a < b) := fun z0 => q (e.mpr z0); omega) H locs ls hP hD hS hl)
theorem g_icmp_ge (F : Fx E κ cc own n dd) {a b off : Int} (tgt : Nat) (hz : In32 a ∧ In32 b) (hd : decode cc pc = .ok (.if_icmp .ge off, 3)) (ht : (pc : Int) + off = (tgt : Int)) (kt : b ≤ a → G E ws lv tgt st) (kf : a < b → G E ws lv (pc + 3) st) : G E ws lv pc (.int (iI b) :: .int (iI a) :: st) := by
  obtain ⟨p, l, e, R, s, m, args, below, meth, c, κ', A, cells, slots, Q, nL⟩ := E
  obtain ⟨rfl, hx, hb, hml, rfl, hown, hts, hlk, hK, hr1, hr2, hr3, hr4⟩ := F
  intro H locs ls hP hD hS hl
  have e := iI_le hz.2 hz.1
  exact lv_icmp_ge hx hb hd ht (fun q => kt (by exact e.mp q) H locs ls hP hD hS hl) (fun q => kf (by have q2 : ¬ (b ≤ a) := fun z0 => q (e.mpr z0); omega) H locs ls hP hD hS hl)
theorem g_icmp_gt (F : Fx E κ cc own n dd) {a b off : Int} (tgt : Nat) (hz : In32 a ∧ In32 b) (hd : decode cc pc = .ok (.if_icmp .gt off, 3)) (ht : (pc : Int) + off = (tgt : Int)) (kt : b < a → G E ws lv tgt st) (kf : a ≤ b → G E ws lv (pc + 3) st) : G E ws lv pc (.int (iI b) :: .int (iI a) :: st) := by
  obtain ⟨p, l, e, R, s, m, args, below, meth, c, κ', A, cells, slots, Q, nL⟩ := E
  obtain ⟨rfl, hx, hb, hml, rfl, hown, hts, hlk, hK, hr1, hr2, hr3, hr4⟩ := F
  intro H locs ls hP hD hS hl
  have e := iI_lt hz.2 hz.1
  exact lv_icmp_gt hx hb hd ht (fun q => kt (by exact e.mp q) H locs ls hP hD hS hl) (fun q => kf (by have q2 : ¬ (b < a) := fun z0 => q (e.mpr z0); omega) H locs ls hP hD hS hl)
theorem g_icmp_le (F : Fx E κ cc own n dd) {a b off : Int} (tgt : Nat) (hz : In32 a ∧ In32 b) (hd : decode cc pc = .ok (.if_icmp .le off, 3)) (ht : (pc : Int) + off = (tgt : Int)) (kt : a ≤ b → G E ws lv tgt st) (kf : b < a → G E ws lv (pc + 3) st) : G E ws lv pc (.int (iI b) :: .int (iI a) :: st) := by
  obtain ⟨p, l, e, R, s, m, args, below, meth, c, κ', A, cells, slots, Q, nL⟩ := E
  obtain ⟨rfl, hx, hb, hml, rfl, hown, hts, hlk, hK, hr1, hr2, hr3, hr4⟩ := F
  intro H locs ls hP hD hS hl
  have e := iI_le hz.1 hz.2
  exact lv_icmp_le hx hb hd ht (fun q => kt (by exact e.mp q) H locs ls hP hD hS hl) (fun q => kf (by have q2 : ¬ (a ≤ b) := fun z0 => q (e.mpr z0); omega) H locs ls hP hD hS hl)
theorem g_if_eqR (F : Fx E κ cc own n dd) {x : Int32} {off : Int} (tgt : Nat) (hd : decode cc pc = .ok (.ifCond .eq off, 3)) (ht : (pc : Int) + off = (tgt : Int)) (kt : x = 0 → G E ws lv tgt st) (kf : ¬ x = 0 → G E ws lv (pc + 3) st) : G E ws lv pc (.int x :: st) := by
  obtain ⟨p, l, e, R, s, m, args, below, meth, c, κ', A, cells, slots, Q, nL⟩ := E
  obtain ⟨rfl, hx, hb, hml, rfl, hown, hts, hlk, hK, hr1, hr2, hr3, hr4⟩ := F
  intro H locs ls hP hD hS hl
  exact lv_if_eq hx hb hd ht (fun q => kt q H locs ls hP hD hS hl) (fun q => kf q H locs ls hP hD hS hl)
theorem g_if_neR (F : Fx E κ cc own n dd) {x : Int32} {off : Int} (tgt : Nat) (hd : decode cc pc = .ok (.ifCond .ne off, 3)) (ht : (pc : Int) + off = (tgt : Int)) (kt : ¬ x = 0 → G E ws lv tgt st) (kf : x = 0 → G E ws lv (pc + 3) st) : G E ws lv pc (.int x :: st) := by
  obtain ⟨p, l, e, R, s, m, args, below, meth, c, κ', A, cells, slots, Q, nL⟩ := E
  obtain ⟨rfl, hx, hb, hml, rfl, hown, hts, hlk, hK, hr1, hr2, hr3, hr4⟩ := F
  intro H locs ls hP hD hS hl
  exact lv_if_ne hx hb hd ht (fun q => kt q H locs ls hP hD hS hl) (fun q => kf q H locs ls hP hD hS hl)
theorem g_tsw_in (F : Fx E κ cc own n dd) {z dflt lo hi off : Int} {offs : Array Int} {len : Nat} (tgt : Nat) (hz : In32 z) (hd : decode cc pc = .ok (.tableswitch dflt lo hi offs, len)) (h1 : lo ≤ z) (h2 : z ≤ hi) (ho : offs[(z - lo).toNat]? = some off) (ht : (pc : Int) + off = (tgt : Int)) (k : G E ws lv tgt st) : G E ws lv pc (.int (iI z) :: st) := by
  obtain ⟨p, l, e, R, s, m, args, below, meth, c, κ', A, cells, slots, Q, nL⟩ := E
  obtain ⟨rfl, hx, hb, hml, rfl, hown, hts, hlk, hK, hr1, hr2, hr3, hr4⟩ := F
  intro H locs ls hP hD hS hl
  exact lv_tableIn hx hb hd (by rw [iI_toInt hz]; omega) (by rw [iI_toInt hz]; omega) (by rw [iI_toInt hz]; exact ho) ht (k H locs ls hP hD hS hl)
theorem g_tsw_out (F : Fx E κ cc own n dd) {z dflt lo hi : Int} {offs : Array Int} {len : Nat} (tgt : Nat) (hz : In32 z) (hd : decode cc pc = .ok (.tableswitch dflt lo hi offs, len)) (h1 : z < lo ∨ hi < z) (ht : (pc : Int) + dflt = (tgt : Int)) (k : G E ws lv tgt st) : G E ws lv pc (.int (iI z) :: st) := by
  obtain ⟨p, l, e, R, s, m, args, below, meth, c, κ', A, cells, slots, Q, nL⟩ := E
  obtain ⟨rfl, hx, hb, hml, rfl, hown, hts, hlk, hK, hr1, hr2, hr3, hr4⟩ := F
  intro H locs ls hP hD hS hl
  exact lv_tableOut hx hb hd (by rw [iI_toInt hz]; exact h1) ht (k H locs ls hP hD hS hl)
theorem g_lsw (F : Fx E κ cc own n dd) {z dflt off : Int} {ps : Array (Int × Int)} {len : Nat} (tgt : Nat) (hz : In32 z) (hd : decode cc pc = .ok (.lookupswitch dflt ps, len)) (hp : (ps.toList.zip (ps.toList.drop 1)).all (fun (a, next) => a.1 < next.1) = true) (ho : Op.lookupswitch.offset ps.toList dflt z = off) (ht : (pc : Int) + off = (tgt : Int)) (k : G E ws lv tgt st) : G E ws lv pc (.int (iI z) :: st) := by
  obtain ⟨p, l, e, R, s, m, args, below, meth, c, κ', A, cells, slots, Q, nL⟩ := E
  obtain ⟨rfl, hx, hb, hml, rfl, hown, hts, hlk, hK, hr1, hr2, hr3, hr4⟩ := F
  intro H locs ls hP hD hS hl
  exact lv_lookup hx hb hd hp (by rw [iI_toInt hz]; exact ho) ht (k H locs ls hP hD hS hl)
theorem g_dup (F : Fx E κ cc own n dd) {v : Value} (hd : decode cc pc = .ok (.dup, 1)) (hv : v.category = 1) (k : G E ws lv (pc + 1) (v :: v :: st)) : G E ws lv pc (v :: st) := by
  obtain ⟨p, l, e, R, s, m, args, below, meth, c, κ', A, cells, slots, Q, nL⟩ := E
  obtain ⟨rfl, hx, hb, hml, rfl, hown, hts, hlk, hK, hr1, hr2, hr3, hr4⟩ := F
  intro H locs ls hP hD hS hl
  exact lv_dup hx hb hd hv (k H locs ls hP hD hS hl)
theorem g_dup2 (F : Fx E κ cc own n dd) {v w : Value} (hd : decode cc pc = .ok (.dup2, 1)) (hv : v.category = 1) (hw : w.category = 1) (k : G E ws lv (pc + 1) (v :: w :: v :: w :: st)) : G E ws lv pc (v :: w :: st) := by
  obtain ⟨p, l, e, R, s, m, args, below, meth, c, κ', A, cells, slots, Q, nL⟩ := E
  obtain ⟨rfl, hx, hb, hml, rfl, hown, hts, hlk, hK, hr1, hr2, hr3, hr4⟩ := F
  intro H locs ls hP hD hS hl
  exact lv_dup2_11 hx hb hd hv hw (k H locs ls hP hD hS hl)
theorem g_pop (F : Fx E κ cc own n dd) {v : Value} (hd : decode cc pc = .ok (.pop, 1)) (hv : v.category = 1) (k : G E ws lv (pc + 1) st) : G E ws lv pc (v :: st) := by
  obtain ⟨p, l, e, R, s, m, args, below, meth, c, κ', A, cells, slots, Q, nL⟩ := E
  obtain ⟨rfl, hx, hb, hml, rfl, hown, hts, hlk, hK, hr1, hr2, hr3, hr4⟩ := F
  intro H locs ls hP hD hS hl
  exact lv_pop hx hb hd hv (k H locs ls hP hD hS hl)
theorem g_ldc (F : Fx E κ cc own n dd) {idx : Nat} {v : Int32} {z : Int} (hc : Cond.constant own idx v ∈ TG) (hv : v = iI z) (hd : decode cc pc = .ok (.ldc idx, 2)) (k : G E ws lv (pc + 2) (.int (iI z) :: st)) : G E ws lv pc st := by
  obtain ⟨p, l, e, R, s, m, args, below, meth, c, κ', A, cells, slots, Q, nL⟩ := E
  obtain ⟨rfl, hx, hb, hml, rfl, hown, hts, hlk, hK, hr1, hr2, hr3, hr4⟩ := F
  intro H locs ls hP hD hS hl
  subst hv; exact lv_ldc hx hb hown (hts _ hc) hd (k H locs ls hP hD hS hl)
theorem g_ldcw (F : Fx E κ cc own n dd) {idx : Nat} {v : Int32} {z : Int} (hc : Cond.constant own idx v ∈ TG) (hv : v = iI z) (hd : decode cc pc = .ok (.ldc_w idx, 3)) (k : G E ws lv (pc + 3) (.int (iI z) :: st)) : G E ws lv pc st := by
  obtain ⟨p, l, e, R, s, m, args, below, meth, c, κ', A, cells, slots, Q, nL⟩ := E
  obtain ⟨rfl, hx, hb, hml, rfl, hown, hts, hlk, hK, hr1, hr2, hr3, hr4⟩ := F
  intro H locs ls hP hD hS hl
  subst hv; exact lv_ldcw hx hb hown (hts _ hc) hd (k H locs ls hP hD hS hl)
theorem g_ldc2 (F : Fx E κ cc own n dd) {idx : Nat} {v : Int64} {z : Int} (hc : Cond.constantLong own idx v ∈ TG) (hv : v = iL z) (hd : decode cc pc = .ok (.ldc2_w idx, 3)) (k : G E ws lv (pc + 3) (.long (iL z) :: st)) : G E ws lv pc st := by
  obtain ⟨p, l, e, R, s, m, args, below, meth, c, κ', A, cells, slots, Q, nL⟩ := E
  obtain ⟨rfl, hx, hb, hml, rfl, hown, hts, hlk, hK, hr1, hr2, hr3, hr4⟩ := F
  intro H locs ls hP hD hS hl
  subst hv; exact lv_ldc2 hx hb hown (hts _ hc) hd (k H locs ls hP hD hS hl)
theorem g_i2l (F : Fx E κ cc own n dd) {z : Int} (hz : In32 z) (hd : decode cc pc = .ok (.i2l, 1)) (k : G E ws lv (pc + 1) (.long (iL z) :: st)) : G E ws lv pc (.int (iI z) :: st) := by
  obtain ⟨p, l, e, R, s, m, args, below, meth, c, κ', A, cells, slots, Q, nL⟩ := E
  obtain ⟨rfl, hx, hb, hml, rfl, hown, hts, hlk, hK, hr1, hr2, hr3, hr4⟩ := F
  intro H locs ls hP hD hS hl
  exact lv_i2l hx hb hd (iI_long hz) (k H locs ls hP hD hS hl)
def icmp (a b : Int) : Int := if b < a then 1 else if a = b then 0 else -1
theorem lg_cmp_iL {a b : Int} (ha : In64 a) (hb : In64 b) : lg_cmp (iL a) (iL b) = iI (icmp a b) := by
  unfold lg_cmp icmp
  by_cases h1 : b < a
  · rw [if_pos (show iL a > iL b from (iL_lt hb ha).mpr h1), if_pos h1]; decide +kernel
  · rw [if_neg (show ¬ iL a > iL b from fun q => h1 ((iL_lt hb ha).mp q)), if_neg h1]
    by_cases h2 : a = b
    · rw [if_pos ((iL_eq ha hb).mpr h2), if_pos h2]; decide +kernel
    · rw [if_neg (fun q => h2 ((iL_eq ha hb).mp q)), if_neg h2]; decide +kernel
theorem g_lcmp (F : Fx E κ cc own n dd) {a b : Int} (hz : In64 a ∧ In64 b) (hd : decode cc pc = .ok (.lcmp, 1)) (k : G E ws lv (pc + 1) (.int (iI (icmp a b)) :: st)) : G E ws lv pc (.long (iL b) :: .long (iL a) :: st) := by
  obtain ⟨p, l, e, R, s, m, args, below, meth, c, κ', A, cells, slots, Q, nL⟩ := E
  obtain ⟨rfl, hx, hb, hml, rfl, hown, hts, hlk, hK, hr1, hr2, hr3, hr4⟩ := F
  intro H locs ls hP hD hS hl
  exact W.lcmp hx hb hd (by rw [lg_cmp_iL hz.1 hz.2]; exact k H locs ls hP hD hS hl)
theorem g_get (F : Fx E κ cc own n dd) {a ci : Nat} {fs : List Value} (q0 : Nat) (he : ws[q0]? = some (a, .inr (ci, fs))) {C : String} {T : u_T} {N : Nat} (hc : vwCl[ci]? = some (C, T, N)) (hin : ∀ w ∈ u_ws C T N, w ∈ TG) (j : Nat) (hj : j < N) {idx : Nat} (hli : Cond.fieldLink own idx (T j).1 (T j).2.1 (T j).2.2.1 ∈ TG) {v : Value} (hv : fs[j]? = some v) (hd : decode cc pc = .ok (.getfield idx, 3)) (k : G E ws lv (pc + 3) (v :: st)) : G E ws lv pc (.ref a :: st) := by
  obtain ⟨p, l, e, R, s, m, args, below, meth, c, κ', A, cells, slots, Q, nL⟩ := E
  obtain ⟨rfl, hx, hb, hml, rfl, hown, hts, hlk, hK, hr1, hr2, hr3, hr4⟩ := F
  intro H locs ls hP hD hS hl
  exact va_get hx hb hts hin hown hK.1 hP q0 he hc j hj (hts _ hli) (fun _ h9 => h9) hv hd (k H locs ls hP hD hS hl)
theorem g_getN (F : Fx E κ cc own n dd) {a ci : Nat} {fs : List Value} (q0 : Nat) (he : ws[q0]? = some (a, .inr (ci, fs))) {C : String} {T : u_T} {N : Nat} (hc : vwCl[ci]? = some (C, T, N)) (hin : ∀ w ∈ u_ws C T N, w ∈ TG) (j : Nat) (hj : j < N) {idx : Nat} {host : String} (hli : Cond.fieldLinkNest own idx (T j).1 (T j).2.1 (T j).2.2.1 host ∈ NWl) {v : Value} (hv : fs[j]? = some v) (hd : decode cc pc = .ok (.getfield idx, 3)) (k : G E ws lv (pc + 3) (v :: st)) : G E ws lv pc (.ref a :: st) := by
  obtain ⟨p, l, e, R, s, m, args, below, meth, c, κ', A, cells, slots, Q, nL⟩ := E
  obtain ⟨rfl, hx, hb, hml, rfl, hown, hts, hlk, hK, hr1, hr2, hr3, hr4⟩ := F
  intro H locs ls hP hD hS hl
  exact va_getN hx hb hts hin hown hK.1 hP q0 he hc j hj (va_Nw.use rfl (hK.2.1 _ hli)) (fun _ h9 => h9) hv hd (k H locs ls hP hD hS hl)
theorem g_put (F : Fx E κ cc own n dd) {a ci : Nat} {fs : List Value} {ws' : va_W} (q0 : Nat) (he : ws[q0]? = some (a, .inr (ci, fs))) {C : String} {T : u_T} {N : Nat} (hc : vwCl[ci]? = some (C, T, N)) (hin : ∀ w ∈ u_ws C T N, w ∈ TG) (ty0 : Nat → FieldType) (hty : ∀ k, k < N → parseFieldDescriptor (T k).2.2.1 = some (ty0 k)) (hnm : ∀ a, a < N → ∀ b, b < N → a ≠ b → (T a).2.1 ≠ (T b).2.1) (j : Nat) (hj : j < N) {idx : Nat} (hli : Cond.fieldLink own idx (T j).1 (T j).2.1 (T j).2.2.1 ∈ TG) (hfin : (T j).2.2.2 = false) {v : Value} (hn : narrow (ty0 j) v = v) (hfit : fits (ty0 j) v = true) (hlen : j < fs.length) (hw : ws.set q0 (a, .inr (ci, fs.set j v)) = ws') (hd : decode cc pc = .ok (.putfield idx, 3)) (k : G E ws' lv (pc + 3) st) : G E ws lv pc (v :: .ref a :: st) := by
  obtain ⟨p, l, e, R, s, m, args, below, meth, c, κ', A, cells, slots, Q, nL⟩ := E
  obtain ⟨rfl, hx, hb, hml, rfl, hown, hts, hlk, hK, hr1, hr2, hr3, hr4⟩ := F
  intro H locs ls hP hD hS hl
  subst hw; exact va_put hx hb hts hin ty0 hty hnm hown hK.1 hP hD hS q0 he hc j hj (hts _ hli) (fun _ h9 => h9) hfin (hty j hj) hn hfit hlen hd (fun H locs hP hD hS => k H locs ls hP hD hS hl)
theorem g_putN (F : Fx E κ cc own n dd) {a ci : Nat} {fs : List Value} {ws' : va_W} (q0 : Nat) (he : ws[q0]? = some (a, .inr (ci, fs))) {C : String} {T : u_T} {N : Nat} (hc : vwCl[ci]? = some (C, T, N)) (hin : ∀ w ∈ u_ws C T N, w ∈ TG) (ty0 : Nat → FieldType) (hty : ∀ k, k < N → parseFieldDescriptor (T k).2.2.1 = some (ty0 k)) (hnm : ∀ a, a < N → ∀ b, b < N → a ≠ b → (T a).2.1 ≠ (T b).2.1) (j : Nat) (hj : j < N) {idx : Nat} {host : String} (hli : Cond.fieldLinkNest own idx (T j).1 (T j).2.1 (T j).2.2.1 host ∈ NWl) (hfin : (T j).2.2.2 = false) {v : Value} (hn : narrow (ty0 j) v = v) (hfit : fits (ty0 j) v = true) (hlen : j < fs.length) (hw : ws.set q0 (a, .inr (ci, fs.set j v)) = ws') (hd : decode cc pc = .ok (.putfield idx, 3)) (k : G E ws' lv (pc + 3) st) : G E ws lv pc (v :: .ref a :: st) := by
  obtain ⟨p, l, e, R, s, m, args, below, meth, c, κ', A, cells, slots, Q, nL⟩ := E
  obtain ⟨rfl, hx, hb, hml, rfl, hown, hts, hlk, hK, hr1, hr2, hr3, hr4⟩ := F
  intro H locs ls hP hD hS hl
  subst hw; exact va_putN hx hb hts hin ty0 hty hnm hown hK.1 hP hD hS q0 he hc j hj (va_Nw.use rfl (hK.2.1 _ hli)) (fun _ h9 => h9) hfin (hty j hj) hn hfit hlen hd (fun H locs hP hD hS => k H locs ls hP hD hS hl)
theorem g_ald (F : Fx E κ cc own n dd) {a : Nat} {N : Nat} {f : Int → Int} {z : Int} (q0 : Nat) (ha : ws[q0]? = some (a, .inl (κ.2.1, N, .inl (fun j : Nat => iI (f (j : Int)))))) (hz : 0 ≤ z ∧ z < (N : Int)) (hN : N ≤ 2147483647) (hd : decode cc pc = .ok (.iaload, 1)) (k : G E ws lv (pc + 1) (.int (iI (f z)) :: st)) : G E ws lv pc (.int (iI z) :: .ref a :: st) := by
  obtain ⟨p, l, e, R, s, m, args, below, meth, c, κ', A, cells, slots, Q, nL⟩ := E
  obtain ⟨rfl, hx, hb, hml, rfl, hown, hts, hlk, hK, hr1, hr2, hr3, hr4⟩ := F
  intro H locs ls hP hD hS hl
  exact va_iald hx hb hK.1 hP q0 0 ha rfl (iI_in hz.1 hz.2 hN) hd (by rw [iI_clamp hz.1 (by omega), Int.toNat_of_nonneg hz.1]; exact k H locs ls hP hD hS hl)
theorem g_ast (F : Fx E κ cc own n dd) {a : Nat} {N : Nat} {f : Int → Int} {z v : Int} {ws' : va_W} (q0 : Nat) (ha : ws[q0]? = some (a, .inl (κ.2.1, N, .inl (fun j : Nat => iI (f (j : Int)))))) (hz : 0 ≤ z ∧ z < (N : Int)) (hN : N ≤ 2147483647) (hw : ws.set q0 (a, .inl (κ.2.1, N, .inl (fun j : Nat => iI (uI f z v (j : Int))))) = ws') (hd : decode cc pc = .ok (.iastore, 1)) (k : G E ws' lv (pc + 1) st) : G E ws lv pc (.int (iI v) :: .int (iI z) :: .ref a :: st) := by
  obtain ⟨p, l, e, R, s, m, args, below, meth, c, κ', A, cells, slots, Q, nL⟩ := E
  obtain ⟨rfl, hx, hb, hml, rfl, hown, hts, hlk, hK, hr1, hr2, hr3, hr4⟩ := F
  intro H locs ls hP hD hS hl
  subst hw; exact va_iast hx hb hK.1 hP hD hS q0 0 ha rfl (iI_in hz.1 hz.2 hN) hd (fun H locs hP hD hS => by rw [upd_iI f v hz.1 (by omega)] at hP hD; exact k H locs ls hP hD hS hl)
theorem g_bes (F : Fx E κ cc own n dd) {idx : Nat} (hli : Cond.fieldLink own idx "PatchesSameAge" "BESIDE" "[I" ∈ TG) (hd : decode cc pc = .ok (.getstatic idx, 3)) (k : G E ws lv (pc + 3) (.ref κ.2.2.2 :: st)) : G E ws lv pc st := by
  obtain ⟨p, l, e, R, s, m, args, below, meth, c, κ', A, cells, slots, Q, nL⟩ := E
  obtain ⟨rfl, hx, hb, hml, rfl, hown, hts, hlk, hK, hr1, hr2, hr3, hr4⟩ := F
  intro H locs ls hP hD hS hl
  exact va_gets hx hb hK.2.2.1 hS hown (hts _ hli) (fun _ h9 => h9) hd (k H locs ls hP hD hS hl)
theorem g_besN (F : Fx E κ cc own n dd) {idx : Nat} {host : String} (hli : Cond.fieldLinkNest own idx "PatchesSameAge" "BESIDE" "[I" host ∈ NWl) (hd : decode cc pc = .ok (.getstatic idx, 3)) (k : G E ws lv (pc + 3) (.ref κ.2.2.2 :: st)) : G E ws lv pc st := by
  obtain ⟨p, l, e, R, s, m, args, below, meth, c, κ', A, cells, slots, Q, nL⟩ := E
  obtain ⟨rfl, hx, hb, hml, rfl, hown, hts, hlk, hK, hr1, hr2, hr3, hr4⟩ := F
  intro H locs ls hP hD hS hl
  exact va_getsN hx hb hK.2.2.1 hS hown (va_Nw.use rfl (hK.2.1 _ hli)) (fun _ h9 => h9) hd (k H locs ls hP hD hS hl)
theorem g_beld (F : Fx E κ cc own n dd) {z : Int} (hz : 0 ≤ z ∧ z < 48) (hd : decode cc pc = .ok (.iaload, 1)) (k : G E ws lv (pc + 1) (.int (iI (bes z)) :: st)) : G E ws lv pc (.int (iI z) :: .ref κ.2.2.2 :: st) := by
  obtain ⟨p, l, e, R, s, m, args, below, meth, c, κ', A, cells, slots, Q, nL⟩ := E
  obtain ⟨rfl, hx, hb, hml, rfl, hown, hts, hlk, hK, hr1, hr2, hr3, hr4⟩ := F
  intro H locs ls hP hD hS hl
  exact va_ti hx hb hK.2.2.2 hS (iI_in hz.1 hz.2 (by decide)) (v := .int (iI (bes z))) (by show Value.int (iI (bes (((iI z).toNatClampNeg : Nat) : Int))) = _; rw [iI_clamp hz.1 (by omega), Int.toNat_of_nonneg hz.1]) hd (k H locs ls hP hD hS hl)
theorem if_abs {a : Int} (h : In32 a) : (if 0 ≤ iI a then iI a else 0 - iI a) = iI ((a.natAbs : Nat) : Int) := by
  have e := iI_le (a := 0) (b := a) (by decide) h
  rw [iI_z] at e
  by_cases h1 : 0 ≤ a
  · rw [if_pos (e.mpr h1), show ((a.natAbs : Nat) : Int) = a by omega]
  · rw [if_neg (fun q => h1 (e.mp q)), show ((a.natAbs : Nat) : Int) = 0 - a by omega, ← iI_sub, iI_z]
theorem if_max {a b : Int} (ha : In32 a) (hb : In32 b) : (if iI a < iI b then iI b else iI a) = iI (max a b) := by
  by_cases h1 : a < b
  · rw [if_pos ((iI_lt ha hb).mpr h1), show max a b = b by omega]
  · rw [if_neg (fun q => h1 ((iI_lt ha hb).mp q)), show max a b = a by omega]
theorem if_min {a b : Int} (ha : In32 a) (hb : In32 b) : (if iI b < iI a then iI b else iI a) = iI (min a b) := by
  by_cases h1 : b < a
  · rw [if_pos ((iI_lt hb ha).mpr h1), show min a b = b by omega]
  · rw [if_neg (fun q => h1 ((iI_lt hb ha).mp q)), show min a b = a by omega]
theorem g_abs (F : Fx E κ cc own n dd) {a : Int} (hz : In32 a) {idx : Nat} (hli : Cond.methodLink own idx Lib.Math.abs.name ∈ TG) (hs1 : Cond.static Lib.Math.abs.name ∈ TG) (hs2 : Cond.initialized "java/lang/Math" ∈ TG) (hs3 : Cond.code Lib.Math.abs.name Lib.Math.abs.code 1 (some .int) ∈ TG) (hdd : 1 ≤ dd) (hst : (st.map fun v => v.category).sum ≤ 8) (hd : decode cc pc = .ok (.invokestatic idx, 3)) (k : G E ws lv (pc + 3) (.int (iI ((a.natAbs : Nat) : Int)) :: st)) : G E ws lv pc (.int (iI a) :: st) := by
  obtain ⟨p, l, e, R, s, m, args, below, meth, c, κ', A, cells, slots, Q, nL⟩ := E
  obtain ⟨rfl, hx, hb, hml, rfl, hown, hts, hlk, hK, hr1, hr2, hr3, hr4⟩ := F
  intro H locs ls hP hD hS hl
  exact va_mabs hx hb (hml.trans hl.1.symm) hown (hts _ hli) (hts _ hs1) (hts _ hs2) (hts _ hs3) (by omega) (by omega) hr3 hr4 hd (by rw [if_abs hz]; exact k H locs ls hP hD hS hl)
theorem g_max (F : Fx E κ cc own n dd) {a b : Int} (hz : In32 a ∧ In32 b) {idx : Nat} (hli : Cond.methodLink own idx Lib.Math.max.name ∈ TG) (hs1 : Cond.static Lib.Math.max.name ∈ TG) (hs2 : Cond.initialized "java/lang/Math" ∈ TG) (hs3 : Cond.code Lib.Math.max.name Lib.Math.max.code 2 (some .int) ∈ TG) (hdd : 1 ≤ dd) (hst : (st.map fun v => v.category).sum ≤ 8) (hd : decode cc pc = .ok (.invokestatic idx, 3)) (k : G E ws lv (pc + 3) (.int (iI (max a b)) :: st)) : G E ws lv pc (.int (iI b) :: .int (iI a) :: st) := by
  obtain ⟨p, l, e, R, s, m, args, below, meth, c, κ', A, cells, slots, Q, nL⟩ := E
  obtain ⟨rfl, hx, hb, hml, rfl, hown, hts, hlk, hK, hr1, hr2, hr3, hr4⟩ := F
  intro H locs ls hP hD hS hl
  exact va_mmax hx hb (hml.trans hl.1.symm) hown (hts _ hli) (hts _ hs1) (hts _ hs2) (hts _ hs3) (by omega) (by omega) hr3 hr4 hd (by rw [if_max hz.1 hz.2]; exact k H locs ls hP hD hS hl)
theorem g_min (F : Fx E κ cc own n dd) {a b : Int} (hz : In32 a ∧ In32 b) {idx : Nat} (hli : Cond.methodLink own idx Lib.Math.min.name ∈ TG) (hs1 : Cond.static Lib.Math.min.name ∈ TG) (hs2 : Cond.initialized "java/lang/Math" ∈ TG) (hs3 : Cond.code Lib.Math.min.name Lib.Math.min.code 2 (some .int) ∈ TG) (hdd : 1 ≤ dd) (hst : (st.map fun v => v.category).sum ≤ 8) (hd : decode cc pc = .ok (.invokestatic idx, 3)) (k : G E ws lv (pc + 3) (.int (iI (min a b)) :: st)) : G E ws lv pc (.int (iI b) :: .int (iI a) :: st) := by
  obtain ⟨p, l, e, R, s, m, args, below, meth, c, κ', A, cells, slots, Q, nL⟩ := E
  obtain ⟨rfl, hx, hb, hml, rfl, hown, hts, hlk, hK, hr1, hr2, hr3, hr4⟩ := F
  intro H locs ls hP hD hS hl
  exact va_mmin hx hb (hml.trans hl.1.symm) hown (hts _ hli) (hts _ hs1) (hts _ hs2) (hts _ hs3) (by omega) (by omega) hr3 hr4 hd (by rw [if_min hz.1 hz.2]; exact k H locs ls hP hD hS hl)
theorem arrV_congr {c : ClassId} {N : Nat} {f g : Nat → Value} (h : ∀ j, j < N → f j = g j) : arrV c N f = arrV c N g := by
  unfold arrV
  have e : (fun j : Fin N => f j.val) = fun j : Fin N => g j.val := funext fun j => h j.val j.isLt
  rw [e]
theorem at_ext {D : va_G} {cl : List vw_C} {a N : Nat} {c : ClassId} {f g : Nat → Int32} {H : Heap} (h : ∀ j, j < N → f j = g j) (k : va_at D cl (a, .inl (c, N, .inl f)) H) : va_at D cl (a, .inl (c, N, .inl g)) H := by
  show H[a]? = some (vp_cell c (N, .inl g))
  rw [vp_cell_i, ← arrV_congr (fun j hj => by rw [h j hj] : ∀ j, j < N → Value.int (f j) = Value.int (g j))]
  exact k
theorem cpy_in {f g : Int → Int} {N : Nat} (hN : N ≤ 2147483647) : ∀ j, j < N → va_cpy (fun j : Nat => iI (f (j : Int))) (fun j : Nat => iI (g (j : Int))) (iI 0).toNatClampNeg (iI 0).toNatClampNeg (iI (N : Int)).toNatClampNeg j = iI (f (j : Int)) := by
  intro j hj
  have e1 : (iI (N : Int)).toNatClampNeg = N := by rw [iI_clamp (by omega) (by omega)]; omega
  have e2 : (iI 0).toNatClampNeg = 0 := by decide +kernel
  rw [e1, e2]
  unfold va_cpy
  rw [if_pos ⟨Nat.zero_le _, by omega⟩]
  simp
theorem va_P_set_congr {D : va_G} {cl : List vw_C} {q a : Nat} {x y : va_E} {H : Heap} (h : va_at D cl (a, x) H → va_at D cl (a, y) H) (hP : va_P D cl (ws.set q (a, x)) H) : va_P D cl (ws.set q (a, y)) H := by
  intro k z hz
  by_cases hk : k = q
  · subst hk
    rw [List.getElem?_set_self' ] at hz
    cases hw : ws[k]? with
    | none => rw [hw] at hz; cases hz
    | some w =>
      rw [hw] at hz
      cases hz
      refine h (hP k (a, x) ?_)
      rw [List.getElem?_set_self', hw]
      rfl
  · rw [List.getElem?_set_ne (Ne.symm hk)] at hz
    exact hP k z (by rw [List.getElem?_set_ne (Ne.symm hk)]; exact hz)
theorem va_D_set_congr {A : Nat → Prop} {q a : Nat} {x y : va_E} (h : va_D A (ws.set q (a, x))) : va_D A (ws.set q (a, y)) := by
  refine sameA.D (ws := ws.set q (a, x)) ?_ h
  show (ws.set q (a, y)).map Prod.fst = (ws.set q (a, x)).map Prod.fst
  rw [List.map_set, List.map_set]
theorem g_weq {ws' : va_W} (h : ∀ (D : va_G) (H : Heap), va_P D vwCl ws H → va_P D vwCl ws' H) (ha : sameA ws ws') (k : G E ws' lv pc st) : G E ws lv pc st := by
  obtain ⟨p, l, e, R, s, m, args, below, meth, c, κ', A, cells, slots, Q, nL⟩ := E
  intro H locs ls hP hD hS hl
  exact k H locs ls (h _ _ hP) (ha.D hD) hS hl
theorem g_copy (F : Fx E κ cc own n dd) {a0 a1 N : Nat} {f g : Int → Int} {ws' : va_W} (q0 q1 : Nat) (h0 : ws[q0]? = some (a0, .inl (κ.2.1, N, .inl (fun j : Nat => iI (f (j : Int)))))) (h1 : ws[q1]? = some (a1, .inl (κ.2.1, N, .inl (fun j : Nat => iI (g (j : Int)))))) (hN : N ≤ 2147483647) (hw : ws.set q1 (a1, .inl (κ.2.1, N, .inl (fun j : Nat => iI (f (j : Int))))) = ws') {idx : Nat} (hli : Cond.methodLink own idx arraycopyName ∈ TG) (hs1 : Cond.native arraycopyName ∈ TG) (hs2 : Cond.static arraycopyName ∈ TG) (hs3 : Cond.initialized "java/lang/System" ∈ TG) (hdd : 1 ≤ dd) (hst : (st.map fun v => v.category).sum ≤ 8) (hd : decode cc pc = .ok (.invokestatic idx, 3)) (k : G E ws' lv (pc + 3) st) : G E ws lv pc (.int (iI (N : Int)) :: .int (iI 0) :: .ref a1 :: .int (iI 0) :: .ref a0 :: st) := by
  obtain ⟨p, l, e, R, s, m, args, below, meth, c, κ', A, cells, slots, Q, nL⟩ := E
  obtain ⟨rfl, hx, hb, hml, rfl, hown, hts, hlk, hK, hr1, hr2, hr3, hr4⟩ := F
  intro H locs ls hP hD hS hl
  subst hw
  have e0 : (iI 0).toNatClampNeg = 0 := by decide +kernel
  have e1 : (iI (N : Int)).toNatClampNeg = N := by rw [iI_clamp (by omega) (by omega)]; omega
  have ew : nativeFrameWords "java/lang/System" "arraycopy" 5 + 11 ≤ 56 := by decide +kernel
  exact va_copyi hx hb (hml.trans hl.1.symm) hown (hts _ hli) (hts _ hs1) (hts _ hs2) (hts _ hs3) hK.1 hP hD hS q0 q1 0 0 h0 h1 rfl rfl rfl (by rw [iI_z]; decide) (by rw [iI_z]; decide) (by rw [← iI_z, iI_lt (by omega) (by decide)]; omega) (by rw [e0, e1]; omega) (by rw [e0, e1]; omega) (fun _ _ => rfl) (by omega) (by omega) hd (fun H locs hP hD hS => k H locs ls (va_P_set_congr (at_ext (cpy_in hN)) hP) (va_D_set_congr hD) hS hl)
/-- what a call needs of the callee, out of the tables -/
def CalV (y : MethodName) (bytes : ByteArray) (maxL : Nat) (ret : Option FieldType) (k : Nat) : Prop := Cond.instanceMethod y ∈ TG ∧ Cond.selects y.cls y y ∈ TG ∧ Cond.initialized y.cls ∈ TG ∧ Cond.code y bytes maxL ret ∈ TG ∧ (y.cls ≠ "java/lang/invoke/MethodHandle" ∧ y.cls ≠ "java/lang/invoke/VarHandle" ∧ (parseMethodDescriptor y.desc).map (fun d => d.parameters.length) = some k) ∧ maxL ≤ 45
def CalS (y : MethodName) (bytes : ByteArray) (maxL : Nat) (ret : Option FieldType) (k : Nat) : Prop := Cond.static y ∈ TG ∧ Cond.initialized y.cls ∈ TG ∧ Cond.code y bytes maxL ret ∈ TG ∧ (y.cls ≠ "java/lang/invoke/MethodHandle" ∧ y.cls ≠ "java/lang/invoke/VarHandle" ∧ (parseMethodDescriptor y.desc).map (fun d => d.parameters.length) = some k) ∧ maxL ≤ 45
theorem KE.preS {κ : Kp} {A : Nat → Prop} {s : State} {H : Heap} {locs : List Loc} {As : List Value} (hK : KE κ A s) (hP : va_P κ.1 vwCl ws H) (hD : va_D A ws) (hS : va_S A s.heap H locs) : PreS s H (PreW κ As ws) As :=
  ⟨PreW.blind, fun U hU hW => ⟨rfl, by rw [hU]; exact hP, hD.weaken (fun _ _ _ _ => trivial), hK.at hS hD hU hW⟩⟩
theorem KE.preV {κ : Kp} {A : Nat → Prop} {s : State} {H : Heap} {locs : List Loc} {As : List Value} {b ci q0 : Nat} {fs : List Value} {q : vw_C} (hK : KE κ A s) (hP : va_P κ.1 vwCl ws H) (hD : va_D A ws) (hS : va_S A s.heap H locs) (he : ws[q0]? = some (b, .inr (ci, fs))) (hc : vwCl[ci]? = some q) : PreV s H q.1 b (PreW κ (.ref b :: As) ws) As :=
  ⟨PreW.blind, va_recv hK.1 hP hc he, fun U hU hW => ⟨rfl, by rw [hU]; exact hP, hD.weaken (fun _ _ _ _ => trivial), hK.at hS hD hU hW⟩⟩
theorem adr_in {A : Nat → Prop} (hD : va_D A ws) : ∀ q, adr ws q → A q := fun q hq => by
  obtain ⟨k, e, hk⟩ := hq
  exact hD.2 k (q, e) hk
theorem g_callI (F : Fx E κ cc own n dd) {y : MethodName} {bytes : ByteArray} {maxL d k0 b ci : Nat} {rt : FieldType} {As : List Value} {fs : List Value} {q : vw_C} {post : Int32 → va_W → Prop} {idx : Nat} {stk : List Value} (hM : mI κ y bytes maxL rt d (.ref b :: As) ws post) (hc : CalV y bytes maxL (some rt) k0) (hli : Cond.methodLink own idx y ∈ TG) (q0 : Nat) (he : ws[q0]? = some (b, .inr (ci, fs))) (hci : vwCl[ci]? = some q) (hq : q.1 = y.cls) (hn : As.length = k0) (hdd : d + 1 ≤ dd) (hsk : stk = As.reverse ++ .ref b :: st) (hst : (st.map fun v => v.category).sum ≤ 8) (hd : decode cc pc = .ok (.invokevirtual idx, 3)) (k : ∀ (r : Int32) (ws' : va_W), sameA ws ws' → post r ws' → G E ws' lv (pc + 3) (.int r :: st)) : G E ws lv pc stk := by
  obtain ⟨p, l, e, R, s, m, args, below, meth, c, κ', A, cells, slots, Q, nL⟩ := E
  obtain ⟨rfl, hx, hb, hml, rfl, hown, hts, hlk, hK, hr1, hr2, hr3, hr4⟩ := F
  intro H locs ls hP hD hS hl
  subst hsk
  refine va_calli (va_runV ⟨hx, hb, hml, hown, hts⟩ (hM l) ⟨callB_of k0 hts (tg_call hc.2.2.2.1) rfl rfl rfl (hts _ hc.2.2.1) (hts _ hli) hc.2.2.2.2.1 ⟨by show d + 1 ≤ R.frames; omega, by show 8 + (maxL + 11) + 64 * d ≤ R.locals; have := hc.2.2.2.2.2; omega⟩, hts _ hc.1, hts _ hc.2.1⟩ (hq ▸ hK.preV hP hD hS he hci) rfl hn hl.1 rfl (lv_room hst) hd ⟨by omega, by omega⟩) hS (fun q _ h => adr_in hD q h) (adr_in hD) (fun r u t H1 locs1 ht hvm hw hB hz1 hk1 hS1 => k r u hB.2 hw H1 locs1 ls (by have h9 := hB.1; rw [ht] at h9; exact h9) (hB.2.D hD) hS1 hl)
theorem g_callNI (F : Fx E κ cc own n dd) {y : MethodName} {bytes : ByteArray} {maxL d k0 b ci : Nat} {rt : FieldType} {As : List Value} {fs : List Value} {q : vw_C} {post : Int32 → va_W → Prop} {idx : Nat} {stk : List Value} (hM : mI κ y bytes maxL rt d (.ref b :: As) ws post) (hc : CalV y bytes maxL (some rt) k0) {host : String} (hli : Cond.methodLinkNest own idx y host ∈ NWl) (q0 : Nat) (he : ws[q0]? = some (b, .inr (ci, fs))) (hci : vwCl[ci]? = some q) (hq : q.1 = y.cls) (hn : As.length = k0) (hdd : d + 1 ≤ dd) (hsk : stk = As.reverse ++ .ref b :: st) (hst : (st.map fun v => v.category).sum ≤ 8) (hd : decode cc pc = .ok (.invokevirtual idx, 3)) (k : ∀ (r : Int32) (ws' : va_W), sameA ws ws' → post r ws' → G E ws' lv (pc + 3) (.int r :: st)) : G E ws lv pc stk := by
  obtain ⟨p, l, e, R, s, m, args, below, meth, c, κ', A, cells, slots, Q, nL⟩ := E
  obtain ⟨rfl, hx, hb, hml, rfl, hown, hts, hlk, hK, hr1, hr2, hr3, hr4⟩ := F
  intro H locs ls hP hD hS hl
  subst hsk
  refine va_calli (va_runVN ⟨hx, hb, hml, hown, hts⟩ (hM l) ⟨va_cnB k0 hts (tg_call hc.2.2.2.1) rfl rfl rfl (hK.2.1 _ hli) (hts _ hc.2.2.1) hc.2.2.2.2.1 ⟨by show d + 1 ≤ R.frames; omega, by show 8 + (maxL + 11) + 64 * d ≤ R.locals; have := hc.2.2.2.2.2; omega⟩, hts _ hc.1, hts _ hc.2.1⟩ (hq ▸ hK.preV hP hD hS he hci) rfl hn hl.1 rfl (lv_room hst) hd ⟨by omega, by omega⟩) hS (fun q _ h => adr_in hD q h) (adr_in hD) (fun r u t H1 locs1 ht hvm hw hB hz1 hk1 hS1 => k r u hB.2 hw H1 locs1 ls (by have h9 := hB.1; rw [ht] at h9; exact h9) (hB.2.D hD) hS1 hl)
theorem g_callL (F : Fx E κ cc own n dd) {y : MethodName} {bytes : ByteArray} {maxL d k0 b ci : Nat} {As : List Value} {fs : List Value} {q : vw_C} {post : Int64 → va_W → Prop} {idx : Nat} {stk : List Value} (hM : mL κ y bytes maxL d (.ref b :: As) ws post) (hc : CalV y bytes maxL (some .long) k0) (hli : Cond.methodLink own idx y ∈ TG) (q0 : Nat) (he : ws[q0]? = some (b, .inr (ci, fs))) (hci : vwCl[ci]? = some q) (hq : q.1 = y.cls) (hn : As.length = k0) (hdd : d + 1 ≤ dd) (hsk : stk = As.reverse ++ .ref b :: st) (hst : (st.map fun v => v.category).sum ≤ 8) (hd : decode cc pc = .ok (.invokevirtual idx, 3)) (k : ∀ (r : Int64) (ws' : va_W), sameA ws ws' → post r ws' → G E ws' lv (pc + 3) (.long r :: st)) : G E ws lv pc stk := by
  obtain ⟨p, l, e, R, s, m, args, below, meth, c, κ', A, cells, slots, Q, nL⟩ := E
  obtain ⟨rfl, hx, hb, hml, rfl, hown, hts, hlk, hK, hr1, hr2, hr3, hr4⟩ := F
  intro H locs ls hP hD hS hl
  subst hsk
  refine va_calll (va_runV ⟨hx, hb, hml, hown, hts⟩ (hM l) ⟨callB_of k0 hts (tg_call hc.2.2.2.1) rfl rfl rfl (hts _ hc.2.2.1) (hts _ hli) hc.2.2.2.2.1 ⟨by show d + 1 ≤ R.frames; omega, by show 8 + (maxL + 11) + 64 * d ≤ R.locals; have := hc.2.2.2.2.2; omega⟩, hts _ hc.1, hts _ hc.2.1⟩ (hq ▸ hK.preV hP hD hS he hci) rfl hn hl.1 rfl (lv_room hst) hd ⟨by omega, by omega⟩) hS (fun q _ h => adr_in hD q h) (adr_in hD) (fun r u t H1 locs1 ht hvm hw hB hz1 hk1 hS1 => k r u hB.2 hw H1 locs1 ls (by have h9 := hB.1; rw [ht] at h9; exact h9) (hB.2.D hD) hS1 hl)
theorem g_callNL (F : Fx E κ cc own n dd) {y : MethodName} {bytes : ByteArray} {maxL d k0 b ci : Nat} {As : List Value} {fs : List Value} {q : vw_C} {post : Int64 → va_W → Prop} {idx : Nat} {stk : List Value} (hM : mL κ y bytes maxL d (.ref b :: As) ws post) (hc : CalV y bytes maxL (some .long) k0) {host : String} (hli : Cond.methodLinkNest own idx y host ∈ NWl) (q0 : Nat) (he : ws[q0]? = some (b, .inr (ci, fs))) (hci : vwCl[ci]? = some q) (hq : q.1 = y.cls) (hn : As.length = k0) (hdd : d + 1 ≤ dd) (hsk : stk = As.reverse ++ .ref b :: st) (hst : (st.map fun v => v.category).sum ≤ 8) (hd : decode cc pc = .ok (.invokevirtual idx, 3)) (k : ∀ (r : Int64) (ws' : va_W), sameA ws ws' → post r ws' → G E ws' lv (pc + 3) (.long r :: st)) : G E ws lv pc stk := by
  obtain ⟨p, l, e, R, s, m, args, below, meth, c, κ', A, cells, slots, Q, nL⟩ := E
  obtain ⟨rfl, hx, hb, hml, rfl, hown, hts, hlk, hK, hr1, hr2, hr3, hr4⟩ := F
  intro H locs ls hP hD hS hl
  subst hsk
  refine va_calll (va_runVN ⟨hx, hb, hml, hown, hts⟩ (hM l) ⟨va_cnB k0 hts (tg_call hc.2.2.2.1) rfl rfl rfl (hK.2.1 _ hli) (hts _ hc.2.2.1) hc.2.2.2.2.1 ⟨by show d + 1 ≤ R.frames; omega, by show 8 + (maxL + 11) + 64 * d ≤ R.locals; have := hc.2.2.2.2.2; omega⟩, hts _ hc.1, hts _ hc.2.1⟩ (hq ▸ hK.preV hP hD hS he hci) rfl hn hl.1 rfl (lv_room hst) hd ⟨by omega, by omega⟩) hS (fun q _ h => adr_in hD q h) (adr_in hD) (fun r u t H1 locs1 ht hvm hw hB hz1 hk1 hS1 => k r u hB.2 hw H1 locs1 ls (by have h9 := hB.1; rw [ht] at h9; exact h9) (hB.2.D hD) hS1 hl)
theorem g_callV (F : Fx E κ cc own n dd) {y : MethodName} {bytes : ByteArray} {maxL d k0 b ci : Nat} {As : List Value} {fs : List Value} {q : vw_C} {post : va_W → Prop} {idx : Nat} {stk : List Value} (hM : mV κ y bytes maxL d (.ref b :: As) ws post) (hc : CalV y bytes maxL none k0) (hli : Cond.methodLink own idx y ∈ TG) (q0 : Nat) (he : ws[q0]? = some (b, .inr (ci, fs))) (hci : vwCl[ci]? = some q) (hq : q.1 = y.cls) (hn : As.length = k0) (hdd : d + 1 ≤ dd) (hsk : stk = As.reverse ++ .ref b :: st) (hst : (st.map fun v => v.category).sum ≤ 8) (hd : decode cc pc = .ok (.invokevirtual idx, 3)) (k : ∀ (ws' : va_W), sameA ws ws' → post ws' → G E ws' lv (pc + 3) st) : G E ws lv pc stk := by
  obtain ⟨p, l, e, R, s, m, args, below, meth, c, κ', A, cells, slots, Q, nL⟩ := E
  obtain ⟨rfl, hx, hb, hml, rfl, hown, hts, hlk, hK, hr1, hr2, hr3, hr4⟩ := F
  intro H locs ls hP hD hS hl
  subst hsk
  refine va_callv (va_runV ⟨hx, hb, hml, hown, hts⟩ (hM l) ⟨callB_of k0 hts (tg_call hc.2.2.2.1) rfl rfl rfl (hts _ hc.2.2.1) (hts _ hli) hc.2.2.2.2.1 ⟨by show d + 1 ≤ R.frames; omega, by show 8 + (maxL + 11) + 64 * d ≤ R.locals; have := hc.2.2.2.2.2; omega⟩, hts _ hc.1, hts _ hc.2.1⟩ (hq ▸ hK.preV hP hD hS he hci) rfl hn hl.1 rfl (lv_room hst) hd ⟨by omega, by omega⟩) hS (fun q _ h => adr_in hD q h) (adr_in hD) (fun u t H1 locs1 ht hvm hw hB hz1 hk1 hS1 => k u hB.2 hw H1 locs1 ls (by have h9 := hB.1; rw [ht] at h9; exact h9) (hB.2.D hD) hS1 hl)
theorem g_callNV (F : Fx E κ cc own n dd) {y : MethodName} {bytes : ByteArray} {maxL d k0 b ci : Nat} {As : List Value} {fs : List Value} {q : vw_C} {post : va_W → Prop} {idx : Nat} {stk : List Value} (hM : mV κ y bytes maxL d (.ref b :: As) ws post) (hc : CalV y bytes maxL none k0) {host : String} (hli : Cond.methodLinkNest own idx y host ∈ NWl) (q0 : Nat) (he : ws[q0]? = some (b, .inr (ci, fs))) (hci : vwCl[ci]? = some q) (hq : q.1 = y.cls) (hn : As.length = k0) (hdd : d + 1 ≤ dd) (hsk : stk = As.reverse ++ .ref b :: st) (hst : (st.map fun v => v.category).sum ≤ 8) (hd : decode cc pc = .ok (.invokevirtual idx, 3)) (k : ∀ (ws' : va_W), sameA ws ws' → post ws' → G E ws' lv (pc + 3) st) : G E ws lv pc stk := by
  obtain ⟨p, l, e, R, s, m, args, below, meth, c, κ', A, cells, slots, Q, nL⟩ := E
  obtain ⟨rfl, hx, hb, hml, rfl, hown, hts, hlk, hK, hr1, hr2, hr3, hr4⟩ := F
  intro H locs ls hP hD hS hl
  subst hsk
  refine va_callv (va_runVN ⟨hx, hb, hml, hown, hts⟩ (hM l) ⟨va_cnB k0 hts (tg_call hc.2.2.2.1) rfl rfl rfl (hK.2.1 _ hli) (hts _ hc.2.2.1) hc.2.2.2.2.1 ⟨by show d + 1 ≤ R.frames; omega, by show 8 + (maxL + 11) + 64 * d ≤ R.locals; have := hc.2.2.2.2.2; omega⟩, hts _ hc.1, hts _ hc.2.1⟩ (hq ▸ hK.preV hP hD hS he hci) rfl hn hl.1 rfl (lv_room hst) hd ⟨by omega, by omega⟩) hS (fun q _ h => adr_in hD q h) (adr_in hD) (fun u t H1 locs1 ht hvm hw hB hz1 hk1 hS1 => k u hB.2 hw H1 locs1 ls (by have h9 := hB.1; rw [ht] at h9; exact h9) (hB.2.D hD) hS1 hl)
theorem g_callSI (F : Fx E κ cc own n dd) {y : MethodName} {bytes : ByteArray} {maxL d k0 : Nat} {rt : FieldType} {As : List Value} {post : Int32 → va_W → Prop} {idx : Nat} {stk : List Value} (hM : mI κ y bytes maxL rt d As ws post) (hc : CalS y bytes maxL (some rt) k0) (hli : Cond.methodLink own idx y ∈ TG) (hn : As.length = k0) (hdd : d + 1 ≤ dd) (hsk : stk = As.reverse ++ st) (hst : (st.map fun v => v.category).sum ≤ 8) (hd : decode cc pc = .ok (.invokestatic idx, 3)) (k : ∀ (r : Int32) (ws' : va_W), sameA ws ws' → post r ws' → G E ws' lv (pc + 3) (.int r :: st)) : G E ws lv pc stk := by
  obtain ⟨p, l, e, R, s, m, args, below, meth, c, κ', A, cells, slots, Q, nL⟩ := E
  obtain ⟨rfl, hx, hb, hml, rfl, hown, hts, hlk, hK, hr1, hr2, hr3, hr4⟩ := F
  intro H locs ls hP hD hS hl
  subst hsk
  refine va_calli (va_runS ⟨hx, hb, hml, hown, hts⟩ (hM l) ⟨callB_of k0 hts (tg_call hc.2.2.1) rfl rfl rfl (hts _ hc.2.1) (hts _ hli) hc.2.2.2.1 ⟨by show d + 1 ≤ R.frames; omega, by show 8 + (maxL + 11) + 64 * d ≤ R.locals; have := hc.2.2.2.2; omega⟩, hts _ hc.1⟩ (hK.preS hP hD hS) rfl hn hl.1 rfl (lv_room hst) hd ⟨by omega, by omega⟩) hS (fun q _ h => adr_in hD q h) (adr_in hD) (fun r u t H1 locs1 ht hvm hw hB hz1 hk1 hS1 => k r u hB.2 hw H1 locs1 ls (by have h9 := hB.1; rw [ht] at h9; exact h9) (hB.2.D hD) hS1 hl)
theorem g_callSL (F : Fx E κ cc own n dd) {y : MethodName} {bytes : ByteArray} {maxL d k0 : Nat} {As : List Value} {post : Int64 → va_W → Prop} {idx : Nat} {stk : List Value} (hM : mL κ y bytes maxL d As ws post) (hc : CalS y bytes maxL (some .long) k0) (hli : Cond.methodLink own idx y ∈ TG) (hn : As.length = k0) (hdd : d + 1 ≤ dd) (hsk : stk = As.reverse ++ st) (hst : (st.map fun v => v.category).sum ≤ 8) (hd : decode cc pc = .ok (.invokestatic idx, 3)) (k : ∀ (r : Int64) (ws' : va_W), sameA ws ws' → post r ws' → G E ws' lv (pc + 3) (.long r :: st)) : G E ws lv pc stk := by
  obtain ⟨p, l, e, R, s, m, args, below, meth, c, κ', A, cells, slots, Q, nL⟩ := E
  obtain ⟨rfl, hx, hb, hml, rfl, hown, hts, hlk, hK, hr1, hr2, hr3, hr4⟩ := F
  intro H locs ls hP hD hS hl
  subst hsk
  refine va_calll (va_runS ⟨hx, hb, hml, hown, hts⟩ (hM l) ⟨callB_of k0 hts (tg_call hc.2.2.1) rfl rfl rfl (hts _ hc.2.1) (hts _ hli) hc.2.2.2.1 ⟨by show d + 1 ≤ R.frames; omega, by show 8 + (maxL + 11) + 64 * d ≤ R.locals; have := hc.2.2.2.2; omega⟩, hts _ hc.1⟩ (hK.preS hP hD hS) rfl hn hl.1 rfl (lv_room hst) hd ⟨by omega, by omega⟩) hS (fun q _ h => adr_in hD q h) (adr_in hD) (fun r u t H1 locs1 ht hvm hw hB hz1 hk1 hS1 => k r u hB.2 hw H1 locs1 ls (by have h9 := hB.1; rw [ht] at h9; exact h9) (hB.2.D hD) hS1 hl)
theorem g_callSV (F : Fx E κ cc own n dd) {y : MethodName} {bytes : ByteArray} {maxL d k0 : Nat} {As : List Value} {post : va_W → Prop} {idx : Nat} {stk : List Value} (hM : mV κ y bytes maxL d As ws post) (hc : CalS y bytes maxL none k0) (hli : Cond.methodLink own idx y ∈ TG) (hn : As.length = k0) (hdd : d + 1 ≤ dd) (hsk : stk = As.reverse ++ st) (hst : (st.map fun v => v.category).sum ≤ 8) (hd : decode cc pc = .ok (.invokestatic idx, 3)) (k : ∀ (ws' : va_W), sameA ws ws' → post ws' → G E ws' lv (pc + 3) st) : G E ws lv pc stk := by
  obtain ⟨p, l, e, R, s, m, args, below, meth, c, κ', A, cells, slots, Q, nL⟩ := E
  obtain ⟨rfl, hx, hb, hml, rfl, hown, hts, hlk, hK, hr1, hr2, hr3, hr4⟩ := F
  intro H locs ls hP hD hS hl
  subst hsk
  refine va_callv (va_runS ⟨hx, hb, hml, hown, hts⟩ (hM l) ⟨callB_of k0 hts (tg_call hc.2.2.1) rfl rfl rfl (hts _ hc.2.1) (hts _ hli) hc.2.2.2.1 ⟨by show d + 1 ≤ R.frames; omega, by show 8 + (maxL + 11) + 64 * d ≤ R.locals; have := hc.2.2.2.2; omega⟩, hts _ hc.1⟩ (hK.preS hP hD hS) rfl hn hl.1 rfl (lv_room hst) hd ⟨by omega, by omega⟩) hS (fun q _ h => adr_in hD q h) (adr_in hD) (fun u t H1 locs1 ht hvm hw hB hz1 hk1 hS1 => k u hB.2 hw H1 locs1 ls (by have h9 := hB.1; rw [ht] at h9; exact h9) (hB.2.D hD) hS1 hl)
end
end
section
/-! WORDS: where each stands among the tables' -/
def atT (i : Nat) (w : Cond) : Prop := lw_tbl[i]? = some w
theorem atT.tg {i : Nat} {w : Cond} (h : atT i w) (g : goodWord w = true) : w ∈ TG := tg_in (List.mem_of_getElem? h) g
theorem in1 {i : Nat} {w : Cond} (h : tables_1_1[i]? = some w) (g : goodWord w = true) : w ∈ TG := tg_in (List.mem_append_right _ (List.mem_append_left _ (List.mem_of_getElem? h))) g
theorem in2 {i : Nat} {w : Cond} (h : tables_1_2[i]? = some w) (g : goodWord w = true) : w ∈ TG := tg_in (List.mem_append_right _ (List.mem_append_right _ (List.mem_append_left _ (List.mem_of_getElem? h)))) g
theorem in3 {i : Nat} {w : Cond} (h : tables_1_3[i]? = some w) (g : goodWord w = true) : w ∈ TG := tg_in (List.mem_append_right _ (List.mem_append_right _ (List.mem_append_right _ (List.mem_append_left _ (List.mem_of_getElem? h))))) g
theorem in4 {i : Nat} {w : Cond} (h : tables_1_4[i]? = some w) (g : goodWord w = true) : w ∈ TG := tg_in (List.mem_append_right _ (List.mem_append_right _ (List.mem_append_right _ (List.mem_append_right _ (List.mem_append_left _ (List.mem_of_getElem? h)))))) g
theorem in5 {i : Nat} {w : Cond} (h : tables_1_5[i]? = some w) (g : goodWord w = true) : w ∈ TG := tg_in (List.mem_append_right _ (List.mem_append_right _ (List.mem_append_right _ (List.mem_append_right _ (List.mem_append_right _ (List.mem_append_left _ (List.mem_of_getElem? h))))))) g
theorem in6 {i : Nat} {w : Cond} (h : tables_1_6[i]? = some w) (g : goodWord w = true) : w ∈ TG := tg_in (List.mem_append_right _ (List.mem_append_right _ (List.mem_append_right _ (List.mem_append_right _ (List.mem_append_right _ (List.mem_append_right _ (List.mem_of_getElem? h))))))) g
theorem inP {i : Nat} {w : Cond} (h : (k2_sels lw_privs)[i]? = some w) (g : goodWord w = true) : w ∈ TG := tg_in (List.mem_append_left _ (List.mem_of_getElem? h)) g
set_option maxRecDepth 100000 in
theorem lcl_L_7 : Cond.classLink "PatchesSameAgeLaw" 7 RX5 ∈ TG := in1 (i := 11) rfl rfl
set_option maxRecDepth 100000 in
theorem lm_L_9 : Cond.methodLink "PatchesSameAgeLaw" 9 yX5_init ∈ TG := in1 (i := 13) rfl rfl
set_option maxRecDepth 100000 in
theorem lm_X5_1 : Cond.methodLink RX5 1 objectInit ∈ TG := in1 (i := 16) rfl rfl
set_option maxRecDepth 100000 in
theorem lcl_X5_7 : Cond.classLink RX5 7 RX0 ∈ TG := in1 (i := 19) rfl rfl
set_option maxRecDepth 100000 in
theorem nm_X5_9 : Cond.methodLinkNest RX5 9 yX0_init "PatchesSameAge" ∈ NWl := List.mem_of_getElem? (i := 0) rfl
set_option maxRecDepth 100000 in
theorem lm_X0_3 : Cond.methodLink RX0 3 objectInit ∈ TG := in1 (i := 24) rfl rfl
set_option maxRecDepth 100000 in
theorem lf_X0_9 : Cond.fieldLink RX0 9 "PatchesSameAge$Cloth" "kind" "[I" ∈ TG := in1 (i := 25) rfl rfl
set_option maxRecDepth 100000 in
theorem nf_X5_169 : Cond.fieldLinkNest RX5 169 "PatchesSameAge$Cloth" "kind" "[I" "PatchesSameAge" ∈ NWl := List.mem_of_getElem? (i := 1) rfl
set_option maxRecDepth 100000 in
theorem lf_X0_15 : Cond.fieldLink RX0 15 "PatchesSameAge$Cloth" "figure" "[I" ∈ TG := in1 (i := 27) rfl rfl
set_option maxRecDepth 100000 in
theorem nf_X5_172 : Cond.fieldLinkNest RX5 172 "PatchesSameAge$Cloth" "figure" "[I" "PatchesSameAge" ∈ NWl := List.mem_of_getElem? (i := 2) rfl
set_option maxRecDepth 100000 in
theorem lf_X0_18 : Cond.fieldLink RX0 18 "PatchesSameAge$Cloth" "age" "[I" ∈ TG := in1 (i := 29) rfl rfl
set_option maxRecDepth 100000 in
theorem nf_X5_175 : Cond.fieldLinkNest RX5 175 "PatchesSameAge$Cloth" "age" "[I" "PatchesSameAge" ∈ NWl := List.mem_of_getElem? (i := 3) rfl
set_option maxRecDepth 100000 in
theorem lf_X0_21 : Cond.fieldLink RX0 21 "PatchesSameAge$Cloth" "wear" "[I" ∈ TG := in1 (i := 31) rfl rfl
set_option maxRecDepth 100000 in
theorem nf_X5_160 : Cond.fieldLinkNest RX5 160 "PatchesSameAge$Cloth" "wear" "[I" "PatchesSameAge" ∈ NWl := List.mem_of_getElem? (i := 4) rfl
set_option maxRecDepth 100000 in
theorem lf_X0_30 : Cond.fieldLink RX0 30 "PatchesSameAge$Cloth" "year" "I" ∈ TG := in1 (i := 33) rfl rfl
set_option maxRecDepth 100000 in
theorem nf_X5_163 : Cond.fieldLinkNest RX5 163 "PatchesSameAge$Cloth" "year" "I" "PatchesSameAge" ∈ NWl := List.mem_of_getElem? (i := 5) rfl
set_option maxRecDepth 100000 in
theorem lcl_X5_16 : Cond.classLink RX5 16 RX2 ∈ TG := in1 (i := 47) rfl rfl
set_option maxRecDepth 100000 in
theorem nm_X5_18 : Cond.methodLinkNest RX5 18 yX2_init "PatchesSameAge" ∈ NWl := List.mem_of_getElem? (i := 6) rfl
set_option maxRecDepth 100000 in
theorem lm_X2_3 : Cond.methodLink RX2 3 objectInit ∈ TG := in1 (i := 52) rfl rfl
set_option maxRecDepth 100000 in
theorem lf_X2_9 : Cond.fieldLink RX2 9 "PatchesSameAge$Roll" "kind" "[I" ∈ TG := in1 (i := 53) rfl rfl
set_option maxRecDepth 100000 in
theorem nf_X0_34 : Cond.fieldLinkNest RX0 34 "PatchesSameAge$Roll" "kind" "[I" "PatchesSameAge" ∈ NWl := List.mem_of_getElem? (i := 7) rfl
set_option maxRecDepth 100000 in
theorem nf_X5_193 : Cond.fieldLinkNest RX5 193 "PatchesSameAge$Roll" "kind" "[I" "PatchesSameAge" ∈ NWl := List.mem_of_getElem? (i := 8) rfl
set_option maxRecDepth 100000 in
theorem lf_X2_15 : Cond.fieldLink RX2 15 "PatchesSameAge$Roll" "figure" "[I" ∈ TG := in1 (i := 56) rfl rfl
set_option maxRecDepth 100000 in
theorem nf_X0_37 : Cond.fieldLinkNest RX0 37 "PatchesSameAge$Roll" "figure" "[I" "PatchesSameAge" ∈ NWl := List.mem_of_getElem? (i := 9) rfl
set_option maxRecDepth 100000 in
theorem nf_X5_194 : Cond.fieldLinkNest RX5 194 "PatchesSameAge$Roll" "figure" "[I" "PatchesSameAge" ∈ NWl := List.mem_of_getElem? (i := 10) rfl
set_option maxRecDepth 100000 in
theorem lf_X2_18 : Cond.fieldLink RX2 18 "PatchesSameAge$Roll" "age" "[I" ∈ TG := in1 (i := 59) rfl rfl
set_option maxRecDepth 100000 in
theorem nf_X0_38 : Cond.fieldLinkNest RX0 38 "PatchesSameAge$Roll" "age" "[I" "PatchesSameAge" ∈ NWl := List.mem_of_getElem? (i := 11) rfl
set_option maxRecDepth 100000 in
theorem nf_X5_195 : Cond.fieldLinkNest RX5 195 "PatchesSameAge$Roll" "age" "[I" "PatchesSameAge" ∈ NWl := List.mem_of_getElem? (i := 12) rfl
set_option maxRecDepth 100000 in
theorem nf_X4_25 : Cond.fieldLinkNest RX4 25 "PatchesSameAge$Roll" "size" "I" "PatchesSameAge" ∈ NWl := List.mem_of_getElem? (i := 13) rfl
set_option maxRecDepth 100000 in
theorem lf_X2_27 : Cond.fieldLink RX2 27 "PatchesSameAge$Roll" "size" "I" ∈ TG := in1 (i := 63) rfl rfl
set_option maxRecDepth 100000 in
theorem nf_X5_144 : Cond.fieldLinkNest RX5 144 "PatchesSameAge$Roll" "size" "I" "PatchesSameAge" ∈ NWl := List.mem_of_getElem? (i := 14) rfl
set_option maxRecDepth 100000 in
theorem nf_X1_30 : Cond.fieldLinkNest RX1 30 "PatchesSameAge$Roll" "used" "I" "PatchesSameAge" ∈ NWl := List.mem_of_getElem? (i := 15) rfl
set_option maxRecDepth 100000 in
theorem lf_X2_31 : Cond.fieldLink RX2 31 "PatchesSameAge$Roll" "used" "I" ∈ TG := in1 (i := 66) rfl rfl
set_option maxRecDepth 100000 in
theorem lcl_X5_23 : Cond.classLink RX5 23 RX1 ∈ TG := in1 (i := 78) rfl rfl
set_option maxRecDepth 100000 in
theorem nm_X5_25 : Cond.methodLinkNest RX5 25 yX1_init "PatchesSameAge" ∈ NWl := List.mem_of_getElem? (i := 16) rfl
set_option maxRecDepth 100000 in
theorem lm_X1_3 : Cond.methodLink RX1 3 objectInit ∈ TG := in1 (i := 83) rfl rfl
set_option maxRecDepth 100000 in
theorem lcl_X1_9 : Cond.classLink RX1 9 RX0 ∈ TG := in1 (i := 84) rfl rfl
set_option maxRecDepth 100000 in
theorem nm_X1_21 : Cond.methodLinkNest RX1 21 yX0_init "PatchesSameAge" ∈ NWl := List.mem_of_getElem? (i := 17) rfl
set_option maxRecDepth 100000 in
theorem lf_X1_11 : Cond.fieldLink RX1 11 "PatchesSameAge$Past" "cloth" "[LPatchesSameAge$Cloth;" ∈ TG := in1 (i := 87) rfl rfl
set_option maxRecDepth 100000 in
theorem lf_X1_17 : Cond.fieldLink RX1 17 "PatchesSameAge$Past" "used" "[I" ∈ TG := in1 (i := 88) rfl rfl
set_option maxRecDepth 100000 in
theorem lf_X1_22 : Cond.fieldLink RX1 22 "PatchesSameAge$Past" "next" "I" ∈ TG := in1 (i := 89) rfl rfl
set_option maxRecDepth 100000 in
theorem lf_X1_34 : Cond.fieldLink RX1 34 "PatchesSameAge$Past" "size" "I" ∈ TG := in1 (i := 90) rfl rfl
set_option maxRecDepth 100000 in
theorem nf_X5_211 : Cond.fieldLinkNest RX5 211 "PatchesSameAge$Past" "size" "I" "PatchesSameAge" ∈ NWl := List.mem_of_getElem? (i := 18) rfl
set_option maxRecDepth 100000 in
theorem lcl_X5_30 : Cond.classLink RX5 30 RX3 ∈ TG := in1 (i := 101) rfl rfl
set_option maxRecDepth 100000 in
theorem nm_X5_32 : Cond.methodLinkNest RX5 32 yX3_init "PatchesSameAge" ∈ NWl := List.mem_of_getElem? (i := 19) rfl
set_option maxRecDepth 100000 in
theorem lm_X3_3 : Cond.methodLink RX3 3 objectInit ∈ TG := in1 (i := 106) rfl rfl
set_option maxRecDepth 100000 in
theorem lf_X3_9 : Cond.fieldLink RX3 9 "PatchesSameAge$Text" "letter" "[I" ∈ TG := in1 (i := 107) rfl rfl
set_option maxRecDepth 100000 in
theorem lf_X3_15 : Cond.fieldLink RX3 15 "PatchesSameAge$Text" "length" "I" ∈ TG := in1 (i := 108) rfl rfl
set_option maxRecDepth 100000 in
theorem nf_X5_73 : Cond.fieldLinkNest RX5 73 "PatchesSameAge$Text" "length" "I" "PatchesSameAge" ∈ NWl := List.mem_of_getElem? (i := 20) rfl
set_option maxRecDepth 100000 in
theorem lcl_X5_59 : Cond.classLink RX5 59 RX4 ∈ TG := in1 (i := 115) rfl rfl
set_option maxRecDepth 100000 in
theorem nm_X5_61 : Cond.methodLinkNest RX5 61 yX4_init "PatchesSameAge" ∈ NWl := List.mem_of_getElem? (i := 21) rfl
set_option maxRecDepth 100000 in
theorem lm_X4_3 : Cond.methodLink RX4 3 objectInit ∈ TG := in1 (i := 120) rfl rfl
set_option maxRecDepth 100000 in
theorem lf_X4_9 : Cond.fieldLink RX4 9 "PatchesSameAge$Ways" "piece" "[I" ∈ TG := in1 (i := 121) rfl rfl
set_option maxRecDepth 100000 in
theorem nf_X5_267 : Cond.fieldLinkNest RX5 267 "PatchesSameAge$Ways" "piece" "[I" "PatchesSameAge" ∈ NWl := List.mem_of_getElem? (i := 22) rfl
set_option maxRecDepth 100000 in
theorem lf_X4_15 : Cond.fieldLink RX4 15 "PatchesSameAge$Ways" "at" "[I" ∈ TG := in1 (i := 123) rfl rfl
set_option maxRecDepth 100000 in
theorem nf_X5_260 : Cond.fieldLinkNest RX5 260 "PatchesSameAge$Ways" "at" "[I" "PatchesSameAge" ∈ NWl := List.mem_of_getElem? (i := 23) rfl
set_option maxRecDepth 100000 in
theorem lf_X4_18 : Cond.fieldLink RX4 18 "PatchesSameAge$Ways" "pull" "[I" ∈ TG := in1 (i := 125) rfl rfl
set_option maxRecDepth 100000 in
theorem nf_X5_248 : Cond.fieldLinkNest RX5 248 "PatchesSameAge$Ways" "pull" "[I" "PatchesSameAge" ∈ NWl := List.mem_of_getElem? (i := 24) rfl
set_option maxRecDepth 100000 in
theorem lf_X4_21 : Cond.fieldLink RX4 21 "PatchesSameAge$Ways" "size" "I" ∈ TG := in1 (i := 127) rfl rfl
set_option maxRecDepth 100000 in
theorem nf_X5_259 : Cond.fieldLinkNest RX5 259 "PatchesSameAge$Ways" "size" "I" "PatchesSameAge" ∈ NWl := List.mem_of_getElem? (i := 25) rfl
set_option maxRecDepth 100000 in
theorem lf_X5_10 : Cond.fieldLink RX5 10 "PatchesSameAge" "now" "LPatchesSameAge$Cloth;" ∈ TG := in1 (i := 138) rfl rfl
set_option maxRecDepth 100000 in
theorem lf_X5_19 : Cond.fieldLink RX5 19 "PatchesSameAge" "roll" "LPatchesSameAge$Roll;" ∈ TG := in1 (i := 139) rfl rfl
set_option maxRecDepth 100000 in
theorem lf_X5_26 : Cond.fieldLink RX5 26 "PatchesSameAge" "past" "LPatchesSameAge$Past;" ∈ TG := in1 (i := 140) rfl rfl
set_option maxRecDepth 100000 in
theorem lf_X5_33 : Cond.fieldLink RX5 33 "PatchesSameAge" "text" "LPatchesSameAge$Text;" ∈ TG := in1 (i := 141) rfl rfl
set_option maxRecDepth 100000 in
theorem lf_X5_37 : Cond.fieldLink RX5 37 "PatchesSameAge" "numbers" "[I" ∈ TG := in1 (i := 142) rfl rfl
set_option maxRecDepth 100000 in
theorem lf_X5_281 : Cond.fieldLink RX5 281 "PatchesSameAge" "numberCount" "I" ∈ TG := in1 (i := 143) rfl rfl
set_option maxRecDepth 100000 in
theorem lf_X5_41 : Cond.fieldLink RX5 41 "PatchesSameAge" "refused" "[I" ∈ TG := in1 (i := 144) rfl rfl
set_option maxRecDepth 100000 in
theorem lf_X5_44 : Cond.fieldLink RX5 44 "PatchesSameAge" "imageCloth" "LPatchesSameAge$Cloth;" ∈ TG := in1 (i := 145) rfl rfl
set_option maxRecDepth 100000 in
theorem lf_X5_47 : Cond.fieldLink RX5 47 "PatchesSameAge" "imageRoll" "LPatchesSameAge$Roll;" ∈ TG := in1 (i := 146) rfl rfl
set_option maxRecDepth 100000 in
theorem lf_X5_336 : Cond.fieldLink RX5 336 "PatchesSameAge" "imageTaken" "Z" ∈ TG := in1 (i := 147) rfl rfl
set_option maxRecDepth 100000 in
theorem lf_X5_50 : Cond.fieldLink RX5 50 "PatchesSameAge" "mind" "LPatchesSameAge$Cloth;" ∈ TG := in1 (i := 148) rfl rfl
set_option maxRecDepth 100000 in
theorem lf_X5_53 : Cond.fieldLink RX5 53 "PatchesSameAge" "later" "LPatchesSameAge$Cloth;" ∈ TG := in1 (i := 149) rfl rfl
set_option maxRecDepth 100000 in
theorem lf_X5_56 : Cond.fieldLink RX5 56 "PatchesSameAge" "mindRoll" "LPatchesSameAge$Roll;" ∈ TG := in1 (i := 150) rfl rfl
set_option maxRecDepth 100000 in
theorem lf_X5_62 : Cond.fieldLink RX5 62 "PatchesSameAge" "ways" "LPatchesSameAge$Ways;" ∈ TG := in1 (i := 151) rfl rfl
set_option maxRecDepth 100000 in
theorem lf_X5_66 : Cond.fieldLink RX5 66 "PatchesSameAge" "list" "[I" ∈ TG := in1 (i := 152) rfl rfl
set_option maxRecDepth 100000 in
theorem lm_L_13 : Cond.methodLink "PatchesSameAgeLaw" 13 yX5_feed ∈ TG := in1 (i := 184) rfl rfl
set_option maxRecDepth 100000 in
theorem lm_X5_69 : Cond.methodLink RX5 69 yX5_refuse ∈ TG := in1 (i := 188) rfl rfl
set_option maxRecDepth 100000 in
theorem nm_X5_77 : Cond.methodLinkNest RX5 77 yX3_add "PatchesSameAge" ∈ NWl := List.mem_of_getElem? (i := 26) rfl
set_option maxRecDepth 100000 in
theorem lm_L_18 : Cond.methodLink "PatchesSameAgeLaw" 18 yX5_trousers ∈ TG := in1 (i := 196) rfl rfl
set_option maxRecDepth 100000 in
theorem nm_X5_81 : Cond.methodLinkNest RX5 81 yX3_formFault "PatchesSameAge" ∈ NWl := List.mem_of_getElem? (i := 27) rfl
set_option maxRecDepth 100000 in
theorem lm_X3_23 : Cond.methodLink RX3 23 yX3_sizeAt ∈ TG := in1 (i := 204) rfl rfl
set_option maxRecDepth 100000 in
theorem lm_X3_19 : Cond.methodLink RX3 19 yX3_letterAt ∈ TG := in1 (i := 208) rfl rfl
set_option maxRecDepth 100000 in
theorem lm_X3_26 : Cond.methodLink RX3 26 yX3_isDigit ∈ TG := in1 (i := 212) rfl rfl
set_option maxRecDepth 100000 in
theorem lm_X5_85 : Cond.methodLink RX5 85 yX5_tellAll ∈ TG := in1 (i := 215) rfl rfl
set_option maxRecDepth 100000 in
theorem nm_X5_88 : Cond.methodLinkNest RX5 88 yX0_become "PatchesSameAge" ∈ NWl := List.mem_of_getElem? (i := 28) rfl
set_option maxRecDepth 100000 in
theorem lm_X0_24 : Cond.methodLink RX0 24 arraycopyName ∈ TG := in1 (i := 223) rfl rfl
set_option maxRecDepth 100000 in
theorem nm_X5_92 : Cond.methodLinkNest RX5 92 yX2_become "PatchesSameAge" ∈ NWl := List.mem_of_getElem? (i := 29) rfl
set_option maxRecDepth 100000 in
theorem lm_X2_21 : Cond.methodLink RX2 21 arraycopyName ∈ TG := in1 (i := 230) rfl rfl
set_option maxRecDepth 100000 in
theorem lm_X5_95 : Cond.methodLink RX5 95 yX5_tellOne ∈ TG := in1 (i := 231) rfl rfl
set_option maxRecDepth 100000 in
theorem nm_X5_111 : Cond.methodLinkNest RX5 111 yX3_letterAt "PatchesSameAge" ∈ NWl := List.mem_of_getElem? (i := 30) rfl
set_option maxRecDepth 100000 in
theorem nm_X5_114 : Cond.methodLinkNest RX5 114 yX3_number "PatchesSameAge" ∈ NWl := List.mem_of_getElem? (i := 31) rfl
set_option maxRecDepth 100000 in
theorem lm_X5_117 : Cond.methodLink RX5 117 yX5_tellCells ∈ TG := in2 (i := 0) rfl rfl
set_option maxRecDepth 100000 in
theorem lm_X5_134 : Cond.methodLink RX5 134 yX5_isCell ∈ TG := in2 (i := 4) rfl rfl
set_option maxRecDepth 100000 in
theorem lm_X5_137 : Cond.methodLink RX5 137 yX5_isKind ∈ TG := in2 (i := 7) rfl rfl
set_option maxRecDepth 100000 in
theorem nm_X5_140 : Cond.methodLinkNest RX5 140 yX0_make "PatchesSameAge" ∈ NWl := List.mem_of_getElem? (i := 32) rfl
set_option maxRecDepth 100000 in
theorem lm_X5_121 : Cond.methodLink RX5 121 yX5_tellPiece ∈ TG := in2 (i := 14) rfl rfl
set_option maxRecDepth 100000 in
theorem nm_X5_147 : Cond.methodLinkNest RX5 147 yX2_add "PatchesSameAge" ∈ NWl := List.mem_of_getElem? (i := 33) rfl
set_option maxRecDepth 100000 in
theorem lm_X5_124 : Cond.methodLink RX5 124 yX5_tellPut ∈ TG := in2 (i := 22) rfl rfl
set_option maxRecDepth 100000 in
theorem nm_X5_150 : Cond.methodLinkNest RX5 150 yX2_isFree "PatchesSameAge" ∈ NWl := List.mem_of_getElem? (i := 34) rfl
set_option maxRecDepth 100000 in
theorem lm_X2_34 : Cond.methodLink RX2 34 yX2_has ∈ TG := in2 (i := 30) rfl rfl
set_option maxRecDepth 100000 in
theorem nm_X5_153 : Cond.methodLinkNest RX5 153 yX0_put "PatchesSameAge" ∈ NWl := List.mem_of_getElem? (i := 35) rfl
set_option maxRecDepth 100000 in
theorem lm_X0_39 : Cond.methodLink RX0 39 yX0_make ∈ TG := in2 (i := 38) rfl rfl
set_option maxRecDepth 100000 in
theorem nm_X5_157 : Cond.methodLinkNest RX5 157 yX2_use "PatchesSameAge" ∈ NWl := List.mem_of_getElem? (i := 36) rfl
set_option maxRecDepth 100000 in
theorem lm_X5_128 : Cond.methodLink RX5 128 yX5_tellWear ∈ TG := in2 (i := 43) rfl rfl
set_option maxRecDepth 100000 in
theorem lm_X5_131 : Cond.methodLink RX5 131 yX5_tellYears ∈ TG := in2 (i := 47) rfl rfl
set_option maxRecDepth 100000 in
theorem nm_X5_166 : Cond.methodLinkNest RX5 166 yX0_goOn "PatchesSameAge" ∈ NWl := List.mem_of_getElem? (i := 37) rfl
set_option maxRecDepth 100000 in
theorem lm_X0_70 : Cond.methodLink RX0 70 yX0_wearing ∈ TG := in2 (i := 55) rfl rfl
set_option maxRecDepth 100000 in
theorem lm_X0_60 : Cond.methodLink RX0 60 yX0_pull ∈ TG := in2 (i := 59) rfl rfl
set_option maxRecDepth 100000 in
theorem nf_X0_47 : Cond.fieldLinkNest RX0 47 "PatchesSameAge" "BESIDE" "[I" "PatchesSameAge" ∈ NWl := List.mem_of_getElem? (i := 38) rfl
set_option maxRecDepth 100000 in
theorem lm_X0_50 : Cond.methodLink RX0 50 Lib.Math.abs.name ∈ TG := in2 (i := 65) rfl rfl
set_option maxRecDepth 100000 in
theorem lm_X0_56 : Cond.methodLink RX0 56 Lib.Math.max.name ∈ TG := in2 (i := 68) rfl rfl
set_option maxRecDepth 100000 in
theorem lm_X0_73 : Cond.methodLink RX0 73 Lib.Math.min.name ∈ TG := in2 (i := 71) rfl rfl
set_option maxRecDepth 100000 in
theorem lm_X0_76 : Cond.methodLink RX0 76 yX0_growOlder ∈ TG := in2 (i := 74) rfl rfl
set_option maxRecDepth 100000 in
theorem nm_X5_99 : Cond.methodLinkNest RX5 99 yX3_sizeAt "PatchesSameAge" ∈ NWl := List.mem_of_getElem? (i := 39) rfl
set_option maxRecDepth 100000 in
theorem lm_X5_102 : Cond.methodLink RX5 102 Lib.Math.max.name ∈ TG := in2 (i := 79) rfl rfl
set_option maxRecDepth 100000 in
theorem nm_X5_108 : Cond.methodLinkNest RX5 108 yX1_forget "PatchesSameAge" ∈ NWl := List.mem_of_getElem? (i := 40) rfl
set_option maxRecDepth 100000 in
theorem lm_L_23 : Cond.methodLink "PatchesSameAgeLaw" 23 yX5_cellOf ∈ TG := in2 (i := 84) rfl rfl
set_option maxRecDepth 100000 in
theorem nm_X5_178 : Cond.methodLinkNest RX5 178 yX0_pull "PatchesSameAge" ∈ NWl := List.mem_of_getElem? (i := 41) rfl
set_option maxRecDepth 100000 in
theorem nm_X5_181 : Cond.methodLinkNest RX5 181 yX0_wearing "PatchesSameAge" ∈ NWl := List.mem_of_getElem? (i := 42) rfl
set_option maxRecDepth 100000 in
theorem nm_X5_184 : Cond.methodLinkNest RX5 184 yX0_hold "PatchesSameAge" ∈ NWl := List.mem_of_getElem? (i := 43) rfl
set_option maxRecDepth 100000 in
theorem nm_X5_187 : Cond.methodLinkNest RX5 187 yX0_isHole "PatchesSameAge" ∈ NWl := List.mem_of_getElem? (i := 44) rfl
set_option maxRecDepth 100000 in
theorem lm_X0_63 : Cond.methodLink RX0 63 yX0_hold ∈ TG := in2 (i := 98) rfl rfl
set_option maxRecDepth 100000 in
theorem lm_L_28 : Cond.methodLink "PatchesSameAgeLaw" 28 yX5_pieceOf ∈ TG := in2 (i := 99) rfl rfl
set_option maxRecDepth 100000 in
theorem nm_X5_190 : Cond.methodLinkNest RX5 190 yX2_has "PatchesSameAge" ∈ NWl := List.mem_of_getElem? (i := 45) rfl
set_option maxRecDepth 100000 in
theorem lm_L_32 : Cond.methodLink "PatchesSameAgeLaw" 32 yX5_piece ∈ TG := in2 (i := 104) rfl rfl
set_option maxRecDepth 100000 in
theorem lm_L_37 : Cond.methodLink "PatchesSameAgeLaw" 37 yX5_cell ∈ TG := in2 (i := 108) rfl rfl
set_option maxRecDepth 100000 in
theorem nm_X5_196 : Cond.methodLinkNest RX5 196 yX1_note "PatchesSameAge" ∈ NWl := List.mem_of_getElem? (i := 46) rfl
set_option maxRecDepth 100000 in
theorem nm_X1_26 : Cond.methodLinkNest RX1 26 yX0_become "PatchesSameAge" ∈ NWl := List.mem_of_getElem? (i := 47) rfl
set_option maxRecDepth 100000 in
theorem lm_X1_37 : Cond.methodLink RX1 37 Lib.Math.min.name ∈ TG := in2 (i := 117) rfl rfl
set_option maxRecDepth 100000 in
theorem lm_L_42 : Cond.methodLink "PatchesSameAgeLaw" 42 yX5_puts ∈ TG := in2 (i := 118) rfl rfl
set_option maxRecDepth 100000 in
theorem nm_X5_200 : Cond.methodLinkNest RX5 200 yX0_pullTogether "PatchesSameAge" ∈ NWl := List.mem_of_getElem? (i := 48) rfl
set_option maxRecDepth 100000 in
theorem lm_L_46 : Cond.methodLink "PatchesSameAgeLaw" 46 yX5_wears ∈ TG := in2 (i := 126) rfl rfl
set_option maxRecDepth 100000 in
theorem lm_L_50 : Cond.methodLink "PatchesSameAgeLaw" 50 yX5_years ∈ TG := in2 (i := 130) rfl rfl
set_option maxRecDepth 100000 in
theorem nm_X5_203 : Cond.methodLinkNest RX5 203 yX0_holeBits "PatchesSameAge" ∈ NWl := List.mem_of_getElem? (i := 49) rfl
set_option maxRecDepth 100000 in
theorem lm_X0_66 : Cond.methodLink RX0 66 yX0_isHole ∈ TG := in2 (i := 138) rfl rfl
set_option maxRecDepth 100000 in
theorem lm_X5_206 : Cond.methodLink RX5 206 yJ6_bitCount_0f7a4 ∈ TG := in2 (i := 139) rfl rfl
set_option maxRecDepth 100000 in
theorem lc_J6_265 : Cond.constant RJ6 265 (1431655765) ∈ TG := in2 (i := 142) rfl rfl
set_option maxRecDepth 100000 in
theorem lc_J6_266 : Cond.constant RJ6 266 (858993459) ∈ TG := in2 (i := 143) rfl rfl
set_option maxRecDepth 100000 in
theorem lc_J6_267 : Cond.constant RJ6 267 (252645135) ∈ TG := in2 (i := 144) rfl rfl
set_option maxRecDepth 100000 in
theorem lm_L_54 : Cond.methodLink "PatchesSameAgeLaw" 54 yX5_back ∈ TG := in2 (i := 145) rfl rfl
set_option maxRecDepth 100000 in
theorem nm_X5_212 : Cond.methodLinkNest RX5 212 yX1_takeBack "PatchesSameAge" ∈ NWl := List.mem_of_getElem? (i := 50) rfl
set_option maxRecDepth 100000 in
theorem lm_L_58 : Cond.methodLink "PatchesSameAgeLaw" 58 yX5_behind ∈ TG := in2 (i := 153) rfl rfl
set_option maxRecDepth 100000 in
theorem lm_X5_215 : Cond.methodLink RX5 215 yX5_thinkYears ∈ TG := in2 (i := 157) rfl rfl
set_option maxRecDepth 100000 in
theorem lm_L_62 : Cond.methodLink "PatchesSameAgeLaw" 62 yX5_all ∈ TG := in2 (i := 161) rfl rfl
set_option maxRecDepth 100000 in
theorem nm_X5_218 : Cond.methodLinkNest RX5 218 yX0_wearTogether "PatchesSameAge" ∈ NWl := List.mem_of_getElem? (i := 51) rfl
set_option maxRecDepth 100000 in
theorem lm_L_66 : Cond.methodLink "PatchesSameAgeLaw" 66 yX5_holes ∈ TG := in2 (i := 169) rfl rfl
set_option maxRecDepth 100000 in
theorem lm_X5_221 : Cond.methodLink RX5 221 yX5_lastWhole ∈ TG := in2 (i := 173) rfl rfl
set_option maxRecDepth 100000 in
theorem nm_X5_224 : Cond.methodLinkNest RX5 224 yX0_yearsToHole "PatchesSameAge" ∈ NWl := List.mem_of_getElem? (i := 52) rfl
set_option maxRecDepth 100000 in
theorem lm_X0_80 : Cond.methodLink RX0 80 yX0_holeBits ∈ TG := in2 (i := 181) rfl rfl
set_option maxRecDepth 100000 in
theorem lm_X0_84 : Cond.methodLink RX0 84 yX0_goOn ∈ TG := in2 (i := 182) rfl rfl
set_option maxRecDepth 100000 in
theorem lm_X5_227 : Cond.methodLink RX5 227 yX5_least ∈ TG := in2 (i := 183) rfl rfl
set_option maxRecDepth 100000 in
theorem lm_L_70 : Cond.methodLink "PatchesSameAgeLaw" 70 yX5_lasts ∈ TG := in2 (i := 186) rfl rfl
set_option maxRecDepth 100000 in
theorem lm_L_159 : Cond.methodLink "PatchesSameAgeLaw" 159 yX5_doomed ∈ TG := in2 (i := 190) rfl rfl
set_option maxRecDepth 100000 in
theorem lm_L_168 : Cond.methodLink "PatchesSameAgeLaw" 168 yX5_younger ∈ TG := in2 (i := 194) rfl rfl
set_option maxRecDepth 100000 in
theorem lc_X5_230 : Cond.constant RX5 230 (1000000000) ∈ TG := in2 (i := 198) rfl rfl
set_option maxRecDepth 100000 in
theorem nm_X5_231 : Cond.methodLinkNest RX5 231 yX0_growOlder "PatchesSameAge" ∈ NWl := List.mem_of_getElem? (i := 53) rfl
set_option maxRecDepth 100000 in
theorem lm_L_74 : Cond.methodLink "PatchesSameAgeLaw" 74 yX5_fits ∈ TG := in2 (i := 200) rfl rfl
set_option maxRecDepth 100000 in
theorem lc_X5_234 : Cond.constant RX5 234 (2147483647) ∈ TG := in2 (i := 204) rfl rfl
set_option maxRecDepth 100000 in
theorem lm_L_78 : Cond.methodLink "PatchesSameAgeLaw" 78 yX5_bestPiece ∈ TG := in2 (i := 205) rfl rfl
set_option maxRecDepth 100000 in
theorem lm_L_82 : Cond.methodLink "PatchesSameAgeLaw" 82 yX5_mend ∈ TG := in2 (i := 209) rfl rfl
set_option maxRecDepth 100000 in
theorem lm_L_86 : Cond.methodLink "PatchesSameAgeLaw" 86 yX5_keep ∈ TG := in2 (i := 213) rfl rfl
set_option maxRecDepth 100000 in
theorem lm_L_90 : Cond.methodLink "PatchesSameAgeLaw" 90 yX5_placed ∈ TG := in2 (i := 217) rfl rfl
set_option maxRecDepth 100000 in
theorem nm_X5_235 : Cond.methodLinkNest RX5 235 yX2_free "PatchesSameAge" ∈ NWl := List.mem_of_getElem? (i := 54) rfl
set_option maxRecDepth 100000 in
theorem lm_X2_38 : Cond.methodLink RX2 38 yJ6_bitCount_0f7a4 ∈ TG := in2 (i := 225) rfl rfl
set_option maxRecDepth 100000 in
theorem nm_X5_238 : Cond.methodLinkNest RX5 238 yX4_gather "PatchesSameAge" ∈ NWl := List.mem_of_getElem? (i := 55) rfl
set_option maxRecDepth 100000 in
theorem nm_X4_28 : Cond.methodLinkNest RX4 28 yX2_isFree "PatchesSameAge" ∈ NWl := List.mem_of_getElem? (i := 56) rfl
set_option maxRecDepth 100000 in
theorem nm_X5_241 : Cond.methodLinkNest RX5 241 yX4_reckon "PatchesSameAge" ∈ NWl := List.mem_of_getElem? (i := 57) rfl
set_option maxRecDepth 100000 in
theorem lm_X4_32 : Cond.methodLink RX4 32 yX4_many ∈ TG := in2 (i := 235) rfl rfl
set_option maxRecDepth 100000 in
theorem lm_X4_36 : Cond.methodLink RX4 36 yX4_takeOff ∈ TG := in2 (i := 239) rfl rfl
set_option maxRecDepth 100000 in
theorem nm_X4_39 : Cond.methodLinkNest RX4 39 yX0_become "PatchesSameAge" ∈ NWl := List.mem_of_getElem? (i := 58) rfl
set_option maxRecDepth 100000 in
theorem lm_X4_45 : Cond.methodLink RX4 45 yX4_cellIn ∈ TG := in3 (i := 4) rfl rfl
set_option maxRecDepth 100000 in
theorem lm_X4_49 : Cond.methodLink RX4 49 yX4_isTaken ∈ TG := in3 (i := 8) rfl rfl
set_option maxRecDepth 100000 in
theorem nm_X4_52 : Cond.methodLinkNest RX4 52 yX0_put "PatchesSameAge" ∈ NWl := List.mem_of_getElem? (i := 59) rfl
set_option maxRecDepth 100000 in
theorem nm_X4_56 : Cond.methodLinkNest RX4 56 yX0_pullTogether "PatchesSameAge" ∈ NWl := List.mem_of_getElem? (i := 60) rfl
set_option maxRecDepth 100000 in
theorem nm_X5_245 : Cond.methodLinkNest RX5 245 yX4_leastWay "PatchesSameAge" ∈ NWl := List.mem_of_getElem? (i := 61) rfl
set_option maxRecDepth 100000 in
theorem lm_X4_59 : Cond.methodLink RX4 59 Lib.Math.max.name ∈ TG := in3 (i := 18) rfl rfl
set_option maxRecDepth 100000 in
theorem nm_X5_250 : Cond.methodLinkNest RX5 250 yX4_placeOf "PatchesSameAge" ∈ NWl := List.mem_of_getElem? (i := 62) rfl
set_option maxRecDepth 100000 in
theorem nm_X5_253 : Cond.methodLinkNest RX5 253 yX4_cellIn "PatchesSameAge" ∈ NWl := List.mem_of_getElem? (i := 63) rfl
set_option maxRecDepth 100000 in
theorem lm_L_94 : Cond.methodLink "PatchesSameAgeLaw" 94 yX5_when ∈ TG := in3 (i := 24) rfl rfl
set_option maxRecDepth 100000 in
theorem lm_L_98 : Cond.methodLink "PatchesSameAgeLaw" 98 yX5_turns ∈ TG := in3 (i := 28) rfl rfl
set_option maxRecDepth 100000 in
theorem nm_X5_256 : Cond.methodLinkNest RX5 256 yX4_takeOff "PatchesSameAge" ∈ NWl := List.mem_of_getElem? (i := 64) rfl
set_option maxRecDepth 100000 in
theorem lm_X5_263 : Cond.methodLink RX5 263 yX5_endOf ∈ TG := in3 (i := 33) rfl rfl
set_option maxRecDepth 100000 in
theorem nm_X5_270 : Cond.methodLinkNest RX5 270 yX4_number "PatchesSameAge" ∈ NWl := List.mem_of_getElem? (i := 65) rfl
set_option maxRecDepth 100000 in
theorem nm_X5_272 : Cond.methodLinkNest RX5 272 yX4_isTaken "PatchesSameAge" ∈ NWl := List.mem_of_getElem? (i := 66) rfl
set_option maxRecDepth 100000 in
theorem lm_X5_275 : Cond.methodLink RX5 275 Lib.Math.min.name ∈ TG := in3 (i := 41) rfl rfl
set_option maxRecDepth 100000 in
theorem lm_L_139 : Cond.methodLink "PatchesSameAgeLaw" 139 yX5_bestOf ∈ TG := in3 (i := 42) rfl rfl
set_option maxRecDepth 100000 in
theorem lm_X5_278 : Cond.methodLink RX5 278 yX5_thinkOther ∈ TG := in3 (i := 46) rfl rfl
set_option maxRecDepth 100000 in
theorem lm_L_176 : Cond.methodLink "PatchesSameAgeLaw" 176 yX5_row ∈ TG := in3 (i := 50) rfl rfl
set_option maxRecDepth 100000 in
theorem lm_L_184 : Cond.methodLink "PatchesSameAgeLaw" 184 yX5_clear ∈ TG := in3 (i := 54) rfl rfl
set_option maxRecDepth 100000 in
theorem lm_L_180 : Cond.methodLink "PatchesSameAgeLaw" 180 yX5_judge ∈ TG := in3 (i := 58) rfl rfl
set_option maxRecDepth 100000 in
theorem lm_L_102 : Cond.methodLink "PatchesSameAgeLaw" 102 yX5_whose ∈ TG := in3 (i := 62) rfl rfl
set_option maxRecDepth 100000 in
theorem lm_X5_284 : Cond.methodLink RX5 284 yX5_bitsThatWoreSo ∈ TG := in3 (i := 66) rfl rfl
set_option maxRecDepth 100000 in
theorem lm_X5_291 : Cond.methodLink RX5 291 yX5_mindWoreSo ∈ TG := in3 (i := 70) rfl rfl
set_option maxRecDepth 100000 in
theorem lm_X5_288 : Cond.methodLink RX5 288 yX5_agesThatWoreSo ∈ TG := in3 (i := 74) rfl rfl
set_option maxRecDepth 100000 in
theorem lm_L_106 : Cond.methodLink "PatchesSameAgeLaw" 106 yX5_islands ∈ TG := in3 (i := 78) rfl rfl
set_option maxRecDepth 100000 in
theorem nm_X5_294 : Cond.methodLinkNest RX5 294 yX0_heapOf "PatchesSameAge" ∈ NWl := List.mem_of_getElem? (i := 67) rfl
set_option maxRecDepth 100000 in
theorem lm_X0_87 : Cond.methodLink RX0 87 yX0_hangingOn ∈ TG := in3 (i := 86) rfl rfl
set_option maxRecDepth 100000 in
theorem lm_L_110 : Cond.methodLink "PatchesSameAgeLaw" 110 yX5_strip ∈ TG := in3 (i := 90) rfl rfl
set_option maxRecDepth 100000 in
theorem nm_X5_297 : Cond.methodLinkNest RX5 297 yX0_risingFrom "PatchesSameAge" ∈ NWl := List.mem_of_getElem? (i := 68) rfl
set_option maxRecDepth 100000 in
theorem lm_L_114 : Cond.methodLink "PatchesSameAgeLaw" 114 yX5_swap ∈ TG := in3 (i := 98) rfl rfl
set_option maxRecDepth 100000 in
theorem nm_X5_300 : Cond.methodLinkNest RX5 300 yX0_change "PatchesSameAge" ∈ NWl := List.mem_of_getElem? (i := 69) rfl
set_option maxRecDepth 100000 in
theorem lm_X0_43 : Cond.methodLink RX0 43 yX0_changeIn ∈ TG := in3 (i := 106) rfl rfl
set_option maxRecDepth 100000 in
theorem lm_L_123 : Cond.methodLink "PatchesSameAgeLaw" 123 yX5_oldest ∈ TG := in3 (i := 109) rfl rfl
set_option maxRecDepth 100000 in
theorem lm_X5_304 : Cond.methodLink RX5 304 yX5_bySize ∈ TG := in3 (i := 113) rfl rfl
set_option maxRecDepth 100000 in
theorem lm_L_127 : Cond.methodLink "PatchesSameAgeLaw" 127 yX5_tightest ∈ TG := in3 (i := 116) rfl rfl
set_option maxRecDepth 100000 in
theorem lf_X5_308 : Cond.fieldLink RX5 308 "PatchesSameAge" "BESIDE" "[I" ∈ TG := in3 (i := 120) rfl rfl
set_option maxRecDepth 100000 in
theorem lm_X5_311 : Cond.methodLink RX5 311 Lib.Math.abs.name ∈ TG := in3 (i := 121) rfl rfl
set_option maxRecDepth 100000 in
theorem lm_L_131 : Cond.methodLink "PatchesSameAgeLaw" 131 yX5_ageFor ∈ TG := in3 (i := 122) rfl rfl
set_option maxRecDepth 100000 in
theorem lm_L_135 : Cond.methodLink "PatchesSameAgeLaw" 135 yX5_entire ∈ TG := in3 (i := 126) rfl rfl
set_option maxRecDepth 100000 in
theorem lm_L_143 : Cond.methodLink "PatchesSameAgeLaw" 143 yX5_harm ∈ TG := in3 (i := 130) rfl rfl
set_option maxRecDepth 100000 in
theorem lm_L_147 : Cond.methodLink "PatchesSameAgeLaw" 147 yX5_pairs ∈ TG := in3 (i := 134) rfl rfl
set_option maxRecDepth 100000 in
theorem lm_L_151 : Cond.methodLink "PatchesSameAgeLaw" 151 yX5_sumOf ∈ TG := in3 (i := 138) rfl rfl
set_option maxRecDepth 100000 in
theorem lm_L_155 : Cond.methodLink "PatchesSameAgeLaw" 155 yX5_rank ∈ TG := in3 (i := 142) rfl rfl
set_option maxRecDepth 100000 in
theorem nm_X5_314 : Cond.methodLinkNest RX5 314 yX0_moreWorn "PatchesSameAge" ∈ NWl := List.mem_of_getElem? (i := 70) rfl
set_option maxRecDepth 100000 in
theorem lm_L_172 : Cond.methodLink "PatchesSameAgeLaw" 172 yX5_unlike ∈ TG := in3 (i := 150) rfl rfl
set_option maxRecDepth 100000 in
theorem lm_L_118 : Cond.methodLink "PatchesSameAgeLaw" 118 yX5_chance ∈ TG := in3 (i := 154) rfl rfl
set_option maxRecDepth 100000 in
theorem lm_X5_317 : Cond.methodLink RX5 317 yX5_refuseLong ∈ TG := in3 (i := 158) rfl rfl
set_option maxRecDepth 100000 in
theorem ll_X5_340 : Cond.constantLong RX5 340 (4000000000000000000) ∈ TG := in3 (i := 162) rfl rfl
set_option maxRecDepth 100000 in
theorem lm_X5_321 : Cond.methodLink RX5 321 yX5_waysToHole ∈ TG := in3 (i := 163) rfl rfl
set_option maxRecDepth 100000 in
theorem lm_X5_325 : Cond.methodLink RX5 325 yX5_partOf ∈ TG := in3 (i := 167) rfl rfl
set_option maxRecDepth 100000 in
theorem lm_L_163 : Cond.methodLink "PatchesSameAgeLaw" 163 yX5_mean ∈ TG := in3 (i := 170) rfl rfl
set_option maxRecDepth 100000 in
theorem nm_X5_329 : Cond.methodLinkNest RX5 329 yX0_ageTogether "PatchesSameAge" ∈ NWl := List.mem_of_getElem? (i := 71) rfl
set_option maxRecDepth 100000 in
theorem ll_X5_332 : Cond.constantLong RX5 332 (12) ∈ TG := in3 (i := 178) rfl rfl
set_option maxRecDepth 100000 in
theorem lm_L_188 : Cond.methodLink "PatchesSameAgeLaw" 188 yX5_lots ∈ TG := in3 (i := 179) rfl rfl
set_option maxRecDepth 100000 in
theorem lc_X5_334 : Cond.constant RX5 334 (1103515245) ∈ TG := in3 (i := 183) rfl rfl
set_option maxRecDepth 100000 in
theorem lc_X5_335 : Cond.constant RX5 335 (65536) ∈ TG := in3 (i := 184) rfl rfl
set_option maxRecDepth 100000 in
theorem lm_L_192 : Cond.methodLink "PatchesSameAgeLaw" 192 yX5_image ∈ TG := in3 (i := 185) rfl rfl
set_option maxRecDepth 100000 in
theorem lm_L_196 : Cond.methodLink "PatchesSameAgeLaw" 196 yX5_restore ∈ TG := in3 (i := 189) rfl rfl
set_option maxRecDepth 100000 in
theorem lm_L_200 : Cond.methodLink "PatchesSameAgeLaw" 200 yX5_count ∈ TG := in3 (i := 193) rfl rfl
set_option maxRecDepth 100000 in
theorem lcl_L_10 : Cond.classLink "PatchesSameAgeLaw" 10 RX6 ∈ TG := in3 (i := 197) rfl rfl
set_option maxRecDepth 100000 in
theorem lm_L_12 : Cond.methodLink "PatchesSameAgeLaw" 12 yX6_init ∈ TG := in3 (i := 199) rfl rfl
set_option maxRecDepth 100000 in
theorem lm_X6_1 : Cond.methodLink RX6 1 objectInit ∈ TG := in3 (i := 202) rfl rfl
set_option maxRecDepth 100000 in
theorem lf_X6_7 : Cond.fieldLink RX6 7 "PatchesSameAgeModel" "kinds" "[I" ∈ TG := in3 (i := 203) rfl rfl
set_option maxRecDepth 100000 in
theorem lf_X6_13 : Cond.fieldLink RX6 13 "PatchesSameAgeModel" "figures" "[I" ∈ TG := in3 (i := 204) rfl rfl
set_option maxRecDepth 100000 in
theorem lf_X6_16 : Cond.fieldLink RX6 16 "PatchesSameAgeModel" "ages" "[I" ∈ TG := in3 (i := 205) rfl rfl
set_option maxRecDepth 100000 in
theorem lf_X6_19 : Cond.fieldLink RX6 19 "PatchesSameAgeModel" "wear0" "[I" ∈ TG := in3 (i := 206) rfl rfl
set_option maxRecDepth 100000 in
theorem lf_X6_125 : Cond.fieldLink RX6 125 "PatchesSameAgeModel" "year" "I" ∈ TG := in3 (i := 207) rfl rfl
set_option maxRecDepth 100000 in
theorem lf_X6_101 : Cond.fieldLink RX6 101 "PatchesSameAgeModel" "pieces" "I" ∈ TG := in3 (i := 208) rfl rfl
set_option maxRecDepth 100000 in
theorem lf_X6_22 : Cond.fieldLink RX6 22 "PatchesSameAgeModel" "pieceKind" "[I" ∈ TG := in3 (i := 209) rfl rfl
set_option maxRecDepth 100000 in
theorem lf_X6_25 : Cond.fieldLink RX6 25 "PatchesSameAgeModel" "pieceFigure" "[I" ∈ TG := in3 (i := 210) rfl rfl
set_option maxRecDepth 100000 in
theorem lf_X6_28 : Cond.fieldLink RX6 28 "PatchesSameAgeModel" "pieceAge" "[I" ∈ TG := in3 (i := 211) rfl rfl
set_option maxRecDepth 100000 in
theorem lf_X6_31 : Cond.fieldLink RX6 31 "PatchesSameAgeModel" "pieceUsed" "[I" ∈ TG := in3 (i := 212) rfl rfl
set_option maxRecDepth 100000 in
theorem lf_X6_91 : Cond.fieldLink RX6 91 "PatchesSameAgeModel" "thrown" "I" ∈ TG := in3 (i := 213) rfl rfl
set_option maxRecDepth 100000 in
theorem lf_X6_34 : Cond.fieldLink RX6 34 "PatchesSameAgeModel" "refusals" "[I" ∈ TG := in3 (i := 214) rfl rfl
set_option maxRecDepth 100000 in
theorem lf_X6_37 : Cond.fieldLink RX6 37 "PatchesSameAgeModel" "letters" "[I" ∈ TG := in3 (i := 215) rfl rfl
set_option maxRecDepth 100000 in
theorem lf_X6_141 : Cond.fieldLink RX6 141 "PatchesSameAgeModel" "letterMany" "I" ∈ TG := in3 (i := 216) rfl rfl
set_option maxRecDepth 100000 in
theorem lf_X6_144 : Cond.fieldLink RX6 144 "PatchesSameAgeModel" "at" "I" ∈ TG := in3 (i := 217) rfl rfl
set_option maxRecDepth 100000 in
theorem lf_X6_147 : Cond.fieldLink RX6 147 "PatchesSameAgeModel" "isBad" "Z" ∈ TG := in3 (i := 218) rfl rfl
set_option maxRecDepth 100000 in
theorem lf_X6_162 : Cond.fieldLink RX6 162 "PatchesSameAgeModel" "statements" "I" ∈ TG := in3 (i := 219) rfl rfl
set_option maxRecDepth 100000 in
theorem lf_X6_40 : Cond.fieldLink RX6 40 "PatchesSameAgeModel" "placeIn" "[I" ∈ TG := in3 (i := 220) rfl rfl
set_option maxRecDepth 100000 in
theorem lf_X6_43 : Cond.fieldLink RX6 43 "PatchesSameAgeModel" "letterOf" "[I" ∈ TG := in3 (i := 221) rfl rfl
set_option maxRecDepth 100000 in
theorem lf_X6_46 : Cond.fieldLink RX6 46 "PatchesSameAgeModel" "told" "[I" ∈ TG := in3 (i := 222) rfl rfl
set_option maxRecDepth 100000 in
theorem lf_X6_49 : Cond.fieldLink RX6 49 "PatchesSameAgeModel" "kept" "[I" ∈ TG := in3 (i := 223) rfl rfl
set_option maxRecDepth 100000 in
theorem lf_X6_52 : Cond.fieldLink RX6 52 "PatchesSameAgeModel" "imaged" "[I" ∈ TG := in3 (i := 224) rfl rfl
set_option maxRecDepth 100000 in
theorem lf_X6_219 : Cond.fieldLink RX6 219 "PatchesSameAgeModel" "hasImage" "Z" ∈ TG := in3 (i := 225) rfl rfl
set_option maxRecDepth 100000 in
theorem lf_X6_209 : Cond.fieldLink RX6 209 "PatchesSameAgeModel" "place0" "I" ∈ TG := in3 (i := 226) rfl rfl
set_option maxRecDepth 100000 in
theorem lf_X6_203 : Cond.fieldLink RX6 203 "PatchesSameAgeModel" "isTaking" "Z" ∈ TG := in3 (i := 227) rfl rfl
set_option maxRecDepth 100000 in
theorem lf_X6_206 : Cond.fieldLink RX6 206 "PatchesSameAgeModel" "keptIn" "[I" ∈ TG := in3 (i := 228) rfl rfl
set_option maxRecDepth 100000 in
theorem lf_X6_55 : Cond.fieldLink RX6 55 "PatchesSameAgeModel" "turns0" "[I" ∈ TG := in3 (i := 229) rfl rfl
set_option maxRecDepth 100000 in
theorem lf_X6_58 : Cond.fieldLink RX6 58 "PatchesSameAgeModel" "turnOf" "[I" ∈ TG := in3 (i := 230) rfl rfl
set_option maxRecDepth 100000 in
theorem lf_X6_200 : Cond.fieldLink RX6 200 "PatchesSameAgeModel" "turned" "I" ∈ TG := in3 (i := 231) rfl rfl
set_option maxRecDepth 100000 in
theorem lf_X6_61 : Cond.fieldLink RX6 61 "PatchesSameAgeModel" "lastsOf" "[I" ∈ TG := in3 (i := 232) rfl rfl
set_option maxRecDepth 100000 in
theorem lf_X6_64 : Cond.fieldLink RX6 64 "PatchesSameAgeModel" "free0" "[I" ∈ TG := in3 (i := 233) rfl rfl
set_option maxRecDepth 100000 in
theorem lf_X6_264 : Cond.fieldLink RX6 264 "PatchesSameAgeModel" "freeMany" "I" ∈ TG := in3 (i := 234) rfl rfl
set_option maxRecDepth 100000 in
theorem lf_X6_67 : Cond.fieldLink RX6 67 "PatchesSameAgeModel" "cellFor" "[I" ∈ TG := in3 (i := 235) rfl rfl
set_option maxRecDepth 100000 in
theorem lf_X6_70 : Cond.fieldLink RX6 70 "PatchesSameAgeModel" "bestFor" "[I" ∈ TG := in3 (i := 236) rfl rfl
set_option maxRecDepth 100000 in
theorem lf_X6_73 : Cond.fieldLink RX6 73 "PatchesSameAgeModel" "tried" "[I" ∈ TG := in3 (i := 237) rfl rfl
set_option maxRecDepth 100000 in
theorem lf_X6_76 : Cond.fieldLink RX6 76 "PatchesSameAgeModel" "worthAt" "[I" ∈ TG := in3 (i := 238) rfl rfl
set_option maxRecDepth 100000 in
theorem lf_X6_276 : Cond.fieldLink RX6 276 "PatchesSameAgeModel" "firstTried" "I" ∈ TG := in3 (i := 239) rfl rfl
set_option maxRecDepth 100000 in
theorem lf_X6_79 : Cond.fieldLink RX6 79 "PatchesSameAgeModel" "row" "[I" ∈ TG := in4 (i := 0) rfl rfl
set_option maxRecDepth 100000 in
theorem lf_X6_295 : Cond.fieldLink RX6 295 "PatchesSameAgeModel" "rowMany" "I" ∈ TG := in4 (i := 1) rfl rfl
set_option maxRecDepth 100000 in
theorem lf_X6_82 : Cond.fieldLink RX6 82 "PatchesSameAgeModel" "heapOf" "[I" ∈ TG := in4 (i := 2) rfl rfl
set_option maxRecDepth 100000 in
theorem lf_X6_85 : Cond.fieldLink RX6 85 "PatchesSameAgeModel" "wearAt" "[I" ∈ TG := in4 (i := 3) rfl rfl
set_option maxRecDepth 100000 in
theorem lf_X6_88 : Cond.fieldLink RX6 88 "PatchesSameAgeModel" "sorted" "[I" ∈ TG := in4 (i := 4) rfl rfl
set_option maxRecDepth 100000 in
theorem lf_X6_334 : Cond.fieldLink RX6 334 "PatchesSameAgeModel" "seed" "I" ∈ TG := in4 (i := 5) rfl rfl
set_option maxRecDepth 100000 in
theorem lm_L_17 : Cond.methodLink "PatchesSameAgeLaw" 17 yX6_feed ∈ TG := in4 (i := 93) rfl rfl
set_option maxRecDepth 100000 in
theorem lm_X6_138 : Cond.methodLink RX6 138 yX6_refuse ∈ TG := in4 (i := 97) rfl rfl
set_option maxRecDepth 100000 in
theorem lm_L_22 : Cond.methodLink "PatchesSameAgeLaw" 22 yX6_trousers ∈ TG := in4 (i := 101) rfl rfl
set_option maxRecDepth 100000 in
theorem lm_X6_188 : Cond.methodLink RX6 188 yX6_readStatement ∈ TG := in4 (i := 105) rfl rfl
set_option maxRecDepth 100000 in
theorem lm_X6_151 : Cond.methodLink RX6 151 yX6_here ∈ TG := in4 (i := 109) rfl rfl
set_option maxRecDepth 100000 in
theorem lm_X6_165 : Cond.methodLink RX6 165 yX6_isLetter ∈ TG := in4 (i := 113) rfl rfl
set_option maxRecDepth 100000 in
theorem lm_X6_168 : Cond.methodLink RX6 168 yX6_readNumbers ∈ TG := in4 (i := 116) rfl rfl
set_option maxRecDepth 100000 in
theorem lm_X6_159 : Cond.methodLink RX6 159 yX6_readDigits ∈ TG := in4 (i := 120) rfl rfl
set_option maxRecDepth 100000 in
theorem ll_X6_155 : Cond.constantLong RX6 155 (48) ∈ TG := in4 (i := 124) rfl rfl
set_option maxRecDepth 100000 in
theorem ll_X6_157 : Cond.constantLong RX6 157 (57) ∈ TG := in4 (i := 125) rfl rfl
set_option maxRecDepth 100000 in
theorem lm_X6_97 : Cond.methodLink RX6 97 yX6_in ∈ TG := in4 (i := 126) rfl rfl
set_option maxRecDepth 100000 in
theorem lm_X6_191 : Cond.methodLink RX6 191 yX6_think ∈ TG := in4 (i := 129) rfl rfl
set_option maxRecDepth 100000 in
theorem lm_X6_215 : Cond.methodLink RX6 215 yX6_carryAll ∈ TG := in4 (i := 133) rfl rfl
set_option maxRecDepth 100000 in
theorem lm_X6_212 : Cond.methodLink RX6 212 yX6_carry ∈ TG := in4 (i := 137) rfl rfl
set_option maxRecDepth 100000 in
theorem lm_X6_194 : Cond.methodLink RX6 194 yX6_comesTold ∈ TG := in4 (i := 141) rfl rfl
set_option maxRecDepth 100000 in
theorem lm_X6_134 : Cond.methodLink RX6 134 yX6_makeCell ∈ TG := in4 (i := 145) rfl rfl
set_option maxRecDepth 100000 in
theorem lm_X6_172 : Cond.methodLink RX6 172 yX6_pieceComes ∈ TG := in4 (i := 149) rfl rfl
set_option maxRecDepth 100000 in
theorem lm_X6_176 : Cond.methodLink RX6 176 yX6_isPiece ∈ TG := in4 (i := 153) rfl rfl
set_option maxRecDepth 100000 in
theorem lm_X6_179 : Cond.methodLink RX6 179 yX6_putOn ∈ TG := in4 (i := 157) rfl rfl
set_option maxRecDepth 100000 in
theorem ll_X6_182 : Cond.constantLong RX6 182 (60) ∈ TG := in4 (i := 161) rfl rfl
set_option maxRecDepth 100000 in
theorem lm_X6_184 : Cond.methodLink RX6 184 yX6_goYears ∈ TG := in4 (i := 162) rfl rfl
set_option maxRecDepth 100000 in
theorem lm_X6_131 : Cond.methodLink RX6 131 yX6_yearOn ∈ TG := in4 (i := 166) rfl rfl
set_option maxRecDepth 100000 in
theorem lm_X6_128 : Cond.methodLink RX6 128 yX6_wearsIn ∈ TG := in4 (i := 170) rfl rfl
set_option maxRecDepth 100000 in
theorem lm_X6_114 : Cond.methodLink RX6 114 yX6_pullOf ∈ TG := in4 (i := 174) rfl rfl
set_option maxRecDepth 100000 in
theorem lm_X6_104 : Cond.methodLink RX6 104 yX6_besideOf ∈ TG := in4 (i := 178) rfl rfl
set_option maxRecDepth 100000 in
theorem lm_X6_108 : Cond.methodLink RX6 108 yX6_apart ∈ TG := in4 (i := 181) rfl rfl
set_option maxRecDepth 100000 in
theorem lm_X6_111 : Cond.methodLink RX6 111 yX6_held ∈ TG := in4 (i := 184) rfl rfl
set_option maxRecDepth 100000 in
theorem lm_X6_197 : Cond.methodLink RX6 197 yX6_again ∈ TG := in4 (i := 187) rfl rfl
set_option maxRecDepth 100000 in
theorem lm_L_195 : Cond.methodLink "PatchesSameAgeLaw" 195 yX6_image ∈ TG := in4 (i := 191) rfl rfl
set_option maxRecDepth 100000 in
theorem lm_L_199 : Cond.methodLink "PatchesSameAgeLaw" 199 yX6_restore ∈ TG := in4 (i := 195) rfl rfl
set_option maxRecDepth 100000 in
theorem lm_L_57 : Cond.methodLink "PatchesSameAgeLaw" 57 yX6_back ∈ TG := in4 (i := 199) rfl rfl
set_option maxRecDepth 100000 in
theorem lm_L_27 : Cond.methodLink "PatchesSameAgeLaw" 27 yX6_cellOf ∈ TG := in4 (i := 203) rfl rfl
set_option maxRecDepth 100000 in
theorem lm_X6_222 : Cond.methodLink RX6 222 yX6_isCell ∈ TG := in4 (i := 207) rfl rfl
set_option maxRecDepth 100000 in
theorem ll_X6_95 : Cond.constantLong RX6 95 (11) ∈ TG := in4 (i := 210) rfl rfl
set_option maxRecDepth 100000 in
theorem ll_X6_225 : Cond.constantLong RX6 225 (7) ∈ TG := in4 (i := 211) rfl rfl
set_option maxRecDepth 100000 in
theorem lm_X6_118 : Cond.methodLink RX6 118 yX6_holdsOf ∈ TG := in4 (i := 212) rfl rfl
set_option maxRecDepth 100000 in
theorem lm_X6_121 : Cond.methodLink RX6 121 yX6_isHole ∈ TG := in4 (i := 216) rfl rfl
set_option maxRecDepth 100000 in
theorem lm_L_31 : Cond.methodLink "PatchesSameAgeLaw" 31 yX6_pieceOf ∈ TG := in4 (i := 220) rfl rfl
set_option maxRecDepth 100000 in
theorem ll_X6_227 : Cond.constantLong RX6 227 (3) ∈ TG := in4 (i := 224) rfl rfl
set_option maxRecDepth 100000 in
theorem lm_L_36 : Cond.methodLink "PatchesSameAgeLaw" 36 yX6_piece ∈ TG := in4 (i := 225) rfl rfl
set_option maxRecDepth 100000 in
theorem ll_X6_229 : Cond.constantLong RX6 229 (5) ∈ TG := in4 (i := 229) rfl rfl
set_option maxRecDepth 100000 in
theorem lm_L_41 : Cond.methodLink "PatchesSameAgeLaw" 41 yX6_cell ∈ TG := in4 (i := 230) rfl rfl
set_option maxRecDepth 100000 in
theorem lm_X6_231 : Cond.methodLink RX6 231 yX6_keepTurn ∈ TG := in4 (i := 234) rfl rfl
set_option maxRecDepth 100000 in
theorem lm_L_45 : Cond.methodLink "PatchesSameAgeLaw" 45 yX6_puts ∈ TG := in4 (i := 238) rfl rfl
set_option maxRecDepth 100000 in
theorem lm_X6_234 : Cond.methodLink RX6 234 yX6_allPull ∈ TG := in5 (i := 2) rfl rfl
set_option maxRecDepth 100000 in
theorem lm_L_49 : Cond.methodLink "PatchesSameAgeLaw" 49 yX6_wears ∈ TG := in5 (i := 6) rfl rfl
set_option maxRecDepth 100000 in
theorem lm_X6_237 : Cond.methodLink RX6 237 yX6_wrongNumber ∈ TG := in5 (i := 10) rfl rfl
set_option maxRecDepth 100000 in
theorem lm_L_53 : Cond.methodLink "PatchesSameAgeLaw" 53 yX6_years ∈ TG := in5 (i := 13) rfl rfl
set_option maxRecDepth 100000 in
theorem lm_X6_241 : Cond.methodLink RX6 241 yX6_holeBits ∈ TG := in5 (i := 17) rfl rfl
set_option maxRecDepth 100000 in
theorem lm_X6_244 : Cond.methodLink RX6 244 yX6_onesOf ∈ TG := in5 (i := 21) rfl rfl
set_option maxRecDepth 100000 in
theorem lm_L_61 : Cond.methodLink "PatchesSameAgeLaw" 61 yX6_behind ∈ TG := in5 (i := 24) rfl rfl
set_option maxRecDepth 100000 in
theorem lm_X6_247 : Cond.methodLink RX6 247 yX6_wrongBit ∈ TG := in5 (i := 28) rfl rfl
set_option maxRecDepth 100000 in
theorem lm_L_65 : Cond.methodLink "PatchesSameAgeLaw" 65 yX6_all ∈ TG := in5 (i := 31) rfl rfl
set_option maxRecDepth 100000 in
theorem lm_X6_250 : Cond.methodLink RX6 250 yX6_allWear ∈ TG := in5 (i := 35) rfl rfl
set_option maxRecDepth 100000 in
theorem lm_L_69 : Cond.methodLink "PatchesSameAgeLaw" 69 yX6_holes ∈ TG := in5 (i := 39) rfl rfl
set_option maxRecDepth 100000 in
theorem ll_X6_253 : Cond.constantLong RX6 253 (2) ∈ TG := in5 (i := 43) rfl rfl
set_option maxRecDepth 100000 in
theorem lm_X6_255 : Cond.methodLink RX6 255 yX6_layLasts ∈ TG := in5 (i := 44) rfl rfl
set_option maxRecDepth 100000 in
theorem lm_X6_258 : Cond.methodLink RX6 258 yX6_firstOf ∈ TG := in5 (i := 48) rfl rfl
set_option maxRecDepth 100000 in
theorem lm_L_73 : Cond.methodLink "PatchesSameAgeLaw" 73 yX6_lasts ∈ TG := in5 (i := 52) rfl rfl
set_option maxRecDepth 100000 in
theorem lm_L_77 : Cond.methodLink "PatchesSameAgeLaw" 77 yX6_fits ∈ TG := in5 (i := 56) rfl rfl
set_option maxRecDepth 100000 in
theorem lm_L_81 : Cond.methodLink "PatchesSameAgeLaw" 81 yX6_bestPiece ∈ TG := in5 (i := 60) rfl rfl
set_option maxRecDepth 100000 in
theorem lm_L_85 : Cond.methodLink "PatchesSameAgeLaw" 85 yX6_mend ∈ TG := in5 (i := 64) rfl rfl
set_option maxRecDepth 100000 in
theorem lm_X6_261 : Cond.methodLink RX6 261 yX6_freeBits ∈ TG := in5 (i := 68) rfl rfl
set_option maxRecDepth 100000 in
theorem lm_L_89 : Cond.methodLink "PatchesSameAgeLaw" 89 yX6_keep ∈ TG := in5 (i := 72) rfl rfl
set_option maxRecDepth 100000 in
theorem lm_L_93 : Cond.methodLink "PatchesSameAgeLaw" 93 yX6_placed ∈ TG := in5 (i := 76) rfl rfl
set_option maxRecDepth 100000 in
theorem lm_X6_267 : Cond.methodLink RX6 267 yX6_layFree ∈ TG := in5 (i := 80) rfl rfl
set_option maxRecDepth 100000 in
theorem ll_X6_270 : Cond.constantLong RX6 270 (-1) ∈ TG := in5 (i := 84) rfl rfl
set_option maxRecDepth 100000 in
theorem lm_X6_272 : Cond.methodLink RX6 272 yX6_areApart ∈ TG := in5 (i := 85) rfl rfl
set_option maxRecDepth 100000 in
theorem lm_L_97 : Cond.methodLink "PatchesSameAgeLaw" 97 yX6_when ∈ TG := in5 (i := 89) rfl rfl
set_option maxRecDepth 100000 in
theorem lm_L_101 : Cond.methodLink "PatchesSameAgeLaw" 101 yX6_turns ∈ TG := in5 (i := 93) rfl rfl
set_option maxRecDepth 100000 in
theorem lm_X6_292 : Cond.methodLink RX6 292 yX6_playAll ∈ TG := in5 (i := 97) rfl rfl
set_option maxRecDepth 100000 in
theorem lm_X6_279 : Cond.methodLink RX6 279 yX6_canTry ∈ TG := in5 (i := 101) rfl rfl
set_option maxRecDepth 100000 in
theorem lm_X6_282 : Cond.methodLink RX6 282 yX6_takeWorth ∈ TG := in5 (i := 105) rfl rfl
set_option maxRecDepth 100000 in
theorem lm_X6_288 : Cond.methodLink RX6 288 yX6_isBetter ∈ TG := in5 (i := 109) rfl rfl
set_option maxRecDepth 100000 in
theorem lm_X6_285 : Cond.methodLink RX6 285 yX6_layTried ∈ TG := in5 (i := 112) rfl rfl
set_option maxRecDepth 100000 in
theorem lm_L_105 : Cond.methodLink "PatchesSameAgeLaw" 105 yX6_whose ∈ TG := in5 (i := 116) rfl rfl
set_option maxRecDepth 100000 in
theorem lm_X6_298 : Cond.methodLink RX6 298 yX6_isRow ∈ TG := in5 (i := 120) rfl rfl
set_option maxRecDepth 100000 in
theorem lm_L_109 : Cond.methodLink "PatchesSameAgeLaw" 109 yX6_islands ∈ TG := in5 (i := 124) rfl rfl
set_option maxRecDepth 100000 in
theorem lm_X6_301 : Cond.methodLink RX6 301 yX6_layHeaps ∈ TG := in5 (i := 128) rfl rfl
set_option maxRecDepth 100000 in
theorem lm_L_113 : Cond.methodLink "PatchesSameAgeLaw" 113 yX6_strip ∈ TG := in5 (i := 132) rfl rfl
set_option maxRecDepth 100000 in
theorem lm_L_117 : Cond.methodLink "PatchesSameAgeLaw" 117 yX6_swap ∈ TG := in5 (i := 136) rfl rfl
set_option maxRecDepth 100000 in
theorem lm_X6_308 : Cond.methodLink RX6 308 yX6_swapCells ∈ TG := in5 (i := 140) rfl rfl
set_option maxRecDepth 100000 in
theorem lm_X6_304 : Cond.methodLink RX6 304 yX6_swapIn ∈ TG := in5 (i := 144) rfl rfl
set_option maxRecDepth 100000 in
theorem lm_L_122 : Cond.methodLink "PatchesSameAgeLaw" 122 yX6_chance ∈ TG := in5 (i := 147) rfl rfl
set_option maxRecDepth 100000 in
theorem ll_X6_315 : Cond.constantLong RX6 315 (4000000000000000000) ∈ TG := in5 (i := 151) rfl rfl
set_option maxRecDepth 100000 in
theorem lm_X6_317 : Cond.methodLink RX6 317 yX6_hasBit ∈ TG := in5 (i := 152) rfl rfl
set_option maxRecDepth 100000 in
theorem lm_X6_321 : Cond.methodLink RX6 321 yX6_partOf ∈ TG := in5 (i := 155) rfl rfl
set_option maxRecDepth 100000 in
theorem lm_X6_311 : Cond.methodLink RX6 311 yX6_divisor ∈ TG := in5 (i := 158) rfl rfl
set_option maxRecDepth 100000 in
theorem lm_L_126 : Cond.methodLink "PatchesSameAgeLaw" 126 yX6_oldest ∈ TG := in5 (i := 161) rfl rfl
set_option maxRecDepth 100000 in
theorem lm_X6_325 : Cond.methodLink RX6 325 yX6_ofSize ∈ TG := in5 (i := 165) rfl rfl
set_option maxRecDepth 100000 in
theorem lm_L_130 : Cond.methodLink "PatchesSameAgeLaw" 130 yX6_tightest ∈ TG := in5 (i := 169) rfl rfl
set_option maxRecDepth 100000 in
theorem lm_L_134 : Cond.methodLink "PatchesSameAgeLaw" 134 yX6_ageFor ∈ TG := in5 (i := 173) rfl rfl
set_option maxRecDepth 100000 in
theorem lm_L_138 : Cond.methodLink "PatchesSameAgeLaw" 138 yX6_entire ∈ TG := in5 (i := 177) rfl rfl
set_option maxRecDepth 100000 in
theorem lm_L_142 : Cond.methodLink "PatchesSameAgeLaw" 142 yX6_bestOf ∈ TG := in5 (i := 181) rfl rfl
set_option maxRecDepth 100000 in
theorem lm_L_146 : Cond.methodLink "PatchesSameAgeLaw" 146 yX6_harm ∈ TG := in5 (i := 185) rfl rfl
set_option maxRecDepth 100000 in
theorem lc_X6_328 : Cond.constant RX6 328 (1000000000) ∈ TG := in5 (i := 189) rfl rfl
set_option maxRecDepth 100000 in
theorem lm_L_150 : Cond.methodLink "PatchesSameAgeLaw" 150 yX6_pairs ∈ TG := in5 (i := 190) rfl rfl
set_option maxRecDepth 100000 in
theorem lm_L_154 : Cond.methodLink "PatchesSameAgeLaw" 154 yX6_sumOf ∈ TG := in5 (i := 194) rfl rfl
set_option maxRecDepth 100000 in
theorem lm_L_158 : Cond.methodLink "PatchesSameAgeLaw" 158 yX6_rank ∈ TG := in5 (i := 198) rfl rfl
set_option maxRecDepth 100000 in
theorem lm_L_162 : Cond.methodLink "PatchesSameAgeLaw" 162 yX6_doomed ∈ TG := in5 (i := 202) rfl rfl
set_option maxRecDepth 100000 in
theorem lm_L_167 : Cond.methodLink "PatchesSameAgeLaw" 167 yX6_mean ∈ TG := in5 (i := 206) rfl rfl
set_option maxRecDepth 100000 in
theorem lm_X6_329 : Cond.methodLink RX6 329 yX6_allAges ∈ TG := in5 (i := 210) rfl rfl
set_option maxRecDepth 100000 in
theorem ll_X6_332 : Cond.constantLong RX6 332 (12) ∈ TG := in5 (i := 214) rfl rfl
set_option maxRecDepth 100000 in
theorem lm_L_171 : Cond.methodLink "PatchesSameAgeLaw" 171 yX6_younger ∈ TG := in5 (i := 215) rfl rfl
set_option maxRecDepth 100000 in
theorem lm_L_175 : Cond.methodLink "PatchesSameAgeLaw" 175 yX6_unlike ∈ TG := in5 (i := 219) rfl rfl
set_option maxRecDepth 100000 in
theorem lm_L_179 : Cond.methodLink "PatchesSameAgeLaw" 179 yX6_row ∈ TG := in5 (i := 223) rfl rfl
set_option maxRecDepth 100000 in
theorem lm_L_183 : Cond.methodLink "PatchesSameAgeLaw" 183 yX6_judge ∈ TG := in5 (i := 227) rfl rfl
set_option maxRecDepth 100000 in
theorem lm_L_187 : Cond.methodLink "PatchesSameAgeLaw" 187 yX6_clear ∈ TG := in5 (i := 231) rfl rfl
set_option maxRecDepth 100000 in
theorem lm_L_191 : Cond.methodLink "PatchesSameAgeLaw" 191 yX6_lots ∈ TG := in5 (i := 235) rfl rfl
set_option maxRecDepth 100000 in
theorem lm_X6_340 : Cond.methodLink RX6 340 yX6_drawBelow ∈ TG := in5 (i := 239) rfl rfl
set_option maxRecDepth 100000 in
theorem lc_X6_337 : Cond.constant RX6 337 (1103515245) ∈ TG := in6 (i := 3) rfl rfl
set_option maxRecDepth 100000 in
theorem lc_X6_338 : Cond.constant RX6 338 (2147483647) ∈ TG := in6 (i := 4) rfl rfl
set_option maxRecDepth 100000 in
theorem lc_X6_339 : Cond.constant RX6 339 (65536) ∈ TG := in6 (i := 5) rfl rfl
set_option maxRecDepth 100000 in
theorem lm_L_203 : Cond.methodLink "PatchesSameAgeLaw" 203 yX6_count ∈ TG := in6 (i := 6) rfl rfl
set_option maxRecDepth 100000 in
theorem ll_X6_343 : Cond.constantLong RX6 343 (16) ∈ TG := in6 (i := 10) rfl rfl
set_option maxRecDepth 100000 in
theorem ini_L : Cond.initialized "PatchesSameAgeLaw" ∈ TG := in1 (i := 0) rfl rfl
set_option maxRecDepth 100000 in
theorem ini_X5 : Cond.initialized RX5 ∈ TG := in1 (i := 1) rfl rfl
set_option maxRecDepth 100000 in
theorem ini_X0 : Cond.initialized RX0 ∈ TG := in1 (i := 2) rfl rfl
set_option maxRecDepth 100000 in
theorem ini_X2 : Cond.initialized RX2 ∈ TG := in1 (i := 3) rfl rfl
set_option maxRecDepth 100000 in
theorem ini_X1 : Cond.initialized RX1 ∈ TG := in1 (i := 4) rfl rfl
set_option maxRecDepth 100000 in
theorem ini_X3 : Cond.initialized RX3 ∈ TG := in1 (i := 5) rfl rfl
set_option maxRecDepth 100000 in
theorem ini_X4 : Cond.initialized RX4 ∈ TG := in1 (i := 6) rfl rfl
set_option maxRecDepth 100000 in
theorem ini_X6 : Cond.initialized RX6 ∈ TG := in1 (i := 7) rfl rfl
set_option maxRecDepth 100000 in
theorem ini_J10 : Cond.initialized RJ10 ∈ TG := in1 (i := 8) rfl rfl
set_option maxRecDepth 100000 in
theorem ini_J9 : Cond.initialized RJ9 ∈ TG := in1 (i := 9) rfl rfl
set_option maxRecDepth 100000 in
theorem ini_J6 : Cond.initialized RJ6 ∈ TG := in1 (i := 10) rfl rfl
set_option maxRecDepth 100000 in
theorem ins_X5 : Cond.instantiable RX5 15 ∈ TG := in1 (i := 12) rfl rfl
set_option maxRecDepth 100000 in
theorem ins_X0 : Cond.instantiable RX0 5 ∈ TG := in1 (i := 20) rfl rfl
set_option maxRecDepth 100000 in
theorem arr_int : Cond.arrayClass FieldType.int ∈ TG := in1 (i := 46) rfl rfl
set_option maxRecDepth 100000 in
theorem ins_X2 : Cond.instantiable RX2 5 ∈ TG := in1 (i := 48) rfl rfl
set_option maxRecDepth 100000 in
theorem ins_X1 : Cond.instantiable RX1 4 ∈ TG := in1 (i := 79) rfl rfl
set_option maxRecDepth 100000 in
theorem ins_X3 : Cond.instantiable RX3 2 ∈ TG := in1 (i := 102) rfl rfl
set_option maxRecDepth 100000 in
theorem ins_X4 : Cond.instantiable RX4 4 ∈ TG := in1 (i := 116) rfl rfl
set_option maxRecDepth 100000 in
theorem ins_X6 : Cond.instantiable RX6 43 ∈ TG := in3 (i := 198) rfl rfl
set_option maxRecDepth 100000 in
theorem cod_X5_init : Cond.code yX5_init cX5_init 1 none ∈ TG := in1 (i := 15) rfl rfl
set_option maxRecDepth 100000 in
theorem iin_X5_init : Cond.instanceMethod yX5_init ∈ TG := in1 (i := 14) rfl rfl
set_option maxRecDepth 100000 in
theorem oi_1 : Cond.instanceMethod objectInit ∈ TG := in1 (i := 17) rfl rfl
set_option maxRecDepth 100000 in
theorem oi_2 : Cond.code objectInit ⟨#[0xb1]⟩ 1 none ∈ TG := in1 (i := 18) rfl rfl
set_option maxRecDepth 100000 in
theorem cod_X0_init : Cond.code yX0_init cX0_init 1 none ∈ TG := in1 (i := 23) rfl rfl
set_option maxRecDepth 100000 in
theorem iin_X0_init : Cond.instanceMethod yX0_init ∈ TG := in1 (i := 22) rfl rfl
set_option maxRecDepth 100000 in
theorem cod_X2_init : Cond.code yX2_init cX2_init 1 none ∈ TG := in1 (i := 51) rfl rfl
set_option maxRecDepth 100000 in
theorem iin_X2_init : Cond.instanceMethod yX2_init ∈ TG := in1 (i := 50) rfl rfl
set_option maxRecDepth 100000 in
theorem cod_X1_init : Cond.code yX1_init cX1_init 2 none ∈ TG := in1 (i := 82) rfl rfl
set_option maxRecDepth 100000 in
theorem iin_X1_init : Cond.instanceMethod yX1_init ∈ TG := in1 (i := 81) rfl rfl
set_option maxRecDepth 100000 in
theorem cod_X3_init : Cond.code yX3_init cX3_init 1 none ∈ TG := in1 (i := 105) rfl rfl
set_option maxRecDepth 100000 in
theorem iin_X3_init : Cond.instanceMethod yX3_init ∈ TG := in1 (i := 104) rfl rfl
set_option maxRecDepth 100000 in
theorem cod_X4_init : Cond.code yX4_init cX4_init 1 none ∈ TG := in1 (i := 119) rfl rfl
set_option maxRecDepth 100000 in
theorem iin_X4_init : Cond.instanceMethod yX4_init ∈ TG := in1 (i := 118) rfl rfl
set_option maxRecDepth 100000 in
theorem cod_X5_feed : Cond.code yX5_feed cX5_feed 2 (some .int) ∈ TG := in1 (i := 187) rfl rfl
set_option maxRecDepth 100000 in
theorem cal_X5_feed : CalV yX5_feed cX5_feed 2 (some .int) 1 := ⟨in1 (i := 185) rfl rfl, in1 (i := 186) rfl rfl, ini_X5, cod_X5_feed, by decide +kernel, by decide⟩
set_option maxRecDepth 100000 in
theorem cod_X5_refuse : Cond.code yX5_refuse cX5_refuse 2 (some .int) ∈ TG := in1 (i := 191) rfl rfl
set_option maxRecDepth 100000 in
theorem cal_X5_refuse : CalV yX5_refuse cX5_refuse 2 (some .int) 1 := ⟨in1 (i := 190) rfl rfl, inP (i := 0) rfl rfl, ini_X5, cod_X5_refuse, by decide +kernel, by decide⟩
set_option maxRecDepth 100000 in
theorem cod_X3_add : Cond.code yX3_add cX3_add 2 none ∈ TG := in1 (i := 195) rfl rfl
set_option maxRecDepth 100000 in
theorem cal_X3_add : CalV yX3_add cX3_add 2 none 1 := ⟨in1 (i := 194) rfl rfl, inP (i := 1) rfl rfl, ini_X3, cod_X3_add, by decide +kernel, by decide⟩
set_option maxRecDepth 100000 in
theorem cod_X5_trousers : Cond.code yX5_trousers cX5_trousers 3 (some .int) ∈ TG := in1 (i := 199) rfl rfl
set_option maxRecDepth 100000 in
theorem cal_X5_trousers : CalV yX5_trousers cX5_trousers 3 (some .int) 0 := ⟨in1 (i := 197) rfl rfl, in1 (i := 198) rfl rfl, ini_X5, cod_X5_trousers, by decide +kernel, by decide⟩
set_option maxRecDepth 100000 in
theorem cod_X3_formFault : Cond.code yX3_formFault cX3_formFault 5 (some .int) ∈ TG := in1 (i := 203) rfl rfl
set_option maxRecDepth 100000 in
theorem cal_X3_formFault : CalV yX3_formFault cX3_formFault 5 (some .int) 0 := ⟨in1 (i := 202) rfl rfl, inP (i := 2) rfl rfl, ini_X3, cod_X3_formFault, by decide +kernel, by decide⟩
set_option maxRecDepth 100000 in
theorem cod_X3_sizeAt : Cond.code yX3_sizeAt cX3_sizeAt 2 (some .int) ∈ TG := in1 (i := 207) rfl rfl
set_option maxRecDepth 100000 in
theorem cal_X3_sizeAt : CalV yX3_sizeAt cX3_sizeAt 2 (some .int) 1 := ⟨in1 (i := 206) rfl rfl, inP (i := 3) rfl rfl, ini_X3, cod_X3_sizeAt, by decide +kernel, by decide⟩
set_option maxRecDepth 100000 in
theorem cod_X3_letterAt : Cond.code yX3_letterAt cX3_letterAt 2 (some .int) ∈ TG := in1 (i := 211) rfl rfl
set_option maxRecDepth 100000 in
theorem cal_X3_letterAt : CalV yX3_letterAt cX3_letterAt 2 (some .int) 1 := ⟨in1 (i := 210) rfl rfl, inP (i := 4) rfl rfl, ini_X3, cod_X3_letterAt, by decide +kernel, by decide⟩
set_option maxRecDepth 100000 in
theorem cod_X3_isDigit : Cond.code yX3_isDigit cX3_isDigit 1 (some .boolean) ∈ TG := in1 (i := 214) rfl rfl
set_option maxRecDepth 100000 in
theorem cal_X3_isDigit : CalS yX3_isDigit cX3_isDigit 1 (some .boolean) 1 := ⟨in1 (i := 213) rfl rfl, ini_X3, cod_X3_isDigit, by decide +kernel, by decide⟩
set_option maxRecDepth 100000 in
theorem cod_X5_tellAll : Cond.code yX5_tellAll cX5_tellAll 3 (some .int) ∈ TG := in1 (i := 218) rfl rfl
set_option maxRecDepth 100000 in
theorem cal_X5_tellAll : CalV yX5_tellAll cX5_tellAll 3 (some .int) 0 := ⟨in1 (i := 217) rfl rfl, inP (i := 5) rfl rfl, ini_X5, cod_X5_tellAll, by decide +kernel, by decide⟩
set_option maxRecDepth 100000 in
theorem cod_X0_become : Cond.code yX0_become cX0_become 2 none ∈ TG := in1 (i := 222) rfl rfl
set_option maxRecDepth 100000 in
theorem cal_X0_become : CalV yX0_become cX0_become 2 none 1 := ⟨in1 (i := 221) rfl rfl, inP (i := 6) rfl rfl, ini_X0, cod_X0_become, by decide +kernel, by decide⟩
set_option maxRecDepth 100000 in
theorem cod_X2_become : Cond.code yX2_become cX2_become 2 none ∈ TG := in1 (i := 229) rfl rfl
set_option maxRecDepth 100000 in
theorem cal_X2_become : CalV yX2_become cX2_become 2 none 1 := ⟨in1 (i := 228) rfl rfl, inP (i := 7) rfl rfl, ini_X2, cod_X2_become, by decide +kernel, by decide⟩
set_option maxRecDepth 100000 in
theorem cod_X5_tellOne : Cond.code yX5_tellOne cX5_tellOne 2 (some .boolean) ∈ TG := in1 (i := 234) rfl rfl
set_option maxRecDepth 100000 in
theorem cal_X5_tellOne : CalV yX5_tellOne cX5_tellOne 2 (some .boolean) 1 := ⟨in1 (i := 233) rfl rfl, inP (i := 8) rfl rfl, ini_X5, cod_X5_tellOne, by decide +kernel, by decide⟩
set_option maxRecDepth 100000 in
theorem cod_X3_number : Cond.code yX3_number cX3_number 5 (some .int) ∈ TG := in1 (i := 239) rfl rfl
set_option maxRecDepth 100000 in
theorem cal_X3_number : CalV yX3_number cX3_number 5 (some .int) 2 := ⟨in1 (i := 238) rfl rfl, inP (i := 9) rfl rfl, ini_X3, cod_X3_number, by decide +kernel, by decide⟩
set_option maxRecDepth 100000 in
theorem cod_X5_tellCells : Cond.code yX5_tellCells cX5_tellCells 6 (some .boolean) ∈ TG := in2 (i := 3) rfl rfl
set_option maxRecDepth 100000 in
theorem cal_X5_tellCells : CalV yX5_tellCells cX5_tellCells 6 (some .boolean) 3 := ⟨in2 (i := 2) rfl rfl, inP (i := 10) rfl rfl, ini_X5, cod_X5_tellCells, by decide +kernel, by decide⟩
set_option maxRecDepth 100000 in
theorem cod_X5_isCell : Cond.code yX5_isCell cX5_isCell 1 (some .boolean) ∈ TG := in2 (i := 6) rfl rfl
set_option maxRecDepth 100000 in
theorem cal_X5_isCell : CalS yX5_isCell cX5_isCell 1 (some .boolean) 1 := ⟨in2 (i := 5) rfl rfl, ini_X5, cod_X5_isCell, by decide +kernel, by decide⟩
set_option maxRecDepth 100000 in
theorem cod_X5_isKind : Cond.code yX5_isKind cX5_isKind 1 (some .boolean) ∈ TG := in2 (i := 9) rfl rfl
set_option maxRecDepth 100000 in
theorem cal_X5_isKind : CalS yX5_isKind cX5_isKind 1 (some .boolean) 1 := ⟨in2 (i := 8) rfl rfl, ini_X5, cod_X5_isKind, by decide +kernel, by decide⟩
set_option maxRecDepth 100000 in
theorem cod_X0_make : Cond.code yX0_make cX0_make 5 none ∈ TG := in2 (i := 13) rfl rfl
set_option maxRecDepth 100000 in
theorem cal_X0_make : CalV yX0_make cX0_make 5 none 4 := ⟨in2 (i := 12) rfl rfl, inP (i := 11) rfl rfl, ini_X0, cod_X0_make, by decide +kernel, by decide⟩
set_option maxRecDepth 100000 in
theorem cod_X5_tellPiece : Cond.code yX5_tellPiece cX5_tellPiece 4 (some .boolean) ∈ TG := in2 (i := 17) rfl rfl
set_option maxRecDepth 100000 in
theorem cal_X5_tellPiece : CalV yX5_tellPiece cX5_tellPiece 4 (some .boolean) 3 := ⟨in2 (i := 16) rfl rfl, inP (i := 12) rfl rfl, ini_X5, cod_X5_tellPiece, by decide +kernel, by decide⟩
set_option maxRecDepth 100000 in
theorem cod_X2_add : Cond.code yX2_add cX2_add 4 none ∈ TG := in2 (i := 21) rfl rfl
set_option maxRecDepth 100000 in
theorem cal_X2_add : CalV yX2_add cX2_add 4 none 3 := ⟨in2 (i := 20) rfl rfl, inP (i := 13) rfl rfl, ini_X2, cod_X2_add, by decide +kernel, by decide⟩
set_option maxRecDepth 100000 in
theorem cod_X5_tellPut : Cond.code yX5_tellPut cX5_tellPut 3 (some .boolean) ∈ TG := in2 (i := 25) rfl rfl
set_option maxRecDepth 100000 in
theorem cal_X5_tellPut : CalV yX5_tellPut cX5_tellPut 3 (some .boolean) 2 := ⟨in2 (i := 24) rfl rfl, inP (i := 14) rfl rfl, ini_X5, cod_X5_tellPut, by decide +kernel, by decide⟩
set_option maxRecDepth 100000 in
theorem cod_X2_isFree : Cond.code yX2_isFree cX2_isFree 2 (some .boolean) ∈ TG := in2 (i := 29) rfl rfl
set_option maxRecDepth 100000 in
theorem cal_X2_isFree : CalV yX2_isFree cX2_isFree 2 (some .boolean) 1 := ⟨in2 (i := 28) rfl rfl, inP (i := 15) rfl rfl, ini_X2, cod_X2_isFree, by decide +kernel, by decide⟩
set_option maxRecDepth 100000 in
theorem cod_X2_has : Cond.code yX2_has cX2_has 2 (some .boolean) ∈ TG := in2 (i := 33) rfl rfl
set_option maxRecDepth 100000 in
theorem cal_X2_has : CalV yX2_has cX2_has 2 (some .boolean) 1 := ⟨in2 (i := 32) rfl rfl, inP (i := 16) rfl rfl, ini_X2, cod_X2_has, by decide +kernel, by decide⟩
set_option maxRecDepth 100000 in
theorem cod_X0_put : Cond.code yX0_put cX0_put 4 none ∈ TG := in2 (i := 37) rfl rfl
set_option maxRecDepth 100000 in
theorem cal_X0_put : CalV yX0_put cX0_put 4 none 3 := ⟨in2 (i := 36) rfl rfl, inP (i := 17) rfl rfl, ini_X0, cod_X0_put, by decide +kernel, by decide⟩
set_option maxRecDepth 100000 in
theorem cod_X2_use : Cond.code yX2_use cX2_use 2 none ∈ TG := in2 (i := 42) rfl rfl
set_option maxRecDepth 100000 in
theorem cal_X2_use : CalV yX2_use cX2_use 2 none 1 := ⟨in2 (i := 41) rfl rfl, inP (i := 18) rfl rfl, ini_X2, cod_X2_use, by decide +kernel, by decide⟩
set_option maxRecDepth 100000 in
theorem cod_X5_tellWear : Cond.code yX5_tellWear cX5_tellWear 3 (some .boolean) ∈ TG := in2 (i := 46) rfl rfl
set_option maxRecDepth 100000 in
theorem cal_X5_tellWear : CalV yX5_tellWear cX5_tellWear 3 (some .boolean) 2 := ⟨in2 (i := 45) rfl rfl, inP (i := 19) rfl rfl, ini_X5, cod_X5_tellWear, by decide +kernel, by decide⟩
set_option maxRecDepth 100000 in
theorem cod_X5_tellYears : Cond.code yX5_tellYears cX5_tellYears 2 (some .boolean) ∈ TG := in2 (i := 50) rfl rfl
set_option maxRecDepth 100000 in
theorem cal_X5_tellYears : CalV yX5_tellYears cX5_tellYears 2 (some .boolean) 1 := ⟨in2 (i := 49) rfl rfl, inP (i := 20) rfl rfl, ini_X5, cod_X5_tellYears, by decide +kernel, by decide⟩
set_option maxRecDepth 100000 in
theorem cod_X0_goOn : Cond.code yX0_goOn cX0_goOn 4 none ∈ TG := in2 (i := 54) rfl rfl
set_option maxRecDepth 100000 in
theorem cal_X0_goOn : CalV yX0_goOn cX0_goOn 4 none 1 := ⟨in2 (i := 53) rfl rfl, inP (i := 21) rfl rfl, ini_X0, cod_X0_goOn, by decide +kernel, by decide⟩
set_option maxRecDepth 100000 in
theorem cod_X0_wearing : Cond.code yX0_wearing cX0_wearing 3 (some .int) ∈ TG := in2 (i := 58) rfl rfl
set_option maxRecDepth 100000 in
theorem cal_X0_wearing : CalV yX0_wearing cX0_wearing 3 (some .int) 1 := ⟨in2 (i := 57) rfl rfl, inP (i := 22) rfl rfl, ini_X0, cod_X0_wearing, by decide +kernel, by decide⟩
set_option maxRecDepth 100000 in
theorem cod_X0_pull : Cond.code yX0_pull cX0_pull 6 (some .int) ∈ TG := in2 (i := 62) rfl rfl
set_option maxRecDepth 100000 in
theorem cal_X0_pull : CalV yX0_pull cX0_pull 6 (some .int) 1 := ⟨in2 (i := 61) rfl rfl, inP (i := 23) rfl rfl, ini_X0, cod_X0_pull, by decide +kernel, by decide⟩
set_option maxRecDepth 100000 in
theorem mc_abs : Cond.code Lib.Math.abs.name Lib.Math.abs.code 1 (some .int) ∈ TG := in2 (i := 67) rfl rfl
set_option maxRecDepth 100000 in
theorem ms_abs : Cond.static Lib.Math.abs.name ∈ TG := in2 (i := 66) rfl rfl
set_option maxRecDepth 100000 in
theorem mc_max : Cond.code Lib.Math.max.name Lib.Math.max.code 2 (some .int) ∈ TG := in2 (i := 70) rfl rfl
set_option maxRecDepth 100000 in
theorem ms_max : Cond.static Lib.Math.max.name ∈ TG := in2 (i := 69) rfl rfl
set_option maxRecDepth 100000 in
theorem mc_min : Cond.code Lib.Math.min.name Lib.Math.min.code 2 (some .int) ∈ TG := in2 (i := 73) rfl rfl
set_option maxRecDepth 100000 in
theorem ms_min : Cond.static Lib.Math.min.name ∈ TG := in2 (i := 72) rfl rfl
set_option maxRecDepth 100000 in
theorem cod_X0_growOlder : Cond.code yX0_growOlder cX0_growOlder 3 none ∈ TG := in2 (i := 77) rfl rfl
set_option maxRecDepth 100000 in
theorem cal_X0_growOlder : CalV yX0_growOlder cX0_growOlder 3 none 1 := ⟨in2 (i := 76) rfl rfl, inP (i := 24) rfl rfl, ini_X0, cod_X0_growOlder, by decide +kernel, by decide⟩
set_option maxRecDepth 100000 in
theorem cod_X1_forget : Cond.code yX1_forget cX1_forget 1 none ∈ TG := in2 (i := 83) rfl rfl
set_option maxRecDepth 100000 in
theorem cal_X1_forget : CalV yX1_forget cX1_forget 1 none 0 := ⟨in2 (i := 82) rfl rfl, inP (i := 25) rfl rfl, ini_X1, cod_X1_forget, by decide +kernel, by decide⟩
set_option maxRecDepth 100000 in
theorem cod_X5_cellOf : Cond.code yX5_cellOf cX5_cellOf 3 (some .int) ∈ TG := in2 (i := 87) rfl rfl
set_option maxRecDepth 100000 in
theorem cal_X5_cellOf : CalV yX5_cellOf cX5_cellOf 3 (some .int) 2 := ⟨in2 (i := 85) rfl rfl, in2 (i := 86) rfl rfl, ini_X5, cod_X5_cellOf, by decide +kernel, by decide⟩
set_option maxRecDepth 100000 in
theorem cod_X0_hold : Cond.code yX0_hold cX0_hold 3 (some .int) ∈ TG := in2 (i := 93) rfl rfl
set_option maxRecDepth 100000 in
theorem cal_X0_hold : CalV yX0_hold cX0_hold 3 (some .int) 1 := ⟨in2 (i := 92) rfl rfl, inP (i := 26) rfl rfl, ini_X0, cod_X0_hold, by decide +kernel, by decide⟩
set_option maxRecDepth 100000 in
theorem cod_X0_isHole : Cond.code yX0_isHole cX0_isHole 2 (some .boolean) ∈ TG := in2 (i := 97) rfl rfl
set_option maxRecDepth 100000 in
theorem cal_X0_isHole : CalV yX0_isHole cX0_isHole 2 (some .boolean) 1 := ⟨in2 (i := 96) rfl rfl, inP (i := 27) rfl rfl, ini_X0, cod_X0_isHole, by decide +kernel, by decide⟩
set_option maxRecDepth 100000 in
theorem cod_X5_pieceOf : Cond.code yX5_pieceOf cX5_pieceOf 3 (some .int) ∈ TG := in2 (i := 102) rfl rfl
set_option maxRecDepth 100000 in
theorem cal_X5_pieceOf : CalV yX5_pieceOf cX5_pieceOf 3 (some .int) 2 := ⟨in2 (i := 100) rfl rfl, in2 (i := 101) rfl rfl, ini_X5, cod_X5_pieceOf, by decide +kernel, by decide⟩
set_option maxRecDepth 100000 in
theorem cod_X5_piece : Cond.code yX5_piece cX5_piece 4 (some .int) ∈ TG := in2 (i := 107) rfl rfl
set_option maxRecDepth 100000 in
theorem cal_X5_piece : CalV yX5_piece cX5_piece 4 (some .int) 3 := ⟨in2 (i := 105) rfl rfl, in2 (i := 106) rfl rfl, ini_X5, cod_X5_piece, by decide +kernel, by decide⟩
set_option maxRecDepth 100000 in
theorem cod_X5_cell : Cond.code yX5_cell cX5_cell 6 (some .int) ∈ TG := in2 (i := 111) rfl rfl
set_option maxRecDepth 100000 in
theorem cal_X5_cell : CalV yX5_cell cX5_cell 6 (some .int) 4 := ⟨in2 (i := 109) rfl rfl, in2 (i := 110) rfl rfl, ini_X5, cod_X5_cell, by decide +kernel, by decide⟩
set_option maxRecDepth 100000 in
theorem cod_X1_note : Cond.code yX1_note cX1_note 3 none ∈ TG := in2 (i := 115) rfl rfl
set_option maxRecDepth 100000 in
theorem cal_X1_note : CalV yX1_note cX1_note 3 none 2 := ⟨in2 (i := 114) rfl rfl, inP (i := 28) rfl rfl, ini_X1, cod_X1_note, by decide +kernel, by decide⟩
set_option maxRecDepth 100000 in
theorem cod_X5_puts : Cond.code yX5_puts cX5_puts 3 (some .int) ∈ TG := in2 (i := 121) rfl rfl
set_option maxRecDepth 100000 in
theorem cal_X5_puts : CalV yX5_puts cX5_puts 3 (some .int) 2 := ⟨in2 (i := 119) rfl rfl, in2 (i := 120) rfl rfl, ini_X5, cod_X5_puts, by decide +kernel, by decide⟩
set_option maxRecDepth 100000 in
theorem cod_X0_pullTogether : Cond.code yX0_pullTogether cX0_pullTogether 3 (some .int) ∈ TG := in2 (i := 125) rfl rfl
set_option maxRecDepth 100000 in
theorem cal_X0_pullTogether : CalV yX0_pullTogether cX0_pullTogether 3 (some .int) 0 := ⟨in2 (i := 124) rfl rfl, inP (i := 29) rfl rfl, ini_X0, cod_X0_pullTogether, by decide +kernel, by decide⟩
set_option maxRecDepth 100000 in
theorem cod_X5_wears : Cond.code yX5_wears cX5_wears 4 (some .int) ∈ TG := in2 (i := 129) rfl rfl
set_option maxRecDepth 100000 in
theorem cal_X5_wears : CalV yX5_wears cX5_wears 4 (some .int) 2 := ⟨in2 (i := 127) rfl rfl, in2 (i := 128) rfl rfl, ini_X5, cod_X5_wears, by decide +kernel, by decide⟩
set_option maxRecDepth 100000 in
theorem cod_X5_years : Cond.code yX5_years cX5_years 2 (some .int) ∈ TG := in2 (i := 133) rfl rfl
set_option maxRecDepth 100000 in
theorem cal_X5_years : CalV yX5_years cX5_years 2 (some .int) 1 := ⟨in2 (i := 131) rfl rfl, in2 (i := 132) rfl rfl, ini_X5, cod_X5_years, by decide +kernel, by decide⟩
set_option maxRecDepth 100000 in
theorem cod_X0_holeBits : Cond.code yX0_holeBits cX0_holeBits 3 (some .int) ∈ TG := in2 (i := 137) rfl rfl
set_option maxRecDepth 100000 in
theorem cal_X0_holeBits : CalV yX0_holeBits cX0_holeBits 3 (some .int) 0 := ⟨in2 (i := 136) rfl rfl, inP (i := 30) rfl rfl, ini_X0, cod_X0_holeBits, by decide +kernel, by decide⟩
set_option maxRecDepth 100000 in
theorem cod_J6_bitCount_0f7a4 : Cond.code yJ6_bitCount_0f7a4 cJ6_bitCount_0f7a4 1 (some .int) ∈ TG := in2 (i := 141) rfl rfl
set_option maxRecDepth 100000 in
theorem cal_J6_bitCount_0f7a4 : CalS yJ6_bitCount_0f7a4 cJ6_bitCount_0f7a4 1 (some .int) 1 := ⟨in2 (i := 140) rfl rfl, ini_J6, cod_J6_bitCount_0f7a4, by decide +kernel, by decide⟩
set_option maxRecDepth 100000 in
theorem cod_X5_back : Cond.code yX5_back cX5_back 1 (some .int) ∈ TG := in2 (i := 148) rfl rfl
set_option maxRecDepth 100000 in
theorem cal_X5_back : CalV yX5_back cX5_back 1 (some .int) 0 := ⟨in2 (i := 146) rfl rfl, in2 (i := 147) rfl rfl, ini_X5, cod_X5_back, by decide +kernel, by decide⟩
set_option maxRecDepth 100000 in
theorem cod_X1_takeBack : Cond.code yX1_takeBack cX1_takeBack 3 none ∈ TG := in2 (i := 152) rfl rfl
set_option maxRecDepth 100000 in
theorem cal_X1_takeBack : CalV yX1_takeBack cX1_takeBack 3 none 2 := ⟨in2 (i := 151) rfl rfl, inP (i := 31) rfl rfl, ini_X1, cod_X1_takeBack, by decide +kernel, by decide⟩
set_option maxRecDepth 100000 in
theorem cod_X5_behind : Cond.code yX5_behind cX5_behind 4 (some .int) ∈ TG := in2 (i := 156) rfl rfl
set_option maxRecDepth 100000 in
theorem cal_X5_behind : CalV yX5_behind cX5_behind 4 (some .int) 3 := ⟨in2 (i := 154) rfl rfl, in2 (i := 155) rfl rfl, ini_X5, cod_X5_behind, by decide +kernel, by decide⟩
set_option maxRecDepth 100000 in
theorem cod_X5_thinkYears : Cond.code yX5_thinkYears cX5_thinkYears 2 none ∈ TG := in2 (i := 160) rfl rfl
set_option maxRecDepth 100000 in
theorem cal_X5_thinkYears : CalV yX5_thinkYears cX5_thinkYears 2 none 1 := ⟨in2 (i := 159) rfl rfl, inP (i := 32) rfl rfl, ini_X5, cod_X5_thinkYears, by decide +kernel, by decide⟩
set_option maxRecDepth 100000 in
theorem cod_X5_all : Cond.code yX5_all cX5_all 3 (some .int) ∈ TG := in2 (i := 164) rfl rfl
set_option maxRecDepth 100000 in
theorem cal_X5_all : CalV yX5_all cX5_all 3 (some .int) 2 := ⟨in2 (i := 162) rfl rfl, in2 (i := 163) rfl rfl, ini_X5, cod_X5_all, by decide +kernel, by decide⟩
set_option maxRecDepth 100000 in
theorem cod_X0_wearTogether : Cond.code yX0_wearTogether cX0_wearTogether 3 (some .int) ∈ TG := in2 (i := 168) rfl rfl
set_option maxRecDepth 100000 in
theorem cal_X0_wearTogether : CalV yX0_wearTogether cX0_wearTogether 3 (some .int) 0 := ⟨in2 (i := 167) rfl rfl, inP (i := 33) rfl rfl, ini_X0, cod_X0_wearTogether, by decide +kernel, by decide⟩
set_option maxRecDepth 100000 in
theorem cod_X5_holes : Cond.code yX5_holes cX5_holes 3 (some .int) ∈ TG := in2 (i := 172) rfl rfl
set_option maxRecDepth 100000 in
theorem cal_X5_holes : CalV yX5_holes cX5_holes 3 (some .int) 1 := ⟨in2 (i := 170) rfl rfl, in2 (i := 171) rfl rfl, ini_X5, cod_X5_holes, by decide +kernel, by decide⟩
set_option maxRecDepth 100000 in
theorem cod_X5_lastWhole : Cond.code yX5_lastWhole cX5_lastWhole 5 (some .int) ∈ TG := in2 (i := 176) rfl rfl
set_option maxRecDepth 100000 in
theorem cal_X5_lastWhole : CalV yX5_lastWhole cX5_lastWhole 5 (some .int) 0 := ⟨in2 (i := 175) rfl rfl, inP (i := 34) rfl rfl, ini_X5, cod_X5_lastWhole, by decide +kernel, by decide⟩
set_option maxRecDepth 100000 in
theorem cod_X0_yearsToHole : Cond.code yX0_yearsToHole cX0_yearsToHole 4 (some .int) ∈ TG := in2 (i := 180) rfl rfl
set_option maxRecDepth 100000 in
theorem cal_X0_yearsToHole : CalV yX0_yearsToHole cX0_yearsToHole 4 (some .int) 2 := ⟨in2 (i := 179) rfl rfl, inP (i := 35) rfl rfl, ini_X0, cod_X0_yearsToHole, by decide +kernel, by decide⟩
set_option maxRecDepth 100000 in
theorem cod_X5_least : Cond.code yX5_least cX5_least 2 (some .int) ∈ TG := in2 (i := 185) rfl rfl
set_option maxRecDepth 100000 in
theorem cal_X5_least : CalS yX5_least cX5_least 2 (some .int) 1 := ⟨in2 (i := 184) rfl rfl, ini_X5, cod_X5_least, by decide +kernel, by decide⟩
set_option maxRecDepth 100000 in
theorem cod_X5_lasts : Cond.code yX5_lasts cX5_lasts 3 (some .int) ∈ TG := in2 (i := 189) rfl rfl
set_option maxRecDepth 100000 in
theorem cal_X5_lasts : CalV yX5_lasts cX5_lasts 3 (some .int) 1 := ⟨in2 (i := 187) rfl rfl, in2 (i := 188) rfl rfl, ini_X5, cod_X5_lasts, by decide +kernel, by decide⟩
set_option maxRecDepth 100000 in
theorem cod_X5_doomed : Cond.code yX5_doomed cX5_doomed 2 (some .int) ∈ TG := in2 (i := 193) rfl rfl
set_option maxRecDepth 100000 in
theorem cal_X5_doomed : CalV yX5_doomed cX5_doomed 2 (some .int) 1 := ⟨in2 (i := 191) rfl rfl, in2 (i := 192) rfl rfl, ini_X5, cod_X5_doomed, by decide +kernel, by decide⟩
set_option maxRecDepth 100000 in
theorem cod_X5_younger : Cond.code yX5_younger cX5_younger 3 (some .int) ∈ TG := in2 (i := 197) rfl rfl
set_option maxRecDepth 100000 in
theorem cal_X5_younger : CalV yX5_younger cX5_younger 3 (some .int) 1 := ⟨in2 (i := 195) rfl rfl, in2 (i := 196) rfl rfl, ini_X5, cod_X5_younger, by decide +kernel, by decide⟩
set_option maxRecDepth 100000 in
theorem cod_X5_fits : Cond.code yX5_fits cX5_fits 7 (some .int) ∈ TG := in2 (i := 203) rfl rfl
set_option maxRecDepth 100000 in
theorem cal_X5_fits : CalV yX5_fits cX5_fits 7 (some .int) 2 := ⟨in2 (i := 201) rfl rfl, in2 (i := 202) rfl rfl, ini_X5, cod_X5_fits, by decide +kernel, by decide⟩
set_option maxRecDepth 100000 in
theorem cod_X5_bestPiece : Cond.code yX5_bestPiece cX5_bestPiece 6 (some .int) ∈ TG := in2 (i := 208) rfl rfl
set_option maxRecDepth 100000 in
theorem cal_X5_bestPiece : CalV yX5_bestPiece cX5_bestPiece 6 (some .int) 1 := ⟨in2 (i := 206) rfl rfl, in2 (i := 207) rfl rfl, ini_X5, cod_X5_bestPiece, by decide +kernel, by decide⟩
set_option maxRecDepth 100000 in
theorem cod_X5_mend : Cond.code yX5_mend cX5_mend 4 (some .int) ∈ TG := in2 (i := 212) rfl rfl
set_option maxRecDepth 100000 in
theorem cal_X5_mend : CalV yX5_mend cX5_mend 4 (some .int) 0 := ⟨in2 (i := 210) rfl rfl, in2 (i := 211) rfl rfl, ini_X5, cod_X5_mend, by decide +kernel, by decide⟩
set_option maxRecDepth 100000 in
theorem cod_X5_keep : Cond.code yX5_keep cX5_keep 6 (some .int) ∈ TG := in2 (i := 216) rfl rfl
set_option maxRecDepth 100000 in
theorem cal_X5_keep : CalV yX5_keep cX5_keep 6 (some .int) 0 := ⟨in2 (i := 214) rfl rfl, in2 (i := 215) rfl rfl, ini_X5, cod_X5_keep, by decide +kernel, by decide⟩
set_option maxRecDepth 100000 in
theorem cod_X5_placed : Cond.code yX5_placed cX5_placed 3 (some .int) ∈ TG := in2 (i := 220) rfl rfl
set_option maxRecDepth 100000 in
theorem cal_X5_placed : CalV yX5_placed cX5_placed 3 (some .int) 1 := ⟨in2 (i := 218) rfl rfl, in2 (i := 219) rfl rfl, ini_X5, cod_X5_placed, by decide +kernel, by decide⟩
set_option maxRecDepth 100000 in
theorem cod_X2_free : Cond.code yX2_free cX2_free 1 (some .int) ∈ TG := in2 (i := 224) rfl rfl
set_option maxRecDepth 100000 in
theorem cal_X2_free : CalV yX2_free cX2_free 1 (some .int) 0 := ⟨in2 (i := 223) rfl rfl, inP (i := 36) rfl rfl, ini_X2, cod_X2_free, by decide +kernel, by decide⟩
set_option maxRecDepth 100000 in
theorem cod_X4_gather : Cond.code yX4_gather cX4_gather 3 none ∈ TG := in2 (i := 229) rfl rfl
set_option maxRecDepth 100000 in
theorem cal_X4_gather : CalV yX4_gather cX4_gather 3 none 1 := ⟨in2 (i := 228) rfl rfl, inP (i := 37) rfl rfl, ini_X4, cod_X4_gather, by decide +kernel, by decide⟩
set_option maxRecDepth 100000 in
theorem cod_X4_reckon : Cond.code yX4_reckon cX4_reckon 8 none ∈ TG := in2 (i := 234) rfl rfl
set_option maxRecDepth 100000 in
theorem cal_X4_reckon : CalV yX4_reckon cX4_reckon 8 none 3 := ⟨in2 (i := 233) rfl rfl, inP (i := 38) rfl rfl, ini_X4, cod_X4_reckon, by decide +kernel, by decide⟩
set_option maxRecDepth 100000 in
theorem cod_X4_many : Cond.code yX4_many cX4_many 3 (some .int) ∈ TG := in2 (i := 238) rfl rfl
set_option maxRecDepth 100000 in
theorem cal_X4_many : CalV yX4_many cX4_many 3 (some .int) 0 := ⟨in2 (i := 237) rfl rfl, inP (i := 39) rfl rfl, ini_X4, cod_X4_many, by decide +kernel, by decide⟩
set_option maxRecDepth 100000 in
theorem cod_X4_takeOff : Cond.code yX4_takeOff cX4_takeOff 2 none ∈ TG := in3 (i := 2) rfl rfl
set_option maxRecDepth 100000 in
theorem cal_X4_takeOff : CalV yX4_takeOff cX4_takeOff 2 none 0 := ⟨in3 (i := 1) rfl rfl, inP (i := 40) rfl rfl, ini_X4, cod_X4_takeOff, by decide +kernel, by decide⟩
set_option maxRecDepth 100000 in
theorem cod_X4_cellIn : Cond.code yX4_cellIn cX4_cellIn 5 (some .int) ∈ TG := in3 (i := 7) rfl rfl
set_option maxRecDepth 100000 in
theorem cal_X4_cellIn : CalV yX4_cellIn cX4_cellIn 5 (some .int) 2 := ⟨in3 (i := 6) rfl rfl, inP (i := 41) rfl rfl, ini_X4, cod_X4_cellIn, by decide +kernel, by decide⟩
set_option maxRecDepth 100000 in
theorem cod_X4_isTaken : Cond.code yX4_isTaken cX4_isTaken 3 (some .boolean) ∈ TG := in3 (i := 11) rfl rfl
set_option maxRecDepth 100000 in
theorem cal_X4_isTaken : CalV yX4_isTaken cX4_isTaken 3 (some .boolean) 1 := ⟨in3 (i := 10) rfl rfl, inP (i := 42) rfl rfl, ini_X4, cod_X4_isTaken, by decide +kernel, by decide⟩
set_option maxRecDepth 100000 in
theorem cod_X4_leastWay : Cond.code yX4_leastWay cX4_leastWay 3 (some .int) ∈ TG := in3 (i := 17) rfl rfl
set_option maxRecDepth 100000 in
theorem cal_X4_leastWay : CalV yX4_leastWay cX4_leastWay 3 (some .int) 0 := ⟨in3 (i := 16) rfl rfl, inP (i := 43) rfl rfl, ini_X4, cod_X4_leastWay, by decide +kernel, by decide⟩
set_option maxRecDepth 100000 in
theorem cod_X4_placeOf : Cond.code yX4_placeOf cX4_placeOf 3 (some .int) ∈ TG := in3 (i := 22) rfl rfl
set_option maxRecDepth 100000 in
theorem cal_X4_placeOf : CalV yX4_placeOf cX4_placeOf 3 (some .int) 1 := ⟨in3 (i := 21) rfl rfl, inP (i := 44) rfl rfl, ini_X4, cod_X4_placeOf, by decide +kernel, by decide⟩
set_option maxRecDepth 100000 in
theorem cod_X5_when : Cond.code yX5_when cX5_when 7 (some .int) ∈ TG := in3 (i := 27) rfl rfl
set_option maxRecDepth 100000 in
theorem cal_X5_when : CalV yX5_when cX5_when 7 (some .int) 2 := ⟨in3 (i := 25) rfl rfl, in3 (i := 26) rfl rfl, ini_X5, cod_X5_when, by decide +kernel, by decide⟩
set_option maxRecDepth 100000 in
theorem cod_X5_turns : Cond.code yX5_turns cX5_turns 7 (some .int) ∈ TG := in3 (i := 31) rfl rfl
set_option maxRecDepth 100000 in
theorem cal_X5_turns : CalV yX5_turns cX5_turns 7 (some .int) 1 := ⟨in3 (i := 29) rfl rfl, in3 (i := 30) rfl rfl, ini_X5, cod_X5_turns, by decide +kernel, by decide⟩
set_option maxRecDepth 100000 in
theorem cod_X5_endOf : Cond.code yX5_endOf cX5_endOf 7 (some .int) ∈ TG := in3 (i := 35) rfl rfl
set_option maxRecDepth 100000 in
theorem cal_X5_endOf : CalS yX5_endOf cX5_endOf 7 (some .int) 2 := ⟨in3 (i := 34) rfl rfl, ini_X5, cod_X5_endOf, by decide +kernel, by decide⟩
set_option maxRecDepth 100000 in
theorem cod_X4_number : Cond.code yX4_number cX4_number 3 (some .int) ∈ TG := in3 (i := 39) rfl rfl
set_option maxRecDepth 100000 in
theorem cal_X4_number : CalV yX4_number cX4_number 3 (some .int) 0 := ⟨in3 (i := 38) rfl rfl, inP (i := 45) rfl rfl, ini_X4, cod_X4_number, by decide +kernel, by decide⟩
set_option maxRecDepth 100000 in
theorem cod_X5_bestOf : Cond.code yX5_bestOf cX5_bestOf 7 (some .int) ∈ TG := in3 (i := 45) rfl rfl
set_option maxRecDepth 100000 in
theorem cal_X5_bestOf : CalV yX5_bestOf cX5_bestOf 7 (some .int) 2 := ⟨in3 (i := 43) rfl rfl, in3 (i := 44) rfl rfl, ini_X5, cod_X5_bestOf, by decide +kernel, by decide⟩
set_option maxRecDepth 100000 in
theorem cod_X5_thinkOther : Cond.code yX5_thinkOther cX5_thinkOther 4 none ∈ TG := in3 (i := 49) rfl rfl
set_option maxRecDepth 100000 in
theorem cal_X5_thinkOther : CalV yX5_thinkOther cX5_thinkOther 4 none 3 := ⟨in3 (i := 48) rfl rfl, inP (i := 46) rfl rfl, ini_X5, cod_X5_thinkOther, by decide +kernel, by decide⟩
set_option maxRecDepth 100000 in
theorem cod_X5_row : Cond.code yX5_row cX5_row 2 (some .int) ∈ TG := in3 (i := 53) rfl rfl
set_option maxRecDepth 100000 in
theorem cal_X5_row : CalV yX5_row cX5_row 2 (some .int) 1 := ⟨in3 (i := 51) rfl rfl, in3 (i := 52) rfl rfl, ini_X5, cod_X5_row, by decide +kernel, by decide⟩
set_option maxRecDepth 100000 in
theorem cod_X5_clear : Cond.code yX5_clear cX5_clear 2 (some .int) ∈ TG := in3 (i := 57) rfl rfl
set_option maxRecDepth 100000 in
theorem cal_X5_clear : CalV yX5_clear cX5_clear 2 (some .int) 0 := ⟨in3 (i := 55) rfl rfl, in3 (i := 56) rfl rfl, ini_X5, cod_X5_clear, by decide +kernel, by decide⟩
set_option maxRecDepth 100000 in
theorem cod_X5_judge : Cond.code yX5_judge cX5_judge 3 (some .int) ∈ TG := in3 (i := 61) rfl rfl
set_option maxRecDepth 100000 in
theorem cal_X5_judge : CalV yX5_judge cX5_judge 3 (some .int) 0 := ⟨in3 (i := 59) rfl rfl, in3 (i := 60) rfl rfl, ini_X5, cod_X5_judge, by decide +kernel, by decide⟩
set_option maxRecDepth 100000 in
theorem cod_X5_whose : Cond.code yX5_whose cX5_whose 3 (some .int) ∈ TG := in3 (i := 65) rfl rfl
set_option maxRecDepth 100000 in
theorem cal_X5_whose : CalV yX5_whose cX5_whose 3 (some .int) 2 := ⟨in3 (i := 63) rfl rfl, in3 (i := 64) rfl rfl, ini_X5, cod_X5_whose, by decide +kernel, by decide⟩
set_option maxRecDepth 100000 in
theorem cod_X5_bitsThatWoreSo : Cond.code yX5_bitsThatWoreSo cX5_bitsThatWoreSo 6 (some .int) ∈ TG := in3 (i := 69) rfl rfl
set_option maxRecDepth 100000 in
theorem cal_X5_bitsThatWoreSo : CalV yX5_bitsThatWoreSo cX5_bitsThatWoreSo 6 (some .int) 3 := ⟨in3 (i := 68) rfl rfl, inP (i := 47) rfl rfl, ini_X5, cod_X5_bitsThatWoreSo, by decide +kernel, by decide⟩
set_option maxRecDepth 100000 in
theorem cod_X5_mindWoreSo : Cond.code yX5_mindWoreSo cX5_mindWoreSo 3 (some .boolean) ∈ TG := in3 (i := 73) rfl rfl
set_option maxRecDepth 100000 in
theorem cal_X5_mindWoreSo : CalV yX5_mindWoreSo cX5_mindWoreSo 3 (some .boolean) 1 := ⟨in3 (i := 72) rfl rfl, inP (i := 48) rfl rfl, ini_X5, cod_X5_mindWoreSo, by decide +kernel, by decide⟩
set_option maxRecDepth 100000 in
theorem cod_X5_agesThatWoreSo : Cond.code yX5_agesThatWoreSo cX5_agesThatWoreSo 4 (some .int) ∈ TG := in3 (i := 77) rfl rfl
set_option maxRecDepth 100000 in
theorem cal_X5_agesThatWoreSo : CalV yX5_agesThatWoreSo cX5_agesThatWoreSo 4 (some .int) 1 := ⟨in3 (i := 76) rfl rfl, inP (i := 49) rfl rfl, ini_X5, cod_X5_agesThatWoreSo, by decide +kernel, by decide⟩
set_option maxRecDepth 100000 in
theorem cod_X5_islands : Cond.code yX5_islands cX5_islands 8 (some .int) ∈ TG := in3 (i := 81) rfl rfl
set_option maxRecDepth 100000 in
theorem cal_X5_islands : CalV yX5_islands cX5_islands 8 (some .int) 2 := ⟨in3 (i := 79) rfl rfl, in3 (i := 80) rfl rfl, ini_X5, cod_X5_islands, by decide +kernel, by decide⟩
set_option maxRecDepth 100000 in
theorem cod_X0_heapOf : Cond.code yX0_heapOf cX0_heapOf 6 (some .int) ∈ TG := in3 (i := 85) rfl rfl
set_option maxRecDepth 100000 in
theorem cal_X0_heapOf : CalV yX0_heapOf cX0_heapOf 6 (some .int) 2 := ⟨in3 (i := 84) rfl rfl, inP (i := 50) rfl rfl, ini_X0, cod_X0_heapOf, by decide +kernel, by decide⟩
set_option maxRecDepth 100000 in
theorem cod_X0_hangingOn : Cond.code yX0_hangingOn cX0_hangingOn 6 (some .int) ∈ TG := in3 (i := 89) rfl rfl
set_option maxRecDepth 100000 in
theorem cal_X0_hangingOn : CalV yX0_hangingOn cX0_hangingOn 6 (some .int) 2 := ⟨in3 (i := 88) rfl rfl, inP (i := 51) rfl rfl, ini_X0, cod_X0_hangingOn, by decide +kernel, by decide⟩
set_option maxRecDepth 100000 in
theorem cod_X5_strip : Cond.code yX5_strip cX5_strip 6 (some .int) ∈ TG := in3 (i := 93) rfl rfl
set_option maxRecDepth 100000 in
theorem cal_X5_strip : CalV yX5_strip cX5_strip 6 (some .int) 1 := ⟨in3 (i := 91) rfl rfl, in3 (i := 92) rfl rfl, ini_X5, cod_X5_strip, by decide +kernel, by decide⟩
set_option maxRecDepth 100000 in
theorem cod_X0_risingFrom : Cond.code yX0_risingFrom cX0_risingFrom 4 (some .int) ∈ TG := in3 (i := 97) rfl rfl
set_option maxRecDepth 100000 in
theorem cal_X0_risingFrom : CalV yX0_risingFrom cX0_risingFrom 4 (some .int) 1 := ⟨in3 (i := 96) rfl rfl, inP (i := 52) rfl rfl, ini_X0, cod_X0_risingFrom, by decide +kernel, by decide⟩
set_option maxRecDepth 100000 in
theorem cod_X5_swap : Cond.code yX5_swap cX5_swap 6 (some .int) ∈ TG := in3 (i := 101) rfl rfl
set_option maxRecDepth 100000 in
theorem cal_X5_swap : CalV yX5_swap cX5_swap 6 (some .int) 0 := ⟨in3 (i := 99) rfl rfl, in3 (i := 100) rfl rfl, ini_X5, cod_X5_swap, by decide +kernel, by decide⟩
set_option maxRecDepth 100000 in
theorem cod_X0_change : Cond.code yX0_change cX0_change 3 none ∈ TG := in3 (i := 105) rfl rfl
set_option maxRecDepth 100000 in
theorem cal_X0_change : CalV yX0_change cX0_change 3 none 2 := ⟨in3 (i := 104) rfl rfl, inP (i := 53) rfl rfl, ini_X0, cod_X0_change, by decide +kernel, by decide⟩
set_option maxRecDepth 100000 in
theorem cod_X0_changeIn : Cond.code yX0_changeIn cX0_changeIn 4 none ∈ TG := in3 (i := 108) rfl rfl
set_option maxRecDepth 100000 in
theorem cal_X0_changeIn : CalS yX0_changeIn cX0_changeIn 4 none 3 := ⟨in3 (i := 107) rfl rfl, ini_X0, cod_X0_changeIn, by decide +kernel, by decide⟩
set_option maxRecDepth 100000 in
theorem cod_X5_oldest : Cond.code yX5_oldest cX5_oldest 4 (some .int) ∈ TG := in3 (i := 112) rfl rfl
set_option maxRecDepth 100000 in
theorem cal_X5_oldest : CalV yX5_oldest cX5_oldest 4 (some .int) 1 := ⟨in3 (i := 110) rfl rfl, in3 (i := 111) rfl rfl, ini_X5, cod_X5_oldest, by decide +kernel, by decide⟩
set_option maxRecDepth 100000 in
theorem cod_X5_bySize : Cond.code yX5_bySize cX5_bySize 6 (some .int) ∈ TG := in3 (i := 115) rfl rfl
set_option maxRecDepth 100000 in
theorem cal_X5_bySize : CalS yX5_bySize cX5_bySize 6 (some .int) 3 := ⟨in3 (i := 114) rfl rfl, ini_X5, cod_X5_bySize, by decide +kernel, by decide⟩
set_option maxRecDepth 100000 in
theorem cod_X5_tightest : Cond.code yX5_tightest cX5_tightest 8 (some .int) ∈ TG := in3 (i := 119) rfl rfl
set_option maxRecDepth 100000 in
theorem cal_X5_tightest : CalV yX5_tightest cX5_tightest 8 (some .int) 1 := ⟨in3 (i := 117) rfl rfl, in3 (i := 118) rfl rfl, ini_X5, cod_X5_tightest, by decide +kernel, by decide⟩
set_option maxRecDepth 100000 in
theorem cod_X5_ageFor : Cond.code yX5_ageFor cX5_ageFor 6 (some .int) ∈ TG := in3 (i := 125) rfl rfl
set_option maxRecDepth 100000 in
theorem cal_X5_ageFor : CalV yX5_ageFor cX5_ageFor 6 (some .int) 1 := ⟨in3 (i := 123) rfl rfl, in3 (i := 124) rfl rfl, ini_X5, cod_X5_ageFor, by decide +kernel, by decide⟩
set_option maxRecDepth 100000 in
theorem cod_X5_entire : Cond.code yX5_entire cX5_entire 3 (some .int) ∈ TG := in3 (i := 129) rfl rfl
set_option maxRecDepth 100000 in
theorem cal_X5_entire : CalV yX5_entire cX5_entire 3 (some .int) 0 := ⟨in3 (i := 127) rfl rfl, in3 (i := 128) rfl rfl, ini_X5, cod_X5_entire, by decide +kernel, by decide⟩
set_option maxRecDepth 100000 in
theorem cod_X5_harm : Cond.code yX5_harm cX5_harm 5 (some .int) ∈ TG := in3 (i := 133) rfl rfl
set_option maxRecDepth 100000 in
theorem cal_X5_harm : CalV yX5_harm cX5_harm 5 (some .int) 1 := ⟨in3 (i := 131) rfl rfl, in3 (i := 132) rfl rfl, ini_X5, cod_X5_harm, by decide +kernel, by decide⟩
set_option maxRecDepth 100000 in
theorem cod_X5_pairs : Cond.code yX5_pairs cX5_pairs 5 (some .int) ∈ TG := in3 (i := 137) rfl rfl
set_option maxRecDepth 100000 in
theorem cal_X5_pairs : CalV yX5_pairs cX5_pairs 5 (some .int) 0 := ⟨in3 (i := 135) rfl rfl, in3 (i := 136) rfl rfl, ini_X5, cod_X5_pairs, by decide +kernel, by decide⟩
set_option maxRecDepth 100000 in
theorem cod_X5_sumOf : Cond.code yX5_sumOf cX5_sumOf 4 (some .int) ∈ TG := in3 (i := 141) rfl rfl
set_option maxRecDepth 100000 in
theorem cal_X5_sumOf : CalV yX5_sumOf cX5_sumOf 4 (some .int) 1 := ⟨in3 (i := 139) rfl rfl, in3 (i := 140) rfl rfl, ini_X5, cod_X5_sumOf, by decide +kernel, by decide⟩
set_option maxRecDepth 100000 in
theorem cod_X5_rank : Cond.code yX5_rank cX5_rank 3 (some .int) ∈ TG := in3 (i := 145) rfl rfl
set_option maxRecDepth 100000 in
theorem cal_X5_rank : CalV yX5_rank cX5_rank 3 (some .int) 1 := ⟨in3 (i := 143) rfl rfl, in3 (i := 144) rfl rfl, ini_X5, cod_X5_rank, by decide +kernel, by decide⟩
set_option maxRecDepth 100000 in
theorem cod_X0_moreWorn : Cond.code yX0_moreWorn cX0_moreWorn 4 (some .int) ∈ TG := in3 (i := 149) rfl rfl
set_option maxRecDepth 100000 in
theorem cal_X0_moreWorn : CalV yX0_moreWorn cX0_moreWorn 4 (some .int) 1 := ⟨in3 (i := 148) rfl rfl, inP (i := 54) rfl rfl, ini_X0, cod_X0_moreWorn, by decide +kernel, by decide⟩
set_option maxRecDepth 100000 in
theorem cod_X5_unlike : Cond.code yX5_unlike cX5_unlike 5 (some .int) ∈ TG := in3 (i := 153) rfl rfl
set_option maxRecDepth 100000 in
theorem cal_X5_unlike : CalV yX5_unlike cX5_unlike 5 (some .int) 0 := ⟨in3 (i := 151) rfl rfl, in3 (i := 152) rfl rfl, ini_X5, cod_X5_unlike, by decide +kernel, by decide⟩
set_option maxRecDepth 100000 in
theorem cod_X5_chance : Cond.code yX5_chance cX5_chance 8 (some .long) ∈ TG := in3 (i := 157) rfl rfl
set_option maxRecDepth 100000 in
theorem cal_X5_chance : CalV yX5_chance cX5_chance 8 (some .long) 4 := ⟨in3 (i := 155) rfl rfl, in3 (i := 156) rfl rfl, ini_X5, cod_X5_chance, by decide +kernel, by decide⟩
set_option maxRecDepth 100000 in
theorem cod_X5_refuseLong : Cond.code yX5_refuseLong cX5_refuseLong 2 (some .long) ∈ TG := in3 (i := 161) rfl rfl
set_option maxRecDepth 100000 in
theorem cal_X5_refuseLong : CalV yX5_refuseLong cX5_refuseLong 2 (some .long) 1 := ⟨in3 (i := 160) rfl rfl, inP (i := 55) rfl rfl, ini_X5, cod_X5_refuseLong, by decide +kernel, by decide⟩
set_option maxRecDepth 100000 in
theorem cod_X5_waysToHole : Cond.code yX5_waysToHole cX5_waysToHole 11 (some .long) ∈ TG := in3 (i := 166) rfl rfl
set_option maxRecDepth 100000 in
theorem cal_X5_waysToHole : CalV yX5_waysToHole cX5_waysToHole 11 (some .long) 3 := ⟨in3 (i := 165) rfl rfl, inP (i := 56) rfl rfl, ini_X5, cod_X5_waysToHole, by decide +kernel, by decide⟩
set_option maxRecDepth 100000 in
theorem cod_X5_partOf : Cond.code yX5_partOf cX5_partOf 12 (some .long) ∈ TG := in3 (i := 169) rfl rfl
set_option maxRecDepth 100000 in
theorem cal_X5_partOf : CalS yX5_partOf cX5_partOf 12 (some .long) 3 := ⟨in3 (i := 168) rfl rfl, ini_X5, cod_X5_partOf, by decide +kernel, by decide⟩
set_option maxRecDepth 100000 in
theorem cod_X5_mean : Cond.code yX5_mean cX5_mean 2 (some .long) ∈ TG := in3 (i := 173) rfl rfl
set_option maxRecDepth 100000 in
theorem cal_X5_mean : CalV yX5_mean cX5_mean 2 (some .long) 1 := ⟨in3 (i := 171) rfl rfl, in3 (i := 172) rfl rfl, ini_X5, cod_X5_mean, by decide +kernel, by decide⟩
set_option maxRecDepth 100000 in
theorem cod_X0_ageTogether : Cond.code yX0_ageTogether cX0_ageTogether 3 (some .int) ∈ TG := in3 (i := 177) rfl rfl
set_option maxRecDepth 100000 in
theorem cal_X0_ageTogether : CalV yX0_ageTogether cX0_ageTogether 3 (some .int) 0 := ⟨in3 (i := 176) rfl rfl, inP (i := 57) rfl rfl, ini_X0, cod_X0_ageTogether, by decide +kernel, by decide⟩
set_option maxRecDepth 100000 in
theorem cod_X5_lots : Cond.code yX5_lots cX5_lots 8 (some .int) ∈ TG := in3 (i := 182) rfl rfl
set_option maxRecDepth 100000 in
theorem cal_X5_lots : CalV yX5_lots cX5_lots 8 (some .int) 3 := ⟨in3 (i := 180) rfl rfl, in3 (i := 181) rfl rfl, ini_X5, cod_X5_lots, by decide +kernel, by decide⟩
set_option maxRecDepth 100000 in
theorem cod_X5_image : Cond.code yX5_image cX5_image 1 (some .int) ∈ TG := in3 (i := 188) rfl rfl
set_option maxRecDepth 100000 in
theorem cal_X5_image : CalV yX5_image cX5_image 1 (some .int) 0 := ⟨in3 (i := 186) rfl rfl, in3 (i := 187) rfl rfl, ini_X5, cod_X5_image, by decide +kernel, by decide⟩
set_option maxRecDepth 100000 in
theorem cod_X5_restore : Cond.code yX5_restore cX5_restore 1 (some .int) ∈ TG := in3 (i := 192) rfl rfl
set_option maxRecDepth 100000 in
theorem cal_X5_restore : CalV yX5_restore cX5_restore 1 (some .int) 0 := ⟨in3 (i := 190) rfl rfl, in3 (i := 191) rfl rfl, ini_X5, cod_X5_restore, by decide +kernel, by decide⟩
set_option maxRecDepth 100000 in
theorem cod_X5_count : Cond.code yX5_count cX5_count 2 (some .int) ∈ TG := in3 (i := 196) rfl rfl
set_option maxRecDepth 100000 in
theorem cal_X5_count : CalV yX5_count cX5_count 2 (some .int) 1 := ⟨in3 (i := 194) rfl rfl, in3 (i := 195) rfl rfl, ini_X5, cod_X5_count, by decide +kernel, by decide⟩
set_option maxRecDepth 100000 in
theorem cod_X6_init : Cond.code yX6_init cX6_init 1 none ∈ TG := in3 (i := 201) rfl rfl
set_option maxRecDepth 100000 in
theorem iin_X6_init : Cond.instanceMethod yX6_init ∈ TG := in3 (i := 200) rfl rfl
set_option maxRecDepth 100000 in
theorem cod_X6_feed : Cond.code yX6_feed cX6_feed 2 (some .int) ∈ TG := in4 (i := 96) rfl rfl
set_option maxRecDepth 100000 in
theorem cal_X6_feed : CalV yX6_feed cX6_feed 2 (some .int) 1 := ⟨in4 (i := 94) rfl rfl, in4 (i := 95) rfl rfl, ini_X6, cod_X6_feed, by decide +kernel, by decide⟩
set_option maxRecDepth 100000 in
theorem cod_X6_refuse : Cond.code yX6_refuse cX6_refuse 2 (some .int) ∈ TG := in4 (i := 100) rfl rfl
set_option maxRecDepth 100000 in
theorem cal_X6_refuse : CalV yX6_refuse cX6_refuse 2 (some .int) 1 := ⟨in4 (i := 99) rfl rfl, inP (i := 58) rfl rfl, ini_X6, cod_X6_refuse, by decide +kernel, by decide⟩
set_option maxRecDepth 100000 in
theorem cod_X6_trousers : Cond.code yX6_trousers cX6_trousers 2 (some .int) ∈ TG := in4 (i := 104) rfl rfl
set_option maxRecDepth 100000 in
theorem cal_X6_trousers : CalV yX6_trousers cX6_trousers 2 (some .int) 0 := ⟨in4 (i := 102) rfl rfl, in4 (i := 103) rfl rfl, ini_X6, cod_X6_trousers, by decide +kernel, by decide⟩
set_option maxRecDepth 100000 in
theorem cod_X6_readStatement : Cond.code yX6_readStatement cX6_readStatement 3 none ∈ TG := in4 (i := 108) rfl rfl
set_option maxRecDepth 100000 in
theorem cal_X6_readStatement : CalV yX6_readStatement cX6_readStatement 3 none 0 := ⟨in4 (i := 107) rfl rfl, inP (i := 59) rfl rfl, ini_X6, cod_X6_readStatement, by decide +kernel, by decide⟩
set_option maxRecDepth 100000 in
theorem cod_X6_here : Cond.code yX6_here cX6_here 1 (some .int) ∈ TG := in4 (i := 112) rfl rfl
set_option maxRecDepth 100000 in
theorem cal_X6_here : CalV yX6_here cX6_here 1 (some .int) 0 := ⟨in4 (i := 111) rfl rfl, inP (i := 60) rfl rfl, ini_X6, cod_X6_here, by decide +kernel, by decide⟩
set_option maxRecDepth 100000 in
theorem cod_X6_isLetter : Cond.code yX6_isLetter cX6_isLetter 1 (some .boolean) ∈ TG := in4 (i := 115) rfl rfl
set_option maxRecDepth 100000 in
theorem cal_X6_isLetter : CalS yX6_isLetter cX6_isLetter 1 (some .boolean) 1 := ⟨in4 (i := 114) rfl rfl, ini_X6, cod_X6_isLetter, by decide +kernel, by decide⟩
set_option maxRecDepth 100000 in
theorem cod_X6_readNumbers : Cond.code yX6_readNumbers cX6_readNumbers 3 none ∈ TG := in4 (i := 119) rfl rfl
set_option maxRecDepth 100000 in
theorem cal_X6_readNumbers : CalV yX6_readNumbers cX6_readNumbers 3 none 2 := ⟨in4 (i := 118) rfl rfl, inP (i := 61) rfl rfl, ini_X6, cod_X6_readNumbers, by decide +kernel, by decide⟩
set_option maxRecDepth 100000 in
theorem cod_X6_readDigits : Cond.code yX6_readDigits cX6_readDigits 4 (some .int) ∈ TG := in4 (i := 123) rfl rfl
set_option maxRecDepth 100000 in
theorem cal_X6_readDigits : CalV yX6_readDigits cX6_readDigits 4 (some .int) 1 := ⟨in4 (i := 122) rfl rfl, inP (i := 62) rfl rfl, ini_X6, cod_X6_readDigits, by decide +kernel, by decide⟩
set_option maxRecDepth 100000 in
theorem cod_X6_in : Cond.code yX6_in cX6_in 6 (some .boolean) ∈ TG := in4 (i := 128) rfl rfl
set_option maxRecDepth 100000 in
theorem cal_X6_in : CalS yX6_in cX6_in 6 (some .boolean) 3 := ⟨in4 (i := 127) rfl rfl, ini_X6, cod_X6_in, by decide +kernel, by decide⟩
set_option maxRecDepth 100000 in
theorem cod_X6_think : Cond.code yX6_think cX6_think 1 none ∈ TG := in4 (i := 132) rfl rfl
set_option maxRecDepth 100000 in
theorem cal_X6_think : CalV yX6_think cX6_think 1 none 0 := ⟨in4 (i := 131) rfl rfl, inP (i := 63) rfl rfl, ini_X6, cod_X6_think, by decide +kernel, by decide⟩
set_option maxRecDepth 100000 in
theorem cod_X6_carryAll : Cond.code yX6_carryAll cX6_carryAll 4 none ∈ TG := in4 (i := 136) rfl rfl
set_option maxRecDepth 100000 in
theorem cal_X6_carryAll : CalV yX6_carryAll cX6_carryAll 4 none 2 := ⟨in4 (i := 135) rfl rfl, inP (i := 64) rfl rfl, ini_X6, cod_X6_carryAll, by decide +kernel, by decide⟩
set_option maxRecDepth 100000 in
theorem cod_X6_carry : Cond.code yX6_carry cX6_carry 2 (some .int) ∈ TG := in4 (i := 140) rfl rfl
set_option maxRecDepth 100000 in
theorem cal_X6_carry : CalV yX6_carry cX6_carry 2 (some .int) 1 := ⟨in4 (i := 139) rfl rfl, inP (i := 65) rfl rfl, ini_X6, cod_X6_carry, by decide +kernel, by decide⟩
set_option maxRecDepth 100000 in
theorem cod_X6_comesTold : Cond.code yX6_comesTold cX6_comesTold 7 (some .boolean) ∈ TG := in4 (i := 144) rfl rfl
set_option maxRecDepth 100000 in
theorem cal_X6_comesTold : CalV yX6_comesTold cX6_comesTold 7 (some .boolean) 1 := ⟨in4 (i := 143) rfl rfl, inP (i := 66) rfl rfl, ini_X6, cod_X6_comesTold, by decide +kernel, by decide⟩
set_option maxRecDepth 100000 in
theorem cod_X6_makeCell : Cond.code yX6_makeCell cX6_makeCell 5 none ∈ TG := in4 (i := 148) rfl rfl
set_option maxRecDepth 100000 in
theorem cal_X6_makeCell : CalV yX6_makeCell cX6_makeCell 5 none 4 := ⟨in4 (i := 147) rfl rfl, inP (i := 67) rfl rfl, ini_X6, cod_X6_makeCell, by decide +kernel, by decide⟩
set_option maxRecDepth 100000 in
theorem cod_X6_pieceComes : Cond.code yX6_pieceComes cX6_pieceComes 4 none ∈ TG := in4 (i := 152) rfl rfl
set_option maxRecDepth 100000 in
theorem cal_X6_pieceComes : CalV yX6_pieceComes cX6_pieceComes 4 none 3 := ⟨in4 (i := 151) rfl rfl, inP (i := 68) rfl rfl, ini_X6, cod_X6_pieceComes, by decide +kernel, by decide⟩
set_option maxRecDepth 100000 in
theorem cod_X6_isPiece : Cond.code yX6_isPiece cX6_isPiece 2 (some .boolean) ∈ TG := in4 (i := 156) rfl rfl
set_option maxRecDepth 100000 in
theorem cal_X6_isPiece : CalV yX6_isPiece cX6_isPiece 2 (some .boolean) 1 := ⟨in4 (i := 155) rfl rfl, inP (i := 69) rfl rfl, ini_X6, cod_X6_isPiece, by decide +kernel, by decide⟩
set_option maxRecDepth 100000 in
theorem cod_X6_putOn : Cond.code yX6_putOn cX6_putOn 3 none ∈ TG := in4 (i := 160) rfl rfl
set_option maxRecDepth 100000 in
theorem cal_X6_putOn : CalV yX6_putOn cX6_putOn 3 none 2 := ⟨in4 (i := 159) rfl rfl, inP (i := 70) rfl rfl, ini_X6, cod_X6_putOn, by decide +kernel, by decide⟩
set_option maxRecDepth 100000 in
theorem cod_X6_goYears : Cond.code yX6_goYears cX6_goYears 3 none ∈ TG := in4 (i := 165) rfl rfl
set_option maxRecDepth 100000 in
theorem cal_X6_goYears : CalV yX6_goYears cX6_goYears 3 none 1 := ⟨in4 (i := 164) rfl rfl, inP (i := 71) rfl rfl, ini_X6, cod_X6_goYears, by decide +kernel, by decide⟩
set_option maxRecDepth 100000 in
theorem cod_X6_yearOn : Cond.code yX6_yearOn cX6_yearOn 2 none ∈ TG := in4 (i := 169) rfl rfl
set_option maxRecDepth 100000 in
theorem cal_X6_yearOn : CalV yX6_yearOn cX6_yearOn 2 none 0 := ⟨in4 (i := 168) rfl rfl, inP (i := 72) rfl rfl, ini_X6, cod_X6_yearOn, by decide +kernel, by decide⟩
set_option maxRecDepth 100000 in
theorem cod_X6_wearsIn : Cond.code yX6_wearsIn cX6_wearsIn 4 (some .int) ∈ TG := in4 (i := 173) rfl rfl
set_option maxRecDepth 100000 in
theorem cal_X6_wearsIn : CalV yX6_wearsIn cX6_wearsIn 4 (some .int) 2 := ⟨in4 (i := 172) rfl rfl, inP (i := 73) rfl rfl, ini_X6, cod_X6_wearsIn, by decide +kernel, by decide⟩
set_option maxRecDepth 100000 in
theorem cod_X6_pullOf : Cond.code yX6_pullOf cX6_pullOf 6 (some .int) ∈ TG := in4 (i := 177) rfl rfl
set_option maxRecDepth 100000 in
theorem cal_X6_pullOf : CalV yX6_pullOf cX6_pullOf 6 (some .int) 1 := ⟨in4 (i := 176) rfl rfl, inP (i := 74) rfl rfl, ini_X6, cod_X6_pullOf, by decide +kernel, by decide⟩
set_option maxRecDepth 100000 in
theorem cod_X6_besideOf : Cond.code yX6_besideOf cX6_besideOf 2 (some .int) ∈ TG := in4 (i := 180) rfl rfl
set_option maxRecDepth 100000 in
theorem cal_X6_besideOf : CalS yX6_besideOf cX6_besideOf 2 (some .int) 2 := ⟨in4 (i := 179) rfl rfl, ini_X6, cod_X6_besideOf, by decide +kernel, by decide⟩
set_option maxRecDepth 100000 in
theorem cod_X6_apart : Cond.code yX6_apart cX6_apart 2 (some .int) ∈ TG := in4 (i := 183) rfl rfl
set_option maxRecDepth 100000 in
theorem cal_X6_apart : CalS yX6_apart cX6_apart 2 (some .int) 2 := ⟨in4 (i := 182) rfl rfl, ini_X6, cod_X6_apart, by decide +kernel, by decide⟩
set_option maxRecDepth 100000 in
theorem cod_X6_held : Cond.code yX6_held cX6_held 2 (some .int) ∈ TG := in4 (i := 186) rfl rfl
set_option maxRecDepth 100000 in
theorem cal_X6_held : CalS yX6_held cX6_held 2 (some .int) 2 := ⟨in4 (i := 185) rfl rfl, ini_X6, cod_X6_held, by decide +kernel, by decide⟩
set_option maxRecDepth 100000 in
theorem cod_X6_again : Cond.code yX6_again cX6_again 1 none ∈ TG := in4 (i := 190) rfl rfl
set_option maxRecDepth 100000 in
theorem cal_X6_again : CalV yX6_again cX6_again 1 none 0 := ⟨in4 (i := 189) rfl rfl, inP (i := 75) rfl rfl, ini_X6, cod_X6_again, by decide +kernel, by decide⟩
set_option maxRecDepth 100000 in
theorem cod_X6_image : Cond.code yX6_image cX6_image 1 (some .int) ∈ TG := in4 (i := 194) rfl rfl
set_option maxRecDepth 100000 in
theorem cal_X6_image : CalV yX6_image cX6_image 1 (some .int) 0 := ⟨in4 (i := 192) rfl rfl, in4 (i := 193) rfl rfl, ini_X6, cod_X6_image, by decide +kernel, by decide⟩
set_option maxRecDepth 100000 in
theorem cod_X6_restore : Cond.code yX6_restore cX6_restore 1 (some .int) ∈ TG := in4 (i := 198) rfl rfl
set_option maxRecDepth 100000 in
theorem cal_X6_restore : CalV yX6_restore cX6_restore 1 (some .int) 0 := ⟨in4 (i := 196) rfl rfl, in4 (i := 197) rfl rfl, ini_X6, cod_X6_restore, by decide +kernel, by decide⟩
set_option maxRecDepth 100000 in
theorem cod_X6_back : Cond.code yX6_back cX6_back 2 (some .int) ∈ TG := in4 (i := 202) rfl rfl
set_option maxRecDepth 100000 in
theorem cal_X6_back : CalV yX6_back cX6_back 2 (some .int) 0 := ⟨in4 (i := 200) rfl rfl, in4 (i := 201) rfl rfl, ini_X6, cod_X6_back, by decide +kernel, by decide⟩
set_option maxRecDepth 100000 in
theorem cod_X6_cellOf : Cond.code yX6_cellOf cX6_cellOf 3 (some .int) ∈ TG := in4 (i := 206) rfl rfl
set_option maxRecDepth 100000 in
theorem cal_X6_cellOf : CalV yX6_cellOf cX6_cellOf 3 (some .int) 2 := ⟨in4 (i := 204) rfl rfl, in4 (i := 205) rfl rfl, ini_X6, cod_X6_cellOf, by decide +kernel, by decide⟩
set_option maxRecDepth 100000 in
theorem cod_X6_isCell : Cond.code yX6_isCell cX6_isCell 1 (some .boolean) ∈ TG := in4 (i := 209) rfl rfl
set_option maxRecDepth 100000 in
theorem cal_X6_isCell : CalS yX6_isCell cX6_isCell 1 (some .boolean) 1 := ⟨in4 (i := 208) rfl rfl, ini_X6, cod_X6_isCell, by decide +kernel, by decide⟩
set_option maxRecDepth 100000 in
theorem cod_X6_holdsOf : Cond.code yX6_holdsOf cX6_holdsOf 2 (some .int) ∈ TG := in4 (i := 215) rfl rfl
set_option maxRecDepth 100000 in
theorem cal_X6_holdsOf : CalV yX6_holdsOf cX6_holdsOf 2 (some .int) 1 := ⟨in4 (i := 214) rfl rfl, inP (i := 76) rfl rfl, ini_X6, cod_X6_holdsOf, by decide +kernel, by decide⟩
set_option maxRecDepth 100000 in
theorem cod_X6_isHole : Cond.code yX6_isHole cX6_isHole 2 (some .boolean) ∈ TG := in4 (i := 219) rfl rfl
set_option maxRecDepth 100000 in
theorem cal_X6_isHole : CalV yX6_isHole cX6_isHole 2 (some .boolean) 1 := ⟨in4 (i := 218) rfl rfl, inP (i := 77) rfl rfl, ini_X6, cod_X6_isHole, by decide +kernel, by decide⟩
set_option maxRecDepth 100000 in
theorem cod_X6_pieceOf : Cond.code yX6_pieceOf cX6_pieceOf 3 (some .int) ∈ TG := in4 (i := 223) rfl rfl
set_option maxRecDepth 100000 in
theorem cal_X6_pieceOf : CalV yX6_pieceOf cX6_pieceOf 3 (some .int) 2 := ⟨in4 (i := 221) rfl rfl, in4 (i := 222) rfl rfl, ini_X6, cod_X6_pieceOf, by decide +kernel, by decide⟩
set_option maxRecDepth 100000 in
theorem cod_X6_piece : Cond.code yX6_piece cX6_piece 5 (some .int) ∈ TG := in4 (i := 228) rfl rfl
set_option maxRecDepth 100000 in
theorem cal_X6_piece : CalV yX6_piece cX6_piece 5 (some .int) 3 := ⟨in4 (i := 226) rfl rfl, in4 (i := 227) rfl rfl, ini_X6, cod_X6_piece, by decide +kernel, by decide⟩
set_option maxRecDepth 100000 in
theorem cod_X6_cell : Cond.code yX6_cell cX6_cell 7 (some .int) ∈ TG := in4 (i := 233) rfl rfl
set_option maxRecDepth 100000 in
theorem cal_X6_cell : CalV yX6_cell cX6_cell 7 (some .int) 4 := ⟨in4 (i := 231) rfl rfl, in4 (i := 232) rfl rfl, ini_X6, cod_X6_cell, by decide +kernel, by decide⟩
set_option maxRecDepth 100000 in
theorem cod_X6_keepTurn : Cond.code yX6_keepTurn cX6_keepTurn 2 none ∈ TG := in4 (i := 237) rfl rfl
set_option maxRecDepth 100000 in
theorem cal_X6_keepTurn : CalV yX6_keepTurn cX6_keepTurn 2 none 0 := ⟨in4 (i := 236) rfl rfl, inP (i := 78) rfl rfl, ini_X6, cod_X6_keepTurn, by decide +kernel, by decide⟩
set_option maxRecDepth 100000 in
theorem cod_X6_puts : Cond.code yX6_puts cX6_puts 4 (some .int) ∈ TG := in5 (i := 1) rfl rfl
set_option maxRecDepth 100000 in
theorem cal_X6_puts : CalV yX6_puts cX6_puts 4 (some .int) 2 := ⟨in4 (i := 239) rfl rfl, in5 (i := 0) rfl rfl, ini_X6, cod_X6_puts, by decide +kernel, by decide⟩
set_option maxRecDepth 100000 in
theorem cod_X6_allPull : Cond.code yX6_allPull cX6_allPull 3 (some .int) ∈ TG := in5 (i := 5) rfl rfl
set_option maxRecDepth 100000 in
theorem cal_X6_allPull : CalV yX6_allPull cX6_allPull 3 (some .int) 0 := ⟨in5 (i := 4) rfl rfl, inP (i := 79) rfl rfl, ini_X6, cod_X6_allPull, by decide +kernel, by decide⟩
set_option maxRecDepth 100000 in
theorem cod_X6_wears : Cond.code yX6_wears cX6_wears 5 (some .int) ∈ TG := in5 (i := 9) rfl rfl
set_option maxRecDepth 100000 in
theorem cal_X6_wears : CalV yX6_wears cX6_wears 5 (some .int) 2 := ⟨in5 (i := 7) rfl rfl, in5 (i := 8) rfl rfl, ini_X6, cod_X6_wears, by decide +kernel, by decide⟩
set_option maxRecDepth 100000 in
theorem cod_X6_wrongNumber : Cond.code yX6_wrongNumber cX6_wrongNumber 3 (some .int) ∈ TG := in5 (i := 12) rfl rfl
set_option maxRecDepth 100000 in
theorem cal_X6_wrongNumber : CalS yX6_wrongNumber cX6_wrongNumber 3 (some .int) 3 := ⟨in5 (i := 11) rfl rfl, ini_X6, cod_X6_wrongNumber, by decide +kernel, by decide⟩
set_option maxRecDepth 100000 in
theorem cod_X6_years : Cond.code yX6_years cX6_years 3 (some .int) ∈ TG := in5 (i := 16) rfl rfl
set_option maxRecDepth 100000 in
theorem cal_X6_years : CalV yX6_years cX6_years 3 (some .int) 1 := ⟨in5 (i := 14) rfl rfl, in5 (i := 15) rfl rfl, ini_X6, cod_X6_years, by decide +kernel, by decide⟩
set_option maxRecDepth 100000 in
theorem cod_X6_holeBits : Cond.code yX6_holeBits cX6_holeBits 3 (some .int) ∈ TG := in5 (i := 20) rfl rfl
set_option maxRecDepth 100000 in
theorem cal_X6_holeBits : CalV yX6_holeBits cX6_holeBits 3 (some .int) 0 := ⟨in5 (i := 19) rfl rfl, inP (i := 80) rfl rfl, ini_X6, cod_X6_holeBits, by decide +kernel, by decide⟩
set_option maxRecDepth 100000 in
theorem cod_X6_onesOf : Cond.code yX6_onesOf cX6_onesOf 3 (some .int) ∈ TG := in5 (i := 23) rfl rfl
set_option maxRecDepth 100000 in
theorem cal_X6_onesOf : CalS yX6_onesOf cX6_onesOf 3 (some .int) 1 := ⟨in5 (i := 22) rfl rfl, ini_X6, cod_X6_onesOf, by decide +kernel, by decide⟩
set_option maxRecDepth 100000 in
theorem cod_X6_behind : Cond.code yX6_behind cX6_behind 6 (some .int) ∈ TG := in5 (i := 27) rfl rfl
set_option maxRecDepth 100000 in
theorem cal_X6_behind : CalV yX6_behind cX6_behind 6 (some .int) 3 := ⟨in5 (i := 25) rfl rfl, in5 (i := 26) rfl rfl, ini_X6, cod_X6_behind, by decide +kernel, by decide⟩
set_option maxRecDepth 100000 in
theorem cod_X6_wrongBit : Cond.code yX6_wrongBit cX6_wrongBit 3 (some .int) ∈ TG := in5 (i := 30) rfl rfl
set_option maxRecDepth 100000 in
theorem cal_X6_wrongBit : CalS yX6_wrongBit cX6_wrongBit 3 (some .int) 3 := ⟨in5 (i := 29) rfl rfl, ini_X6, cod_X6_wrongBit, by decide +kernel, by decide⟩
set_option maxRecDepth 100000 in
theorem cod_X6_all : Cond.code yX6_all cX6_all 5 (some .int) ∈ TG := in5 (i := 34) rfl rfl
set_option maxRecDepth 100000 in
theorem cal_X6_all : CalV yX6_all cX6_all 5 (some .int) 2 := ⟨in5 (i := 32) rfl rfl, in5 (i := 33) rfl rfl, ini_X6, cod_X6_all, by decide +kernel, by decide⟩
set_option maxRecDepth 100000 in
theorem cod_X6_allWear : Cond.code yX6_allWear cX6_allWear 3 (some .int) ∈ TG := in5 (i := 38) rfl rfl
set_option maxRecDepth 100000 in
theorem cal_X6_allWear : CalV yX6_allWear cX6_allWear 3 (some .int) 0 := ⟨in5 (i := 37) rfl rfl, inP (i := 81) rfl rfl, ini_X6, cod_X6_allWear, by decide +kernel, by decide⟩
set_option maxRecDepth 100000 in
theorem cod_X6_holes : Cond.code yX6_holes cX6_holes 5 (some .int) ∈ TG := in5 (i := 42) rfl rfl
set_option maxRecDepth 100000 in
theorem cal_X6_holes : CalV yX6_holes cX6_holes 5 (some .int) 1 := ⟨in5 (i := 40) rfl rfl, in5 (i := 41) rfl rfl, ini_X6, cod_X6_holes, by decide +kernel, by decide⟩
set_option maxRecDepth 100000 in
theorem cod_X6_layLasts : Cond.code yX6_layLasts cX6_layLasts 3 none ∈ TG := in5 (i := 47) rfl rfl
set_option maxRecDepth 100000 in
theorem cal_X6_layLasts : CalV yX6_layLasts cX6_layLasts 3 none 0 := ⟨in5 (i := 46) rfl rfl, inP (i := 82) rfl rfl, ini_X6, cod_X6_layLasts, by decide +kernel, by decide⟩
set_option maxRecDepth 100000 in
theorem cod_X6_firstOf : Cond.code yX6_firstOf cX6_firstOf 3 (some .int) ∈ TG := in5 (i := 51) rfl rfl
set_option maxRecDepth 100000 in
theorem cal_X6_firstOf : CalV yX6_firstOf cX6_firstOf 3 (some .int) 0 := ⟨in5 (i := 50) rfl rfl, inP (i := 83) rfl rfl, ini_X6, cod_X6_firstOf, by decide +kernel, by decide⟩
set_option maxRecDepth 100000 in
theorem cod_X6_lasts : Cond.code yX6_lasts cX6_lasts 2 (some .int) ∈ TG := in5 (i := 55) rfl rfl
set_option maxRecDepth 100000 in
theorem cal_X6_lasts : CalV yX6_lasts cX6_lasts 2 (some .int) 1 := ⟨in5 (i := 53) rfl rfl, in5 (i := 54) rfl rfl, ini_X6, cod_X6_lasts, by decide +kernel, by decide⟩
set_option maxRecDepth 100000 in
theorem cod_X6_fits : Cond.code yX6_fits cX6_fits 8 (some .int) ∈ TG := in5 (i := 59) rfl rfl
set_option maxRecDepth 100000 in
theorem cal_X6_fits : CalV yX6_fits cX6_fits 8 (some .int) 2 := ⟨in5 (i := 57) rfl rfl, in5 (i := 58) rfl rfl, ini_X6, cod_X6_fits, by decide +kernel, by decide⟩
set_option maxRecDepth 100000 in
theorem cod_X6_bestPiece : Cond.code yX6_bestPiece cX6_bestPiece 5 (some .int) ∈ TG := in5 (i := 63) rfl rfl
set_option maxRecDepth 100000 in
theorem cal_X6_bestPiece : CalV yX6_bestPiece cX6_bestPiece 5 (some .int) 1 := ⟨in5 (i := 61) rfl rfl, in5 (i := 62) rfl rfl, ini_X6, cod_X6_bestPiece, by decide +kernel, by decide⟩
set_option maxRecDepth 100000 in
theorem cod_X6_mend : Cond.code yX6_mend cX6_mend 4 (some .int) ∈ TG := in5 (i := 67) rfl rfl
set_option maxRecDepth 100000 in
theorem cal_X6_mend : CalV yX6_mend cX6_mend 4 (some .int) 0 := ⟨in5 (i := 65) rfl rfl, in5 (i := 66) rfl rfl, ini_X6, cod_X6_mend, by decide +kernel, by decide⟩
set_option maxRecDepth 100000 in
theorem cod_X6_freeBits : Cond.code yX6_freeBits cX6_freeBits 3 (some .int) ∈ TG := in5 (i := 71) rfl rfl
set_option maxRecDepth 100000 in
theorem cal_X6_freeBits : CalV yX6_freeBits cX6_freeBits 3 (some .int) 0 := ⟨in5 (i := 70) rfl rfl, inP (i := 84) rfl rfl, ini_X6, cod_X6_freeBits, by decide +kernel, by decide⟩
set_option maxRecDepth 100000 in
theorem cod_X6_keep : Cond.code yX6_keep cX6_keep 6 (some .int) ∈ TG := in5 (i := 75) rfl rfl
set_option maxRecDepth 100000 in
theorem cal_X6_keep : CalV yX6_keep cX6_keep 6 (some .int) 0 := ⟨in5 (i := 73) rfl rfl, in5 (i := 74) rfl rfl, ini_X6, cod_X6_keep, by decide +kernel, by decide⟩
set_option maxRecDepth 100000 in
theorem cod_X6_placed : Cond.code yX6_placed cX6_placed 10 (some .int) ∈ TG := in5 (i := 79) rfl rfl
set_option maxRecDepth 100000 in
theorem cal_X6_placed : CalV yX6_placed cX6_placed 10 (some .int) 1 := ⟨in5 (i := 77) rfl rfl, in5 (i := 78) rfl rfl, ini_X6, cod_X6_placed, by decide +kernel, by decide⟩
set_option maxRecDepth 100000 in
theorem cod_X6_layFree : Cond.code yX6_layFree cX6_layFree 2 none ∈ TG := in5 (i := 83) rfl rfl
set_option maxRecDepth 100000 in
theorem cal_X6_layFree : CalV yX6_layFree cX6_layFree 2 none 0 := ⟨in5 (i := 82) rfl rfl, inP (i := 85) rfl rfl, ini_X6, cod_X6_layFree, by decide +kernel, by decide⟩
set_option maxRecDepth 100000 in
theorem cod_X6_areApart : Cond.code yX6_areApart cX6_areApart 4 (some .boolean) ∈ TG := in5 (i := 88) rfl rfl
set_option maxRecDepth 100000 in
theorem cal_X6_areApart : CalV yX6_areApart cX6_areApart 4 (some .boolean) 0 := ⟨in5 (i := 87) rfl rfl, inP (i := 86) rfl rfl, ini_X6, cod_X6_areApart, by decide +kernel, by decide⟩
set_option maxRecDepth 100000 in
theorem cod_X6_when : Cond.code yX6_when cX6_when 8 (some .int) ∈ TG := in5 (i := 92) rfl rfl
set_option maxRecDepth 100000 in
theorem cal_X6_when : CalV yX6_when cX6_when 8 (some .int) 2 := ⟨in5 (i := 90) rfl rfl, in5 (i := 91) rfl rfl, ini_X6, cod_X6_when, by decide +kernel, by decide⟩
set_option maxRecDepth 100000 in
theorem cod_X6_turns : Cond.code yX6_turns cX6_turns 3 (some .int) ∈ TG := in5 (i := 96) rfl rfl
set_option maxRecDepth 100000 in
theorem cal_X6_turns : CalV yX6_turns cX6_turns 3 (some .int) 1 := ⟨in5 (i := 94) rfl rfl, in5 (i := 95) rfl rfl, ini_X6, cod_X6_turns, by decide +kernel, by decide⟩
set_option maxRecDepth 100000 in
theorem cod_X6_playAll : Cond.code yX6_playAll cX6_playAll 2 none ∈ TG := in5 (i := 100) rfl rfl
set_option maxRecDepth 100000 in
theorem cal_X6_playAll : CalV yX6_playAll cX6_playAll 2 none 0 := ⟨in5 (i := 99) rfl rfl, inP (i := 87) rfl rfl, ini_X6, cod_X6_playAll, by decide +kernel, by decide⟩
set_option maxRecDepth 100000 in
theorem cod_X6_canTry : Cond.code yX6_canTry cX6_canTry 4 (some .boolean) ∈ TG := in5 (i := 104) rfl rfl
set_option maxRecDepth 100000 in
theorem cal_X6_canTry : CalV yX6_canTry cX6_canTry 4 (some .boolean) 1 := ⟨in5 (i := 103) rfl rfl, inP (i := 88) rfl rfl, ini_X6, cod_X6_canTry, by decide +kernel, by decide⟩
set_option maxRecDepth 100000 in
theorem cod_X6_takeWorth : Cond.code yX6_takeWorth cX6_takeWorth 3 none ∈ TG := in5 (i := 108) rfl rfl
set_option maxRecDepth 100000 in
theorem cal_X6_takeWorth : CalV yX6_takeWorth cX6_takeWorth 3 none 2 := ⟨in5 (i := 107) rfl rfl, inP (i := 89) rfl rfl, ini_X6, cod_X6_takeWorth, by decide +kernel, by decide⟩
set_option maxRecDepth 100000 in
theorem cod_X6_isBetter : Cond.code yX6_isBetter cX6_isBetter 3 (some .boolean) ∈ TG := in5 (i := 111) rfl rfl
set_option maxRecDepth 100000 in
theorem cal_X6_isBetter : CalS yX6_isBetter cX6_isBetter 3 (some .boolean) 3 := ⟨in5 (i := 110) rfl rfl, ini_X6, cod_X6_isBetter, by decide +kernel, by decide⟩
set_option maxRecDepth 100000 in
theorem cod_X6_layTried : Cond.code yX6_layTried cX6_layTried 3 none ∈ TG := in5 (i := 115) rfl rfl
set_option maxRecDepth 100000 in
theorem cal_X6_layTried : CalV yX6_layTried cX6_layTried 3 none 1 := ⟨in5 (i := 114) rfl rfl, inP (i := 90) rfl rfl, ini_X6, cod_X6_layTried, by decide +kernel, by decide⟩
set_option maxRecDepth 100000 in
theorem cod_X6_whose : Cond.code yX6_whose cX6_whose 8 (some .int) ∈ TG := in5 (i := 119) rfl rfl
set_option maxRecDepth 100000 in
theorem cal_X6_whose : CalV yX6_whose cX6_whose 8 (some .int) 2 := ⟨in5 (i := 117) rfl rfl, in5 (i := 118) rfl rfl, ini_X6, cod_X6_whose, by decide +kernel, by decide⟩
set_option maxRecDepth 100000 in
theorem cod_X6_isRow : Cond.code yX6_isRow cX6_isRow 4 (some .boolean) ∈ TG := in5 (i := 123) rfl rfl
set_option maxRecDepth 100000 in
theorem cal_X6_isRow : CalV yX6_isRow cX6_isRow 4 (some .boolean) 1 := ⟨in5 (i := 122) rfl rfl, inP (i := 91) rfl rfl, ini_X6, cod_X6_isRow, by decide +kernel, by decide⟩
set_option maxRecDepth 100000 in
theorem cod_X6_islands : Cond.code yX6_islands cX6_islands 9 (some .int) ∈ TG := in5 (i := 127) rfl rfl
set_option maxRecDepth 100000 in
theorem cal_X6_islands : CalV yX6_islands cX6_islands 9 (some .int) 2 := ⟨in5 (i := 125) rfl rfl, in5 (i := 126) rfl rfl, ini_X6, cod_X6_islands, by decide +kernel, by decide⟩
set_option maxRecDepth 100000 in
theorem cod_X6_layHeaps : Cond.code yX6_layHeaps cX6_layHeaps 7 none ∈ TG := in5 (i := 131) rfl rfl
set_option maxRecDepth 100000 in
theorem cal_X6_layHeaps : CalV yX6_layHeaps cX6_layHeaps 7 none 1 := ⟨in5 (i := 130) rfl rfl, inP (i := 92) rfl rfl, ini_X6, cod_X6_layHeaps, by decide +kernel, by decide⟩
set_option maxRecDepth 100000 in
theorem cod_X6_strip : Cond.code yX6_strip cX6_strip 6 (some .int) ∈ TG := in5 (i := 135) rfl rfl
set_option maxRecDepth 100000 in
theorem cal_X6_strip : CalV yX6_strip cX6_strip 6 (some .int) 1 := ⟨in5 (i := 133) rfl rfl, in5 (i := 134) rfl rfl, ini_X6, cod_X6_strip, by decide +kernel, by decide⟩
set_option maxRecDepth 100000 in
theorem cod_X6_swap : Cond.code yX6_swap cX6_swap 6 (some .int) ∈ TG := in5 (i := 139) rfl rfl
set_option maxRecDepth 100000 in
theorem cal_X6_swap : CalV yX6_swap cX6_swap 6 (some .int) 0 := ⟨in5 (i := 137) rfl rfl, in5 (i := 138) rfl rfl, ini_X6, cod_X6_swap, by decide +kernel, by decide⟩
set_option maxRecDepth 100000 in
theorem cod_X6_swapCells : Cond.code yX6_swapCells cX6_swapCells 3 none ∈ TG := in5 (i := 143) rfl rfl
set_option maxRecDepth 100000 in
theorem cal_X6_swapCells : CalV yX6_swapCells cX6_swapCells 3 none 2 := ⟨in5 (i := 142) rfl rfl, inP (i := 93) rfl rfl, ini_X6, cod_X6_swapCells, by decide +kernel, by decide⟩
set_option maxRecDepth 100000 in
theorem cod_X6_swapIn : Cond.code yX6_swapIn cX6_swapIn 4 none ∈ TG := in5 (i := 146) rfl rfl
set_option maxRecDepth 100000 in
theorem cal_X6_swapIn : CalS yX6_swapIn cX6_swapIn 4 none 3 := ⟨in5 (i := 145) rfl rfl, ini_X6, cod_X6_swapIn, by decide +kernel, by decide⟩
set_option maxRecDepth 100000 in
theorem cod_X6_chance : Cond.code yX6_chance cX6_chance 15 (some .long) ∈ TG := in5 (i := 150) rfl rfl
set_option maxRecDepth 100000 in
theorem cal_X6_chance : CalV yX6_chance cX6_chance 15 (some .long) 4 := ⟨in5 (i := 148) rfl rfl, in5 (i := 149) rfl rfl, ini_X6, cod_X6_chance, by decide +kernel, by decide⟩
set_option maxRecDepth 100000 in
theorem cod_X6_hasBit : Cond.code yX6_hasBit cX6_hasBit 2 (some .boolean) ∈ TG := in5 (i := 154) rfl rfl
set_option maxRecDepth 100000 in
theorem cal_X6_hasBit : CalS yX6_hasBit cX6_hasBit 2 (some .boolean) 2 := ⟨in5 (i := 153) rfl rfl, ini_X6, cod_X6_hasBit, by decide +kernel, by decide⟩
set_option maxRecDepth 100000 in
theorem cod_X6_partOf : Cond.code yX6_partOf cX6_partOf 7 (some .long) ∈ TG := in5 (i := 157) rfl rfl
set_option maxRecDepth 100000 in
theorem cal_X6_partOf : CalS yX6_partOf cX6_partOf 7 (some .long) 3 := ⟨in5 (i := 156) rfl rfl, ini_X6, cod_X6_partOf, by decide +kernel, by decide⟩
set_option maxRecDepth 100000 in
theorem cod_X6_divisor : Cond.code yX6_divisor cX6_divisor 10 (some .long) ∈ TG := in5 (i := 160) rfl rfl
set_option maxRecDepth 100000 in
theorem cal_X6_divisor : CalS yX6_divisor cX6_divisor 10 (some .long) 2 := ⟨in5 (i := 159) rfl rfl, ini_X6, cod_X6_divisor, by decide +kernel, by decide⟩
set_option maxRecDepth 100000 in
theorem cod_X6_oldest : Cond.code yX6_oldest cX6_oldest 4 (some .int) ∈ TG := in5 (i := 164) rfl rfl
set_option maxRecDepth 100000 in
theorem cal_X6_oldest : CalV yX6_oldest cX6_oldest 4 (some .int) 1 := ⟨in5 (i := 162) rfl rfl, in5 (i := 163) rfl rfl, ini_X6, cod_X6_oldest, by decide +kernel, by decide⟩
set_option maxRecDepth 100000 in
theorem cod_X6_ofSize : Cond.code yX6_ofSize cX6_ofSize 5 (some .int) ∈ TG := in5 (i := 168) rfl rfl
set_option maxRecDepth 100000 in
theorem cal_X6_ofSize : CalV yX6_ofSize cX6_ofSize 5 (some .int) 2 := ⟨in5 (i := 167) rfl rfl, inP (i := 94) rfl rfl, ini_X6, cod_X6_ofSize, by decide +kernel, by decide⟩
set_option maxRecDepth 100000 in
theorem cod_X6_tightest : Cond.code yX6_tightest cX6_tightest 8 (some .int) ∈ TG := in5 (i := 172) rfl rfl
set_option maxRecDepth 100000 in
theorem cal_X6_tightest : CalV yX6_tightest cX6_tightest 8 (some .int) 1 := ⟨in5 (i := 170) rfl rfl, in5 (i := 171) rfl rfl, ini_X6, cod_X6_tightest, by decide +kernel, by decide⟩
set_option maxRecDepth 100000 in
theorem cod_X6_ageFor : Cond.code yX6_ageFor cX6_ageFor 7 (some .int) ∈ TG := in5 (i := 176) rfl rfl
set_option maxRecDepth 100000 in
theorem cal_X6_ageFor : CalV yX6_ageFor cX6_ageFor 7 (some .int) 1 := ⟨in5 (i := 174) rfl rfl, in5 (i := 175) rfl rfl, ini_X6, cod_X6_ageFor, by decide +kernel, by decide⟩
set_option maxRecDepth 100000 in
theorem cod_X6_entire : Cond.code yX6_entire cX6_entire 3 (some .int) ∈ TG := in5 (i := 180) rfl rfl
set_option maxRecDepth 100000 in
theorem cal_X6_entire : CalV yX6_entire cX6_entire 3 (some .int) 0 := ⟨in5 (i := 178) rfl rfl, in5 (i := 179) rfl rfl, ini_X6, cod_X6_entire, by decide +kernel, by decide⟩
set_option maxRecDepth 100000 in
theorem cod_X6_bestOf : Cond.code yX6_bestOf cX6_bestOf 7 (some .int) ∈ TG := in5 (i := 184) rfl rfl
set_option maxRecDepth 100000 in
theorem cal_X6_bestOf : CalV yX6_bestOf cX6_bestOf 7 (some .int) 2 := ⟨in5 (i := 182) rfl rfl, in5 (i := 183) rfl rfl, ini_X6, cod_X6_bestOf, by decide +kernel, by decide⟩
set_option maxRecDepth 100000 in
theorem cod_X6_harm : Cond.code yX6_harm cX6_harm 6 (some .int) ∈ TG := in5 (i := 188) rfl rfl
set_option maxRecDepth 100000 in
theorem cal_X6_harm : CalV yX6_harm cX6_harm 6 (some .int) 1 := ⟨in5 (i := 186) rfl rfl, in5 (i := 187) rfl rfl, ini_X6, cod_X6_harm, by decide +kernel, by decide⟩
set_option maxRecDepth 100000 in
theorem cod_X6_pairs : Cond.code yX6_pairs cX6_pairs 5 (some .int) ∈ TG := in5 (i := 193) rfl rfl
set_option maxRecDepth 100000 in
theorem cal_X6_pairs : CalV yX6_pairs cX6_pairs 5 (some .int) 0 := ⟨in5 (i := 191) rfl rfl, in5 (i := 192) rfl rfl, ini_X6, cod_X6_pairs, by decide +kernel, by decide⟩
set_option maxRecDepth 100000 in
theorem cod_X6_sumOf : Cond.code yX6_sumOf cX6_sumOf 4 (some .int) ∈ TG := in5 (i := 197) rfl rfl
set_option maxRecDepth 100000 in
theorem cal_X6_sumOf : CalV yX6_sumOf cX6_sumOf 4 (some .int) 1 := ⟨in5 (i := 195) rfl rfl, in5 (i := 196) rfl rfl, ini_X6, cod_X6_sumOf, by decide +kernel, by decide⟩
set_option maxRecDepth 100000 in
theorem cod_X6_rank : Cond.code yX6_rank cX6_rank 5 (some .int) ∈ TG := in5 (i := 201) rfl rfl
set_option maxRecDepth 100000 in
theorem cal_X6_rank : CalV yX6_rank cX6_rank 5 (some .int) 1 := ⟨in5 (i := 199) rfl rfl, in5 (i := 200) rfl rfl, ini_X6, cod_X6_rank, by decide +kernel, by decide⟩
set_option maxRecDepth 100000 in
theorem cod_X6_doomed : Cond.code yX6_doomed cX6_doomed 4 (some .int) ∈ TG := in5 (i := 205) rfl rfl
set_option maxRecDepth 100000 in
theorem cal_X6_doomed : CalV yX6_doomed cX6_doomed 4 (some .int) 1 := ⟨in5 (i := 203) rfl rfl, in5 (i := 204) rfl rfl, ini_X6, cod_X6_doomed, by decide +kernel, by decide⟩
set_option maxRecDepth 100000 in
theorem cod_X6_mean : Cond.code yX6_mean cX6_mean 2 (some .long) ∈ TG := in5 (i := 209) rfl rfl
set_option maxRecDepth 100000 in
theorem cal_X6_mean : CalV yX6_mean cX6_mean 2 (some .long) 1 := ⟨in5 (i := 207) rfl rfl, in5 (i := 208) rfl rfl, ini_X6, cod_X6_mean, by decide +kernel, by decide⟩
set_option maxRecDepth 100000 in
theorem cod_X6_allAges : Cond.code yX6_allAges cX6_allAges 3 (some .int) ∈ TG := in5 (i := 213) rfl rfl
set_option maxRecDepth 100000 in
theorem cal_X6_allAges : CalV yX6_allAges cX6_allAges 3 (some .int) 0 := ⟨in5 (i := 212) rfl rfl, inP (i := 95) rfl rfl, ini_X6, cod_X6_allAges, by decide +kernel, by decide⟩
set_option maxRecDepth 100000 in
theorem cod_X6_younger : Cond.code yX6_younger cX6_younger 4 (some .int) ∈ TG := in5 (i := 218) rfl rfl
set_option maxRecDepth 100000 in
theorem cal_X6_younger : CalV yX6_younger cX6_younger 4 (some .int) 1 := ⟨in5 (i := 216) rfl rfl, in5 (i := 217) rfl rfl, ini_X6, cod_X6_younger, by decide +kernel, by decide⟩
set_option maxRecDepth 100000 in
theorem cod_X6_unlike : Cond.code yX6_unlike cX6_unlike 5 (some .int) ∈ TG := in5 (i := 222) rfl rfl
set_option maxRecDepth 100000 in
theorem cal_X6_unlike : CalV yX6_unlike cX6_unlike 5 (some .int) 0 := ⟨in5 (i := 220) rfl rfl, in5 (i := 221) rfl rfl, ini_X6, cod_X6_unlike, by decide +kernel, by decide⟩
set_option maxRecDepth 100000 in
theorem cod_X6_row : Cond.code yX6_row cX6_row 2 (some .int) ∈ TG := in5 (i := 226) rfl rfl
set_option maxRecDepth 100000 in
theorem cal_X6_row : CalV yX6_row cX6_row 2 (some .int) 1 := ⟨in5 (i := 224) rfl rfl, in5 (i := 225) rfl rfl, ini_X6, cod_X6_row, by decide +kernel, by decide⟩
set_option maxRecDepth 100000 in
theorem cod_X6_judge : Cond.code yX6_judge cX6_judge 3 (some .int) ∈ TG := in5 (i := 230) rfl rfl
set_option maxRecDepth 100000 in
theorem cal_X6_judge : CalV yX6_judge cX6_judge 3 (some .int) 0 := ⟨in5 (i := 228) rfl rfl, in5 (i := 229) rfl rfl, ini_X6, cod_X6_judge, by decide +kernel, by decide⟩
set_option maxRecDepth 100000 in
theorem cod_X6_clear : Cond.code yX6_clear cX6_clear 2 (some .int) ∈ TG := in5 (i := 234) rfl rfl
set_option maxRecDepth 100000 in
theorem cal_X6_clear : CalV yX6_clear cX6_clear 2 (some .int) 0 := ⟨in5 (i := 232) rfl rfl, in5 (i := 233) rfl rfl, ini_X6, cod_X6_clear, by decide +kernel, by decide⟩
set_option maxRecDepth 100000 in
theorem cod_X6_lots : Cond.code yX6_lots cX6_lots 8 (some .int) ∈ TG := in5 (i := 238) rfl rfl
set_option maxRecDepth 100000 in
theorem cal_X6_lots : CalV yX6_lots cX6_lots 8 (some .int) 3 := ⟨in5 (i := 236) rfl rfl, in5 (i := 237) rfl rfl, ini_X6, cod_X6_lots, by decide +kernel, by decide⟩
set_option maxRecDepth 100000 in
theorem cod_X6_drawBelow : Cond.code yX6_drawBelow cX6_drawBelow 2 (some .int) ∈ TG := in6 (i := 2) rfl rfl
set_option maxRecDepth 100000 in
theorem cal_X6_drawBelow : CalV yX6_drawBelow cX6_drawBelow 2 (some .int) 1 := ⟨in6 (i := 1) rfl rfl, inP (i := 96) rfl rfl, ini_X6, cod_X6_drawBelow, by decide +kernel, by decide⟩
set_option maxRecDepth 100000 in
theorem cod_X6_count : Cond.code yX6_count cX6_count 2 (some .int) ∈ TG := in6 (i := 9) rfl rfl
set_option maxRecDepth 100000 in
theorem cal_X6_count : CalV yX6_count cX6_count 2 (some .int) 1 := ⟨in6 (i := 7) rfl rfl, in6 (i := 8) rfl rfl, ini_X6, cod_X6_count, by decide +kernel, by decide⟩
set_option maxRecDepth 100000 in
theorem sy_1 : Cond.static arraycopyName ∈ TG := in1 (i := 224) rfl rfl
set_option maxRecDepth 100000 in
theorem sy_2 : Cond.initialized "java/lang/System" ∈ TG := in1 (i := 8) rfl rfl
set_option maxRecDepth 100000 in
theorem ms_ini : Cond.initialized "java/lang/Math" ∈ TG := in1 (i := 9) rfl rfl
set_option maxRecDepth 100000 in
theorem sy_0 : Cond.native arraycopyName ∈ TG := in1 (i := 225) rfl rfl
set_option maxRecDepth 100000 in
theorem lay_X0_0 : u_lay RX0 TX0 0 ∈ TG := in1 (i := 35) rfl rfl
set_option maxRecDepth 100000 in
theorem lay_X0_1 : u_lay RX0 TX0 1 ∈ TG := in1 (i := 37) rfl rfl
set_option maxRecDepth 100000 in
theorem lay_X0_2 : u_lay RX0 TX0 2 ∈ TG := in1 (i := 39) rfl rfl
set_option maxRecDepth 100000 in
theorem lay_X0_3 : u_lay RX0 TX0 3 ∈ TG := in1 (i := 41) rfl rfl
set_option maxRecDepth 100000 in
theorem lay_X0_4 : u_lay RX0 TX0 4 ∈ TG := in1 (i := 43) rfl rfl
theorem i_X0 : ∀ w ∈ u_ws RX0 TX0 5, w ∈ TG := by
  intro w hw
  obtain ⟨k, hk, rfl⟩ := List.mem_map.mp hw
  have hk := List.mem_range.mp hk
  match k, hk with
  | 0, _ => exact lay_X0_0
  | 1, _ => exact lay_X0_1
  | 2, _ => exact lay_X0_2
  | 3, _ => exact lay_X0_3
  | 4, _ => exact lay_X0_4
  | k + 5, h => exact absurd h (by omega)
set_option maxRecDepth 100000 in
theorem lay_X1_0 : u_lay RX1 TX1 0 ∈ TG := in1 (i := 92) rfl rfl
set_option maxRecDepth 100000 in
theorem lay_X1_1 : u_lay RX1 TX1 1 ∈ TG := in1 (i := 94) rfl rfl
set_option maxRecDepth 100000 in
theorem lay_X1_2 : u_lay RX1 TX1 2 ∈ TG := in1 (i := 96) rfl rfl
set_option maxRecDepth 100000 in
theorem lay_X1_3 : u_lay RX1 TX1 3 ∈ TG := in1 (i := 98) rfl rfl
theorem i_X1 : ∀ w ∈ u_ws RX1 TX1 4, w ∈ TG := by
  intro w hw
  obtain ⟨k, hk, rfl⟩ := List.mem_map.mp hw
  have hk := List.mem_range.mp hk
  match k, hk with
  | 0, _ => exact lay_X1_0
  | 1, _ => exact lay_X1_1
  | 2, _ => exact lay_X1_2
  | 3, _ => exact lay_X1_3
  | k + 4, h => exact absurd h (by omega)
set_option maxRecDepth 100000 in
theorem lay_X2_0 : u_lay RX2 TX2 0 ∈ TG := in1 (i := 67) rfl rfl
set_option maxRecDepth 100000 in
theorem lay_X2_1 : u_lay RX2 TX2 1 ∈ TG := in1 (i := 69) rfl rfl
set_option maxRecDepth 100000 in
theorem lay_X2_2 : u_lay RX2 TX2 2 ∈ TG := in1 (i := 71) rfl rfl
set_option maxRecDepth 100000 in
theorem lay_X2_3 : u_lay RX2 TX2 3 ∈ TG := in1 (i := 73) rfl rfl
set_option maxRecDepth 100000 in
theorem lay_X2_4 : u_lay RX2 TX2 4 ∈ TG := in1 (i := 75) rfl rfl
theorem i_X2 : ∀ w ∈ u_ws RX2 TX2 5, w ∈ TG := by
  intro w hw
  obtain ⟨k, hk, rfl⟩ := List.mem_map.mp hw
  have hk := List.mem_range.mp hk
  match k, hk with
  | 0, _ => exact lay_X2_0
  | 1, _ => exact lay_X2_1
  | 2, _ => exact lay_X2_2
  | 3, _ => exact lay_X2_3
  | 4, _ => exact lay_X2_4
  | k + 5, h => exact absurd h (by omega)
set_option maxRecDepth 100000 in
theorem lay_X3_0 : u_lay RX3 TX3 0 ∈ TG := in1 (i := 110) rfl rfl
set_option maxRecDepth 100000 in
theorem lay_X3_1 : u_lay RX3 TX3 1 ∈ TG := in1 (i := 112) rfl rfl
theorem i_X3 : ∀ w ∈ u_ws RX3 TX3 2, w ∈ TG := by
  intro w hw
  obtain ⟨k, hk, rfl⟩ := List.mem_map.mp hw
  have hk := List.mem_range.mp hk
  match k, hk with
  | 0, _ => exact lay_X3_0
  | 1, _ => exact lay_X3_1
  | k + 2, h => exact absurd h (by omega)
set_option maxRecDepth 100000 in
theorem lay_X4_0 : u_lay RX4 TX4 0 ∈ TG := in1 (i := 129) rfl rfl
set_option maxRecDepth 100000 in
theorem lay_X4_1 : u_lay RX4 TX4 1 ∈ TG := in1 (i := 131) rfl rfl
set_option maxRecDepth 100000 in
theorem lay_X4_2 : u_lay RX4 TX4 2 ∈ TG := in1 (i := 133) rfl rfl
set_option maxRecDepth 100000 in
theorem lay_X4_3 : u_lay RX4 TX4 3 ∈ TG := in1 (i := 135) rfl rfl
theorem i_X4 : ∀ w ∈ u_ws RX4 TX4 4, w ∈ TG := by
  intro w hw
  obtain ⟨k, hk, rfl⟩ := List.mem_map.mp hw
  have hk := List.mem_range.mp hk
  match k, hk with
  | 0, _ => exact lay_X4_0
  | 1, _ => exact lay_X4_1
  | 2, _ => exact lay_X4_2
  | 3, _ => exact lay_X4_3
  | k + 4, h => exact absurd h (by omega)
set_option maxRecDepth 100000 in
theorem lay_X5_0 : u_lay RX5 TX5 0 ∈ TG := in1 (i := 153) rfl rfl
set_option maxRecDepth 100000 in
theorem lay_X5_1 : u_lay RX5 TX5 1 ∈ TG := in1 (i := 155) rfl rfl
set_option maxRecDepth 100000 in
theorem lay_X5_2 : u_lay RX5 TX5 2 ∈ TG := in1 (i := 157) rfl rfl
set_option maxRecDepth 100000 in
theorem lay_X5_3 : u_lay RX5 TX5 3 ∈ TG := in1 (i := 159) rfl rfl
set_option maxRecDepth 100000 in
theorem lay_X5_4 : u_lay RX5 TX5 4 ∈ TG := in1 (i := 161) rfl rfl
set_option maxRecDepth 100000 in
theorem lay_X5_5 : u_lay RX5 TX5 5 ∈ TG := in1 (i := 163) rfl rfl
set_option maxRecDepth 100000 in
theorem lay_X5_6 : u_lay RX5 TX5 6 ∈ TG := in1 (i := 165) rfl rfl
set_option maxRecDepth 100000 in
theorem lay_X5_7 : u_lay RX5 TX5 7 ∈ TG := in1 (i := 167) rfl rfl
set_option maxRecDepth 100000 in
theorem lay_X5_8 : u_lay RX5 TX5 8 ∈ TG := in1 (i := 169) rfl rfl
set_option maxRecDepth 100000 in
theorem lay_X5_9 : u_lay RX5 TX5 9 ∈ TG := in1 (i := 171) rfl rfl
set_option maxRecDepth 100000 in
theorem lay_X5_10 : u_lay RX5 TX5 10 ∈ TG := in1 (i := 173) rfl rfl
set_option maxRecDepth 100000 in
theorem lay_X5_11 : u_lay RX5 TX5 11 ∈ TG := in1 (i := 175) rfl rfl
set_option maxRecDepth 100000 in
theorem lay_X5_12 : u_lay RX5 TX5 12 ∈ TG := in1 (i := 177) rfl rfl
set_option maxRecDepth 100000 in
theorem lay_X5_13 : u_lay RX5 TX5 13 ∈ TG := in1 (i := 179) rfl rfl
set_option maxRecDepth 100000 in
theorem lay_X5_14 : u_lay RX5 TX5 14 ∈ TG := in1 (i := 181) rfl rfl
theorem i_X5 : ∀ w ∈ u_ws RX5 TX5 15, w ∈ TG := by
  intro w hw
  obtain ⟨k, hk, rfl⟩ := List.mem_map.mp hw
  have hk := List.mem_range.mp hk
  match k, hk with
  | 0, _ => exact lay_X5_0
  | 1, _ => exact lay_X5_1
  | 2, _ => exact lay_X5_2
  | 3, _ => exact lay_X5_3
  | 4, _ => exact lay_X5_4
  | 5, _ => exact lay_X5_5
  | 6, _ => exact lay_X5_6
  | 7, _ => exact lay_X5_7
  | 8, _ => exact lay_X5_8
  | 9, _ => exact lay_X5_9
  | 10, _ => exact lay_X5_10
  | 11, _ => exact lay_X5_11
  | 12, _ => exact lay_X5_12
  | 13, _ => exact lay_X5_13
  | 14, _ => exact lay_X5_14
  | k + 15, h => exact absurd h (by omega)
set_option maxRecDepth 100000 in
theorem lay_X6_0 : u_lay RX6 TX6 0 ∈ TG := in4 (i := 6) rfl rfl
set_option maxRecDepth 100000 in
theorem lay_X6_1 : u_lay RX6 TX6 1 ∈ TG := in4 (i := 8) rfl rfl
set_option maxRecDepth 100000 in
theorem lay_X6_2 : u_lay RX6 TX6 2 ∈ TG := in4 (i := 10) rfl rfl
set_option maxRecDepth 100000 in
theorem lay_X6_3 : u_lay RX6 TX6 3 ∈ TG := in4 (i := 12) rfl rfl
set_option maxRecDepth 100000 in
theorem lay_X6_4 : u_lay RX6 TX6 4 ∈ TG := in4 (i := 14) rfl rfl
set_option maxRecDepth 100000 in
theorem lay_X6_5 : u_lay RX6 TX6 5 ∈ TG := in4 (i := 16) rfl rfl
set_option maxRecDepth 100000 in
theorem lay_X6_6 : u_lay RX6 TX6 6 ∈ TG := in4 (i := 18) rfl rfl
set_option maxRecDepth 100000 in
theorem lay_X6_7 : u_lay RX6 TX6 7 ∈ TG := in4 (i := 20) rfl rfl
set_option maxRecDepth 100000 in
theorem lay_X6_8 : u_lay RX6 TX6 8 ∈ TG := in4 (i := 22) rfl rfl
set_option maxRecDepth 100000 in
theorem lay_X6_9 : u_lay RX6 TX6 9 ∈ TG := in4 (i := 24) rfl rfl
set_option maxRecDepth 100000 in
theorem lay_X6_10 : u_lay RX6 TX6 10 ∈ TG := in4 (i := 26) rfl rfl
set_option maxRecDepth 100000 in
theorem lay_X6_11 : u_lay RX6 TX6 11 ∈ TG := in4 (i := 28) rfl rfl
set_option maxRecDepth 100000 in
theorem lay_X6_12 : u_lay RX6 TX6 12 ∈ TG := in4 (i := 30) rfl rfl
set_option maxRecDepth 100000 in
theorem lay_X6_13 : u_lay RX6 TX6 13 ∈ TG := in4 (i := 32) rfl rfl
set_option maxRecDepth 100000 in
theorem lay_X6_14 : u_lay RX6 TX6 14 ∈ TG := in4 (i := 34) rfl rfl
set_option maxRecDepth 100000 in
theorem lay_X6_15 : u_lay RX6 TX6 15 ∈ TG := in4 (i := 36) rfl rfl
set_option maxRecDepth 100000 in
theorem lay_X6_16 : u_lay RX6 TX6 16 ∈ TG := in4 (i := 38) rfl rfl
set_option maxRecDepth 100000 in
theorem lay_X6_17 : u_lay RX6 TX6 17 ∈ TG := in4 (i := 40) rfl rfl
set_option maxRecDepth 100000 in
theorem lay_X6_18 : u_lay RX6 TX6 18 ∈ TG := in4 (i := 42) rfl rfl
set_option maxRecDepth 100000 in
theorem lay_X6_19 : u_lay RX6 TX6 19 ∈ TG := in4 (i := 44) rfl rfl
set_option maxRecDepth 100000 in
theorem lay_X6_20 : u_lay RX6 TX6 20 ∈ TG := in4 (i := 46) rfl rfl
set_option maxRecDepth 100000 in
theorem lay_X6_21 : u_lay RX6 TX6 21 ∈ TG := in4 (i := 48) rfl rfl
set_option maxRecDepth 100000 in
theorem lay_X6_22 : u_lay RX6 TX6 22 ∈ TG := in4 (i := 50) rfl rfl
set_option maxRecDepth 100000 in
theorem lay_X6_23 : u_lay RX6 TX6 23 ∈ TG := in4 (i := 52) rfl rfl
set_option maxRecDepth 100000 in
theorem lay_X6_24 : u_lay RX6 TX6 24 ∈ TG := in4 (i := 54) rfl rfl
set_option maxRecDepth 100000 in
theorem lay_X6_25 : u_lay RX6 TX6 25 ∈ TG := in4 (i := 56) rfl rfl
set_option maxRecDepth 100000 in
theorem lay_X6_26 : u_lay RX6 TX6 26 ∈ TG := in4 (i := 58) rfl rfl
set_option maxRecDepth 100000 in
theorem lay_X6_27 : u_lay RX6 TX6 27 ∈ TG := in4 (i := 60) rfl rfl
set_option maxRecDepth 100000 in
theorem lay_X6_28 : u_lay RX6 TX6 28 ∈ TG := in4 (i := 62) rfl rfl
set_option maxRecDepth 100000 in
theorem lay_X6_29 : u_lay RX6 TX6 29 ∈ TG := in4 (i := 64) rfl rfl
set_option maxRecDepth 100000 in
theorem lay_X6_30 : u_lay RX6 TX6 30 ∈ TG := in4 (i := 66) rfl rfl
set_option maxRecDepth 100000 in
theorem lay_X6_31 : u_lay RX6 TX6 31 ∈ TG := in4 (i := 68) rfl rfl
set_option maxRecDepth 100000 in
theorem lay_X6_32 : u_lay RX6 TX6 32 ∈ TG := in4 (i := 70) rfl rfl
set_option maxRecDepth 100000 in
theorem lay_X6_33 : u_lay RX6 TX6 33 ∈ TG := in4 (i := 72) rfl rfl
set_option maxRecDepth 100000 in
theorem lay_X6_34 : u_lay RX6 TX6 34 ∈ TG := in4 (i := 74) rfl rfl
set_option maxRecDepth 100000 in
theorem lay_X6_35 : u_lay RX6 TX6 35 ∈ TG := in4 (i := 76) rfl rfl
set_option maxRecDepth 100000 in
theorem lay_X6_36 : u_lay RX6 TX6 36 ∈ TG := in4 (i := 78) rfl rfl
set_option maxRecDepth 100000 in
theorem lay_X6_37 : u_lay RX6 TX6 37 ∈ TG := in4 (i := 80) rfl rfl
set_option maxRecDepth 100000 in
theorem lay_X6_38 : u_lay RX6 TX6 38 ∈ TG := in4 (i := 82) rfl rfl
set_option maxRecDepth 100000 in
theorem lay_X6_39 : u_lay RX6 TX6 39 ∈ TG := in4 (i := 84) rfl rfl
set_option maxRecDepth 100000 in
theorem lay_X6_40 : u_lay RX6 TX6 40 ∈ TG := in4 (i := 86) rfl rfl
set_option maxRecDepth 100000 in
theorem lay_X6_41 : u_lay RX6 TX6 41 ∈ TG := in4 (i := 88) rfl rfl
set_option maxRecDepth 100000 in
theorem lay_X6_42 : u_lay RX6 TX6 42 ∈ TG := in4 (i := 90) rfl rfl
theorem i_X6 : ∀ w ∈ u_ws RX6 TX6 43, w ∈ TG := by
  intro w hw
  obtain ⟨k, hk, rfl⟩ := List.mem_map.mp hw
  have hk := List.mem_range.mp hk
  match k, hk with
  | 0, _ => exact lay_X6_0
  | 1, _ => exact lay_X6_1
  | 2, _ => exact lay_X6_2
  | 3, _ => exact lay_X6_3
  | 4, _ => exact lay_X6_4
  | 5, _ => exact lay_X6_5
  | 6, _ => exact lay_X6_6
  | 7, _ => exact lay_X6_7
  | 8, _ => exact lay_X6_8
  | 9, _ => exact lay_X6_9
  | 10, _ => exact lay_X6_10
  | 11, _ => exact lay_X6_11
  | 12, _ => exact lay_X6_12
  | 13, _ => exact lay_X6_13
  | 14, _ => exact lay_X6_14
  | 15, _ => exact lay_X6_15
  | 16, _ => exact lay_X6_16
  | 17, _ => exact lay_X6_17
  | 18, _ => exact lay_X6_18
  | 19, _ => exact lay_X6_19
  | 20, _ => exact lay_X6_20
  | 21, _ => exact lay_X6_21
  | 22, _ => exact lay_X6_22
  | 23, _ => exact lay_X6_23
  | 24, _ => exact lay_X6_24
  | 25, _ => exact lay_X6_25
  | 26, _ => exact lay_X6_26
  | 27, _ => exact lay_X6_27
  | 28, _ => exact lay_X6_28
  | 29, _ => exact lay_X6_29
  | 30, _ => exact lay_X6_30
  | 31, _ => exact lay_X6_31
  | 32, _ => exact lay_X6_32
  | 33, _ => exact lay_X6_33
  | 34, _ => exact lay_X6_34
  | 35, _ => exact lay_X6_35
  | 36, _ => exact lay_X6_36
  | 37, _ => exact lay_X6_37
  | 38, _ => exact lay_X6_38
  | 39, _ => exact lay_X6_39
  | 40, _ => exact lay_X6_40
  | 41, _ => exact lay_X6_41
  | 42, _ => exact lay_X6_42
  | k + 43, h => exact absurd h (by omega)
end
section
/-! THE REFERENCE'S WORLD: one object, its arrays; a state is a function of the field's number and a place (a number: place 0) -/
abbrev MS : Type := Nat → Int → Int
def mA (M : MS) (k : Nat) (f : Int → Int) : MS := fun a => if a = k then f else M a
theorem mA_s {M : MS} {k : Nat} {f : Int → Int} : mA M k f k = f := if_pos rfl
theorem mA_n {M : MS} {k a : Nat} {f : Int → Int} (h : a ≠ k) : mA M k f a = M a := if_neg h
theorem mA_mA {M : MS} {k : Nat} {f g : Int → Int} : mA (mA M k f) k g = mA M k g := by
  funext a
  unfold mA
  by_cases h : a = k
  · rw [if_pos h, if_pos h]
  · rw [if_neg h, if_neg h, if_neg h]
theorem mA_self {M : MS} {k : Nat} : mA M k (M k) = M := by
  funext a
  unfold mA
  by_cases h : a = k
  · rw [if_pos h, h]
  · rw [if_neg h]
theorem mA_swap {M : MS} {k j : Nat} {f g : Int → Int} (h : k ≠ j) : mA (mA M k f) j g = mA (mA M j g) k f := by
  funext a
  unfold mA
  by_cases h1 : a = j
  · subst h1; rw [if_pos rfl, if_neg (Ne.symm h), if_pos rfl]
  · rw [if_neg h1]
    by_cases h2 : a = k
    · rw [if_pos h2, if_pos h2]
    · rw [if_neg h2, if_neg h2, if_neg h1]
def mKp (ma : Nat → Nat) (z : Int) : Value := if z = 20 then .ref (ma 20) else if z = 21 then .ref (ma 21) else if z = 27 then .ref (ma 27) else .null
def mfl (ma : Nat → Nat) (M : MS) : List Value := [.ref (ma 0), .ref (ma 1), .ref (ma 2), .ref (ma 3), .int (iI (M 4 0)), .int (iI (M 5 0)), .ref (ma 6), .ref (ma 7), .ref (ma 8), .ref (ma 9), .int (iI (M 10 0)), .ref (ma 11), .ref (ma 12), .int (iI (M 13 0)), .int (iI (M 14 0)), .int (iI (M 15 0)), .int (iI (M 16 0)), .ref (ma 17), .ref (ma 18), .ref (ma 19), .ref (ma 20), .ref (ma 21), .int (iI (M 22 0)), .int (iI (M 23 0)), .int (iI (M 24 0)), mKp ma (M 25 0), .ref (ma 26), .ref (ma 27), .int (iI (M 28 0)), .ref (ma 29), .ref (ma 30), .int (iI (M 31 0)), .ref (ma 32), .ref (ma 33), .ref (ma 34), .ref (ma 35), .int (iI (M 36 0)), .ref (ma 37), .int (iI (M 38 0)), .ref (ma 39), .ref (ma 40), .ref (ma 41), .int (iI (M 42 0))]
def mw (κ : Kp) (ma : Nat → Nat) (M : MS) : va_W := [(ma 100, .inr (6, mfl ma M)), (ma 0, .inl (κ.2.1, 12, .inl (fun j : Nat => iI (M 0 (j : Int))))), (ma 1, .inl (κ.2.1, 12, .inl (fun j : Nat => iI (M 1 (j : Int))))), (ma 2, .inl (κ.2.1, 12, .inl (fun j : Nat => iI (M 2 (j : Int))))), (ma 3, .inl (κ.2.1, 12, .inl (fun j : Nat => iI (M 3 (j : Int))))), (ma 6, .inl (κ.2.1, 6, .inl (fun j : Nat => iI (M 6 (j : Int))))), (ma 7, .inl (κ.2.1, 6, .inl (fun j : Nat => iI (M 7 (j : Int))))), (ma 8, .inl (κ.2.1, 6, .inl (fun j : Nat => iI (M 8 (j : Int))))), (ma 9, .inl (κ.2.1, 6, .inl (fun j : Nat => iI (M 9 (j : Int))))), (ma 11, .inl (κ.2.1, 7, .inl (fun j : Nat => iI (M 11 (j : Int))))), (ma 12, .inl (κ.2.1, 96, .inl (fun j : Nat => iI (M 12 (j : Int))))), (ma 17, .inl (κ.2.1, 49, .inl (fun j : Nat => iI (M 17 (j : Int))))), (ma 18, .inl (κ.2.1, 49, .inl (fun j : Nat => iI (M 18 (j : Int))))), (ma 19, .inl (κ.2.1, 245, .inl (fun j : Nat => iI (M 19 (j : Int))))), (ma 20, .inl (κ.2.1, 74, .inl (fun j : Nat => iI (M 20 (j : Int))))), (ma 21, .inl (κ.2.1, 74, .inl (fun j : Nat => iI (M 21 (j : Int))))), (ma 26, .inl (κ.2.1, 592, .inl (fun j : Nat => iI (M 26 (j : Int))))), (ma 27, .inl (κ.2.1, 74, .inl (fun j : Nat => iI (M 27 (j : Int))))), (ma 29, .inl (κ.2.1, 12, .inl (fun j : Nat => iI (M 29 (j : Int))))), (ma 30, .inl (κ.2.1, 6, .inl (fun j : Nat => iI (M 30 (j : Int))))), (ma 32, .inl (κ.2.1, 3, .inl (fun j : Nat => iI (M 32 (j : Int))))), (ma 33, .inl (κ.2.1, 3, .inl (fun j : Nat => iI (M 33 (j : Int))))), (ma 34, .inl (κ.2.1, 3, .inl (fun j : Nat => iI (M 34 (j : Int))))), (ma 35, .inl (κ.2.1, 4, .inl (fun j : Nat => iI (M 35 (j : Int))))), (ma 37, .inl (κ.2.1, 12, .inl (fun j : Nat => iI (M 37 (j : Int))))), (ma 39, .inl (κ.2.1, 12, .inl (fun j : Nat => iI (M 39 (j : Int))))), (ma 40, .inl (κ.2.1, 8, .inl (fun j : Nat => iI (M 40 (j : Int))))), (ma 41, .inl (κ.2.1, 12, .inl (fun j : Nat => iI (M 41 (j : Int)))))]
theorem mw_same {κ : Kp} {ma : Nat → Nat} {M M' : MS} : sameA (mw κ ma M) (mw κ ma M') := rfl
section
variable {E : gE} {κ : Kp} {cc : ByteArray} {n dd : Nat} {ma : Nat → Nat} {M : MS} {lv : List (Nat × Value)} {pc : Nat} {st : List Value}
theorem gm_get_0 (F : Fx E κ cc RX6 n dd) (hd : decode cc pc = .ok (.getfield 7, 3)) (k : G E (mw κ ma M) lv (pc + 3) (.ref (ma 0) :: st)) : G E (mw κ ma M) lv pc (.ref (ma 100) :: st) := g_get F (C := RX6) (T := TX6) (N := 43) 0 rfl rfl i_X6 0 (by decide) lf_X6_7 rfl hd k
theorem gm_get_1 (F : Fx E κ cc RX6 n dd) (hd : decode cc pc = .ok (.getfield 13, 3)) (k : G E (mw κ ma M) lv (pc + 3) (.ref (ma 1) :: st)) : G E (mw κ ma M) lv pc (.ref (ma 100) :: st) := g_get F (C := RX6) (T := TX6) (N := 43) 0 rfl rfl i_X6 1 (by decide) lf_X6_13 rfl hd k
theorem gm_get_2 (F : Fx E κ cc RX6 n dd) (hd : decode cc pc = .ok (.getfield 16, 3)) (k : G E (mw κ ma M) lv (pc + 3) (.ref (ma 2) :: st)) : G E (mw κ ma M) lv pc (.ref (ma 100) :: st) := g_get F (C := RX6) (T := TX6) (N := 43) 0 rfl rfl i_X6 2 (by decide) lf_X6_16 rfl hd k
theorem gm_get_3 (F : Fx E κ cc RX6 n dd) (hd : decode cc pc = .ok (.getfield 19, 3)) (k : G E (mw κ ma M) lv (pc + 3) (.ref (ma 3) :: st)) : G E (mw κ ma M) lv pc (.ref (ma 100) :: st) := g_get F (C := RX6) (T := TX6) (N := 43) 0 rfl rfl i_X6 3 (by decide) lf_X6_19 rfl hd k
theorem gm_get_4 (F : Fx E κ cc RX6 n dd) (hd : decode cc pc = .ok (.getfield 125, 3)) (k : G E (mw κ ma M) lv (pc + 3) (.int (iI (M 4 0)) :: st)) : G E (mw κ ma M) lv pc (.ref (ma 100) :: st) := g_get F (C := RX6) (T := TX6) (N := 43) 0 rfl rfl i_X6 4 (by decide) lf_X6_125 rfl hd k
theorem gm_get_5 (F : Fx E κ cc RX6 n dd) (hd : decode cc pc = .ok (.getfield 101, 3)) (k : G E (mw κ ma M) lv (pc + 3) (.int (iI (M 5 0)) :: st)) : G E (mw κ ma M) lv pc (.ref (ma 100) :: st) := g_get F (C := RX6) (T := TX6) (N := 43) 0 rfl rfl i_X6 5 (by decide) lf_X6_101 rfl hd k
theorem gm_get_6 (F : Fx E κ cc RX6 n dd) (hd : decode cc pc = .ok (.getfield 22, 3)) (k : G E (mw κ ma M) lv (pc + 3) (.ref (ma 6) :: st)) : G E (mw κ ma M) lv pc (.ref (ma 100) :: st) := g_get F (C := RX6) (T := TX6) (N := 43) 0 rfl rfl i_X6 6 (by decide) lf_X6_22 rfl hd k
theorem gm_get_7 (F : Fx E κ cc RX6 n dd) (hd : decode cc pc = .ok (.getfield 25, 3)) (k : G E (mw κ ma M) lv (pc + 3) (.ref (ma 7) :: st)) : G E (mw κ ma M) lv pc (.ref (ma 100) :: st) := g_get F (C := RX6) (T := TX6) (N := 43) 0 rfl rfl i_X6 7 (by decide) lf_X6_25 rfl hd k
theorem gm_get_8 (F : Fx E κ cc RX6 n dd) (hd : decode cc pc = .ok (.getfield 28, 3)) (k : G E (mw κ ma M) lv (pc + 3) (.ref (ma 8) :: st)) : G E (mw κ ma M) lv pc (.ref (ma 100) :: st) := g_get F (C := RX6) (T := TX6) (N := 43) 0 rfl rfl i_X6 8 (by decide) lf_X6_28 rfl hd k
theorem gm_get_9 (F : Fx E κ cc RX6 n dd) (hd : decode cc pc = .ok (.getfield 31, 3)) (k : G E (mw κ ma M) lv (pc + 3) (.ref (ma 9) :: st)) : G E (mw κ ma M) lv pc (.ref (ma 100) :: st) := g_get F (C := RX6) (T := TX6) (N := 43) 0 rfl rfl i_X6 9 (by decide) lf_X6_31 rfl hd k
theorem gm_get_10 (F : Fx E κ cc RX6 n dd) (hd : decode cc pc = .ok (.getfield 91, 3)) (k : G E (mw κ ma M) lv (pc + 3) (.int (iI (M 10 0)) :: st)) : G E (mw κ ma M) lv pc (.ref (ma 100) :: st) := g_get F (C := RX6) (T := TX6) (N := 43) 0 rfl rfl i_X6 10 (by decide) lf_X6_91 rfl hd k
theorem gm_get_11 (F : Fx E κ cc RX6 n dd) (hd : decode cc pc = .ok (.getfield 34, 3)) (k : G E (mw κ ma M) lv (pc + 3) (.ref (ma 11) :: st)) : G E (mw κ ma M) lv pc (.ref (ma 100) :: st) := g_get F (C := RX6) (T := TX6) (N := 43) 0 rfl rfl i_X6 11 (by decide) lf_X6_34 rfl hd k
theorem gm_get_12 (F : Fx E κ cc RX6 n dd) (hd : decode cc pc = .ok (.getfield 37, 3)) (k : G E (mw κ ma M) lv (pc + 3) (.ref (ma 12) :: st)) : G E (mw κ ma M) lv pc (.ref (ma 100) :: st) := g_get F (C := RX6) (T := TX6) (N := 43) 0 rfl rfl i_X6 12 (by decide) lf_X6_37 rfl hd k
theorem gm_get_13 (F : Fx E κ cc RX6 n dd) (hd : decode cc pc = .ok (.getfield 141, 3)) (k : G E (mw κ ma M) lv (pc + 3) (.int (iI (M 13 0)) :: st)) : G E (mw κ ma M) lv pc (.ref (ma 100) :: st) := g_get F (C := RX6) (T := TX6) (N := 43) 0 rfl rfl i_X6 13 (by decide) lf_X6_141 rfl hd k
theorem gm_get_14 (F : Fx E κ cc RX6 n dd) (hd : decode cc pc = .ok (.getfield 144, 3)) (k : G E (mw κ ma M) lv (pc + 3) (.int (iI (M 14 0)) :: st)) : G E (mw κ ma M) lv pc (.ref (ma 100) :: st) := g_get F (C := RX6) (T := TX6) (N := 43) 0 rfl rfl i_X6 14 (by decide) lf_X6_144 rfl hd k
theorem gm_get_15 (F : Fx E κ cc RX6 n dd) (hd : decode cc pc = .ok (.getfield 147, 3)) (k : G E (mw κ ma M) lv (pc + 3) (.int (iI (M 15 0)) :: st)) : G E (mw κ ma M) lv pc (.ref (ma 100) :: st) := g_get F (C := RX6) (T := TX6) (N := 43) 0 rfl rfl i_X6 15 (by decide) lf_X6_147 rfl hd k
theorem gm_get_16 (F : Fx E κ cc RX6 n dd) (hd : decode cc pc = .ok (.getfield 162, 3)) (k : G E (mw κ ma M) lv (pc + 3) (.int (iI (M 16 0)) :: st)) : G E (mw κ ma M) lv pc (.ref (ma 100) :: st) := g_get F (C := RX6) (T := TX6) (N := 43) 0 rfl rfl i_X6 16 (by decide) lf_X6_162 rfl hd k
theorem gm_get_17 (F : Fx E κ cc RX6 n dd) (hd : decode cc pc = .ok (.getfield 40, 3)) (k : G E (mw κ ma M) lv (pc + 3) (.ref (ma 17) :: st)) : G E (mw κ ma M) lv pc (.ref (ma 100) :: st) := g_get F (C := RX6) (T := TX6) (N := 43) 0 rfl rfl i_X6 17 (by decide) lf_X6_40 rfl hd k
theorem gm_get_18 (F : Fx E κ cc RX6 n dd) (hd : decode cc pc = .ok (.getfield 43, 3)) (k : G E (mw κ ma M) lv (pc + 3) (.ref (ma 18) :: st)) : G E (mw κ ma M) lv pc (.ref (ma 100) :: st) := g_get F (C := RX6) (T := TX6) (N := 43) 0 rfl rfl i_X6 18 (by decide) lf_X6_43 rfl hd k
theorem gm_get_19 (F : Fx E κ cc RX6 n dd) (hd : decode cc pc = .ok (.getfield 46, 3)) (k : G E (mw κ ma M) lv (pc + 3) (.ref (ma 19) :: st)) : G E (mw κ ma M) lv pc (.ref (ma 100) :: st) := g_get F (C := RX6) (T := TX6) (N := 43) 0 rfl rfl i_X6 19 (by decide) lf_X6_46 rfl hd k
theorem gm_get_20 (F : Fx E κ cc RX6 n dd) (hd : decode cc pc = .ok (.getfield 49, 3)) (k : G E (mw κ ma M) lv (pc + 3) (.ref (ma 20) :: st)) : G E (mw κ ma M) lv pc (.ref (ma 100) :: st) := g_get F (C := RX6) (T := TX6) (N := 43) 0 rfl rfl i_X6 20 (by decide) lf_X6_49 rfl hd k
theorem gm_get_21 (F : Fx E κ cc RX6 n dd) (hd : decode cc pc = .ok (.getfield 52, 3)) (k : G E (mw κ ma M) lv (pc + 3) (.ref (ma 21) :: st)) : G E (mw κ ma M) lv pc (.ref (ma 100) :: st) := g_get F (C := RX6) (T := TX6) (N := 43) 0 rfl rfl i_X6 21 (by decide) lf_X6_52 rfl hd k
theorem gm_get_22 (F : Fx E κ cc RX6 n dd) (hd : decode cc pc = .ok (.getfield 219, 3)) (k : G E (mw κ ma M) lv (pc + 3) (.int (iI (M 22 0)) :: st)) : G E (mw κ ma M) lv pc (.ref (ma 100) :: st) := g_get F (C := RX6) (T := TX6) (N := 43) 0 rfl rfl i_X6 22 (by decide) lf_X6_219 rfl hd k
theorem gm_get_23 (F : Fx E κ cc RX6 n dd) (hd : decode cc pc = .ok (.getfield 209, 3)) (k : G E (mw κ ma M) lv (pc + 3) (.int (iI (M 23 0)) :: st)) : G E (mw κ ma M) lv pc (.ref (ma 100) :: st) := g_get F (C := RX6) (T := TX6) (N := 43) 0 rfl rfl i_X6 23 (by decide) lf_X6_209 rfl hd k
theorem gm_get_24 (F : Fx E κ cc RX6 n dd) (hd : decode cc pc = .ok (.getfield 203, 3)) (k : G E (mw κ ma M) lv (pc + 3) (.int (iI (M 24 0)) :: st)) : G E (mw κ ma M) lv pc (.ref (ma 100) :: st) := g_get F (C := RX6) (T := TX6) (N := 43) 0 rfl rfl i_X6 24 (by decide) lf_X6_203 rfl hd k
theorem gm_get_25 (F : Fx E κ cc RX6 n dd) (hd : decode cc pc = .ok (.getfield 206, 3)) (k : G E (mw κ ma M) lv (pc + 3) (mKp ma (M 25 0) :: st)) : G E (mw κ ma M) lv pc (.ref (ma 100) :: st) := g_get F (C := RX6) (T := TX6) (N := 43) 0 rfl rfl i_X6 25 (by decide) lf_X6_206 rfl hd k
theorem gm_get_26 (F : Fx E κ cc RX6 n dd) (hd : decode cc pc = .ok (.getfield 55, 3)) (k : G E (mw κ ma M) lv (pc + 3) (.ref (ma 26) :: st)) : G E (mw κ ma M) lv pc (.ref (ma 100) :: st) := g_get F (C := RX6) (T := TX6) (N := 43) 0 rfl rfl i_X6 26 (by decide) lf_X6_55 rfl hd k
theorem gm_get_27 (F : Fx E κ cc RX6 n dd) (hd : decode cc pc = .ok (.getfield 58, 3)) (k : G E (mw κ ma M) lv (pc + 3) (.ref (ma 27) :: st)) : G E (mw κ ma M) lv pc (.ref (ma 100) :: st) := g_get F (C := RX6) (T := TX6) (N := 43) 0 rfl rfl i_X6 27 (by decide) lf_X6_58 rfl hd k
theorem gm_get_28 (F : Fx E κ cc RX6 n dd) (hd : decode cc pc = .ok (.getfield 200, 3)) (k : G E (mw κ ma M) lv (pc + 3) (.int (iI (M 28 0)) :: st)) : G E (mw κ ma M) lv pc (.ref (ma 100) :: st) := g_get F (C := RX6) (T := TX6) (N := 43) 0 rfl rfl i_X6 28 (by decide) lf_X6_200 rfl hd k
theorem gm_get_29 (F : Fx E κ cc RX6 n dd) (hd : decode cc pc = .ok (.getfield 61, 3)) (k : G E (mw κ ma M) lv (pc + 3) (.ref (ma 29) :: st)) : G E (mw κ ma M) lv pc (.ref (ma 100) :: st) := g_get F (C := RX6) (T := TX6) (N := 43) 0 rfl rfl i_X6 29 (by decide) lf_X6_61 rfl hd k
theorem gm_get_30 (F : Fx E κ cc RX6 n dd) (hd : decode cc pc = .ok (.getfield 64, 3)) (k : G E (mw κ ma M) lv (pc + 3) (.ref (ma 30) :: st)) : G E (mw κ ma M) lv pc (.ref (ma 100) :: st) := g_get F (C := RX6) (T := TX6) (N := 43) 0 rfl rfl i_X6 30 (by decide) lf_X6_64 rfl hd k
theorem gm_get_31 (F : Fx E κ cc RX6 n dd) (hd : decode cc pc = .ok (.getfield 264, 3)) (k : G E (mw κ ma M) lv (pc + 3) (.int (iI (M 31 0)) :: st)) : G E (mw κ ma M) lv pc (.ref (ma 100) :: st) := g_get F (C := RX6) (T := TX6) (N := 43) 0 rfl rfl i_X6 31 (by decide) lf_X6_264 rfl hd k
theorem gm_get_32 (F : Fx E κ cc RX6 n dd) (hd : decode cc pc = .ok (.getfield 67, 3)) (k : G E (mw κ ma M) lv (pc + 3) (.ref (ma 32) :: st)) : G E (mw κ ma M) lv pc (.ref (ma 100) :: st) := g_get F (C := RX6) (T := TX6) (N := 43) 0 rfl rfl i_X6 32 (by decide) lf_X6_67 rfl hd k
theorem gm_get_33 (F : Fx E κ cc RX6 n dd) (hd : decode cc pc = .ok (.getfield 70, 3)) (k : G E (mw κ ma M) lv (pc + 3) (.ref (ma 33) :: st)) : G E (mw κ ma M) lv pc (.ref (ma 100) :: st) := g_get F (C := RX6) (T := TX6) (N := 43) 0 rfl rfl i_X6 33 (by decide) lf_X6_70 rfl hd k
theorem gm_get_34 (F : Fx E κ cc RX6 n dd) (hd : decode cc pc = .ok (.getfield 73, 3)) (k : G E (mw κ ma M) lv (pc + 3) (.ref (ma 34) :: st)) : G E (mw κ ma M) lv pc (.ref (ma 100) :: st) := g_get F (C := RX6) (T := TX6) (N := 43) 0 rfl rfl i_X6 34 (by decide) lf_X6_73 rfl hd k
theorem gm_get_35 (F : Fx E κ cc RX6 n dd) (hd : decode cc pc = .ok (.getfield 76, 3)) (k : G E (mw κ ma M) lv (pc + 3) (.ref (ma 35) :: st)) : G E (mw κ ma M) lv pc (.ref (ma 100) :: st) := g_get F (C := RX6) (T := TX6) (N := 43) 0 rfl rfl i_X6 35 (by decide) lf_X6_76 rfl hd k
theorem gm_get_36 (F : Fx E κ cc RX6 n dd) (hd : decode cc pc = .ok (.getfield 276, 3)) (k : G E (mw κ ma M) lv (pc + 3) (.int (iI (M 36 0)) :: st)) : G E (mw κ ma M) lv pc (.ref (ma 100) :: st) := g_get F (C := RX6) (T := TX6) (N := 43) 0 rfl rfl i_X6 36 (by decide) lf_X6_276 rfl hd k
theorem gm_get_37 (F : Fx E κ cc RX6 n dd) (hd : decode cc pc = .ok (.getfield 79, 3)) (k : G E (mw κ ma M) lv (pc + 3) (.ref (ma 37) :: st)) : G E (mw κ ma M) lv pc (.ref (ma 100) :: st) := g_get F (C := RX6) (T := TX6) (N := 43) 0 rfl rfl i_X6 37 (by decide) lf_X6_79 rfl hd k
theorem gm_get_38 (F : Fx E κ cc RX6 n dd) (hd : decode cc pc = .ok (.getfield 295, 3)) (k : G E (mw κ ma M) lv (pc + 3) (.int (iI (M 38 0)) :: st)) : G E (mw κ ma M) lv pc (.ref (ma 100) :: st) := g_get F (C := RX6) (T := TX6) (N := 43) 0 rfl rfl i_X6 38 (by decide) lf_X6_295 rfl hd k
theorem gm_get_39 (F : Fx E κ cc RX6 n dd) (hd : decode cc pc = .ok (.getfield 82, 3)) (k : G E (mw κ ma M) lv (pc + 3) (.ref (ma 39) :: st)) : G E (mw κ ma M) lv pc (.ref (ma 100) :: st) := g_get F (C := RX6) (T := TX6) (N := 43) 0 rfl rfl i_X6 39 (by decide) lf_X6_82 rfl hd k
theorem gm_get_40 (F : Fx E κ cc RX6 n dd) (hd : decode cc pc = .ok (.getfield 85, 3)) (k : G E (mw κ ma M) lv (pc + 3) (.ref (ma 40) :: st)) : G E (mw κ ma M) lv pc (.ref (ma 100) :: st) := g_get F (C := RX6) (T := TX6) (N := 43) 0 rfl rfl i_X6 40 (by decide) lf_X6_85 rfl hd k
theorem gm_get_41 (F : Fx E κ cc RX6 n dd) (hd : decode cc pc = .ok (.getfield 88, 3)) (k : G E (mw κ ma M) lv (pc + 3) (.ref (ma 41) :: st)) : G E (mw κ ma M) lv pc (.ref (ma 100) :: st) := g_get F (C := RX6) (T := TX6) (N := 43) 0 rfl rfl i_X6 41 (by decide) lf_X6_88 rfl hd k
theorem gm_get_42 (F : Fx E κ cc RX6 n dd) (hd : decode cc pc = .ok (.getfield 334, 3)) (k : G E (mw κ ma M) lv (pc + 3) (.int (iI (M 42 0)) :: st)) : G E (mw κ ma M) lv pc (.ref (ma 100) :: st) := g_get F (C := RX6) (T := TX6) (N := 43) 0 rfl rfl i_X6 42 (by decide) lf_X6_334 rfl hd k
theorem mps_4 {z : Int} : (mw κ ma M).set 0 (ma 100, .inr (6, (mfl ma M).set 4 (.int (iI z)))) = mw κ ma (mA M 4 (fun _ => z)) := rfl
theorem gm_put_4 {z : Int} (F : Fx E κ cc RX6 n dd) (hd : decode cc pc = .ok (.putfield 125, 3)) (k : G E (mw κ ma (mA M 4 (fun _ => z))) lv (pc + 3) st) : G E (mw κ ma M) lv pc (.int (iI z) :: .ref (ma 100) :: st) := g_put F (C := RX6) (T := TX6) (N := 43) 0 rfl rfl i_X6 tyX6 tyX6_ok nmX6 4 (by decide) lf_X6_125 rfl rfl rfl (by show 4 < 43; decide) mps_4 hd k
theorem gm_putS_4 {z : Int} {f : Int → Int} (F : Fx E κ cc RX6 n dd) (hd : decode cc pc = .ok (.putfield 125, 3)) (k : G E (mw κ ma (mA M 4 (fun _ => z))) lv (pc + 3) st) : G E (mw κ ma (mA M 4 f)) lv pc (.int (iI z) :: .ref (ma 100) :: st) := gm_put_4 F hd (by rw [mA_mA]; exact k)
theorem mps_5 {z : Int} : (mw κ ma M).set 0 (ma 100, .inr (6, (mfl ma M).set 5 (.int (iI z)))) = mw κ ma (mA M 5 (fun _ => z)) := rfl
theorem gm_put_5 {z : Int} (F : Fx E κ cc RX6 n dd) (hd : decode cc pc = .ok (.putfield 101, 3)) (k : G E (mw κ ma (mA M 5 (fun _ => z))) lv (pc + 3) st) : G E (mw κ ma M) lv pc (.int (iI z) :: .ref (ma 100) :: st) := g_put F (C := RX6) (T := TX6) (N := 43) 0 rfl rfl i_X6 tyX6 tyX6_ok nmX6 5 (by decide) lf_X6_101 rfl rfl rfl (by show 5 < 43; decide) mps_5 hd k
theorem gm_putS_5 {z : Int} {f : Int → Int} (F : Fx E κ cc RX6 n dd) (hd : decode cc pc = .ok (.putfield 101, 3)) (k : G E (mw κ ma (mA M 5 (fun _ => z))) lv (pc + 3) st) : G E (mw κ ma (mA M 5 f)) lv pc (.int (iI z) :: .ref (ma 100) :: st) := gm_put_5 F hd (by rw [mA_mA]; exact k)
theorem mps_10 {z : Int} : (mw κ ma M).set 0 (ma 100, .inr (6, (mfl ma M).set 10 (.int (iI z)))) = mw κ ma (mA M 10 (fun _ => z)) := rfl
theorem gm_put_10 {z : Int} (F : Fx E κ cc RX6 n dd) (hd : decode cc pc = .ok (.putfield 91, 3)) (k : G E (mw κ ma (mA M 10 (fun _ => z))) lv (pc + 3) st) : G E (mw κ ma M) lv pc (.int (iI z) :: .ref (ma 100) :: st) := g_put F (C := RX6) (T := TX6) (N := 43) 0 rfl rfl i_X6 tyX6 tyX6_ok nmX6 10 (by decide) lf_X6_91 rfl rfl rfl (by show 10 < 43; decide) mps_10 hd k
theorem gm_putS_10 {z : Int} {f : Int → Int} (F : Fx E κ cc RX6 n dd) (hd : decode cc pc = .ok (.putfield 91, 3)) (k : G E (mw κ ma (mA M 10 (fun _ => z))) lv (pc + 3) st) : G E (mw κ ma (mA M 10 f)) lv pc (.int (iI z) :: .ref (ma 100) :: st) := gm_put_10 F hd (by rw [mA_mA]; exact k)
theorem mps_13 {z : Int} : (mw κ ma M).set 0 (ma 100, .inr (6, (mfl ma M).set 13 (.int (iI z)))) = mw κ ma (mA M 13 (fun _ => z)) := rfl
theorem gm_put_13 {z : Int} (F : Fx E κ cc RX6 n dd) (hd : decode cc pc = .ok (.putfield 141, 3)) (k : G E (mw κ ma (mA M 13 (fun _ => z))) lv (pc + 3) st) : G E (mw κ ma M) lv pc (.int (iI z) :: .ref (ma 100) :: st) := g_put F (C := RX6) (T := TX6) (N := 43) 0 rfl rfl i_X6 tyX6 tyX6_ok nmX6 13 (by decide) lf_X6_141 rfl rfl rfl (by show 13 < 43; decide) mps_13 hd k
theorem gm_putS_13 {z : Int} {f : Int → Int} (F : Fx E κ cc RX6 n dd) (hd : decode cc pc = .ok (.putfield 141, 3)) (k : G E (mw κ ma (mA M 13 (fun _ => z))) lv (pc + 3) st) : G E (mw κ ma (mA M 13 f)) lv pc (.int (iI z) :: .ref (ma 100) :: st) := gm_put_13 F hd (by rw [mA_mA]; exact k)
theorem mps_14 {z : Int} : (mw κ ma M).set 0 (ma 100, .inr (6, (mfl ma M).set 14 (.int (iI z)))) = mw κ ma (mA M 14 (fun _ => z)) := rfl
theorem gm_put_14 {z : Int} (F : Fx E κ cc RX6 n dd) (hd : decode cc pc = .ok (.putfield 144, 3)) (k : G E (mw κ ma (mA M 14 (fun _ => z))) lv (pc + 3) st) : G E (mw κ ma M) lv pc (.int (iI z) :: .ref (ma 100) :: st) := g_put F (C := RX6) (T := TX6) (N := 43) 0 rfl rfl i_X6 tyX6 tyX6_ok nmX6 14 (by decide) lf_X6_144 rfl rfl rfl (by show 14 < 43; decide) mps_14 hd k
theorem gm_putS_14 {z : Int} {f : Int → Int} (F : Fx E κ cc RX6 n dd) (hd : decode cc pc = .ok (.putfield 144, 3)) (k : G E (mw κ ma (mA M 14 (fun _ => z))) lv (pc + 3) st) : G E (mw κ ma (mA M 14 f)) lv pc (.int (iI z) :: .ref (ma 100) :: st) := gm_put_14 F hd (by rw [mA_mA]; exact k)
theorem mps_15 {z : Int} : (mw κ ma M).set 0 (ma 100, .inr (6, (mfl ma M).set 15 (.int (iI z)))) = mw κ ma (mA M 15 (fun _ => z)) := rfl
theorem gm_put_15 {z : Int} (F : Fx E κ cc RX6 n dd) (hz : z = 0 ∨ z = 1) (hd : decode cc pc = .ok (.putfield 147, 3)) (k : G E (mw κ ma (mA M 15 (fun _ => z))) lv (pc + 3) st) : G E (mw κ ma M) lv pc (.int (iI z) :: .ref (ma 100) :: st) := g_put F (C := RX6) (T := TX6) (N := 43) 0 rfl rfl i_X6 tyX6 tyX6_ok nmX6 15 (by decide) lf_X6_147 rfl (by rcases hz with rfl | rfl <;> decide +kernel) (by rcases hz with rfl | rfl <;> decide +kernel) (by show 15 < 43; decide) mps_15 hd k
theorem gm_putS_15 {z : Int} {f : Int → Int} (F : Fx E κ cc RX6 n dd) (hz : z = 0 ∨ z = 1) (hd : decode cc pc = .ok (.putfield 147, 3)) (k : G E (mw κ ma (mA M 15 (fun _ => z))) lv (pc + 3) st) : G E (mw κ ma (mA M 15 f)) lv pc (.int (iI z) :: .ref (ma 100) :: st) := gm_put_15 F hz hd (by rw [mA_mA]; exact k)
theorem mps_16 {z : Int} : (mw κ ma M).set 0 (ma 100, .inr (6, (mfl ma M).set 16 (.int (iI z)))) = mw κ ma (mA M 16 (fun _ => z)) := rfl
theorem gm_put_16 {z : Int} (F : Fx E κ cc RX6 n dd) (hd : decode cc pc = .ok (.putfield 162, 3)) (k : G E (mw κ ma (mA M 16 (fun _ => z))) lv (pc + 3) st) : G E (mw κ ma M) lv pc (.int (iI z) :: .ref (ma 100) :: st) := g_put F (C := RX6) (T := TX6) (N := 43) 0 rfl rfl i_X6 tyX6 tyX6_ok nmX6 16 (by decide) lf_X6_162 rfl rfl rfl (by show 16 < 43; decide) mps_16 hd k
theorem gm_putS_16 {z : Int} {f : Int → Int} (F : Fx E κ cc RX6 n dd) (hd : decode cc pc = .ok (.putfield 162, 3)) (k : G E (mw κ ma (mA M 16 (fun _ => z))) lv (pc + 3) st) : G E (mw κ ma (mA M 16 f)) lv pc (.int (iI z) :: .ref (ma 100) :: st) := gm_put_16 F hd (by rw [mA_mA]; exact k)
theorem mps_22 {z : Int} : (mw κ ma M).set 0 (ma 100, .inr (6, (mfl ma M).set 22 (.int (iI z)))) = mw κ ma (mA M 22 (fun _ => z)) := rfl
theorem gm_put_22 {z : Int} (F : Fx E κ cc RX6 n dd) (hz : z = 0 ∨ z = 1) (hd : decode cc pc = .ok (.putfield 219, 3)) (k : G E (mw κ ma (mA M 22 (fun _ => z))) lv (pc + 3) st) : G E (mw κ ma M) lv pc (.int (iI z) :: .ref (ma 100) :: st) := g_put F (C := RX6) (T := TX6) (N := 43) 0 rfl rfl i_X6 tyX6 tyX6_ok nmX6 22 (by decide) lf_X6_219 rfl (by rcases hz with rfl | rfl <;> decide +kernel) (by rcases hz with rfl | rfl <;> decide +kernel) (by show 22 < 43; decide) mps_22 hd k
theorem gm_putS_22 {z : Int} {f : Int → Int} (F : Fx E κ cc RX6 n dd) (hz : z = 0 ∨ z = 1) (hd : decode cc pc = .ok (.putfield 219, 3)) (k : G E (mw κ ma (mA M 22 (fun _ => z))) lv (pc + 3) st) : G E (mw κ ma (mA M 22 f)) lv pc (.int (iI z) :: .ref (ma 100) :: st) := gm_put_22 F hz hd (by rw [mA_mA]; exact k)
theorem mps_23 {z : Int} : (mw κ ma M).set 0 (ma 100, .inr (6, (mfl ma M).set 23 (.int (iI z)))) = mw κ ma (mA M 23 (fun _ => z)) := rfl
theorem gm_put_23 {z : Int} (F : Fx E κ cc RX6 n dd) (hd : decode cc pc = .ok (.putfield 209, 3)) (k : G E (mw κ ma (mA M 23 (fun _ => z))) lv (pc + 3) st) : G E (mw κ ma M) lv pc (.int (iI z) :: .ref (ma 100) :: st) := g_put F (C := RX6) (T := TX6) (N := 43) 0 rfl rfl i_X6 tyX6 tyX6_ok nmX6 23 (by decide) lf_X6_209 rfl rfl rfl (by show 23 < 43; decide) mps_23 hd k
theorem gm_putS_23 {z : Int} {f : Int → Int} (F : Fx E κ cc RX6 n dd) (hd : decode cc pc = .ok (.putfield 209, 3)) (k : G E (mw κ ma (mA M 23 (fun _ => z))) lv (pc + 3) st) : G E (mw κ ma (mA M 23 f)) lv pc (.int (iI z) :: .ref (ma 100) :: st) := gm_put_23 F hd (by rw [mA_mA]; exact k)
theorem mps_24 {z : Int} : (mw κ ma M).set 0 (ma 100, .inr (6, (mfl ma M).set 24 (.int (iI z)))) = mw κ ma (mA M 24 (fun _ => z)) := rfl
theorem gm_put_24 {z : Int} (F : Fx E κ cc RX6 n dd) (hz : z = 0 ∨ z = 1) (hd : decode cc pc = .ok (.putfield 203, 3)) (k : G E (mw κ ma (mA M 24 (fun _ => z))) lv (pc + 3) st) : G E (mw κ ma M) lv pc (.int (iI z) :: .ref (ma 100) :: st) := g_put F (C := RX6) (T := TX6) (N := 43) 0 rfl rfl i_X6 tyX6 tyX6_ok nmX6 24 (by decide) lf_X6_203 rfl (by rcases hz with rfl | rfl <;> decide +kernel) (by rcases hz with rfl | rfl <;> decide +kernel) (by show 24 < 43; decide) mps_24 hd k
theorem gm_putS_24 {z : Int} {f : Int → Int} (F : Fx E κ cc RX6 n dd) (hz : z = 0 ∨ z = 1) (hd : decode cc pc = .ok (.putfield 203, 3)) (k : G E (mw κ ma (mA M 24 (fun _ => z))) lv (pc + 3) st) : G E (mw κ ma (mA M 24 f)) lv pc (.int (iI z) :: .ref (ma 100) :: st) := gm_put_24 F hz hd (by rw [mA_mA]; exact k)
theorem mps_28 {z : Int} : (mw κ ma M).set 0 (ma 100, .inr (6, (mfl ma M).set 28 (.int (iI z)))) = mw κ ma (mA M 28 (fun _ => z)) := rfl
theorem gm_put_28 {z : Int} (F : Fx E κ cc RX6 n dd) (hd : decode cc pc = .ok (.putfield 200, 3)) (k : G E (mw κ ma (mA M 28 (fun _ => z))) lv (pc + 3) st) : G E (mw κ ma M) lv pc (.int (iI z) :: .ref (ma 100) :: st) := g_put F (C := RX6) (T := TX6) (N := 43) 0 rfl rfl i_X6 tyX6 tyX6_ok nmX6 28 (by decide) lf_X6_200 rfl rfl rfl (by show 28 < 43; decide) mps_28 hd k
theorem gm_putS_28 {z : Int} {f : Int → Int} (F : Fx E κ cc RX6 n dd) (hd : decode cc pc = .ok (.putfield 200, 3)) (k : G E (mw κ ma (mA M 28 (fun _ => z))) lv (pc + 3) st) : G E (mw κ ma (mA M 28 f)) lv pc (.int (iI z) :: .ref (ma 100) :: st) := gm_put_28 F hd (by rw [mA_mA]; exact k)
theorem mps_31 {z : Int} : (mw κ ma M).set 0 (ma 100, .inr (6, (mfl ma M).set 31 (.int (iI z)))) = mw κ ma (mA M 31 (fun _ => z)) := rfl
theorem gm_put_31 {z : Int} (F : Fx E κ cc RX6 n dd) (hd : decode cc pc = .ok (.putfield 264, 3)) (k : G E (mw κ ma (mA M 31 (fun _ => z))) lv (pc + 3) st) : G E (mw κ ma M) lv pc (.int (iI z) :: .ref (ma 100) :: st) := g_put F (C := RX6) (T := TX6) (N := 43) 0 rfl rfl i_X6 tyX6 tyX6_ok nmX6 31 (by decide) lf_X6_264 rfl rfl rfl (by show 31 < 43; decide) mps_31 hd k
theorem gm_putS_31 {z : Int} {f : Int → Int} (F : Fx E κ cc RX6 n dd) (hd : decode cc pc = .ok (.putfield 264, 3)) (k : G E (mw κ ma (mA M 31 (fun _ => z))) lv (pc + 3) st) : G E (mw κ ma (mA M 31 f)) lv pc (.int (iI z) :: .ref (ma 100) :: st) := gm_put_31 F hd (by rw [mA_mA]; exact k)
theorem mps_36 {z : Int} : (mw κ ma M).set 0 (ma 100, .inr (6, (mfl ma M).set 36 (.int (iI z)))) = mw κ ma (mA M 36 (fun _ => z)) := rfl
theorem gm_put_36 {z : Int} (F : Fx E κ cc RX6 n dd) (hd : decode cc pc = .ok (.putfield 276, 3)) (k : G E (mw κ ma (mA M 36 (fun _ => z))) lv (pc + 3) st) : G E (mw κ ma M) lv pc (.int (iI z) :: .ref (ma 100) :: st) := g_put F (C := RX6) (T := TX6) (N := 43) 0 rfl rfl i_X6 tyX6 tyX6_ok nmX6 36 (by decide) lf_X6_276 rfl rfl rfl (by show 36 < 43; decide) mps_36 hd k
theorem gm_putS_36 {z : Int} {f : Int → Int} (F : Fx E κ cc RX6 n dd) (hd : decode cc pc = .ok (.putfield 276, 3)) (k : G E (mw κ ma (mA M 36 (fun _ => z))) lv (pc + 3) st) : G E (mw κ ma (mA M 36 f)) lv pc (.int (iI z) :: .ref (ma 100) :: st) := gm_put_36 F hd (by rw [mA_mA]; exact k)
theorem mps_38 {z : Int} : (mw κ ma M).set 0 (ma 100, .inr (6, (mfl ma M).set 38 (.int (iI z)))) = mw κ ma (mA M 38 (fun _ => z)) := rfl
theorem gm_put_38 {z : Int} (F : Fx E κ cc RX6 n dd) (hd : decode cc pc = .ok (.putfield 295, 3)) (k : G E (mw κ ma (mA M 38 (fun _ => z))) lv (pc + 3) st) : G E (mw κ ma M) lv pc (.int (iI z) :: .ref (ma 100) :: st) := g_put F (C := RX6) (T := TX6) (N := 43) 0 rfl rfl i_X6 tyX6 tyX6_ok nmX6 38 (by decide) lf_X6_295 rfl rfl rfl (by show 38 < 43; decide) mps_38 hd k
theorem gm_putS_38 {z : Int} {f : Int → Int} (F : Fx E κ cc RX6 n dd) (hd : decode cc pc = .ok (.putfield 295, 3)) (k : G E (mw κ ma (mA M 38 (fun _ => z))) lv (pc + 3) st) : G E (mw κ ma (mA M 38 f)) lv pc (.int (iI z) :: .ref (ma 100) :: st) := gm_put_38 F hd (by rw [mA_mA]; exact k)
theorem mps_42 {z : Int} : (mw κ ma M).set 0 (ma 100, .inr (6, (mfl ma M).set 42 (.int (iI z)))) = mw κ ma (mA M 42 (fun _ => z)) := rfl
theorem gm_put_42 {z : Int} (F : Fx E κ cc RX6 n dd) (hd : decode cc pc = .ok (.putfield 334, 3)) (k : G E (mw κ ma (mA M 42 (fun _ => z))) lv (pc + 3) st) : G E (mw κ ma M) lv pc (.int (iI z) :: .ref (ma 100) :: st) := g_put F (C := RX6) (T := TX6) (N := 43) 0 rfl rfl i_X6 tyX6 tyX6_ok nmX6 42 (by decide) lf_X6_334 rfl rfl rfl (by show 42 < 43; decide) mps_42 hd k
theorem gm_putS_42 {z : Int} {f : Int → Int} (F : Fx E κ cc RX6 n dd) (hd : decode cc pc = .ok (.putfield 334, 3)) (k : G E (mw κ ma (mA M 42 (fun _ => z))) lv (pc + 3) st) : G E (mw κ ma (mA M 42 f)) lv pc (.int (iI z) :: .ref (ma 100) :: st) := gm_put_42 F hd (by rw [mA_mA]; exact k)
theorem mps_25_20 : (mw κ ma M).set 0 (ma 100, .inr (6, (mfl ma M).set 25 (.ref (ma 20)))) = mw κ ma (mA M 25 (fun _ => 20)) := rfl
theorem gm_put_25_20 (F : Fx E κ cc RX6 n dd) (hd : decode cc pc = .ok (.putfield 206, 3)) (k : G E (mw κ ma (mA M 25 (fun _ => 20))) lv (pc + 3) st) : G E (mw κ ma M) lv pc (.ref (ma 20) :: .ref (ma 100) :: st) := g_put F (C := RX6) (T := TX6) (N := 43) 0 rfl rfl i_X6 tyX6 tyX6_ok nmX6 25 (by decide) lf_X6_206 rfl rfl rfl (by show 25 < 43; decide) mps_25_20 hd k
theorem mps_25_21 : (mw κ ma M).set 0 (ma 100, .inr (6, (mfl ma M).set 25 (.ref (ma 21)))) = mw κ ma (mA M 25 (fun _ => 21)) := rfl
theorem gm_put_25_21 (F : Fx E κ cc RX6 n dd) (hd : decode cc pc = .ok (.putfield 206, 3)) (k : G E (mw κ ma (mA M 25 (fun _ => 21))) lv (pc + 3) st) : G E (mw κ ma M) lv pc (.ref (ma 21) :: .ref (ma 100) :: st) := g_put F (C := RX6) (T := TX6) (N := 43) 0 rfl rfl i_X6 tyX6 tyX6_ok nmX6 25 (by decide) lf_X6_206 rfl rfl rfl (by show 25 < 43; decide) mps_25_21 hd k
theorem mps_25_27 : (mw κ ma M).set 0 (ma 100, .inr (6, (mfl ma M).set 25 (.ref (ma 27)))) = mw κ ma (mA M 25 (fun _ => 27)) := rfl
theorem gm_put_25_27 (F : Fx E κ cc RX6 n dd) (hd : decode cc pc = .ok (.putfield 206, 3)) (k : G E (mw κ ma (mA M 25 (fun _ => 27))) lv (pc + 3) st) : G E (mw κ ma M) lv pc (.ref (ma 27) :: .ref (ma 100) :: st) := g_put F (C := RX6) (T := TX6) (N := 43) 0 rfl rfl i_X6 tyX6 tyX6_ok nmX6 25 (by decide) lf_X6_206 rfl rfl rfl (by show 25 < 43; decide) mps_25_27 hd k
theorem mpo_0 : (mw κ ma M)[1]? = some (ma 0, .inl (κ.2.1, 12, .inl (fun j : Nat => iI (M 0 (j : Int))))) := rfl
theorem mse_0 {f : Int → Int} : (mw κ ma M).set 1 (ma 0, .inl (κ.2.1, 12, .inl (fun j : Nat => iI (f (j : Int))))) = mw κ ma (mA M 0 f) := rfl
theorem gm_ald_0 {z : Int} (F : Fx E κ cc RX6 n dd) (hz : 0 ≤ z ∧ z < 12) (hd : decode cc pc = .ok (.iaload, 1)) (k : G E (mw κ ma M) lv (pc + 1) (.int (iI (M 0 z)) :: st)) : G E (mw κ ma M) lv pc (.int (iI z) :: .ref (ma 0) :: st) := g_ald F 1 mpo_0 hz (by decide) hd k
theorem gm_ast_0 {z v : Int} (F : Fx E κ cc RX6 n dd) (hz : 0 ≤ z ∧ z < 12) (hd : decode cc pc = .ok (.iastore, 1)) (k : G E (mw κ ma (mA M 0 (uI (M 0) z v))) lv (pc + 1) st) : G E (mw κ ma M) lv pc (.int (iI v) :: .int (iI z) :: .ref (ma 0) :: st) := g_ast F 1 mpo_0 hz (by decide) mse_0 hd k
theorem gm_astS_0 {z v : Int} {f : Int → Int} (F : Fx E κ cc RX6 n dd) (hz : 0 ≤ z ∧ z < 12) (hd : decode cc pc = .ok (.iastore, 1)) (k : G E (mw κ ma (mA M 0 (uI f z v))) lv (pc + 1) st) : G E (mw κ ma (mA M 0 f)) lv pc (.int (iI v) :: .int (iI z) :: .ref (ma 0) :: st) := gm_ast_0 F hz hd (by rw [mA_s, mA_mA]; exact k)
theorem mpo_1 : (mw κ ma M)[2]? = some (ma 1, .inl (κ.2.1, 12, .inl (fun j : Nat => iI (M 1 (j : Int))))) := rfl
theorem mse_1 {f : Int → Int} : (mw κ ma M).set 2 (ma 1, .inl (κ.2.1, 12, .inl (fun j : Nat => iI (f (j : Int))))) = mw κ ma (mA M 1 f) := rfl
theorem gm_ald_1 {z : Int} (F : Fx E κ cc RX6 n dd) (hz : 0 ≤ z ∧ z < 12) (hd : decode cc pc = .ok (.iaload, 1)) (k : G E (mw κ ma M) lv (pc + 1) (.int (iI (M 1 z)) :: st)) : G E (mw κ ma M) lv pc (.int (iI z) :: .ref (ma 1) :: st) := g_ald F 2 mpo_1 hz (by decide) hd k
theorem gm_ast_1 {z v : Int} (F : Fx E κ cc RX6 n dd) (hz : 0 ≤ z ∧ z < 12) (hd : decode cc pc = .ok (.iastore, 1)) (k : G E (mw κ ma (mA M 1 (uI (M 1) z v))) lv (pc + 1) st) : G E (mw κ ma M) lv pc (.int (iI v) :: .int (iI z) :: .ref (ma 1) :: st) := g_ast F 2 mpo_1 hz (by decide) mse_1 hd k
theorem gm_astS_1 {z v : Int} {f : Int → Int} (F : Fx E κ cc RX6 n dd) (hz : 0 ≤ z ∧ z < 12) (hd : decode cc pc = .ok (.iastore, 1)) (k : G E (mw κ ma (mA M 1 (uI f z v))) lv (pc + 1) st) : G E (mw κ ma (mA M 1 f)) lv pc (.int (iI v) :: .int (iI z) :: .ref (ma 1) :: st) := gm_ast_1 F hz hd (by rw [mA_s, mA_mA]; exact k)
theorem mpo_2 : (mw κ ma M)[3]? = some (ma 2, .inl (κ.2.1, 12, .inl (fun j : Nat => iI (M 2 (j : Int))))) := rfl
theorem mse_2 {f : Int → Int} : (mw κ ma M).set 3 (ma 2, .inl (κ.2.1, 12, .inl (fun j : Nat => iI (f (j : Int))))) = mw κ ma (mA M 2 f) := rfl
theorem gm_ald_2 {z : Int} (F : Fx E κ cc RX6 n dd) (hz : 0 ≤ z ∧ z < 12) (hd : decode cc pc = .ok (.iaload, 1)) (k : G E (mw κ ma M) lv (pc + 1) (.int (iI (M 2 z)) :: st)) : G E (mw κ ma M) lv pc (.int (iI z) :: .ref (ma 2) :: st) := g_ald F 3 mpo_2 hz (by decide) hd k
theorem gm_ast_2 {z v : Int} (F : Fx E κ cc RX6 n dd) (hz : 0 ≤ z ∧ z < 12) (hd : decode cc pc = .ok (.iastore, 1)) (k : G E (mw κ ma (mA M 2 (uI (M 2) z v))) lv (pc + 1) st) : G E (mw κ ma M) lv pc (.int (iI v) :: .int (iI z) :: .ref (ma 2) :: st) := g_ast F 3 mpo_2 hz (by decide) mse_2 hd k
theorem gm_astS_2 {z v : Int} {f : Int → Int} (F : Fx E κ cc RX6 n dd) (hz : 0 ≤ z ∧ z < 12) (hd : decode cc pc = .ok (.iastore, 1)) (k : G E (mw κ ma (mA M 2 (uI f z v))) lv (pc + 1) st) : G E (mw κ ma (mA M 2 f)) lv pc (.int (iI v) :: .int (iI z) :: .ref (ma 2) :: st) := gm_ast_2 F hz hd (by rw [mA_s, mA_mA]; exact k)
theorem mpo_3 : (mw κ ma M)[4]? = some (ma 3, .inl (κ.2.1, 12, .inl (fun j : Nat => iI (M 3 (j : Int))))) := rfl
theorem mse_3 {f : Int → Int} : (mw κ ma M).set 4 (ma 3, .inl (κ.2.1, 12, .inl (fun j : Nat => iI (f (j : Int))))) = mw κ ma (mA M 3 f) := rfl
theorem gm_ald_3 {z : Int} (F : Fx E κ cc RX6 n dd) (hz : 0 ≤ z ∧ z < 12) (hd : decode cc pc = .ok (.iaload, 1)) (k : G E (mw κ ma M) lv (pc + 1) (.int (iI (M 3 z)) :: st)) : G E (mw κ ma M) lv pc (.int (iI z) :: .ref (ma 3) :: st) := g_ald F 4 mpo_3 hz (by decide) hd k
theorem gm_ast_3 {z v : Int} (F : Fx E κ cc RX6 n dd) (hz : 0 ≤ z ∧ z < 12) (hd : decode cc pc = .ok (.iastore, 1)) (k : G E (mw κ ma (mA M 3 (uI (M 3) z v))) lv (pc + 1) st) : G E (mw κ ma M) lv pc (.int (iI v) :: .int (iI z) :: .ref (ma 3) :: st) := g_ast F 4 mpo_3 hz (by decide) mse_3 hd k
theorem gm_astS_3 {z v : Int} {f : Int → Int} (F : Fx E κ cc RX6 n dd) (hz : 0 ≤ z ∧ z < 12) (hd : decode cc pc = .ok (.iastore, 1)) (k : G E (mw κ ma (mA M 3 (uI f z v))) lv (pc + 1) st) : G E (mw κ ma (mA M 3 f)) lv pc (.int (iI v) :: .int (iI z) :: .ref (ma 3) :: st) := gm_ast_3 F hz hd (by rw [mA_s, mA_mA]; exact k)
theorem mpo_6 : (mw κ ma M)[5]? = some (ma 6, .inl (κ.2.1, 6, .inl (fun j : Nat => iI (M 6 (j : Int))))) := rfl
theorem mse_6 {f : Int → Int} : (mw κ ma M).set 5 (ma 6, .inl (κ.2.1, 6, .inl (fun j : Nat => iI (f (j : Int))))) = mw κ ma (mA M 6 f) := rfl
theorem gm_ald_6 {z : Int} (F : Fx E κ cc RX6 n dd) (hz : 0 ≤ z ∧ z < 6) (hd : decode cc pc = .ok (.iaload, 1)) (k : G E (mw κ ma M) lv (pc + 1) (.int (iI (M 6 z)) :: st)) : G E (mw κ ma M) lv pc (.int (iI z) :: .ref (ma 6) :: st) := g_ald F 5 mpo_6 hz (by decide) hd k
theorem gm_ast_6 {z v : Int} (F : Fx E κ cc RX6 n dd) (hz : 0 ≤ z ∧ z < 6) (hd : decode cc pc = .ok (.iastore, 1)) (k : G E (mw κ ma (mA M 6 (uI (M 6) z v))) lv (pc + 1) st) : G E (mw κ ma M) lv pc (.int (iI v) :: .int (iI z) :: .ref (ma 6) :: st) := g_ast F 5 mpo_6 hz (by decide) mse_6 hd k
theorem gm_astS_6 {z v : Int} {f : Int → Int} (F : Fx E κ cc RX6 n dd) (hz : 0 ≤ z ∧ z < 6) (hd : decode cc pc = .ok (.iastore, 1)) (k : G E (mw κ ma (mA M 6 (uI f z v))) lv (pc + 1) st) : G E (mw κ ma (mA M 6 f)) lv pc (.int (iI v) :: .int (iI z) :: .ref (ma 6) :: st) := gm_ast_6 F hz hd (by rw [mA_s, mA_mA]; exact k)
theorem mpo_7 : (mw κ ma M)[6]? = some (ma 7, .inl (κ.2.1, 6, .inl (fun j : Nat => iI (M 7 (j : Int))))) := rfl
theorem mse_7 {f : Int → Int} : (mw κ ma M).set 6 (ma 7, .inl (κ.2.1, 6, .inl (fun j : Nat => iI (f (j : Int))))) = mw κ ma (mA M 7 f) := rfl
theorem gm_ald_7 {z : Int} (F : Fx E κ cc RX6 n dd) (hz : 0 ≤ z ∧ z < 6) (hd : decode cc pc = .ok (.iaload, 1)) (k : G E (mw κ ma M) lv (pc + 1) (.int (iI (M 7 z)) :: st)) : G E (mw κ ma M) lv pc (.int (iI z) :: .ref (ma 7) :: st) := g_ald F 6 mpo_7 hz (by decide) hd k
theorem gm_ast_7 {z v : Int} (F : Fx E κ cc RX6 n dd) (hz : 0 ≤ z ∧ z < 6) (hd : decode cc pc = .ok (.iastore, 1)) (k : G E (mw κ ma (mA M 7 (uI (M 7) z v))) lv (pc + 1) st) : G E (mw κ ma M) lv pc (.int (iI v) :: .int (iI z) :: .ref (ma 7) :: st) := g_ast F 6 mpo_7 hz (by decide) mse_7 hd k
theorem gm_astS_7 {z v : Int} {f : Int → Int} (F : Fx E κ cc RX6 n dd) (hz : 0 ≤ z ∧ z < 6) (hd : decode cc pc = .ok (.iastore, 1)) (k : G E (mw κ ma (mA M 7 (uI f z v))) lv (pc + 1) st) : G E (mw κ ma (mA M 7 f)) lv pc (.int (iI v) :: .int (iI z) :: .ref (ma 7) :: st) := gm_ast_7 F hz hd (by rw [mA_s, mA_mA]; exact k)
theorem mpo_8 : (mw κ ma M)[7]? = some (ma 8, .inl (κ.2.1, 6, .inl (fun j : Nat => iI (M 8 (j : Int))))) := rfl
theorem mse_8 {f : Int → Int} : (mw κ ma M).set 7 (ma 8, .inl (κ.2.1, 6, .inl (fun j : Nat => iI (f (j : Int))))) = mw κ ma (mA M 8 f) := rfl
theorem gm_ald_8 {z : Int} (F : Fx E κ cc RX6 n dd) (hz : 0 ≤ z ∧ z < 6) (hd : decode cc pc = .ok (.iaload, 1)) (k : G E (mw κ ma M) lv (pc + 1) (.int (iI (M 8 z)) :: st)) : G E (mw κ ma M) lv pc (.int (iI z) :: .ref (ma 8) :: st) := g_ald F 7 mpo_8 hz (by decide) hd k
theorem gm_ast_8 {z v : Int} (F : Fx E κ cc RX6 n dd) (hz : 0 ≤ z ∧ z < 6) (hd : decode cc pc = .ok (.iastore, 1)) (k : G E (mw κ ma (mA M 8 (uI (M 8) z v))) lv (pc + 1) st) : G E (mw κ ma M) lv pc (.int (iI v) :: .int (iI z) :: .ref (ma 8) :: st) := g_ast F 7 mpo_8 hz (by decide) mse_8 hd k
theorem gm_astS_8 {z v : Int} {f : Int → Int} (F : Fx E κ cc RX6 n dd) (hz : 0 ≤ z ∧ z < 6) (hd : decode cc pc = .ok (.iastore, 1)) (k : G E (mw κ ma (mA M 8 (uI f z v))) lv (pc + 1) st) : G E (mw κ ma (mA M 8 f)) lv pc (.int (iI v) :: .int (iI z) :: .ref (ma 8) :: st) := gm_ast_8 F hz hd (by rw [mA_s, mA_mA]; exact k)
theorem mpo_9 : (mw κ ma M)[8]? = some (ma 9, .inl (κ.2.1, 6, .inl (fun j : Nat => iI (M 9 (j : Int))))) := rfl
theorem mse_9 {f : Int → Int} : (mw κ ma M).set 8 (ma 9, .inl (κ.2.1, 6, .inl (fun j : Nat => iI (f (j : Int))))) = mw κ ma (mA M 9 f) := rfl
theorem gm_ald_9 {z : Int} (F : Fx E κ cc RX6 n dd) (hz : 0 ≤ z ∧ z < 6) (hd : decode cc pc = .ok (.iaload, 1)) (k : G E (mw κ ma M) lv (pc + 1) (.int (iI (M 9 z)) :: st)) : G E (mw κ ma M) lv pc (.int (iI z) :: .ref (ma 9) :: st) := g_ald F 8 mpo_9 hz (by decide) hd k
theorem gm_ast_9 {z v : Int} (F : Fx E κ cc RX6 n dd) (hz : 0 ≤ z ∧ z < 6) (hd : decode cc pc = .ok (.iastore, 1)) (k : G E (mw κ ma (mA M 9 (uI (M 9) z v))) lv (pc + 1) st) : G E (mw κ ma M) lv pc (.int (iI v) :: .int (iI z) :: .ref (ma 9) :: st) := g_ast F 8 mpo_9 hz (by decide) mse_9 hd k
theorem gm_astS_9 {z v : Int} {f : Int → Int} (F : Fx E κ cc RX6 n dd) (hz : 0 ≤ z ∧ z < 6) (hd : decode cc pc = .ok (.iastore, 1)) (k : G E (mw κ ma (mA M 9 (uI f z v))) lv (pc + 1) st) : G E (mw κ ma (mA M 9 f)) lv pc (.int (iI v) :: .int (iI z) :: .ref (ma 9) :: st) := gm_ast_9 F hz hd (by rw [mA_s, mA_mA]; exact k)
theorem mpo_11 : (mw κ ma M)[9]? = some (ma 11, .inl (κ.2.1, 7, .inl (fun j : Nat => iI (M 11 (j : Int))))) := rfl
theorem mse_11 {f : Int → Int} : (mw κ ma M).set 9 (ma 11, .inl (κ.2.1, 7, .inl (fun j : Nat => iI (f (j : Int))))) = mw κ ma (mA M 11 f) := rfl
theorem gm_ald_11 {z : Int} (F : Fx E κ cc RX6 n dd) (hz : 0 ≤ z ∧ z < 7) (hd : decode cc pc = .ok (.iaload, 1)) (k : G E (mw κ ma M) lv (pc + 1) (.int (iI (M 11 z)) :: st)) : G E (mw κ ma M) lv pc (.int (iI z) :: .ref (ma 11) :: st) := g_ald F 9 mpo_11 hz (by decide) hd k
theorem gm_ast_11 {z v : Int} (F : Fx E κ cc RX6 n dd) (hz : 0 ≤ z ∧ z < 7) (hd : decode cc pc = .ok (.iastore, 1)) (k : G E (mw κ ma (mA M 11 (uI (M 11) z v))) lv (pc + 1) st) : G E (mw κ ma M) lv pc (.int (iI v) :: .int (iI z) :: .ref (ma 11) :: st) := g_ast F 9 mpo_11 hz (by decide) mse_11 hd k
theorem gm_astS_11 {z v : Int} {f : Int → Int} (F : Fx E κ cc RX6 n dd) (hz : 0 ≤ z ∧ z < 7) (hd : decode cc pc = .ok (.iastore, 1)) (k : G E (mw κ ma (mA M 11 (uI f z v))) lv (pc + 1) st) : G E (mw κ ma (mA M 11 f)) lv pc (.int (iI v) :: .int (iI z) :: .ref (ma 11) :: st) := gm_ast_11 F hz hd (by rw [mA_s, mA_mA]; exact k)
theorem mpo_12 : (mw κ ma M)[10]? = some (ma 12, .inl (κ.2.1, 96, .inl (fun j : Nat => iI (M 12 (j : Int))))) := rfl
theorem mse_12 {f : Int → Int} : (mw κ ma M).set 10 (ma 12, .inl (κ.2.1, 96, .inl (fun j : Nat => iI (f (j : Int))))) = mw κ ma (mA M 12 f) := rfl
theorem gm_ald_12 {z : Int} (F : Fx E κ cc RX6 n dd) (hz : 0 ≤ z ∧ z < 96) (hd : decode cc pc = .ok (.iaload, 1)) (k : G E (mw κ ma M) lv (pc + 1) (.int (iI (M 12 z)) :: st)) : G E (mw κ ma M) lv pc (.int (iI z) :: .ref (ma 12) :: st) := g_ald F 10 mpo_12 hz (by decide) hd k
theorem gm_ast_12 {z v : Int} (F : Fx E κ cc RX6 n dd) (hz : 0 ≤ z ∧ z < 96) (hd : decode cc pc = .ok (.iastore, 1)) (k : G E (mw κ ma (mA M 12 (uI (M 12) z v))) lv (pc + 1) st) : G E (mw κ ma M) lv pc (.int (iI v) :: .int (iI z) :: .ref (ma 12) :: st) := g_ast F 10 mpo_12 hz (by decide) mse_12 hd k
theorem gm_astS_12 {z v : Int} {f : Int → Int} (F : Fx E κ cc RX6 n dd) (hz : 0 ≤ z ∧ z < 96) (hd : decode cc pc = .ok (.iastore, 1)) (k : G E (mw κ ma (mA M 12 (uI f z v))) lv (pc + 1) st) : G E (mw κ ma (mA M 12 f)) lv pc (.int (iI v) :: .int (iI z) :: .ref (ma 12) :: st) := gm_ast_12 F hz hd (by rw [mA_s, mA_mA]; exact k)
theorem mpo_17 : (mw κ ma M)[11]? = some (ma 17, .inl (κ.2.1, 49, .inl (fun j : Nat => iI (M 17 (j : Int))))) := rfl
theorem mse_17 {f : Int → Int} : (mw κ ma M).set 11 (ma 17, .inl (κ.2.1, 49, .inl (fun j : Nat => iI (f (j : Int))))) = mw κ ma (mA M 17 f) := rfl
theorem gm_ald_17 {z : Int} (F : Fx E κ cc RX6 n dd) (hz : 0 ≤ z ∧ z < 49) (hd : decode cc pc = .ok (.iaload, 1)) (k : G E (mw κ ma M) lv (pc + 1) (.int (iI (M 17 z)) :: st)) : G E (mw κ ma M) lv pc (.int (iI z) :: .ref (ma 17) :: st) := g_ald F 11 mpo_17 hz (by decide) hd k
theorem gm_ast_17 {z v : Int} (F : Fx E κ cc RX6 n dd) (hz : 0 ≤ z ∧ z < 49) (hd : decode cc pc = .ok (.iastore, 1)) (k : G E (mw κ ma (mA M 17 (uI (M 17) z v))) lv (pc + 1) st) : G E (mw κ ma M) lv pc (.int (iI v) :: .int (iI z) :: .ref (ma 17) :: st) := g_ast F 11 mpo_17 hz (by decide) mse_17 hd k
theorem gm_astS_17 {z v : Int} {f : Int → Int} (F : Fx E κ cc RX6 n dd) (hz : 0 ≤ z ∧ z < 49) (hd : decode cc pc = .ok (.iastore, 1)) (k : G E (mw κ ma (mA M 17 (uI f z v))) lv (pc + 1) st) : G E (mw κ ma (mA M 17 f)) lv pc (.int (iI v) :: .int (iI z) :: .ref (ma 17) :: st) := gm_ast_17 F hz hd (by rw [mA_s, mA_mA]; exact k)
theorem mpo_18 : (mw κ ma M)[12]? = some (ma 18, .inl (κ.2.1, 49, .inl (fun j : Nat => iI (M 18 (j : Int))))) := rfl
theorem mse_18 {f : Int → Int} : (mw κ ma M).set 12 (ma 18, .inl (κ.2.1, 49, .inl (fun j : Nat => iI (f (j : Int))))) = mw κ ma (mA M 18 f) := rfl
theorem gm_ald_18 {z : Int} (F : Fx E κ cc RX6 n dd) (hz : 0 ≤ z ∧ z < 49) (hd : decode cc pc = .ok (.iaload, 1)) (k : G E (mw κ ma M) lv (pc + 1) (.int (iI (M 18 z)) :: st)) : G E (mw κ ma M) lv pc (.int (iI z) :: .ref (ma 18) :: st) := g_ald F 12 mpo_18 hz (by decide) hd k
theorem gm_ast_18 {z v : Int} (F : Fx E κ cc RX6 n dd) (hz : 0 ≤ z ∧ z < 49) (hd : decode cc pc = .ok (.iastore, 1)) (k : G E (mw κ ma (mA M 18 (uI (M 18) z v))) lv (pc + 1) st) : G E (mw κ ma M) lv pc (.int (iI v) :: .int (iI z) :: .ref (ma 18) :: st) := g_ast F 12 mpo_18 hz (by decide) mse_18 hd k
theorem gm_astS_18 {z v : Int} {f : Int → Int} (F : Fx E κ cc RX6 n dd) (hz : 0 ≤ z ∧ z < 49) (hd : decode cc pc = .ok (.iastore, 1)) (k : G E (mw κ ma (mA M 18 (uI f z v))) lv (pc + 1) st) : G E (mw κ ma (mA M 18 f)) lv pc (.int (iI v) :: .int (iI z) :: .ref (ma 18) :: st) := gm_ast_18 F hz hd (by rw [mA_s, mA_mA]; exact k)
theorem mpo_19 : (mw κ ma M)[13]? = some (ma 19, .inl (κ.2.1, 245, .inl (fun j : Nat => iI (M 19 (j : Int))))) := rfl
theorem mse_19 {f : Int → Int} : (mw κ ma M).set 13 (ma 19, .inl (κ.2.1, 245, .inl (fun j : Nat => iI (f (j : Int))))) = mw κ ma (mA M 19 f) := rfl
theorem gm_ald_19 {z : Int} (F : Fx E κ cc RX6 n dd) (hz : 0 ≤ z ∧ z < 245) (hd : decode cc pc = .ok (.iaload, 1)) (k : G E (mw κ ma M) lv (pc + 1) (.int (iI (M 19 z)) :: st)) : G E (mw κ ma M) lv pc (.int (iI z) :: .ref (ma 19) :: st) := g_ald F 13 mpo_19 hz (by decide) hd k
theorem gm_ast_19 {z v : Int} (F : Fx E κ cc RX6 n dd) (hz : 0 ≤ z ∧ z < 245) (hd : decode cc pc = .ok (.iastore, 1)) (k : G E (mw κ ma (mA M 19 (uI (M 19) z v))) lv (pc + 1) st) : G E (mw κ ma M) lv pc (.int (iI v) :: .int (iI z) :: .ref (ma 19) :: st) := g_ast F 13 mpo_19 hz (by decide) mse_19 hd k
theorem gm_astS_19 {z v : Int} {f : Int → Int} (F : Fx E κ cc RX6 n dd) (hz : 0 ≤ z ∧ z < 245) (hd : decode cc pc = .ok (.iastore, 1)) (k : G E (mw κ ma (mA M 19 (uI f z v))) lv (pc + 1) st) : G E (mw κ ma (mA M 19 f)) lv pc (.int (iI v) :: .int (iI z) :: .ref (ma 19) :: st) := gm_ast_19 F hz hd (by rw [mA_s, mA_mA]; exact k)
theorem mpo_20 : (mw κ ma M)[14]? = some (ma 20, .inl (κ.2.1, 74, .inl (fun j : Nat => iI (M 20 (j : Int))))) := rfl
theorem mse_20 {f : Int → Int} : (mw κ ma M).set 14 (ma 20, .inl (κ.2.1, 74, .inl (fun j : Nat => iI (f (j : Int))))) = mw κ ma (mA M 20 f) := rfl
theorem gm_ald_20 {z : Int} (F : Fx E κ cc RX6 n dd) (hz : 0 ≤ z ∧ z < 74) (hd : decode cc pc = .ok (.iaload, 1)) (k : G E (mw κ ma M) lv (pc + 1) (.int (iI (M 20 z)) :: st)) : G E (mw κ ma M) lv pc (.int (iI z) :: .ref (ma 20) :: st) := g_ald F 14 mpo_20 hz (by decide) hd k
theorem gm_ast_20 {z v : Int} (F : Fx E κ cc RX6 n dd) (hz : 0 ≤ z ∧ z < 74) (hd : decode cc pc = .ok (.iastore, 1)) (k : G E (mw κ ma (mA M 20 (uI (M 20) z v))) lv (pc + 1) st) : G E (mw κ ma M) lv pc (.int (iI v) :: .int (iI z) :: .ref (ma 20) :: st) := g_ast F 14 mpo_20 hz (by decide) mse_20 hd k
theorem gm_astS_20 {z v : Int} {f : Int → Int} (F : Fx E κ cc RX6 n dd) (hz : 0 ≤ z ∧ z < 74) (hd : decode cc pc = .ok (.iastore, 1)) (k : G E (mw κ ma (mA M 20 (uI f z v))) lv (pc + 1) st) : G E (mw κ ma (mA M 20 f)) lv pc (.int (iI v) :: .int (iI z) :: .ref (ma 20) :: st) := gm_ast_20 F hz hd (by rw [mA_s, mA_mA]; exact k)
theorem mpo_21 : (mw κ ma M)[15]? = some (ma 21, .inl (κ.2.1, 74, .inl (fun j : Nat => iI (M 21 (j : Int))))) := rfl
theorem mse_21 {f : Int → Int} : (mw κ ma M).set 15 (ma 21, .inl (κ.2.1, 74, .inl (fun j : Nat => iI (f (j : Int))))) = mw κ ma (mA M 21 f) := rfl
theorem gm_ald_21 {z : Int} (F : Fx E κ cc RX6 n dd) (hz : 0 ≤ z ∧ z < 74) (hd : decode cc pc = .ok (.iaload, 1)) (k : G E (mw κ ma M) lv (pc + 1) (.int (iI (M 21 z)) :: st)) : G E (mw κ ma M) lv pc (.int (iI z) :: .ref (ma 21) :: st) := g_ald F 15 mpo_21 hz (by decide) hd k
theorem gm_ast_21 {z v : Int} (F : Fx E κ cc RX6 n dd) (hz : 0 ≤ z ∧ z < 74) (hd : decode cc pc = .ok (.iastore, 1)) (k : G E (mw κ ma (mA M 21 (uI (M 21) z v))) lv (pc + 1) st) : G E (mw κ ma M) lv pc (.int (iI v) :: .int (iI z) :: .ref (ma 21) :: st) := g_ast F 15 mpo_21 hz (by decide) mse_21 hd k
theorem gm_astS_21 {z v : Int} {f : Int → Int} (F : Fx E κ cc RX6 n dd) (hz : 0 ≤ z ∧ z < 74) (hd : decode cc pc = .ok (.iastore, 1)) (k : G E (mw κ ma (mA M 21 (uI f z v))) lv (pc + 1) st) : G E (mw κ ma (mA M 21 f)) lv pc (.int (iI v) :: .int (iI z) :: .ref (ma 21) :: st) := gm_ast_21 F hz hd (by rw [mA_s, mA_mA]; exact k)
theorem mpo_26 : (mw κ ma M)[16]? = some (ma 26, .inl (κ.2.1, 592, .inl (fun j : Nat => iI (M 26 (j : Int))))) := rfl
theorem mse_26 {f : Int → Int} : (mw κ ma M).set 16 (ma 26, .inl (κ.2.1, 592, .inl (fun j : Nat => iI (f (j : Int))))) = mw κ ma (mA M 26 f) := rfl
theorem gm_ald_26 {z : Int} (F : Fx E κ cc RX6 n dd) (hz : 0 ≤ z ∧ z < 592) (hd : decode cc pc = .ok (.iaload, 1)) (k : G E (mw κ ma M) lv (pc + 1) (.int (iI (M 26 z)) :: st)) : G E (mw κ ma M) lv pc (.int (iI z) :: .ref (ma 26) :: st) := g_ald F 16 mpo_26 hz (by decide) hd k
theorem gm_ast_26 {z v : Int} (F : Fx E κ cc RX6 n dd) (hz : 0 ≤ z ∧ z < 592) (hd : decode cc pc = .ok (.iastore, 1)) (k : G E (mw κ ma (mA M 26 (uI (M 26) z v))) lv (pc + 1) st) : G E (mw κ ma M) lv pc (.int (iI v) :: .int (iI z) :: .ref (ma 26) :: st) := g_ast F 16 mpo_26 hz (by decide) mse_26 hd k
theorem gm_astS_26 {z v : Int} {f : Int → Int} (F : Fx E κ cc RX6 n dd) (hz : 0 ≤ z ∧ z < 592) (hd : decode cc pc = .ok (.iastore, 1)) (k : G E (mw κ ma (mA M 26 (uI f z v))) lv (pc + 1) st) : G E (mw κ ma (mA M 26 f)) lv pc (.int (iI v) :: .int (iI z) :: .ref (ma 26) :: st) := gm_ast_26 F hz hd (by rw [mA_s, mA_mA]; exact k)
theorem mpo_27 : (mw κ ma M)[17]? = some (ma 27, .inl (κ.2.1, 74, .inl (fun j : Nat => iI (M 27 (j : Int))))) := rfl
theorem mse_27 {f : Int → Int} : (mw κ ma M).set 17 (ma 27, .inl (κ.2.1, 74, .inl (fun j : Nat => iI (f (j : Int))))) = mw κ ma (mA M 27 f) := rfl
theorem gm_ald_27 {z : Int} (F : Fx E κ cc RX6 n dd) (hz : 0 ≤ z ∧ z < 74) (hd : decode cc pc = .ok (.iaload, 1)) (k : G E (mw κ ma M) lv (pc + 1) (.int (iI (M 27 z)) :: st)) : G E (mw κ ma M) lv pc (.int (iI z) :: .ref (ma 27) :: st) := g_ald F 17 mpo_27 hz (by decide) hd k
theorem gm_ast_27 {z v : Int} (F : Fx E κ cc RX6 n dd) (hz : 0 ≤ z ∧ z < 74) (hd : decode cc pc = .ok (.iastore, 1)) (k : G E (mw κ ma (mA M 27 (uI (M 27) z v))) lv (pc + 1) st) : G E (mw κ ma M) lv pc (.int (iI v) :: .int (iI z) :: .ref (ma 27) :: st) := g_ast F 17 mpo_27 hz (by decide) mse_27 hd k
theorem gm_astS_27 {z v : Int} {f : Int → Int} (F : Fx E κ cc RX6 n dd) (hz : 0 ≤ z ∧ z < 74) (hd : decode cc pc = .ok (.iastore, 1)) (k : G E (mw κ ma (mA M 27 (uI f z v))) lv (pc + 1) st) : G E (mw κ ma (mA M 27 f)) lv pc (.int (iI v) :: .int (iI z) :: .ref (ma 27) :: st) := gm_ast_27 F hz hd (by rw [mA_s, mA_mA]; exact k)
theorem mpo_29 : (mw κ ma M)[18]? = some (ma 29, .inl (κ.2.1, 12, .inl (fun j : Nat => iI (M 29 (j : Int))))) := rfl
theorem mse_29 {f : Int → Int} : (mw κ ma M).set 18 (ma 29, .inl (κ.2.1, 12, .inl (fun j : Nat => iI (f (j : Int))))) = mw κ ma (mA M 29 f) := rfl
theorem gm_ald_29 {z : Int} (F : Fx E κ cc RX6 n dd) (hz : 0 ≤ z ∧ z < 12) (hd : decode cc pc = .ok (.iaload, 1)) (k : G E (mw κ ma M) lv (pc + 1) (.int (iI (M 29 z)) :: st)) : G E (mw κ ma M) lv pc (.int (iI z) :: .ref (ma 29) :: st) := g_ald F 18 mpo_29 hz (by decide) hd k
theorem gm_ast_29 {z v : Int} (F : Fx E κ cc RX6 n dd) (hz : 0 ≤ z ∧ z < 12) (hd : decode cc pc = .ok (.iastore, 1)) (k : G E (mw κ ma (mA M 29 (uI (M 29) z v))) lv (pc + 1) st) : G E (mw κ ma M) lv pc (.int (iI v) :: .int (iI z) :: .ref (ma 29) :: st) := g_ast F 18 mpo_29 hz (by decide) mse_29 hd k
theorem gm_astS_29 {z v : Int} {f : Int → Int} (F : Fx E κ cc RX6 n dd) (hz : 0 ≤ z ∧ z < 12) (hd : decode cc pc = .ok (.iastore, 1)) (k : G E (mw κ ma (mA M 29 (uI f z v))) lv (pc + 1) st) : G E (mw κ ma (mA M 29 f)) lv pc (.int (iI v) :: .int (iI z) :: .ref (ma 29) :: st) := gm_ast_29 F hz hd (by rw [mA_s, mA_mA]; exact k)
theorem mpo_30 : (mw κ ma M)[19]? = some (ma 30, .inl (κ.2.1, 6, .inl (fun j : Nat => iI (M 30 (j : Int))))) := rfl
theorem mse_30 {f : Int → Int} : (mw κ ma M).set 19 (ma 30, .inl (κ.2.1, 6, .inl (fun j : Nat => iI (f (j : Int))))) = mw κ ma (mA M 30 f) := rfl
theorem gm_ald_30 {z : Int} (F : Fx E κ cc RX6 n dd) (hz : 0 ≤ z ∧ z < 6) (hd : decode cc pc = .ok (.iaload, 1)) (k : G E (mw κ ma M) lv (pc + 1) (.int (iI (M 30 z)) :: st)) : G E (mw κ ma M) lv pc (.int (iI z) :: .ref (ma 30) :: st) := g_ald F 19 mpo_30 hz (by decide) hd k
theorem gm_ast_30 {z v : Int} (F : Fx E κ cc RX6 n dd) (hz : 0 ≤ z ∧ z < 6) (hd : decode cc pc = .ok (.iastore, 1)) (k : G E (mw κ ma (mA M 30 (uI (M 30) z v))) lv (pc + 1) st) : G E (mw κ ma M) lv pc (.int (iI v) :: .int (iI z) :: .ref (ma 30) :: st) := g_ast F 19 mpo_30 hz (by decide) mse_30 hd k
theorem gm_astS_30 {z v : Int} {f : Int → Int} (F : Fx E κ cc RX6 n dd) (hz : 0 ≤ z ∧ z < 6) (hd : decode cc pc = .ok (.iastore, 1)) (k : G E (mw κ ma (mA M 30 (uI f z v))) lv (pc + 1) st) : G E (mw κ ma (mA M 30 f)) lv pc (.int (iI v) :: .int (iI z) :: .ref (ma 30) :: st) := gm_ast_30 F hz hd (by rw [mA_s, mA_mA]; exact k)
theorem mpo_32 : (mw κ ma M)[20]? = some (ma 32, .inl (κ.2.1, 3, .inl (fun j : Nat => iI (M 32 (j : Int))))) := rfl
theorem mse_32 {f : Int → Int} : (mw κ ma M).set 20 (ma 32, .inl (κ.2.1, 3, .inl (fun j : Nat => iI (f (j : Int))))) = mw κ ma (mA M 32 f) := rfl
theorem gm_ald_32 {z : Int} (F : Fx E κ cc RX6 n dd) (hz : 0 ≤ z ∧ z < 3) (hd : decode cc pc = .ok (.iaload, 1)) (k : G E (mw κ ma M) lv (pc + 1) (.int (iI (M 32 z)) :: st)) : G E (mw κ ma M) lv pc (.int (iI z) :: .ref (ma 32) :: st) := g_ald F 20 mpo_32 hz (by decide) hd k
theorem gm_ast_32 {z v : Int} (F : Fx E κ cc RX6 n dd) (hz : 0 ≤ z ∧ z < 3) (hd : decode cc pc = .ok (.iastore, 1)) (k : G E (mw κ ma (mA M 32 (uI (M 32) z v))) lv (pc + 1) st) : G E (mw κ ma M) lv pc (.int (iI v) :: .int (iI z) :: .ref (ma 32) :: st) := g_ast F 20 mpo_32 hz (by decide) mse_32 hd k
theorem gm_astS_32 {z v : Int} {f : Int → Int} (F : Fx E κ cc RX6 n dd) (hz : 0 ≤ z ∧ z < 3) (hd : decode cc pc = .ok (.iastore, 1)) (k : G E (mw κ ma (mA M 32 (uI f z v))) lv (pc + 1) st) : G E (mw κ ma (mA M 32 f)) lv pc (.int (iI v) :: .int (iI z) :: .ref (ma 32) :: st) := gm_ast_32 F hz hd (by rw [mA_s, mA_mA]; exact k)
theorem mpo_33 : (mw κ ma M)[21]? = some (ma 33, .inl (κ.2.1, 3, .inl (fun j : Nat => iI (M 33 (j : Int))))) := rfl
theorem mse_33 {f : Int → Int} : (mw κ ma M).set 21 (ma 33, .inl (κ.2.1, 3, .inl (fun j : Nat => iI (f (j : Int))))) = mw κ ma (mA M 33 f) := rfl
theorem gm_ald_33 {z : Int} (F : Fx E κ cc RX6 n dd) (hz : 0 ≤ z ∧ z < 3) (hd : decode cc pc = .ok (.iaload, 1)) (k : G E (mw κ ma M) lv (pc + 1) (.int (iI (M 33 z)) :: st)) : G E (mw κ ma M) lv pc (.int (iI z) :: .ref (ma 33) :: st) := g_ald F 21 mpo_33 hz (by decide) hd k
theorem gm_ast_33 {z v : Int} (F : Fx E κ cc RX6 n dd) (hz : 0 ≤ z ∧ z < 3) (hd : decode cc pc = .ok (.iastore, 1)) (k : G E (mw κ ma (mA M 33 (uI (M 33) z v))) lv (pc + 1) st) : G E (mw κ ma M) lv pc (.int (iI v) :: .int (iI z) :: .ref (ma 33) :: st) := g_ast F 21 mpo_33 hz (by decide) mse_33 hd k
theorem gm_astS_33 {z v : Int} {f : Int → Int} (F : Fx E κ cc RX6 n dd) (hz : 0 ≤ z ∧ z < 3) (hd : decode cc pc = .ok (.iastore, 1)) (k : G E (mw κ ma (mA M 33 (uI f z v))) lv (pc + 1) st) : G E (mw κ ma (mA M 33 f)) lv pc (.int (iI v) :: .int (iI z) :: .ref (ma 33) :: st) := gm_ast_33 F hz hd (by rw [mA_s, mA_mA]; exact k)
theorem mpo_34 : (mw κ ma M)[22]? = some (ma 34, .inl (κ.2.1, 3, .inl (fun j : Nat => iI (M 34 (j : Int))))) := rfl
theorem mse_34 {f : Int → Int} : (mw κ ma M).set 22 (ma 34, .inl (κ.2.1, 3, .inl (fun j : Nat => iI (f (j : Int))))) = mw κ ma (mA M 34 f) := rfl
theorem gm_ald_34 {z : Int} (F : Fx E κ cc RX6 n dd) (hz : 0 ≤ z ∧ z < 3) (hd : decode cc pc = .ok (.iaload, 1)) (k : G E (mw κ ma M) lv (pc + 1) (.int (iI (M 34 z)) :: st)) : G E (mw κ ma M) lv pc (.int (iI z) :: .ref (ma 34) :: st) := g_ald F 22 mpo_34 hz (by decide) hd k
theorem gm_ast_34 {z v : Int} (F : Fx E κ cc RX6 n dd) (hz : 0 ≤ z ∧ z < 3) (hd : decode cc pc = .ok (.iastore, 1)) (k : G E (mw κ ma (mA M 34 (uI (M 34) z v))) lv (pc + 1) st) : G E (mw κ ma M) lv pc (.int (iI v) :: .int (iI z) :: .ref (ma 34) :: st) := g_ast F 22 mpo_34 hz (by decide) mse_34 hd k
theorem gm_astS_34 {z v : Int} {f : Int → Int} (F : Fx E κ cc RX6 n dd) (hz : 0 ≤ z ∧ z < 3) (hd : decode cc pc = .ok (.iastore, 1)) (k : G E (mw κ ma (mA M 34 (uI f z v))) lv (pc + 1) st) : G E (mw κ ma (mA M 34 f)) lv pc (.int (iI v) :: .int (iI z) :: .ref (ma 34) :: st) := gm_ast_34 F hz hd (by rw [mA_s, mA_mA]; exact k)
theorem mpo_35 : (mw κ ma M)[23]? = some (ma 35, .inl (κ.2.1, 4, .inl (fun j : Nat => iI (M 35 (j : Int))))) := rfl
theorem mse_35 {f : Int → Int} : (mw κ ma M).set 23 (ma 35, .inl (κ.2.1, 4, .inl (fun j : Nat => iI (f (j : Int))))) = mw κ ma (mA M 35 f) := rfl
theorem gm_ald_35 {z : Int} (F : Fx E κ cc RX6 n dd) (hz : 0 ≤ z ∧ z < 4) (hd : decode cc pc = .ok (.iaload, 1)) (k : G E (mw κ ma M) lv (pc + 1) (.int (iI (M 35 z)) :: st)) : G E (mw κ ma M) lv pc (.int (iI z) :: .ref (ma 35) :: st) := g_ald F 23 mpo_35 hz (by decide) hd k
theorem gm_ast_35 {z v : Int} (F : Fx E κ cc RX6 n dd) (hz : 0 ≤ z ∧ z < 4) (hd : decode cc pc = .ok (.iastore, 1)) (k : G E (mw κ ma (mA M 35 (uI (M 35) z v))) lv (pc + 1) st) : G E (mw κ ma M) lv pc (.int (iI v) :: .int (iI z) :: .ref (ma 35) :: st) := g_ast F 23 mpo_35 hz (by decide) mse_35 hd k
theorem gm_astS_35 {z v : Int} {f : Int → Int} (F : Fx E κ cc RX6 n dd) (hz : 0 ≤ z ∧ z < 4) (hd : decode cc pc = .ok (.iastore, 1)) (k : G E (mw κ ma (mA M 35 (uI f z v))) lv (pc + 1) st) : G E (mw κ ma (mA M 35 f)) lv pc (.int (iI v) :: .int (iI z) :: .ref (ma 35) :: st) := gm_ast_35 F hz hd (by rw [mA_s, mA_mA]; exact k)
theorem mpo_37 : (mw κ ma M)[24]? = some (ma 37, .inl (κ.2.1, 12, .inl (fun j : Nat => iI (M 37 (j : Int))))) := rfl
theorem mse_37 {f : Int → Int} : (mw κ ma M).set 24 (ma 37, .inl (κ.2.1, 12, .inl (fun j : Nat => iI (f (j : Int))))) = mw κ ma (mA M 37 f) := rfl
theorem gm_ald_37 {z : Int} (F : Fx E κ cc RX6 n dd) (hz : 0 ≤ z ∧ z < 12) (hd : decode cc pc = .ok (.iaload, 1)) (k : G E (mw κ ma M) lv (pc + 1) (.int (iI (M 37 z)) :: st)) : G E (mw κ ma M) lv pc (.int (iI z) :: .ref (ma 37) :: st) := g_ald F 24 mpo_37 hz (by decide) hd k
theorem gm_ast_37 {z v : Int} (F : Fx E κ cc RX6 n dd) (hz : 0 ≤ z ∧ z < 12) (hd : decode cc pc = .ok (.iastore, 1)) (k : G E (mw κ ma (mA M 37 (uI (M 37) z v))) lv (pc + 1) st) : G E (mw κ ma M) lv pc (.int (iI v) :: .int (iI z) :: .ref (ma 37) :: st) := g_ast F 24 mpo_37 hz (by decide) mse_37 hd k
theorem gm_astS_37 {z v : Int} {f : Int → Int} (F : Fx E κ cc RX6 n dd) (hz : 0 ≤ z ∧ z < 12) (hd : decode cc pc = .ok (.iastore, 1)) (k : G E (mw κ ma (mA M 37 (uI f z v))) lv (pc + 1) st) : G E (mw κ ma (mA M 37 f)) lv pc (.int (iI v) :: .int (iI z) :: .ref (ma 37) :: st) := gm_ast_37 F hz hd (by rw [mA_s, mA_mA]; exact k)
theorem mpo_39 : (mw κ ma M)[25]? = some (ma 39, .inl (κ.2.1, 12, .inl (fun j : Nat => iI (M 39 (j : Int))))) := rfl
theorem mse_39 {f : Int → Int} : (mw κ ma M).set 25 (ma 39, .inl (κ.2.1, 12, .inl (fun j : Nat => iI (f (j : Int))))) = mw κ ma (mA M 39 f) := rfl
theorem gm_ald_39 {z : Int} (F : Fx E κ cc RX6 n dd) (hz : 0 ≤ z ∧ z < 12) (hd : decode cc pc = .ok (.iaload, 1)) (k : G E (mw κ ma M) lv (pc + 1) (.int (iI (M 39 z)) :: st)) : G E (mw κ ma M) lv pc (.int (iI z) :: .ref (ma 39) :: st) := g_ald F 25 mpo_39 hz (by decide) hd k
theorem gm_ast_39 {z v : Int} (F : Fx E κ cc RX6 n dd) (hz : 0 ≤ z ∧ z < 12) (hd : decode cc pc = .ok (.iastore, 1)) (k : G E (mw κ ma (mA M 39 (uI (M 39) z v))) lv (pc + 1) st) : G E (mw κ ma M) lv pc (.int (iI v) :: .int (iI z) :: .ref (ma 39) :: st) := g_ast F 25 mpo_39 hz (by decide) mse_39 hd k
theorem gm_astS_39 {z v : Int} {f : Int → Int} (F : Fx E κ cc RX6 n dd) (hz : 0 ≤ z ∧ z < 12) (hd : decode cc pc = .ok (.iastore, 1)) (k : G E (mw κ ma (mA M 39 (uI f z v))) lv (pc + 1) st) : G E (mw κ ma (mA M 39 f)) lv pc (.int (iI v) :: .int (iI z) :: .ref (ma 39) :: st) := gm_ast_39 F hz hd (by rw [mA_s, mA_mA]; exact k)
theorem mpo_40 : (mw κ ma M)[26]? = some (ma 40, .inl (κ.2.1, 8, .inl (fun j : Nat => iI (M 40 (j : Int))))) := rfl
theorem mse_40 {f : Int → Int} : (mw κ ma M).set 26 (ma 40, .inl (κ.2.1, 8, .inl (fun j : Nat => iI (f (j : Int))))) = mw κ ma (mA M 40 f) := rfl
theorem gm_ald_40 {z : Int} (F : Fx E κ cc RX6 n dd) (hz : 0 ≤ z ∧ z < 8) (hd : decode cc pc = .ok (.iaload, 1)) (k : G E (mw κ ma M) lv (pc + 1) (.int (iI (M 40 z)) :: st)) : G E (mw κ ma M) lv pc (.int (iI z) :: .ref (ma 40) :: st) := g_ald F 26 mpo_40 hz (by decide) hd k
theorem gm_ast_40 {z v : Int} (F : Fx E κ cc RX6 n dd) (hz : 0 ≤ z ∧ z < 8) (hd : decode cc pc = .ok (.iastore, 1)) (k : G E (mw κ ma (mA M 40 (uI (M 40) z v))) lv (pc + 1) st) : G E (mw κ ma M) lv pc (.int (iI v) :: .int (iI z) :: .ref (ma 40) :: st) := g_ast F 26 mpo_40 hz (by decide) mse_40 hd k
theorem gm_astS_40 {z v : Int} {f : Int → Int} (F : Fx E κ cc RX6 n dd) (hz : 0 ≤ z ∧ z < 8) (hd : decode cc pc = .ok (.iastore, 1)) (k : G E (mw κ ma (mA M 40 (uI f z v))) lv (pc + 1) st) : G E (mw κ ma (mA M 40 f)) lv pc (.int (iI v) :: .int (iI z) :: .ref (ma 40) :: st) := gm_ast_40 F hz hd (by rw [mA_s, mA_mA]; exact k)
theorem mpo_41 : (mw κ ma M)[27]? = some (ma 41, .inl (κ.2.1, 12, .inl (fun j : Nat => iI (M 41 (j : Int))))) := rfl
theorem mse_41 {f : Int → Int} : (mw κ ma M).set 27 (ma 41, .inl (κ.2.1, 12, .inl (fun j : Nat => iI (f (j : Int))))) = mw κ ma (mA M 41 f) := rfl
theorem gm_ald_41 {z : Int} (F : Fx E κ cc RX6 n dd) (hz : 0 ≤ z ∧ z < 12) (hd : decode cc pc = .ok (.iaload, 1)) (k : G E (mw κ ma M) lv (pc + 1) (.int (iI (M 41 z)) :: st)) : G E (mw κ ma M) lv pc (.int (iI z) :: .ref (ma 41) :: st) := g_ald F 27 mpo_41 hz (by decide) hd k
theorem gm_ast_41 {z v : Int} (F : Fx E κ cc RX6 n dd) (hz : 0 ≤ z ∧ z < 12) (hd : decode cc pc = .ok (.iastore, 1)) (k : G E (mw κ ma (mA M 41 (uI (M 41) z v))) lv (pc + 1) st) : G E (mw κ ma M) lv pc (.int (iI v) :: .int (iI z) :: .ref (ma 41) :: st) := g_ast F 27 mpo_41 hz (by decide) mse_41 hd k
theorem gm_astS_41 {z v : Int} {f : Int → Int} (F : Fx E κ cc RX6 n dd) (hz : 0 ≤ z ∧ z < 12) (hd : decode cc pc = .ok (.iastore, 1)) (k : G E (mw κ ma (mA M 41 (uI f z v))) lv (pc + 1) st) : G E (mw κ ma (mA M 41 f)) lv pc (.int (iI v) :: .int (iI z) :: .ref (ma 41) :: st) := gm_ast_41 F hz hd (by rw [mA_s, mA_mA]; exact k)
theorem gm_weq_0 {f g : Int → Int} (h : ∀ j : Int, 0 ≤ j → j < 12 → f j = g j) (k : G E (mw κ ma (mA M 0 g)) lv pc st) : G E (mw κ ma (mA M 0 f)) lv pc st := g_weq (fun D H hP => by rw [← mse_0] at hP ⊢; exact va_P_set_congr (at_ext (fun j hj => by rw [h (j : Int) (by omega) (by omega)])) hP) mw_same k
theorem gm_weq_1 {f g : Int → Int} (h : ∀ j : Int, 0 ≤ j → j < 12 → f j = g j) (k : G E (mw κ ma (mA M 1 g)) lv pc st) : G E (mw κ ma (mA M 1 f)) lv pc st := g_weq (fun D H hP => by rw [← mse_1] at hP ⊢; exact va_P_set_congr (at_ext (fun j hj => by rw [h (j : Int) (by omega) (by omega)])) hP) mw_same k
theorem gm_weq_2 {f g : Int → Int} (h : ∀ j : Int, 0 ≤ j → j < 12 → f j = g j) (k : G E (mw κ ma (mA M 2 g)) lv pc st) : G E (mw κ ma (mA M 2 f)) lv pc st := g_weq (fun D H hP => by rw [← mse_2] at hP ⊢; exact va_P_set_congr (at_ext (fun j hj => by rw [h (j : Int) (by omega) (by omega)])) hP) mw_same k
theorem gm_weq_3 {f g : Int → Int} (h : ∀ j : Int, 0 ≤ j → j < 12 → f j = g j) (k : G E (mw κ ma (mA M 3 g)) lv pc st) : G E (mw κ ma (mA M 3 f)) lv pc st := g_weq (fun D H hP => by rw [← mse_3] at hP ⊢; exact va_P_set_congr (at_ext (fun j hj => by rw [h (j : Int) (by omega) (by omega)])) hP) mw_same k
theorem gm_weq_6 {f g : Int → Int} (h : ∀ j : Int, 0 ≤ j → j < 6 → f j = g j) (k : G E (mw κ ma (mA M 6 g)) lv pc st) : G E (mw κ ma (mA M 6 f)) lv pc st := g_weq (fun D H hP => by rw [← mse_6] at hP ⊢; exact va_P_set_congr (at_ext (fun j hj => by rw [h (j : Int) (by omega) (by omega)])) hP) mw_same k
theorem gm_weq_7 {f g : Int → Int} (h : ∀ j : Int, 0 ≤ j → j < 6 → f j = g j) (k : G E (mw κ ma (mA M 7 g)) lv pc st) : G E (mw κ ma (mA M 7 f)) lv pc st := g_weq (fun D H hP => by rw [← mse_7] at hP ⊢; exact va_P_set_congr (at_ext (fun j hj => by rw [h (j : Int) (by omega) (by omega)])) hP) mw_same k
theorem gm_weq_8 {f g : Int → Int} (h : ∀ j : Int, 0 ≤ j → j < 6 → f j = g j) (k : G E (mw κ ma (mA M 8 g)) lv pc st) : G E (mw κ ma (mA M 8 f)) lv pc st := g_weq (fun D H hP => by rw [← mse_8] at hP ⊢; exact va_P_set_congr (at_ext (fun j hj => by rw [h (j : Int) (by omega) (by omega)])) hP) mw_same k
theorem gm_weq_9 {f g : Int → Int} (h : ∀ j : Int, 0 ≤ j → j < 6 → f j = g j) (k : G E (mw κ ma (mA M 9 g)) lv pc st) : G E (mw κ ma (mA M 9 f)) lv pc st := g_weq (fun D H hP => by rw [← mse_9] at hP ⊢; exact va_P_set_congr (at_ext (fun j hj => by rw [h (j : Int) (by omega) (by omega)])) hP) mw_same k
theorem gm_weq_11 {f g : Int → Int} (h : ∀ j : Int, 0 ≤ j → j < 7 → f j = g j) (k : G E (mw κ ma (mA M 11 g)) lv pc st) : G E (mw κ ma (mA M 11 f)) lv pc st := g_weq (fun D H hP => by rw [← mse_11] at hP ⊢; exact va_P_set_congr (at_ext (fun j hj => by rw [h (j : Int) (by omega) (by omega)])) hP) mw_same k
theorem gm_weq_12 {f g : Int → Int} (h : ∀ j : Int, 0 ≤ j → j < 96 → f j = g j) (k : G E (mw κ ma (mA M 12 g)) lv pc st) : G E (mw κ ma (mA M 12 f)) lv pc st := g_weq (fun D H hP => by rw [← mse_12] at hP ⊢; exact va_P_set_congr (at_ext (fun j hj => by rw [h (j : Int) (by omega) (by omega)])) hP) mw_same k
theorem gm_weq_17 {f g : Int → Int} (h : ∀ j : Int, 0 ≤ j → j < 49 → f j = g j) (k : G E (mw κ ma (mA M 17 g)) lv pc st) : G E (mw κ ma (mA M 17 f)) lv pc st := g_weq (fun D H hP => by rw [← mse_17] at hP ⊢; exact va_P_set_congr (at_ext (fun j hj => by rw [h (j : Int) (by omega) (by omega)])) hP) mw_same k
theorem gm_weq_18 {f g : Int → Int} (h : ∀ j : Int, 0 ≤ j → j < 49 → f j = g j) (k : G E (mw κ ma (mA M 18 g)) lv pc st) : G E (mw κ ma (mA M 18 f)) lv pc st := g_weq (fun D H hP => by rw [← mse_18] at hP ⊢; exact va_P_set_congr (at_ext (fun j hj => by rw [h (j : Int) (by omega) (by omega)])) hP) mw_same k
theorem gm_weq_19 {f g : Int → Int} (h : ∀ j : Int, 0 ≤ j → j < 245 → f j = g j) (k : G E (mw κ ma (mA M 19 g)) lv pc st) : G E (mw κ ma (mA M 19 f)) lv pc st := g_weq (fun D H hP => by rw [← mse_19] at hP ⊢; exact va_P_set_congr (at_ext (fun j hj => by rw [h (j : Int) (by omega) (by omega)])) hP) mw_same k
theorem gm_weq_20 {f g : Int → Int} (h : ∀ j : Int, 0 ≤ j → j < 74 → f j = g j) (k : G E (mw κ ma (mA M 20 g)) lv pc st) : G E (mw κ ma (mA M 20 f)) lv pc st := g_weq (fun D H hP => by rw [← mse_20] at hP ⊢; exact va_P_set_congr (at_ext (fun j hj => by rw [h (j : Int) (by omega) (by omega)])) hP) mw_same k
theorem gm_weq_21 {f g : Int → Int} (h : ∀ j : Int, 0 ≤ j → j < 74 → f j = g j) (k : G E (mw κ ma (mA M 21 g)) lv pc st) : G E (mw κ ma (mA M 21 f)) lv pc st := g_weq (fun D H hP => by rw [← mse_21] at hP ⊢; exact va_P_set_congr (at_ext (fun j hj => by rw [h (j : Int) (by omega) (by omega)])) hP) mw_same k
theorem gm_weq_26 {f g : Int → Int} (h : ∀ j : Int, 0 ≤ j → j < 592 → f j = g j) (k : G E (mw κ ma (mA M 26 g)) lv pc st) : G E (mw κ ma (mA M 26 f)) lv pc st := g_weq (fun D H hP => by rw [← mse_26] at hP ⊢; exact va_P_set_congr (at_ext (fun j hj => by rw [h (j : Int) (by omega) (by omega)])) hP) mw_same k
theorem gm_weq_27 {f g : Int → Int} (h : ∀ j : Int, 0 ≤ j → j < 74 → f j = g j) (k : G E (mw κ ma (mA M 27 g)) lv pc st) : G E (mw κ ma (mA M 27 f)) lv pc st := g_weq (fun D H hP => by rw [← mse_27] at hP ⊢; exact va_P_set_congr (at_ext (fun j hj => by rw [h (j : Int) (by omega) (by omega)])) hP) mw_same k
theorem gm_weq_29 {f g : Int → Int} (h : ∀ j : Int, 0 ≤ j → j < 12 → f j = g j) (k : G E (mw κ ma (mA M 29 g)) lv pc st) : G E (mw κ ma (mA M 29 f)) lv pc st := g_weq (fun D H hP => by rw [← mse_29] at hP ⊢; exact va_P_set_congr (at_ext (fun j hj => by rw [h (j : Int) (by omega) (by omega)])) hP) mw_same k
theorem gm_weq_30 {f g : Int → Int} (h : ∀ j : Int, 0 ≤ j → j < 6 → f j = g j) (k : G E (mw κ ma (mA M 30 g)) lv pc st) : G E (mw κ ma (mA M 30 f)) lv pc st := g_weq (fun D H hP => by rw [← mse_30] at hP ⊢; exact va_P_set_congr (at_ext (fun j hj => by rw [h (j : Int) (by omega) (by omega)])) hP) mw_same k
theorem gm_weq_32 {f g : Int → Int} (h : ∀ j : Int, 0 ≤ j → j < 3 → f j = g j) (k : G E (mw κ ma (mA M 32 g)) lv pc st) : G E (mw κ ma (mA M 32 f)) lv pc st := g_weq (fun D H hP => by rw [← mse_32] at hP ⊢; exact va_P_set_congr (at_ext (fun j hj => by rw [h (j : Int) (by omega) (by omega)])) hP) mw_same k
theorem gm_weq_33 {f g : Int → Int} (h : ∀ j : Int, 0 ≤ j → j < 3 → f j = g j) (k : G E (mw κ ma (mA M 33 g)) lv pc st) : G E (mw κ ma (mA M 33 f)) lv pc st := g_weq (fun D H hP => by rw [← mse_33] at hP ⊢; exact va_P_set_congr (at_ext (fun j hj => by rw [h (j : Int) (by omega) (by omega)])) hP) mw_same k
theorem gm_weq_34 {f g : Int → Int} (h : ∀ j : Int, 0 ≤ j → j < 3 → f j = g j) (k : G E (mw κ ma (mA M 34 g)) lv pc st) : G E (mw κ ma (mA M 34 f)) lv pc st := g_weq (fun D H hP => by rw [← mse_34] at hP ⊢; exact va_P_set_congr (at_ext (fun j hj => by rw [h (j : Int) (by omega) (by omega)])) hP) mw_same k
theorem gm_weq_35 {f g : Int → Int} (h : ∀ j : Int, 0 ≤ j → j < 4 → f j = g j) (k : G E (mw κ ma (mA M 35 g)) lv pc st) : G E (mw κ ma (mA M 35 f)) lv pc st := g_weq (fun D H hP => by rw [← mse_35] at hP ⊢; exact va_P_set_congr (at_ext (fun j hj => by rw [h (j : Int) (by omega) (by omega)])) hP) mw_same k
theorem gm_weq_37 {f g : Int → Int} (h : ∀ j : Int, 0 ≤ j → j < 12 → f j = g j) (k : G E (mw κ ma (mA M 37 g)) lv pc st) : G E (mw κ ma (mA M 37 f)) lv pc st := g_weq (fun D H hP => by rw [← mse_37] at hP ⊢; exact va_P_set_congr (at_ext (fun j hj => by rw [h (j : Int) (by omega) (by omega)])) hP) mw_same k
theorem gm_weq_39 {f g : Int → Int} (h : ∀ j : Int, 0 ≤ j → j < 12 → f j = g j) (k : G E (mw κ ma (mA M 39 g)) lv pc st) : G E (mw κ ma (mA M 39 f)) lv pc st := g_weq (fun D H hP => by rw [← mse_39] at hP ⊢; exact va_P_set_congr (at_ext (fun j hj => by rw [h (j : Int) (by omega) (by omega)])) hP) mw_same k
theorem gm_weq_40 {f g : Int → Int} (h : ∀ j : Int, 0 ≤ j → j < 8 → f j = g j) (k : G E (mw κ ma (mA M 40 g)) lv pc st) : G E (mw κ ma (mA M 40 f)) lv pc st := g_weq (fun D H hP => by rw [← mse_40] at hP ⊢; exact va_P_set_congr (at_ext (fun j hj => by rw [h (j : Int) (by omega) (by omega)])) hP) mw_same k
theorem gm_weq_41 {f g : Int → Int} (h : ∀ j : Int, 0 ≤ j → j < 12 → f j = g j) (k : G E (mw κ ma (mA M 41 g)) lv pc st) : G E (mw κ ma (mA M 41 f)) lv pc st := g_weq (fun D H hP => by rw [← mse_41] at hP ⊢; exact va_P_set_congr (at_ext (fun j hj => by rw [h (j : Int) (by omega) (by omega)])) hP) mw_same k
end
end
section
/-! WHAT IS SAID OF BOTH SIDES: truth values, sums, bits; then cloth -/
def b2i (p : Prop) [Decidable p] : Int := if p then 1 else 0
theorem b2i_in (p : Prop) [Decidable p] : In32 (b2i p) := by
  unfold b2i
  by_cases h : p
  · rw [if_pos h]; decide
  · rw [if_neg h]; decide
theorem b2i_t {p : Prop} [Decidable p] (h : b2i p ≠ 0) : p := by
  by_cases k : p
  · exact k
  · exact absurd (if_neg k) h
theorem b2i_f {p : Prop} [Decidable p] (h : b2i p = 0) : ¬ p := fun k => by
  have e : b2i p = 1 := if_pos k
  omega
theorem b2i_1 {p : Prop} [Decidable p] (h : p) : iI 1 = iI (b2i p) := by unfold b2i; rw [if_pos h]
theorem b2i_0 {p : Prop} [Decidable p] (h : ¬ p) : iI 0 = iI (b2i p) := by unfold b2i; rw [if_neg h]
theorem b2i_c {p q : Prop} [Decidable p] [Decidable q] (h : p ↔ q) : iI (b2i p) = iI (b2i q) := by
  by_cases k : p
  · unfold b2i; rw [if_pos k, if_pos (h.mp k)]
  · unfold b2i; rw [if_neg k, if_neg (fun z => k (h.mpr z))]
theorem b2i_nar (p : Prop) [Decidable p] : narrow .boolean (.int (iI (b2i p))) = .int (iI (b2i p)) := by
  by_cases h : p
  · unfold b2i; rw [if_pos h]; decide +kernel
  · unfold b2i; rw [if_neg h]; decide +kernel
theorem b2i_01 (p : Prop) [Decidable p] : b2i p = 0 ∨ b2i p = 1 := by
  by_cases h : p
  · exact Or.inr (if_pos h)
  · exact Or.inl (if_neg h)
theorem icmp_in (a b : Int) : In32 (icmp a b) := by unfold icmp; split; decide; split <;> decide
theorem icmp_ltt {a b : Int} (h : icmp a b < 0) : a < b := by unfold icmp at h; split at h; omega; split at h <;> omega
theorem icmp_ltf {a b : Int} (h : 0 ≤ icmp a b) : b ≤ a := by unfold icmp at h; split at h; omega; split at h <;> omega
theorem icmp_get {a b : Int} (h : 0 ≤ icmp a b) : b ≤ a := icmp_ltf h
theorem icmp_gef {a b : Int} (h : icmp a b < 0) : a < b := icmp_ltt h
theorem icmp_gtt {a b : Int} (h : 0 < icmp a b) : b < a := by unfold icmp at h; split at h; omega; split at h <;> omega
theorem icmp_gtf {a b : Int} (h : icmp a b ≤ 0) : a ≤ b := by unfold icmp at h; split at h; omega; split at h <;> omega
theorem icmp_let {a b : Int} (h : icmp a b ≤ 0) : a ≤ b := icmp_gtf h
theorem icmp_lef {a b : Int} (h : 0 < icmp a b) : b < a := icmp_gtt h
theorem icmp_eqt {a b : Int} (h : icmp a b = 0) : a = b := by unfold icmp at h; split at h; omega; split at h <;> omega
theorem icmp_eqf {a b : Int} (h : icmp a b ≠ 0) : a ≠ b := by unfold icmp at h; split at h; omega; split at h <;> omega
theorem icmp_net {a b : Int} (h : icmp a b ≠ 0) : a ≠ b := icmp_eqf h
theorem icmp_nef {a b : Int} (h : icmp a b = 0) : a = b := icmp_eqt h
/-- sums over 0 .. n-1 -/
def sumN (f : Int → Int) : Nat → Int
  | 0 => 0
  | n + 1 => sumN f n + f (n : Int)
def sumI (f : Int → Int) (n : Int) : Int := sumN f n.toNat
theorem sumI_0 (f : Int → Int) : sumI f 0 = 0 := rfl
theorem sumI_s (f : Int → Int) {n : Int} (h : 0 ≤ n) : sumI f (n + 1) = sumI f n + f n := by
  unfold sumI
  rw [show (n + 1).toNat = n.toNat + 1 by omega]
  show sumN f n.toNat + f ((n.toNat : Nat) : Int) = _
  rw [Int.toNat_of_nonneg h]
theorem sumN_bd {f : Int → Int} {lo hi : Int} : ∀ n : Nat, (∀ j : Int, 0 ≤ j → j < n → lo ≤ f j ∧ f j ≤ hi) → (n : Int) * lo ≤ sumN f n ∧ sumN f n ≤ (n : Int) * hi := by
  intro n
  induction n with
  | zero => intro _; exact ⟨by show (0 : Int) * lo ≤ 0; omega, by show (0 : Int) ≤ 0 * hi; omega⟩
  | succ n ih =>
    intro h
    have h1 := ih (fun j h0 h1 => h j h0 (by omega))
    have h2 := h (n : Int) (by omega) (by omega)
    show ((n + 1 : Nat) : Int) * lo ≤ sumN f n + f (n : Int) ∧ sumN f n + f (n : Int) ≤ ((n + 1 : Nat) : Int) * hi
    rw [show ((n + 1 : Nat) : Int) = (n : Int) + 1 by omega, Int.add_mul, Int.add_mul, Int.one_mul, Int.one_mul]
    omega
theorem sumI_bd {f : Int → Int} {lo hi n : Int} (h0 : 0 ≤ n) (h : ∀ j : Int, 0 ≤ j → j < n → lo ≤ f j ∧ f j ≤ hi) : n * lo ≤ sumI f n ∧ sumI f n ≤ n * hi := by
  have h1 := sumN_bd (f := f) (lo := lo) (hi := hi) n.toNat (fun j a b => h j a (by omega))
  rw [Int.toNat_of_nonneg h0] at h1
  exact h1
theorem sumN_eq {f g : Int → Int} : ∀ n : Nat, (∀ j : Int, 0 ≤ j → j < n → f j = g j) → sumN f n = sumN g n := by
  intro n
  induction n with
  | zero => intro _; rfl
  | succ n ih =>
    intro h
    show sumN f n + f (n : Int) = sumN g n + g (n : Int)
    rw [ih (fun j a b => h j a (by omega)), h (n : Int) (by omega) (by omega)]
theorem sumI_eq {f g : Int → Int} {n : Int} (h : ∀ j : Int, 0 ≤ j → j < n → f j = g j) : sumI f n = sumI g n := sumN_eq n.toNat (fun j a b => h j a (by omega))
/-- bits -/
def p2 (c : Int) : Int := ((2 ^ c.toNat : Nat) : Int)
def band (a b : Int) : Int := ((a.toNat &&& b.toNat : Nat) : Int)
def bor (a b : Int) : Int := ((a.toNat ||| b.toNat : Nat) : Int)
theorem nI_and (a b : Nat) : nI a &&& nI b = nI (a &&& b) := by
  apply Int32.toBitVec_inj.1
  show BitVec.ofNat 32 a &&& BitVec.ofNat 32 b = BitVec.ofNat 32 (a &&& b)
  apply BitVec.eq_of_getLsbD_eq
  intro i hi
  simp [hi]
theorem nI_or (a b : Nat) : nI a ||| nI b = nI (a ||| b) := by
  apply Int32.toBitVec_inj.1
  show BitVec.ofNat 32 a ||| BitVec.ofNat 32 b = BitVec.ofNat 32 (a ||| b)
  apply BitVec.eq_of_getLsbD_eq
  intro i hi
  simp [hi]
theorem iI_toN {a : Int} (h : 0 ≤ a) : iI a = nI a.toNat := by rw [← iI_nat, Int.toNat_of_nonneg h]
theorem iI_band {a b : Int} (ha : 0 ≤ a) (hb : 0 ≤ b) : iI a &&& iI b = iI (band a b) := by rw [iI_toN ha, iI_toN hb, nI_and, band, iI_nat]
theorem iI_bor {a b : Int} (ha : 0 ≤ a) (hb : 0 ≤ b) : iI a ||| iI b = iI (bor a b) := by rw [iI_toN ha, iI_toN hb, nI_or, bor, iI_nat]
theorem iI_sh31 {c : Int} (h0 : 0 ≤ c) (h1 : c ≤ 31) : ((iI c &&& 31).toBitVec.smod 32).toNat = c.toNat := by
  rw [iI_toN h0]
  exact (by decide +kernel : ∀ n : Nat, n < 32 → ((nI n &&& 31).toBitVec.smod 32).toNat = n) c.toNat (by omega)
theorem iI_shl1 {c : Int} (h0 : 0 ≤ c) (h1 : c ≤ 30) : iI 1 <<< (iI c &&& 31) = iI (p2 c) := by
  rw [show iI 1 = nI 1 by decide +kernel, pk_shlN _ c.toNat (iI_sh31 h0 (by omega)), Nat.one_mul, p2, iI_nat]
  rw [Nat.one_mul]
  exact Nat.pow_lt_pow_right (by decide) (by omega)
theorem iI_shr {a c : Int} (ha : 0 ≤ a) (ha2 : a ≤ 2147483647) (h0 : 0 ≤ c) (h1 : c ≤ 31) : iI a >>> (iI c &&& 31) = iI (a / p2 c) := by
  rw [iI_toN ha, pk_shrN (by omega) _ c.toNat (iI_sh31 h0 h1), ← iI_nat, p2]
  congr 1
  rw [Int.natCast_ediv, Int.toNat_of_nonneg ha]
theorem iI_and1 {a : Int} (ha : 0 ≤ a) : iI a &&& iI 1 = iI (a % 2) := by
  rw [iI_band ha (by decide), band, show (1 : Int).toNat = 2 ^ 1 - 1 by decide, Nat.and_two_pow_sub_one_eq_mod]
  congr 1
  omega
theorem p2_pos (c : Int) : 0 < p2 c := by unfold p2; have := Nat.two_pow_pos c.toNat; omega
theorem p2_s {c : Int} (h : 0 ≤ c) : p2 (c + 1) = 2 * p2 c := by
  unfold p2
  rw [show (c + 1).toNat = c.toNat + 1 by omega, Nat.pow_succ]
  omega
theorem bor_p2 {a c : Int} (h0 : 0 ≤ a) (h1 : a < p2 c) : bor a (p2 c) = a + p2 c := by
  unfold bor p2 at *
  have e : a.toNat < 2 ^ c.toNat := by omega
  have h2 := Nat.two_pow_add_eq_or_of_lt e 1
  rw [Nat.mul_one] at h2
  rw [Int.toNat_natCast, Nat.or_comm, ← h2]
  omega
theorem bor_0 {a : Int} (h0 : 0 ≤ a) : bor a 0 = a := by
  unfold bor
  rw [show (0 : Int).toNat = 0 by decide, Nat.or_zero]
  omega
/-! CLOTH: kinds, figures, ages, wears, the year -/
abbrev Cl : Type := (Int → Int) × (Int → Int) × (Int → Int) × (Int → Int) × Int
abbrev ki (C : Cl) : Int → Int := C.1
abbrev fi (C : Cl) : Int → Int := C.2.1
abbrev ag (C : Cl) : Int → Int := C.2.2.1
abbrev we (C : Cl) : Int → Int := C.2.2.2.1
abbrev yr (C : Cl) : Int := C.2.2.2.2
abbrev cl (M : Nat → Int → Int) : Cl := (M 0, M 1, M 2, M 3, M 4 0)
def apt (a : Int → Int) (c w : Int) : Int := if nb c w < 0 then 0 else ((a c - a (nb c w)).natAbs : Int)
def cnt1 (c w : Int) : Int := if nb c w < 0 then 0 else 1
def clo (C : Cl) (c : Int) : Int := sumI (apt (ag C) c) 4 / 4
def pull (C : Cl) (c : Int) : Int := if ki C c = 1 then clo C c / 2 else if ki C c = 2 then clo C c + sumI (cnt1 c) 4 else if ki C c = 3 then clo C c / 2 + fi C c / 3 else if ki C c = 4 then 2 * clo C c else if ki C c = 5 then max 0 (2 * clo C c - fi C c) else clo C c
def wearing (C : Cl) (y c : Int) : Int := if ki C c = 2 then 2 + pull C c / 5 else if ki C c = 3 then (if y % 2 = 0 then 0 else 1 + pull C c / 5) else if ki C c = 5 then pull C c / 5 else 1 + pull C c / 5
def hold (C : Cl) (c : Int) : Int := if ki C c = 1 ∨ ki C c = 3 then 15 + fi C c else if ki C c = 2 then (10 + fi C c) / 2 else if ki C c = 4 then 5 else if ki C c = 5 then 10 else 10 + fi C c
abbrev hole (C : Cl) (c : Int) : Prop := hold C c ≤ we C c
def hbf (C : Cl) (c : Int) : Int := if hole C c then p2 c else 0
def hbits (C : Cl) : Int := sumI (hbf C) 12
def allPull (C : Cl) : Int := sumI (pull C) 12
def allWear (C : Cl) : Int := sumI (we C) 12
def allAge (C : Cl) : Int := sumI (ag C) 12
def wearOn (C : Cl) (c : Int) : Int := min 99 (we C c + wearing C (yr C + 1) c)
def ageOn (C : Cl) (v c : Int) : Int := min 99 (ag C c + v)
def yearOn (C : Cl) : Cl := (ki C, fi C, upTo (ag C) (ageOn C 1) 12, upTo (we C) (wearOn C) 12, yr C + 1)
def goY : Nat → Cl → Cl
  | 0, C => C
  | n + 1, C => yearOn (goY n C)
def goI (n : Int) (C : Cl) : Cl := goY n.toNat C
theorem goI_0 (C : Cl) : goI 0 C = C := rfl
theorem goI_s {n : Int} (h : 0 ≤ n) (C : Cl) : goI (n + 1) C = yearOn (goI n C) := by
  unfold goI
  rw [show (n + 1).toNat = n.toNat + 1 by omega]
  rfl
def rngC (C : Cl) (c : Int) : Prop := (0 ≤ ki C c ∧ ki C c ≤ 5) ∧ (0 ≤ fi C c ∧ fi C c ≤ 9) ∧ (0 ≤ ag C c ∧ ag C c ≤ 99) ∧ 0 ≤ we C c ∧ we C c ≤ 99
def okC (C : Cl) : Prop := (∀ c : Int, 0 ≤ c → c < 12 → rngC C c) ∧ 0 ≤ yr C
theorem okC.r {C : Cl} (h : okC C) {c : Int} (h0 : 0 ≤ c) (h1 : c < 12) : (0 ≤ ki C c ∧ ki C c ≤ 5) ∧ (0 ≤ fi C c ∧ fi C c ≤ 9) ∧ (0 ≤ ag C c ∧ ag C c ≤ 99) ∧ 0 ≤ we C c ∧ we C c ≤ 99 := h.1 c h0 h1
/-- what pulls and wears need -/
def okA (C : Cl) : Prop := ∀ c : Int, 0 ≤ c → c < 12 → (0 ≤ ki C c ∧ ki C c ≤ 5) ∧ (0 ≤ fi C c ∧ fi C c ≤ 9) ∧ 0 ≤ ag C c ∧ ag C c ≤ 99
theorem okC.A {C : Cl} (h : okC C) : okA C := fun c h0 h1 => by
  have := h.r h0 h1
  omega
theorem nb_in {c w : Int} (h0 : 0 ≤ c) (h1 : c < 12) (w0 : 0 ≤ w) (w1 : w < 4) : -1 ≤ nb c w ∧ nb c w < 12 := by
  unfold nb
  split
  · split <;> omega
  · split
    · split <;> omega
    · split
      · split <;> omega
      · split <;> omega
theorem bes_nb {c w : Int} (w0 : 0 ≤ w) (w1 : w < 4) : bes (c * 4 + w) = nb c w := by
  unfold bes
  rw [show (c * 4 + w) / 4 = c by omega, show (c * 4 + w) % 4 = w by omega]
theorem apt_bd {C : Cl} (ok : okA C) {c w : Int} (h0 : 0 ≤ c) (h1 : c < 12) (w0 : 0 ≤ w) (w1 : w < 4) : 0 ≤ apt (ag C) c w ∧ apt (ag C) c w ≤ 99 := by
  have hn := nb_in h0 h1 w0 w1
  have h2 := ok c h0 h1
  unfold apt
  split
  · omega
  · have h3 := ok (nb c w) (by omega) (by omega)
    omega
theorem cnt1_bd (c w : Int) : 0 ≤ cnt1 c w ∧ cnt1 c w ≤ 1 := by unfold cnt1; split <;> omega
theorem clo_bd {C : Cl} (ok : okA C) {c : Int} (h0 : 0 ≤ c) (h1 : c < 12) : 0 ≤ clo C c ∧ clo C c ≤ 99 := by
  have h := sumI_bd (f := apt (ag C) c) (lo := 0) (hi := 99) (n := 4) (by decide) (fun j a b => apt_bd ok h0 h1 a b)
  unfold clo
  omega
theorem pull_bd {C : Cl} (ok : okA C) {c : Int} (h0 : 0 ≤ c) (h1 : c < 12) : 0 ≤ pull C c ∧ pull C c ≤ 250 := by
  have h := clo_bd ok h0 h1
  have h2 := sumI_bd (f := cnt1 c) (lo := 0) (hi := 1) (n := 4) (by decide) (fun j a b => cnt1_bd c j)
  have h3 := ok c h0 h1
  unfold pull
  repeat' split
  all_goals omega
theorem wearing_bd {C : Cl} (ok : okA C) {c y : Int} (h0 : 0 ≤ c) (h1 : c < 12) : 0 ≤ wearing C y c ∧ wearing C y c ≤ 100 := by
  have h := pull_bd ok h0 h1
  unfold wearing
  repeat' split
  all_goals omega
theorem hold_bd {C : Cl} (ok : okA C) {c : Int} (h0 : 0 ≤ c) (h1 : c < 12) : 5 ≤ hold C c ∧ hold C c ≤ 24 := by
  have h3 := ok c h0 h1
  unfold hold
  repeat' split
  all_goals omega
theorem yearOn_ok {C : Cl} (ok : okC C) : okC (yearOn C) := by
  refine ⟨fun c h0 h1 => ?_, ?_⟩
  · have h := ok.r h0 h1
    have hw := wearing_bd ok.A (y := yr C + 1) h0 h1
    have e1 : upTo (ag C) (ageOn C 1) 12 c = ageOn C 1 c := upTo_in h0 h1
    have e2 : upTo (we C) (wearOn C) 12 c = wearOn C c := upTo_in h0 h1
    refine ⟨h.1, h.2.1, ?_, ?_⟩
    · show 0 ≤ upTo (ag C) (ageOn C 1) 12 c ∧ upTo (ag C) (ageOn C 1) 12 c ≤ 99
      rw [e1]; unfold ageOn; omega
    · show 0 ≤ upTo (we C) (wearOn C) 12 c ∧ upTo (we C) (wearOn C) 12 c ≤ 99
      rw [e2]; unfold wearOn; omega
  · have := ok.2
    show 0 ≤ yr C + 1
    omega
theorem goY_ok {C : Cl} (ok : okC C) : ∀ n : Nat, okC (goY n C) := by
  intro n
  induction n with
  | zero => exact ok
  | succ n ih => exact yearOn_ok ih
theorem goI_ok {C : Cl} (ok : okC C) (n : Int) : okC (goI n C) := goY_ok ok n.toNat
theorem goY_yr {C : Cl} : ∀ n : Nat, yr (goY n C) = yr C + n := by
  intro n
  induction n with
  | zero => show yr C = yr C + 0; omega
  | succ n ih => show yr (goY n C) + 1 = _; omega
theorem goI_yr {C : Cl} {n : Int} (h : 0 ≤ n) : yr (goI n C) = yr C + n := by
  have := goY_yr (C := C) n.toNat
  unfold goI
  omega
theorem p2_le {c n : Int} (h : c ≤ n) : p2 c ≤ p2 n := by
  unfold p2
  have := Nat.pow_le_pow_right (n := 2) (by decide) (show c.toNat ≤ n.toNat by omega)
  omega
theorem hbits_bd (C : Cl) {n : Int} (h : 0 ≤ n) : 0 ≤ sumI (hbf C) n ∧ sumI (hbf C) n < p2 n := by
  obtain ⟨k, rfl⟩ : ∃ k : Nat, n = (k : Int) := ⟨n.toNat, by omega⟩
  induction k with
  | zero =>
    show 0 ≤ sumI (hbf C) 0 ∧ sumI (hbf C) 0 < p2 0
    rw [sumI_0]
    decide
  | succ k ih =>
    have h1 := ih (by omega)
    have e : ((k + 1 : Nat) : Int) = (k : Int) + 1 := by omega
    rw [e, sumI_s _ (by omega), p2_s (by omega)]
    have hp := p2_pos (k : Int)
    by_cases hh : hole C (k : Int)
    · have e2 : hbf C (k : Int) = p2 (k : Int) := if_pos hh
      omega
    · have e2 : hbf C (k : Int) = 0 := if_neg hh
      omega
theorem apt_pos {a : Int → Int} {c w : Int} (h : 0 ≤ nb c w) : apt a c w = ((a c - a (nb c w)).natAbs : Int) := if_neg (by omega)
theorem apt_neg {a : Int → Int} {c w : Int} (h : nb c w < 0) : apt a c w = 0 := if_pos h
theorem cnt1_pos {c w : Int} (h : 0 ≤ nb c w) : cnt1 c w = 1 := if_neg (by omega)
theorem cnt1_neg {c w : Int} (h : nb c w < 0) : cnt1 c w = 0 := if_pos h
theorem clo_sum {C : Cl} {c s i : Int} (hs : s = sumI (apt (ag C) c) i) (hi : i = 4) : s / 4 = clo C c := by rw [hs, hi]; rfl
theorem aptSum_bd {C : Cl} (ok : okA C) {c i : Int} (h0 : 0 ≤ c) (h1 : c < 12) (i0 : 0 ≤ i) (i1 : i ≤ 4) : 0 ≤ sumI (apt (ag C) c) i ∧ sumI (apt (ag C) c) i ≤ 396 := by
  have h := sumI_bd (f := apt (ag C) c) (lo := 0) (hi := 99) (n := i) i0 (fun j a b => apt_bd ok h0 h1 a (by omega))
  omega
/-- a cloth laid into a state -/
def stC (M : Nat → Int → Int) (C : Cl) : Nat → Int → Int := fun a => if a = 0 then ki C else if a = 1 then fi C else if a = 2 then ag C else if a = 3 then we C else if a = 4 then (fun _ => yr C) else M a
theorem cl_stC (M : Nat → Int → Int) (C : Cl) : cl (stC M C) = C := rfl
theorem stC_stC (M : Nat → Int → Int) (C D : Cl) : stC (stC M C) D = stC M D := by
  funext a
  unfold stC
  repeat' split
  all_goals rfl
def make (C : Cl) (c k f a : Int) : Cl := (uI (ki C) c k, uI (fi C) c f, uI (ag C) c a, uI (we C) c 0, yr C)
theorem iIc {a b : Int} (h : a = b) : iI a = iI b := congrArg iI h
end
section
/-! THE CLASS'S WORLD: objects 0 now, 1 imageCloth, 2 mind, 3 later, 4 .. 11 the past's cloths, 12 roll, 13 imageRoll, 14 mindRoll, 15 past, 16 text, 17 ways, 18 the object itself -/
abbrev XS : Type := Nat → Nat → Int → Int
def setO (X : XS) (o : Nat) (C : MS) : XS := fun a => if a = o then C else X a
theorem setO_s {X : XS} {o : Nat} {C : MS} : setO X o C o = C := if_pos rfl
theorem setO_n {X : XS} {o a : Nat} {C : MS} (h : a ≠ o) : setO X o C a = X a := if_neg h
theorem setO_setO {X : XS} {o : Nat} {C D : MS} : setO (setO X o C) o D = setO X o D := by
  funext a
  unfold setO
  by_cases h : a = o
  · rw [if_pos h, if_pos h]
  · rw [if_neg h, if_neg h, if_neg h]
theorem setO_self {X : XS} {o : Nat} : setO X o (X o) = X := by
  funext a
  unfold setO
  by_cases h : a = o
  · rw [if_pos h, h]
  · rw [if_neg h]
theorem setO_swap {X : XS} {o a : Nat} {C D : MS} (h : o ≠ a) : setO (setO X o C) a D = setO (setO X a D) o C := by
  funext j
  unfold setO
  by_cases h1 : j = a
  · subst h1; rw [if_pos rfl, if_neg (Ne.symm h), if_pos rfl]
  · rw [if_neg h1]
    by_cases h2 : j = o
    · rw [if_pos h2, if_pos h2]
    · rw [if_neg h2, if_neg h2, if_neg h1]
def cfl (xa : Nat → Nat → Nat) (o : Nat) (C : MS) : List Value := [.ref (xa o 0), .ref (xa o 1), .ref (xa o 2), .ref (xa o 3), .int (iI (C 4 0))]
def rfv (xa : Nat → Nat → Nat) (o : Nat) (C : MS) : List Value := [.ref (xa o 0), .ref (xa o 1), .ref (xa o 2), .int (iI (C 3 0)), .int (iI (C 4 0))]
def pfv (xa : Nat → Nat → Nat) (C : MS) : List Value := [.ref (xa 15 0), .ref (xa 15 1), .int (iI (C 2 0)), .int (iI (C 3 0))]
def tfv (xa : Nat → Nat → Nat) (C : MS) : List Value := [.ref (xa 16 0), .int (iI (C 1 0))]
def wfv (xa : Nat → Nat → Nat) (C : MS) : List Value := [.ref (xa 17 0), .ref (xa 17 1), .ref (xa 17 2), .int (iI (C 3 0))]
def mfv (xa : Nat → Nat → Nat) (C : MS) : List Value := [.ref (xa 0 100), .ref (xa 12 100), .ref (xa 15 100), .ref (xa 16 100), .ref (xa 18 4), .int (iI (C 5 0)), .ref (xa 18 6), .ref (xa 1 100), .ref (xa 13 100), .int (iI (C 9 0)), .ref (xa 2 100), .ref (xa 3 100), .ref (xa 14 100), .ref (xa 17 100), .ref (xa 18 14)]
abbrev iar (κ : Kp) (n : Nat) (f : Int → Int) : va_E := .inl (κ.2.1, n, .inl (fun j : Nat => iI (f (j : Int))))
def xw (κ : Kp) (xa : Nat → Nat → Nat) (X : XS) : va_W := [(xa 0 100, .inr (0, cfl xa 0 (X 0))), (xa 0 0, .inl (κ.2.1, 12, .inl (fun j : Nat => iI (X 0 0 (j : Int))))), (xa 0 1, .inl (κ.2.1, 12, .inl (fun j : Nat => iI (X 0 1 (j : Int))))), (xa 0 2, .inl (κ.2.1, 12, .inl (fun j : Nat => iI (X 0 2 (j : Int))))), (xa 0 3, .inl (κ.2.1, 12, .inl (fun j : Nat => iI (X 0 3 (j : Int))))), (xa 1 100, .inr (0, cfl xa 1 (X 1))), (xa 1 0, .inl (κ.2.1, 12, .inl (fun j : Nat => iI (X 1 0 (j : Int))))), (xa 1 1, .inl (κ.2.1, 12, .inl (fun j : Nat => iI (X 1 1 (j : Int))))), (xa 1 2, .inl (κ.2.1, 12, .inl (fun j : Nat => iI (X 1 2 (j : Int))))), (xa 1 3, .inl (κ.2.1, 12, .inl (fun j : Nat => iI (X 1 3 (j : Int))))), (xa 2 100, .inr (0, cfl xa 2 (X 2))), (xa 2 0, .inl (κ.2.1, 12, .inl (fun j : Nat => iI (X 2 0 (j : Int))))), (xa 2 1, .inl (κ.2.1, 12, .inl (fun j : Nat => iI (X 2 1 (j : Int))))), (xa 2 2, .inl (κ.2.1, 12, .inl (fun j : Nat => iI (X 2 2 (j : Int))))), (xa 2 3, .inl (κ.2.1, 12, .inl (fun j : Nat => iI (X 2 3 (j : Int))))), (xa 3 100, .inr (0, cfl xa 3 (X 3))), (xa 3 0, .inl (κ.2.1, 12, .inl (fun j : Nat => iI (X 3 0 (j : Int))))), (xa 3 1, .inl (κ.2.1, 12, .inl (fun j : Nat => iI (X 3 1 (j : Int))))), (xa 3 2, .inl (κ.2.1, 12, .inl (fun j : Nat => iI (X 3 2 (j : Int))))), (xa 3 3, .inl (κ.2.1, 12, .inl (fun j : Nat => iI (X 3 3 (j : Int))))), (xa 4 100, .inr (0, cfl xa 4 (X 4))), (xa 4 0, .inl (κ.2.1, 12, .inl (fun j : Nat => iI (X 4 0 (j : Int))))), (xa 4 1, .inl (κ.2.1, 12, .inl (fun j : Nat => iI (X 4 1 (j : Int))))), (xa 4 2, .inl (κ.2.1, 12, .inl (fun j : Nat => iI (X 4 2 (j : Int))))), (xa 4 3, .inl (κ.2.1, 12, .inl (fun j : Nat => iI (X 4 3 (j : Int))))), (xa 5 100, .inr (0, cfl xa 5 (X 5))), (xa 5 0, .inl (κ.2.1, 12, .inl (fun j : Nat => iI (X 5 0 (j : Int))))), (xa 5 1, .inl (κ.2.1, 12, .inl (fun j : Nat => iI (X 5 1 (j : Int))))), (xa 5 2, .inl (κ.2.1, 12, .inl (fun j : Nat => iI (X 5 2 (j : Int))))), (xa 5 3, .inl (κ.2.1, 12, .inl (fun j : Nat => iI (X 5 3 (j : Int))))), (xa 6 100, .inr (0, cfl xa 6 (X 6))), (xa 6 0, .inl (κ.2.1, 12, .inl (fun j : Nat => iI (X 6 0 (j : Int))))), (xa 6 1, .inl (κ.2.1, 12, .inl (fun j : Nat => iI (X 6 1 (j : Int))))), (xa 6 2, .inl (κ.2.1, 12, .inl (fun j : Nat => iI (X 6 2 (j : Int))))), (xa 6 3, .inl (κ.2.1, 12, .inl (fun j : Nat => iI (X 6 3 (j : Int))))), (xa 7 100, .inr (0, cfl xa 7 (X 7))), (xa 7 0, .inl (κ.2.1, 12, .inl (fun j : Nat => iI (X 7 0 (j : Int))))), (xa 7 1, .inl (κ.2.1, 12, .inl (fun j : Nat => iI (X 7 1 (j : Int))))), (xa 7 2, .inl (κ.2.1, 12, .inl (fun j : Nat => iI (X 7 2 (j : Int))))), (xa 7 3, .inl (κ.2.1, 12, .inl (fun j : Nat => iI (X 7 3 (j : Int))))), (xa 8 100, .inr (0, cfl xa 8 (X 8))), (xa 8 0, .inl (κ.2.1, 12, .inl (fun j : Nat => iI (X 8 0 (j : Int))))), (xa 8 1, .inl (κ.2.1, 12, .inl (fun j : Nat => iI (X 8 1 (j : Int))))), (xa 8 2, .inl (κ.2.1, 12, .inl (fun j : Nat => iI (X 8 2 (j : Int))))), (xa 8 3, .inl (κ.2.1, 12, .inl (fun j : Nat => iI (X 8 3 (j : Int))))), (xa 9 100, .inr (0, cfl xa 9 (X 9))), (xa 9 0, .inl (κ.2.1, 12, .inl (fun j : Nat => iI (X 9 0 (j : Int))))), (xa 9 1, .inl (κ.2.1, 12, .inl (fun j : Nat => iI (X 9 1 (j : Int))))), (xa 9 2, .inl (κ.2.1, 12, .inl (fun j : Nat => iI (X 9 2 (j : Int))))), (xa 9 3, .inl (κ.2.1, 12, .inl (fun j : Nat => iI (X 9 3 (j : Int))))), (xa 10 100, .inr (0, cfl xa 10 (X 10))), (xa 10 0, .inl (κ.2.1, 12, .inl (fun j : Nat => iI (X 10 0 (j : Int))))), (xa 10 1, .inl (κ.2.1, 12, .inl (fun j : Nat => iI (X 10 1 (j : Int))))), (xa 10 2, .inl (κ.2.1, 12, .inl (fun j : Nat => iI (X 10 2 (j : Int))))), (xa 10 3, .inl (κ.2.1, 12, .inl (fun j : Nat => iI (X 10 3 (j : Int))))), (xa 11 100, .inr (0, cfl xa 11 (X 11))), (xa 11 0, .inl (κ.2.1, 12, .inl (fun j : Nat => iI (X 11 0 (j : Int))))), (xa 11 1, .inl (κ.2.1, 12, .inl (fun j : Nat => iI (X 11 1 (j : Int))))), (xa 11 2, .inl (κ.2.1, 12, .inl (fun j : Nat => iI (X 11 2 (j : Int))))), (xa 11 3, .inl (κ.2.1, 12, .inl (fun j : Nat => iI (X 11 3 (j : Int))))), (xa 12 100, .inr (2, rfv xa 12 (X 12))), (xa 12 0, .inl (κ.2.1, 6, .inl (fun j : Nat => iI (X 12 0 (j : Int))))), (xa 12 1, .inl (κ.2.1, 6, .inl (fun j : Nat => iI (X 12 1 (j : Int))))), (xa 12 2, .inl (κ.2.1, 6, .inl (fun j : Nat => iI (X 12 2 (j : Int))))), (xa 13 100, .inr (2, rfv xa 13 (X 13))), (xa 13 0, .inl (κ.2.1, 6, .inl (fun j : Nat => iI (X 13 0 (j : Int))))), (xa 13 1, .inl (κ.2.1, 6, .inl (fun j : Nat => iI (X 13 1 (j : Int))))), (xa 13 2, .inl (κ.2.1, 6, .inl (fun j : Nat => iI (X 13 2 (j : Int))))), (xa 14 100, .inr (2, rfv xa 14 (X 14))), (xa 14 0, .inl (κ.2.1, 6, .inl (fun j : Nat => iI (X 14 0 (j : Int))))), (xa 14 1, .inl (κ.2.1, 6, .inl (fun j : Nat => iI (X 14 1 (j : Int))))), (xa 14 2, .inl (κ.2.1, 6, .inl (fun j : Nat => iI (X 14 2 (j : Int))))), (xa 15 100, .inr (1, pfv xa (X 15))), (xa 15 0, .inl (κ.2.2.1, 8, .inr (.inr (.inr (.inr (fun j : Nat => some (xa (4 + j) 100))))))), (xa 15 1, .inl (κ.2.1, 8, .inl (fun j : Nat => iI (X 15 1 (j : Int))))), (xa 16 100, .inr (3, tfv xa (X 16))), (xa 16 0, .inl (κ.2.1, 96, .inl (fun j : Nat => iI (X 16 0 (j : Int))))), (xa 17 100, .inr (4, wfv xa (X 17))), (xa 17 0, .inl (κ.2.1, 3, .inl (fun j : Nat => iI (X 17 0 (j : Int))))), (xa 17 1, .inl (κ.2.1, 3, .inl (fun j : Nat => iI (X 17 1 (j : Int))))), (xa 17 2, .inl (κ.2.1, 1728, .inl (fun j : Nat => iI (X 17 2 (j : Int))))), (xa 18 100, .inr (5, mfv xa (X 18))), (xa 18 4, .inl (κ.2.1, 12, .inl (fun j : Nat => iI (X 18 4 (j : Int))))), (xa 18 6, .inl (κ.2.1, 7, .inl (fun j : Nat => iI (X 18 6 (j : Int))))), (xa 18 14, .inl (κ.2.1, 12, .inl (fun j : Nat => iI (X 18 14 (j : Int)))))]
theorem xw_same {κ : Kp} {xa : Nat → Nat → Nat} {X X' : XS} : sameA (xw κ xa X) (xw κ xa X') := rfl
section
variable {E : gE} {κ : Kp} {cc : ByteArray} {own : String} {n dd : Nat} {xa : Nat → Nat → Nat} {X : XS} {C : MS} {lv : List (Nat × Value)} {pc : Nat} {st : List Value} {o : Nat}
theorem xc_obj (ho : o < 12) : (xw κ xa X)[5 * o + 0]? = some (xa o 100, .inr (0, cfl xa o (X o))) := by
  match o, ho with
  | 0, _ => exact rfl
  | 1, _ => exact rfl
  | 2, _ => exact rfl
  | 3, _ => exact rfl
  | 4, _ => exact rfl
  | 5, _ => exact rfl
  | 6, _ => exact rfl
  | 7, _ => exact rfl
  | 8, _ => exact rfl
  | 9, _ => exact rfl
  | 10, _ => exact rfl
  | 11, _ => exact rfl
  | m + 12, h => exact absurd h (by omega)
theorem xc_arr_0 (ho : o < 12) : (xw κ xa X)[5 * o + 1]? = some (xa o 0, .inl (κ.2.1, 12, .inl (fun j : Nat => iI (X o 0 (j : Int))))) := by
  match o, ho with
  | 0, _ => exact rfl
  | 1, _ => exact rfl
  | 2, _ => exact rfl
  | 3, _ => exact rfl
  | 4, _ => exact rfl
  | 5, _ => exact rfl
  | 6, _ => exact rfl
  | 7, _ => exact rfl
  | 8, _ => exact rfl
  | 9, _ => exact rfl
  | 10, _ => exact rfl
  | 11, _ => exact rfl
  | m + 12, h => exact absurd h (by omega)
theorem xc_set_0 (ho : o < 12) {f : Int → Int} : (xw κ xa X).set (5 * o + 1) (xa o 0, .inl (κ.2.1, 12, .inl (fun j : Nat => iI (f (j : Int))))) = xw κ xa (setO X o (mA (X o) 0 f)) := by
  match o, ho with
  | 0, _ => exact rfl
  | 1, _ => exact rfl
  | 2, _ => exact rfl
  | 3, _ => exact rfl
  | 4, _ => exact rfl
  | 5, _ => exact rfl
  | 6, _ => exact rfl
  | 7, _ => exact rfl
  | 8, _ => exact rfl
  | 9, _ => exact rfl
  | 10, _ => exact rfl
  | 11, _ => exact rfl
  | m + 12, h => exact absurd h (by omega)
theorem xc_arr_1 (ho : o < 12) : (xw κ xa X)[5 * o + 2]? = some (xa o 1, .inl (κ.2.1, 12, .inl (fun j : Nat => iI (X o 1 (j : Int))))) := by
  match o, ho with
  | 0, _ => exact rfl
  | 1, _ => exact rfl
  | 2, _ => exact rfl
  | 3, _ => exact rfl
  | 4, _ => exact rfl
  | 5, _ => exact rfl
  | 6, _ => exact rfl
  | 7, _ => exact rfl
  | 8, _ => exact rfl
  | 9, _ => exact rfl
  | 10, _ => exact rfl
  | 11, _ => exact rfl
  | m + 12, h => exact absurd h (by omega)
theorem xc_set_1 (ho : o < 12) {f : Int → Int} : (xw κ xa X).set (5 * o + 2) (xa o 1, .inl (κ.2.1, 12, .inl (fun j : Nat => iI (f (j : Int))))) = xw κ xa (setO X o (mA (X o) 1 f)) := by
  match o, ho with
  | 0, _ => exact rfl
  | 1, _ => exact rfl
  | 2, _ => exact rfl
  | 3, _ => exact rfl
  | 4, _ => exact rfl
  | 5, _ => exact rfl
  | 6, _ => exact rfl
  | 7, _ => exact rfl
  | 8, _ => exact rfl
  | 9, _ => exact rfl
  | 10, _ => exact rfl
  | 11, _ => exact rfl
  | m + 12, h => exact absurd h (by omega)
theorem xc_arr_2 (ho : o < 12) : (xw κ xa X)[5 * o + 3]? = some (xa o 2, .inl (κ.2.1, 12, .inl (fun j : Nat => iI (X o 2 (j : Int))))) := by
  match o, ho with
  | 0, _ => exact rfl
  | 1, _ => exact rfl
  | 2, _ => exact rfl
  | 3, _ => exact rfl
  | 4, _ => exact rfl
  | 5, _ => exact rfl
  | 6, _ => exact rfl
  | 7, _ => exact rfl
  | 8, _ => exact rfl
  | 9, _ => exact rfl
  | 10, _ => exact rfl
  | 11, _ => exact rfl
  | m + 12, h => exact absurd h (by omega)
theorem xc_set_2 (ho : o < 12) {f : Int → Int} : (xw κ xa X).set (5 * o + 3) (xa o 2, .inl (κ.2.1, 12, .inl (fun j : Nat => iI (f (j : Int))))) = xw κ xa (setO X o (mA (X o) 2 f)) := by
  match o, ho with
  | 0, _ => exact rfl
  | 1, _ => exact rfl
  | 2, _ => exact rfl
  | 3, _ => exact rfl
  | 4, _ => exact rfl
  | 5, _ => exact rfl
  | 6, _ => exact rfl
  | 7, _ => exact rfl
  | 8, _ => exact rfl
  | 9, _ => exact rfl
  | 10, _ => exact rfl
  | 11, _ => exact rfl
  | m + 12, h => exact absurd h (by omega)
theorem xc_arr_3 (ho : o < 12) : (xw κ xa X)[5 * o + 4]? = some (xa o 3, .inl (κ.2.1, 12, .inl (fun j : Nat => iI (X o 3 (j : Int))))) := by
  match o, ho with
  | 0, _ => exact rfl
  | 1, _ => exact rfl
  | 2, _ => exact rfl
  | 3, _ => exact rfl
  | 4, _ => exact rfl
  | 5, _ => exact rfl
  | 6, _ => exact rfl
  | 7, _ => exact rfl
  | 8, _ => exact rfl
  | 9, _ => exact rfl
  | 10, _ => exact rfl
  | 11, _ => exact rfl
  | m + 12, h => exact absurd h (by omega)
theorem xc_set_3 (ho : o < 12) {f : Int → Int} : (xw κ xa X).set (5 * o + 4) (xa o 3, .inl (κ.2.1, 12, .inl (fun j : Nat => iI (f (j : Int))))) = xw κ xa (setO X o (mA (X o) 3 f)) := by
  match o, ho with
  | 0, _ => exact rfl
  | 1, _ => exact rfl
  | 2, _ => exact rfl
  | 3, _ => exact rfl
  | 4, _ => exact rfl
  | 5, _ => exact rfl
  | 6, _ => exact rfl
  | 7, _ => exact rfl
  | 8, _ => exact rfl
  | 9, _ => exact rfl
  | 10, _ => exact rfl
  | 11, _ => exact rfl
  | m + 12, h => exact absurd h (by omega)
theorem xc_put_4 (ho : o < 12) {z : Int} : (xw κ xa X).set (5 * o + 0) (xa o 100, .inr (0, (cfl xa o (X o)).set 4 (.int (iI z)))) = xw κ xa (setO X o (mA (X o) 4 (fun _ => z))) := by
  match o, ho with
  | 0, _ => exact rfl
  | 1, _ => exact rfl
  | 2, _ => exact rfl
  | 3, _ => exact rfl
  | 4, _ => exact rfl
  | 5, _ => exact rfl
  | 6, _ => exact rfl
  | 7, _ => exact rfl
  | 8, _ => exact rfl
  | 9, _ => exact rfl
  | 10, _ => exact rfl
  | 11, _ => exact rfl
  | m + 12, h => exact absurd h (by omega)
theorem gc_get_0 (F : Fx E κ cc own n dd) (ho : o < 12) {idx : Nat} (hli : Cond.fieldLink own idx "PatchesSameAge$Cloth" "kind" "[I" ∈ TG) (hd : decode cc pc = .ok (.getfield idx, 3)) (k : G E (xw κ xa X) lv (pc + 3) (.ref (xa o 0) :: st)) : G E (xw κ xa X) lv pc (.ref (xa o 100) :: st) := g_get F (C := RX0) (T := TX0) (N := 5) (5 * o + 0) (xc_obj ho) rfl i_X0 0 (by decide) hli rfl hd k
theorem gcS_get_0 (F : Fx E κ cc own n dd) (ho : o < 12) {idx : Nat} (hli : Cond.fieldLink own idx "PatchesSameAge$Cloth" "kind" "[I" ∈ TG) (hd : decode cc pc = .ok (.getfield idx, 3)) (k : G E (xw κ xa (setO X o C)) lv (pc + 3) (.ref (xa o 0) :: st)) : G E (xw κ xa (setO X o C)) lv pc (.ref (xa o 100) :: st) := gc_get_0 F ho hli hd k
theorem gc_getN_0 (F : Fx E κ cc own n dd) (ho : o < 12) {idx : Nat} {host : String} (hli : Cond.fieldLinkNest own idx "PatchesSameAge$Cloth" "kind" "[I" host ∈ NWl) (hd : decode cc pc = .ok (.getfield idx, 3)) (k : G E (xw κ xa X) lv (pc + 3) (.ref (xa o 0) :: st)) : G E (xw κ xa X) lv pc (.ref (xa o 100) :: st) := g_getN F (C := RX0) (T := TX0) (N := 5) (5 * o + 0) (xc_obj ho) rfl i_X0 0 (by decide) hli rfl hd k
theorem gcS_getN_0 (F : Fx E κ cc own n dd) (ho : o < 12) {idx : Nat} {host : String} (hli : Cond.fieldLinkNest own idx "PatchesSameAge$Cloth" "kind" "[I" host ∈ NWl) (hd : decode cc pc = .ok (.getfield idx, 3)) (k : G E (xw κ xa (setO X o C)) lv (pc + 3) (.ref (xa o 0) :: st)) : G E (xw κ xa (setO X o C)) lv pc (.ref (xa o 100) :: st) := gc_getN_0 F ho hli hd k
theorem gc_get_1 (F : Fx E κ cc own n dd) (ho : o < 12) {idx : Nat} (hli : Cond.fieldLink own idx "PatchesSameAge$Cloth" "figure" "[I" ∈ TG) (hd : decode cc pc = .ok (.getfield idx, 3)) (k : G E (xw κ xa X) lv (pc + 3) (.ref (xa o 1) :: st)) : G E (xw κ xa X) lv pc (.ref (xa o 100) :: st) := g_get F (C := RX0) (T := TX0) (N := 5) (5 * o + 0) (xc_obj ho) rfl i_X0 1 (by decide) hli rfl hd k
theorem gcS_get_1 (F : Fx E κ cc own n dd) (ho : o < 12) {idx : Nat} (hli : Cond.fieldLink own idx "PatchesSameAge$Cloth" "figure" "[I" ∈ TG) (hd : decode cc pc = .ok (.getfield idx, 3)) (k : G E (xw κ xa (setO X o C)) lv (pc + 3) (.ref (xa o 1) :: st)) : G E (xw κ xa (setO X o C)) lv pc (.ref (xa o 100) :: st) := gc_get_1 F ho hli hd k
theorem gc_getN_1 (F : Fx E κ cc own n dd) (ho : o < 12) {idx : Nat} {host : String} (hli : Cond.fieldLinkNest own idx "PatchesSameAge$Cloth" "figure" "[I" host ∈ NWl) (hd : decode cc pc = .ok (.getfield idx, 3)) (k : G E (xw κ xa X) lv (pc + 3) (.ref (xa o 1) :: st)) : G E (xw κ xa X) lv pc (.ref (xa o 100) :: st) := g_getN F (C := RX0) (T := TX0) (N := 5) (5 * o + 0) (xc_obj ho) rfl i_X0 1 (by decide) hli rfl hd k
theorem gcS_getN_1 (F : Fx E κ cc own n dd) (ho : o < 12) {idx : Nat} {host : String} (hli : Cond.fieldLinkNest own idx "PatchesSameAge$Cloth" "figure" "[I" host ∈ NWl) (hd : decode cc pc = .ok (.getfield idx, 3)) (k : G E (xw κ xa (setO X o C)) lv (pc + 3) (.ref (xa o 1) :: st)) : G E (xw κ xa (setO X o C)) lv pc (.ref (xa o 100) :: st) := gc_getN_1 F ho hli hd k
theorem gc_get_2 (F : Fx E κ cc own n dd) (ho : o < 12) {idx : Nat} (hli : Cond.fieldLink own idx "PatchesSameAge$Cloth" "age" "[I" ∈ TG) (hd : decode cc pc = .ok (.getfield idx, 3)) (k : G E (xw κ xa X) lv (pc + 3) (.ref (xa o 2) :: st)) : G E (xw κ xa X) lv pc (.ref (xa o 100) :: st) := g_get F (C := RX0) (T := TX0) (N := 5) (5 * o + 0) (xc_obj ho) rfl i_X0 2 (by decide) hli rfl hd k
theorem gcS_get_2 (F : Fx E κ cc own n dd) (ho : o < 12) {idx : Nat} (hli : Cond.fieldLink own idx "PatchesSameAge$Cloth" "age" "[I" ∈ TG) (hd : decode cc pc = .ok (.getfield idx, 3)) (k : G E (xw κ xa (setO X o C)) lv (pc + 3) (.ref (xa o 2) :: st)) : G E (xw κ xa (setO X o C)) lv pc (.ref (xa o 100) :: st) := gc_get_2 F ho hli hd k
theorem gc_getN_2 (F : Fx E κ cc own n dd) (ho : o < 12) {idx : Nat} {host : String} (hli : Cond.fieldLinkNest own idx "PatchesSameAge$Cloth" "age" "[I" host ∈ NWl) (hd : decode cc pc = .ok (.getfield idx, 3)) (k : G E (xw κ xa X) lv (pc + 3) (.ref (xa o 2) :: st)) : G E (xw κ xa X) lv pc (.ref (xa o 100) :: st) := g_getN F (C := RX0) (T := TX0) (N := 5) (5 * o + 0) (xc_obj ho) rfl i_X0 2 (by decide) hli rfl hd k
theorem gcS_getN_2 (F : Fx E κ cc own n dd) (ho : o < 12) {idx : Nat} {host : String} (hli : Cond.fieldLinkNest own idx "PatchesSameAge$Cloth" "age" "[I" host ∈ NWl) (hd : decode cc pc = .ok (.getfield idx, 3)) (k : G E (xw κ xa (setO X o C)) lv (pc + 3) (.ref (xa o 2) :: st)) : G E (xw κ xa (setO X o C)) lv pc (.ref (xa o 100) :: st) := gc_getN_2 F ho hli hd k
theorem gc_get_3 (F : Fx E κ cc own n dd) (ho : o < 12) {idx : Nat} (hli : Cond.fieldLink own idx "PatchesSameAge$Cloth" "wear" "[I" ∈ TG) (hd : decode cc pc = .ok (.getfield idx, 3)) (k : G E (xw κ xa X) lv (pc + 3) (.ref (xa o 3) :: st)) : G E (xw κ xa X) lv pc (.ref (xa o 100) :: st) := g_get F (C := RX0) (T := TX0) (N := 5) (5 * o + 0) (xc_obj ho) rfl i_X0 3 (by decide) hli rfl hd k
theorem gcS_get_3 (F : Fx E κ cc own n dd) (ho : o < 12) {idx : Nat} (hli : Cond.fieldLink own idx "PatchesSameAge$Cloth" "wear" "[I" ∈ TG) (hd : decode cc pc = .ok (.getfield idx, 3)) (k : G E (xw κ xa (setO X o C)) lv (pc + 3) (.ref (xa o 3) :: st)) : G E (xw κ xa (setO X o C)) lv pc (.ref (xa o 100) :: st) := gc_get_3 F ho hli hd k
theorem gc_getN_3 (F : Fx E κ cc own n dd) (ho : o < 12) {idx : Nat} {host : String} (hli : Cond.fieldLinkNest own idx "PatchesSameAge$Cloth" "wear" "[I" host ∈ NWl) (hd : decode cc pc = .ok (.getfield idx, 3)) (k : G E (xw κ xa X) lv (pc + 3) (.ref (xa o 3) :: st)) : G E (xw κ xa X) lv pc (.ref (xa o 100) :: st) := g_getN F (C := RX0) (T := TX0) (N := 5) (5 * o + 0) (xc_obj ho) rfl i_X0 3 (by decide) hli rfl hd k
theorem gcS_getN_3 (F : Fx E κ cc own n dd) (ho : o < 12) {idx : Nat} {host : String} (hli : Cond.fieldLinkNest own idx "PatchesSameAge$Cloth" "wear" "[I" host ∈ NWl) (hd : decode cc pc = .ok (.getfield idx, 3)) (k : G E (xw κ xa (setO X o C)) lv (pc + 3) (.ref (xa o 3) :: st)) : G E (xw κ xa (setO X o C)) lv pc (.ref (xa o 100) :: st) := gc_getN_3 F ho hli hd k
theorem gc_get_4 (F : Fx E κ cc own n dd) (ho : o < 12) {idx : Nat} (hli : Cond.fieldLink own idx "PatchesSameAge$Cloth" "year" "I" ∈ TG) (hd : decode cc pc = .ok (.getfield idx, 3)) (k : G E (xw κ xa X) lv (pc + 3) (.int (iI (X o 4 0)) :: st)) : G E (xw κ xa X) lv pc (.ref (xa o 100) :: st) := g_get F (C := RX0) (T := TX0) (N := 5) (5 * o + 0) (xc_obj ho) rfl i_X0 4 (by decide) hli rfl hd k
theorem gcS_get_4 (F : Fx E κ cc own n dd) (ho : o < 12) {idx : Nat} (hli : Cond.fieldLink own idx "PatchesSameAge$Cloth" "year" "I" ∈ TG) (hd : decode cc pc = .ok (.getfield idx, 3)) (k : G E (xw κ xa (setO X o C)) lv (pc + 3) (.int (iI (C 4 0)) :: st)) : G E (xw κ xa (setO X o C)) lv pc (.ref (xa o 100) :: st) := gc_get_4 F ho hli hd (by rw [setO_s]; exact k)
theorem gc_put_4 {z : Int} (F : Fx E κ cc own n dd) (ho : o < 12) {idx : Nat} (hli : Cond.fieldLink own idx "PatchesSameAge$Cloth" "year" "I" ∈ TG) (hd : decode cc pc = .ok (.putfield idx, 3)) (k : G E (xw κ xa (setO X o (mA (X o) 4 (fun _ => z)))) lv (pc + 3) st) : G E (xw κ xa X) lv pc (.int (iI z) :: .ref (xa o 100) :: st) := g_put F (C := RX0) (T := TX0) (N := 5) (5 * o + 0) (xc_obj ho) rfl i_X0 tyX0 tyX0_ok nmX0 4 (by decide) hli rfl rfl rfl (by show 4 < 5; decide) (xc_put_4 ho) hd k
theorem gcS_put_4 {z : Int} (F : Fx E κ cc own n dd) (ho : o < 12) {idx : Nat} (hli : Cond.fieldLink own idx "PatchesSameAge$Cloth" "year" "I" ∈ TG) (hd : decode cc pc = .ok (.putfield idx, 3)) (k : G E (xw κ xa (setO X o (mA C 4 (fun _ => z)))) lv (pc + 3) st) : G E (xw κ xa (setO X o C)) lv pc (.int (iI z) :: .ref (xa o 100) :: st) := gc_put_4 F ho hli hd (by rw [setO_s, setO_setO]; exact k)
theorem gc_getN_4 (F : Fx E κ cc own n dd) (ho : o < 12) {idx : Nat} {host : String} (hli : Cond.fieldLinkNest own idx "PatchesSameAge$Cloth" "year" "I" host ∈ NWl) (hd : decode cc pc = .ok (.getfield idx, 3)) (k : G E (xw κ xa X) lv (pc + 3) (.int (iI (X o 4 0)) :: st)) : G E (xw κ xa X) lv pc (.ref (xa o 100) :: st) := g_getN F (C := RX0) (T := TX0) (N := 5) (5 * o + 0) (xc_obj ho) rfl i_X0 4 (by decide) hli rfl hd k
theorem gcS_getN_4 (F : Fx E κ cc own n dd) (ho : o < 12) {idx : Nat} {host : String} (hli : Cond.fieldLinkNest own idx "PatchesSameAge$Cloth" "year" "I" host ∈ NWl) (hd : decode cc pc = .ok (.getfield idx, 3)) (k : G E (xw κ xa (setO X o C)) lv (pc + 3) (.int (iI (C 4 0)) :: st)) : G E (xw κ xa (setO X o C)) lv pc (.ref (xa o 100) :: st) := gc_getN_4 F ho hli hd (by rw [setO_s]; exact k)
theorem gc_putN_4 {z : Int} (F : Fx E κ cc own n dd) (ho : o < 12) {idx : Nat} {host : String} (hli : Cond.fieldLinkNest own idx "PatchesSameAge$Cloth" "year" "I" host ∈ NWl) (hd : decode cc pc = .ok (.putfield idx, 3)) (k : G E (xw κ xa (setO X o (mA (X o) 4 (fun _ => z)))) lv (pc + 3) st) : G E (xw κ xa X) lv pc (.int (iI z) :: .ref (xa o 100) :: st) := g_putN F (C := RX0) (T := TX0) (N := 5) (5 * o + 0) (xc_obj ho) rfl i_X0 tyX0 tyX0_ok nmX0 4 (by decide) hli rfl rfl rfl (by show 4 < 5; decide) (xc_put_4 ho) hd k
theorem gcS_putN_4 {z : Int} (F : Fx E κ cc own n dd) (ho : o < 12) {idx : Nat} {host : String} (hli : Cond.fieldLinkNest own idx "PatchesSameAge$Cloth" "year" "I" host ∈ NWl) (hd : decode cc pc = .ok (.putfield idx, 3)) (k : G E (xw κ xa (setO X o (mA C 4 (fun _ => z)))) lv (pc + 3) st) : G E (xw κ xa (setO X o C)) lv pc (.int (iI z) :: .ref (xa o 100) :: st) := gc_putN_4 F ho hli hd (by rw [setO_s, setO_setO]; exact k)
theorem gc_ald_0 {z : Int} (F : Fx E κ cc own n dd) (ho : o < 12) (hz : 0 ≤ z ∧ z < 12) (hd : decode cc pc = .ok (.iaload, 1)) (k : G E (xw κ xa X) lv (pc + 1) (.int (iI (X o 0 z)) :: st)) : G E (xw κ xa X) lv pc (.int (iI z) :: .ref (xa o 0) :: st) := g_ald F (5 * o + 1) (xc_arr_0 ho) hz (by decide) hd k
theorem gcS_ald_0 {z : Int} (F : Fx E κ cc own n dd) (ho : o < 12) (hz : 0 ≤ z ∧ z < 12) (hd : decode cc pc = .ok (.iaload, 1)) (k : G E (xw κ xa (setO X o C)) lv (pc + 1) (.int (iI (C 0 z)) :: st)) : G E (xw κ xa (setO X o C)) lv pc (.int (iI z) :: .ref (xa o 0) :: st) := gc_ald_0 F ho hz hd (by rw [setO_s]; exact k)
theorem gc_ast_0 {z v : Int} (F : Fx E κ cc own n dd) (ho : o < 12) (hz : 0 ≤ z ∧ z < 12) (hd : decode cc pc = .ok (.iastore, 1)) (k : G E (xw κ xa (setO X o (mA (X o) 0 (uI (X o 0) z v)))) lv (pc + 1) st) : G E (xw κ xa X) lv pc (.int (iI v) :: .int (iI z) :: .ref (xa o 0) :: st) := g_ast F (5 * o + 1) (xc_arr_0 ho) hz (by decide) (xc_set_0 ho) hd k
theorem gcS_ast_0 {z v : Int} (F : Fx E κ cc own n dd) (ho : o < 12) (hz : 0 ≤ z ∧ z < 12) (hd : decode cc pc = .ok (.iastore, 1)) (k : G E (xw κ xa (setO X o (mA C 0 (uI (C 0) z v)))) lv (pc + 1) st) : G E (xw κ xa (setO X o C)) lv pc (.int (iI v) :: .int (iI z) :: .ref (xa o 0) :: st) := gc_ast_0 F ho hz hd (by rw [setO_s, setO_setO]; exact k)
theorem gcSS_ast_0 {z v : Int} {f : Int → Int} (F : Fx E κ cc own n dd) (ho : o < 12) (hz : 0 ≤ z ∧ z < 12) (hd : decode cc pc = .ok (.iastore, 1)) (k : G E (xw κ xa (setO X o (mA C 0 (uI f z v)))) lv (pc + 1) st) : G E (xw κ xa (setO X o (mA C 0 f))) lv pc (.int (iI v) :: .int (iI z) :: .ref (xa o 0) :: st) := gcS_ast_0 F ho hz hd (by rw [mA_s, mA_mA]; exact k)
theorem gc_weq_0 {f g : Int → Int} (ho : o < 12) (h : ∀ j : Int, 0 ≤ j → j < 12 → f j = g j) (k : G E (xw κ xa (setO X o (mA C 0 g))) lv pc st) : G E (xw κ xa (setO X o (mA C 0 f))) lv pc st := g_weq (fun D H hP => by
  have e : ∀ q : Int → Int, xw κ xa (setO X o (mA C 0 q)) = (xw κ xa (setO X o C)).set (5 * o + 1) (xa o 0, .inl (κ.2.1, 12, .inl (fun j : Nat => iI (q (j : Int))))) := fun q => by rw [xc_set_0 ho, setO_s, setO_setO]
  rw [e] at hP ⊢
  exact va_P_set_congr (at_ext (fun j hj => by rw [h (j : Int) (by omega) (by omega)])) hP) xw_same k
theorem gc_ald_1 {z : Int} (F : Fx E κ cc own n dd) (ho : o < 12) (hz : 0 ≤ z ∧ z < 12) (hd : decode cc pc = .ok (.iaload, 1)) (k : G E (xw κ xa X) lv (pc + 1) (.int (iI (X o 1 z)) :: st)) : G E (xw κ xa X) lv pc (.int (iI z) :: .ref (xa o 1) :: st) := g_ald F (5 * o + 2) (xc_arr_1 ho) hz (by decide) hd k
theorem gcS_ald_1 {z : Int} (F : Fx E κ cc own n dd) (ho : o < 12) (hz : 0 ≤ z ∧ z < 12) (hd : decode cc pc = .ok (.iaload, 1)) (k : G E (xw κ xa (setO X o C)) lv (pc + 1) (.int (iI (C 1 z)) :: st)) : G E (xw κ xa (setO X o C)) lv pc (.int (iI z) :: .ref (xa o 1) :: st) := gc_ald_1 F ho hz hd (by rw [setO_s]; exact k)
theorem gc_ast_1 {z v : Int} (F : Fx E κ cc own n dd) (ho : o < 12) (hz : 0 ≤ z ∧ z < 12) (hd : decode cc pc = .ok (.iastore, 1)) (k : G E (xw κ xa (setO X o (mA (X o) 1 (uI (X o 1) z v)))) lv (pc + 1) st) : G E (xw κ xa X) lv pc (.int (iI v) :: .int (iI z) :: .ref (xa o 1) :: st) := g_ast F (5 * o + 2) (xc_arr_1 ho) hz (by decide) (xc_set_1 ho) hd k
theorem gcS_ast_1 {z v : Int} (F : Fx E κ cc own n dd) (ho : o < 12) (hz : 0 ≤ z ∧ z < 12) (hd : decode cc pc = .ok (.iastore, 1)) (k : G E (xw κ xa (setO X o (mA C 1 (uI (C 1) z v)))) lv (pc + 1) st) : G E (xw κ xa (setO X o C)) lv pc (.int (iI v) :: .int (iI z) :: .ref (xa o 1) :: st) := gc_ast_1 F ho hz hd (by rw [setO_s, setO_setO]; exact k)
theorem gcSS_ast_1 {z v : Int} {f : Int → Int} (F : Fx E κ cc own n dd) (ho : o < 12) (hz : 0 ≤ z ∧ z < 12) (hd : decode cc pc = .ok (.iastore, 1)) (k : G E (xw κ xa (setO X o (mA C 1 (uI f z v)))) lv (pc + 1) st) : G E (xw κ xa (setO X o (mA C 1 f))) lv pc (.int (iI v) :: .int (iI z) :: .ref (xa o 1) :: st) := gcS_ast_1 F ho hz hd (by rw [mA_s, mA_mA]; exact k)
theorem gc_weq_1 {f g : Int → Int} (ho : o < 12) (h : ∀ j : Int, 0 ≤ j → j < 12 → f j = g j) (k : G E (xw κ xa (setO X o (mA C 1 g))) lv pc st) : G E (xw κ xa (setO X o (mA C 1 f))) lv pc st := g_weq (fun D H hP => by
  have e : ∀ q : Int → Int, xw κ xa (setO X o (mA C 1 q)) = (xw κ xa (setO X o C)).set (5 * o + 2) (xa o 1, .inl (κ.2.1, 12, .inl (fun j : Nat => iI (q (j : Int))))) := fun q => by rw [xc_set_1 ho, setO_s, setO_setO]
  rw [e] at hP ⊢
  exact va_P_set_congr (at_ext (fun j hj => by rw [h (j : Int) (by omega) (by omega)])) hP) xw_same k
theorem gc_ald_2 {z : Int} (F : Fx E κ cc own n dd) (ho : o < 12) (hz : 0 ≤ z ∧ z < 12) (hd : decode cc pc = .ok (.iaload, 1)) (k : G E (xw κ xa X) lv (pc + 1) (.int (iI (X o 2 z)) :: st)) : G E (xw κ xa X) lv pc (.int (iI z) :: .ref (xa o 2) :: st) := g_ald F (5 * o + 3) (xc_arr_2 ho) hz (by decide) hd k
theorem gcS_ald_2 {z : Int} (F : Fx E κ cc own n dd) (ho : o < 12) (hz : 0 ≤ z ∧ z < 12) (hd : decode cc pc = .ok (.iaload, 1)) (k : G E (xw κ xa (setO X o C)) lv (pc + 1) (.int (iI (C 2 z)) :: st)) : G E (xw κ xa (setO X o C)) lv pc (.int (iI z) :: .ref (xa o 2) :: st) := gc_ald_2 F ho hz hd (by rw [setO_s]; exact k)
theorem gc_ast_2 {z v : Int} (F : Fx E κ cc own n dd) (ho : o < 12) (hz : 0 ≤ z ∧ z < 12) (hd : decode cc pc = .ok (.iastore, 1)) (k : G E (xw κ xa (setO X o (mA (X o) 2 (uI (X o 2) z v)))) lv (pc + 1) st) : G E (xw κ xa X) lv pc (.int (iI v) :: .int (iI z) :: .ref (xa o 2) :: st) := g_ast F (5 * o + 3) (xc_arr_2 ho) hz (by decide) (xc_set_2 ho) hd k
theorem gcS_ast_2 {z v : Int} (F : Fx E κ cc own n dd) (ho : o < 12) (hz : 0 ≤ z ∧ z < 12) (hd : decode cc pc = .ok (.iastore, 1)) (k : G E (xw κ xa (setO X o (mA C 2 (uI (C 2) z v)))) lv (pc + 1) st) : G E (xw κ xa (setO X o C)) lv pc (.int (iI v) :: .int (iI z) :: .ref (xa o 2) :: st) := gc_ast_2 F ho hz hd (by rw [setO_s, setO_setO]; exact k)
theorem gcSS_ast_2 {z v : Int} {f : Int → Int} (F : Fx E κ cc own n dd) (ho : o < 12) (hz : 0 ≤ z ∧ z < 12) (hd : decode cc pc = .ok (.iastore, 1)) (k : G E (xw κ xa (setO X o (mA C 2 (uI f z v)))) lv (pc + 1) st) : G E (xw κ xa (setO X o (mA C 2 f))) lv pc (.int (iI v) :: .int (iI z) :: .ref (xa o 2) :: st) := gcS_ast_2 F ho hz hd (by rw [mA_s, mA_mA]; exact k)
theorem gc_weq_2 {f g : Int → Int} (ho : o < 12) (h : ∀ j : Int, 0 ≤ j → j < 12 → f j = g j) (k : G E (xw κ xa (setO X o (mA C 2 g))) lv pc st) : G E (xw κ xa (setO X o (mA C 2 f))) lv pc st := g_weq (fun D H hP => by
  have e : ∀ q : Int → Int, xw κ xa (setO X o (mA C 2 q)) = (xw κ xa (setO X o C)).set (5 * o + 3) (xa o 2, .inl (κ.2.1, 12, .inl (fun j : Nat => iI (q (j : Int))))) := fun q => by rw [xc_set_2 ho, setO_s, setO_setO]
  rw [e] at hP ⊢
  exact va_P_set_congr (at_ext (fun j hj => by rw [h (j : Int) (by omega) (by omega)])) hP) xw_same k
theorem gc_ald_3 {z : Int} (F : Fx E κ cc own n dd) (ho : o < 12) (hz : 0 ≤ z ∧ z < 12) (hd : decode cc pc = .ok (.iaload, 1)) (k : G E (xw κ xa X) lv (pc + 1) (.int (iI (X o 3 z)) :: st)) : G E (xw κ xa X) lv pc (.int (iI z) :: .ref (xa o 3) :: st) := g_ald F (5 * o + 4) (xc_arr_3 ho) hz (by decide) hd k
theorem gcS_ald_3 {z : Int} (F : Fx E κ cc own n dd) (ho : o < 12) (hz : 0 ≤ z ∧ z < 12) (hd : decode cc pc = .ok (.iaload, 1)) (k : G E (xw κ xa (setO X o C)) lv (pc + 1) (.int (iI (C 3 z)) :: st)) : G E (xw κ xa (setO X o C)) lv pc (.int (iI z) :: .ref (xa o 3) :: st) := gc_ald_3 F ho hz hd (by rw [setO_s]; exact k)
theorem gc_ast_3 {z v : Int} (F : Fx E κ cc own n dd) (ho : o < 12) (hz : 0 ≤ z ∧ z < 12) (hd : decode cc pc = .ok (.iastore, 1)) (k : G E (xw κ xa (setO X o (mA (X o) 3 (uI (X o 3) z v)))) lv (pc + 1) st) : G E (xw κ xa X) lv pc (.int (iI v) :: .int (iI z) :: .ref (xa o 3) :: st) := g_ast F (5 * o + 4) (xc_arr_3 ho) hz (by decide) (xc_set_3 ho) hd k
theorem gcS_ast_3 {z v : Int} (F : Fx E κ cc own n dd) (ho : o < 12) (hz : 0 ≤ z ∧ z < 12) (hd : decode cc pc = .ok (.iastore, 1)) (k : G E (xw κ xa (setO X o (mA C 3 (uI (C 3) z v)))) lv (pc + 1) st) : G E (xw κ xa (setO X o C)) lv pc (.int (iI v) :: .int (iI z) :: .ref (xa o 3) :: st) := gc_ast_3 F ho hz hd (by rw [setO_s, setO_setO]; exact k)
theorem gcSS_ast_3 {z v : Int} {f : Int → Int} (F : Fx E κ cc own n dd) (ho : o < 12) (hz : 0 ≤ z ∧ z < 12) (hd : decode cc pc = .ok (.iastore, 1)) (k : G E (xw κ xa (setO X o (mA C 3 (uI f z v)))) lv (pc + 1) st) : G E (xw κ xa (setO X o (mA C 3 f))) lv pc (.int (iI v) :: .int (iI z) :: .ref (xa o 3) :: st) := gcS_ast_3 F ho hz hd (by rw [mA_s, mA_mA]; exact k)
theorem gc_weq_3 {f g : Int → Int} (ho : o < 12) (h : ∀ j : Int, 0 ≤ j → j < 12 → f j = g j) (k : G E (xw κ xa (setO X o (mA C 3 g))) lv pc st) : G E (xw κ xa (setO X o (mA C 3 f))) lv pc st := g_weq (fun D H hP => by
  have e : ∀ q : Int → Int, xw κ xa (setO X o (mA C 3 q)) = (xw κ xa (setO X o C)).set (5 * o + 4) (xa o 3, .inl (κ.2.1, 12, .inl (fun j : Nat => iI (q (j : Int))))) := fun q => by rw [xc_set_3 ho, setO_s, setO_setO]
  rw [e] at hP ⊢
  exact va_P_set_congr (at_ext (fun j hj => by rw [h (j : Int) (by omega) (by omega)])) hP) xw_same k
theorem xr_obj (ho : o < 3) : (xw κ xa X)[4 * o + 60]? = some (xa (12 + o) 100, .inr (2, rfv xa (12 + o) (X (12 + o)))) := by
  match o, ho with
  | 0, _ => exact rfl
  | 1, _ => exact rfl
  | 2, _ => exact rfl
  | m + 3, h => exact absurd h (by omega)
theorem xr_arr_0 (ho : o < 3) : (xw κ xa X)[4 * o + 61]? = some (xa (12 + o) 0, .inl (κ.2.1, 6, .inl (fun j : Nat => iI (X (12 + o) 0 (j : Int))))) := by
  match o, ho with
  | 0, _ => exact rfl
  | 1, _ => exact rfl
  | 2, _ => exact rfl
  | m + 3, h => exact absurd h (by omega)
theorem xr_set_0 (ho : o < 3) {f : Int → Int} : (xw κ xa X).set (4 * o + 61) (xa (12 + o) 0, .inl (κ.2.1, 6, .inl (fun j : Nat => iI (f (j : Int))))) = xw κ xa (setO X (12 + o) (mA (X (12 + o)) 0 f)) := by
  match o, ho with
  | 0, _ => exact rfl
  | 1, _ => exact rfl
  | 2, _ => exact rfl
  | m + 3, h => exact absurd h (by omega)
theorem xr_arr_1 (ho : o < 3) : (xw κ xa X)[4 * o + 62]? = some (xa (12 + o) 1, .inl (κ.2.1, 6, .inl (fun j : Nat => iI (X (12 + o) 1 (j : Int))))) := by
  match o, ho with
  | 0, _ => exact rfl
  | 1, _ => exact rfl
  | 2, _ => exact rfl
  | m + 3, h => exact absurd h (by omega)
theorem xr_set_1 (ho : o < 3) {f : Int → Int} : (xw κ xa X).set (4 * o + 62) (xa (12 + o) 1, .inl (κ.2.1, 6, .inl (fun j : Nat => iI (f (j : Int))))) = xw κ xa (setO X (12 + o) (mA (X (12 + o)) 1 f)) := by
  match o, ho with
  | 0, _ => exact rfl
  | 1, _ => exact rfl
  | 2, _ => exact rfl
  | m + 3, h => exact absurd h (by omega)
theorem xr_arr_2 (ho : o < 3) : (xw κ xa X)[4 * o + 63]? = some (xa (12 + o) 2, .inl (κ.2.1, 6, .inl (fun j : Nat => iI (X (12 + o) 2 (j : Int))))) := by
  match o, ho with
  | 0, _ => exact rfl
  | 1, _ => exact rfl
  | 2, _ => exact rfl
  | m + 3, h => exact absurd h (by omega)
theorem xr_set_2 (ho : o < 3) {f : Int → Int} : (xw κ xa X).set (4 * o + 63) (xa (12 + o) 2, .inl (κ.2.1, 6, .inl (fun j : Nat => iI (f (j : Int))))) = xw κ xa (setO X (12 + o) (mA (X (12 + o)) 2 f)) := by
  match o, ho with
  | 0, _ => exact rfl
  | 1, _ => exact rfl
  | 2, _ => exact rfl
  | m + 3, h => exact absurd h (by omega)
theorem xr_put_3 (ho : o < 3) {z : Int} : (xw κ xa X).set (4 * o + 60) (xa (12 + o) 100, .inr (2, (rfv xa (12 + o) (X (12 + o))).set 3 (.int (iI z)))) = xw κ xa (setO X (12 + o) (mA (X (12 + o)) 3 (fun _ => z))) := by
  match o, ho with
  | 0, _ => exact rfl
  | 1, _ => exact rfl
  | 2, _ => exact rfl
  | m + 3, h => exact absurd h (by omega)
theorem xr_put_4 (ho : o < 3) {z : Int} : (xw κ xa X).set (4 * o + 60) (xa (12 + o) 100, .inr (2, (rfv xa (12 + o) (X (12 + o))).set 4 (.int (iI z)))) = xw κ xa (setO X (12 + o) (mA (X (12 + o)) 4 (fun _ => z))) := by
  match o, ho with
  | 0, _ => exact rfl
  | 1, _ => exact rfl
  | 2, _ => exact rfl
  | m + 3, h => exact absurd h (by omega)
theorem gr_get_0 (F : Fx E κ cc own n dd) (ho : o < 3) {idx : Nat} (hli : Cond.fieldLink own idx "PatchesSameAge$Roll" "kind" "[I" ∈ TG) (hd : decode cc pc = .ok (.getfield idx, 3)) (k : G E (xw κ xa X) lv (pc + 3) (.ref (xa (12 + o) 0) :: st)) : G E (xw κ xa X) lv pc (.ref (xa (12 + o) 100) :: st) := g_get F (C := RX2) (T := TX2) (N := 5) (4 * o + 60) (xr_obj ho) rfl i_X2 0 (by decide) hli rfl hd k
theorem grS_get_0 (F : Fx E κ cc own n dd) (ho : o < 3) {idx : Nat} (hli : Cond.fieldLink own idx "PatchesSameAge$Roll" "kind" "[I" ∈ TG) (hd : decode cc pc = .ok (.getfield idx, 3)) (k : G E (xw κ xa (setO X (12 + o) C)) lv (pc + 3) (.ref (xa (12 + o) 0) :: st)) : G E (xw κ xa (setO X (12 + o) C)) lv pc (.ref (xa (12 + o) 100) :: st) := gr_get_0 F ho hli hd k
theorem gr_getN_0 (F : Fx E κ cc own n dd) (ho : o < 3) {idx : Nat} {host : String} (hli : Cond.fieldLinkNest own idx "PatchesSameAge$Roll" "kind" "[I" host ∈ NWl) (hd : decode cc pc = .ok (.getfield idx, 3)) (k : G E (xw κ xa X) lv (pc + 3) (.ref (xa (12 + o) 0) :: st)) : G E (xw κ xa X) lv pc (.ref (xa (12 + o) 100) :: st) := g_getN F (C := RX2) (T := TX2) (N := 5) (4 * o + 60) (xr_obj ho) rfl i_X2 0 (by decide) hli rfl hd k
theorem grS_getN_0 (F : Fx E κ cc own n dd) (ho : o < 3) {idx : Nat} {host : String} (hli : Cond.fieldLinkNest own idx "PatchesSameAge$Roll" "kind" "[I" host ∈ NWl) (hd : decode cc pc = .ok (.getfield idx, 3)) (k : G E (xw κ xa (setO X (12 + o) C)) lv (pc + 3) (.ref (xa (12 + o) 0) :: st)) : G E (xw κ xa (setO X (12 + o) C)) lv pc (.ref (xa (12 + o) 100) :: st) := gr_getN_0 F ho hli hd k
theorem gr_get_1 (F : Fx E κ cc own n dd) (ho : o < 3) {idx : Nat} (hli : Cond.fieldLink own idx "PatchesSameAge$Roll" "figure" "[I" ∈ TG) (hd : decode cc pc = .ok (.getfield idx, 3)) (k : G E (xw κ xa X) lv (pc + 3) (.ref (xa (12 + o) 1) :: st)) : G E (xw κ xa X) lv pc (.ref (xa (12 + o) 100) :: st) := g_get F (C := RX2) (T := TX2) (N := 5) (4 * o + 60) (xr_obj ho) rfl i_X2 1 (by decide) hli rfl hd k
theorem grS_get_1 (F : Fx E κ cc own n dd) (ho : o < 3) {idx : Nat} (hli : Cond.fieldLink own idx "PatchesSameAge$Roll" "figure" "[I" ∈ TG) (hd : decode cc pc = .ok (.getfield idx, 3)) (k : G E (xw κ xa (setO X (12 + o) C)) lv (pc + 3) (.ref (xa (12 + o) 1) :: st)) : G E (xw κ xa (setO X (12 + o) C)) lv pc (.ref (xa (12 + o) 100) :: st) := gr_get_1 F ho hli hd k
theorem gr_getN_1 (F : Fx E κ cc own n dd) (ho : o < 3) {idx : Nat} {host : String} (hli : Cond.fieldLinkNest own idx "PatchesSameAge$Roll" "figure" "[I" host ∈ NWl) (hd : decode cc pc = .ok (.getfield idx, 3)) (k : G E (xw κ xa X) lv (pc + 3) (.ref (xa (12 + o) 1) :: st)) : G E (xw κ xa X) lv pc (.ref (xa (12 + o) 100) :: st) := g_getN F (C := RX2) (T := TX2) (N := 5) (4 * o + 60) (xr_obj ho) rfl i_X2 1 (by decide) hli rfl hd k
theorem grS_getN_1 (F : Fx E κ cc own n dd) (ho : o < 3) {idx : Nat} {host : String} (hli : Cond.fieldLinkNest own idx "PatchesSameAge$Roll" "figure" "[I" host ∈ NWl) (hd : decode cc pc = .ok (.getfield idx, 3)) (k : G E (xw κ xa (setO X (12 + o) C)) lv (pc + 3) (.ref (xa (12 + o) 1) :: st)) : G E (xw κ xa (setO X (12 + o) C)) lv pc (.ref (xa (12 + o) 100) :: st) := gr_getN_1 F ho hli hd k
theorem gr_get_2 (F : Fx E κ cc own n dd) (ho : o < 3) {idx : Nat} (hli : Cond.fieldLink own idx "PatchesSameAge$Roll" "age" "[I" ∈ TG) (hd : decode cc pc = .ok (.getfield idx, 3)) (k : G E (xw κ xa X) lv (pc + 3) (.ref (xa (12 + o) 2) :: st)) : G E (xw κ xa X) lv pc (.ref (xa (12 + o) 100) :: st) := g_get F (C := RX2) (T := TX2) (N := 5) (4 * o + 60) (xr_obj ho) rfl i_X2 2 (by decide) hli rfl hd k
theorem grS_get_2 (F : Fx E κ cc own n dd) (ho : o < 3) {idx : Nat} (hli : Cond.fieldLink own idx "PatchesSameAge$Roll" "age" "[I" ∈ TG) (hd : decode cc pc = .ok (.getfield idx, 3)) (k : G E (xw κ xa (setO X (12 + o) C)) lv (pc + 3) (.ref (xa (12 + o) 2) :: st)) : G E (xw κ xa (setO X (12 + o) C)) lv pc (.ref (xa (12 + o) 100) :: st) := gr_get_2 F ho hli hd k
theorem gr_getN_2 (F : Fx E κ cc own n dd) (ho : o < 3) {idx : Nat} {host : String} (hli : Cond.fieldLinkNest own idx "PatchesSameAge$Roll" "age" "[I" host ∈ NWl) (hd : decode cc pc = .ok (.getfield idx, 3)) (k : G E (xw κ xa X) lv (pc + 3) (.ref (xa (12 + o) 2) :: st)) : G E (xw κ xa X) lv pc (.ref (xa (12 + o) 100) :: st) := g_getN F (C := RX2) (T := TX2) (N := 5) (4 * o + 60) (xr_obj ho) rfl i_X2 2 (by decide) hli rfl hd k
theorem grS_getN_2 (F : Fx E κ cc own n dd) (ho : o < 3) {idx : Nat} {host : String} (hli : Cond.fieldLinkNest own idx "PatchesSameAge$Roll" "age" "[I" host ∈ NWl) (hd : decode cc pc = .ok (.getfield idx, 3)) (k : G E (xw κ xa (setO X (12 + o) C)) lv (pc + 3) (.ref (xa (12 + o) 2) :: st)) : G E (xw κ xa (setO X (12 + o) C)) lv pc (.ref (xa (12 + o) 100) :: st) := gr_getN_2 F ho hli hd k
theorem gr_get_3 (F : Fx E κ cc own n dd) (ho : o < 3) {idx : Nat} (hli : Cond.fieldLink own idx "PatchesSameAge$Roll" "size" "I" ∈ TG) (hd : decode cc pc = .ok (.getfield idx, 3)) (k : G E (xw κ xa X) lv (pc + 3) (.int (iI (X (12 + o) 3 0)) :: st)) : G E (xw κ xa X) lv pc (.ref (xa (12 + o) 100) :: st) := g_get F (C := RX2) (T := TX2) (N := 5) (4 * o + 60) (xr_obj ho) rfl i_X2 3 (by decide) hli rfl hd k
theorem grS_get_3 (F : Fx E κ cc own n dd) (ho : o < 3) {idx : Nat} (hli : Cond.fieldLink own idx "PatchesSameAge$Roll" "size" "I" ∈ TG) (hd : decode cc pc = .ok (.getfield idx, 3)) (k : G E (xw κ xa (setO X (12 + o) C)) lv (pc + 3) (.int (iI (C 3 0)) :: st)) : G E (xw κ xa (setO X (12 + o) C)) lv pc (.ref (xa (12 + o) 100) :: st) := gr_get_3 F ho hli hd (by rw [setO_s]; exact k)
theorem gr_put_3 {z : Int} (F : Fx E κ cc own n dd) (ho : o < 3) {idx : Nat} (hli : Cond.fieldLink own idx "PatchesSameAge$Roll" "size" "I" ∈ TG) (hd : decode cc pc = .ok (.putfield idx, 3)) (k : G E (xw κ xa (setO X (12 + o) (mA (X (12 + o)) 3 (fun _ => z)))) lv (pc + 3) st) : G E (xw κ xa X) lv pc (.int (iI z) :: .ref (xa (12 + o) 100) :: st) := g_put F (C := RX2) (T := TX2) (N := 5) (4 * o + 60) (xr_obj ho) rfl i_X2 tyX2 tyX2_ok nmX2 3 (by decide) hli rfl rfl rfl (by show 3 < 5; decide) (xr_put_3 ho) hd k
theorem grS_put_3 {z : Int} (F : Fx E κ cc own n dd) (ho : o < 3) {idx : Nat} (hli : Cond.fieldLink own idx "PatchesSameAge$Roll" "size" "I" ∈ TG) (hd : decode cc pc = .ok (.putfield idx, 3)) (k : G E (xw κ xa (setO X (12 + o) (mA C 3 (fun _ => z)))) lv (pc + 3) st) : G E (xw κ xa (setO X (12 + o) C)) lv pc (.int (iI z) :: .ref (xa (12 + o) 100) :: st) := gr_put_3 F ho hli hd (by rw [setO_s, setO_setO]; exact k)
theorem gr_getN_3 (F : Fx E κ cc own n dd) (ho : o < 3) {idx : Nat} {host : String} (hli : Cond.fieldLinkNest own idx "PatchesSameAge$Roll" "size" "I" host ∈ NWl) (hd : decode cc pc = .ok (.getfield idx, 3)) (k : G E (xw κ xa X) lv (pc + 3) (.int (iI (X (12 + o) 3 0)) :: st)) : G E (xw κ xa X) lv pc (.ref (xa (12 + o) 100) :: st) := g_getN F (C := RX2) (T := TX2) (N := 5) (4 * o + 60) (xr_obj ho) rfl i_X2 3 (by decide) hli rfl hd k
theorem grS_getN_3 (F : Fx E κ cc own n dd) (ho : o < 3) {idx : Nat} {host : String} (hli : Cond.fieldLinkNest own idx "PatchesSameAge$Roll" "size" "I" host ∈ NWl) (hd : decode cc pc = .ok (.getfield idx, 3)) (k : G E (xw κ xa (setO X (12 + o) C)) lv (pc + 3) (.int (iI (C 3 0)) :: st)) : G E (xw κ xa (setO X (12 + o) C)) lv pc (.ref (xa (12 + o) 100) :: st) := gr_getN_3 F ho hli hd (by rw [setO_s]; exact k)
theorem gr_putN_3 {z : Int} (F : Fx E κ cc own n dd) (ho : o < 3) {idx : Nat} {host : String} (hli : Cond.fieldLinkNest own idx "PatchesSameAge$Roll" "size" "I" host ∈ NWl) (hd : decode cc pc = .ok (.putfield idx, 3)) (k : G E (xw κ xa (setO X (12 + o) (mA (X (12 + o)) 3 (fun _ => z)))) lv (pc + 3) st) : G E (xw κ xa X) lv pc (.int (iI z) :: .ref (xa (12 + o) 100) :: st) := g_putN F (C := RX2) (T := TX2) (N := 5) (4 * o + 60) (xr_obj ho) rfl i_X2 tyX2 tyX2_ok nmX2 3 (by decide) hli rfl rfl rfl (by show 3 < 5; decide) (xr_put_3 ho) hd k
theorem grS_putN_3 {z : Int} (F : Fx E κ cc own n dd) (ho : o < 3) {idx : Nat} {host : String} (hli : Cond.fieldLinkNest own idx "PatchesSameAge$Roll" "size" "I" host ∈ NWl) (hd : decode cc pc = .ok (.putfield idx, 3)) (k : G E (xw κ xa (setO X (12 + o) (mA C 3 (fun _ => z)))) lv (pc + 3) st) : G E (xw κ xa (setO X (12 + o) C)) lv pc (.int (iI z) :: .ref (xa (12 + o) 100) :: st) := gr_putN_3 F ho hli hd (by rw [setO_s, setO_setO]; exact k)
theorem gr_get_4 (F : Fx E κ cc own n dd) (ho : o < 3) {idx : Nat} (hli : Cond.fieldLink own idx "PatchesSameAge$Roll" "used" "I" ∈ TG) (hd : decode cc pc = .ok (.getfield idx, 3)) (k : G E (xw κ xa X) lv (pc + 3) (.int (iI (X (12 + o) 4 0)) :: st)) : G E (xw κ xa X) lv pc (.ref (xa (12 + o) 100) :: st) := g_get F (C := RX2) (T := TX2) (N := 5) (4 * o + 60) (xr_obj ho) rfl i_X2 4 (by decide) hli rfl hd k
theorem grS_get_4 (F : Fx E κ cc own n dd) (ho : o < 3) {idx : Nat} (hli : Cond.fieldLink own idx "PatchesSameAge$Roll" "used" "I" ∈ TG) (hd : decode cc pc = .ok (.getfield idx, 3)) (k : G E (xw κ xa (setO X (12 + o) C)) lv (pc + 3) (.int (iI (C 4 0)) :: st)) : G E (xw κ xa (setO X (12 + o) C)) lv pc (.ref (xa (12 + o) 100) :: st) := gr_get_4 F ho hli hd (by rw [setO_s]; exact k)
theorem gr_put_4 {z : Int} (F : Fx E κ cc own n dd) (ho : o < 3) {idx : Nat} (hli : Cond.fieldLink own idx "PatchesSameAge$Roll" "used" "I" ∈ TG) (hd : decode cc pc = .ok (.putfield idx, 3)) (k : G E (xw κ xa (setO X (12 + o) (mA (X (12 + o)) 4 (fun _ => z)))) lv (pc + 3) st) : G E (xw κ xa X) lv pc (.int (iI z) :: .ref (xa (12 + o) 100) :: st) := g_put F (C := RX2) (T := TX2) (N := 5) (4 * o + 60) (xr_obj ho) rfl i_X2 tyX2 tyX2_ok nmX2 4 (by decide) hli rfl rfl rfl (by show 4 < 5; decide) (xr_put_4 ho) hd k
theorem grS_put_4 {z : Int} (F : Fx E κ cc own n dd) (ho : o < 3) {idx : Nat} (hli : Cond.fieldLink own idx "PatchesSameAge$Roll" "used" "I" ∈ TG) (hd : decode cc pc = .ok (.putfield idx, 3)) (k : G E (xw κ xa (setO X (12 + o) (mA C 4 (fun _ => z)))) lv (pc + 3) st) : G E (xw κ xa (setO X (12 + o) C)) lv pc (.int (iI z) :: .ref (xa (12 + o) 100) :: st) := gr_put_4 F ho hli hd (by rw [setO_s, setO_setO]; exact k)
theorem gr_getN_4 (F : Fx E κ cc own n dd) (ho : o < 3) {idx : Nat} {host : String} (hli : Cond.fieldLinkNest own idx "PatchesSameAge$Roll" "used" "I" host ∈ NWl) (hd : decode cc pc = .ok (.getfield idx, 3)) (k : G E (xw κ xa X) lv (pc + 3) (.int (iI (X (12 + o) 4 0)) :: st)) : G E (xw κ xa X) lv pc (.ref (xa (12 + o) 100) :: st) := g_getN F (C := RX2) (T := TX2) (N := 5) (4 * o + 60) (xr_obj ho) rfl i_X2 4 (by decide) hli rfl hd k
theorem grS_getN_4 (F : Fx E κ cc own n dd) (ho : o < 3) {idx : Nat} {host : String} (hli : Cond.fieldLinkNest own idx "PatchesSameAge$Roll" "used" "I" host ∈ NWl) (hd : decode cc pc = .ok (.getfield idx, 3)) (k : G E (xw κ xa (setO X (12 + o) C)) lv (pc + 3) (.int (iI (C 4 0)) :: st)) : G E (xw κ xa (setO X (12 + o) C)) lv pc (.ref (xa (12 + o) 100) :: st) := gr_getN_4 F ho hli hd (by rw [setO_s]; exact k)
theorem gr_putN_4 {z : Int} (F : Fx E κ cc own n dd) (ho : o < 3) {idx : Nat} {host : String} (hli : Cond.fieldLinkNest own idx "PatchesSameAge$Roll" "used" "I" host ∈ NWl) (hd : decode cc pc = .ok (.putfield idx, 3)) (k : G E (xw κ xa (setO X (12 + o) (mA (X (12 + o)) 4 (fun _ => z)))) lv (pc + 3) st) : G E (xw κ xa X) lv pc (.int (iI z) :: .ref (xa (12 + o) 100) :: st) := g_putN F (C := RX2) (T := TX2) (N := 5) (4 * o + 60) (xr_obj ho) rfl i_X2 tyX2 tyX2_ok nmX2 4 (by decide) hli rfl rfl rfl (by show 4 < 5; decide) (xr_put_4 ho) hd k
theorem grS_putN_4 {z : Int} (F : Fx E κ cc own n dd) (ho : o < 3) {idx : Nat} {host : String} (hli : Cond.fieldLinkNest own idx "PatchesSameAge$Roll" "used" "I" host ∈ NWl) (hd : decode cc pc = .ok (.putfield idx, 3)) (k : G E (xw κ xa (setO X (12 + o) (mA C 4 (fun _ => z)))) lv (pc + 3) st) : G E (xw κ xa (setO X (12 + o) C)) lv pc (.int (iI z) :: .ref (xa (12 + o) 100) :: st) := gr_putN_4 F ho hli hd (by rw [setO_s, setO_setO]; exact k)
theorem gr_ald_0 {z : Int} (F : Fx E κ cc own n dd) (ho : o < 3) (hz : 0 ≤ z ∧ z < 6) (hd : decode cc pc = .ok (.iaload, 1)) (k : G E (xw κ xa X) lv (pc + 1) (.int (iI (X (12 + o) 0 z)) :: st)) : G E (xw κ xa X) lv pc (.int (iI z) :: .ref (xa (12 + o) 0) :: st) := g_ald F (4 * o + 61) (xr_arr_0 ho) hz (by decide) hd k
theorem grS_ald_0 {z : Int} (F : Fx E κ cc own n dd) (ho : o < 3) (hz : 0 ≤ z ∧ z < 6) (hd : decode cc pc = .ok (.iaload, 1)) (k : G E (xw κ xa (setO X (12 + o) C)) lv (pc + 1) (.int (iI (C 0 z)) :: st)) : G E (xw κ xa (setO X (12 + o) C)) lv pc (.int (iI z) :: .ref (xa (12 + o) 0) :: st) := gr_ald_0 F ho hz hd (by rw [setO_s]; exact k)
theorem gr_ast_0 {z v : Int} (F : Fx E κ cc own n dd) (ho : o < 3) (hz : 0 ≤ z ∧ z < 6) (hd : decode cc pc = .ok (.iastore, 1)) (k : G E (xw κ xa (setO X (12 + o) (mA (X (12 + o)) 0 (uI (X (12 + o) 0) z v)))) lv (pc + 1) st) : G E (xw κ xa X) lv pc (.int (iI v) :: .int (iI z) :: .ref (xa (12 + o) 0) :: st) := g_ast F (4 * o + 61) (xr_arr_0 ho) hz (by decide) (xr_set_0 ho) hd k
theorem grS_ast_0 {z v : Int} (F : Fx E κ cc own n dd) (ho : o < 3) (hz : 0 ≤ z ∧ z < 6) (hd : decode cc pc = .ok (.iastore, 1)) (k : G E (xw κ xa (setO X (12 + o) (mA C 0 (uI (C 0) z v)))) lv (pc + 1) st) : G E (xw κ xa (setO X (12 + o) C)) lv pc (.int (iI v) :: .int (iI z) :: .ref (xa (12 + o) 0) :: st) := gr_ast_0 F ho hz hd (by rw [setO_s, setO_setO]; exact k)
theorem grSS_ast_0 {z v : Int} {f : Int → Int} (F : Fx E κ cc own n dd) (ho : o < 3) (hz : 0 ≤ z ∧ z < 6) (hd : decode cc pc = .ok (.iastore, 1)) (k : G E (xw κ xa (setO X (12 + o) (mA C 0 (uI f z v)))) lv (pc + 1) st) : G E (xw κ xa (setO X (12 + o) (mA C 0 f))) lv pc (.int (iI v) :: .int (iI z) :: .ref (xa (12 + o) 0) :: st) := grS_ast_0 F ho hz hd (by rw [mA_s, mA_mA]; exact k)
theorem gr_weq_0 {f g : Int → Int} (ho : o < 3) (h : ∀ j : Int, 0 ≤ j → j < 6 → f j = g j) (k : G E (xw κ xa (setO X (12 + o) (mA C 0 g))) lv pc st) : G E (xw κ xa (setO X (12 + o) (mA C 0 f))) lv pc st := g_weq (fun D H hP => by
  have e : ∀ q : Int → Int, xw κ xa (setO X (12 + o) (mA C 0 q)) = (xw κ xa (setO X (12 + o) C)).set (4 * o + 61) (xa (12 + o) 0, .inl (κ.2.1, 6, .inl (fun j : Nat => iI (q (j : Int))))) := fun q => by rw [xr_set_0 ho, setO_s, setO_setO]
  rw [e] at hP ⊢
  exact va_P_set_congr (at_ext (fun j hj => by rw [h (j : Int) (by omega) (by omega)])) hP) xw_same k
theorem gr_ald_1 {z : Int} (F : Fx E κ cc own n dd) (ho : o < 3) (hz : 0 ≤ z ∧ z < 6) (hd : decode cc pc = .ok (.iaload, 1)) (k : G E (xw κ xa X) lv (pc + 1) (.int (iI (X (12 + o) 1 z)) :: st)) : G E (xw κ xa X) lv pc (.int (iI z) :: .ref (xa (12 + o) 1) :: st) := g_ald F (4 * o + 62) (xr_arr_1 ho) hz (by decide) hd k
theorem grS_ald_1 {z : Int} (F : Fx E κ cc own n dd) (ho : o < 3) (hz : 0 ≤ z ∧ z < 6) (hd : decode cc pc = .ok (.iaload, 1)) (k : G E (xw κ xa (setO X (12 + o) C)) lv (pc + 1) (.int (iI (C 1 z)) :: st)) : G E (xw κ xa (setO X (12 + o) C)) lv pc (.int (iI z) :: .ref (xa (12 + o) 1) :: st) := gr_ald_1 F ho hz hd (by rw [setO_s]; exact k)
theorem gr_ast_1 {z v : Int} (F : Fx E κ cc own n dd) (ho : o < 3) (hz : 0 ≤ z ∧ z < 6) (hd : decode cc pc = .ok (.iastore, 1)) (k : G E (xw κ xa (setO X (12 + o) (mA (X (12 + o)) 1 (uI (X (12 + o) 1) z v)))) lv (pc + 1) st) : G E (xw κ xa X) lv pc (.int (iI v) :: .int (iI z) :: .ref (xa (12 + o) 1) :: st) := g_ast F (4 * o + 62) (xr_arr_1 ho) hz (by decide) (xr_set_1 ho) hd k
theorem grS_ast_1 {z v : Int} (F : Fx E κ cc own n dd) (ho : o < 3) (hz : 0 ≤ z ∧ z < 6) (hd : decode cc pc = .ok (.iastore, 1)) (k : G E (xw κ xa (setO X (12 + o) (mA C 1 (uI (C 1) z v)))) lv (pc + 1) st) : G E (xw κ xa (setO X (12 + o) C)) lv pc (.int (iI v) :: .int (iI z) :: .ref (xa (12 + o) 1) :: st) := gr_ast_1 F ho hz hd (by rw [setO_s, setO_setO]; exact k)
theorem grSS_ast_1 {z v : Int} {f : Int → Int} (F : Fx E κ cc own n dd) (ho : o < 3) (hz : 0 ≤ z ∧ z < 6) (hd : decode cc pc = .ok (.iastore, 1)) (k : G E (xw κ xa (setO X (12 + o) (mA C 1 (uI f z v)))) lv (pc + 1) st) : G E (xw κ xa (setO X (12 + o) (mA C 1 f))) lv pc (.int (iI v) :: .int (iI z) :: .ref (xa (12 + o) 1) :: st) := grS_ast_1 F ho hz hd (by rw [mA_s, mA_mA]; exact k)
theorem gr_weq_1 {f g : Int → Int} (ho : o < 3) (h : ∀ j : Int, 0 ≤ j → j < 6 → f j = g j) (k : G E (xw κ xa (setO X (12 + o) (mA C 1 g))) lv pc st) : G E (xw κ xa (setO X (12 + o) (mA C 1 f))) lv pc st := g_weq (fun D H hP => by
  have e : ∀ q : Int → Int, xw κ xa (setO X (12 + o) (mA C 1 q)) = (xw κ xa (setO X (12 + o) C)).set (4 * o + 62) (xa (12 + o) 1, .inl (κ.2.1, 6, .inl (fun j : Nat => iI (q (j : Int))))) := fun q => by rw [xr_set_1 ho, setO_s, setO_setO]
  rw [e] at hP ⊢
  exact va_P_set_congr (at_ext (fun j hj => by rw [h (j : Int) (by omega) (by omega)])) hP) xw_same k
theorem gr_ald_2 {z : Int} (F : Fx E κ cc own n dd) (ho : o < 3) (hz : 0 ≤ z ∧ z < 6) (hd : decode cc pc = .ok (.iaload, 1)) (k : G E (xw κ xa X) lv (pc + 1) (.int (iI (X (12 + o) 2 z)) :: st)) : G E (xw κ xa X) lv pc (.int (iI z) :: .ref (xa (12 + o) 2) :: st) := g_ald F (4 * o + 63) (xr_arr_2 ho) hz (by decide) hd k
theorem grS_ald_2 {z : Int} (F : Fx E κ cc own n dd) (ho : o < 3) (hz : 0 ≤ z ∧ z < 6) (hd : decode cc pc = .ok (.iaload, 1)) (k : G E (xw κ xa (setO X (12 + o) C)) lv (pc + 1) (.int (iI (C 2 z)) :: st)) : G E (xw κ xa (setO X (12 + o) C)) lv pc (.int (iI z) :: .ref (xa (12 + o) 2) :: st) := gr_ald_2 F ho hz hd (by rw [setO_s]; exact k)
theorem gr_ast_2 {z v : Int} (F : Fx E κ cc own n dd) (ho : o < 3) (hz : 0 ≤ z ∧ z < 6) (hd : decode cc pc = .ok (.iastore, 1)) (k : G E (xw κ xa (setO X (12 + o) (mA (X (12 + o)) 2 (uI (X (12 + o) 2) z v)))) lv (pc + 1) st) : G E (xw κ xa X) lv pc (.int (iI v) :: .int (iI z) :: .ref (xa (12 + o) 2) :: st) := g_ast F (4 * o + 63) (xr_arr_2 ho) hz (by decide) (xr_set_2 ho) hd k
theorem grS_ast_2 {z v : Int} (F : Fx E κ cc own n dd) (ho : o < 3) (hz : 0 ≤ z ∧ z < 6) (hd : decode cc pc = .ok (.iastore, 1)) (k : G E (xw κ xa (setO X (12 + o) (mA C 2 (uI (C 2) z v)))) lv (pc + 1) st) : G E (xw κ xa (setO X (12 + o) C)) lv pc (.int (iI v) :: .int (iI z) :: .ref (xa (12 + o) 2) :: st) := gr_ast_2 F ho hz hd (by rw [setO_s, setO_setO]; exact k)
theorem grSS_ast_2 {z v : Int} {f : Int → Int} (F : Fx E κ cc own n dd) (ho : o < 3) (hz : 0 ≤ z ∧ z < 6) (hd : decode cc pc = .ok (.iastore, 1)) (k : G E (xw κ xa (setO X (12 + o) (mA C 2 (uI f z v)))) lv (pc + 1) st) : G E (xw κ xa (setO X (12 + o) (mA C 2 f))) lv pc (.int (iI v) :: .int (iI z) :: .ref (xa (12 + o) 2) :: st) := grS_ast_2 F ho hz hd (by rw [mA_s, mA_mA]; exact k)
theorem gr_weq_2 {f g : Int → Int} (ho : o < 3) (h : ∀ j : Int, 0 ≤ j → j < 6 → f j = g j) (k : G E (xw κ xa (setO X (12 + o) (mA C 2 g))) lv pc st) : G E (xw κ xa (setO X (12 + o) (mA C 2 f))) lv pc st := g_weq (fun D H hP => by
  have e : ∀ q : Int → Int, xw κ xa (setO X (12 + o) (mA C 2 q)) = (xw κ xa (setO X (12 + o) C)).set (4 * o + 63) (xa (12 + o) 2, .inl (κ.2.1, 6, .inl (fun j : Nat => iI (q (j : Int))))) := fun q => by rw [xr_set_2 ho, setO_s, setO_setO]
  rw [e] at hP ⊢
  exact va_P_set_congr (at_ext (fun j hj => by rw [h (j : Int) (by omega) (by omega)])) hP) xw_same k
theorem xc_cl (ho : o < 12) (Z D : MS) : xw κ xa (setO X o D) = xw κ xa (setO X o (stC Z (cl D))) := by
  match o, ho with
  | 0, _ => exact rfl
  | 1, _ => exact rfl
  | 2, _ => exact rfl
  | 3, _ => exact rfl
  | 4, _ => exact rfl
  | 5, _ => exact rfl
  | 6, _ => exact rfl
  | 7, _ => exact rfl
  | 8, _ => exact rfl
  | 9, _ => exact rfl
  | 10, _ => exact rfl
  | 11, _ => exact rfl
  | m + 12, h => exact absurd h (by omega)
theorem xc_ext {D D2 : MS} (ho : o < 12) (h : cl D = cl D2) : xw κ xa (setO X o D) = xw κ xa (setO X o D2) := by rw [xc_cl ho (fun _ _ => 0) D, xc_cl ho (fun _ _ => 0) D2, h]
def rl (D : MS) : (Int → Int) × (Int → Int) × (Int → Int) × Int × Int := (D 0, D 1, D 2, D 3 0, D 4 0)
def stR (M : MS) (R : (Int → Int) × (Int → Int) × (Int → Int) × Int × Int) : MS := fun a => if a = 0 then R.1 else if a = 1 then R.2.1 else if a = 2 then R.2.2.1 else if a = 3 then (fun _ => R.2.2.2.1) else if a = 4 then (fun _ => R.2.2.2.2) else M a
theorem xr_rl (ho : o < 3) (Z D : MS) : xw κ xa (setO X (12 + o) D) = xw κ xa (setO X (12 + o) (stR Z (rl D))) := by
  match o, ho with
  | 0, _ => exact rfl
  | 1, _ => exact rfl
  | 2, _ => exact rfl
  | m + 3, h => exact absurd h (by omega)
theorem xr_ext {D D2 : MS} (ho : o < 3) (h : rl D = rl D2) : xw κ xa (setO X (12 + o) D) = xw κ xa (setO X (12 + o) D2) := by rw [xr_rl ho (fun _ _ => 0) D, xr_rl ho (fun _ _ => 0) D2, h]
theorem g15_get_0 (F : Fx E κ cc own n dd) {idx : Nat} (hli : Cond.fieldLink own idx "PatchesSameAge$Past" "cloth" "[LPatchesSameAge$Cloth;" ∈ TG) (hd : decode cc pc = .ok (.getfield idx, 3)) (k : G E (xw κ xa X) lv (pc + 3) (.ref (xa 15 0) :: st)) : G E (xw κ xa X) lv pc (.ref (xa 15 100) :: st) := g_get F (C := RX1) (T := TX1) (N := 4) 72 rfl rfl i_X1 0 (by decide) hli rfl hd k
theorem g15_getN_0 (F : Fx E κ cc own n dd) {idx : Nat} {host : String} (hli : Cond.fieldLinkNest own idx "PatchesSameAge$Past" "cloth" "[LPatchesSameAge$Cloth;" host ∈ NWl) (hd : decode cc pc = .ok (.getfield idx, 3)) (k : G E (xw κ xa X) lv (pc + 3) (.ref (xa 15 0) :: st)) : G E (xw κ xa X) lv pc (.ref (xa 15 100) :: st) := g_getN F (C := RX1) (T := TX1) (N := 4) 72 rfl rfl i_X1 0 (by decide) hli rfl hd k
theorem g15_get_1 (F : Fx E κ cc own n dd) {idx : Nat} (hli : Cond.fieldLink own idx "PatchesSameAge$Past" "used" "[I" ∈ TG) (hd : decode cc pc = .ok (.getfield idx, 3)) (k : G E (xw κ xa X) lv (pc + 3) (.ref (xa 15 1) :: st)) : G E (xw κ xa X) lv pc (.ref (xa 15 100) :: st) := g_get F (C := RX1) (T := TX1) (N := 4) 72 rfl rfl i_X1 1 (by decide) hli rfl hd k
theorem g15_getN_1 (F : Fx E κ cc own n dd) {idx : Nat} {host : String} (hli : Cond.fieldLinkNest own idx "PatchesSameAge$Past" "used" "[I" host ∈ NWl) (hd : decode cc pc = .ok (.getfield idx, 3)) (k : G E (xw κ xa X) lv (pc + 3) (.ref (xa 15 1) :: st)) : G E (xw κ xa X) lv pc (.ref (xa 15 100) :: st) := g_getN F (C := RX1) (T := TX1) (N := 4) 72 rfl rfl i_X1 1 (by decide) hli rfl hd k
theorem g15_get_2 (F : Fx E κ cc own n dd) {idx : Nat} (hli : Cond.fieldLink own idx "PatchesSameAge$Past" "next" "I" ∈ TG) (hd : decode cc pc = .ok (.getfield idx, 3)) (k : G E (xw κ xa X) lv (pc + 3) (.int (iI (X 15 2 0)) :: st)) : G E (xw κ xa X) lv pc (.ref (xa 15 100) :: st) := g_get F (C := RX1) (T := TX1) (N := 4) 72 rfl rfl i_X1 2 (by decide) hli rfl hd k
theorem x15_put_2 {z : Int} : (xw κ xa X).set 72 (xa 15 100, .inr (1, (pfv xa (X 15)).set 2 (.int (iI z)))) = xw κ xa (setO X 15 (mA (X 15) 2 (fun _ => z))) := rfl
theorem g15_put_2 {z : Int} (F : Fx E κ cc own n dd) {idx : Nat} (hli : Cond.fieldLink own idx "PatchesSameAge$Past" "next" "I" ∈ TG) (hd : decode cc pc = .ok (.putfield idx, 3)) (k : G E (xw κ xa (setO X 15 (mA (X 15) 2 (fun _ => z)))) lv (pc + 3) st) : G E (xw κ xa X) lv pc (.int (iI z) :: .ref (xa 15 100) :: st) := g_put F (C := RX1) (T := TX1) (N := 4) 72 rfl rfl i_X1 tyX1 tyX1_ok nmX1 2 (by decide) hli rfl rfl rfl (by show 2 < 4; decide) x15_put_2 hd k
theorem g15_getN_2 (F : Fx E κ cc own n dd) {idx : Nat} {host : String} (hli : Cond.fieldLinkNest own idx "PatchesSameAge$Past" "next" "I" host ∈ NWl) (hd : decode cc pc = .ok (.getfield idx, 3)) (k : G E (xw κ xa X) lv (pc + 3) (.int (iI (X 15 2 0)) :: st)) : G E (xw κ xa X) lv pc (.ref (xa 15 100) :: st) := g_getN F (C := RX1) (T := TX1) (N := 4) 72 rfl rfl i_X1 2 (by decide) hli rfl hd k
theorem g15_putN_2 {z : Int} (F : Fx E κ cc own n dd) {idx : Nat} {host : String} (hli : Cond.fieldLinkNest own idx "PatchesSameAge$Past" "next" "I" host ∈ NWl) (hd : decode cc pc = .ok (.putfield idx, 3)) (k : G E (xw κ xa (setO X 15 (mA (X 15) 2 (fun _ => z)))) lv (pc + 3) st) : G E (xw κ xa X) lv pc (.int (iI z) :: .ref (xa 15 100) :: st) := g_putN F (C := RX1) (T := TX1) (N := 4) 72 rfl rfl i_X1 tyX1 tyX1_ok nmX1 2 (by decide) hli rfl rfl rfl (by show 2 < 4; decide) x15_put_2 hd k
theorem g15_get_3 (F : Fx E κ cc own n dd) {idx : Nat} (hli : Cond.fieldLink own idx "PatchesSameAge$Past" "size" "I" ∈ TG) (hd : decode cc pc = .ok (.getfield idx, 3)) (k : G E (xw κ xa X) lv (pc + 3) (.int (iI (X 15 3 0)) :: st)) : G E (xw κ xa X) lv pc (.ref (xa 15 100) :: st) := g_get F (C := RX1) (T := TX1) (N := 4) 72 rfl rfl i_X1 3 (by decide) hli rfl hd k
theorem x15_put_3 {z : Int} : (xw κ xa X).set 72 (xa 15 100, .inr (1, (pfv xa (X 15)).set 3 (.int (iI z)))) = xw κ xa (setO X 15 (mA (X 15) 3 (fun _ => z))) := rfl
theorem g15_put_3 {z : Int} (F : Fx E κ cc own n dd) {idx : Nat} (hli : Cond.fieldLink own idx "PatchesSameAge$Past" "size" "I" ∈ TG) (hd : decode cc pc = .ok (.putfield idx, 3)) (k : G E (xw κ xa (setO X 15 (mA (X 15) 3 (fun _ => z)))) lv (pc + 3) st) : G E (xw κ xa X) lv pc (.int (iI z) :: .ref (xa 15 100) :: st) := g_put F (C := RX1) (T := TX1) (N := 4) 72 rfl rfl i_X1 tyX1 tyX1_ok nmX1 3 (by decide) hli rfl rfl rfl (by show 3 < 4; decide) x15_put_3 hd k
theorem g15_getN_3 (F : Fx E κ cc own n dd) {idx : Nat} {host : String} (hli : Cond.fieldLinkNest own idx "PatchesSameAge$Past" "size" "I" host ∈ NWl) (hd : decode cc pc = .ok (.getfield idx, 3)) (k : G E (xw κ xa X) lv (pc + 3) (.int (iI (X 15 3 0)) :: st)) : G E (xw κ xa X) lv pc (.ref (xa 15 100) :: st) := g_getN F (C := RX1) (T := TX1) (N := 4) 72 rfl rfl i_X1 3 (by decide) hli rfl hd k
theorem g15_putN_3 {z : Int} (F : Fx E κ cc own n dd) {idx : Nat} {host : String} (hli : Cond.fieldLinkNest own idx "PatchesSameAge$Past" "size" "I" host ∈ NWl) (hd : decode cc pc = .ok (.putfield idx, 3)) (k : G E (xw κ xa (setO X 15 (mA (X 15) 3 (fun _ => z)))) lv (pc + 3) st) : G E (xw κ xa X) lv pc (.int (iI z) :: .ref (xa 15 100) :: st) := g_putN F (C := RX1) (T := TX1) (N := 4) 72 rfl rfl i_X1 tyX1 tyX1_ok nmX1 3 (by decide) hli rfl rfl rfl (by show 3 < 4; decide) x15_put_3 hd k
theorem x15_arr_1 : (xw κ xa X)[74]? = some (xa 15 1, .inl (κ.2.1, 8, .inl (fun j : Nat => iI (X 15 1 (j : Int))))) := rfl
theorem x15_set_1 {f : Int → Int} : (xw κ xa X).set 74 (xa 15 1, .inl (κ.2.1, 8, .inl (fun j : Nat => iI (f (j : Int))))) = xw κ xa (setO X 15 (mA (X 15) 1 f)) := rfl
theorem g15_ald_1 {z : Int} (F : Fx E κ cc own n dd) (hz : 0 ≤ z ∧ z < 8) (hd : decode cc pc = .ok (.iaload, 1)) (k : G E (xw κ xa X) lv (pc + 1) (.int (iI (X 15 1 z)) :: st)) : G E (xw κ xa X) lv pc (.int (iI z) :: .ref (xa 15 1) :: st) := g_ald F 74 x15_arr_1 hz (by decide) hd k
theorem g15_ast_1 {z v : Int} (F : Fx E κ cc own n dd) (hz : 0 ≤ z ∧ z < 8) (hd : decode cc pc = .ok (.iastore, 1)) (k : G E (xw κ xa (setO X 15 (mA (X 15) 1 (uI (X 15 1) z v)))) lv (pc + 1) st) : G E (xw κ xa X) lv pc (.int (iI v) :: .int (iI z) :: .ref (xa 15 1) :: st) := g_ast F 74 x15_arr_1 hz (by decide) x15_set_1 hd k
theorem g16_get_0 (F : Fx E κ cc own n dd) {idx : Nat} (hli : Cond.fieldLink own idx "PatchesSameAge$Text" "letter" "[I" ∈ TG) (hd : decode cc pc = .ok (.getfield idx, 3)) (k : G E (xw κ xa X) lv (pc + 3) (.ref (xa 16 0) :: st)) : G E (xw κ xa X) lv pc (.ref (xa 16 100) :: st) := g_get F (C := RX3) (T := TX3) (N := 2) 75 rfl rfl i_X3 0 (by decide) hli rfl hd k
theorem g16_getN_0 (F : Fx E κ cc own n dd) {idx : Nat} {host : String} (hli : Cond.fieldLinkNest own idx "PatchesSameAge$Text" "letter" "[I" host ∈ NWl) (hd : decode cc pc = .ok (.getfield idx, 3)) (k : G E (xw κ xa X) lv (pc + 3) (.ref (xa 16 0) :: st)) : G E (xw κ xa X) lv pc (.ref (xa 16 100) :: st) := g_getN F (C := RX3) (T := TX3) (N := 2) 75 rfl rfl i_X3 0 (by decide) hli rfl hd k
theorem g16_get_1 (F : Fx E κ cc own n dd) {idx : Nat} (hli : Cond.fieldLink own idx "PatchesSameAge$Text" "length" "I" ∈ TG) (hd : decode cc pc = .ok (.getfield idx, 3)) (k : G E (xw κ xa X) lv (pc + 3) (.int (iI (X 16 1 0)) :: st)) : G E (xw κ xa X) lv pc (.ref (xa 16 100) :: st) := g_get F (C := RX3) (T := TX3) (N := 2) 75 rfl rfl i_X3 1 (by decide) hli rfl hd k
theorem x16_put_1 {z : Int} : (xw κ xa X).set 75 (xa 16 100, .inr (3, (tfv xa (X 16)).set 1 (.int (iI z)))) = xw κ xa (setO X 16 (mA (X 16) 1 (fun _ => z))) := rfl
theorem g16_put_1 {z : Int} (F : Fx E κ cc own n dd) {idx : Nat} (hli : Cond.fieldLink own idx "PatchesSameAge$Text" "length" "I" ∈ TG) (hd : decode cc pc = .ok (.putfield idx, 3)) (k : G E (xw κ xa (setO X 16 (mA (X 16) 1 (fun _ => z)))) lv (pc + 3) st) : G E (xw κ xa X) lv pc (.int (iI z) :: .ref (xa 16 100) :: st) := g_put F (C := RX3) (T := TX3) (N := 2) 75 rfl rfl i_X3 tyX3 tyX3_ok nmX3 1 (by decide) hli rfl rfl rfl (by show 1 < 2; decide) x16_put_1 hd k
theorem g16_getN_1 (F : Fx E κ cc own n dd) {idx : Nat} {host : String} (hli : Cond.fieldLinkNest own idx "PatchesSameAge$Text" "length" "I" host ∈ NWl) (hd : decode cc pc = .ok (.getfield idx, 3)) (k : G E (xw κ xa X) lv (pc + 3) (.int (iI (X 16 1 0)) :: st)) : G E (xw κ xa X) lv pc (.ref (xa 16 100) :: st) := g_getN F (C := RX3) (T := TX3) (N := 2) 75 rfl rfl i_X3 1 (by decide) hli rfl hd k
theorem g16_putN_1 {z : Int} (F : Fx E κ cc own n dd) {idx : Nat} {host : String} (hli : Cond.fieldLinkNest own idx "PatchesSameAge$Text" "length" "I" host ∈ NWl) (hd : decode cc pc = .ok (.putfield idx, 3)) (k : G E (xw κ xa (setO X 16 (mA (X 16) 1 (fun _ => z)))) lv (pc + 3) st) : G E (xw κ xa X) lv pc (.int (iI z) :: .ref (xa 16 100) :: st) := g_putN F (C := RX3) (T := TX3) (N := 2) 75 rfl rfl i_X3 tyX3 tyX3_ok nmX3 1 (by decide) hli rfl rfl rfl (by show 1 < 2; decide) x16_put_1 hd k
theorem x16_arr_0 : (xw κ xa X)[76]? = some (xa 16 0, .inl (κ.2.1, 96, .inl (fun j : Nat => iI (X 16 0 (j : Int))))) := rfl
theorem x16_set_0 {f : Int → Int} : (xw κ xa X).set 76 (xa 16 0, .inl (κ.2.1, 96, .inl (fun j : Nat => iI (f (j : Int))))) = xw κ xa (setO X 16 (mA (X 16) 0 f)) := rfl
theorem g16_ald_0 {z : Int} (F : Fx E κ cc own n dd) (hz : 0 ≤ z ∧ z < 96) (hd : decode cc pc = .ok (.iaload, 1)) (k : G E (xw κ xa X) lv (pc + 1) (.int (iI (X 16 0 z)) :: st)) : G E (xw κ xa X) lv pc (.int (iI z) :: .ref (xa 16 0) :: st) := g_ald F 76 x16_arr_0 hz (by decide) hd k
theorem g16_ast_0 {z v : Int} (F : Fx E κ cc own n dd) (hz : 0 ≤ z ∧ z < 96) (hd : decode cc pc = .ok (.iastore, 1)) (k : G E (xw κ xa (setO X 16 (mA (X 16) 0 (uI (X 16 0) z v)))) lv (pc + 1) st) : G E (xw κ xa X) lv pc (.int (iI v) :: .int (iI z) :: .ref (xa 16 0) :: st) := g_ast F 76 x16_arr_0 hz (by decide) x16_set_0 hd k
theorem g17_get_0 (F : Fx E κ cc own n dd) {idx : Nat} (hli : Cond.fieldLink own idx "PatchesSameAge$Ways" "piece" "[I" ∈ TG) (hd : decode cc pc = .ok (.getfield idx, 3)) (k : G E (xw κ xa X) lv (pc + 3) (.ref (xa 17 0) :: st)) : G E (xw κ xa X) lv pc (.ref (xa 17 100) :: st) := g_get F (C := RX4) (T := TX4) (N := 4) 77 rfl rfl i_X4 0 (by decide) hli rfl hd k
theorem g17_getN_0 (F : Fx E κ cc own n dd) {idx : Nat} {host : String} (hli : Cond.fieldLinkNest own idx "PatchesSameAge$Ways" "piece" "[I" host ∈ NWl) (hd : decode cc pc = .ok (.getfield idx, 3)) (k : G E (xw κ xa X) lv (pc + 3) (.ref (xa 17 0) :: st)) : G E (xw κ xa X) lv pc (.ref (xa 17 100) :: st) := g_getN F (C := RX4) (T := TX4) (N := 4) 77 rfl rfl i_X4 0 (by decide) hli rfl hd k
theorem g17_get_1 (F : Fx E κ cc own n dd) {idx : Nat} (hli : Cond.fieldLink own idx "PatchesSameAge$Ways" "at" "[I" ∈ TG) (hd : decode cc pc = .ok (.getfield idx, 3)) (k : G E (xw κ xa X) lv (pc + 3) (.ref (xa 17 1) :: st)) : G E (xw κ xa X) lv pc (.ref (xa 17 100) :: st) := g_get F (C := RX4) (T := TX4) (N := 4) 77 rfl rfl i_X4 1 (by decide) hli rfl hd k
theorem g17_getN_1 (F : Fx E κ cc own n dd) {idx : Nat} {host : String} (hli : Cond.fieldLinkNest own idx "PatchesSameAge$Ways" "at" "[I" host ∈ NWl) (hd : decode cc pc = .ok (.getfield idx, 3)) (k : G E (xw κ xa X) lv (pc + 3) (.ref (xa 17 1) :: st)) : G E (xw κ xa X) lv pc (.ref (xa 17 100) :: st) := g_getN F (C := RX4) (T := TX4) (N := 4) 77 rfl rfl i_X4 1 (by decide) hli rfl hd k
theorem g17_get_2 (F : Fx E κ cc own n dd) {idx : Nat} (hli : Cond.fieldLink own idx "PatchesSameAge$Ways" "pull" "[I" ∈ TG) (hd : decode cc pc = .ok (.getfield idx, 3)) (k : G E (xw κ xa X) lv (pc + 3) (.ref (xa 17 2) :: st)) : G E (xw κ xa X) lv pc (.ref (xa 17 100) :: st) := g_get F (C := RX4) (T := TX4) (N := 4) 77 rfl rfl i_X4 2 (by decide) hli rfl hd k
theorem g17_getN_2 (F : Fx E κ cc own n dd) {idx : Nat} {host : String} (hli : Cond.fieldLinkNest own idx "PatchesSameAge$Ways" "pull" "[I" host ∈ NWl) (hd : decode cc pc = .ok (.getfield idx, 3)) (k : G E (xw κ xa X) lv (pc + 3) (.ref (xa 17 2) :: st)) : G E (xw κ xa X) lv pc (.ref (xa 17 100) :: st) := g_getN F (C := RX4) (T := TX4) (N := 4) 77 rfl rfl i_X4 2 (by decide) hli rfl hd k
theorem g17_get_3 (F : Fx E κ cc own n dd) {idx : Nat} (hli : Cond.fieldLink own idx "PatchesSameAge$Ways" "size" "I" ∈ TG) (hd : decode cc pc = .ok (.getfield idx, 3)) (k : G E (xw κ xa X) lv (pc + 3) (.int (iI (X 17 3 0)) :: st)) : G E (xw κ xa X) lv pc (.ref (xa 17 100) :: st) := g_get F (C := RX4) (T := TX4) (N := 4) 77 rfl rfl i_X4 3 (by decide) hli rfl hd k
theorem x17_put_3 {z : Int} : (xw κ xa X).set 77 (xa 17 100, .inr (4, (wfv xa (X 17)).set 3 (.int (iI z)))) = xw κ xa (setO X 17 (mA (X 17) 3 (fun _ => z))) := rfl
theorem g17_put_3 {z : Int} (F : Fx E κ cc own n dd) {idx : Nat} (hli : Cond.fieldLink own idx "PatchesSameAge$Ways" "size" "I" ∈ TG) (hd : decode cc pc = .ok (.putfield idx, 3)) (k : G E (xw κ xa (setO X 17 (mA (X 17) 3 (fun _ => z)))) lv (pc + 3) st) : G E (xw κ xa X) lv pc (.int (iI z) :: .ref (xa 17 100) :: st) := g_put F (C := RX4) (T := TX4) (N := 4) 77 rfl rfl i_X4 tyX4 tyX4_ok nmX4 3 (by decide) hli rfl rfl rfl (by show 3 < 4; decide) x17_put_3 hd k
theorem g17_getN_3 (F : Fx E κ cc own n dd) {idx : Nat} {host : String} (hli : Cond.fieldLinkNest own idx "PatchesSameAge$Ways" "size" "I" host ∈ NWl) (hd : decode cc pc = .ok (.getfield idx, 3)) (k : G E (xw κ xa X) lv (pc + 3) (.int (iI (X 17 3 0)) :: st)) : G E (xw κ xa X) lv pc (.ref (xa 17 100) :: st) := g_getN F (C := RX4) (T := TX4) (N := 4) 77 rfl rfl i_X4 3 (by decide) hli rfl hd k
theorem g17_putN_3 {z : Int} (F : Fx E κ cc own n dd) {idx : Nat} {host : String} (hli : Cond.fieldLinkNest own idx "PatchesSameAge$Ways" "size" "I" host ∈ NWl) (hd : decode cc pc = .ok (.putfield idx, 3)) (k : G E (xw κ xa (setO X 17 (mA (X 17) 3 (fun _ => z)))) lv (pc + 3) st) : G E (xw κ xa X) lv pc (.int (iI z) :: .ref (xa 17 100) :: st) := g_putN F (C := RX4) (T := TX4) (N := 4) 77 rfl rfl i_X4 tyX4 tyX4_ok nmX4 3 (by decide) hli rfl rfl rfl (by show 3 < 4; decide) x17_put_3 hd k
theorem x17_arr_0 : (xw κ xa X)[78]? = some (xa 17 0, .inl (κ.2.1, 3, .inl (fun j : Nat => iI (X 17 0 (j : Int))))) := rfl
theorem x17_set_0 {f : Int → Int} : (xw κ xa X).set 78 (xa 17 0, .inl (κ.2.1, 3, .inl (fun j : Nat => iI (f (j : Int))))) = xw κ xa (setO X 17 (mA (X 17) 0 f)) := rfl
theorem g17_ald_0 {z : Int} (F : Fx E κ cc own n dd) (hz : 0 ≤ z ∧ z < 3) (hd : decode cc pc = .ok (.iaload, 1)) (k : G E (xw κ xa X) lv (pc + 1) (.int (iI (X 17 0 z)) :: st)) : G E (xw κ xa X) lv pc (.int (iI z) :: .ref (xa 17 0) :: st) := g_ald F 78 x17_arr_0 hz (by decide) hd k
theorem g17_ast_0 {z v : Int} (F : Fx E κ cc own n dd) (hz : 0 ≤ z ∧ z < 3) (hd : decode cc pc = .ok (.iastore, 1)) (k : G E (xw κ xa (setO X 17 (mA (X 17) 0 (uI (X 17 0) z v)))) lv (pc + 1) st) : G E (xw κ xa X) lv pc (.int (iI v) :: .int (iI z) :: .ref (xa 17 0) :: st) := g_ast F 78 x17_arr_0 hz (by decide) x17_set_0 hd k
theorem x17_arr_1 : (xw κ xa X)[79]? = some (xa 17 1, .inl (κ.2.1, 3, .inl (fun j : Nat => iI (X 17 1 (j : Int))))) := rfl
theorem x17_set_1 {f : Int → Int} : (xw κ xa X).set 79 (xa 17 1, .inl (κ.2.1, 3, .inl (fun j : Nat => iI (f (j : Int))))) = xw κ xa (setO X 17 (mA (X 17) 1 f)) := rfl
theorem g17_ald_1 {z : Int} (F : Fx E κ cc own n dd) (hz : 0 ≤ z ∧ z < 3) (hd : decode cc pc = .ok (.iaload, 1)) (k : G E (xw κ xa X) lv (pc + 1) (.int (iI (X 17 1 z)) :: st)) : G E (xw κ xa X) lv pc (.int (iI z) :: .ref (xa 17 1) :: st) := g_ald F 79 x17_arr_1 hz (by decide) hd k
theorem g17_ast_1 {z v : Int} (F : Fx E κ cc own n dd) (hz : 0 ≤ z ∧ z < 3) (hd : decode cc pc = .ok (.iastore, 1)) (k : G E (xw κ xa (setO X 17 (mA (X 17) 1 (uI (X 17 1) z v)))) lv (pc + 1) st) : G E (xw κ xa X) lv pc (.int (iI v) :: .int (iI z) :: .ref (xa 17 1) :: st) := g_ast F 79 x17_arr_1 hz (by decide) x17_set_1 hd k
theorem x17_arr_2 : (xw κ xa X)[80]? = some (xa 17 2, .inl (κ.2.1, 1728, .inl (fun j : Nat => iI (X 17 2 (j : Int))))) := rfl
theorem x17_set_2 {f : Int → Int} : (xw κ xa X).set 80 (xa 17 2, .inl (κ.2.1, 1728, .inl (fun j : Nat => iI (f (j : Int))))) = xw κ xa (setO X 17 (mA (X 17) 2 f)) := rfl
theorem g17_ald_2 {z : Int} (F : Fx E κ cc own n dd) (hz : 0 ≤ z ∧ z < 1728) (hd : decode cc pc = .ok (.iaload, 1)) (k : G E (xw κ xa X) lv (pc + 1) (.int (iI (X 17 2 z)) :: st)) : G E (xw κ xa X) lv pc (.int (iI z) :: .ref (xa 17 2) :: st) := g_ald F 80 x17_arr_2 hz (by decide) hd k
theorem g17_ast_2 {z v : Int} (F : Fx E κ cc own n dd) (hz : 0 ≤ z ∧ z < 1728) (hd : decode cc pc = .ok (.iastore, 1)) (k : G E (xw κ xa (setO X 17 (mA (X 17) 2 (uI (X 17 2) z v)))) lv (pc + 1) st) : G E (xw κ xa X) lv pc (.int (iI v) :: .int (iI z) :: .ref (xa 17 2) :: st) := g_ast F 80 x17_arr_2 hz (by decide) x17_set_2 hd k
theorem g18_get_0 (F : Fx E κ cc own n dd) {idx : Nat} (hli : Cond.fieldLink own idx "PatchesSameAge" "now" "LPatchesSameAge$Cloth;" ∈ TG) (hd : decode cc pc = .ok (.getfield idx, 3)) (k : G E (xw κ xa X) lv (pc + 3) (.ref (xa 0 100) :: st)) : G E (xw κ xa X) lv pc (.ref (xa 18 100) :: st) := g_get F (C := RX5) (T := TX5) (N := 15) 81 rfl rfl i_X5 0 (by decide) hli rfl hd k
theorem g18_get_1 (F : Fx E κ cc own n dd) {idx : Nat} (hli : Cond.fieldLink own idx "PatchesSameAge" "roll" "LPatchesSameAge$Roll;" ∈ TG) (hd : decode cc pc = .ok (.getfield idx, 3)) (k : G E (xw κ xa X) lv (pc + 3) (.ref (xa 12 100) :: st)) : G E (xw κ xa X) lv pc (.ref (xa 18 100) :: st) := g_get F (C := RX5) (T := TX5) (N := 15) 81 rfl rfl i_X5 1 (by decide) hli rfl hd k
theorem g18_get_2 (F : Fx E κ cc own n dd) {idx : Nat} (hli : Cond.fieldLink own idx "PatchesSameAge" "past" "LPatchesSameAge$Past;" ∈ TG) (hd : decode cc pc = .ok (.getfield idx, 3)) (k : G E (xw κ xa X) lv (pc + 3) (.ref (xa 15 100) :: st)) : G E (xw κ xa X) lv pc (.ref (xa 18 100) :: st) := g_get F (C := RX5) (T := TX5) (N := 15) 81 rfl rfl i_X5 2 (by decide) hli rfl hd k
theorem g18_get_3 (F : Fx E κ cc own n dd) {idx : Nat} (hli : Cond.fieldLink own idx "PatchesSameAge" "text" "LPatchesSameAge$Text;" ∈ TG) (hd : decode cc pc = .ok (.getfield idx, 3)) (k : G E (xw κ xa X) lv (pc + 3) (.ref (xa 16 100) :: st)) : G E (xw κ xa X) lv pc (.ref (xa 18 100) :: st) := g_get F (C := RX5) (T := TX5) (N := 15) 81 rfl rfl i_X5 3 (by decide) hli rfl hd k
theorem g18_get_4 (F : Fx E κ cc own n dd) {idx : Nat} (hli : Cond.fieldLink own idx "PatchesSameAge" "numbers" "[I" ∈ TG) (hd : decode cc pc = .ok (.getfield idx, 3)) (k : G E (xw κ xa X) lv (pc + 3) (.ref (xa 18 4) :: st)) : G E (xw κ xa X) lv pc (.ref (xa 18 100) :: st) := g_get F (C := RX5) (T := TX5) (N := 15) 81 rfl rfl i_X5 4 (by decide) hli rfl hd k
theorem g18_get_5 (F : Fx E κ cc own n dd) {idx : Nat} (hli : Cond.fieldLink own idx "PatchesSameAge" "numberCount" "I" ∈ TG) (hd : decode cc pc = .ok (.getfield idx, 3)) (k : G E (xw κ xa X) lv (pc + 3) (.int (iI (X 18 5 0)) :: st)) : G E (xw κ xa X) lv pc (.ref (xa 18 100) :: st) := g_get F (C := RX5) (T := TX5) (N := 15) 81 rfl rfl i_X5 5 (by decide) hli rfl hd k
theorem x18_put_5 {z : Int} : (xw κ xa X).set 81 (xa 18 100, .inr (5, (mfv xa (X 18)).set 5 (.int (iI z)))) = xw κ xa (setO X 18 (mA (X 18) 5 (fun _ => z))) := rfl
theorem g18_put_5 {z : Int} (F : Fx E κ cc own n dd) {idx : Nat} (hli : Cond.fieldLink own idx "PatchesSameAge" "numberCount" "I" ∈ TG) (hd : decode cc pc = .ok (.putfield idx, 3)) (k : G E (xw κ xa (setO X 18 (mA (X 18) 5 (fun _ => z)))) lv (pc + 3) st) : G E (xw κ xa X) lv pc (.int (iI z) :: .ref (xa 18 100) :: st) := g_put F (C := RX5) (T := TX5) (N := 15) 81 rfl rfl i_X5 tyX5 tyX5_ok nmX5 5 (by decide) hli rfl rfl rfl (by show 5 < 15; decide) x18_put_5 hd k
theorem g18_get_6 (F : Fx E κ cc own n dd) {idx : Nat} (hli : Cond.fieldLink own idx "PatchesSameAge" "refused" "[I" ∈ TG) (hd : decode cc pc = .ok (.getfield idx, 3)) (k : G E (xw κ xa X) lv (pc + 3) (.ref (xa 18 6) :: st)) : G E (xw κ xa X) lv pc (.ref (xa 18 100) :: st) := g_get F (C := RX5) (T := TX5) (N := 15) 81 rfl rfl i_X5 6 (by decide) hli rfl hd k
theorem g18_get_7 (F : Fx E κ cc own n dd) {idx : Nat} (hli : Cond.fieldLink own idx "PatchesSameAge" "imageCloth" "LPatchesSameAge$Cloth;" ∈ TG) (hd : decode cc pc = .ok (.getfield idx, 3)) (k : G E (xw κ xa X) lv (pc + 3) (.ref (xa 1 100) :: st)) : G E (xw κ xa X) lv pc (.ref (xa 18 100) :: st) := g_get F (C := RX5) (T := TX5) (N := 15) 81 rfl rfl i_X5 7 (by decide) hli rfl hd k
theorem g18_get_8 (F : Fx E κ cc own n dd) {idx : Nat} (hli : Cond.fieldLink own idx "PatchesSameAge" "imageRoll" "LPatchesSameAge$Roll;" ∈ TG) (hd : decode cc pc = .ok (.getfield idx, 3)) (k : G E (xw κ xa X) lv (pc + 3) (.ref (xa 13 100) :: st)) : G E (xw κ xa X) lv pc (.ref (xa 18 100) :: st) := g_get F (C := RX5) (T := TX5) (N := 15) 81 rfl rfl i_X5 8 (by decide) hli rfl hd k
theorem g18_get_9 (F : Fx E κ cc own n dd) {idx : Nat} (hli : Cond.fieldLink own idx "PatchesSameAge" "imageTaken" "Z" ∈ TG) (hd : decode cc pc = .ok (.getfield idx, 3)) (k : G E (xw κ xa X) lv (pc + 3) (.int (iI (X 18 9 0)) :: st)) : G E (xw κ xa X) lv pc (.ref (xa 18 100) :: st) := g_get F (C := RX5) (T := TX5) (N := 15) 81 rfl rfl i_X5 9 (by decide) hli rfl hd k
theorem x18_put_9 {z : Int} : (xw κ xa X).set 81 (xa 18 100, .inr (5, (mfv xa (X 18)).set 9 (.int (iI z)))) = xw κ xa (setO X 18 (mA (X 18) 9 (fun _ => z))) := rfl
theorem g18_put_9 {z : Int} (F : Fx E κ cc own n dd) (hz : z = 0 ∨ z = 1) {idx : Nat} (hli : Cond.fieldLink own idx "PatchesSameAge" "imageTaken" "Z" ∈ TG) (hd : decode cc pc = .ok (.putfield idx, 3)) (k : G E (xw κ xa (setO X 18 (mA (X 18) 9 (fun _ => z)))) lv (pc + 3) st) : G E (xw κ xa X) lv pc (.int (iI z) :: .ref (xa 18 100) :: st) := g_put F (C := RX5) (T := TX5) (N := 15) 81 rfl rfl i_X5 tyX5 tyX5_ok nmX5 9 (by decide) hli rfl (by rcases hz with rfl | rfl <;> decide +kernel) (by rcases hz with rfl | rfl <;> decide +kernel) (by show 9 < 15; decide) x18_put_9 hd k
theorem g18_get_10 (F : Fx E κ cc own n dd) {idx : Nat} (hli : Cond.fieldLink own idx "PatchesSameAge" "mind" "LPatchesSameAge$Cloth;" ∈ TG) (hd : decode cc pc = .ok (.getfield idx, 3)) (k : G E (xw κ xa X) lv (pc + 3) (.ref (xa 2 100) :: st)) : G E (xw κ xa X) lv pc (.ref (xa 18 100) :: st) := g_get F (C := RX5) (T := TX5) (N := 15) 81 rfl rfl i_X5 10 (by decide) hli rfl hd k
theorem g18_get_11 (F : Fx E κ cc own n dd) {idx : Nat} (hli : Cond.fieldLink own idx "PatchesSameAge" "later" "LPatchesSameAge$Cloth;" ∈ TG) (hd : decode cc pc = .ok (.getfield idx, 3)) (k : G E (xw κ xa X) lv (pc + 3) (.ref (xa 3 100) :: st)) : G E (xw κ xa X) lv pc (.ref (xa 18 100) :: st) := g_get F (C := RX5) (T := TX5) (N := 15) 81 rfl rfl i_X5 11 (by decide) hli rfl hd k
theorem g18_get_12 (F : Fx E κ cc own n dd) {idx : Nat} (hli : Cond.fieldLink own idx "PatchesSameAge" "mindRoll" "LPatchesSameAge$Roll;" ∈ TG) (hd : decode cc pc = .ok (.getfield idx, 3)) (k : G E (xw κ xa X) lv (pc + 3) (.ref (xa 14 100) :: st)) : G E (xw κ xa X) lv pc (.ref (xa 18 100) :: st) := g_get F (C := RX5) (T := TX5) (N := 15) 81 rfl rfl i_X5 12 (by decide) hli rfl hd k
theorem g18_get_13 (F : Fx E κ cc own n dd) {idx : Nat} (hli : Cond.fieldLink own idx "PatchesSameAge" "ways" "LPatchesSameAge$Ways;" ∈ TG) (hd : decode cc pc = .ok (.getfield idx, 3)) (k : G E (xw κ xa X) lv (pc + 3) (.ref (xa 17 100) :: st)) : G E (xw κ xa X) lv pc (.ref (xa 18 100) :: st) := g_get F (C := RX5) (T := TX5) (N := 15) 81 rfl rfl i_X5 13 (by decide) hli rfl hd k
theorem g18_get_14 (F : Fx E κ cc own n dd) {idx : Nat} (hli : Cond.fieldLink own idx "PatchesSameAge" "list" "[I" ∈ TG) (hd : decode cc pc = .ok (.getfield idx, 3)) (k : G E (xw κ xa X) lv (pc + 3) (.ref (xa 18 14) :: st)) : G E (xw κ xa X) lv pc (.ref (xa 18 100) :: st) := g_get F (C := RX5) (T := TX5) (N := 15) 81 rfl rfl i_X5 14 (by decide) hli rfl hd k
theorem x18_arr_4 : (xw κ xa X)[82]? = some (xa 18 4, .inl (κ.2.1, 12, .inl (fun j : Nat => iI (X 18 4 (j : Int))))) := rfl
theorem x18_set_4 {f : Int → Int} : (xw κ xa X).set 82 (xa 18 4, .inl (κ.2.1, 12, .inl (fun j : Nat => iI (f (j : Int))))) = xw κ xa (setO X 18 (mA (X 18) 4 f)) := rfl
theorem g18_ald_4 {z : Int} (F : Fx E κ cc own n dd) (hz : 0 ≤ z ∧ z < 12) (hd : decode cc pc = .ok (.iaload, 1)) (k : G E (xw κ xa X) lv (pc + 1) (.int (iI (X 18 4 z)) :: st)) : G E (xw κ xa X) lv pc (.int (iI z) :: .ref (xa 18 4) :: st) := g_ald F 82 x18_arr_4 hz (by decide) hd k
theorem g18_ast_4 {z v : Int} (F : Fx E κ cc own n dd) (hz : 0 ≤ z ∧ z < 12) (hd : decode cc pc = .ok (.iastore, 1)) (k : G E (xw κ xa (setO X 18 (mA (X 18) 4 (uI (X 18 4) z v)))) lv (pc + 1) st) : G E (xw κ xa X) lv pc (.int (iI v) :: .int (iI z) :: .ref (xa 18 4) :: st) := g_ast F 82 x18_arr_4 hz (by decide) x18_set_4 hd k
theorem x18_arr_6 : (xw κ xa X)[83]? = some (xa 18 6, .inl (κ.2.1, 7, .inl (fun j : Nat => iI (X 18 6 (j : Int))))) := rfl
theorem x18_set_6 {f : Int → Int} : (xw κ xa X).set 83 (xa 18 6, .inl (κ.2.1, 7, .inl (fun j : Nat => iI (f (j : Int))))) = xw κ xa (setO X 18 (mA (X 18) 6 f)) := rfl
theorem g18_ald_6 {z : Int} (F : Fx E κ cc own n dd) (hz : 0 ≤ z ∧ z < 7) (hd : decode cc pc = .ok (.iaload, 1)) (k : G E (xw κ xa X) lv (pc + 1) (.int (iI (X 18 6 z)) :: st)) : G E (xw κ xa X) lv pc (.int (iI z) :: .ref (xa 18 6) :: st) := g_ald F 83 x18_arr_6 hz (by decide) hd k
theorem g18_ast_6 {z v : Int} (F : Fx E κ cc own n dd) (hz : 0 ≤ z ∧ z < 7) (hd : decode cc pc = .ok (.iastore, 1)) (k : G E (xw κ xa (setO X 18 (mA (X 18) 6 (uI (X 18 6) z v)))) lv (pc + 1) st) : G E (xw κ xa X) lv pc (.int (iI v) :: .int (iI z) :: .ref (xa 18 6) :: st) := g_ast F 83 x18_arr_6 hz (by decide) x18_set_6 hd k
theorem x18_arr_14 : (xw κ xa X)[84]? = some (xa 18 14, .inl (κ.2.1, 12, .inl (fun j : Nat => iI (X 18 14 (j : Int))))) := rfl
theorem x18_set_14 {f : Int → Int} : (xw κ xa X).set 84 (xa 18 14, .inl (κ.2.1, 12, .inl (fun j : Nat => iI (f (j : Int))))) = xw κ xa (setO X 18 (mA (X 18) 14 f)) := rfl
theorem g18_ald_14 {z : Int} (F : Fx E κ cc own n dd) (hz : 0 ≤ z ∧ z < 12) (hd : decode cc pc = .ok (.iaload, 1)) (k : G E (xw κ xa X) lv (pc + 1) (.int (iI (X 18 14 z)) :: st)) : G E (xw κ xa X) lv pc (.int (iI z) :: .ref (xa 18 14) :: st) := g_ald F 84 x18_arr_14 hz (by decide) hd k
theorem g18_ast_14 {z v : Int} (F : Fx E κ cc own n dd) (hz : 0 ≤ z ∧ z < 12) (hd : decode cc pc = .ok (.iastore, 1)) (k : G E (xw κ xa (setO X 18 (mA (X 18) 14 (uI (X 18 14) z v)))) lv (pc + 1) st) : G E (xw κ xa X) lv pc (.int (iI v) :: .int (iI z) :: .ref (xa 18 14) :: st) := g_ast F 84 x18_arr_14 hz (by decide) x18_set_14 hd k
end
end
section
/-! shared by both sides -/
def pcN (n : Nat) : Nat := (List.range 12).foldl (fun a k => a + n / 2 ^ k % 2) 0
/-- how many bits, below 4096 -/
def pcnt (z : Int) : Int := (pcN z.toNat : Int)
theorem pcN_step2 : ∀ a : Nat, a < 64 → ∀ b : Nat, b < 64 → 0 < 64 * a + b → ((64 * a + b) &&& ((64 * a + b) - 1)) < (64 * a + b) ∧ pcN (64 * a + b) = pcN ((64 * a + b) &&& ((64 * a + b) - 1)) + 1 := by decide +kernel
theorem pcN_step (n : Nat) (h : n < 4096) (h0 : 0 < n) : (n &&& (n - 1)) < n ∧ pcN n = pcN (n &&& (n - 1)) + 1 := by
  have e : 64 * (n / 64) + n % 64 = n := by omega
  have k := pcN_step2 (n / 64) (by omega) (n % 64) (by omega) (by omega)
  rw [e] at k
  exact k
theorem pcnt_step {z : Int} (h0 : 0 < z) (h1 : z < 4096) : 0 ≤ band z (z - 1) ∧ band z (z - 1) < z ∧ pcnt z = pcnt (band z (z - 1)) + 1 := by
  have h := pcN_step z.toNat (by omega) (by omega)
  unfold band pcnt
  rw [show (z - 1).toNat = z.toNat - 1 by omega, Int.toNat_natCast]
  omega
theorem pcnt_0 : pcnt 0 = 0 := by decide +kernel
/-- how long a cell lasts: after n years looked at (61: none yet) -/
def lsN (C : Cl) : Nat → Int → Int
  | 0, _ => 61
  | n + 1, c => if hole (goY n C) c ∧ lsN C n c = 61 then (n : Int) else lsN C n c
def lsI (C : Cl) (n : Int) (c : Int) : Int := lsN C n.toNat c
theorem lsI_s (C : Cl) {n : Int} (h : 0 ≤ n) (c : Int) : lsI C (n + 1) c = if hole (goI n C) c ∧ lsI C n c = 61 then n else lsI C n c := by
  unfold lsI goI
  rw [show (n + 1).toNat = n.toNat + 1 by omega]
  show (if hole (goY n.toNat C) c ∧ lsN C n.toNat c = 61 then ((n.toNat : Nat) : Int) else lsN C n.toNat c) = _
  rw [Int.toNat_of_nonneg h]
theorem lsI_bd (C : Cl) {n : Int} (h : 0 ≤ n) (h2 : n ≤ 61) (c : Int) : 0 ≤ lsI C n c ∧ lsI C n c ≤ 61 := by
  obtain ⟨k, rfl⟩ : ∃ k : Nat, n = (k : Int) := ⟨n.toNat, by omega⟩
  induction k with
  | zero => exact ⟨by show (0 : Int) ≤ 61; decide, by show (61 : Int) ≤ 61; decide⟩
  | succ k ih =>
    have e : ((k + 1 : Nat) : Int) = (k : Int) + 1 := by omega
    have := ih (by omega) (by omega)
    rw [e, lsI_s C (by omega)]
    split <;> omega
def lasts (C : Cl) : Int → Int := lsI C 61
theorem lasts_bd (C : Cl) (c : Int) : 0 ≤ lasts C c ∧ lasts C c ≤ 61 := lsI_bd C (by decide) (by decide) c
theorem upTo_upTo (f g h : Int → Int) (n : Int) : upTo (upTo f g n) h n = upTo f h n := by
  funext j
  unfold upTo
  by_cases k : 0 ≤ j ∧ j < n
  · rw [if_pos k, if_pos k]
  · rw [if_neg k, if_neg k, if_neg k]
/-- the first place of the least, of the most -/
def amN (f : Int → Int) : Nat → Int
  | 0 => 0
  | n + 1 => if f (n : Int) < f (amN f n) then (n : Int) else amN f n
def amin (f : Int → Int) (n : Int) : Int := amN f n.toNat
theorem amin_1 (f : Int → Int) : amin f 1 = 0 := by
  show (if f ((0 : Nat) : Int) < f 0 then ((0 : Nat) : Int) else 0) = 0
  split <;> rfl
theorem amin_s (f : Int → Int) {n : Int} (h : 0 ≤ n) : amin f (n + 1) = if f n < f (amin f n) then n else amin f n := by
  unfold amin
  rw [show (n + 1).toNat = n.toNat + 1 by omega]
  show (if f ((n.toNat : Nat) : Int) < f (amN f n.toNat) then ((n.toNat : Nat) : Int) else amN f n.toNat) = _
  rw [Int.toNat_of_nonneg h]
theorem amin_in (f : Int → Int) {n : Int} (h : 1 ≤ n) : 0 ≤ amin f n ∧ amin f n < n := by
  obtain ⟨k, rfl⟩ : ∃ k : Nat, n = (k : Int) + 1 := ⟨(n - 1).toNat, by omega⟩
  induction k with
  | zero => rw [show ((0 : Nat) : Int) + 1 = 1 by rfl, amin_1]; omega
  | succ k ih =>
    have := ih (by omega)
    rw [show ((k + 1 : Nat) : Int) + 1 = ((k : Int) + 1) + 1 by omega, amin_s f (by omega)]
    split <;> omega
def amax (f : Int → Int) (n : Int) : Int := amin (fun j => -(f j)) n
def fbf (u : Int → Int) (p : Int) : Int := if u p = 0 then p2 p else 0
def fbits (u : Int → Int) (n : Int) : Int := sumI (fbf u) n
theorem fbits_bd (u : Int → Int) {n : Int} (h : 0 ≤ n) : 0 ≤ fbits u n ∧ fbits u n < p2 n := by
  obtain ⟨k, rfl⟩ : ∃ k : Nat, n = (k : Int) := ⟨n.toNat, by omega⟩
  induction k with
  | zero => exact ⟨by show (0 : Int) ≤ 0; decide, by show (0 : Int) < 1; decide⟩
  | succ k ih =>
    have e : ((k + 1 : Nat) : Int) = (k : Int) + 1 := by omega
    have h1 := ih (by omega)
    have hp := p2_pos (k : Int)
    rw [e, fbits, sumI_s _ (by omega), p2_s (by omega)]
    unfold fbits at h1
    by_cases hh : u (k : Int) = 0
    · have e2 : fbf u (k : Int) = p2 (k : Int) := if_pos hh
      omega
    · have e2 : fbf u (k : Int) = 0 := if_neg hh
      omega
def fr1 (u : Int → Int) (p : Int) : Int := if u p = 0 then 1 else 0
def frc (u : Int → Int) (n : Int) : Int := sumI (fr1 u) n
theorem frc_bd (u : Int → Int) {n : Int} (h : 0 ≤ n) : 0 ≤ frc u n ∧ frc u n ≤ n := by
  have := sumI_bd (f := fr1 u) (lo := 0) (hi := 1) h (fun j _ _ => by unfold fr1; split <;> omega)
  unfold frc
  omega
theorem frc_s (u : Int → Int) {n : Int} (h : 0 ≤ n) : frc u (n + 1) = frc u n + fr1 u n := sumI_s _ h
/-- the places of the free ones, laid into an array -/
def flN (f : Int → Int) (u : Int → Int) : Nat → Int → Int
  | 0 => f
  | n + 1 => if u (n : Int) = 0 then uI (flN f u n) (frc u (n : Int)) (n : Int) else flN f u n
def flA (f u : Int → Int) (n : Int) : Int → Int := flN f u n.toNat
theorem flA_s (f u : Int → Int) {n : Int} (h : 0 ≤ n) : flA f u (n + 1) = if u n = 0 then uI (flA f u n) (frc u n) n else flA f u n := by
  unfold flA
  rw [show (n + 1).toNat = n.toNat + 1 by omega]
  show (if u ((n.toNat : Nat) : Int) = 0 then uI (flN f u n.toNat) (frc u ((n.toNat : Nat) : Int)) ((n.toNat : Nat) : Int) else flN f u n.toNat) = _
  rw [Int.toNat_of_nonneg h]
/-- a row that tells wear -/
def rowB (C : Cl) (r : Int → Int) (c : Int) : Nat → Bool
  | 0 => true
  | n + 1 => rowB C r c n && decide (we (goY n C) c = r (n : Int))
abbrev rowI (C : Cl) (r : Int → Int) (c n : Int) : Prop := rowB C r c n.toNat = true
theorem rowI_s (C : Cl) (r : Int → Int) (c : Int) {n : Int} (h : 0 ≤ n) : rowI C r c (n + 1) ↔ rowI C r c n ∧ we (goI n C) c = r n := by
  unfold rowI goI
  rw [show (n + 1).toNat = n.toNat + 1 by omega]
  show (rowB C r c n.toNat && decide (we (goY n.toNat C) c = r ((n.toNat : Nat) : Int))) = true ↔ _
  rw [Int.toNat_of_nonneg h, Bool.and_eq_true, decide_eq_true_eq]
theorem rowI_0 (C : Cl) (r : Int → Int) (c : Int) : rowI C r c 0 := rfl
theorem rowI_out (C : Cl) (r : Int → Int) (c : Int) {k n : Int} (h0 : 0 ≤ k) (h : k ≤ n) (no : ¬ rowI C r c k) : ¬ rowI C r c n := by
  obtain ⟨d, rfl⟩ : ∃ d : Nat, n = k + (d : Int) := ⟨(n - k).toNat, by omega⟩
  induction d with
  | zero => rw [show k + ((0 : Nat) : Int) = k by omega]; exact no
  | succ d ih =>
    have e : k + ((d + 1 : Nat) : Int) = (k + (d : Int)) + 1 := by omega
    rw [e, rowI_s C r c (by omega)]
    exact fun q => ih (by omega) q.1
/-- swaps, draws, fractions -/
def swf (f : Int → Int) (a b : Int) : Int → Int := uI (uI f a (f b)) b (f a)
def swC (C : Cl) (a b : Int) : Cl := (swf (ki C) a b, swf (fi C) a b, swf (ag C) a b, swf (we C) a b, yr C)
def nxt (z : Int) : Int := z * 1103515245 + 12345
def drw (z n : Int) : Int := z % 2147483648 / 65536 % n
theorem iI_and31 (z : Int) : iI z &&& iI 2147483647 = iI (z % 2147483648) := by
  rw [pk_and (iI z) 31 (by decide +kernel), ← iI_nat]
  congr 1
  have e : (iI z).toBitVec.toNat = (z % 4294967296).toNat := by
    show (BitVec.ofInt 32 z).toNat = _
    rw [BitVec.toNat_ofInt]
    rfl
  rw [e]
  omega
def gcdI (a b : Int) : Int := ((Nat.gcd a.toNat b.toNat : Nat) : Int)
def prt (a b part : Int) : Int := if a = 0 then part else if part = 0 then a / gcdI a b else b / gcdI a b
theorem gcdI_0 {a : Int} (h : 0 ≤ a) : gcdI a 0 = a := by
  unfold gcdI
  rw [show (0 : Int).toNat = 0 by decide, Nat.gcd_zero_right]
  omega
theorem gcdI_step {a b : Int} (ha : 0 ≤ a) (hb : 0 < b) : gcdI b (a % b) = gcdI a b := by
  unfold gcdI
  have e : (a % b).toNat = a.toNat % b.toNat := by
    have := Int.natCast_emod a.toNat b.toNat
    rw [Int.toNat_of_nonneg ha, Int.toNat_of_nonneg (by omega)] at this
    omega
  rw [e, Nat.gcd_comm a.toNat b.toNat, Nat.gcd_rec b.toNat a.toNat, Nat.gcd_comm]
theorem gcdI_pos {a b : Int} (h : 0 < b) : 0 < gcdI a b := by
  unfold gcdI
  have := Nat.gcd_pos_of_pos_right a.toNat (show 0 < b.toNat by omega)
  omega
theorem gcdI_le {a b : Int} (h : 0 < b) : gcdI a b ≤ b := by
  unfold gcdI
  have := Nat.gcd_le_right a.toNat (show 0 < b.toNat by omega)
  omega
def rk1 (w : Int → Int) (c o : Int) : Int := if w c < w o ∨ (w o = w c ∧ o < c) then 1 else 0
def rnk (w : Int → Int) (c : Int) : Int := sumI (rk1 w c) 12
/-- how long a row of cells rises from one on: at place p, so long already -/
def rise (a : Int → Int) : Nat → Int → Int → Int
  | 0, _, l => l
  | k + 1, p, l => if p < 12 ∧ p % 4 ≠ 0 ∧ a (p - 1) ≤ a p then rise a k (p + 1) (l + 1) else l
def riseI (a : Int → Int) (p l : Int) : Int := rise a (13 - p).toNat p l
theorem riseI_s (a : Int → Int) {p l : Int} (h : p ≤ 12) : riseI a p l = if p < 12 ∧ p % 4 ≠ 0 ∧ a (p - 1) ≤ a p then riseI a (p + 1) (l + 1) else l := by
  unfold riseI
  rw [show (13 - p).toNat = (13 - (p + 1)).toNat + 1 by omega]
  rfl
def rising (a : Int → Int) (c : Int) : Int := riseI a (c + 1) 1
/-- the best so far: value, measure; strictly more, strictly less -/
def smxN (ok : Int → Bool) (f v : Int → Int) (s : Int × Int) : Nat → Int × Int
  | 0 => s
  | n + 1 => if ok (n : Int) = true ∧ (smxN ok f v s n).2 < f (n : Int) then (v (n : Int), f (n : Int)) else smxN ok f v s n
def smx (ok : Int → Bool) (f v : Int → Int) (s : Int × Int) (n : Int) : Int × Int := smxN ok f v s n.toNat
def smnN (ok : Int → Bool) (f v : Int → Int) (s : Int × Int) : Nat → Int × Int
  | 0 => s
  | n + 1 => if ok (n : Int) = true ∧ f (n : Int) < (smnN ok f v s n).2 then (v (n : Int), f (n : Int)) else smnN ok f v s n
def smn (ok : Int → Bool) (f v : Int → Int) (s : Int × Int) (n : Int) : Int × Int := smnN ok f v s n.toNat
theorem smx_s (ok : Int → Bool) (f v : Int → Int) (s : Int × Int) {n : Int} (h : 0 ≤ n) : smx ok f v s (n + 1) = if ok n = true ∧ (smx ok f v s n).2 < f n then (v n, f n) else smx ok f v s n := by
  unfold smx
  rw [show (n + 1).toNat = n.toNat + 1 by omega]
  show (if ok ((n.toNat : Nat) : Int) = true ∧ (smxN ok f v s n.toNat).2 < f ((n.toNat : Nat) : Int) then (v ((n.toNat : Nat) : Int), f ((n.toNat : Nat) : Int)) else smxN ok f v s n.toNat) = _
  rw [Int.toNat_of_nonneg h]
theorem smn_s (ok : Int → Bool) (f v : Int → Int) (s : Int × Int) {n : Int} (h : 0 ≤ n) : smn ok f v s (n + 1) = if ok n = true ∧ f n < (smn ok f v s n).2 then (v n, f n) else smn ok f v s n := by
  unfold smn
  rw [show (n + 1).toNat = n.toNat + 1 by omega]
  show (if ok ((n.toNat : Nat) : Int) = true ∧ f ((n.toNat : Nat) : Int) < (smnN ok f v s n.toNat).2 then (v ((n.toNat : Nat) : Int), f ((n.toNat : Nat) : Int)) else smnN ok f v s n.toNat) = _
  rw [Int.toNat_of_nonneg h]
theorem smx_0 (ok : Int → Bool) (f v : Int → Int) (b l : Int) : smx ok f v (b, l) 0 = (b, l) := rfl
theorem smn_0 (ok : Int → Bool) (f v : Int → Int) (b l : Int) : smn ok f v (b, l) 0 = (b, l) := rfl
theorem smx_t {ok : Int → Bool} {f v : Int → Int} {s : Int × Int} {n b l : Int} (h : smx ok f v s n = (b, l)) (h0 : 0 ≤ n) (h1 : ok n = true) (h2 : l < f n) : smx ok f v s (n + 1) = (v n, f n) := by
  rw [smx_s _ _ _ _ h0, h]
  exact if_pos ⟨h1, h2⟩
theorem smx_f {ok : Int → Bool} {f v : Int → Int} {s : Int × Int} {n b l : Int} (h : smx ok f v s n = (b, l)) (h0 : 0 ≤ n) (h1 : ok n = false ∨ f n ≤ l) : smx ok f v s (n + 1) = (b, l) := by
  rw [smx_s _ _ _ _ h0, h]
  refine if_neg (fun q => ?_)
  rcases h1 with h1 | h1
  · rw [h1] at q; exact absurd q.1 (by decide)
  · have q2 : l < f n := q.2
    omega
theorem smn_t {ok : Int → Bool} {f v : Int → Int} {s : Int × Int} {n b l : Int} (h : smn ok f v s n = (b, l)) (h0 : 0 ≤ n) (h1 : ok n = true) (h2 : f n < l) : smn ok f v s (n + 1) = (v n, f n) := by
  rw [smn_s _ _ _ _ h0, h]
  exact if_pos ⟨h1, h2⟩
theorem smn_f {ok : Int → Bool} {f v : Int → Int} {s : Int × Int} {n b l : Int} (h : smn ok f v s n = (b, l)) (h0 : 0 ≤ n) (h1 : ok n = false ∨ l ≤ f n) : smn ok f v s (n + 1) = (b, l) := by
  rw [smn_s _ _ _ _ h0, h]
  refine if_neg (fun q => ?_)
  rcases h1 with h1 | h1
  · rw [h1] at q; exact absurd q.1 (by decide)
  · have q2 : f n < l := q.2
    omega
abbrev yes : Int → Bool := fun _ => true
abbrev frB (u : Int → Int) : Int → Bool := fun p => decide (u p = 0)
/-- with another kind (0), figure (1), age (2) -/
def oth (C : Cl) (w c v : Int) : Cl := if w = 0 then (uI (ki C) c v, fi C, ag C, we C, yr C) else if w = 1 then (ki C, uI (fi C) c v, ag C, we C, yr C) else (ki C, fi C, uI (ag C) c v, we C, yr C)
theorem oth_0 {C : Cl} {w c v : Int} (h : w = 0) : oth C w c v = (uI (ki C) c v, fi C, ag C, we C, yr C) := if_pos h
theorem oth_1 {C : Cl} {w c v : Int} (h : w = 1) : oth C w c v = (ki C, uI (fi C) c v, ag C, we C, yr C) := by unfold oth; rw [if_neg (by omega), if_pos h]
theorem oth_2 {C : Cl} {w c v : Int} (h0 : w ≠ 0) (h1 : w ≠ 1) : oth C w c v = (ki C, fi C, uI (ag C) c v, we C, yr C) := by unfold oth; rw [if_neg h0, if_neg h1]
theorem uI_rng {f : Int → Int} {c v lo hi : Int} (h : ∀ j : Int, 0 ≤ j → j < 12 → lo ≤ f j ∧ f j ≤ hi) (hv : lo ≤ v ∧ v ≤ hi) : ∀ j : Int, 0 ≤ j → j < 12 → lo ≤ uI f c v j ∧ uI f c v j ≤ hi := by
  intro j h0 h1
  unfold uI
  split
  · exact hv
  · exact h j h0 h1
theorem okC.mk {C : Cl} (h1 : ∀ j : Int, 0 ≤ j → j < 12 → 0 ≤ ki C j ∧ ki C j ≤ 5) (h2 : ∀ j : Int, 0 ≤ j → j < 12 → 0 ≤ fi C j ∧ fi C j ≤ 9) (h3 : ∀ j : Int, 0 ≤ j → j < 12 → 0 ≤ ag C j ∧ ag C j ≤ 99) (h4 : ∀ j : Int, 0 ≤ j → j < 12 → 0 ≤ we C j ∧ we C j ≤ 99) (h5 : 0 ≤ yr C) : okC C := ⟨fun c a b => ⟨h1 c a b, h2 c a b, h3 c a b, h4 c a b⟩, h5⟩
theorem okC.k {C : Cl} (h : okC C) : ∀ j : Int, 0 ≤ j → j < 12 → 0 ≤ ki C j ∧ ki C j ≤ 5 := fun j a b => (h.1 j a b).1
theorem okC.f {C : Cl} (h : okC C) : ∀ j : Int, 0 ≤ j → j < 12 → 0 ≤ fi C j ∧ fi C j ≤ 9 := fun j a b => (h.1 j a b).2.1
theorem okC.a {C : Cl} (h : okC C) : ∀ j : Int, 0 ≤ j → j < 12 → 0 ≤ ag C j ∧ ag C j ≤ 99 := fun j a b => (h.1 j a b).2.2.1
theorem okC.w {C : Cl} (h : okC C) : ∀ j : Int, 0 ≤ j → j < 12 → 0 ≤ we C j ∧ we C j ≤ 99 := fun j a b => (h.1 j a b).2.2.2
theorem oth_ok {C : Cl} (ok : okC C) {w c v : Int} (hv : (w = 0 ∧ 0 ≤ v ∧ v ≤ 5) ∨ (w = 1 ∧ 0 ≤ v ∧ v ≤ 9) ∨ (w = 2 ∧ 0 ≤ v ∧ v ≤ 99)) : okC (oth C w c v) := by
  rcases hv with ⟨h, hv⟩ | ⟨h, hv⟩ | ⟨h, hv⟩
  · rw [oth_0 h]; exact okC.mk (uI_rng ok.k hv) ok.f ok.a ok.w ok.2
  · rw [oth_1 h]; exact okC.mk ok.k (uI_rng ok.f hv) ok.a ok.w ok.2
  · rw [oth_2 (by omega) (by omega)]; exact okC.mk ok.k ok.f (uI_rng ok.a hv) ok.w ok.2
theorem make_ok {C : Cl} (ok : okC C) {c k f a : Int} (hk : 0 ≤ k ∧ k ≤ 5) (hf : 0 ≤ f ∧ f ≤ 9) (ha : 0 ≤ a ∧ a ≤ 99) : okC (make C c k f a) := okC.mk (uI_rng ok.k hk) (uI_rng ok.f hf) (uI_rng ok.a ha) (uI_rng ok.w (by omega)) ok.2
theorem oth_yr (C : Cl) (w c v : Int) : yr (oth C w c v) = yr C := by unfold oth; split; rfl; split <;> rfl

/-- refusals counted -/
def rfa (f : Int → Int) (r : Int) : Int → Int := if -6 ≤ r ∧ r ≤ -1 then uI f (-r) (f (-r) + 1) else f
theorem rfa_r {f : Int → Int} {r : Int} (h : -6 ≤ r ∧ r ≤ -1) : rfa f r = uI f (-r) (f (-r) + 1) := if_pos h
theorem rfa_n {f : Int → Int} {r : Int} (h : ¬ (-6 ≤ r ∧ r ≤ -1)) : rfa f r = f := if_neg h
def wnum (v lo hi : Int) : Int := if v < lo then -4 else if hi < v then -6 else 0
theorem wnum_in (v lo hi : Int) : -6 ≤ wnum v lo hi ∧ wnum v lo hi ≤ 0 := by
  unfold wnum
  repeat' split
  all_goals omega
def wbit (w v m : Int) : Int := if w = 0 ∧ ¬ (0 ≤ v ∧ v ≤ m) then -2 else w
theorem wn_spec (v lo hi : Int) : (v < lo ∧ wnum v lo hi = -4) ∨ (lo ≤ v ∧ hi < v ∧ wnum v lo hi = -6) ∨ (lo ≤ v ∧ v ≤ hi ∧ wnum v lo hi = 0) := by
  unfold wnum
  repeat' split
  all_goals omega
theorem wb_spec (w v m : Int) : (w = 0 ∧ ¬ (0 ≤ v ∧ v ≤ m) ∧ wbit w v m = -2) ∨ (¬ (w = 0 ∧ ¬ (0 ≤ v ∧ v ≤ m)) ∧ wbit w v m = w) := by
  unfold wbit
  split <;> omega
theorem rowI_in {p : Prop} [Decidable p] : 0 ≤ b2i p ∧ b2i p ≤ 1 := by
  rcases b2i_01 p with h | h <;> omega
/-! the answers -/
def qCellOf (C : Cl) (c w : Int) : Int := if ¬ (0 ≤ c ∧ c < 12) then -1 else if w = 0 then ki C c else if w = 1 then fi C c else if w = 2 then ag C c else if w = 3 then we C c else if w = 4 then pull C c else if w = 5 then wearing C (yr C + 1) c else if w = 6 then hold C c else if w = 7 then (if hole C c then 1 else 0) else -2
def qBehind (C : Cl) (c n w : Int) : Int := if ¬ (0 ≤ c ∧ c < 12) then -1 else if n < 0 then -4 else if 60 < n then -6 else if ¬ (0 ≤ w ∧ w ≤ 2) then -2 else if w = 0 then we (goI n C) c else if w = 1 then pull (goI n C) c else if hole (goI n C) c then 1 else 0
def qAll (C : Cl) (n w : Int) : Int := if n < 0 then -4 else if 60 < n then -6 else if ¬ (0 ≤ w ∧ w ≤ 2) then -2 else if w = 0 then pcnt (hbits (goI n C)) else if w = 1 then allWear (goI n C) else allPull (goI n C)
def qEntire (C : Cl) : Int := sumI (fun c => if pull C c = 0 then 1 else 0) 12
def qSumOf (a : Int → Int) (r : Int) : Int := if ¬ (0 ≤ r ∧ r < 3) then -1 else a (4 * r) + a (4 * r + 1) + a (4 * r + 2) + a (4 * r + 3)
def qStrip (a : Int → Int) (w : Int) : Int := if ¬ (0 ≤ w ∧ w ≤ 1) then -2 else if w = 0 then (smx yes (rising a) (fun c => c) (0, 0) 12).2 else (smx yes (rising a) (fun c => c) (0, 0) 12).1
/-- the first place from one on with rank i -/
def rkN (w : Int → Int) (i : Int) : Nat → Int → Int
  | 0, _ => -9
  | k + 1, c => if rnk w c = i then c else rkN w i k (c + 1)
def qRank (w : Int → Int) (i : Int) : Int := if i < 0 then -4 else rkN w i 12 0
theorem rk_s (w : Int → Int) (i : Int) {c : Int} (h : c < 12) : rkN w i (12 - c).toNat c = if rnk w c = i then c else rkN w i (12 - (c + 1)).toNat (c + 1) := by
  rw [show (12 - c).toNat = (12 - (c + 1)).toNat + 1 by omega]
  rfl
theorem pcnt_bd (z : Int) : 0 ≤ pcnt z := by unfold pcnt; omega
theorem allPull_bd {C : Cl} (ok : okA C) : 0 ≤ allPull C ∧ allPull C ≤ 3000 := by
  have h := sumI_bd (f := pull C) (lo := 0) (hi := 250) (n := 12) (by decide) (fun j a b => pull_bd ok a b)
  unfold allPull
  omega
theorem allWear_bd {C : Cl} (ok : okC C) : 0 ≤ allWear C ∧ allWear C ≤ 1188 := by
  have h := sumI_bd (f := we C) (lo := 0) (hi := 99) (n := 12) (by decide) (fun j a b => ok.w j a b)
  unfold allWear
  omega
theorem allAge_bd {C : Cl} (ok : okC C) : 0 ≤ allAge C ∧ allAge C ≤ 1188 := by
  have h := sumI_bd (f := ag C) (lo := 0) (hi := 99) (n := 12) (by decide) (fun j a b => ok.a j a b)
  unfold allAge
  omega
theorem hbits_in (C : Cl) : 0 ≤ hbits C ∧ hbits C < 4096 := hbits_bd C (n := 12) (by decide)
end
section
def held (v h : Int) : Int := if v < 0 then 0 else if h < v then h else v
def aprt (a b : Int) : Int := if b < a then a - b else b - a
theorem aprt_abs (a b : Int) : aprt a b = ((a - b).natAbs : Int) := by unfold aprt; split <;> omega
def nbM (c w : Int) : Int := if nb c w < 0 then -9 else nb c w
theorem nbM_in {c w : Int} (h0 : 0 ≤ c) (h1 : c < 12) (w0 : 0 ≤ w) (w1 : w < 4) : -9 ≤ nbM c w ∧ nbM c w < 12 ∧ (0 ≤ nbM c w → nb c w = nbM c w) ∧ (nbM c w < 0 → nb c w < 0) := by
  have := nb_in h0 h1 w0 w1
  unfold nbM
  split <;> omega
theorem held_max {x : Int} (h : x ≤ 9999) : held x 9999 = max 0 x := by
  unfold held
  by_cases h1 : x < 0
  · rw [if_pos h1]; omega
  · rw [if_neg h1, if_neg (by omega)]; omega
theorem held_wear {C : Cl} (ok : okC C) {c : Int} (h0 : 0 ≤ c) (h1 : c < 12) : held (we C c + wearing C (yr C + 1) c) 99 = wearOn C c := by
  have h := wearing_bd ok.A (y := yr C + 1) h0 h1
  have h2 := ok.r h0 h1
  unfold held wearOn
  repeat' split
  all_goals omega
theorem held_age {C : Cl} (ok : okC C) {c : Int} (h0 : 0 ≤ c) (h1 : c < 12) : held (ag C c + 1) 99 = ageOn C 1 c := by
  have h2 := ok.r h0 h1
  unfold held ageOn
  repeat' split
  all_goals omega

theorem dX6_in_0 : decode cX6_in 0 = .ok (.lload_n 0, 1) := by decide +kernel
theorem dX6_in_1 : decode cX6_in 1 = .ok (.lload_n 2, 1) := by decide +kernel
theorem dX6_in_2 : decode cX6_in 2 = .ok (.lcmp, 1) := by decide +kernel
theorem dX6_in_3 : decode cX6_in 3 = .ok (.ifCond .lt 14, 3) := by decide +kernel
theorem dX6_in_6 : decode cX6_in 6 = .ok (.lload_n 0, 1) := by decide +kernel
theorem dX6_in_7 : decode cX6_in 7 = .ok (.lload 4, 2) := by decide +kernel
theorem dX6_in_9 : decode cX6_in 9 = .ok (.lcmp, 1) := by decide +kernel
theorem dX6_in_10 : decode cX6_in 10 = .ok (.ifCond .gt 7, 3) := by decide +kernel
theorem dX6_in_13 : decode cX6_in 13 = .ok (.iconst 1, 1) := by decide +kernel
theorem dX6_in_14 : decode cX6_in 14 = .ok (.goto 4, 3) := by decide +kernel
theorem dX6_in_17 : decode cX6_in 17 = .ok (.iconst 0, 1) := by decide +kernel
theorem dX6_in_18 : decode cX6_in 18 = .ok (.ireturn, 1) := by decide +kernel
set_option maxRecDepth 100000 in
set_option maxHeartbeats 4000000 in
theorem k_X6_in (κ : Kp) (ws : va_W) (v : Int) (lo : Int) (hi : Int)  (hr : In64 v ∧ In64 lo ∧ In64 hi) : mI κ yX6_in cX6_in 6 .boolean 0 [.long (iL v), .long (iL lo), .long (iL hi)] ws (is1 (iI (b2i (lo ≤ v ∧ v ≤ hi))) ws) := by
  refine mI_of (by decide) (Nat.le_of_ble_eq_true rfl) (fun E F K => ?_)
  refine g_lv (lv' := [(0, .long (iL v)), (2, .long (iL lo)), (4, .long (iL hi))]) rfl ?_
  refine g_lload_n F 0 dX6_in_0 rfl ?_
  refine g_lload_n F 1 dX6_in_1 rfl ?_
  refine g_lcmp F (by omega) dX6_in_2 ?_
  refine g_if_lt F 17 (icmp_in _ _) dX6_in_3 (by decide) (fun c3 => ?_) (fun c3 => ?_)
  · skip
    have c3 := icmp_ltt c3
    refine g_iconst F dX6_in_17 ?_
    exact K sameA.rf ⟨b2i_0 (by omega), rfl⟩ (by decide +kernel) dX6_in_18
  · skip
    have c3 := icmp_ltf c3
    refine g_lload_n F 0 dX6_in_6 rfl ?_
    refine g_lload F 2 dX6_in_7 rfl ?_
    refine g_lcmp F (by omega) dX6_in_9 ?_
    refine g_if_gt F 17 (icmp_in _ _) dX6_in_10 (by decide) (fun c10 => ?_) (fun c10 => ?_)
    · skip
      have c10 := icmp_gtt c10
      refine g_iconst F dX6_in_17 ?_
      exact K sameA.rf ⟨b2i_0 (by omega), rfl⟩ (by decide +kernel) dX6_in_18
    · skip
      have c10 := icmp_gtf c10
      refine g_iconst F dX6_in_13 ?_
      refine g_goto F 18 dX6_in_14 (by decide) ?_
      exact K sameA.rf ⟨b2i_1 (by omega), rfl⟩ (by decide +kernel) dX6_in_18
theorem dX6_isCell_0 : decode cX6_isCell 0 = .ok (.iload_n 0, 1) := by decide +kernel
theorem dX6_isCell_1 : decode cX6_isCell 1 = .ok (.i2l, 1) := by decide +kernel
theorem dX6_isCell_2 : decode cX6_isCell 2 = .ok (.lconst 0, 1) := by decide +kernel
theorem dX6_isCell_3 : decode cX6_isCell 3 = .ok (.ldc2_w 95, 3) := by decide +kernel
theorem dX6_isCell_6 : decode cX6_isCell 6 = .ok (.invokestatic 97, 3) := by decide +kernel
theorem dX6_isCell_9 : decode cX6_isCell 9 = .ok (.ireturn, 1) := by decide +kernel
set_option maxRecDepth 100000 in
set_option maxHeartbeats 4000000 in
theorem k_X6_isCell (κ : Kp) (ws : va_W) (c : Int)  (hr : In32 c) : mI κ yX6_isCell cX6_isCell 1 .boolean 1 [.int (iI c)] ws (is1 (iI (b2i (0 ≤ c ∧ c < 12))) ws) := by
  refine mI_of (by decide) (Nat.le_of_ble_eq_true rfl) (fun E F K => ?_)
  refine g_lv (lv' := [(0, .int (iI c))]) rfl ?_
  refine g_iload_n F 0 dX6_isCell_0 rfl ?_
  refine g_i2l F (by omega) dX6_isCell_1 ?_
  refine g_lconst F (z := 0) dX6_isCell_2 rfl ?_
  refine g_ldc2 F (z := 11) ll_X6_95 (by decide +kernel) dX6_isCell_3 ?_
  refine g_callSI F (stk := [.long (iL 11), .long (iL 0), .long (iL c)]) (st := []) (k_X6_in κ ws c 0 11 (by omega)) cal_X6_in lm_X6_97 rfl (by decide) rfl (Nat.le_of_ble_eq_true rfl) dX6_isCell_6 (fun r6 ws6 _ hr6 => ?_)
  obtain ⟨rfl, rfl⟩ := hr6
  exact K sameA.rf ⟨b2i_c (by omega), rfl⟩ (b2i_nar _) dX6_isCell_9
theorem dX6_wrongNumber_0 : decode cX6_wrongNumber 0 = .ok (.iload_n 0, 1) := by decide +kernel
theorem dX6_wrongNumber_1 : decode cX6_wrongNumber 1 = .ok (.iload_n 1, 1) := by decide +kernel
theorem dX6_wrongNumber_2 : decode cX6_wrongNumber 2 = .ok (.if_icmp .ge 8, 3) := by decide +kernel
theorem dX6_wrongNumber_5 : decode cX6_wrongNumber 5 = .ok (.bipush (-4), 2) := by decide +kernel
theorem dX6_wrongNumber_7 : decode cX6_wrongNumber 7 = .ok (.goto 14, 3) := by decide +kernel
theorem dX6_wrongNumber_10 : decode cX6_wrongNumber 10 = .ok (.iload_n 0, 1) := by decide +kernel
theorem dX6_wrongNumber_11 : decode cX6_wrongNumber 11 = .ok (.iload_n 2, 1) := by decide +kernel
theorem dX6_wrongNumber_12 : decode cX6_wrongNumber 12 = .ok (.if_icmp .le 8, 3) := by decide +kernel
theorem dX6_wrongNumber_15 : decode cX6_wrongNumber 15 = .ok (.bipush (-6), 2) := by decide +kernel
theorem dX6_wrongNumber_17 : decode cX6_wrongNumber 17 = .ok (.goto 4, 3) := by decide +kernel
theorem dX6_wrongNumber_20 : decode cX6_wrongNumber 20 = .ok (.iconst 0, 1) := by decide +kernel
theorem dX6_wrongNumber_21 : decode cX6_wrongNumber 21 = .ok (.ireturn, 1) := by decide +kernel
set_option maxRecDepth 100000 in
set_option maxHeartbeats 4000000 in
theorem k_X6_wrongNumber (κ : Kp) (ws : va_W) (v : Int) (lo : Int) (hi : Int)  (hr : In32 v ∧ In32 lo ∧ In32 hi) : mI κ yX6_wrongNumber cX6_wrongNumber 3 .int 0 [.int (iI v), .int (iI lo), .int (iI hi)] ws (is1 (iI (wnum v lo hi)) ws) := by
  refine mI_of (by decide) (Nat.le_of_ble_eq_true rfl) (fun E F K => ?_)
  refine g_lv (lv' := [(0, .int (iI v)), (1, .int (iI lo)), (2, .int (iI hi))]) rfl ?_
  refine g_iload_n F 0 dX6_wrongNumber_0 rfl ?_
  refine g_iload_n F 1 dX6_wrongNumber_1 rfl ?_
  refine g_icmp_ge F 10 (by omega) dX6_wrongNumber_2 (by decide) (fun c2 => ?_) (fun c2 => ?_)
  · skip
    refine g_iload_n F 0 dX6_wrongNumber_10 rfl ?_
    refine g_iload_n F 2 dX6_wrongNumber_11 rfl ?_
    refine g_icmp_le F 20 (by omega) dX6_wrongNumber_12 (by decide) (fun c12 => ?_) (fun c12 => ?_)
    · skip
      refine g_iconst F dX6_wrongNumber_20 ?_
      exact K sameA.rf ⟨congrArg iI (by unfold wnum; first | rw [if_pos (by omega)] | rw [if_neg (by omega), if_pos (by omega)] | rw [if_neg (by omega), if_neg (by omega)]), rfl⟩ rfl dX6_wrongNumber_21
    · skip
      refine g_bipush F dX6_wrongNumber_15 (by decide +kernel) ?_
      refine g_goto F 21 dX6_wrongNumber_17 (by decide) ?_
      exact K sameA.rf ⟨congrArg iI (by unfold wnum; first | rw [if_pos (by omega)] | rw [if_neg (by omega), if_pos (by omega)] | rw [if_neg (by omega), if_neg (by omega)]), rfl⟩ rfl dX6_wrongNumber_21
  · skip
    refine g_bipush F dX6_wrongNumber_5 (by decide +kernel) ?_
    refine g_goto F 21 dX6_wrongNumber_7 (by decide) ?_
    exact K sameA.rf ⟨congrArg iI (by unfold wnum; first | rw [if_pos (by omega)] | rw [if_neg (by omega), if_pos (by omega)] | rw [if_neg (by omega), if_neg (by omega)]), rfl⟩ rfl dX6_wrongNumber_21
theorem dX6_wrongBit_0 : decode cX6_wrongBit 0 = .ok (.iload_n 0, 1) := by decide +kernel
theorem dX6_wrongBit_1 : decode cX6_wrongBit 1 = .ok (.ifCond .ne 19, 3) := by decide +kernel
theorem dX6_wrongBit_4 : decode cX6_wrongBit 4 = .ok (.iload_n 1, 1) := by decide +kernel
theorem dX6_wrongBit_5 : decode cX6_wrongBit 5 = .ok (.i2l, 1) := by decide +kernel
theorem dX6_wrongBit_6 : decode cX6_wrongBit 6 = .ok (.lconst 0, 1) := by decide +kernel
theorem dX6_wrongBit_7 : decode cX6_wrongBit 7 = .ok (.iload_n 2, 1) := by decide +kernel
theorem dX6_wrongBit_8 : decode cX6_wrongBit 8 = .ok (.i2l, 1) := by decide +kernel
theorem dX6_wrongBit_9 : decode cX6_wrongBit 9 = .ok (.invokestatic 97, 3) := by decide +kernel
theorem dX6_wrongBit_12 : decode cX6_wrongBit 12 = .ok (.ifCond .ne 8, 3) := by decide +kernel
theorem dX6_wrongBit_15 : decode cX6_wrongBit 15 = .ok (.bipush (-2), 2) := by decide +kernel
theorem dX6_wrongBit_17 : decode cX6_wrongBit 17 = .ok (.goto 4, 3) := by decide +kernel
theorem dX6_wrongBit_20 : decode cX6_wrongBit 20 = .ok (.iload_n 0, 1) := by decide +kernel
theorem dX6_wrongBit_21 : decode cX6_wrongBit 21 = .ok (.ireturn, 1) := by decide +kernel
set_option maxRecDepth 100000 in
set_option maxHeartbeats 4000000 in
theorem k_X6_wrongBit (κ : Kp) (ws : va_W) (w : Int) (v : Int) (m : Int)  (hr : (In32 w ∧ In32 v) ∧ In32 m ∧ 0 ≤ m) : mI κ yX6_wrongBit cX6_wrongBit 3 .int 1 [.int (iI w), .int (iI v), .int (iI m)] ws (is1 (iI (wbit w v m)) ws) := by
  refine mI_of (by decide) (Nat.le_of_ble_eq_true rfl) (fun E F K => ?_)
  refine g_lv (lv' := [(0, .int (iI w)), (1, .int (iI v)), (2, .int (iI m))]) rfl ?_
  refine g_iload_n F 0 dX6_wrongBit_0 rfl ?_
  refine g_if_ne F 20 (by omega) dX6_wrongBit_1 (by decide) (fun c1 => ?_) (fun c1 => ?_)
  · skip
    refine g_iload_n F 0 dX6_wrongBit_20 rfl ?_
    exact K sameA.rf ⟨congrArg iI (by unfold wbit; first | rw [if_pos (by omega)] | rw [if_neg (by omega)]), rfl⟩ rfl dX6_wrongBit_21
  · skip
    refine g_iload_n F 1 dX6_wrongBit_4 rfl ?_
    refine g_i2l F (by omega) dX6_wrongBit_5 ?_
    refine g_lconst F (z := 0) dX6_wrongBit_6 rfl ?_
    refine g_iload_n F 2 dX6_wrongBit_7 rfl ?_
    refine g_i2l F (by omega) dX6_wrongBit_8 ?_
    refine g_callSI F (stk := [.long (iL m), .long (iL 0), .long (iL v)]) (st := []) (k_X6_in κ ws v 0 m (by omega)) cal_X6_in lm_X6_97 rfl (by decide) rfl (Nat.le_of_ble_eq_true rfl) dX6_wrongBit_9 (fun r9 ws9 _ hr9 => ?_)
    obtain ⟨rfl, rfl⟩ := hr9
    refine g_if_ne F 20 (b2i_in _) dX6_wrongBit_12 (by decide) (fun c12 => ?_) (fun c12 => ?_)
    · skip
      have c12 : 0 ≤ v ∧ v ≤ m := b2i_t c12
      refine g_iload_n F 0 dX6_wrongBit_20 rfl ?_
      exact K sameA.rf ⟨congrArg iI (by unfold wbit; first | rw [if_pos (by omega)] | rw [if_neg (by omega)]), rfl⟩ rfl dX6_wrongBit_21
    · skip
      have c12 : ¬ (0 ≤ v ∧ v ≤ m) := b2i_f c12
      refine g_bipush F dX6_wrongBit_15 (by decide +kernel) ?_
      refine g_goto F 21 dX6_wrongBit_17 (by decide) ?_
      exact K sameA.rf ⟨congrArg iI (by unfold wbit; first | rw [if_pos (by omega)] | rw [if_neg (by omega)]), rfl⟩ rfl dX6_wrongBit_21
theorem dX6_held_0 : decode cX6_held 0 = .ok (.iload_n 0, 1) := by decide +kernel
theorem dX6_held_1 : decode cX6_held 1 = .ok (.ifCond .ge 7, 3) := by decide +kernel
theorem dX6_held_4 : decode cX6_held 4 = .ok (.iconst 0, 1) := by decide +kernel
theorem dX6_held_5 : decode cX6_held 5 = .ok (.goto 13, 3) := by decide +kernel
theorem dX6_held_8 : decode cX6_held 8 = .ok (.iload_n 0, 1) := by decide +kernel
theorem dX6_held_9 : decode cX6_held 9 = .ok (.iload_n 1, 1) := by decide +kernel
theorem dX6_held_10 : decode cX6_held 10 = .ok (.if_icmp .le 7, 3) := by decide +kernel
theorem dX6_held_13 : decode cX6_held 13 = .ok (.iload_n 1, 1) := by decide +kernel
theorem dX6_held_14 : decode cX6_held 14 = .ok (.goto 4, 3) := by decide +kernel
theorem dX6_held_17 : decode cX6_held 17 = .ok (.iload_n 0, 1) := by decide +kernel
theorem dX6_held_18 : decode cX6_held 18 = .ok (.ireturn, 1) := by decide +kernel
set_option maxRecDepth 100000 in
set_option maxHeartbeats 4000000 in
theorem k_X6_held (κ : Kp) (ws : va_W) (v : Int) (h : Int)  (hr : In32 v ∧ In32 h) : mI κ yX6_held cX6_held 2 .int 0 [.int (iI v), .int (iI h)] ws (is1 (iI (held v h)) ws) := by
  refine mI_of (by decide) (Nat.le_of_ble_eq_true rfl) (fun E F K => ?_)
  refine g_lv (lv' := [(0, .int (iI v)), (1, .int (iI h))]) rfl ?_
  refine g_iload_n F 0 dX6_held_0 rfl ?_
  refine g_if_ge F 8 (by omega) dX6_held_1 (by decide) (fun c1 => ?_) (fun c1 => ?_)
  · skip
    refine g_iload_n F 0 dX6_held_8 rfl ?_
    refine g_iload_n F 1 dX6_held_9 rfl ?_
    refine g_icmp_le F 17 (by omega) dX6_held_10 (by decide) (fun c10 => ?_) (fun c10 => ?_)
    · skip
      refine g_iload_n F 0 dX6_held_17 rfl ?_
      exact K sameA.rf ⟨congrArg iI (by unfold held; first | rw [if_pos (by omega)] | rw [if_neg (by omega), if_pos (by omega)] | rw [if_neg (by omega), if_neg (by omega)]), rfl⟩ rfl dX6_held_18
    · skip
      refine g_iload_n F 1 dX6_held_13 rfl ?_
      refine g_goto F 18 dX6_held_14 (by decide) ?_
      exact K sameA.rf ⟨congrArg iI (by unfold held; first | rw [if_pos (by omega)] | rw [if_neg (by omega), if_pos (by omega)] | rw [if_neg (by omega), if_neg (by omega)]), rfl⟩ rfl dX6_held_18
  · skip
    refine g_iconst F dX6_held_4 ?_
    refine g_goto F 18 dX6_held_5 (by decide) ?_
    exact K sameA.rf ⟨congrArg iI (by unfold held; first | rw [if_pos (by omega)] | rw [if_neg (by omega), if_pos (by omega)] | rw [if_neg (by omega), if_neg (by omega)]), rfl⟩ rfl dX6_held_18
theorem dX6_apart_0 : decode cX6_apart 0 = .ok (.iload_n 0, 1) := by decide +kernel
theorem dX6_apart_1 : decode cX6_apart 1 = .ok (.iload_n 1, 1) := by decide +kernel
theorem dX6_apart_2 : decode cX6_apart 2 = .ok (.if_icmp .le 9, 3) := by decide +kernel
theorem dX6_apart_5 : decode cX6_apart 5 = .ok (.iload_n 0, 1) := by decide +kernel
theorem dX6_apart_6 : decode cX6_apart 6 = .ok (.iload_n 1, 1) := by decide +kernel
theorem dX6_apart_7 : decode cX6_apart 7 = .ok (.isub, 1) := by decide +kernel
theorem dX6_apart_8 : decode cX6_apart 8 = .ok (.goto 6, 3) := by decide +kernel
theorem dX6_apart_11 : decode cX6_apart 11 = .ok (.iload_n 1, 1) := by decide +kernel
theorem dX6_apart_12 : decode cX6_apart 12 = .ok (.iload_n 0, 1) := by decide +kernel
theorem dX6_apart_13 : decode cX6_apart 13 = .ok (.isub, 1) := by decide +kernel
theorem dX6_apart_14 : decode cX6_apart 14 = .ok (.ireturn, 1) := by decide +kernel
set_option maxRecDepth 100000 in
set_option maxHeartbeats 4000000 in
theorem k_X6_apart (κ : Kp) (ws : va_W) (a : Int) (b : Int)  (hr : In32 a ∧ In32 b) : mI κ yX6_apart cX6_apart 2 .int 0 [.int (iI a), .int (iI b)] ws (is1 (iI (aprt a b)) ws) := by
  refine mI_of (by decide) (Nat.le_of_ble_eq_true rfl) (fun E F K => ?_)
  refine g_lv (lv' := [(0, .int (iI a)), (1, .int (iI b))]) rfl ?_
  refine g_iload_n F 0 dX6_apart_0 rfl ?_
  refine g_iload_n F 1 dX6_apart_1 rfl ?_
  refine g_icmp_le F 11 (by omega) dX6_apart_2 (by decide) (fun c2 => ?_) (fun c2 => ?_)
  · skip
    refine g_iload_n F 1 dX6_apart_11 rfl ?_
    refine g_iload_n F 0 dX6_apart_12 rfl ?_
    refine g_isub F dX6_apart_13 ?_
    exact K sameA.rf ⟨congrArg iI (by unfold aprt; first | rw [if_pos (by omega)] | rw [if_neg (by omega)]), rfl⟩ rfl dX6_apart_14
  · skip
    refine g_iload_n F 0 dX6_apart_5 rfl ?_
    refine g_iload_n F 1 dX6_apart_6 rfl ?_
    refine g_isub F dX6_apart_7 ?_
    refine g_goto F 14 dX6_apart_8 (by decide) ?_
    exact K sameA.rf ⟨congrArg iI (by unfold aprt; first | rw [if_pos (by omega)] | rw [if_neg (by omega)]), rfl⟩ rfl dX6_apart_14
theorem dX6_besideOf_0 : decode cX6_besideOf 0 = .ok (.iload_n 1, 1) := by decide +kernel
theorem dX6_besideOf_1 : decode cX6_besideOf 1 = .ok (.tableswitch 72 0 2 #[27, 41, 56], 27) := by decide +kernel
theorem dX6_besideOf_28 : decode cX6_besideOf 28 = .ok (.iload_n 0, 1) := by decide +kernel
theorem dX6_besideOf_29 : decode cX6_besideOf 29 = .ok (.iconst 4, 1) := by decide +kernel
theorem dX6_besideOf_30 : decode cX6_besideOf 30 = .ok (.if_icmp .ge 8, 3) := by decide +kernel
theorem dX6_besideOf_33 : decode cX6_besideOf 33 = .ok (.bipush (-9), 2) := by decide +kernel
theorem dX6_besideOf_35 : decode cX6_besideOf 35 = .ok (.goto 6, 3) := by decide +kernel
theorem dX6_besideOf_38 : decode cX6_besideOf 38 = .ok (.iload_n 0, 1) := by decide +kernel
theorem dX6_besideOf_39 : decode cX6_besideOf 39 = .ok (.iconst 4, 1) := by decide +kernel
theorem dX6_besideOf_40 : decode cX6_besideOf 40 = .ok (.isub, 1) := by decide +kernel
theorem dX6_besideOf_41 : decode cX6_besideOf 41 = .ok (.ireturn, 1) := by decide +kernel
theorem dX6_besideOf_42 : decode cX6_besideOf 42 = .ok (.iload_n 0, 1) := by decide +kernel
theorem dX6_besideOf_43 : decode cX6_besideOf 43 = .ok (.iconst 4, 1) := by decide +kernel
theorem dX6_besideOf_44 : decode cX6_besideOf 44 = .ok (.irem, 1) := by decide +kernel
theorem dX6_besideOf_45 : decode cX6_besideOf 45 = .ok (.ifCond .ne 8, 3) := by decide +kernel
theorem dX6_besideOf_48 : decode cX6_besideOf 48 = .ok (.bipush (-9), 2) := by decide +kernel
theorem dX6_besideOf_50 : decode cX6_besideOf 50 = .ok (.goto 6, 3) := by decide +kernel
theorem dX6_besideOf_53 : decode cX6_besideOf 53 = .ok (.iload_n 0, 1) := by decide +kernel
theorem dX6_besideOf_54 : decode cX6_besideOf 54 = .ok (.iconst 1, 1) := by decide +kernel
theorem dX6_besideOf_55 : decode cX6_besideOf 55 = .ok (.isub, 1) := by decide +kernel
theorem dX6_besideOf_56 : decode cX6_besideOf 56 = .ok (.ireturn, 1) := by decide +kernel
theorem dX6_besideOf_57 : decode cX6_besideOf 57 = .ok (.iload_n 0, 1) := by decide +kernel
theorem dX6_besideOf_58 : decode cX6_besideOf 58 = .ok (.iconst 4, 1) := by decide +kernel
theorem dX6_besideOf_59 : decode cX6_besideOf 59 = .ok (.irem, 1) := by decide +kernel
theorem dX6_besideOf_60 : decode cX6_besideOf 60 = .ok (.iconst 3, 1) := by decide +kernel
theorem dX6_besideOf_61 : decode cX6_besideOf 61 = .ok (.if_icmp .ne 8, 3) := by decide +kernel
theorem dX6_besideOf_64 : decode cX6_besideOf 64 = .ok (.bipush (-9), 2) := by decide +kernel
theorem dX6_besideOf_66 : decode cX6_besideOf 66 = .ok (.goto 6, 3) := by decide +kernel
theorem dX6_besideOf_69 : decode cX6_besideOf 69 = .ok (.iload_n 0, 1) := by decide +kernel
theorem dX6_besideOf_70 : decode cX6_besideOf 70 = .ok (.iconst 1, 1) := by decide +kernel
theorem dX6_besideOf_71 : decode cX6_besideOf 71 = .ok (.iadd, 1) := by decide +kernel
theorem dX6_besideOf_72 : decode cX6_besideOf 72 = .ok (.ireturn, 1) := by decide +kernel
theorem dX6_besideOf_73 : decode cX6_besideOf 73 = .ok (.iload_n 0, 1) := by decide +kernel
theorem dX6_besideOf_74 : decode cX6_besideOf 74 = .ok (.bipush 7, 2) := by decide +kernel
theorem dX6_besideOf_76 : decode cX6_besideOf 76 = .ok (.if_icmp .le 8, 3) := by decide +kernel
theorem dX6_besideOf_79 : decode cX6_besideOf 79 = .ok (.bipush (-9), 2) := by decide +kernel
theorem dX6_besideOf_81 : decode cX6_besideOf 81 = .ok (.goto 6, 3) := by decide +kernel
theorem dX6_besideOf_84 : decode cX6_besideOf 84 = .ok (.iload_n 0, 1) := by decide +kernel
theorem dX6_besideOf_85 : decode cX6_besideOf 85 = .ok (.iconst 4, 1) := by decide +kernel
theorem dX6_besideOf_86 : decode cX6_besideOf 86 = .ok (.iadd, 1) := by decide +kernel
theorem dX6_besideOf_87 : decode cX6_besideOf 87 = .ok (.ireturn, 1) := by decide +kernel
set_option maxRecDepth 100000 in
set_option maxHeartbeats 4000000 in
theorem k_X6_besideOf (κ : Kp) (ws : va_W) (c : Int) (w : Int)  (hr : (0 ≤ c ∧ c < 12) ∧ 0 ≤ w ∧ w < 4) : mI κ yX6_besideOf cX6_besideOf 2 .int 0 [.int (iI c), .int (iI w)] ws (is1 (iI (nbM c w)) ws) := by
  refine mI_of (by decide) (Nat.le_of_ble_eq_true rfl) (fun E F K => ?_)
  refine g_lv (lv' := [(0, .int (iI c)), (1, .int (iI w))]) rfl ?_
  refine g_iload_n F 1 dX6_besideOf_0 rfl ?_
  by_cases c1_0 : w = 0
  · skip
    refine g_tsw_in F 28 (by omega) dX6_besideOf_1 (by omega) (by omega) (by rw [c1_0]; rfl) (by decide) ?_
    refine g_iload_n F 0 dX6_besideOf_28 rfl ?_
    refine g_iconst F dX6_besideOf_29 ?_
    refine g_icmp_ge F 38 (by omega) dX6_besideOf_30 (by decide) (fun c30 => ?_) (fun c30 => ?_)
    · skip
      refine g_iload_n F 0 dX6_besideOf_38 rfl ?_
      refine g_iconst F dX6_besideOf_39 ?_
      refine g_isub F dX6_besideOf_40 ?_
      exact K sameA.rf ⟨congrArg iI (show c - 4 = nbM c w from by unfold nbM nb; (repeat' split) <;> omega), rfl⟩ rfl dX6_besideOf_41
    · skip
      refine g_bipush F dX6_besideOf_33 (by decide +kernel) ?_
      refine g_goto F 41 dX6_besideOf_35 (by decide) ?_
      exact K sameA.rf ⟨congrArg iI (show -9 = nbM c w from by unfold nbM nb; (repeat' split) <;> omega), rfl⟩ rfl dX6_besideOf_41
  by_cases c1_1 : w = 1
  · skip
    refine g_tsw_in F 42 (by omega) dX6_besideOf_1 (by omega) (by omega) (by rw [c1_1]; rfl) (by decide) ?_
    refine g_iload_n F 0 dX6_besideOf_42 rfl ?_
    refine g_iconst F dX6_besideOf_43 ?_
    refine g_irem F dX6_besideOf_44 (by omega) ?_
    refine g_if_ne F 53 (by omega) dX6_besideOf_45 (by decide) (fun c45 => ?_) (fun c45 => ?_)
    · skip
      refine g_iload_n F 0 dX6_besideOf_53 rfl ?_
      refine g_iconst F dX6_besideOf_54 ?_
      refine g_isub F dX6_besideOf_55 ?_
      exact K sameA.rf ⟨congrArg iI (show c - 1 = nbM c w from by unfold nbM nb; (repeat' split) <;> omega), rfl⟩ rfl dX6_besideOf_56
    · skip
      refine g_bipush F dX6_besideOf_48 (by decide +kernel) ?_
      refine g_goto F 56 dX6_besideOf_50 (by decide) ?_
      exact K sameA.rf ⟨congrArg iI (show -9 = nbM c w from by unfold nbM nb; (repeat' split) <;> omega), rfl⟩ rfl dX6_besideOf_56
  by_cases c1_2 : w = 2
  · skip
    refine g_tsw_in F 57 (by omega) dX6_besideOf_1 (by omega) (by omega) (by rw [c1_2]; rfl) (by decide) ?_
    refine g_iload_n F 0 dX6_besideOf_57 rfl ?_
    refine g_iconst F dX6_besideOf_58 ?_
    refine g_irem F dX6_besideOf_59 (by omega) ?_
    refine g_iconst F dX6_besideOf_60 ?_
    refine g_icmp_ne F 69 (by omega) dX6_besideOf_61 (by decide) (fun c61 => ?_) (fun c61 => ?_)
    · skip
      refine g_iload_n F 0 dX6_besideOf_69 rfl ?_
      refine g_iconst F dX6_besideOf_70 ?_
      refine g_iadd F dX6_besideOf_71 ?_
      exact K sameA.rf ⟨congrArg iI (show c + 1 = nbM c w from by unfold nbM nb; (repeat' split) <;> omega), rfl⟩ rfl dX6_besideOf_72
    · skip
      refine g_bipush F dX6_besideOf_64 (by decide +kernel) ?_
      refine g_goto F 72 dX6_besideOf_66 (by decide) ?_
      exact K sameA.rf ⟨congrArg iI (show -9 = nbM c w from by unfold nbM nb; (repeat' split) <;> omega), rfl⟩ rfl dX6_besideOf_72
  refine g_tsw_out F 73 (by omega) dX6_besideOf_1 (by omega) (by decide) ?_
  refine g_iload_n F 0 dX6_besideOf_73 rfl ?_
  refine g_bipush F dX6_besideOf_74 (by decide +kernel) ?_
  refine g_icmp_le F 84 (by omega) dX6_besideOf_76 (by decide) (fun c76 => ?_) (fun c76 => ?_)
  · skip
    refine g_iload_n F 0 dX6_besideOf_84 rfl ?_
    refine g_iconst F dX6_besideOf_85 ?_
    refine g_iadd F dX6_besideOf_86 ?_
    exact K sameA.rf ⟨congrArg iI (show c + 4 = nbM c w from by unfold nbM nb; (repeat' split) <;> omega), rfl⟩ rfl dX6_besideOf_87
  · skip
    refine g_bipush F dX6_besideOf_79 (by decide +kernel) ?_
    refine g_goto F 87 dX6_besideOf_81 (by decide) ?_
    exact K sameA.rf ⟨congrArg iI (show -9 = nbM c w from by unfold nbM nb; (repeat' split) <;> omega), rfl⟩ rfl dX6_besideOf_87
theorem dX6_onesOf_0 : decode cX6_onesOf 0 = .ok (.iconst 0, 1) := by decide +kernel
theorem dX6_onesOf_1 : decode cX6_onesOf 1 = .ok (.istore_n 1, 1) := by decide +kernel
theorem dX6_onesOf_2 : decode cX6_onesOf 2 = .ok (.iload_n 0, 1) := by decide +kernel
theorem dX6_onesOf_3 : decode cX6_onesOf 3 = .ok (.istore_n 2, 1) := by decide +kernel
theorem dX6_onesOf_4 : decode cX6_onesOf 4 = .ok (.iload_n 2, 1) := by decide +kernel
theorem dX6_onesOf_5 : decode cX6_onesOf 5 = .ok (.ifCond .eq 15, 3) := by decide +kernel
theorem dX6_onesOf_8 : decode cX6_onesOf 8 = .ok (.iinc 1 1, 3) := by decide +kernel
theorem dX6_onesOf_11 : decode cX6_onesOf 11 = .ok (.iload_n 2, 1) := by decide +kernel
theorem dX6_onesOf_12 : decode cX6_onesOf 12 = .ok (.iload_n 2, 1) := by decide +kernel
theorem dX6_onesOf_13 : decode cX6_onesOf 13 = .ok (.iconst 1, 1) := by decide +kernel
theorem dX6_onesOf_14 : decode cX6_onesOf 14 = .ok (.isub, 1) := by decide +kernel
theorem dX6_onesOf_15 : decode cX6_onesOf 15 = .ok (.iand, 1) := by decide +kernel
theorem dX6_onesOf_16 : decode cX6_onesOf 16 = .ok (.istore_n 2, 1) := by decide +kernel
theorem dX6_onesOf_17 : decode cX6_onesOf 17 = .ok (.goto (-13), 3) := by decide +kernel
theorem dX6_onesOf_20 : decode cX6_onesOf 20 = .ok (.iload_n 1, 1) := by decide +kernel
theorem dX6_onesOf_21 : decode cX6_onesOf 21 = .ok (.ireturn, 1) := by decide +kernel
set_option maxRecDepth 100000 in
set_option maxHeartbeats 4000000 in
theorem k_X6_onesOf (κ : Kp) (ws : va_W) (b : Int)  (hr : 0 ≤ b ∧ b < 4096) : mI κ yX6_onesOf cX6_onesOf 3 .int 0 [.int (iI b)] ws (is1 (iI (pcnt b)) ws) := by
  refine mI_of (by decide) (Nat.le_of_ble_eq_true rfl) (fun E F K => ?_)
  refine g_lv (lv' := [(0, .int (iI b))]) rfl ?_
  refine g_iconst F dX6_onesOf_0 ?_
  refine g_istore_n F (lv' := [(1, .int (iI 0)), (0, .int (iI b))]) 1 dX6_onesOf_1 rfl (by decide) rfl ?_
  refine g_iload_n F 1 dX6_onesOf_2 rfl ?_
  refine g_istore_n F (lv' := [(2, .int (iI b)), (1, .int (iI 0)), (0, .int (iI b))]) 2 dX6_onesOf_3 rfl (by decide) rfl ?_
  have L4 : ∀ (mz4 : Nat) (y : Int) (l : Int), l.toNat = mz4 → (0 ≤ l ∧ l < 4096) → (y + pcnt l = pcnt b) → G E ws [(2, .int (iI l)), (1, .int (iI y)), (0, .int (iI b))] 4 [] := by
    intro mz4
    induction mz4 using Nat.strongRecOn with
    | _ mz4 ih4 =>
    intro y l hmz4 hl hn2
    refine g_iload_n F 0 dX6_onesOf_4 rfl ?_
    refine g_if_eq F 20 (by omega) dX6_onesOf_5 (by decide) (fun c5 => ?_) (fun c5 => ?_)
    · skip
      refine g_iload_n F 1 dX6_onesOf_20 rfl ?_
      exact K sameA.rf ⟨congrArg iI (show y = pcnt b from by have := pcnt_0; rw [c5] at hn2; omega), rfl⟩ rfl dX6_onesOf_21
    · skip
      refine g_iinc F (lv' := [(1, .int (iI (y + 1))), (2, .int (iI l)), (0, .int (iI b))]) 1 dX6_onesOf_8 rfl (by decide) rfl ?_
      refine g_iload_n F 1 dX6_onesOf_11 rfl ?_
      refine g_iload_n F 1 dX6_onesOf_12 rfl ?_
      refine g_iconst F dX6_onesOf_13 ?_
      refine g_isub F dX6_onesOf_14 ?_
      refine g_iand F dX6_onesOf_15 ?_
      refine g_top (y := iI (band l (l - 1))) (iI_band (by omega) (by omega)) ?_
      refine g_istore_n F (lv' := [(2, .int (iI (band l (l - 1)))), (1, .int (iI (y + 1))), (0, .int (iI b))]) 2 dX6_onesOf_16 rfl (by decide) rfl ?_
      refine g_goto F 4 dX6_onesOf_17 (by decide) ?_
      refine g_sub F (lv' := [(2, .int (iI (band l (l - 1)))), (1, .int (iI (y + 1))), (0, .int (iI b))]) [0, 1, 2] rfl ?_
      have hp := pcnt_step (z := l) (by omega) (by omega)
      exact ih4 _ (by have hp := pcnt_step (z := l) (by omega) (by omega); omega) (y + 1) (band l (l - 1)) rfl (by have hp := pcnt_step (z := l) (by omega) (by omega); omega) (by have hp := pcnt_step (z := l) (by omega) (by omega); omega)
  refine g_sub F (lv' := [(2, .int (iI b)), (1, .int (iI 0)), (0, .int (iI b))]) [0, 1, 2] rfl ?_
  exact L4 _ 0 b rfl (by omega) (by omega)
theorem dX6_pullOf_0 : decode cX6_pullOf 0 = .ok (.iconst 0, 1) := by decide +kernel
theorem dX6_pullOf_1 : decode cX6_pullOf 1 = .ok (.istore_n 2, 1) := by decide +kernel
theorem dX6_pullOf_2 : decode cX6_pullOf 2 = .ok (.iconst 0, 1) := by decide +kernel
theorem dX6_pullOf_3 : decode cX6_pullOf 3 = .ok (.istore_n 3, 1) := by decide +kernel
theorem dX6_pullOf_4 : decode cX6_pullOf 4 = .ok (.iconst 0, 1) := by decide +kernel
theorem dX6_pullOf_5 : decode cX6_pullOf 5 = .ok (.istore 4, 2) := by decide +kernel
theorem dX6_pullOf_7 : decode cX6_pullOf 7 = .ok (.iload 4, 2) := by decide +kernel
theorem dX6_pullOf_9 : decode cX6_pullOf 9 = .ok (.iconst 4, 1) := by decide +kernel
theorem dX6_pullOf_10 : decode cX6_pullOf 10 = .ok (.if_icmp .ge 58, 3) := by decide +kernel
theorem dX6_pullOf_13 : decode cX6_pullOf 13 = .ok (.iload_n 1, 1) := by decide +kernel
theorem dX6_pullOf_14 : decode cX6_pullOf 14 = .ok (.iload 4, 2) := by decide +kernel
theorem dX6_pullOf_16 : decode cX6_pullOf 16 = .ok (.invokestatic 104, 3) := by decide +kernel
theorem dX6_pullOf_19 : decode cX6_pullOf 19 = .ok (.istore 5, 2) := by decide +kernel
theorem dX6_pullOf_21 : decode cX6_pullOf 21 = .ok (.iload_n 2, 1) := by decide +kernel
theorem dX6_pullOf_22 : decode cX6_pullOf 22 = .ok (.iload 5, 2) := by decide +kernel
theorem dX6_pullOf_24 : decode cX6_pullOf 24 = .ok (.ifCond .ge 7, 3) := by decide +kernel
theorem dX6_pullOf_27 : decode cX6_pullOf 27 = .ok (.iconst 0, 1) := by decide +kernel
theorem dX6_pullOf_28 : decode cX6_pullOf 28 = .ok (.goto 19, 3) := by decide +kernel
theorem dX6_pullOf_31 : decode cX6_pullOf 31 = .ok (.aload_n 0, 1) := by decide +kernel
theorem dX6_pullOf_32 : decode cX6_pullOf 32 = .ok (.getfield 16, 3) := by decide +kernel
theorem dX6_pullOf_35 : decode cX6_pullOf 35 = .ok (.iload_n 1, 1) := by decide +kernel
theorem dX6_pullOf_36 : decode cX6_pullOf 36 = .ok (.iaload, 1) := by decide +kernel
theorem dX6_pullOf_37 : decode cX6_pullOf 37 = .ok (.aload_n 0, 1) := by decide +kernel
theorem dX6_pullOf_38 : decode cX6_pullOf 38 = .ok (.getfield 16, 3) := by decide +kernel
theorem dX6_pullOf_41 : decode cX6_pullOf 41 = .ok (.iload 5, 2) := by decide +kernel
theorem dX6_pullOf_43 : decode cX6_pullOf 43 = .ok (.iaload, 1) := by decide +kernel
theorem dX6_pullOf_44 : decode cX6_pullOf 44 = .ok (.invokestatic 108, 3) := by decide +kernel
theorem dX6_pullOf_47 : decode cX6_pullOf 47 = .ok (.iadd, 1) := by decide +kernel
theorem dX6_pullOf_48 : decode cX6_pullOf 48 = .ok (.istore_n 2, 1) := by decide +kernel
theorem dX6_pullOf_49 : decode cX6_pullOf 49 = .ok (.iload_n 3, 1) := by decide +kernel
theorem dX6_pullOf_50 : decode cX6_pullOf 50 = .ok (.iload 5, 2) := by decide +kernel
theorem dX6_pullOf_52 : decode cX6_pullOf 52 = .ok (.ifCond .ge 7, 3) := by decide +kernel
theorem dX6_pullOf_55 : decode cX6_pullOf 55 = .ok (.iconst 0, 1) := by decide +kernel
theorem dX6_pullOf_56 : decode cX6_pullOf 56 = .ok (.goto 4, 3) := by decide +kernel
theorem dX6_pullOf_59 : decode cX6_pullOf 59 = .ok (.iconst 1, 1) := by decide +kernel
theorem dX6_pullOf_60 : decode cX6_pullOf 60 = .ok (.iadd, 1) := by decide +kernel
theorem dX6_pullOf_61 : decode cX6_pullOf 61 = .ok (.istore_n 3, 1) := by decide +kernel
theorem dX6_pullOf_62 : decode cX6_pullOf 62 = .ok (.iinc 4 1, 3) := by decide +kernel
theorem dX6_pullOf_65 : decode cX6_pullOf 65 = .ok (.goto (-58), 3) := by decide +kernel
theorem dX6_pullOf_68 : decode cX6_pullOf 68 = .ok (.iload_n 2, 1) := by decide +kernel
theorem dX6_pullOf_69 : decode cX6_pullOf 69 = .ok (.iconst 4, 1) := by decide +kernel
theorem dX6_pullOf_70 : decode cX6_pullOf 70 = .ok (.idiv, 1) := by decide +kernel
theorem dX6_pullOf_71 : decode cX6_pullOf 71 = .ok (.istore 4, 2) := by decide +kernel
theorem dX6_pullOf_73 : decode cX6_pullOf 73 = .ok (.aload_n 0, 1) := by decide +kernel
theorem dX6_pullOf_74 : decode cX6_pullOf 74 = .ok (.getfield 7, 3) := by decide +kernel
theorem dX6_pullOf_77 : decode cX6_pullOf 77 = .ok (.iload_n 1, 1) := by decide +kernel
theorem dX6_pullOf_78 : decode cX6_pullOf 78 = .ok (.iaload, 1) := by decide +kernel
theorem dX6_pullOf_79 : decode cX6_pullOf 79 = .ok (.tableswitch 80 1 5 #[33, 38, 43, 57, 62], 33) := by decide +kernel
theorem dX6_pullOf_112 : decode cX6_pullOf 112 = .ok (.iload 4, 2) := by decide +kernel
theorem dX6_pullOf_114 : decode cX6_pullOf 114 = .ok (.iconst 2, 1) := by decide +kernel
theorem dX6_pullOf_115 : decode cX6_pullOf 115 = .ok (.idiv, 1) := by decide +kernel
theorem dX6_pullOf_116 : decode cX6_pullOf 116 = .ok (.ireturn, 1) := by decide +kernel
theorem dX6_pullOf_117 : decode cX6_pullOf 117 = .ok (.iload 4, 2) := by decide +kernel
theorem dX6_pullOf_119 : decode cX6_pullOf 119 = .ok (.iload_n 3, 1) := by decide +kernel
theorem dX6_pullOf_120 : decode cX6_pullOf 120 = .ok (.iadd, 1) := by decide +kernel
theorem dX6_pullOf_121 : decode cX6_pullOf 121 = .ok (.ireturn, 1) := by decide +kernel
theorem dX6_pullOf_122 : decode cX6_pullOf 122 = .ok (.iload 4, 2) := by decide +kernel
theorem dX6_pullOf_124 : decode cX6_pullOf 124 = .ok (.iconst 2, 1) := by decide +kernel
theorem dX6_pullOf_125 : decode cX6_pullOf 125 = .ok (.idiv, 1) := by decide +kernel
theorem dX6_pullOf_126 : decode cX6_pullOf 126 = .ok (.aload_n 0, 1) := by decide +kernel
theorem dX6_pullOf_127 : decode cX6_pullOf 127 = .ok (.getfield 13, 3) := by decide +kernel
theorem dX6_pullOf_130 : decode cX6_pullOf 130 = .ok (.iload_n 1, 1) := by decide +kernel
theorem dX6_pullOf_131 : decode cX6_pullOf 131 = .ok (.iaload, 1) := by decide +kernel
theorem dX6_pullOf_132 : decode cX6_pullOf 132 = .ok (.iconst 3, 1) := by decide +kernel
theorem dX6_pullOf_133 : decode cX6_pullOf 133 = .ok (.idiv, 1) := by decide +kernel
theorem dX6_pullOf_134 : decode cX6_pullOf 134 = .ok (.iadd, 1) := by decide +kernel
theorem dX6_pullOf_135 : decode cX6_pullOf 135 = .ok (.ireturn, 1) := by decide +kernel
theorem dX6_pullOf_136 : decode cX6_pullOf 136 = .ok (.iconst 2, 1) := by decide +kernel
theorem dX6_pullOf_137 : decode cX6_pullOf 137 = .ok (.iload 4, 2) := by decide +kernel
theorem dX6_pullOf_139 : decode cX6_pullOf 139 = .ok (.imul, 1) := by decide +kernel
theorem dX6_pullOf_140 : decode cX6_pullOf 140 = .ok (.ireturn, 1) := by decide +kernel
theorem dX6_pullOf_141 : decode cX6_pullOf 141 = .ok (.iconst 2, 1) := by decide +kernel
theorem dX6_pullOf_142 : decode cX6_pullOf 142 = .ok (.iload 4, 2) := by decide +kernel
theorem dX6_pullOf_144 : decode cX6_pullOf 144 = .ok (.imul, 1) := by decide +kernel
theorem dX6_pullOf_145 : decode cX6_pullOf 145 = .ok (.aload_n 0, 1) := by decide +kernel
theorem dX6_pullOf_146 : decode cX6_pullOf 146 = .ok (.getfield 13, 3) := by decide +kernel
theorem dX6_pullOf_149 : decode cX6_pullOf 149 = .ok (.iload_n 1, 1) := by decide +kernel
theorem dX6_pullOf_150 : decode cX6_pullOf 150 = .ok (.iaload, 1) := by decide +kernel
theorem dX6_pullOf_151 : decode cX6_pullOf 151 = .ok (.isub, 1) := by decide +kernel
theorem dX6_pullOf_152 : decode cX6_pullOf 152 = .ok (.sipush 9999, 3) := by decide +kernel
theorem dX6_pullOf_155 : decode cX6_pullOf 155 = .ok (.invokestatic 111, 3) := by decide +kernel
theorem dX6_pullOf_158 : decode cX6_pullOf 158 = .ok (.ireturn, 1) := by decide +kernel
theorem dX6_pullOf_159 : decode cX6_pullOf 159 = .ok (.iload 4, 2) := by decide +kernel
theorem dX6_pullOf_161 : decode cX6_pullOf 161 = .ok (.ireturn, 1) := by decide +kernel
set_option maxRecDepth 100000 in
set_option maxHeartbeats 4000000 in
theorem k_X6_pullOf (κ : Kp) (ma : Nat → Nat) (M : MS) (c : Int)  (h0 : 0 ≤ c ∧ c < 12) (ok : okA (cl M)) : mI κ yX6_pullOf cX6_pullOf 6 .int 1 [.ref (ma 100), .int (iI c)] (mw κ ma M) (is1 (iI (pull (cl M) c)) (mw κ ma M)) := by
  refine mI_of (by decide) (Nat.le_of_ble_eq_true rfl) (fun E F K => ?_)
  refine g_lv (lv' := [(0, .ref (ma 100)), (1, .int (iI c))]) rfl ?_
  refine g_iconst F dX6_pullOf_0 ?_
  refine g_istore_n F (lv' := [(2, .int (iI 0)), (0, .ref (ma 100)), (1, .int (iI c))]) 2 dX6_pullOf_1 rfl (by decide) rfl ?_
  refine g_iconst F dX6_pullOf_2 ?_
  refine g_istore_n F (lv' := [(3, .int (iI 0)), (2, .int (iI 0)), (0, .ref (ma 100)), (1, .int (iI c))]) 3 dX6_pullOf_3 rfl (by decide) rfl ?_
  refine g_iconst F dX6_pullOf_4 ?_
  refine g_istore F (lv' := [(4, .int (iI 0)), (3, .int (iI 0)), (2, .int (iI 0)), (0, .ref (ma 100)), (1, .int (iI c))]) dX6_pullOf_5 (by decide) rfl ?_
  have L7 : ∀ (mz7 : Nat) (i : Int) (sm : Int) (mn : Int), (4 - i).toNat = mz7 → (0 ≤ i ∧ i ≤ 4) → (sm = sumI (apt (M 2) c) i) → (mn = sumI (cnt1 c) i) → G E (mw κ ma M) [(4, .int (iI i)), (3, .int (iI mn)), (2, .int (iI sm)), (0, .ref (ma 100)), (1, .int (iI c))] 7 [] := by
    intro mz7
    induction mz7 using Nat.strongRecOn with
    | _ mz7 ih7 =>
    intro i sm mn hmz7 hi hs hm
    refine g_iload F 0 dX6_pullOf_7 rfl ?_
    refine g_iconst F dX6_pullOf_9 ?_
    refine g_icmp_ge F 68 (by omega) dX6_pullOf_10 (by decide) (fun c10 => ?_) (fun c10 => ?_)
    · skip
      have hi4 : i = 4 := by omega
      have hsb := aptSum_bd ok h0.1 h0.2 hi.1 hi.2
      have hsm : 0 ≤ sm ∧ sm ≤ 396 := by rw [hs]; exact hsb
      have hc := clo_bd ok h0.1 h0.2
      refine g_iload_n F 2 dX6_pullOf_68 rfl ?_
      refine g_iconst F dX6_pullOf_69 ?_
      refine g_idiv F dX6_pullOf_70 (by omega) ?_
      refine g_top (y := iI (clo (cl M) c)) (congrArg iI (clo_sum (C := cl M) hs hi4)) ?_
      refine g_istore F (lv' := [(4, .int (iI (clo (cl M) c))), (3, .int (iI mn)), (2, .int (iI sm)), (0, .ref (ma 100)), (1, .int (iI c))]) dX6_pullOf_71 (by decide) rfl ?_
      refine g_aload_n F 3 dX6_pullOf_73 rfl ?_
      refine gm_get_0 F dX6_pullOf_74 ?_
      refine g_iload_n F 4 dX6_pullOf_77 rfl ?_
      refine gm_ald_0 F (by omega) dX6_pullOf_78 ?_
      have hk : (0 ≤ M 0 c ∧ M 0 c ≤ 5) ∧ (0 ≤ M 1 c ∧ M 1 c ≤ 9) ∧ 0 ≤ M 2 c ∧ M 2 c ≤ 99 := ok c (by omega) (by omega)
      by_cases c79_1 : (M 0 c) = 1
      · skip
        refine g_tsw_in F 112 (by omega) dX6_pullOf_79 (by omega) (by omega) (by rw [c79_1]; rfl) (by decide) ?_
        refine g_iload F 0 dX6_pullOf_112 rfl ?_
        refine g_iconst F dX6_pullOf_114 ?_
        refine g_idiv F dX6_pullOf_115 (by omega) ?_
        exact K mw_same ⟨congrArg iI (show (clo (cl M) c) / 2 = pull (cl M) c from by unfold pull; rw [if_pos c79_1]), rfl⟩ rfl dX6_pullOf_116
      by_cases c79_2 : (M 0 c) = 2
      · skip
        refine g_tsw_in F 117 (by omega) dX6_pullOf_79 (by omega) (by omega) (by rw [c79_2]; rfl) (by decide) ?_
        refine g_iload F 0 dX6_pullOf_117 rfl ?_
        refine g_iload_n F 1 dX6_pullOf_119 rfl ?_
        refine g_iadd F dX6_pullOf_120 ?_
        exact K mw_same ⟨congrArg iI (show (clo (cl M) c) + mn = pull (cl M) c from by unfold pull; rw [if_neg c79_1, if_pos c79_2, hm, hi4]), rfl⟩ rfl dX6_pullOf_121
      by_cases c79_3 : (M 0 c) = 3
      · skip
        refine g_tsw_in F 122 (by omega) dX6_pullOf_79 (by omega) (by omega) (by rw [c79_3]; rfl) (by decide) ?_
        refine g_iload F 0 dX6_pullOf_122 rfl ?_
        refine g_iconst F dX6_pullOf_124 ?_
        refine g_idiv F dX6_pullOf_125 (by omega) ?_
        refine g_aload_n F 3 dX6_pullOf_126 rfl ?_
        refine gm_get_1 F dX6_pullOf_127 ?_
        refine g_iload_n F 4 dX6_pullOf_130 rfl ?_
        refine gm_ald_1 F (by omega) dX6_pullOf_131 ?_
        refine g_iconst F dX6_pullOf_132 ?_
        refine g_idiv F dX6_pullOf_133 (by omega) ?_
        refine g_iadd F dX6_pullOf_134 ?_
        exact K mw_same ⟨congrArg iI (show ((clo (cl M) c) / 2) + ((M 1 c) / 3) = pull (cl M) c from by unfold pull; rw [if_neg c79_1, if_neg c79_2, if_pos c79_3]), rfl⟩ rfl dX6_pullOf_135
      by_cases c79_4 : (M 0 c) = 4
      · skip
        refine g_tsw_in F 136 (by omega) dX6_pullOf_79 (by omega) (by omega) (by rw [c79_4]; rfl) (by decide) ?_
        refine g_iconst F dX6_pullOf_136 ?_
        refine g_iload F 0 dX6_pullOf_137 rfl ?_
        refine g_imul F dX6_pullOf_139 ?_
        exact K mw_same ⟨congrArg iI (show 2 * (clo (cl M) c) = pull (cl M) c from by unfold pull; rw [if_neg c79_1, if_neg c79_2, if_neg c79_3, if_pos c79_4]), rfl⟩ rfl dX6_pullOf_140
      by_cases c79_5 : (M 0 c) = 5
      · skip
        refine g_tsw_in F 141 (by omega) dX6_pullOf_79 (by omega) (by omega) (by rw [c79_5]; rfl) (by decide) ?_
        refine g_iconst F dX6_pullOf_141 ?_
        refine g_iload F 0 dX6_pullOf_142 rfl ?_
        refine g_imul F dX6_pullOf_144 ?_
        refine g_aload_n F 3 dX6_pullOf_145 rfl ?_
        refine gm_get_1 F dX6_pullOf_146 ?_
        refine g_iload_n F 4 dX6_pullOf_149 rfl ?_
        refine gm_ald_1 F (by omega) dX6_pullOf_150 ?_
        refine g_isub F dX6_pullOf_151 ?_
        refine g_sipush F dX6_pullOf_152 (by decide +kernel) ?_
        refine g_callSI F (stk := [.int (iI 9999), .int (iI ((2 * (clo (cl M) c)) - (M 1 c)))]) (st := []) (k_X6_held κ (mw κ ma M) ((2 * (clo (cl M) c)) - (M 1 c)) 9999 (by omega)) cal_X6_held lm_X6_111 rfl (by decide) rfl (Nat.le_of_ble_eq_true rfl) dX6_pullOf_155 (fun r155 ws155 _ hr155 => ?_)
        obtain ⟨rfl, rfl⟩ := hr155
        exact K mw_same ⟨congrArg iI (show held ((2 * (clo (cl M) c)) - (M 1 c)) 9999 = pull (cl M) c from by unfold pull; rw [if_neg c79_1, if_neg c79_2, if_neg c79_3, if_neg c79_4, if_pos c79_5]; exact held_max (by omega)), rfl⟩ rfl dX6_pullOf_158
      refine g_tsw_out F 159 (by omega) dX6_pullOf_79 (by omega) (by decide) ?_
      refine g_iload F 0 dX6_pullOf_159 rfl ?_
      exact K mw_same ⟨congrArg iI (show clo (cl M) c = pull (cl M) c from by unfold pull; rw [if_neg c79_1, if_neg c79_2, if_neg c79_3, if_neg c79_4, if_neg c79_5]), rfl⟩ rfl dX6_pullOf_161
    · skip
      have hn := nbM_in h0.1 h0.2 (w := i) (by omega) (by omega)
      have hk : (0 ≤ M 0 c ∧ M 0 c ≤ 5) ∧ (0 ≤ M 1 c ∧ M 1 c ≤ 9) ∧ 0 ≤ M 2 c ∧ M 2 c ≤ 99 := ok c (by omega) (by omega)
      refine g_iload_n F 4 dX6_pullOf_13 rfl ?_
      refine g_iload F 0 dX6_pullOf_14 rfl ?_
      refine g_callSI F (stk := [.int (iI i), .int (iI c)]) (st := []) (k_X6_besideOf κ (mw κ ma M) c i (by omega)) cal_X6_besideOf lm_X6_104 rfl (by decide) rfl (Nat.le_of_ble_eq_true rfl) dX6_pullOf_16 (fun r16 ws16 _ hr16 => ?_)
      obtain ⟨rfl, rfl⟩ := hr16
      refine g_istore F (lv' := [(5, .int (iI (nbM c i))), (4, .int (iI i)), (3, .int (iI mn)), (2, .int (iI sm)), (0, .ref (ma 100)), (1, .int (iI c))]) dX6_pullOf_19 (by decide) rfl ?_
      refine g_iload_n F 3 dX6_pullOf_21 rfl ?_
      refine g_iload F 0 dX6_pullOf_22 rfl ?_
      refine g_if_ge F 31 (by omega) dX6_pullOf_24 (by decide) (fun c24 => ?_) (fun c24 => ?_)
      · skip
        refine g_aload_n F 4 dX6_pullOf_31 rfl ?_
        refine gm_get_2 F dX6_pullOf_32 ?_
        refine g_iload_n F 5 dX6_pullOf_35 rfl ?_
        refine gm_ald_2 F (by omega) dX6_pullOf_36 ?_
        refine g_aload_n F 4 dX6_pullOf_37 rfl ?_
        refine gm_get_2 F dX6_pullOf_38 ?_
        refine g_iload F 0 dX6_pullOf_41 rfl ?_
        refine gm_ald_2 F (by omega) dX6_pullOf_43 ?_
        have hk2 : (0 ≤ M 0 (nbM c i) ∧ M 0 (nbM c i) ≤ 5) ∧ (0 ≤ M 1 (nbM c i) ∧ M 1 (nbM c i) ≤ 9) ∧ 0 ≤ M 2 (nbM c i) ∧ M 2 (nbM c i) ≤ 99 := ok (nbM c i) (by omega) (by omega)
        refine g_callSI F (stk := [.int (iI (M 2 (nbM c i))), .int (iI (M 2 c)), .int (iI sm)]) (st := [.int (iI sm)]) (k_X6_apart κ (mw κ ma M) (M 2 c) (M 2 (nbM c i)) (by omega)) cal_X6_apart lm_X6_108 rfl (by decide) rfl (Nat.le_of_ble_eq_true rfl) dX6_pullOf_44 (fun r44 ws44 _ hr44 => ?_)
        obtain ⟨rfl, rfl⟩ := hr44
        refine g_iadd F dX6_pullOf_47 ?_
        refine g_istore_n F (lv' := [(2, .int (iI (sm + (aprt (M 2 c) (M 2 (nbM c i)))))), (5, .int (iI (nbM c i))), (4, .int (iI i)), (3, .int (iI mn)), (0, .ref (ma 100)), (1, .int (iI c))]) 2 dX6_pullOf_48 rfl (by decide) rfl ?_
        refine g_iload_n F 3 dX6_pullOf_49 rfl ?_
        refine g_iload F 1 dX6_pullOf_50 rfl ?_
        refine g_if_ge F 59 (by omega) dX6_pullOf_52 (by decide) (fun c52 => ?_) (fun c52 => ?_)
        · skip
          refine g_iconst F dX6_pullOf_59 ?_
          refine g_iadd F dX6_pullOf_60 ?_
          refine g_istore_n F (lv' := [(3, .int (iI (mn + 1))), (2, .int (iI (sm + (aprt (M 2 c) (M 2 (nbM c i)))))), (5, .int (iI (nbM c i))), (4, .int (iI i)), (0, .ref (ma 100)), (1, .int (iI c))]) 3 dX6_pullOf_61 rfl (by decide) rfl ?_
          refine g_iinc F (lv' := [(4, .int (iI (i + 1))), (3, .int (iI (mn + 1))), (2, .int (iI (sm + (aprt (M 2 c) (M 2 (nbM c i)))))), (5, .int (iI (nbM c i))), (0, .ref (ma 100)), (1, .int (iI c))]) 3 dX6_pullOf_62 rfl (by decide) rfl ?_
          refine g_goto F 7 dX6_pullOf_65 (by decide) ?_
          refine g_sub F (lv' := [(4, .int (iI (i + 1))), (3, .int (iI (mn + 1))), (2, .int (iI (sm + (aprt (M 2 c) (M 2 (nbM c i)))))), (0, .ref (ma 100)), (1, .int (iI c))]) [0, 1, 2, 4, 5] rfl ?_
          exact ih7 _ (by omega) (i + 1) (sm + (aprt (M 2 c) (M 2 (nbM c i)))) (mn + 1) rfl (by omega) (by rw [sumI_s _ hi.1]; first | (rw [apt_pos (by omega)]; have e := aprt_abs (M 2 c) (M 2 (nb c i)); rw [hn.2.2.1 c24] at e ⊢; omega) | (rw [apt_neg (hn.2.2.2 c24)]; omega)) (by rw [sumI_s _ hi.1]; first | (rw [cnt1_pos (by omega)]; omega) | (rw [cnt1_neg (by omega)]; omega))
        · skip
          refine g_iconst F dX6_pullOf_55 ?_
          refine g_goto F 60 dX6_pullOf_56 (by decide) ?_
          refine g_iadd F dX6_pullOf_60 ?_
          refine g_istore_n F (lv' := [(3, .int (iI (mn + 0))), (2, .int (iI (sm + (aprt (M 2 c) (M 2 (nbM c i)))))), (5, .int (iI (nbM c i))), (4, .int (iI i)), (0, .ref (ma 100)), (1, .int (iI c))]) 3 dX6_pullOf_61 rfl (by decide) rfl ?_
          refine g_iinc F (lv' := [(4, .int (iI (i + 1))), (3, .int (iI (mn + 0))), (2, .int (iI (sm + (aprt (M 2 c) (M 2 (nbM c i)))))), (5, .int (iI (nbM c i))), (0, .ref (ma 100)), (1, .int (iI c))]) 3 dX6_pullOf_62 rfl (by decide) rfl ?_
          refine g_goto F 7 dX6_pullOf_65 (by decide) ?_
          refine g_sub F (lv' := [(4, .int (iI (i + 1))), (3, .int (iI (mn + 0))), (2, .int (iI (sm + (aprt (M 2 c) (M 2 (nbM c i)))))), (0, .ref (ma 100)), (1, .int (iI c))]) [0, 1, 2, 4, 5] rfl ?_
          exact ih7 _ (by omega) (i + 1) (sm + (aprt (M 2 c) (M 2 (nbM c i)))) (mn + 0) rfl (by omega) (by rw [sumI_s _ hi.1]; first | (rw [apt_pos (by omega)]; have e := aprt_abs (M 2 c) (M 2 (nb c i)); rw [hn.2.2.1 c24] at e ⊢; omega) | (rw [apt_neg (hn.2.2.2 c24)]; omega)) (by rw [sumI_s _ hi.1]; first | (rw [cnt1_pos (by omega)]; omega) | (rw [cnt1_neg (by omega)]; omega))
      · skip
        refine g_iconst F dX6_pullOf_27 ?_
        refine g_goto F 47 dX6_pullOf_28 (by decide) ?_
        refine g_iadd F dX6_pullOf_47 ?_
        refine g_istore_n F (lv' := [(2, .int (iI (sm + 0))), (5, .int (iI (nbM c i))), (4, .int (iI i)), (3, .int (iI mn)), (0, .ref (ma 100)), (1, .int (iI c))]) 2 dX6_pullOf_48 rfl (by decide) rfl ?_
        refine g_iload_n F 3 dX6_pullOf_49 rfl ?_
        refine g_iload F 1 dX6_pullOf_50 rfl ?_
        refine g_if_ge F 59 (by omega) dX6_pullOf_52 (by decide) (fun c52 => ?_) (fun c52 => ?_)
        · skip
          refine g_iconst F dX6_pullOf_59 ?_
          refine g_iadd F dX6_pullOf_60 ?_
          refine g_istore_n F (lv' := [(3, .int (iI (mn + 1))), (2, .int (iI (sm + 0))), (5, .int (iI (nbM c i))), (4, .int (iI i)), (0, .ref (ma 100)), (1, .int (iI c))]) 3 dX6_pullOf_61 rfl (by decide) rfl ?_
          refine g_iinc F (lv' := [(4, .int (iI (i + 1))), (3, .int (iI (mn + 1))), (2, .int (iI (sm + 0))), (5, .int (iI (nbM c i))), (0, .ref (ma 100)), (1, .int (iI c))]) 3 dX6_pullOf_62 rfl (by decide) rfl ?_
          refine g_goto F 7 dX6_pullOf_65 (by decide) ?_
          refine g_sub F (lv' := [(4, .int (iI (i + 1))), (3, .int (iI (mn + 1))), (2, .int (iI (sm + 0))), (0, .ref (ma 100)), (1, .int (iI c))]) [0, 1, 2, 4, 5] rfl ?_
          exact ih7 _ (by omega) (i + 1) (sm + 0) (mn + 1) rfl (by omega) (by rw [sumI_s _ hi.1]; first | (rw [apt_pos (by omega)]; have e := aprt_abs (M 2 c) (M 2 (nb c i)); rw [hn.2.2.1 c24] at e ⊢; omega) | (rw [apt_neg (hn.2.2.2 c24)]; omega)) (by rw [sumI_s _ hi.1]; first | (rw [cnt1_pos (by omega)]; omega) | (rw [cnt1_neg (by omega)]; omega))
        · skip
          refine g_iconst F dX6_pullOf_55 ?_
          refine g_goto F 60 dX6_pullOf_56 (by decide) ?_
          refine g_iadd F dX6_pullOf_60 ?_
          refine g_istore_n F (lv' := [(3, .int (iI (mn + 0))), (2, .int (iI (sm + 0))), (5, .int (iI (nbM c i))), (4, .int (iI i)), (0, .ref (ma 100)), (1, .int (iI c))]) 3 dX6_pullOf_61 rfl (by decide) rfl ?_
          refine g_iinc F (lv' := [(4, .int (iI (i + 1))), (3, .int (iI (mn + 0))), (2, .int (iI (sm + 0))), (5, .int (iI (nbM c i))), (0, .ref (ma 100)), (1, .int (iI c))]) 3 dX6_pullOf_62 rfl (by decide) rfl ?_
          refine g_goto F 7 dX6_pullOf_65 (by decide) ?_
          refine g_sub F (lv' := [(4, .int (iI (i + 1))), (3, .int (iI (mn + 0))), (2, .int (iI (sm + 0))), (0, .ref (ma 100)), (1, .int (iI c))]) [0, 1, 2, 4, 5] rfl ?_
          exact ih7 _ (by omega) (i + 1) (sm + 0) (mn + 0) rfl (by omega) (by rw [sumI_s _ hi.1]; first | (rw [apt_pos (by omega)]; have e := aprt_abs (M 2 c) (M 2 (nb c i)); rw [hn.2.2.1 c24] at e ⊢; omega) | (rw [apt_neg (hn.2.2.2 c24)]; omega)) (by rw [sumI_s _ hi.1]; first | (rw [cnt1_pos (by omega)]; omega) | (rw [cnt1_neg (by omega)]; omega))
  refine g_sub F (lv' := [(4, .int (iI 0)), (3, .int (iI 0)), (2, .int (iI 0)), (0, .ref (ma 100)), (1, .int (iI c))]) [0, 1, 2, 3, 4] rfl ?_
  exact L7 _ 0 0 0 rfl (by omega) (sumI_0 _).symm (sumI_0 _).symm
end
section

theorem goI_yrM {M : MS} {k : Int} (h : 0 ≤ k) (h2 : M 4 0 + k < 1000000) : stC M (goI k (cl M)) 4 0 < 1000000 := by
  have e := goI_yr (C := cl M) h
  have e2 : yr (cl M) = M 4 0 := rfl
  show yr (goI k (cl M)) < 1000000
  omega
theorem div_p2 {b k : Int} (h : 0 ≤ b) : 0 ≤ b / p2 k := Int.ediv_nonneg h (by have := p2_pos k; omega)
theorem dX6_refuse_0 : decode cX6_refuse 0 = .ok (.aload_n 0, 1) := by decide +kernel
theorem dX6_refuse_1 : decode cX6_refuse 1 = .ok (.getfield 34, 3) := by decide +kernel
theorem dX6_refuse_4 : decode cX6_refuse 4 = .ok (.iload_n 1, 1) := by decide +kernel
theorem dX6_refuse_5 : decode cX6_refuse 5 = .ok (.ineg, 1) := by decide +kernel
theorem dX6_refuse_6 : decode cX6_refuse 6 = .ok (.dup2, 1) := by decide +kernel
theorem dX6_refuse_7 : decode cX6_refuse 7 = .ok (.iaload, 1) := by decide +kernel
theorem dX6_refuse_8 : decode cX6_refuse 8 = .ok (.iconst 1, 1) := by decide +kernel
theorem dX6_refuse_9 : decode cX6_refuse 9 = .ok (.iadd, 1) := by decide +kernel
theorem dX6_refuse_10 : decode cX6_refuse 10 = .ok (.iastore, 1) := by decide +kernel
theorem dX6_refuse_11 : decode cX6_refuse 11 = .ok (.iload_n 1, 1) := by decide +kernel
theorem dX6_refuse_12 : decode cX6_refuse 12 = .ok (.ireturn, 1) := by decide +kernel
set_option maxRecDepth 100000 in
set_option maxHeartbeats 4000000 in
theorem k_X6_refuse (κ : Kp) (ma : Nat → Nat) (M : MS) (m : Int)  (hm : -6 ≤ m ∧ m ≤ 0) : mI κ yX6_refuse cX6_refuse 2 .int 0 [.ref (ma 100), .int (iI m)] (mw κ ma M) (is1 (iI (m)) (mw κ ma (mA M 11 (uI (M 11) (-m) (M 11 (-m) + 1))))) := by
  refine mI_of (by decide) (Nat.le_of_ble_eq_true rfl) (fun E F K => ?_)
  refine g_lv (lv' := [(0, .ref (ma 100)), (1, .int (iI m))]) rfl ?_
  refine g_aload_n F 0 dX6_refuse_0 rfl ?_
  refine gm_get_11 F dX6_refuse_1 ?_
  refine g_iload_n F 1 dX6_refuse_4 rfl ?_
  refine g_ineg F dX6_refuse_5 ?_
  refine g_dup2 F dX6_refuse_6 rfl rfl ?_
  refine gm_ald_11 F (by omega) dX6_refuse_7 ?_
  refine g_iconst F dX6_refuse_8 ?_
  refine g_iadd F dX6_refuse_9 ?_
  refine gm_ast_11 F (by omega) dX6_refuse_10 ?_
  refine g_iload_n F 1 dX6_refuse_11 rfl ?_
  exact K mw_same ⟨rfl, rfl⟩ rfl dX6_refuse_12
theorem dX6_isPiece_0 : decode cX6_isPiece 0 = .ok (.iload_n 1, 1) := by decide +kernel
theorem dX6_isPiece_1 : decode cX6_isPiece 1 = .ok (.i2l, 1) := by decide +kernel
theorem dX6_isPiece_2 : decode cX6_isPiece 2 = .ok (.lconst 0, 1) := by decide +kernel
theorem dX6_isPiece_3 : decode cX6_isPiece 3 = .ok (.aload_n 0, 1) := by decide +kernel
theorem dX6_isPiece_4 : decode cX6_isPiece 4 = .ok (.getfield 101, 3) := by decide +kernel
theorem dX6_isPiece_7 : decode cX6_isPiece 7 = .ok (.iconst 1, 1) := by decide +kernel
theorem dX6_isPiece_8 : decode cX6_isPiece 8 = .ok (.isub, 1) := by decide +kernel
theorem dX6_isPiece_9 : decode cX6_isPiece 9 = .ok (.i2l, 1) := by decide +kernel
theorem dX6_isPiece_10 : decode cX6_isPiece 10 = .ok (.invokestatic 97, 3) := by decide +kernel
theorem dX6_isPiece_13 : decode cX6_isPiece 13 = .ok (.ireturn, 1) := by decide +kernel
set_option maxRecDepth 100000 in
set_option maxHeartbeats 4000000 in
theorem k_X6_isPiece (κ : Kp) (ma : Nat → Nat) (M : MS) (p : Int)  (hp : In32 p ∧ 0 ≤ M 5 0 ∧ M 5 0 ≤ 6) : mI κ yX6_isPiece cX6_isPiece 2 .boolean 1 [.ref (ma 100), .int (iI p)] (mw κ ma M) (is1 (iI (b2i (0 ≤ p ∧ p < M 5 0))) (mw κ ma M)) := by
  refine mI_of (by decide) (Nat.le_of_ble_eq_true rfl) (fun E F K => ?_)
  refine g_lv (lv' := [(0, .ref (ma 100)), (1, .int (iI p))]) rfl ?_
  refine g_iload_n F 1 dX6_isPiece_0 rfl ?_
  refine g_i2l F (by omega) dX6_isPiece_1 ?_
  refine g_lconst F (z := 0) dX6_isPiece_2 rfl ?_
  refine g_aload_n F 0 dX6_isPiece_3 rfl ?_
  refine gm_get_5 F dX6_isPiece_4 ?_
  refine g_iconst F dX6_isPiece_7 ?_
  refine g_isub F dX6_isPiece_8 ?_
  refine g_i2l F (by omega) dX6_isPiece_9 ?_
  refine g_callSI F (stk := [.long (iL ((M 5 0) - 1)), .long (iL 0), .long (iL p)]) (st := []) (k_X6_in κ (mw κ ma M) p 0 ((M 5 0) - 1) (by omega)) cal_X6_in lm_X6_97 rfl (by decide) rfl (Nat.le_of_ble_eq_true rfl) dX6_isPiece_10 (fun r10 ws10 _ hr10 => ?_)
  obtain ⟨rfl, rfl⟩ := hr10
  exact K mw_same ⟨b2i_c (by omega), rfl⟩ (b2i_nar _) dX6_isPiece_13
theorem dX6_hasBit_0 : decode cX6_hasBit 0 = .ok (.iload_n 0, 1) := by decide +kernel
theorem dX6_hasBit_1 : decode cX6_hasBit 1 = .ok (.iload_n 1, 1) := by decide +kernel
theorem dX6_hasBit_2 : decode cX6_hasBit 2 = .ok (.ishr, 1) := by decide +kernel
theorem dX6_hasBit_3 : decode cX6_hasBit 3 = .ok (.iconst 1, 1) := by decide +kernel
theorem dX6_hasBit_4 : decode cX6_hasBit 4 = .ok (.iand, 1) := by decide +kernel
theorem dX6_hasBit_5 : decode cX6_hasBit 5 = .ok (.iconst 1, 1) := by decide +kernel
theorem dX6_hasBit_6 : decode cX6_hasBit 6 = .ok (.if_icmp .ne 7, 3) := by decide +kernel
theorem dX6_hasBit_9 : decode cX6_hasBit 9 = .ok (.iconst 1, 1) := by decide +kernel
theorem dX6_hasBit_10 : decode cX6_hasBit 10 = .ok (.goto 4, 3) := by decide +kernel
theorem dX6_hasBit_13 : decode cX6_hasBit 13 = .ok (.iconst 0, 1) := by decide +kernel
theorem dX6_hasBit_14 : decode cX6_hasBit 14 = .ok (.ireturn, 1) := by decide +kernel
set_option maxRecDepth 100000 in
set_option maxHeartbeats 4000000 in
theorem k_X6_hasBit (κ : Kp) (ws : va_W) (b : Int) (k : Int)  (hb : (0 ≤ b ∧ b ≤ 65535) ∧ 0 ≤ k ∧ k ≤ 15) : mI κ yX6_hasBit cX6_hasBit 2 .boolean 0 [.int (iI b), .int (iI k)] ws (is1 (iI (b2i (b / p2 k % 2 = 1))) ws) := by
  refine mI_of (by decide) (Nat.le_of_ble_eq_true rfl) (fun E F K => ?_)
  refine g_lv (lv' := [(0, .int (iI b)), (1, .int (iI k))]) rfl ?_
  refine g_iload_n F 0 dX6_hasBit_0 rfl ?_
  refine g_iload_n F 1 dX6_hasBit_1 rfl ?_
  refine g_ishr F dX6_hasBit_2 ?_
  refine g_top (y := iI (b / p2 k)) (iI_shr (by omega) (by omega) (by omega) (by omega)) ?_
  refine g_iconst F dX6_hasBit_3 ?_
  refine g_iand F dX6_hasBit_4 ?_
  refine g_top (y := iI (b / p2 k % 2)) (iI_and1 (div_p2 hb.1.1)) ?_
  refine g_iconst F dX6_hasBit_5 ?_
  refine g_icmp_ne F 13 (by omega) dX6_hasBit_6 (by decide) (fun c6 => ?_) (fun c6 => ?_)
  · skip
    refine g_iconst F dX6_hasBit_13 ?_
    exact K sameA.rf ⟨b2i_0 (by omega), rfl⟩ (by decide +kernel) dX6_hasBit_14
  · skip
    refine g_iconst F dX6_hasBit_9 ?_
    refine g_goto F 14 dX6_hasBit_10 (by decide) ?_
    exact K sameA.rf ⟨b2i_1 (by omega), rfl⟩ (by decide +kernel) dX6_hasBit_14
theorem dX6_wearsIn_0 : decode cX6_wearsIn 0 = .ok (.aload_n 0, 1) := by decide +kernel
theorem dX6_wearsIn_1 : decode cX6_wearsIn 1 = .ok (.iload_n 1, 1) := by decide +kernel
theorem dX6_wearsIn_2 : decode cX6_wearsIn 2 = .ok (.invokevirtual 114, 3) := by decide +kernel
theorem dX6_wearsIn_5 : decode cX6_wearsIn 5 = .ok (.iconst 5, 1) := by decide +kernel
theorem dX6_wearsIn_6 : decode cX6_wearsIn 6 = .ok (.idiv, 1) := by decide +kernel
theorem dX6_wearsIn_7 : decode cX6_wearsIn 7 = .ok (.istore_n 3, 1) := by decide +kernel
theorem dX6_wearsIn_8 : decode cX6_wearsIn 8 = .ok (.aload_n 0, 1) := by decide +kernel
theorem dX6_wearsIn_9 : decode cX6_wearsIn 9 = .ok (.getfield 7, 3) := by decide +kernel
theorem dX6_wearsIn_12 : decode cX6_wearsIn 12 = .ok (.iload_n 1, 1) := by decide +kernel
theorem dX6_wearsIn_13 : decode cX6_wearsIn 13 = .ok (.iaload, 1) := by decide +kernel
theorem dX6_wearsIn_14 : decode cX6_wearsIn 14 = .ok (.tableswitch 50 2 5 #[30, 34, 50, 48], 30) := by decide +kernel
theorem dX6_wearsIn_44 : decode cX6_wearsIn 44 = .ok (.iconst 2, 1) := by decide +kernel
theorem dX6_wearsIn_45 : decode cX6_wearsIn 45 = .ok (.iload_n 3, 1) := by decide +kernel
theorem dX6_wearsIn_46 : decode cX6_wearsIn 46 = .ok (.iadd, 1) := by decide +kernel
theorem dX6_wearsIn_47 : decode cX6_wearsIn 47 = .ok (.ireturn, 1) := by decide +kernel
theorem dX6_wearsIn_48 : decode cX6_wearsIn 48 = .ok (.iload_n 2, 1) := by decide +kernel
theorem dX6_wearsIn_49 : decode cX6_wearsIn 49 = .ok (.iconst 2, 1) := by decide +kernel
theorem dX6_wearsIn_50 : decode cX6_wearsIn 50 = .ok (.irem, 1) := by decide +kernel
theorem dX6_wearsIn_51 : decode cX6_wearsIn 51 = .ok (.ifCond .ne 7, 3) := by decide +kernel
theorem dX6_wearsIn_54 : decode cX6_wearsIn 54 = .ok (.iconst 0, 1) := by decide +kernel
theorem dX6_wearsIn_55 : decode cX6_wearsIn 55 = .ok (.goto 6, 3) := by decide +kernel
theorem dX6_wearsIn_58 : decode cX6_wearsIn 58 = .ok (.iconst 1, 1) := by decide +kernel
theorem dX6_wearsIn_59 : decode cX6_wearsIn 59 = .ok (.iload_n 3, 1) := by decide +kernel
theorem dX6_wearsIn_60 : decode cX6_wearsIn 60 = .ok (.iadd, 1) := by decide +kernel
theorem dX6_wearsIn_61 : decode cX6_wearsIn 61 = .ok (.ireturn, 1) := by decide +kernel
theorem dX6_wearsIn_62 : decode cX6_wearsIn 62 = .ok (.iload_n 3, 1) := by decide +kernel
theorem dX6_wearsIn_63 : decode cX6_wearsIn 63 = .ok (.ireturn, 1) := by decide +kernel
theorem dX6_wearsIn_64 : decode cX6_wearsIn 64 = .ok (.iconst 1, 1) := by decide +kernel
theorem dX6_wearsIn_65 : decode cX6_wearsIn 65 = .ok (.iload_n 3, 1) := by decide +kernel
theorem dX6_wearsIn_66 : decode cX6_wearsIn 66 = .ok (.iadd, 1) := by decide +kernel
theorem dX6_wearsIn_67 : decode cX6_wearsIn 67 = .ok (.ireturn, 1) := by decide +kernel
set_option maxRecDepth 100000 in
set_option maxHeartbeats 4000000 in
theorem k_X6_wearsIn (κ : Kp) (ma : Nat → Nat) (M : MS) (c : Int) (y : Int)  (h0 : 0 ≤ c ∧ c < 12) (hy : 0 ≤ y ∧ y ≤ 1000000) (ok : okA (cl M)) : mI κ yX6_wearsIn cX6_wearsIn 4 .int 2 [.ref (ma 100), .int (iI c), .int (iI y)] (mw κ ma M) (is1 (iI (wearing (cl M) y c)) (mw κ ma M)) := by
  refine mI_of (by decide) (Nat.le_of_ble_eq_true rfl) (fun E F K => ?_)
  refine g_lv (lv' := [(0, .ref (ma 100)), (1, .int (iI c)), (2, .int (iI y))]) rfl ?_
  refine g_aload_n F 0 dX6_wearsIn_0 rfl ?_
  refine g_iload_n F 1 dX6_wearsIn_1 rfl ?_
  refine g_callI F (stk := [.int (iI c), .ref (ma 100)]) (st := []) (k_X6_pullOf κ ma M c (by omega) ok) cal_X6_pullOf lm_X6_114 0 rfl rfl rfl rfl (by decide) rfl (Nat.le_of_ble_eq_true rfl) dX6_wearsIn_2 (fun r2 ws2 _ hr2 => ?_)
  obtain ⟨rfl, rfl⟩ := hr2
  have hp := pull_bd ok h0.1 h0.2
  refine g_iconst F dX6_wearsIn_5 ?_
  refine g_idiv F dX6_wearsIn_6 (by omega) ?_
  refine g_istore_n F (lv' := [(3, .int (iI ((pull (cl M) c) / 5))), (0, .ref (ma 100)), (1, .int (iI c)), (2, .int (iI y))]) 3 dX6_wearsIn_7 rfl (by decide) rfl ?_
  refine g_aload_n F 1 dX6_wearsIn_8 rfl ?_
  refine gm_get_0 F dX6_wearsIn_9 ?_
  refine g_iload_n F 2 dX6_wearsIn_12 rfl ?_
  refine gm_ald_0 F (by omega) dX6_wearsIn_13 ?_
  have hk : (0 ≤ M 0 c ∧ M 0 c ≤ 5) ∧ (0 ≤ M 1 c ∧ M 1 c ≤ 9) ∧ 0 ≤ M 2 c ∧ M 2 c ≤ 99 := ok c (by omega) (by omega)
  by_cases c14_2 : (M 0 c) = 2
  · skip
    refine g_tsw_in F 44 (by omega) dX6_wearsIn_14 (by omega) (by omega) (by rw [c14_2]; rfl) (by decide) ?_
    refine g_iconst F dX6_wearsIn_44 ?_
    refine g_iload_n F 0 dX6_wearsIn_45 rfl ?_
    refine g_iadd F dX6_wearsIn_46 ?_
    exact K mw_same ⟨congrArg iI (show 2 + ((pull (cl M) c) / 5) = wearing (cl M) y c from by unfold wearing; rw [if_pos c14_2]), rfl⟩ rfl dX6_wearsIn_47
  by_cases c14_3 : (M 0 c) = 3
  · skip
    refine g_tsw_in F 48 (by omega) dX6_wearsIn_14 (by omega) (by omega) (by rw [c14_3]; rfl) (by decide) ?_
    refine g_iload_n F 3 dX6_wearsIn_48 rfl ?_
    refine g_iconst F dX6_wearsIn_49 ?_
    refine g_irem F dX6_wearsIn_50 (by omega) ?_
    refine g_if_ne F 58 (by omega) dX6_wearsIn_51 (by decide) (fun c51 => ?_) (fun c51 => ?_)
    · skip
      refine g_iconst F dX6_wearsIn_58 ?_
      refine g_iload_n F 0 dX6_wearsIn_59 rfl ?_
      refine g_iadd F dX6_wearsIn_60 ?_
      exact K mw_same ⟨congrArg iI (show 1 + ((pull (cl M) c) / 5) = wearing (cl M) y c from by unfold wearing; first | rw [if_neg c14_2, if_pos c14_3, if_neg c51] | rw [if_neg c14_2, if_pos c14_3, if_pos c51]), rfl⟩ rfl dX6_wearsIn_61
    · skip
      refine g_iconst F dX6_wearsIn_54 ?_
      refine g_goto F 61 dX6_wearsIn_55 (by decide) ?_
      exact K mw_same ⟨congrArg iI (show 0 = wearing (cl M) y c from by unfold wearing; first | rw [if_neg c14_2, if_pos c14_3, if_neg c51] | rw [if_neg c14_2, if_pos c14_3, if_pos c51]), rfl⟩ rfl dX6_wearsIn_61
  by_cases c14_5 : (M 0 c) = 5
  · skip
    refine g_tsw_in F 62 (by omega) dX6_wearsIn_14 (by omega) (by omega) (by rw [c14_5]; rfl) (by decide) ?_
    refine g_iload_n F 0 dX6_wearsIn_62 rfl ?_
    exact K mw_same ⟨congrArg iI (show (pull (cl M) c) / 5 = wearing (cl M) y c from by unfold wearing; rw [if_neg c14_2, if_neg c14_3, if_pos c14_5]), rfl⟩ rfl dX6_wearsIn_63
  by_cases c14_4 : (M 0 c) = 4
  · skip
    refine g_tsw_in F 64 (by omega) dX6_wearsIn_14 (by omega) (by omega) (by rw [c14_4]; rfl) (by decide) ?_
    refine g_iconst F dX6_wearsIn_64 ?_
    refine g_iload_n F 0 dX6_wearsIn_65 rfl ?_
    refine g_iadd F dX6_wearsIn_66 ?_
    exact K mw_same ⟨congrArg iI (show 1 + ((pull (cl M) c) / 5) = wearing (cl M) y c from by unfold wearing; rw [if_neg c14_2, if_neg c14_3, if_neg c14_5]), rfl⟩ rfl dX6_wearsIn_67
  refine g_tsw_out F 64 (by omega) dX6_wearsIn_14 (by omega) (by decide) ?_
  refine g_iconst F dX6_wearsIn_64 ?_
  refine g_iload_n F 0 dX6_wearsIn_65 rfl ?_
  refine g_iadd F dX6_wearsIn_66 ?_
  exact K mw_same ⟨congrArg iI (show 1 + ((pull (cl M) c) / 5) = wearing (cl M) y c from by unfold wearing; rw [if_neg c14_2, if_neg c14_3, if_neg c14_5]), rfl⟩ rfl dX6_wearsIn_67
theorem dX6_holdsOf_0 : decode cX6_holdsOf 0 = .ok (.aload_n 0, 1) := by decide +kernel
theorem dX6_holdsOf_1 : decode cX6_holdsOf 1 = .ok (.getfield 7, 3) := by decide +kernel
theorem dX6_holdsOf_4 : decode cX6_holdsOf 4 = .ok (.iload_n 1, 1) := by decide +kernel
theorem dX6_holdsOf_5 : decode cX6_holdsOf 5 = .ok (.iaload, 1) := by decide +kernel
theorem dX6_holdsOf_6 : decode cX6_holdsOf 6 = .ok (.tableswitch 61 1 5 #[34, 44, 34, 56, 58], 34) := by decide +kernel
theorem dX6_holdsOf_40 : decode cX6_holdsOf 40 = .ok (.bipush 15, 2) := by decide +kernel
theorem dX6_holdsOf_42 : decode cX6_holdsOf 42 = .ok (.aload_n 0, 1) := by decide +kernel
theorem dX6_holdsOf_43 : decode cX6_holdsOf 43 = .ok (.getfield 13, 3) := by decide +kernel
theorem dX6_holdsOf_46 : decode cX6_holdsOf 46 = .ok (.iload_n 1, 1) := by decide +kernel
theorem dX6_holdsOf_47 : decode cX6_holdsOf 47 = .ok (.iaload, 1) := by decide +kernel
theorem dX6_holdsOf_48 : decode cX6_holdsOf 48 = .ok (.iadd, 1) := by decide +kernel
theorem dX6_holdsOf_49 : decode cX6_holdsOf 49 = .ok (.ireturn, 1) := by decide +kernel
theorem dX6_holdsOf_50 : decode cX6_holdsOf 50 = .ok (.bipush 10, 2) := by decide +kernel
theorem dX6_holdsOf_52 : decode cX6_holdsOf 52 = .ok (.aload_n 0, 1) := by decide +kernel
theorem dX6_holdsOf_53 : decode cX6_holdsOf 53 = .ok (.getfield 13, 3) := by decide +kernel
theorem dX6_holdsOf_56 : decode cX6_holdsOf 56 = .ok (.iload_n 1, 1) := by decide +kernel
theorem dX6_holdsOf_57 : decode cX6_holdsOf 57 = .ok (.iaload, 1) := by decide +kernel
theorem dX6_holdsOf_58 : decode cX6_holdsOf 58 = .ok (.iadd, 1) := by decide +kernel
theorem dX6_holdsOf_59 : decode cX6_holdsOf 59 = .ok (.iconst 2, 1) := by decide +kernel
theorem dX6_holdsOf_60 : decode cX6_holdsOf 60 = .ok (.idiv, 1) := by decide +kernel
theorem dX6_holdsOf_61 : decode cX6_holdsOf 61 = .ok (.ireturn, 1) := by decide +kernel
theorem dX6_holdsOf_62 : decode cX6_holdsOf 62 = .ok (.iconst 5, 1) := by decide +kernel
theorem dX6_holdsOf_63 : decode cX6_holdsOf 63 = .ok (.ireturn, 1) := by decide +kernel
theorem dX6_holdsOf_64 : decode cX6_holdsOf 64 = .ok (.bipush 10, 2) := by decide +kernel
theorem dX6_holdsOf_66 : decode cX6_holdsOf 66 = .ok (.ireturn, 1) := by decide +kernel
theorem dX6_holdsOf_67 : decode cX6_holdsOf 67 = .ok (.bipush 10, 2) := by decide +kernel
theorem dX6_holdsOf_69 : decode cX6_holdsOf 69 = .ok (.aload_n 0, 1) := by decide +kernel
theorem dX6_holdsOf_70 : decode cX6_holdsOf 70 = .ok (.getfield 13, 3) := by decide +kernel
theorem dX6_holdsOf_73 : decode cX6_holdsOf 73 = .ok (.iload_n 1, 1) := by decide +kernel
theorem dX6_holdsOf_74 : decode cX6_holdsOf 74 = .ok (.iaload, 1) := by decide +kernel
theorem dX6_holdsOf_75 : decode cX6_holdsOf 75 = .ok (.iadd, 1) := by decide +kernel
theorem dX6_holdsOf_76 : decode cX6_holdsOf 76 = .ok (.ireturn, 1) := by decide +kernel
set_option maxRecDepth 100000 in
set_option maxHeartbeats 4000000 in
theorem k_X6_holdsOf (κ : Kp) (ma : Nat → Nat) (M : MS) (c : Int)  (h0 : 0 ≤ c ∧ c < 12) (ok : okA (cl M)) : mI κ yX6_holdsOf cX6_holdsOf 2 .int 0 [.ref (ma 100), .int (iI c)] (mw κ ma M) (is1 (iI (hold (cl M) c)) (mw κ ma M)) := by
  refine mI_of (by decide) (Nat.le_of_ble_eq_true rfl) (fun E F K => ?_)
  refine g_lv (lv' := [(0, .ref (ma 100)), (1, .int (iI c))]) rfl ?_
  refine g_aload_n F 0 dX6_holdsOf_0 rfl ?_
  refine gm_get_0 F dX6_holdsOf_1 ?_
  have hk : (0 ≤ M 0 c ∧ M 0 c ≤ 5) ∧ (0 ≤ M 1 c ∧ M 1 c ≤ 9) ∧ 0 ≤ M 2 c ∧ M 2 c ≤ 99 := ok c (by omega) (by omega)
  refine g_iload_n F 1 dX6_holdsOf_4 rfl ?_
  refine gm_ald_0 F (by omega) dX6_holdsOf_5 ?_
  by_cases c6_1 : (M 0 c) = 1
  · skip
    refine g_tsw_in F 40 (by omega) dX6_holdsOf_6 (by omega) (by omega) (by rw [c6_1]; rfl) (by decide) ?_
    refine g_bipush F dX6_holdsOf_40 (by decide +kernel) ?_
    refine g_aload_n F 0 dX6_holdsOf_42 rfl ?_
    refine gm_get_1 F dX6_holdsOf_43 ?_
    refine g_iload_n F 1 dX6_holdsOf_46 rfl ?_
    refine gm_ald_1 F (by omega) dX6_holdsOf_47 ?_
    refine g_iadd F dX6_holdsOf_48 ?_
    exact K mw_same ⟨congrArg iI (show 15 + (M 1 c) = hold (cl M) c from by unfold hold; first | rw [if_pos (Or.inl c6_1)] | rw [if_pos (Or.inr c6_3)]), rfl⟩ rfl dX6_holdsOf_49
  by_cases c6_2 : (M 0 c) = 2
  · skip
    refine g_tsw_in F 50 (by omega) dX6_holdsOf_6 (by omega) (by omega) (by rw [c6_2]; rfl) (by decide) ?_
    refine g_bipush F dX6_holdsOf_50 (by decide +kernel) ?_
    refine g_aload_n F 0 dX6_holdsOf_52 rfl ?_
    refine gm_get_1 F dX6_holdsOf_53 ?_
    refine g_iload_n F 1 dX6_holdsOf_56 rfl ?_
    refine gm_ald_1 F (by omega) dX6_holdsOf_57 ?_
    refine g_iadd F dX6_holdsOf_58 ?_
    refine g_iconst F dX6_holdsOf_59 ?_
    refine g_idiv F dX6_holdsOf_60 (by omega) ?_
    exact K mw_same ⟨congrArg iI (show (10 + (M 1 c)) / 2 = hold (cl M) c from by unfold hold; rw [if_neg (by show ¬ (M 0 c = 1 ∨ M 0 c = 3); omega), if_pos c6_2]), rfl⟩ rfl dX6_holdsOf_61
  by_cases c6_3 : (M 0 c) = 3
  · skip
    refine g_tsw_in F 40 (by omega) dX6_holdsOf_6 (by omega) (by omega) (by rw [c6_3]; rfl) (by decide) ?_
    refine g_bipush F dX6_holdsOf_40 (by decide +kernel) ?_
    refine g_aload_n F 0 dX6_holdsOf_42 rfl ?_
    refine gm_get_1 F dX6_holdsOf_43 ?_
    refine g_iload_n F 1 dX6_holdsOf_46 rfl ?_
    refine gm_ald_1 F (by omega) dX6_holdsOf_47 ?_
    refine g_iadd F dX6_holdsOf_48 ?_
    exact K mw_same ⟨congrArg iI (show 15 + (M 1 c) = hold (cl M) c from by unfold hold; first | rw [if_pos (Or.inl c6_1)] | rw [if_pos (Or.inr c6_3)]), rfl⟩ rfl dX6_holdsOf_49
  by_cases c6_4 : (M 0 c) = 4
  · skip
    refine g_tsw_in F 62 (by omega) dX6_holdsOf_6 (by omega) (by omega) (by rw [c6_4]; rfl) (by decide) ?_
    refine g_iconst F dX6_holdsOf_62 ?_
    exact K mw_same ⟨congrArg iI (show 5 = hold (cl M) c from by unfold hold; rw [if_neg (by show ¬ (M 0 c = 1 ∨ M 0 c = 3); omega), if_neg c6_2, if_pos c6_4]), rfl⟩ rfl dX6_holdsOf_63
  by_cases c6_5 : (M 0 c) = 5
  · skip
    refine g_tsw_in F 64 (by omega) dX6_holdsOf_6 (by omega) (by omega) (by rw [c6_5]; rfl) (by decide) ?_
    refine g_bipush F dX6_holdsOf_64 (by decide +kernel) ?_
    exact K mw_same ⟨congrArg iI (show 10 = hold (cl M) c from by unfold hold; rw [if_neg (by show ¬ (M 0 c = 1 ∨ M 0 c = 3); omega), if_neg c6_2, if_neg c6_4, if_pos c6_5]), rfl⟩ rfl dX6_holdsOf_66
  refine g_tsw_out F 67 (by omega) dX6_holdsOf_6 (by omega) (by decide) ?_
  refine g_bipush F dX6_holdsOf_67 (by decide +kernel) ?_
  refine g_aload_n F 0 dX6_holdsOf_69 rfl ?_
  refine gm_get_1 F dX6_holdsOf_70 ?_
  refine g_iload_n F 1 dX6_holdsOf_73 rfl ?_
  refine gm_ald_1 F (by omega) dX6_holdsOf_74 ?_
  refine g_iadd F dX6_holdsOf_75 ?_
  exact K mw_same ⟨congrArg iI (show 10 + (M 1 c) = hold (cl M) c from by unfold hold; rw [if_neg (by show ¬ (M 0 c = 1 ∨ M 0 c = 3); omega), if_neg c6_2, if_neg c6_4, if_neg c6_5]), rfl⟩ rfl dX6_holdsOf_76
theorem dX6_isHole_0 : decode cX6_isHole 0 = .ok (.aload_n 0, 1) := by decide +kernel
theorem dX6_isHole_1 : decode cX6_isHole 1 = .ok (.getfield 19, 3) := by decide +kernel
theorem dX6_isHole_4 : decode cX6_isHole 4 = .ok (.iload_n 1, 1) := by decide +kernel
theorem dX6_isHole_5 : decode cX6_isHole 5 = .ok (.iaload, 1) := by decide +kernel
theorem dX6_isHole_6 : decode cX6_isHole 6 = .ok (.aload_n 0, 1) := by decide +kernel
theorem dX6_isHole_7 : decode cX6_isHole 7 = .ok (.iload_n 1, 1) := by decide +kernel
theorem dX6_isHole_8 : decode cX6_isHole 8 = .ok (.invokevirtual 118, 3) := by decide +kernel
theorem dX6_isHole_11 : decode cX6_isHole 11 = .ok (.if_icmp .lt 7, 3) := by decide +kernel
theorem dX6_isHole_14 : decode cX6_isHole 14 = .ok (.iconst 1, 1) := by decide +kernel
theorem dX6_isHole_15 : decode cX6_isHole 15 = .ok (.goto 4, 3) := by decide +kernel
theorem dX6_isHole_18 : decode cX6_isHole 18 = .ok (.iconst 0, 1) := by decide +kernel
theorem dX6_isHole_19 : decode cX6_isHole 19 = .ok (.ireturn, 1) := by decide +kernel
set_option maxRecDepth 100000 in
set_option maxHeartbeats 4000000 in
theorem k_X6_isHole (κ : Kp) (ma : Nat → Nat) (M : MS) (c : Int)  (h0 : 0 ≤ c ∧ c < 12) (ok : okC (cl M)) : mI κ yX6_isHole cX6_isHole 2 .boolean 1 [.ref (ma 100), .int (iI c)] (mw κ ma M) (is1 (iI (b2i (hole (cl M) c))) (mw κ ma M)) := by
  refine mI_of (by decide) (Nat.le_of_ble_eq_true rfl) (fun E F K => ?_)
  refine g_lv (lv' := [(0, .ref (ma 100)), (1, .int (iI c))]) rfl ?_
  refine g_aload_n F 0 dX6_isHole_0 rfl ?_
  refine gm_get_3 F dX6_isHole_1 ?_
  refine g_iload_n F 1 dX6_isHole_4 rfl ?_
  refine gm_ald_3 F (by omega) dX6_isHole_5 ?_
  refine g_aload_n F 0 dX6_isHole_6 rfl ?_
  refine g_iload_n F 1 dX6_isHole_7 rfl ?_
  refine g_callI F (stk := [.int (iI c), .ref (ma 100), .int (iI (M 3 c))]) (st := [.int (iI (M 3 c))]) (k_X6_holdsOf κ ma M c (by omega) ok.A) cal_X6_holdsOf lm_X6_118 0 rfl rfl rfl rfl (by decide) rfl (Nat.le_of_ble_eq_true rfl) dX6_isHole_8 (fun r8 ws8 _ hr8 => ?_)
  obtain ⟨rfl, rfl⟩ := hr8
  have hk : (0 ≤ M 0 c ∧ M 0 c ≤ 5) ∧ (0 ≤ M 1 c ∧ M 1 c ≤ 9) ∧ (0 ≤ M 2 c ∧ M 2 c ≤ 99) ∧ 0 ≤ M 3 c ∧ M 3 c ≤ 99 := ok.r (by omega) (by omega)
  have hd := hold_bd ok.A h0.1 h0.2
  refine g_icmp_lt F 18 (by omega) dX6_isHole_11 (by decide) (fun c11 => ?_) (fun c11 => ?_)
  · skip
    refine g_iconst F dX6_isHole_18 ?_
    exact K mw_same ⟨b2i_0 (show ¬ hold (cl M) c ≤ M 3 c by omega), rfl⟩ (by decide +kernel) dX6_isHole_19
  · skip
    refine g_iconst F dX6_isHole_14 ?_
    refine g_goto F 19 dX6_isHole_15 (by decide) ?_
    exact K mw_same ⟨b2i_1 (show hold (cl M) c ≤ M 3 c by omega), rfl⟩ (by decide +kernel) dX6_isHole_19
theorem dX6_holeBits_0 : decode cX6_holeBits 0 = .ok (.iconst 0, 1) := by decide +kernel
theorem dX6_holeBits_1 : decode cX6_holeBits 1 = .ok (.istore_n 1, 1) := by decide +kernel
theorem dX6_holeBits_2 : decode cX6_holeBits 2 = .ok (.iconst 0, 1) := by decide +kernel
theorem dX6_holeBits_3 : decode cX6_holeBits 3 = .ok (.istore_n 2, 1) := by decide +kernel
theorem dX6_holeBits_4 : decode cX6_holeBits 4 = .ok (.iload_n 2, 1) := by decide +kernel
theorem dX6_holeBits_5 : decode cX6_holeBits 5 = .ok (.bipush 12, 2) := by decide +kernel
theorem dX6_holeBits_7 : decode cX6_holeBits 7 = .ok (.if_icmp .ge 27, 3) := by decide +kernel
theorem dX6_holeBits_10 : decode cX6_holeBits 10 = .ok (.iload_n 1, 1) := by decide +kernel
theorem dX6_holeBits_11 : decode cX6_holeBits 11 = .ok (.aload_n 0, 1) := by decide +kernel
theorem dX6_holeBits_12 : decode cX6_holeBits 12 = .ok (.iload_n 2, 1) := by decide +kernel
theorem dX6_holeBits_13 : decode cX6_holeBits 13 = .ok (.invokevirtual 121, 3) := by decide +kernel
theorem dX6_holeBits_16 : decode cX6_holeBits 16 = .ok (.ifCond .eq 9, 3) := by decide +kernel
theorem dX6_holeBits_19 : decode cX6_holeBits 19 = .ok (.iconst 1, 1) := by decide +kernel
theorem dX6_holeBits_20 : decode cX6_holeBits 20 = .ok (.iload_n 2, 1) := by decide +kernel
theorem dX6_holeBits_21 : decode cX6_holeBits 21 = .ok (.ishl, 1) := by decide +kernel
theorem dX6_holeBits_22 : decode cX6_holeBits 22 = .ok (.goto 4, 3) := by decide +kernel
theorem dX6_holeBits_25 : decode cX6_holeBits 25 = .ok (.iconst 0, 1) := by decide +kernel
theorem dX6_holeBits_26 : decode cX6_holeBits 26 = .ok (.ior, 1) := by decide +kernel
theorem dX6_holeBits_27 : decode cX6_holeBits 27 = .ok (.istore_n 1, 1) := by decide +kernel
theorem dX6_holeBits_28 : decode cX6_holeBits 28 = .ok (.iinc 2 1, 3) := by decide +kernel
theorem dX6_holeBits_31 : decode cX6_holeBits 31 = .ok (.goto (-27), 3) := by decide +kernel
theorem dX6_holeBits_34 : decode cX6_holeBits 34 = .ok (.iload_n 1, 1) := by decide +kernel
theorem dX6_holeBits_35 : decode cX6_holeBits 35 = .ok (.ireturn, 1) := by decide +kernel
set_option maxRecDepth 100000 in
set_option maxHeartbeats 4000000 in
theorem k_X6_holeBits (κ : Kp) (ma : Nat → Nat) (M : MS)  (ok : okC (cl M)) : mI κ yX6_holeBits cX6_holeBits 3 .int 2 [.ref (ma 100)] (mw κ ma M) (is1 (iI (hbits (cl M))) (mw κ ma M)) := by
  refine mI_of (by decide) (Nat.le_of_ble_eq_true rfl) (fun E F K => ?_)
  refine g_lv (lv' := [(0, .ref (ma 100))]) rfl ?_
  refine g_iconst F dX6_holeBits_0 ?_
  refine g_istore_n F (lv' := [(1, .int (iI 0)), (0, .ref (ma 100))]) 1 dX6_holeBits_1 rfl (by decide) rfl ?_
  refine g_iconst F dX6_holeBits_2 ?_
  refine g_istore_n F (lv' := [(2, .int (iI 0)), (1, .int (iI 0)), (0, .ref (ma 100))]) 2 dX6_holeBits_3 rfl (by decide) rfl ?_
  have L4 : ∀ (mz4 : Nat) (i : Int) (b : Int), (12 - i).toNat = mz4 → (0 ≤ i ∧ i ≤ 12) → (b = sumI (hbf (cl M)) i) → G E (mw κ ma M) [(2, .int (iI i)), (1, .int (iI b)), (0, .ref (ma 100))] 4 [] := by
    intro mz4
    induction mz4 using Nat.strongRecOn with
    | _ mz4 ih4 =>
    intro i b hmz4 hi hb
    refine g_iload_n F 0 dX6_holeBits_4 rfl ?_
    refine g_bipush F dX6_holeBits_5 (by decide +kernel) ?_
    refine g_icmp_ge F 34 (by omega) dX6_holeBits_7 (by decide) (fun c7 => ?_) (fun c7 => ?_)
    · skip
      refine g_iload_n F 1 dX6_holeBits_34 rfl ?_
      exact K mw_same ⟨congrArg iI (show b = hbits (cl M) from by rw [hb, show i = 12 by omega]; rfl), rfl⟩ rfl dX6_holeBits_35
    · skip
      have hbb : 0 ≤ b ∧ b < p2 i := by rw [hb]; exact hbits_bd _ hi.1
      refine g_iload_n F 1 dX6_holeBits_10 rfl ?_
      refine g_aload_n F 2 dX6_holeBits_11 rfl ?_
      refine g_iload_n F 0 dX6_holeBits_12 rfl ?_
      refine g_callI F (stk := [.int (iI i), .ref (ma 100), .int (iI b)]) (st := [.int (iI b)]) (k_X6_isHole κ ma M i (by omega) ok) cal_X6_isHole lm_X6_121 0 rfl rfl rfl rfl (by decide) rfl (Nat.le_of_ble_eq_true rfl) dX6_holeBits_13 (fun r13 ws13 _ hr13 => ?_)
      obtain ⟨rfl, rfl⟩ := hr13
      refine g_if_eq F 25 (b2i_in _) dX6_holeBits_16 (by decide) (fun c16 => ?_) (fun c16 => ?_)
      · skip
        have c16 : ¬ (hole (cl M) i) := b2i_f c16
        refine g_iconst F dX6_holeBits_25 ?_
        refine g_ior F dX6_holeBits_26 ?_
        refine g_top (y := iI b) (by rw [iI_bor hbb.1 (by decide), bor_0 hbb.1]) ?_
        refine g_istore_n F (lv' := [(1, .int (iI b)), (2, .int (iI i)), (0, .ref (ma 100))]) 1 dX6_holeBits_27 rfl (by decide) rfl ?_
        refine g_iinc F (lv' := [(2, .int (iI (i + 1))), (1, .int (iI b)), (0, .ref (ma 100))]) 1 dX6_holeBits_28 rfl (by decide) rfl ?_
        refine g_goto F 4 dX6_holeBits_31 (by decide) ?_
        refine g_sub F (lv' := [(2, .int (iI (i + 1))), (1, .int (iI b)), (0, .ref (ma 100))]) [0, 1, 2] rfl ?_
        exact ih4 _ (by omega) (i + 1) b rfl (by omega) (by rw [sumI_s _ hi.1, ← hb]; unfold hbf; first | rw [if_pos c16] | (rw [if_neg c16]; omega))
      · skip
        have c16 : hole (cl M) i := b2i_t c16
        refine g_iconst F dX6_holeBits_19 ?_
        refine g_iload_n F 0 dX6_holeBits_20 rfl ?_
        refine g_ishl F dX6_holeBits_21 ?_
        refine g_top (y := iI (p2 i)) (iI_shl1 (by omega) (by omega)) ?_
        refine g_goto F 26 dX6_holeBits_22 (by decide) ?_
        refine g_ior F dX6_holeBits_26 ?_
        refine g_top (y := iI (b + p2 i)) (by rw [iI_bor hbb.1 (by have := p2_pos i; omega), bor_p2 hbb.1 hbb.2]) ?_
        refine g_istore_n F (lv' := [(1, .int (iI (b + p2 i))), (2, .int (iI i)), (0, .ref (ma 100))]) 1 dX6_holeBits_27 rfl (by decide) rfl ?_
        refine g_iinc F (lv' := [(2, .int (iI (i + 1))), (1, .int (iI (b + p2 i))), (0, .ref (ma 100))]) 1 dX6_holeBits_28 rfl (by decide) rfl ?_
        refine g_goto F 4 dX6_holeBits_31 (by decide) ?_
        refine g_sub F (lv' := [(2, .int (iI (i + 1))), (1, .int (iI (b + p2 i))), (0, .ref (ma 100))]) [0, 1, 2] rfl ?_
        exact ih4 _ (by omega) (i + 1) (b + p2 i) rfl (by omega) (by rw [sumI_s _ hi.1, ← hb]; unfold hbf; first | rw [if_pos c16] | (rw [if_neg c16]; omega))
  refine g_sub F (lv' := [(2, .int (iI 0)), (1, .int (iI 0)), (0, .ref (ma 100))]) [0, 1, 2] rfl ?_
  exact L4 _ 0 0 rfl (by omega) (sumI_0 _).symm
theorem dX6_allPull_0 : decode cX6_allPull 0 = .ok (.iconst 0, 1) := by decide +kernel
theorem dX6_allPull_1 : decode cX6_allPull 1 = .ok (.istore_n 1, 1) := by decide +kernel
theorem dX6_allPull_2 : decode cX6_allPull 2 = .ok (.iconst 0, 1) := by decide +kernel
theorem dX6_allPull_3 : decode cX6_allPull 3 = .ok (.istore_n 2, 1) := by decide +kernel
theorem dX6_allPull_4 : decode cX6_allPull 4 = .ok (.iload_n 2, 1) := by decide +kernel
theorem dX6_allPull_5 : decode cX6_allPull 5 = .ok (.bipush 12, 2) := by decide +kernel
theorem dX6_allPull_7 : decode cX6_allPull 7 = .ok (.if_icmp .ge 17, 3) := by decide +kernel
theorem dX6_allPull_10 : decode cX6_allPull 10 = .ok (.iload_n 1, 1) := by decide +kernel
theorem dX6_allPull_11 : decode cX6_allPull 11 = .ok (.aload_n 0, 1) := by decide +kernel
theorem dX6_allPull_12 : decode cX6_allPull 12 = .ok (.iload_n 2, 1) := by decide +kernel
theorem dX6_allPull_13 : decode cX6_allPull 13 = .ok (.invokevirtual 114, 3) := by decide +kernel
theorem dX6_allPull_16 : decode cX6_allPull 16 = .ok (.iadd, 1) := by decide +kernel
theorem dX6_allPull_17 : decode cX6_allPull 17 = .ok (.istore_n 1, 1) := by decide +kernel
theorem dX6_allPull_18 : decode cX6_allPull 18 = .ok (.iinc 2 1, 3) := by decide +kernel
theorem dX6_allPull_21 : decode cX6_allPull 21 = .ok (.goto (-17), 3) := by decide +kernel
theorem dX6_allPull_24 : decode cX6_allPull 24 = .ok (.iload_n 1, 1) := by decide +kernel
theorem dX6_allPull_25 : decode cX6_allPull 25 = .ok (.ireturn, 1) := by decide +kernel
set_option maxRecDepth 100000 in
set_option maxHeartbeats 4000000 in
theorem k_X6_allPull (κ : Kp) (ma : Nat → Nat) (M : MS)  (ok : okA (cl M)) : mI κ yX6_allPull cX6_allPull 3 .int 2 [.ref (ma 100)] (mw κ ma M) (is1 (iI (allPull (cl M))) (mw κ ma M)) := by
  refine mI_of (by decide) (Nat.le_of_ble_eq_true rfl) (fun E F K => ?_)
  refine g_lv (lv' := [(0, .ref (ma 100))]) rfl ?_
  refine g_iconst F dX6_allPull_0 ?_
  refine g_istore_n F (lv' := [(1, .int (iI 0)), (0, .ref (ma 100))]) 1 dX6_allPull_1 rfl (by decide) rfl ?_
  refine g_iconst F dX6_allPull_2 ?_
  refine g_istore_n F (lv' := [(2, .int (iI 0)), (1, .int (iI 0)), (0, .ref (ma 100))]) 2 dX6_allPull_3 rfl (by decide) rfl ?_
  have L4 : ∀ (mz4 : Nat) (i : Int) (sm : Int), (12 - i).toNat = mz4 → (0 ≤ i ∧ i ≤ 12) → (sm = sumI (pull (cl M)) i) → G E (mw κ ma M) [(2, .int (iI i)), (1, .int (iI sm)), (0, .ref (ma 100))] 4 [] := by
    intro mz4
    induction mz4 using Nat.strongRecOn with
    | _ mz4 ih4 =>
    intro i sm hmz4 hi hs
    refine g_iload_n F 0 dX6_allPull_4 rfl ?_
    refine g_bipush F dX6_allPull_5 (by decide +kernel) ?_
    refine g_icmp_ge F 24 (by omega) dX6_allPull_7 (by decide) (fun c7 => ?_) (fun c7 => ?_)
    · skip
      refine g_iload_n F 1 dX6_allPull_24 rfl ?_
      exact K mw_same ⟨congrArg iI (show sm = allPull (cl M) from by rw [hs, show i = 12 by omega]; rfl), rfl⟩ rfl dX6_allPull_25
    · skip
      refine g_iload_n F 1 dX6_allPull_10 rfl ?_
      refine g_aload_n F 2 dX6_allPull_11 rfl ?_
      refine g_iload_n F 0 dX6_allPull_12 rfl ?_
      refine g_callI F (stk := [.int (iI i), .ref (ma 100), .int (iI sm)]) (st := [.int (iI sm)]) (k_X6_pullOf κ ma M i (by omega) ok) cal_X6_pullOf lm_X6_114 0 rfl rfl rfl rfl (by decide) rfl (Nat.le_of_ble_eq_true rfl) dX6_allPull_13 (fun r13 ws13 _ hr13 => ?_)
      obtain ⟨rfl, rfl⟩ := hr13
      refine g_iadd F dX6_allPull_16 ?_
      refine g_istore_n F (lv' := [(1, .int (iI (sm + (pull (cl M) i)))), (2, .int (iI i)), (0, .ref (ma 100))]) 1 dX6_allPull_17 rfl (by decide) rfl ?_
      refine g_iinc F (lv' := [(2, .int (iI (i + 1))), (1, .int (iI (sm + (pull (cl M) i)))), (0, .ref (ma 100))]) 1 dX6_allPull_18 rfl (by decide) rfl ?_
      refine g_goto F 4 dX6_allPull_21 (by decide) ?_
      refine g_sub F (lv' := [(2, .int (iI (i + 1))), (1, .int (iI (sm + (pull (cl M) i)))), (0, .ref (ma 100))]) [0, 1, 2] rfl ?_
      exact ih4 _ (by omega) (i + 1) (sm + (pull (cl M) i)) rfl (by omega) (by rw [sumI_s _ hi.1, ← hs])
  refine g_sub F (lv' := [(2, .int (iI 0)), (1, .int (iI 0)), (0, .ref (ma 100))]) [0, 1, 2] rfl ?_
  exact L4 _ 0 0 rfl (by omega) (sumI_0 _).symm
theorem dX6_allWear_0 : decode cX6_allWear 0 = .ok (.iconst 0, 1) := by decide +kernel
theorem dX6_allWear_1 : decode cX6_allWear 1 = .ok (.istore_n 1, 1) := by decide +kernel
theorem dX6_allWear_2 : decode cX6_allWear 2 = .ok (.iconst 0, 1) := by decide +kernel
theorem dX6_allWear_3 : decode cX6_allWear 3 = .ok (.istore_n 2, 1) := by decide +kernel
theorem dX6_allWear_4 : decode cX6_allWear 4 = .ok (.iload_n 2, 1) := by decide +kernel
theorem dX6_allWear_5 : decode cX6_allWear 5 = .ok (.bipush 12, 2) := by decide +kernel
theorem dX6_allWear_7 : decode cX6_allWear 7 = .ok (.if_icmp .ge 18, 3) := by decide +kernel
theorem dX6_allWear_10 : decode cX6_allWear 10 = .ok (.iload_n 1, 1) := by decide +kernel
theorem dX6_allWear_11 : decode cX6_allWear 11 = .ok (.aload_n 0, 1) := by decide +kernel
theorem dX6_allWear_12 : decode cX6_allWear 12 = .ok (.getfield 19, 3) := by decide +kernel
theorem dX6_allWear_15 : decode cX6_allWear 15 = .ok (.iload_n 2, 1) := by decide +kernel
theorem dX6_allWear_16 : decode cX6_allWear 16 = .ok (.iaload, 1) := by decide +kernel
theorem dX6_allWear_17 : decode cX6_allWear 17 = .ok (.iadd, 1) := by decide +kernel
theorem dX6_allWear_18 : decode cX6_allWear 18 = .ok (.istore_n 1, 1) := by decide +kernel
theorem dX6_allWear_19 : decode cX6_allWear 19 = .ok (.iinc 2 1, 3) := by decide +kernel
theorem dX6_allWear_22 : decode cX6_allWear 22 = .ok (.goto (-18), 3) := by decide +kernel
theorem dX6_allWear_25 : decode cX6_allWear 25 = .ok (.iload_n 1, 1) := by decide +kernel
theorem dX6_allWear_26 : decode cX6_allWear 26 = .ok (.ireturn, 1) := by decide +kernel
set_option maxRecDepth 100000 in
set_option maxHeartbeats 4000000 in
theorem k_X6_allWear (κ : Kp) (ma : Nat → Nat) (M : MS)   : mI κ yX6_allWear cX6_allWear 3 .int 2 [.ref (ma 100)] (mw κ ma M) (is1 (iI (allWear (cl M))) (mw κ ma M)) := by
  refine mI_of (by decide) (Nat.le_of_ble_eq_true rfl) (fun E F K => ?_)
  refine g_lv (lv' := [(0, .ref (ma 100))]) rfl ?_
  refine g_iconst F dX6_allWear_0 ?_
  refine g_istore_n F (lv' := [(1, .int (iI 0)), (0, .ref (ma 100))]) 1 dX6_allWear_1 rfl (by decide) rfl ?_
  refine g_iconst F dX6_allWear_2 ?_
  refine g_istore_n F (lv' := [(2, .int (iI 0)), (1, .int (iI 0)), (0, .ref (ma 100))]) 2 dX6_allWear_3 rfl (by decide) rfl ?_
  have L4 : ∀ (mz4 : Nat) (i : Int) (sm : Int), (12 - i).toNat = mz4 → (0 ≤ i ∧ i ≤ 12) → (sm = sumI (M 3) i) → G E (mw κ ma M) [(2, .int (iI i)), (1, .int (iI sm)), (0, .ref (ma 100))] 4 [] := by
    intro mz4
    induction mz4 using Nat.strongRecOn with
    | _ mz4 ih4 =>
    intro i sm hmz4 hi hs
    refine g_iload_n F 0 dX6_allWear_4 rfl ?_
    refine g_bipush F dX6_allWear_5 (by decide +kernel) ?_
    refine g_icmp_ge F 25 (by omega) dX6_allWear_7 (by decide) (fun c7 => ?_) (fun c7 => ?_)
    · skip
      refine g_iload_n F 1 dX6_allWear_25 rfl ?_
      exact K mw_same ⟨congrArg iI (show sm = allWear (cl M) from by rw [hs, show i = 12 by omega]; rfl), rfl⟩ rfl dX6_allWear_26
    · skip
      refine g_iload_n F 1 dX6_allWear_10 rfl ?_
      refine g_aload_n F 2 dX6_allWear_11 rfl ?_
      refine gm_get_3 F dX6_allWear_12 ?_
      refine g_iload_n F 0 dX6_allWear_15 rfl ?_
      refine gm_ald_3 F (by omega) dX6_allWear_16 ?_
      refine g_iadd F dX6_allWear_17 ?_
      refine g_istore_n F (lv' := [(1, .int (iI (sm + (M 3 i)))), (2, .int (iI i)), (0, .ref (ma 100))]) 1 dX6_allWear_18 rfl (by decide) rfl ?_
      refine g_iinc F (lv' := [(2, .int (iI (i + 1))), (1, .int (iI (sm + (M 3 i)))), (0, .ref (ma 100))]) 1 dX6_allWear_19 rfl (by decide) rfl ?_
      refine g_goto F 4 dX6_allWear_22 (by decide) ?_
      refine g_sub F (lv' := [(2, .int (iI (i + 1))), (1, .int (iI (sm + (M 3 i)))), (0, .ref (ma 100))]) [0, 1, 2] rfl ?_
      exact ih4 _ (by omega) (i + 1) (sm + (M 3 i)) rfl (by omega) (by rw [sumI_s _ hi.1, ← hs])
  refine g_sub F (lv' := [(2, .int (iI 0)), (1, .int (iI 0)), (0, .ref (ma 100))]) [0, 1, 2] rfl ?_
  exact L4 _ 0 0 rfl (by omega) (sumI_0 _).symm
theorem dX6_allAges_0 : decode cX6_allAges 0 = .ok (.iconst 0, 1) := by decide +kernel
theorem dX6_allAges_1 : decode cX6_allAges 1 = .ok (.istore_n 1, 1) := by decide +kernel
theorem dX6_allAges_2 : decode cX6_allAges 2 = .ok (.iconst 0, 1) := by decide +kernel
theorem dX6_allAges_3 : decode cX6_allAges 3 = .ok (.istore_n 2, 1) := by decide +kernel
theorem dX6_allAges_4 : decode cX6_allAges 4 = .ok (.iload_n 2, 1) := by decide +kernel
theorem dX6_allAges_5 : decode cX6_allAges 5 = .ok (.bipush 12, 2) := by decide +kernel
theorem dX6_allAges_7 : decode cX6_allAges 7 = .ok (.if_icmp .ge 18, 3) := by decide +kernel
theorem dX6_allAges_10 : decode cX6_allAges 10 = .ok (.iload_n 1, 1) := by decide +kernel
theorem dX6_allAges_11 : decode cX6_allAges 11 = .ok (.aload_n 0, 1) := by decide +kernel
theorem dX6_allAges_12 : decode cX6_allAges 12 = .ok (.getfield 16, 3) := by decide +kernel
theorem dX6_allAges_15 : decode cX6_allAges 15 = .ok (.iload_n 2, 1) := by decide +kernel
theorem dX6_allAges_16 : decode cX6_allAges 16 = .ok (.iaload, 1) := by decide +kernel
theorem dX6_allAges_17 : decode cX6_allAges 17 = .ok (.iadd, 1) := by decide +kernel
theorem dX6_allAges_18 : decode cX6_allAges 18 = .ok (.istore_n 1, 1) := by decide +kernel
theorem dX6_allAges_19 : decode cX6_allAges 19 = .ok (.iinc 2 1, 3) := by decide +kernel
theorem dX6_allAges_22 : decode cX6_allAges 22 = .ok (.goto (-18), 3) := by decide +kernel
theorem dX6_allAges_25 : decode cX6_allAges 25 = .ok (.iload_n 1, 1) := by decide +kernel
theorem dX6_allAges_26 : decode cX6_allAges 26 = .ok (.ireturn, 1) := by decide +kernel
set_option maxRecDepth 100000 in
set_option maxHeartbeats 4000000 in
theorem k_X6_allAges (κ : Kp) (ma : Nat → Nat) (M : MS)   : mI κ yX6_allAges cX6_allAges 3 .int 2 [.ref (ma 100)] (mw κ ma M) (is1 (iI (allAge (cl M))) (mw κ ma M)) := by
  refine mI_of (by decide) (Nat.le_of_ble_eq_true rfl) (fun E F K => ?_)
  refine g_lv (lv' := [(0, .ref (ma 100))]) rfl ?_
  refine g_iconst F dX6_allAges_0 ?_
  refine g_istore_n F (lv' := [(1, .int (iI 0)), (0, .ref (ma 100))]) 1 dX6_allAges_1 rfl (by decide) rfl ?_
  refine g_iconst F dX6_allAges_2 ?_
  refine g_istore_n F (lv' := [(2, .int (iI 0)), (1, .int (iI 0)), (0, .ref (ma 100))]) 2 dX6_allAges_3 rfl (by decide) rfl ?_
  have L4 : ∀ (mz4 : Nat) (i : Int) (sm : Int), (12 - i).toNat = mz4 → (0 ≤ i ∧ i ≤ 12) → (sm = sumI (M 2) i) → G E (mw κ ma M) [(2, .int (iI i)), (1, .int (iI sm)), (0, .ref (ma 100))] 4 [] := by
    intro mz4
    induction mz4 using Nat.strongRecOn with
    | _ mz4 ih4 =>
    intro i sm hmz4 hi hs
    refine g_iload_n F 0 dX6_allAges_4 rfl ?_
    refine g_bipush F dX6_allAges_5 (by decide +kernel) ?_
    refine g_icmp_ge F 25 (by omega) dX6_allAges_7 (by decide) (fun c7 => ?_) (fun c7 => ?_)
    · skip
      refine g_iload_n F 1 dX6_allAges_25 rfl ?_
      exact K mw_same ⟨congrArg iI (show sm = allAge (cl M) from by rw [hs, show i = 12 by omega]; rfl), rfl⟩ rfl dX6_allAges_26
    · skip
      refine g_iload_n F 1 dX6_allAges_10 rfl ?_
      refine g_aload_n F 2 dX6_allAges_11 rfl ?_
      refine gm_get_2 F dX6_allAges_12 ?_
      refine g_iload_n F 0 dX6_allAges_15 rfl ?_
      refine gm_ald_2 F (by omega) dX6_allAges_16 ?_
      refine g_iadd F dX6_allAges_17 ?_
      refine g_istore_n F (lv' := [(1, .int (iI (sm + (M 2 i)))), (2, .int (iI i)), (0, .ref (ma 100))]) 1 dX6_allAges_18 rfl (by decide) rfl ?_
      refine g_iinc F (lv' := [(2, .int (iI (i + 1))), (1, .int (iI (sm + (M 2 i)))), (0, .ref (ma 100))]) 1 dX6_allAges_19 rfl (by decide) rfl ?_
      refine g_goto F 4 dX6_allAges_22 (by decide) ?_
      refine g_sub F (lv' := [(2, .int (iI (i + 1))), (1, .int (iI (sm + (M 2 i)))), (0, .ref (ma 100))]) [0, 1, 2] rfl ?_
      exact ih4 _ (by omega) (i + 1) (sm + (M 2 i)) rfl (by omega) (by rw [sumI_s _ hi.1, ← hs])
  refine g_sub F (lv' := [(2, .int (iI 0)), (1, .int (iI 0)), (0, .ref (ma 100))]) [0, 1, 2] rfl ?_
  exact L4 _ 0 0 rfl (by omega) (sumI_0 _).symm
theorem dX6_yearOn_0 : decode cX6_yearOn 0 = .ok (.aload_n 0, 1) := by decide +kernel
theorem dX6_yearOn_1 : decode cX6_yearOn 1 = .ok (.dup, 1) := by decide +kernel
theorem dX6_yearOn_2 : decode cX6_yearOn 2 = .ok (.getfield 125, 3) := by decide +kernel
theorem dX6_yearOn_5 : decode cX6_yearOn 5 = .ok (.iconst 1, 1) := by decide +kernel
theorem dX6_yearOn_6 : decode cX6_yearOn 6 = .ok (.iadd, 1) := by decide +kernel
theorem dX6_yearOn_7 : decode cX6_yearOn 7 = .ok (.putfield 125, 3) := by decide +kernel
theorem dX6_yearOn_10 : decode cX6_yearOn 10 = .ok (.iconst 0, 1) := by decide +kernel
theorem dX6_yearOn_11 : decode cX6_yearOn 11 = .ok (.istore_n 1, 1) := by decide +kernel
theorem dX6_yearOn_12 : decode cX6_yearOn 12 = .ok (.iload_n 1, 1) := by decide +kernel
theorem dX6_yearOn_13 : decode cX6_yearOn 13 = .ok (.bipush 12, 2) := by decide +kernel
theorem dX6_yearOn_15 : decode cX6_yearOn 15 = .ok (.if_icmp .ge 36, 3) := by decide +kernel
theorem dX6_yearOn_18 : decode cX6_yearOn 18 = .ok (.aload_n 0, 1) := by decide +kernel
theorem dX6_yearOn_19 : decode cX6_yearOn 19 = .ok (.getfield 19, 3) := by decide +kernel
theorem dX6_yearOn_22 : decode cX6_yearOn 22 = .ok (.iload_n 1, 1) := by decide +kernel
theorem dX6_yearOn_23 : decode cX6_yearOn 23 = .ok (.aload_n 0, 1) := by decide +kernel
theorem dX6_yearOn_24 : decode cX6_yearOn 24 = .ok (.getfield 19, 3) := by decide +kernel
theorem dX6_yearOn_27 : decode cX6_yearOn 27 = .ok (.iload_n 1, 1) := by decide +kernel
theorem dX6_yearOn_28 : decode cX6_yearOn 28 = .ok (.iaload, 1) := by decide +kernel
theorem dX6_yearOn_29 : decode cX6_yearOn 29 = .ok (.aload_n 0, 1) := by decide +kernel
theorem dX6_yearOn_30 : decode cX6_yearOn 30 = .ok (.iload_n 1, 1) := by decide +kernel
theorem dX6_yearOn_31 : decode cX6_yearOn 31 = .ok (.aload_n 0, 1) := by decide +kernel
theorem dX6_yearOn_32 : decode cX6_yearOn 32 = .ok (.getfield 125, 3) := by decide +kernel
theorem dX6_yearOn_35 : decode cX6_yearOn 35 = .ok (.invokevirtual 128, 3) := by decide +kernel
theorem dX6_yearOn_38 : decode cX6_yearOn 38 = .ok (.iadd, 1) := by decide +kernel
theorem dX6_yearOn_39 : decode cX6_yearOn 39 = .ok (.bipush 99, 2) := by decide +kernel
theorem dX6_yearOn_41 : decode cX6_yearOn 41 = .ok (.invokestatic 111, 3) := by decide +kernel
theorem dX6_yearOn_44 : decode cX6_yearOn 44 = .ok (.iastore, 1) := by decide +kernel
theorem dX6_yearOn_45 : decode cX6_yearOn 45 = .ok (.iinc 1 1, 3) := by decide +kernel
theorem dX6_yearOn_48 : decode cX6_yearOn 48 = .ok (.goto (-36), 3) := by decide +kernel
theorem dX6_yearOn_51 : decode cX6_yearOn 51 = .ok (.iconst 0, 1) := by decide +kernel
theorem dX6_yearOn_52 : decode cX6_yearOn 52 = .ok (.istore_n 1, 1) := by decide +kernel
theorem dX6_yearOn_53 : decode cX6_yearOn 53 = .ok (.iload_n 1, 1) := by decide +kernel
theorem dX6_yearOn_54 : decode cX6_yearOn 54 = .ok (.bipush 12, 2) := by decide +kernel
theorem dX6_yearOn_56 : decode cX6_yearOn 56 = .ok (.if_icmp .ge 28, 3) := by decide +kernel
theorem dX6_yearOn_59 : decode cX6_yearOn 59 = .ok (.aload_n 0, 1) := by decide +kernel
theorem dX6_yearOn_60 : decode cX6_yearOn 60 = .ok (.getfield 16, 3) := by decide +kernel
theorem dX6_yearOn_63 : decode cX6_yearOn 63 = .ok (.iload_n 1, 1) := by decide +kernel
theorem dX6_yearOn_64 : decode cX6_yearOn 64 = .ok (.aload_n 0, 1) := by decide +kernel
theorem dX6_yearOn_65 : decode cX6_yearOn 65 = .ok (.getfield 16, 3) := by decide +kernel
theorem dX6_yearOn_68 : decode cX6_yearOn 68 = .ok (.iload_n 1, 1) := by decide +kernel
theorem dX6_yearOn_69 : decode cX6_yearOn 69 = .ok (.iaload, 1) := by decide +kernel
theorem dX6_yearOn_70 : decode cX6_yearOn 70 = .ok (.iconst 1, 1) := by decide +kernel
theorem dX6_yearOn_71 : decode cX6_yearOn 71 = .ok (.iadd, 1) := by decide +kernel
theorem dX6_yearOn_72 : decode cX6_yearOn 72 = .ok (.bipush 99, 2) := by decide +kernel
theorem dX6_yearOn_74 : decode cX6_yearOn 74 = .ok (.invokestatic 111, 3) := by decide +kernel
theorem dX6_yearOn_77 : decode cX6_yearOn 77 = .ok (.iastore, 1) := by decide +kernel
theorem dX6_yearOn_78 : decode cX6_yearOn 78 = .ok (.iinc 1 1, 3) := by decide +kernel
theorem dX6_yearOn_81 : decode cX6_yearOn 81 = .ok (.goto (-28), 3) := by decide +kernel
theorem dX6_yearOn_84 : decode cX6_yearOn 84 = .ok (.return_, 1) := by decide +kernel
set_option maxRecDepth 100000 in
set_option maxHeartbeats 4000000 in
theorem k_X6_yearOn (κ : Kp) (ma : Nat → Nat) (M : MS)  (hy : M 4 0 < 1000000) (ok : okC (cl M)) : mV κ yX6_yearOn cX6_yearOn 2 3 [.ref (ma 100)] (mw κ ma M) (is0 (mw κ ma (stC M (yearOn (cl M))))) := by
  refine mV_of (by decide) (Nat.le_of_ble_eq_true rfl) (fun E F K => ?_)
  refine g_lv (lv' := [(0, .ref (ma 100))]) rfl ?_
  have hy0 : 0 ≤ M 4 0 := ok.2
  refine g_aload_n F 0 dX6_yearOn_0 rfl ?_
  refine g_dup F dX6_yearOn_1 rfl ?_
  refine gm_get_4 F dX6_yearOn_2 ?_
  refine g_iconst F dX6_yearOn_5 ?_
  refine g_iadd F dX6_yearOn_6 ?_
  refine gm_put_4 F dX6_yearOn_7 ?_
  refine g_iconst F dX6_yearOn_10 ?_
  refine g_istore_n F (lv' := [(1, .int (iI 0)), (0, .ref (ma 100))]) 1 dX6_yearOn_11 rfl (by decide) rfl ?_
  have L12 : ∀ (mz12 : Nat) (i : Int) (f : Int → Int), (12 - i).toNat = mz12 → (0 ≤ i ∧ i ≤ 12) → (f = upTo (M 3) (wearOn (cl M)) i) → G E (mw κ ma (mA (mA M 4 (fun _ => M 4 0 + 1)) 3 f)) [(1, .int (iI i)), (0, .ref (ma 100))] 12 [] := by
    intro mz12
    induction mz12 using Nat.strongRecOn with
    | _ mz12 ih12 =>
    intro i f hmz12 hi hf
    refine g_iload_n F 0 dX6_yearOn_12 rfl ?_
    refine g_bipush F dX6_yearOn_13 (by decide +kernel) ?_
    refine g_icmp_ge F 51 (by omega) dX6_yearOn_15 (by decide) (fun c15 => ?_) (fun c15 => ?_)
    · skip
      refine g_iconst F dX6_yearOn_51 ?_
      refine g_istore_n F (lv' := [(1, .int (iI 0)), (0, .ref (ma 100))]) 1 dX6_yearOn_52 rfl (by decide) rfl ?_
      have L53 : ∀ (mz53 : Nat) (j : Int) (g : Int → Int), (12 - j).toNat = mz53 → (0 ≤ j ∧ j ≤ 12) → (g = upTo (M 2) (ageOn (cl M) 1) j) → G E (mw κ ma (mA (mA (mA M 4 (fun _ => M 4 0 + 1)) 3 f) 2 g)) [(1, .int (iI j)), (0, .ref (ma 100))] 53 [] := by
        intro mz53
        induction mz53 using Nat.strongRecOn with
        | _ mz53 ih53 =>
        intro j g hmz53 hj hg
        refine g_iload_n F 0 dX6_yearOn_53 rfl ?_
        refine g_bipush F dX6_yearOn_54 (by decide +kernel) ?_
        refine g_icmp_ge F 84 (by omega) dX6_yearOn_56 (by decide) (fun c56 => ?_) (fun c56 => ?_)
        · skip
          exact K mw_same (by rw [hg, hf, show j = 12 by omega, show i = 12 by omega]; rfl) dX6_yearOn_84
        · skip
          refine g_aload_n F 1 dX6_yearOn_59 rfl ?_
          refine gm_get_2 F dX6_yearOn_60 ?_
          refine g_iload_n F 0 dX6_yearOn_63 rfl ?_
          refine g_aload_n F 1 dX6_yearOn_64 rfl ?_
          refine gm_get_2 F dX6_yearOn_65 ?_
          refine g_iload_n F 0 dX6_yearOn_68 rfl ?_
          refine gm_ald_2 F (by omega) dX6_yearOn_69 ?_
          refine g_top (y := iI (g j)) rfl ?_
          refine g_top (y := iI (M 2 j)) (iIc (by rw [hg, upTo_out (by omega)])) ?_
          have hk : (0 ≤ M 0 j ∧ M 0 j ≤ 5) ∧ (0 ≤ M 1 j ∧ M 1 j ≤ 9) ∧ (0 ≤ M 2 j ∧ M 2 j ≤ 99) ∧ 0 ≤ M 3 j ∧ M 3 j ≤ 99 := ok.r (by omega) (by omega)
          refine g_iconst F dX6_yearOn_70 ?_
          refine g_iadd F dX6_yearOn_71 ?_
          refine g_bipush F dX6_yearOn_72 (by decide +kernel) ?_
          refine g_callSI F (stk := [.int (iI 99), .int (iI ((M 2 j) + 1)), .int (iI j), .ref (ma 2)]) (st := [.int (iI j), .ref (ma 2)]) (k_X6_held κ (mw κ ma (mA (mA (mA M 4 (fun _ => M 4 0 + 1)) 3 f) 2 g)) ((M 2 j) + 1) 99 (by omega)) cal_X6_held lm_X6_111 rfl (by decide) rfl (Nat.le_of_ble_eq_true rfl) dX6_yearOn_74 (fun r74 ws74 _ hr74 => ?_)
          obtain ⟨rfl, rfl⟩ := hr74
          refine g_top (y := iI (ageOn (cl M) 1 j)) (iIc (held_age ok (by omega) (by omega))) ?_
          refine gm_astS_2 F (by omega) dX6_yearOn_77 ?_
          refine g_iinc F (lv' := [(1, .int (iI (j + 1))), (0, .ref (ma 100))]) 0 dX6_yearOn_78 rfl (by decide) rfl ?_
          refine g_goto F 53 dX6_yearOn_81 (by decide) ?_
          refine g_sub F (lv' := [(1, .int (iI (j + 1))), (0, .ref (ma 100))]) [0, 1] rfl ?_
          exact ih53 _ (by omega) (j + 1) (uI g j (ageOn (cl M) 1 j)) rfl (by omega) (by rw [hg, upTo_s _ _ hj.1])
      refine g_sub F (lv' := [(1, .int (iI 0)), (0, .ref (ma 100))]) [0, 1] rfl ?_
      refine g_ws (ws' := mw κ ma (mA (mA (mA M 4 (fun _ => M 4 0 + 1)) 3 f) 2 (M 2))) rfl ?_
      exact L53 _ 0 (M 2) rfl (by omega) (upTo_0 _ _).symm
    · skip
      refine g_aload_n F 1 dX6_yearOn_18 rfl ?_
      refine gm_get_3 F dX6_yearOn_19 ?_
      refine g_iload_n F 0 dX6_yearOn_22 rfl ?_
      refine g_aload_n F 1 dX6_yearOn_23 rfl ?_
      refine gm_get_3 F dX6_yearOn_24 ?_
      refine g_iload_n F 0 dX6_yearOn_27 rfl ?_
      refine gm_ald_3 F (by omega) dX6_yearOn_28 ?_
      refine g_top (y := iI (f i)) rfl ?_
      refine g_top (y := iI (M 3 i)) (iIc (by rw [hf, upTo_out (by omega)])) ?_
      refine g_aload_n F 1 dX6_yearOn_29 rfl ?_
      refine g_iload_n F 0 dX6_yearOn_30 rfl ?_
      refine g_aload_n F 1 dX6_yearOn_31 rfl ?_
      refine gm_get_4 F dX6_yearOn_32 ?_
      refine g_top (y := iI (M 4 0 + 1)) rfl ?_
      refine g_callI F (stk := [.int (iI (M 4 0 + 1)), .int (iI i), .ref (ma 100), .int (iI (M 3 i)), .int (iI i), .ref (ma 3)]) (st := [.int (iI (M 3 i)), .int (iI i), .ref (ma 3)]) (k_X6_wearsIn κ ma (mA (mA M 4 (fun _ => M 4 0 + 1)) 3 f) i (M 4 0 + 1) (by omega) (by omega) ok.A) cal_X6_wearsIn lm_X6_128 0 rfl rfl rfl rfl (by decide) rfl (Nat.le_of_ble_eq_true rfl) dX6_yearOn_35 (fun r35 ws35 _ hr35 => ?_)
      obtain ⟨rfl, rfl⟩ := hr35
      refine g_top (y := iI (wearing (cl M) (M 4 0 + 1) i)) rfl ?_
      have hw := wearing_bd ok.A (y := M 4 0 + 1) hi.1 c15
      have hk : (0 ≤ M 0 i ∧ M 0 i ≤ 5) ∧ (0 ≤ M 1 i ∧ M 1 i ≤ 9) ∧ (0 ≤ M 2 i ∧ M 2 i ≤ 99) ∧ 0 ≤ M 3 i ∧ M 3 i ≤ 99 := ok.r (by omega) (by omega)
      refine g_iadd F dX6_yearOn_38 ?_
      refine g_bipush F dX6_yearOn_39 (by decide +kernel) ?_
      refine g_callSI F (stk := [.int (iI 99), .int (iI ((M 3 i) + (wearing (cl M) (M 4 0 + 1) i))), .int (iI i), .ref (ma 3)]) (st := [.int (iI i), .ref (ma 3)]) (k_X6_held κ (mw κ ma (mA (mA M 4 (fun _ => M 4 0 + 1)) 3 f)) ((M 3 i) + (wearing (cl M) (M 4 0 + 1) i)) 99 (by omega)) cal_X6_held lm_X6_111 rfl (by decide) rfl (Nat.le_of_ble_eq_true rfl) dX6_yearOn_41 (fun r41 ws41 _ hr41 => ?_)
      obtain ⟨rfl, rfl⟩ := hr41
      refine g_top (y := iI (wearOn (cl M) i)) (iIc (held_wear ok (by omega) (by omega))) ?_
      refine gm_astS_3 F (by omega) dX6_yearOn_44 ?_
      refine g_iinc F (lv' := [(1, .int (iI (i + 1))), (0, .ref (ma 100))]) 0 dX6_yearOn_45 rfl (by decide) rfl ?_
      refine g_goto F 12 dX6_yearOn_48 (by decide) ?_
      refine g_sub F (lv' := [(1, .int (iI (i + 1))), (0, .ref (ma 100))]) [0, 1] rfl ?_
      exact ih12 _ (by omega) (i + 1) (uI f i (wearOn (cl M) i)) rfl (by omega) (by rw [hf, upTo_s _ _ hi.1])
  refine g_sub F (lv' := [(1, .int (iI 0)), (0, .ref (ma 100))]) [0, 1] rfl ?_
  refine g_ws (ws' := mw κ ma (mA (mA M 4 (fun _ => M 4 0 + 1)) 3 (M 3))) rfl ?_
  exact L12 _ 0 (M 3) rfl (by omega) (upTo_0 _ _).symm
theorem dX6_goYears_0 : decode cX6_goYears 0 = .ok (.iconst 0, 1) := by decide +kernel
theorem dX6_goYears_1 : decode cX6_goYears 1 = .ok (.istore_n 2, 1) := by decide +kernel
theorem dX6_goYears_2 : decode cX6_goYears 2 = .ok (.iload_n 2, 1) := by decide +kernel
theorem dX6_goYears_3 : decode cX6_goYears 3 = .ok (.iload_n 1, 1) := by decide +kernel
theorem dX6_goYears_4 : decode cX6_goYears 4 = .ok (.if_icmp .ge 13, 3) := by decide +kernel
theorem dX6_goYears_7 : decode cX6_goYears 7 = .ok (.aload_n 0, 1) := by decide +kernel
theorem dX6_goYears_8 : decode cX6_goYears 8 = .ok (.invokevirtual 131, 3) := by decide +kernel
theorem dX6_goYears_11 : decode cX6_goYears 11 = .ok (.iinc 2 1, 3) := by decide +kernel
theorem dX6_goYears_14 : decode cX6_goYears 14 = .ok (.goto (-12), 3) := by decide +kernel
theorem dX6_goYears_17 : decode cX6_goYears 17 = .ok (.return_, 1) := by decide +kernel
set_option maxRecDepth 100000 in
set_option maxHeartbeats 4000000 in
theorem k_X6_goYears (κ : Kp) (ma : Nat → Nat) (M : MS) (n : Int)  (hn : (0 ≤ n ∧ n ≤ 1000) ∧ M 4 0 + n ≤ 1000000) (ok : okC (cl M)) : mV κ yX6_goYears cX6_goYears 3 4 [.ref (ma 100), .int (iI n)] (mw κ ma M) (is0 (mw κ ma (stC M (goI n (cl M))))) := by
  refine mV_of (by decide) (Nat.le_of_ble_eq_true rfl) (fun E F K => ?_)
  refine g_lv (lv' := [(0, .ref (ma 100)), (1, .int (iI n))]) rfl ?_
  refine g_iconst F dX6_goYears_0 ?_
  refine g_istore_n F (lv' := [(2, .int (iI 0)), (0, .ref (ma 100)), (1, .int (iI n))]) 2 dX6_goYears_1 rfl (by decide) rfl ?_
  have L2 : ∀ (mz2 : Nat) (k : Int), (n - k).toNat = mz2 → (0 ≤ k ∧ k ≤ n) → G E (mw κ ma (stC M (goI k (cl M)))) [(2, .int (iI k)), (0, .ref (ma 100)), (1, .int (iI n))] 2 [] := by
    intro mz2
    induction mz2 using Nat.strongRecOn with
    | _ mz2 ih2 =>
    intro k hmz2 hk
    refine g_iload_n F 0 dX6_goYears_2 rfl ?_
    refine g_iload_n F 2 dX6_goYears_3 rfl ?_
    refine g_icmp_ge F 17 (by omega) dX6_goYears_4 (by decide) (fun c4 => ?_) (fun c4 => ?_)
    · skip
      exact K mw_same (by rw [show k = n by omega]) dX6_goYears_17
    · skip
      refine g_aload_n F 1 dX6_goYears_7 rfl ?_
      refine g_callV F (stk := [.ref (ma 100)]) (st := []) (k_X6_yearOn κ ma (stC M (goI k (cl M))) (goI_yrM hk.1 (by omega)) (goI_ok ok k)) cal_X6_yearOn lm_X6_131 0 rfl rfl rfl rfl (by decide) rfl (Nat.le_of_ble_eq_true rfl) dX6_goYears_8 (fun ws8 _ hr8 => ?_)
      obtain rfl := hr8
      refine g_ws (ws' := mw κ ma (stC M (yearOn (goI k (cl M))))) rfl ?_
      refine g_ws (ws' := mw κ ma (stC M (goI (k + 1) (cl M)))) (by rw [goI_s hk.1]) ?_
      refine g_iinc F (lv' := [(2, .int (iI (k + 1))), (0, .ref (ma 100)), (1, .int (iI n))]) 0 dX6_goYears_11 rfl (by decide) rfl ?_
      refine g_goto F 2 dX6_goYears_14 (by decide) ?_
      refine g_sub F (lv' := [(2, .int (iI (k + 1))), (0, .ref (ma 100)), (1, .int (iI n))]) [0, 1, 2] rfl ?_
      exact ih2 _ (by omega) (k + 1) rfl (by omega)
  refine g_sub F (lv' := [(2, .int (iI 0)), (0, .ref (ma 100)), (1, .int (iI n))]) [0, 1, 2] rfl ?_
  refine g_ws (ws' := mw κ ma (stC M (goI 0 (cl M)))) rfl ?_
  exact L2 _ 0 rfl (by omega)
theorem dX6_makeCell_0 : decode cX6_makeCell 0 = .ok (.aload_n 0, 1) := by decide +kernel
theorem dX6_makeCell_1 : decode cX6_makeCell 1 = .ok (.getfield 7, 3) := by decide +kernel
theorem dX6_makeCell_4 : decode cX6_makeCell 4 = .ok (.iload_n 1, 1) := by decide +kernel
theorem dX6_makeCell_5 : decode cX6_makeCell 5 = .ok (.iload_n 2, 1) := by decide +kernel
theorem dX6_makeCell_6 : decode cX6_makeCell 6 = .ok (.iastore, 1) := by decide +kernel
theorem dX6_makeCell_7 : decode cX6_makeCell 7 = .ok (.aload_n 0, 1) := by decide +kernel
theorem dX6_makeCell_8 : decode cX6_makeCell 8 = .ok (.getfield 13, 3) := by decide +kernel
theorem dX6_makeCell_11 : decode cX6_makeCell 11 = .ok (.iload_n 1, 1) := by decide +kernel
theorem dX6_makeCell_12 : decode cX6_makeCell 12 = .ok (.iload_n 3, 1) := by decide +kernel
theorem dX6_makeCell_13 : decode cX6_makeCell 13 = .ok (.iastore, 1) := by decide +kernel
theorem dX6_makeCell_14 : decode cX6_makeCell 14 = .ok (.aload_n 0, 1) := by decide +kernel
theorem dX6_makeCell_15 : decode cX6_makeCell 15 = .ok (.getfield 16, 3) := by decide +kernel
theorem dX6_makeCell_18 : decode cX6_makeCell 18 = .ok (.iload_n 1, 1) := by decide +kernel
theorem dX6_makeCell_19 : decode cX6_makeCell 19 = .ok (.iload 4, 2) := by decide +kernel
theorem dX6_makeCell_21 : decode cX6_makeCell 21 = .ok (.iastore, 1) := by decide +kernel
theorem dX6_makeCell_22 : decode cX6_makeCell 22 = .ok (.aload_n 0, 1) := by decide +kernel
theorem dX6_makeCell_23 : decode cX6_makeCell 23 = .ok (.getfield 19, 3) := by decide +kernel
theorem dX6_makeCell_26 : decode cX6_makeCell 26 = .ok (.iload_n 1, 1) := by decide +kernel
theorem dX6_makeCell_27 : decode cX6_makeCell 27 = .ok (.iconst 0, 1) := by decide +kernel
theorem dX6_makeCell_28 : decode cX6_makeCell 28 = .ok (.iastore, 1) := by decide +kernel
theorem dX6_makeCell_29 : decode cX6_makeCell 29 = .ok (.return_, 1) := by decide +kernel
set_option maxRecDepth 100000 in
set_option maxHeartbeats 4000000 in
theorem k_X6_makeCell (κ : Kp) (ma : Nat → Nat) (M : MS) (c : Int) (k : Int) (f : Int) (a : Int)  (h0 : 0 ≤ c ∧ c < 12) : mV κ yX6_makeCell cX6_makeCell 5 0 [.ref (ma 100), .int (iI c), .int (iI k), .int (iI f), .int (iI a)] (mw κ ma M) (is0 (mw κ ma (stC M (make (cl M) c k f a)))) := by
  refine mV_of (by decide) (Nat.le_of_ble_eq_true rfl) (fun E F K => ?_)
  refine g_lv (lv' := [(0, .ref (ma 100)), (1, .int (iI c)), (2, .int (iI k)), (3, .int (iI f)), (4, .int (iI a))]) rfl ?_
  refine g_aload_n F 0 dX6_makeCell_0 rfl ?_
  refine gm_get_0 F dX6_makeCell_1 ?_
  refine g_iload_n F 1 dX6_makeCell_4 rfl ?_
  refine g_iload_n F 2 dX6_makeCell_5 rfl ?_
  refine gm_ast_0 F (by omega) dX6_makeCell_6 ?_
  refine g_aload_n F 0 dX6_makeCell_7 rfl ?_
  refine gm_get_1 F dX6_makeCell_8 ?_
  refine g_iload_n F 1 dX6_makeCell_11 rfl ?_
  refine g_iload_n F 3 dX6_makeCell_12 rfl ?_
  refine gm_ast_1 F (by omega) dX6_makeCell_13 ?_
  refine g_ws (ws' := mw κ ma (mA (mA M 0 (uI (M 0) c k)) 1 (uI (M 1) c f))) rfl ?_
  refine g_aload_n F 0 dX6_makeCell_14 rfl ?_
  refine gm_get_2 F dX6_makeCell_15 ?_
  refine g_iload_n F 1 dX6_makeCell_18 rfl ?_
  refine g_iload F 4 dX6_makeCell_19 rfl ?_
  refine gm_ast_2 F (by omega) dX6_makeCell_21 ?_
  refine g_ws (ws' := mw κ ma (mA (mA (mA M 0 (uI (M 0) c k)) 1 (uI (M 1) c f)) 2 (uI (M 2) c a))) rfl ?_
  refine g_aload_n F 0 dX6_makeCell_22 rfl ?_
  refine gm_get_3 F dX6_makeCell_23 ?_
  refine g_iload_n F 1 dX6_makeCell_26 rfl ?_
  refine g_iconst F dX6_makeCell_27 ?_
  refine gm_ast_3 F (by omega) dX6_makeCell_28 ?_
  refine g_ws (ws' := mw κ ma (mA (mA (mA (mA M 0 (uI (M 0) c k)) 1 (uI (M 1) c f)) 2 (uI (M 2) c a)) 3 (uI (M 3) c 0))) rfl ?_
  exact K mw_same rfl dX6_makeCell_29
theorem dX6_putOn_0 : decode cX6_putOn 0 = .ok (.aload_n 0, 1) := by decide +kernel
theorem dX6_putOn_1 : decode cX6_putOn 1 = .ok (.iload_n 2, 1) := by decide +kernel
theorem dX6_putOn_2 : decode cX6_putOn 2 = .ok (.aload_n 0, 1) := by decide +kernel
theorem dX6_putOn_3 : decode cX6_putOn 3 = .ok (.getfield 22, 3) := by decide +kernel
theorem dX6_putOn_6 : decode cX6_putOn 6 = .ok (.iload_n 1, 1) := by decide +kernel
theorem dX6_putOn_7 : decode cX6_putOn 7 = .ok (.iaload, 1) := by decide +kernel
theorem dX6_putOn_8 : decode cX6_putOn 8 = .ok (.aload_n 0, 1) := by decide +kernel
theorem dX6_putOn_9 : decode cX6_putOn 9 = .ok (.getfield 25, 3) := by decide +kernel
theorem dX6_putOn_12 : decode cX6_putOn 12 = .ok (.iload_n 1, 1) := by decide +kernel
theorem dX6_putOn_13 : decode cX6_putOn 13 = .ok (.iaload, 1) := by decide +kernel
theorem dX6_putOn_14 : decode cX6_putOn 14 = .ok (.aload_n 0, 1) := by decide +kernel
theorem dX6_putOn_15 : decode cX6_putOn 15 = .ok (.getfield 28, 3) := by decide +kernel
theorem dX6_putOn_18 : decode cX6_putOn 18 = .ok (.iload_n 1, 1) := by decide +kernel
theorem dX6_putOn_19 : decode cX6_putOn 19 = .ok (.iaload, 1) := by decide +kernel
theorem dX6_putOn_20 : decode cX6_putOn 20 = .ok (.invokevirtual 134, 3) := by decide +kernel
theorem dX6_putOn_23 : decode cX6_putOn 23 = .ok (.aload_n 0, 1) := by decide +kernel
theorem dX6_putOn_24 : decode cX6_putOn 24 = .ok (.getfield 31, 3) := by decide +kernel
theorem dX6_putOn_27 : decode cX6_putOn 27 = .ok (.iload_n 1, 1) := by decide +kernel
theorem dX6_putOn_28 : decode cX6_putOn 28 = .ok (.iconst 1, 1) := by decide +kernel
theorem dX6_putOn_29 : decode cX6_putOn 29 = .ok (.iastore, 1) := by decide +kernel
theorem dX6_putOn_30 : decode cX6_putOn 30 = .ok (.return_, 1) := by decide +kernel
set_option maxRecDepth 100000 in
set_option maxHeartbeats 4000000 in
theorem k_X6_putOn (κ : Kp) (ma : Nat → Nat) (M : MS) (p : Int) (c : Int)  (hp : 0 ≤ p ∧ p < 6) (h0 : 0 ≤ c ∧ c < 12) : mV κ yX6_putOn cX6_putOn 3 1 [.ref (ma 100), .int (iI p), .int (iI c)] (mw κ ma M) (is0 (mw κ ma (mA (stC M (make (cl M) c (M 6 p) (M 7 p) (M 8 p))) 9 (uI (M 9) p 1)))) := by
  refine mV_of (by decide) (Nat.le_of_ble_eq_true rfl) (fun E F K => ?_)
  refine g_lv (lv' := [(0, .ref (ma 100)), (1, .int (iI p)), (2, .int (iI c))]) rfl ?_
  refine g_aload_n F 0 dX6_putOn_0 rfl ?_
  refine g_iload_n F 2 dX6_putOn_1 rfl ?_
  refine g_aload_n F 0 dX6_putOn_2 rfl ?_
  refine gm_get_6 F dX6_putOn_3 ?_
  refine g_iload_n F 1 dX6_putOn_6 rfl ?_
  refine gm_ald_6 F (by omega) dX6_putOn_7 ?_
  refine g_aload_n F 0 dX6_putOn_8 rfl ?_
  refine gm_get_7 F dX6_putOn_9 ?_
  refine g_iload_n F 1 dX6_putOn_12 rfl ?_
  refine gm_ald_7 F (by omega) dX6_putOn_13 ?_
  refine g_aload_n F 0 dX6_putOn_14 rfl ?_
  refine gm_get_8 F dX6_putOn_15 ?_
  refine g_iload_n F 1 dX6_putOn_18 rfl ?_
  refine gm_ald_8 F (by omega) dX6_putOn_19 ?_
  refine g_callV F (stk := [.int (iI (M 8 p)), .int (iI (M 7 p)), .int (iI (M 6 p)), .int (iI c), .ref (ma 100)]) (st := []) (k_X6_makeCell κ ma M c (M 6 p) (M 7 p) (M 8 p) (by omega)) cal_X6_makeCell lm_X6_134 0 rfl rfl rfl rfl (by decide) rfl (Nat.le_of_ble_eq_true rfl) dX6_putOn_20 (fun ws20 _ hr20 => ?_)
  obtain rfl := hr20
  refine g_aload_n F 0 dX6_putOn_23 rfl ?_
  refine gm_get_9 F dX6_putOn_24 ?_
  refine g_iload_n F 1 dX6_putOn_27 rfl ?_
  refine g_iconst F dX6_putOn_28 ?_
  refine gm_ast_9 F (by omega) dX6_putOn_29 ?_
  refine g_ws (ws' := mw κ ma (mA (stC M (make (cl M) c (M 6 p) (M 7 p) (M 8 p))) 9 (uI (M 9) p 1))) rfl ?_
  exact K mw_same rfl dX6_putOn_30
end
section
/-- all that is carried, by its place -/
def snapF (M : MS) (z : Int) : Int := if z = 0 then M 4 0 else if z = 1 then M 5 0 else if z < 50 then M ((z - 2) % 4).toNat ((z - 2) / 4) else M (6 + ((z - 50) % 4).toNat) ((z - 50) / 4)
theorem snap_0 (M : MS) : snapF M 0 = M 4 0 := rfl
theorem snap_1 (M : MS) : snapF M 1 = M 5 0 := rfl
theorem snap_c (M : MS) {c j z : Int} (h0 : 0 ≤ c) (h1 : c < 12) (j0 : 0 ≤ j) (j1 : j < 4) (hz : z = 2 + 4 * c + j) : snapF M z = M j.toNat c := by
  unfold snapF
  rw [if_neg (by omega), if_neg (by omega), if_pos (by omega), show ((z - 2) % 4).toNat = j.toNat by omega, show (z - 2) / 4 = c by omega]
theorem snap_p (M : MS) {c j z : Int} (h0 : 0 ≤ c) (h1 : c < 6) (j0 : 0 ≤ j) (j1 : j < 4) (hz : z = 50 + 4 * c + j) : snapF M z = M (6 + j.toNat) c := by
  unfold snapF
  rw [if_neg (by omega), if_neg (by omega), if_neg (by omega), show ((z - 50) % 4).toNat = j.toNat by omega, show (z - 50) / 4 = c by omega]
/-- a state while it is carried: into or out of array t (b), at place q, that array holds f, what is carried is kk -/
def cst (M : MS) (t b : Nat) (q : Int) (f : Int → Int) (kk : MS) : MS := fun a => if a = 25 then (fun _ => (t : Int)) else if a = 24 then (fun _ => (b : Int)) else if a = 23 then (fun _ => q) else if a = t then f else if a ≤ 9 then kk a else M a
def kst (M M0 : MS) (c p : Int) : MS := fun a => if a ≤ 3 then upTo (M a) (M0 a) c else if a ≤ 5 then M0 a else upTo (M a) (M0 a) p
theorem uI_self (f : Int → Int) (c : Int) : uI f c (f c) = f := by
  funext j
  unfold uI
  split
  · rename_i h; rw [h]
  · rfl
theorem dX6_carry_0 : decode cX6_carry 0 = .ok (.aload_n 0, 1) := by decide +kernel
theorem dX6_carry_1 : decode cX6_carry 1 = .ok (.getfield 203, 3) := by decide +kernel
theorem dX6_carry_4 : decode cX6_carry 4 = .ok (.ifCond .eq 13, 3) := by decide +kernel
theorem dX6_carry_7 : decode cX6_carry 7 = .ok (.aload_n 0, 1) := by decide +kernel
theorem dX6_carry_8 : decode cX6_carry 8 = .ok (.getfield 206, 3) := by decide +kernel
theorem dX6_carry_11 : decode cX6_carry 11 = .ok (.aload_n 0, 1) := by decide +kernel
theorem dX6_carry_12 : decode cX6_carry 12 = .ok (.getfield 209, 3) := by decide +kernel
theorem dX6_carry_15 : decode cX6_carry 15 = .ok (.iload_n 1, 1) := by decide +kernel
theorem dX6_carry_16 : decode cX6_carry 16 = .ok (.iastore, 1) := by decide +kernel
theorem dX6_carry_17 : decode cX6_carry 17 = .ok (.aload_n 0, 1) := by decide +kernel
theorem dX6_carry_18 : decode cX6_carry 18 = .ok (.dup, 1) := by decide +kernel
theorem dX6_carry_19 : decode cX6_carry 19 = .ok (.getfield 209, 3) := by decide +kernel
theorem dX6_carry_22 : decode cX6_carry 22 = .ok (.iconst 1, 1) := by decide +kernel
theorem dX6_carry_23 : decode cX6_carry 23 = .ok (.iadd, 1) := by decide +kernel
theorem dX6_carry_24 : decode cX6_carry 24 = .ok (.putfield 209, 3) := by decide +kernel
theorem dX6_carry_27 : decode cX6_carry 27 = .ok (.aload_n 0, 1) := by decide +kernel
theorem dX6_carry_28 : decode cX6_carry 28 = .ok (.getfield 206, 3) := by decide +kernel
theorem dX6_carry_31 : decode cX6_carry 31 = .ok (.aload_n 0, 1) := by decide +kernel
theorem dX6_carry_32 : decode cX6_carry 32 = .ok (.getfield 209, 3) := by decide +kernel
theorem dX6_carry_35 : decode cX6_carry 35 = .ok (.iconst 1, 1) := by decide +kernel
theorem dX6_carry_36 : decode cX6_carry 36 = .ok (.isub, 1) := by decide +kernel
theorem dX6_carry_37 : decode cX6_carry 37 = .ok (.iaload, 1) := by decide +kernel
theorem dX6_carry_38 : decode cX6_carry 38 = .ok (.ireturn, 1) := by decide +kernel
set_option maxRecDepth 100000 in
set_option maxHeartbeats 4000000 in
theorem k_X6_carry_t20 (κ : Kp) (ma : Nat → Nat) (M kk : MS) (f : Int → Int) (q v : Int) (hq : 0 ≤ q ∧ q < 74) : mI κ yX6_carry cX6_carry 2 .int 0 [.ref (ma 100), .int (iI v)] (mw κ ma (cst M 20 1 q f kk)) (is1 (iI v) (mw κ ma (cst M 20 1 (q + 1) (uI f q v) kk))) := by
  refine mI_of (by decide) (Nat.le_of_ble_eq_true rfl) (fun E F K => ?_)
  refine g_lv (lv' := [(0, .ref (ma 100)), (1, .int (iI v))]) rfl ?_
  refine g_aload_n F 0 dX6_carry_0 rfl ?_
  refine gm_get_24 F dX6_carry_1 ?_
  refine g_top (y := iI 1) rfl ?_
  refine g_if_eq F 17 (by omega) dX6_carry_4 (by decide) (fun c4 => ?_) (fun c4 => ?_)
  · skip
    exact absurd trivial (by omega)
  · skip
    refine g_aload_n F 0 dX6_carry_7 rfl ?_
    refine gm_get_25 F dX6_carry_8 ?_
    refine g_st (st' := [.ref (ma 20)]) rfl ?_
    refine g_aload_n F 0 dX6_carry_11 rfl ?_
    refine gm_get_23 F dX6_carry_12 ?_
    refine g_top (y := iI q) rfl ?_
    refine g_iload_n F 1 dX6_carry_15 rfl ?_
    refine gm_ast_20 F (by omega) dX6_carry_16 ?_
    refine g_ws (ws' := mw κ ma (mA (cst M 20 1 q f kk) 20 (uI f q v))) rfl ?_
    refine g_aload_n F 0 dX6_carry_17 rfl ?_
    refine g_dup F dX6_carry_18 rfl ?_
    refine gm_get_23 F dX6_carry_19 ?_
    refine g_top (y := iI q) rfl ?_
    refine g_iconst F dX6_carry_22 ?_
    refine g_iadd F dX6_carry_23 ?_
    refine gm_put_23 F dX6_carry_24 ?_
    refine g_aload_n F 0 dX6_carry_27 rfl ?_
    refine gm_get_25 F dX6_carry_28 ?_
    refine g_st (st' := [.ref (ma 20)]) rfl ?_
    refine g_aload_n F 0 dX6_carry_31 rfl ?_
    refine gm_get_23 F dX6_carry_32 ?_
    refine g_top (y := iI (q + 1)) rfl ?_
    refine g_iconst F dX6_carry_35 ?_
    refine g_isub F dX6_carry_36 ?_
    refine gm_ald_20 F (by omega) dX6_carry_37 ?_
    refine g_top (y := iI ((uI f q v) ((q + 1) - 1))) rfl ?_
    refine g_top (y := iI v) (iIc (show uI f q v (q + 1 - 1) = v by rw [show q + 1 - 1 = q by omega]; exact uI_s)) ?_
    exact K mw_same ⟨rfl, rfl⟩ rfl dX6_carry_38
set_option maxRecDepth 100000 in
set_option maxHeartbeats 4000000 in
theorem k_X6_carry_f20 (κ : Kp) (ma : Nat → Nat) (M kk : MS) (f : Int → Int) (q v : Int) (hq : 0 ≤ q ∧ q < 74) : mI κ yX6_carry cX6_carry 2 .int 0 [.ref (ma 100), .int (iI v)] (mw κ ma (cst M 20 0 q f kk)) (is1 (iI (f q)) (mw κ ma (cst M 20 0 (q + 1) f kk))) := by
  refine mI_of (by decide) (Nat.le_of_ble_eq_true rfl) (fun E F K => ?_)
  refine g_lv (lv' := [(0, .ref (ma 100)), (1, .int (iI v))]) rfl ?_
  refine g_aload_n F 0 dX6_carry_0 rfl ?_
  refine gm_get_24 F dX6_carry_1 ?_
  refine g_top (y := iI 0) rfl ?_
  refine g_if_eq F 17 (by omega) dX6_carry_4 (by decide) (fun c4 => ?_) (fun c4 => ?_)
  · skip
    refine g_aload_n F 0 dX6_carry_17 rfl ?_
    refine g_dup F dX6_carry_18 rfl ?_
    refine gm_get_23 F dX6_carry_19 ?_
    refine g_top (y := iI q) rfl ?_
    refine g_iconst F dX6_carry_22 ?_
    refine g_iadd F dX6_carry_23 ?_
    refine gm_put_23 F dX6_carry_24 ?_
    refine g_aload_n F 0 dX6_carry_27 rfl ?_
    refine gm_get_25 F dX6_carry_28 ?_
    refine g_st (st' := [.ref (ma 20)]) rfl ?_
    refine g_aload_n F 0 dX6_carry_31 rfl ?_
    refine gm_get_23 F dX6_carry_32 ?_
    refine g_top (y := iI (q + 1)) rfl ?_
    refine g_iconst F dX6_carry_35 ?_
    refine g_isub F dX6_carry_36 ?_
    refine gm_ald_20 F (by omega) dX6_carry_37 ?_
    refine g_top (y := iI (f ((q + 1) - 1))) rfl ?_
    exact K mw_same ⟨iIc (show f (q + 1 - 1) = f q by rw [show q + 1 - 1 = q by omega]), rfl⟩ rfl dX6_carry_38
  · skip
    exact absurd trivial (by omega)
set_option maxRecDepth 100000 in
set_option maxHeartbeats 4000000 in
theorem k_X6_carry_t21 (κ : Kp) (ma : Nat → Nat) (M kk : MS) (f : Int → Int) (q v : Int) (hq : 0 ≤ q ∧ q < 74) : mI κ yX6_carry cX6_carry 2 .int 0 [.ref (ma 100), .int (iI v)] (mw κ ma (cst M 21 1 q f kk)) (is1 (iI v) (mw κ ma (cst M 21 1 (q + 1) (uI f q v) kk))) := by
  refine mI_of (by decide) (Nat.le_of_ble_eq_true rfl) (fun E F K => ?_)
  refine g_lv (lv' := [(0, .ref (ma 100)), (1, .int (iI v))]) rfl ?_
  refine g_aload_n F 0 dX6_carry_0 rfl ?_
  refine gm_get_24 F dX6_carry_1 ?_
  refine g_top (y := iI 1) rfl ?_
  refine g_if_eq F 17 (by omega) dX6_carry_4 (by decide) (fun c4 => ?_) (fun c4 => ?_)
  · skip
    exact absurd trivial (by omega)
  · skip
    refine g_aload_n F 0 dX6_carry_7 rfl ?_
    refine gm_get_25 F dX6_carry_8 ?_
    refine g_st (st' := [.ref (ma 21)]) rfl ?_
    refine g_aload_n F 0 dX6_carry_11 rfl ?_
    refine gm_get_23 F dX6_carry_12 ?_
    refine g_top (y := iI q) rfl ?_
    refine g_iload_n F 1 dX6_carry_15 rfl ?_
    refine gm_ast_21 F (by omega) dX6_carry_16 ?_
    refine g_ws (ws' := mw κ ma (mA (cst M 21 1 q f kk) 21 (uI f q v))) rfl ?_
    refine g_aload_n F 0 dX6_carry_17 rfl ?_
    refine g_dup F dX6_carry_18 rfl ?_
    refine gm_get_23 F dX6_carry_19 ?_
    refine g_top (y := iI q) rfl ?_
    refine g_iconst F dX6_carry_22 ?_
    refine g_iadd F dX6_carry_23 ?_
    refine gm_put_23 F dX6_carry_24 ?_
    refine g_aload_n F 0 dX6_carry_27 rfl ?_
    refine gm_get_25 F dX6_carry_28 ?_
    refine g_st (st' := [.ref (ma 21)]) rfl ?_
    refine g_aload_n F 0 dX6_carry_31 rfl ?_
    refine gm_get_23 F dX6_carry_32 ?_
    refine g_top (y := iI (q + 1)) rfl ?_
    refine g_iconst F dX6_carry_35 ?_
    refine g_isub F dX6_carry_36 ?_
    refine gm_ald_21 F (by omega) dX6_carry_37 ?_
    refine g_top (y := iI ((uI f q v) ((q + 1) - 1))) rfl ?_
    refine g_top (y := iI v) (iIc (show uI f q v (q + 1 - 1) = v by rw [show q + 1 - 1 = q by omega]; exact uI_s)) ?_
    exact K mw_same ⟨rfl, rfl⟩ rfl dX6_carry_38
set_option maxRecDepth 100000 in
set_option maxHeartbeats 4000000 in
theorem k_X6_carry_f21 (κ : Kp) (ma : Nat → Nat) (M kk : MS) (f : Int → Int) (q v : Int) (hq : 0 ≤ q ∧ q < 74) : mI κ yX6_carry cX6_carry 2 .int 0 [.ref (ma 100), .int (iI v)] (mw κ ma (cst M 21 0 q f kk)) (is1 (iI (f q)) (mw κ ma (cst M 21 0 (q + 1) f kk))) := by
  refine mI_of (by decide) (Nat.le_of_ble_eq_true rfl) (fun E F K => ?_)
  refine g_lv (lv' := [(0, .ref (ma 100)), (1, .int (iI v))]) rfl ?_
  refine g_aload_n F 0 dX6_carry_0 rfl ?_
  refine gm_get_24 F dX6_carry_1 ?_
  refine g_top (y := iI 0) rfl ?_
  refine g_if_eq F 17 (by omega) dX6_carry_4 (by decide) (fun c4 => ?_) (fun c4 => ?_)
  · skip
    refine g_aload_n F 0 dX6_carry_17 rfl ?_
    refine g_dup F dX6_carry_18 rfl ?_
    refine gm_get_23 F dX6_carry_19 ?_
    refine g_top (y := iI q) rfl ?_
    refine g_iconst F dX6_carry_22 ?_
    refine g_iadd F dX6_carry_23 ?_
    refine gm_put_23 F dX6_carry_24 ?_
    refine g_aload_n F 0 dX6_carry_27 rfl ?_
    refine gm_get_25 F dX6_carry_28 ?_
    refine g_st (st' := [.ref (ma 21)]) rfl ?_
    refine g_aload_n F 0 dX6_carry_31 rfl ?_
    refine gm_get_23 F dX6_carry_32 ?_
    refine g_top (y := iI (q + 1)) rfl ?_
    refine g_iconst F dX6_carry_35 ?_
    refine g_isub F dX6_carry_36 ?_
    refine gm_ald_21 F (by omega) dX6_carry_37 ?_
    refine g_top (y := iI (f ((q + 1) - 1))) rfl ?_
    exact K mw_same ⟨iIc (show f (q + 1 - 1) = f q by rw [show q + 1 - 1 = q by omega]), rfl⟩ rfl dX6_carry_38
  · skip
    exact absurd trivial (by omega)
set_option maxRecDepth 100000 in
set_option maxHeartbeats 4000000 in
theorem k_X6_carry_t27 (κ : Kp) (ma : Nat → Nat) (M kk : MS) (f : Int → Int) (q v : Int) (hq : 0 ≤ q ∧ q < 74) : mI κ yX6_carry cX6_carry 2 .int 0 [.ref (ma 100), .int (iI v)] (mw κ ma (cst M 27 1 q f kk)) (is1 (iI v) (mw κ ma (cst M 27 1 (q + 1) (uI f q v) kk))) := by
  refine mI_of (by decide) (Nat.le_of_ble_eq_true rfl) (fun E F K => ?_)
  refine g_lv (lv' := [(0, .ref (ma 100)), (1, .int (iI v))]) rfl ?_
  refine g_aload_n F 0 dX6_carry_0 rfl ?_
  refine gm_get_24 F dX6_carry_1 ?_
  refine g_top (y := iI 1) rfl ?_
  refine g_if_eq F 17 (by omega) dX6_carry_4 (by decide) (fun c4 => ?_) (fun c4 => ?_)
  · skip
    exact absurd trivial (by omega)
  · skip
    refine g_aload_n F 0 dX6_carry_7 rfl ?_
    refine gm_get_25 F dX6_carry_8 ?_
    refine g_st (st' := [.ref (ma 27)]) rfl ?_
    refine g_aload_n F 0 dX6_carry_11 rfl ?_
    refine gm_get_23 F dX6_carry_12 ?_
    refine g_top (y := iI q) rfl ?_
    refine g_iload_n F 1 dX6_carry_15 rfl ?_
    refine gm_ast_27 F (by omega) dX6_carry_16 ?_
    refine g_ws (ws' := mw κ ma (mA (cst M 27 1 q f kk) 27 (uI f q v))) rfl ?_
    refine g_aload_n F 0 dX6_carry_17 rfl ?_
    refine g_dup F dX6_carry_18 rfl ?_
    refine gm_get_23 F dX6_carry_19 ?_
    refine g_top (y := iI q) rfl ?_
    refine g_iconst F dX6_carry_22 ?_
    refine g_iadd F dX6_carry_23 ?_
    refine gm_put_23 F dX6_carry_24 ?_
    refine g_aload_n F 0 dX6_carry_27 rfl ?_
    refine gm_get_25 F dX6_carry_28 ?_
    refine g_st (st' := [.ref (ma 27)]) rfl ?_
    refine g_aload_n F 0 dX6_carry_31 rfl ?_
    refine gm_get_23 F dX6_carry_32 ?_
    refine g_top (y := iI (q + 1)) rfl ?_
    refine g_iconst F dX6_carry_35 ?_
    refine g_isub F dX6_carry_36 ?_
    refine gm_ald_27 F (by omega) dX6_carry_37 ?_
    refine g_top (y := iI ((uI f q v) ((q + 1) - 1))) rfl ?_
    refine g_top (y := iI v) (iIc (show uI f q v (q + 1 - 1) = v by rw [show q + 1 - 1 = q by omega]; exact uI_s)) ?_
    exact K mw_same ⟨rfl, rfl⟩ rfl dX6_carry_38
set_option maxRecDepth 100000 in
set_option maxHeartbeats 4000000 in
theorem k_X6_carry_f27 (κ : Kp) (ma : Nat → Nat) (M kk : MS) (f : Int → Int) (q v : Int) (hq : 0 ≤ q ∧ q < 74) : mI κ yX6_carry cX6_carry 2 .int 0 [.ref (ma 100), .int (iI v)] (mw κ ma (cst M 27 0 q f kk)) (is1 (iI (f q)) (mw κ ma (cst M 27 0 (q + 1) f kk))) := by
  refine mI_of (by decide) (Nat.le_of_ble_eq_true rfl) (fun E F K => ?_)
  refine g_lv (lv' := [(0, .ref (ma 100)), (1, .int (iI v))]) rfl ?_
  refine g_aload_n F 0 dX6_carry_0 rfl ?_
  refine gm_get_24 F dX6_carry_1 ?_
  refine g_top (y := iI 0) rfl ?_
  refine g_if_eq F 17 (by omega) dX6_carry_4 (by decide) (fun c4 => ?_) (fun c4 => ?_)
  · skip
    refine g_aload_n F 0 dX6_carry_17 rfl ?_
    refine g_dup F dX6_carry_18 rfl ?_
    refine gm_get_23 F dX6_carry_19 ?_
    refine g_top (y := iI q) rfl ?_
    refine g_iconst F dX6_carry_22 ?_
    refine g_iadd F dX6_carry_23 ?_
    refine gm_put_23 F dX6_carry_24 ?_
    refine g_aload_n F 0 dX6_carry_27 rfl ?_
    refine gm_get_25 F dX6_carry_28 ?_
    refine g_st (st' := [.ref (ma 27)]) rfl ?_
    refine g_aload_n F 0 dX6_carry_31 rfl ?_
    refine gm_get_23 F dX6_carry_32 ?_
    refine g_top (y := iI (q + 1)) rfl ?_
    refine g_iconst F dX6_carry_35 ?_
    refine g_isub F dX6_carry_36 ?_
    refine gm_ald_27 F (by omega) dX6_carry_37 ?_
    refine g_top (y := iI (f ((q + 1) - 1))) rfl ?_
    exact K mw_same ⟨iIc (show f (q + 1 - 1) = f q by rw [show q + 1 - 1 = q by omega]), rfl⟩ rfl dX6_carry_38
  · skip
    exact absurd trivial (by omega)
theorem dX6_carryAll_0 : decode cX6_carryAll 0 = .ok (.aload_n 0, 1) := by decide +kernel
theorem dX6_carryAll_1 : decode cX6_carryAll 1 = .ok (.aload_n 1, 1) := by decide +kernel
theorem dX6_carryAll_2 : decode cX6_carryAll 2 = .ok (.putfield 206, 3) := by decide +kernel
theorem dX6_carryAll_5 : decode cX6_carryAll 5 = .ok (.aload_n 0, 1) := by decide +kernel
theorem dX6_carryAll_6 : decode cX6_carryAll 6 = .ok (.iload_n 2, 1) := by decide +kernel
theorem dX6_carryAll_7 : decode cX6_carryAll 7 = .ok (.putfield 203, 3) := by decide +kernel
theorem dX6_carryAll_10 : decode cX6_carryAll 10 = .ok (.aload_n 0, 1) := by decide +kernel
theorem dX6_carryAll_11 : decode cX6_carryAll 11 = .ok (.iconst 0, 1) := by decide +kernel
theorem dX6_carryAll_12 : decode cX6_carryAll 12 = .ok (.putfield 209, 3) := by decide +kernel
theorem dX6_carryAll_15 : decode cX6_carryAll 15 = .ok (.aload_n 0, 1) := by decide +kernel
theorem dX6_carryAll_16 : decode cX6_carryAll 16 = .ok (.aload_n 0, 1) := by decide +kernel
theorem dX6_carryAll_17 : decode cX6_carryAll 17 = .ok (.aload_n 0, 1) := by decide +kernel
theorem dX6_carryAll_18 : decode cX6_carryAll 18 = .ok (.getfield 125, 3) := by decide +kernel
theorem dX6_carryAll_21 : decode cX6_carryAll 21 = .ok (.invokevirtual 212, 3) := by decide +kernel
theorem dX6_carryAll_24 : decode cX6_carryAll 24 = .ok (.putfield 125, 3) := by decide +kernel
theorem dX6_carryAll_27 : decode cX6_carryAll 27 = .ok (.aload_n 0, 1) := by decide +kernel
theorem dX6_carryAll_28 : decode cX6_carryAll 28 = .ok (.aload_n 0, 1) := by decide +kernel
theorem dX6_carryAll_29 : decode cX6_carryAll 29 = .ok (.aload_n 0, 1) := by decide +kernel
theorem dX6_carryAll_30 : decode cX6_carryAll 30 = .ok (.getfield 101, 3) := by decide +kernel
theorem dX6_carryAll_33 : decode cX6_carryAll 33 = .ok (.invokevirtual 212, 3) := by decide +kernel
theorem dX6_carryAll_36 : decode cX6_carryAll 36 = .ok (.putfield 101, 3) := by decide +kernel
theorem dX6_carryAll_39 : decode cX6_carryAll 39 = .ok (.iconst 0, 1) := by decide +kernel
theorem dX6_carryAll_40 : decode cX6_carryAll 40 = .ok (.istore_n 3, 1) := by decide +kernel
theorem dX6_carryAll_41 : decode cX6_carryAll 41 = .ok (.iload_n 3, 1) := by decide +kernel
theorem dX6_carryAll_42 : decode cX6_carryAll 42 = .ok (.bipush 12, 2) := by decide +kernel
theorem dX6_carryAll_44 : decode cX6_carryAll 44 = .ok (.if_icmp .ge 73, 3) := by decide +kernel
theorem dX6_carryAll_47 : decode cX6_carryAll 47 = .ok (.aload_n 0, 1) := by decide +kernel
theorem dX6_carryAll_48 : decode cX6_carryAll 48 = .ok (.getfield 7, 3) := by decide +kernel
theorem dX6_carryAll_51 : decode cX6_carryAll 51 = .ok (.iload_n 3, 1) := by decide +kernel
theorem dX6_carryAll_52 : decode cX6_carryAll 52 = .ok (.aload_n 0, 1) := by decide +kernel
theorem dX6_carryAll_53 : decode cX6_carryAll 53 = .ok (.aload_n 0, 1) := by decide +kernel
theorem dX6_carryAll_54 : decode cX6_carryAll 54 = .ok (.getfield 7, 3) := by decide +kernel
theorem dX6_carryAll_57 : decode cX6_carryAll 57 = .ok (.iload_n 3, 1) := by decide +kernel
theorem dX6_carryAll_58 : decode cX6_carryAll 58 = .ok (.iaload, 1) := by decide +kernel
theorem dX6_carryAll_59 : decode cX6_carryAll 59 = .ok (.invokevirtual 212, 3) := by decide +kernel
theorem dX6_carryAll_62 : decode cX6_carryAll 62 = .ok (.iastore, 1) := by decide +kernel
theorem dX6_carryAll_63 : decode cX6_carryAll 63 = .ok (.aload_n 0, 1) := by decide +kernel
theorem dX6_carryAll_64 : decode cX6_carryAll 64 = .ok (.getfield 13, 3) := by decide +kernel
theorem dX6_carryAll_67 : decode cX6_carryAll 67 = .ok (.iload_n 3, 1) := by decide +kernel
theorem dX6_carryAll_68 : decode cX6_carryAll 68 = .ok (.aload_n 0, 1) := by decide +kernel
theorem dX6_carryAll_69 : decode cX6_carryAll 69 = .ok (.aload_n 0, 1) := by decide +kernel
theorem dX6_carryAll_70 : decode cX6_carryAll 70 = .ok (.getfield 13, 3) := by decide +kernel
theorem dX6_carryAll_73 : decode cX6_carryAll 73 = .ok (.iload_n 3, 1) := by decide +kernel
theorem dX6_carryAll_74 : decode cX6_carryAll 74 = .ok (.iaload, 1) := by decide +kernel
theorem dX6_carryAll_75 : decode cX6_carryAll 75 = .ok (.invokevirtual 212, 3) := by decide +kernel
theorem dX6_carryAll_78 : decode cX6_carryAll 78 = .ok (.iastore, 1) := by decide +kernel
theorem dX6_carryAll_79 : decode cX6_carryAll 79 = .ok (.aload_n 0, 1) := by decide +kernel
theorem dX6_carryAll_80 : decode cX6_carryAll 80 = .ok (.getfield 16, 3) := by decide +kernel
theorem dX6_carryAll_83 : decode cX6_carryAll 83 = .ok (.iload_n 3, 1) := by decide +kernel
theorem dX6_carryAll_84 : decode cX6_carryAll 84 = .ok (.aload_n 0, 1) := by decide +kernel
theorem dX6_carryAll_85 : decode cX6_carryAll 85 = .ok (.aload_n 0, 1) := by decide +kernel
theorem dX6_carryAll_86 : decode cX6_carryAll 86 = .ok (.getfield 16, 3) := by decide +kernel
theorem dX6_carryAll_89 : decode cX6_carryAll 89 = .ok (.iload_n 3, 1) := by decide +kernel
theorem dX6_carryAll_90 : decode cX6_carryAll 90 = .ok (.iaload, 1) := by decide +kernel
theorem dX6_carryAll_91 : decode cX6_carryAll 91 = .ok (.invokevirtual 212, 3) := by decide +kernel
theorem dX6_carryAll_94 : decode cX6_carryAll 94 = .ok (.iastore, 1) := by decide +kernel
theorem dX6_carryAll_95 : decode cX6_carryAll 95 = .ok (.aload_n 0, 1) := by decide +kernel
theorem dX6_carryAll_96 : decode cX6_carryAll 96 = .ok (.getfield 19, 3) := by decide +kernel
theorem dX6_carryAll_99 : decode cX6_carryAll 99 = .ok (.iload_n 3, 1) := by decide +kernel
theorem dX6_carryAll_100 : decode cX6_carryAll 100 = .ok (.aload_n 0, 1) := by decide +kernel
theorem dX6_carryAll_101 : decode cX6_carryAll 101 = .ok (.aload_n 0, 1) := by decide +kernel
theorem dX6_carryAll_102 : decode cX6_carryAll 102 = .ok (.getfield 19, 3) := by decide +kernel
theorem dX6_carryAll_105 : decode cX6_carryAll 105 = .ok (.iload_n 3, 1) := by decide +kernel
theorem dX6_carryAll_106 : decode cX6_carryAll 106 = .ok (.iaload, 1) := by decide +kernel
theorem dX6_carryAll_107 : decode cX6_carryAll 107 = .ok (.invokevirtual 212, 3) := by decide +kernel
theorem dX6_carryAll_110 : decode cX6_carryAll 110 = .ok (.iastore, 1) := by decide +kernel
theorem dX6_carryAll_111 : decode cX6_carryAll 111 = .ok (.iinc 3 1, 3) := by decide +kernel
theorem dX6_carryAll_114 : decode cX6_carryAll 114 = .ok (.goto (-73), 3) := by decide +kernel
theorem dX6_carryAll_117 : decode cX6_carryAll 117 = .ok (.iconst 0, 1) := by decide +kernel
theorem dX6_carryAll_118 : decode cX6_carryAll 118 = .ok (.istore_n 3, 1) := by decide +kernel
theorem dX6_carryAll_119 : decode cX6_carryAll 119 = .ok (.iload_n 3, 1) := by decide +kernel
theorem dX6_carryAll_120 : decode cX6_carryAll 120 = .ok (.bipush 6, 2) := by decide +kernel
theorem dX6_carryAll_122 : decode cX6_carryAll 122 = .ok (.if_icmp .ge 73, 3) := by decide +kernel
theorem dX6_carryAll_125 : decode cX6_carryAll 125 = .ok (.aload_n 0, 1) := by decide +kernel
theorem dX6_carryAll_126 : decode cX6_carryAll 126 = .ok (.getfield 22, 3) := by decide +kernel
theorem dX6_carryAll_129 : decode cX6_carryAll 129 = .ok (.iload_n 3, 1) := by decide +kernel
theorem dX6_carryAll_130 : decode cX6_carryAll 130 = .ok (.aload_n 0, 1) := by decide +kernel
theorem dX6_carryAll_131 : decode cX6_carryAll 131 = .ok (.aload_n 0, 1) := by decide +kernel
theorem dX6_carryAll_132 : decode cX6_carryAll 132 = .ok (.getfield 22, 3) := by decide +kernel
theorem dX6_carryAll_135 : decode cX6_carryAll 135 = .ok (.iload_n 3, 1) := by decide +kernel
theorem dX6_carryAll_136 : decode cX6_carryAll 136 = .ok (.iaload, 1) := by decide +kernel
theorem dX6_carryAll_137 : decode cX6_carryAll 137 = .ok (.invokevirtual 212, 3) := by decide +kernel
theorem dX6_carryAll_140 : decode cX6_carryAll 140 = .ok (.iastore, 1) := by decide +kernel
theorem dX6_carryAll_141 : decode cX6_carryAll 141 = .ok (.aload_n 0, 1) := by decide +kernel
theorem dX6_carryAll_142 : decode cX6_carryAll 142 = .ok (.getfield 25, 3) := by decide +kernel
theorem dX6_carryAll_145 : decode cX6_carryAll 145 = .ok (.iload_n 3, 1) := by decide +kernel
theorem dX6_carryAll_146 : decode cX6_carryAll 146 = .ok (.aload_n 0, 1) := by decide +kernel
theorem dX6_carryAll_147 : decode cX6_carryAll 147 = .ok (.aload_n 0, 1) := by decide +kernel
theorem dX6_carryAll_148 : decode cX6_carryAll 148 = .ok (.getfield 25, 3) := by decide +kernel
theorem dX6_carryAll_151 : decode cX6_carryAll 151 = .ok (.iload_n 3, 1) := by decide +kernel
theorem dX6_carryAll_152 : decode cX6_carryAll 152 = .ok (.iaload, 1) := by decide +kernel
theorem dX6_carryAll_153 : decode cX6_carryAll 153 = .ok (.invokevirtual 212, 3) := by decide +kernel
theorem dX6_carryAll_156 : decode cX6_carryAll 156 = .ok (.iastore, 1) := by decide +kernel
theorem dX6_carryAll_157 : decode cX6_carryAll 157 = .ok (.aload_n 0, 1) := by decide +kernel
theorem dX6_carryAll_158 : decode cX6_carryAll 158 = .ok (.getfield 28, 3) := by decide +kernel
theorem dX6_carryAll_161 : decode cX6_carryAll 161 = .ok (.iload_n 3, 1) := by decide +kernel
theorem dX6_carryAll_162 : decode cX6_carryAll 162 = .ok (.aload_n 0, 1) := by decide +kernel
theorem dX6_carryAll_163 : decode cX6_carryAll 163 = .ok (.aload_n 0, 1) := by decide +kernel
theorem dX6_carryAll_164 : decode cX6_carryAll 164 = .ok (.getfield 28, 3) := by decide +kernel
theorem dX6_carryAll_167 : decode cX6_carryAll 167 = .ok (.iload_n 3, 1) := by decide +kernel
theorem dX6_carryAll_168 : decode cX6_carryAll 168 = .ok (.iaload, 1) := by decide +kernel
theorem dX6_carryAll_169 : decode cX6_carryAll 169 = .ok (.invokevirtual 212, 3) := by decide +kernel
theorem dX6_carryAll_172 : decode cX6_carryAll 172 = .ok (.iastore, 1) := by decide +kernel
theorem dX6_carryAll_173 : decode cX6_carryAll 173 = .ok (.aload_n 0, 1) := by decide +kernel
theorem dX6_carryAll_174 : decode cX6_carryAll 174 = .ok (.getfield 31, 3) := by decide +kernel
theorem dX6_carryAll_177 : decode cX6_carryAll 177 = .ok (.iload_n 3, 1) := by decide +kernel
theorem dX6_carryAll_178 : decode cX6_carryAll 178 = .ok (.aload_n 0, 1) := by decide +kernel
theorem dX6_carryAll_179 : decode cX6_carryAll 179 = .ok (.aload_n 0, 1) := by decide +kernel
theorem dX6_carryAll_180 : decode cX6_carryAll 180 = .ok (.getfield 31, 3) := by decide +kernel
theorem dX6_carryAll_183 : decode cX6_carryAll 183 = .ok (.iload_n 3, 1) := by decide +kernel
theorem dX6_carryAll_184 : decode cX6_carryAll 184 = .ok (.iaload, 1) := by decide +kernel
theorem dX6_carryAll_185 : decode cX6_carryAll 185 = .ok (.invokevirtual 212, 3) := by decide +kernel
theorem dX6_carryAll_188 : decode cX6_carryAll 188 = .ok (.iastore, 1) := by decide +kernel
theorem dX6_carryAll_189 : decode cX6_carryAll 189 = .ok (.iinc 3 1, 3) := by decide +kernel
theorem dX6_carryAll_192 : decode cX6_carryAll 192 = .ok (.goto (-73), 3) := by decide +kernel
theorem dX6_carryAll_195 : decode cX6_carryAll 195 = .ok (.return_, 1) := by decide +kernel
set_option maxRecDepth 100000 in
set_option maxHeartbeats 4000000 in
theorem k_X6_carryAll_t20 (κ : Kp) (ma : Nat → Nat) (M : MS)  : mV κ yX6_carryAll cX6_carryAll 4 1 [.ref (ma 100), .ref (ma 20), .int (iI 1)] (mw κ ma M) (is0 (mw κ ma (cst M 20 1 74 (snapF M) M))) := by
  refine mV_of (by decide) (Nat.le_of_ble_eq_true rfl) (fun E F K => ?_)
  refine g_lv (lv' := [(0, .ref (ma 100)), (1, .ref (ma 20)), (2, .int (iI 1))]) rfl ?_
  refine g_aload_n F 0 dX6_carryAll_0 rfl ?_
  refine g_aload_n F 1 dX6_carryAll_1 rfl ?_
  refine gm_put_25_20 F dX6_carryAll_2 ?_
  refine g_aload_n F 0 dX6_carryAll_5 rfl ?_
  refine g_iload_n F 2 dX6_carryAll_6 rfl ?_
  refine gm_put_24 F (by omega) dX6_carryAll_7 ?_
  refine g_aload_n F 0 dX6_carryAll_10 rfl ?_
  refine g_iconst F dX6_carryAll_11 ?_
  refine gm_put_23 F dX6_carryAll_12 ?_
  refine g_ws (ws' := mw κ ma (cst M 20 1 0 (M 20) M)) rfl ?_
  refine g_aload_n F 0 dX6_carryAll_15 rfl ?_
  refine g_aload_n F 0 dX6_carryAll_16 rfl ?_
  refine g_aload_n F 0 dX6_carryAll_17 rfl ?_
  refine gm_get_4 F dX6_carryAll_18 ?_
  refine g_top (y := iI (M 4 0)) rfl ?_
  refine g_callI F (stk := [.int (iI (M 4 0)), .ref (ma 100), .ref (ma 100)]) (st := [.ref (ma 100)]) (k_X6_carry_t20 κ ma M M (M 20) 0 (M 4 0) (by omega)) cal_X6_carry lm_X6_212 0 rfl rfl rfl rfl (by decide) rfl (Nat.le_of_ble_eq_true rfl) dX6_carryAll_21 (fun r21 ws21 _ hr21 => ?_)
  obtain ⟨rfl, rfl⟩ := hr21
  refine gm_put_4 F dX6_carryAll_24 ?_
  refine g_ws (ws' := mw κ ma (cst M 20 1 (0 + 1) (uI (M 20) 0 (M 4 0)) M)) rfl ?_
  refine g_aload_n F 0 dX6_carryAll_27 rfl ?_
  refine g_aload_n F 0 dX6_carryAll_28 rfl ?_
  refine g_aload_n F 0 dX6_carryAll_29 rfl ?_
  refine gm_get_5 F dX6_carryAll_30 ?_
  refine g_top (y := iI (M 5 0)) rfl ?_
  refine g_callI F (stk := [.int (iI (M 5 0)), .ref (ma 100), .ref (ma 100)]) (st := [.ref (ma 100)]) (k_X6_carry_t20 κ ma M M (uI (M 20) 0 (M 4 0)) (0 + 1) (M 5 0) (by omega)) cal_X6_carry lm_X6_212 0 rfl rfl rfl rfl (by decide) rfl (Nat.le_of_ble_eq_true rfl) dX6_carryAll_33 (fun r33 ws33 _ hr33 => ?_)
  obtain ⟨rfl, rfl⟩ := hr33
  refine gm_put_5 F dX6_carryAll_36 ?_
  refine g_ws (ws' := mw κ ma (cst M 20 1 (0 + 1 + 1) (uI (uI (M 20) 0 (M 4 0)) (0 + 1) (M 5 0)) M)) rfl ?_
  refine g_iconst F dX6_carryAll_39 ?_
  refine g_istore_n F (lv' := [(3, .int (iI 0)), (0, .ref (ma 100)), (1, .ref (ma 20)), (2, .int (iI 1))]) 3 dX6_carryAll_40 rfl (by decide) rfl ?_
  have L41 : ∀ (mz41 : Nat) (c : Int) (q : Int) (f : Int → Int), (12 - c).toNat = mz41 → (0 ≤ c ∧ c ≤ 12) → (q = 2 + 4 * c) → (f = upTo (M 20) (snapF M) q) → G E (mw κ ma (cst M 20 1 q f M)) [(3, .int (iI c)), (0, .ref (ma 100)), (1, .ref (ma 20)), (2, .int (iI 1))] 41 [] := by
    intro mz41
    induction mz41 using Nat.strongRecOn with
    | _ mz41 ih41 =>
    intro c q f hmz41 hc hq hf
    refine g_iload_n F 0 dX6_carryAll_41 rfl ?_
    refine g_bipush F dX6_carryAll_42 (by decide +kernel) ?_
    refine g_icmp_ge F 117 (by omega) dX6_carryAll_44 (by decide) (fun c44 => ?_) (fun c44 => ?_)
    · skip
      refine g_iconst F dX6_carryAll_117 ?_
      refine g_istore_n F (lv' := [(3, .int (iI 0)), (0, .ref (ma 100)), (1, .ref (ma 20)), (2, .int (iI 1))]) 3 dX6_carryAll_118 rfl (by decide) rfl ?_
      have L119 : ∀ (mz119 : Nat) (p : Int) (q2 : Int) (g : Int → Int), (6 - p).toNat = mz119 → (0 ≤ p ∧ p ≤ 6) → (q2 = 50 + 4 * p) → (g = upTo (M 20) (snapF M) q2) → G E (mw κ ma (cst M 20 1 q2 g M)) [(3, .int (iI p)), (0, .ref (ma 100)), (1, .ref (ma 20)), (2, .int (iI 1))] 119 [] := by
        intro mz119
        induction mz119 using Nat.strongRecOn with
        | _ mz119 ih119 =>
        intro p q2 g hmz119 hp hq2 hg
        refine g_iload_n F 0 dX6_carryAll_119 rfl ?_
        refine g_bipush F dX6_carryAll_120 (by decide +kernel) ?_
        refine g_icmp_ge F 195 (by omega) dX6_carryAll_122 (by decide) (fun c122 => ?_) (fun c122 => ?_)
        · skip
          refine g_ws (ws' := mw κ ma (mA (cst M 20 1 q2 g M) 20 g)) rfl ?_
          refine gm_weq_20 (g := snapF M) (fun j a b => by rw [hg, hq2, show p = 6 by omega]; exact upTo_in a b) ?_
          exact K mw_same (by rw [hq2, show p = 6 by omega]; rfl) dX6_carryAll_195
        · skip
          refine g_aload_n F 1 dX6_carryAll_125 rfl ?_
          refine gm_get_6 F dX6_carryAll_126 ?_
          refine g_iload_n F 0 dX6_carryAll_129 rfl ?_
          refine g_aload_n F 1 dX6_carryAll_130 rfl ?_
          refine g_aload_n F 1 dX6_carryAll_131 rfl ?_
          refine gm_get_6 F dX6_carryAll_132 ?_
          refine g_iload_n F 0 dX6_carryAll_135 rfl ?_
          refine gm_ald_6 F (by omega) dX6_carryAll_136 ?_
          refine g_top (y := iI (M 6 p)) rfl ?_
          refine g_callI F (stk := [.int (iI (M 6 p)), .ref (ma 100), .int (iI p), .ref (ma 6)]) (st := [.int (iI p), .ref (ma 6)]) (k_X6_carry_t20 κ ma M M g q2 (M 6 p) (by omega)) cal_X6_carry lm_X6_212 0 rfl rfl rfl rfl (by decide) rfl (Nat.le_of_ble_eq_true rfl) dX6_carryAll_137 (fun r137 ws137 _ hr137 => ?_)
          obtain ⟨rfl, rfl⟩ := hr137
          refine gm_ast_6 F (by omega) dX6_carryAll_140 ?_
          refine g_ws (ws' := mw κ ma (mA (cst M 20 1 (q2 + 1) (uI g q2 (M 6 p)) M) 6 (uI (M 6) p (M 6 p)))) rfl ?_
          refine g_ws (ws' := mw κ ma (cst M 20 1 (q2 + 1) (uI g q2 (M 6 p)) M)) (by rw [uI_self]; rfl) ?_
          refine g_aload_n F 1 dX6_carryAll_141 rfl ?_
          refine gm_get_7 F dX6_carryAll_142 ?_
          refine g_iload_n F 0 dX6_carryAll_145 rfl ?_
          refine g_aload_n F 1 dX6_carryAll_146 rfl ?_
          refine g_aload_n F 1 dX6_carryAll_147 rfl ?_
          refine gm_get_7 F dX6_carryAll_148 ?_
          refine g_iload_n F 0 dX6_carryAll_151 rfl ?_
          refine gm_ald_7 F (by omega) dX6_carryAll_152 ?_
          refine g_top (y := iI (M 7 p)) rfl ?_
          refine g_callI F (stk := [.int (iI (M 7 p)), .ref (ma 100), .int (iI p), .ref (ma 7)]) (st := [.int (iI p), .ref (ma 7)]) (k_X6_carry_t20 κ ma M M (uI g q2 (M 6 p)) (q2 + 1) (M 7 p) (by omega)) cal_X6_carry lm_X6_212 0 rfl rfl rfl rfl (by decide) rfl (Nat.le_of_ble_eq_true rfl) dX6_carryAll_153 (fun r153 ws153 _ hr153 => ?_)
          obtain ⟨rfl, rfl⟩ := hr153
          refine gm_ast_7 F (by omega) dX6_carryAll_156 ?_
          refine g_ws (ws' := mw κ ma (mA (cst M 20 1 (q2 + 1 + 1) (uI (uI g q2 (M 6 p)) (q2 + 1) (M 7 p)) M) 7 (uI (M 7) p (M 7 p)))) rfl ?_
          refine g_ws (ws' := mw κ ma (cst M 20 1 (q2 + 1 + 1) (uI (uI g q2 (M 6 p)) (q2 + 1) (M 7 p)) M)) (by rw [uI_self]; rfl) ?_
          refine g_aload_n F 1 dX6_carryAll_157 rfl ?_
          refine gm_get_8 F dX6_carryAll_158 ?_
          refine g_iload_n F 0 dX6_carryAll_161 rfl ?_
          refine g_aload_n F 1 dX6_carryAll_162 rfl ?_
          refine g_aload_n F 1 dX6_carryAll_163 rfl ?_
          refine gm_get_8 F dX6_carryAll_164 ?_
          refine g_iload_n F 0 dX6_carryAll_167 rfl ?_
          refine gm_ald_8 F (by omega) dX6_carryAll_168 ?_
          refine g_top (y := iI (M 8 p)) rfl ?_
          refine g_callI F (stk := [.int (iI (M 8 p)), .ref (ma 100), .int (iI p), .ref (ma 8)]) (st := [.int (iI p), .ref (ma 8)]) (k_X6_carry_t20 κ ma M M (uI (uI g q2 (M 6 p)) (q2 + 1) (M 7 p)) (q2 + 1 + 1) (M 8 p) (by omega)) cal_X6_carry lm_X6_212 0 rfl rfl rfl rfl (by decide) rfl (Nat.le_of_ble_eq_true rfl) dX6_carryAll_169 (fun r169 ws169 _ hr169 => ?_)
          obtain ⟨rfl, rfl⟩ := hr169
          refine gm_ast_8 F (by omega) dX6_carryAll_172 ?_
          refine g_ws (ws' := mw κ ma (mA (cst M 20 1 (q2 + 1 + 1 + 1) (uI (uI (uI g q2 (M 6 p)) (q2 + 1) (M 7 p)) (q2 + 1 + 1) (M 8 p)) M) 8 (uI (M 8) p (M 8 p)))) rfl ?_
          refine g_ws (ws' := mw κ ma (cst M 20 1 (q2 + 1 + 1 + 1) (uI (uI (uI g q2 (M 6 p)) (q2 + 1) (M 7 p)) (q2 + 1 + 1) (M 8 p)) M)) (by rw [uI_self]; rfl) ?_
          refine g_aload_n F 1 dX6_carryAll_173 rfl ?_
          refine gm_get_9 F dX6_carryAll_174 ?_
          refine g_iload_n F 0 dX6_carryAll_177 rfl ?_
          refine g_aload_n F 1 dX6_carryAll_178 rfl ?_
          refine g_aload_n F 1 dX6_carryAll_179 rfl ?_
          refine gm_get_9 F dX6_carryAll_180 ?_
          refine g_iload_n F 0 dX6_carryAll_183 rfl ?_
          refine gm_ald_9 F (by omega) dX6_carryAll_184 ?_
          refine g_top (y := iI (M 9 p)) rfl ?_
          refine g_callI F (stk := [.int (iI (M 9 p)), .ref (ma 100), .int (iI p), .ref (ma 9)]) (st := [.int (iI p), .ref (ma 9)]) (k_X6_carry_t20 κ ma M M (uI (uI (uI g q2 (M 6 p)) (q2 + 1) (M 7 p)) (q2 + 1 + 1) (M 8 p)) (q2 + 1 + 1 + 1) (M 9 p) (by omega)) cal_X6_carry lm_X6_212 0 rfl rfl rfl rfl (by decide) rfl (Nat.le_of_ble_eq_true rfl) dX6_carryAll_185 (fun r185 ws185 _ hr185 => ?_)
          obtain ⟨rfl, rfl⟩ := hr185
          refine gm_ast_9 F (by omega) dX6_carryAll_188 ?_
          refine g_ws (ws' := mw κ ma (mA (cst M 20 1 (q2 + 1 + 1 + 1 + 1) (uI (uI (uI (uI g q2 (M 6 p)) (q2 + 1) (M 7 p)) (q2 + 1 + 1) (M 8 p)) (q2 + 1 + 1 + 1) (M 9 p)) M) 9 (uI (M 9) p (M 9 p)))) rfl ?_
          refine g_ws (ws' := mw κ ma (cst M 20 1 (q2 + 1 + 1 + 1 + 1) (uI (uI (uI (uI g q2 (M 6 p)) (q2 + 1) (M 7 p)) (q2 + 1 + 1) (M 8 p)) (q2 + 1 + 1 + 1) (M 9 p)) M)) (by rw [uI_self]; rfl) ?_
          refine g_iinc F (lv' := [(3, .int (iI (p + 1))), (0, .ref (ma 100)), (1, .ref (ma 20)), (2, .int (iI 1))]) 0 dX6_carryAll_189 rfl (by decide) rfl ?_
          refine g_goto F 119 dX6_carryAll_192 (by decide) ?_
          refine g_sub F (lv' := [(3, .int (iI (p + 1))), (0, .ref (ma 100)), (1, .ref (ma 20)), (2, .int (iI 1))]) [0, 1, 2, 3] rfl ?_
          have e0 : snapF M (q2) = M 6 p := snap_p M hp.1 (by omega) (by decide : (0 : Int) ≤ 0) (by decide) (by omega)
          have e1 : snapF M (q2 + 1) = M 7 p := snap_p M hp.1 (by omega) (by decide : (0 : Int) ≤ 1) (by decide) (by omega)
          have e2 : snapF M (q2 + 1 + 1) = M 8 p := snap_p M hp.1 (by omega) (by decide : (0 : Int) ≤ 2) (by decide) (by omega)
          have e3 : snapF M (q2 + 1 + 1 + 1) = M 9 p := snap_p M hp.1 (by omega) (by decide : (0 : Int) ≤ 3) (by decide) (by omega)
          exact ih119 _ (by omega) (p + 1) (q2 + 1 + 1 + 1 + 1) (uI (uI (uI (uI g q2 (M 6 p)) (q2 + 1) (M 7 p)) (q2 + 1 + 1) (M 8 p)) (q2 + 1 + 1 + 1) (M 9 p)) rfl (by omega) (by omega) (by rw [hg, ← e0, upTo_s _ _ (by omega), ← e1, upTo_s _ _ (by omega), ← e2, upTo_s _ _ (by omega), ← e3, upTo_s _ _ (by omega)])
      refine g_sub F (lv' := [(3, .int (iI 0)), (0, .ref (ma 100)), (1, .ref (ma 20)), (2, .int (iI 1))]) [0, 1, 2, 3] rfl ?_
      exact L119 _ 0 q f rfl (by omega) (by omega) hf
    · skip
      refine g_aload_n F 1 dX6_carryAll_47 rfl ?_
      refine gm_get_0 F dX6_carryAll_48 ?_
      refine g_iload_n F 0 dX6_carryAll_51 rfl ?_
      refine g_aload_n F 1 dX6_carryAll_52 rfl ?_
      refine g_aload_n F 1 dX6_carryAll_53 rfl ?_
      refine gm_get_0 F dX6_carryAll_54 ?_
      refine g_iload_n F 0 dX6_carryAll_57 rfl ?_
      refine gm_ald_0 F (by omega) dX6_carryAll_58 ?_
      refine g_top (y := iI (M 0 c)) rfl ?_
      refine g_callI F (stk := [.int (iI (M 0 c)), .ref (ma 100), .int (iI c), .ref (ma 0)]) (st := [.int (iI c), .ref (ma 0)]) (k_X6_carry_t20 κ ma M M f q (M 0 c) (by omega)) cal_X6_carry lm_X6_212 0 rfl rfl rfl rfl (by decide) rfl (Nat.le_of_ble_eq_true rfl) dX6_carryAll_59 (fun r59 ws59 _ hr59 => ?_)
      obtain ⟨rfl, rfl⟩ := hr59
      refine gm_ast_0 F (by omega) dX6_carryAll_62 ?_
      refine g_ws (ws' := mw κ ma (mA (cst M 20 1 (q + 1) (uI f q (M 0 c)) M) 0 (uI (M 0) c (M 0 c)))) rfl ?_
      refine g_ws (ws' := mw κ ma (cst M 20 1 (q + 1) (uI f q (M 0 c)) M)) (by rw [uI_self]; rfl) ?_
      refine g_aload_n F 1 dX6_carryAll_63 rfl ?_
      refine gm_get_1 F dX6_carryAll_64 ?_
      refine g_iload_n F 0 dX6_carryAll_67 rfl ?_
      refine g_aload_n F 1 dX6_carryAll_68 rfl ?_
      refine g_aload_n F 1 dX6_carryAll_69 rfl ?_
      refine gm_get_1 F dX6_carryAll_70 ?_
      refine g_iload_n F 0 dX6_carryAll_73 rfl ?_
      refine gm_ald_1 F (by omega) dX6_carryAll_74 ?_
      refine g_top (y := iI (M 1 c)) rfl ?_
      refine g_callI F (stk := [.int (iI (M 1 c)), .ref (ma 100), .int (iI c), .ref (ma 1)]) (st := [.int (iI c), .ref (ma 1)]) (k_X6_carry_t20 κ ma M M (uI f q (M 0 c)) (q + 1) (M 1 c) (by omega)) cal_X6_carry lm_X6_212 0 rfl rfl rfl rfl (by decide) rfl (Nat.le_of_ble_eq_true rfl) dX6_carryAll_75 (fun r75 ws75 _ hr75 => ?_)
      obtain ⟨rfl, rfl⟩ := hr75
      refine gm_ast_1 F (by omega) dX6_carryAll_78 ?_
      refine g_ws (ws' := mw κ ma (mA (cst M 20 1 (q + 1 + 1) (uI (uI f q (M 0 c)) (q + 1) (M 1 c)) M) 1 (uI (M 1) c (M 1 c)))) rfl ?_
      refine g_ws (ws' := mw κ ma (cst M 20 1 (q + 1 + 1) (uI (uI f q (M 0 c)) (q + 1) (M 1 c)) M)) (by rw [uI_self]; rfl) ?_
      refine g_aload_n F 1 dX6_carryAll_79 rfl ?_
      refine gm_get_2 F dX6_carryAll_80 ?_
      refine g_iload_n F 0 dX6_carryAll_83 rfl ?_
      refine g_aload_n F 1 dX6_carryAll_84 rfl ?_
      refine g_aload_n F 1 dX6_carryAll_85 rfl ?_
      refine gm_get_2 F dX6_carryAll_86 ?_
      refine g_iload_n F 0 dX6_carryAll_89 rfl ?_
      refine gm_ald_2 F (by omega) dX6_carryAll_90 ?_
      refine g_top (y := iI (M 2 c)) rfl ?_
      refine g_callI F (stk := [.int (iI (M 2 c)), .ref (ma 100), .int (iI c), .ref (ma 2)]) (st := [.int (iI c), .ref (ma 2)]) (k_X6_carry_t20 κ ma M M (uI (uI f q (M 0 c)) (q + 1) (M 1 c)) (q + 1 + 1) (M 2 c) (by omega)) cal_X6_carry lm_X6_212 0 rfl rfl rfl rfl (by decide) rfl (Nat.le_of_ble_eq_true rfl) dX6_carryAll_91 (fun r91 ws91 _ hr91 => ?_)
      obtain ⟨rfl, rfl⟩ := hr91
      refine gm_ast_2 F (by omega) dX6_carryAll_94 ?_
      refine g_ws (ws' := mw κ ma (mA (cst M 20 1 (q + 1 + 1 + 1) (uI (uI (uI f q (M 0 c)) (q + 1) (M 1 c)) (q + 1 + 1) (M 2 c)) M) 2 (uI (M 2) c (M 2 c)))) rfl ?_
      refine g_ws (ws' := mw κ ma (cst M 20 1 (q + 1 + 1 + 1) (uI (uI (uI f q (M 0 c)) (q + 1) (M 1 c)) (q + 1 + 1) (M 2 c)) M)) (by rw [uI_self]; rfl) ?_
      refine g_aload_n F 1 dX6_carryAll_95 rfl ?_
      refine gm_get_3 F dX6_carryAll_96 ?_
      refine g_iload_n F 0 dX6_carryAll_99 rfl ?_
      refine g_aload_n F 1 dX6_carryAll_100 rfl ?_
      refine g_aload_n F 1 dX6_carryAll_101 rfl ?_
      refine gm_get_3 F dX6_carryAll_102 ?_
      refine g_iload_n F 0 dX6_carryAll_105 rfl ?_
      refine gm_ald_3 F (by omega) dX6_carryAll_106 ?_
      refine g_top (y := iI (M 3 c)) rfl ?_
      refine g_callI F (stk := [.int (iI (M 3 c)), .ref (ma 100), .int (iI c), .ref (ma 3)]) (st := [.int (iI c), .ref (ma 3)]) (k_X6_carry_t20 κ ma M M (uI (uI (uI f q (M 0 c)) (q + 1) (M 1 c)) (q + 1 + 1) (M 2 c)) (q + 1 + 1 + 1) (M 3 c) (by omega)) cal_X6_carry lm_X6_212 0 rfl rfl rfl rfl (by decide) rfl (Nat.le_of_ble_eq_true rfl) dX6_carryAll_107 (fun r107 ws107 _ hr107 => ?_)
      obtain ⟨rfl, rfl⟩ := hr107
      refine gm_ast_3 F (by omega) dX6_carryAll_110 ?_
      refine g_ws (ws' := mw κ ma (mA (cst M 20 1 (q + 1 + 1 + 1 + 1) (uI (uI (uI (uI f q (M 0 c)) (q + 1) (M 1 c)) (q + 1 + 1) (M 2 c)) (q + 1 + 1 + 1) (M 3 c)) M) 3 (uI (M 3) c (M 3 c)))) rfl ?_
      refine g_ws (ws' := mw κ ma (cst M 20 1 (q + 1 + 1 + 1 + 1) (uI (uI (uI (uI f q (M 0 c)) (q + 1) (M 1 c)) (q + 1 + 1) (M 2 c)) (q + 1 + 1 + 1) (M 3 c)) M)) (by rw [uI_self]; rfl) ?_
      refine g_iinc F (lv' := [(3, .int (iI (c + 1))), (0, .ref (ma 100)), (1, .ref (ma 20)), (2, .int (iI 1))]) 0 dX6_carryAll_111 rfl (by decide) rfl ?_
      refine g_goto F 41 dX6_carryAll_114 (by decide) ?_
      refine g_sub F (lv' := [(3, .int (iI (c + 1))), (0, .ref (ma 100)), (1, .ref (ma 20)), (2, .int (iI 1))]) [0, 1, 2, 3] rfl ?_
      have e0 : snapF M (q) = M 0 c := snap_c M hc.1 (by omega) (by decide : (0 : Int) ≤ 0) (by decide) (by omega)
      have e1 : snapF M (q + 1) = M 1 c := snap_c M hc.1 (by omega) (by decide : (0 : Int) ≤ 1) (by decide) (by omega)
      have e2 : snapF M (q + 1 + 1) = M 2 c := snap_c M hc.1 (by omega) (by decide : (0 : Int) ≤ 2) (by decide) (by omega)
      have e3 : snapF M (q + 1 + 1 + 1) = M 3 c := snap_c M hc.1 (by omega) (by decide : (0 : Int) ≤ 3) (by decide) (by omega)
      exact ih41 _ (by omega) (c + 1) (q + 1 + 1 + 1 + 1) (uI (uI (uI (uI f q (M 0 c)) (q + 1) (M 1 c)) (q + 1 + 1) (M 2 c)) (q + 1 + 1 + 1) (M 3 c)) rfl (by omega) (by omega) (by rw [hf, ← e0, upTo_s _ _ (by omega), ← e1, upTo_s _ _ (by omega), ← e2, upTo_s _ _ (by omega), ← e3, upTo_s _ _ (by omega)])
  refine g_sub F (lv' := [(3, .int (iI 0)), (0, .ref (ma 100)), (1, .ref (ma 20)), (2, .int (iI 1))]) [0, 1, 2, 3] rfl ?_
  exact L41 _ 0 (0 + 1 + 1) (uI (uI (M 20) 0 (M 4 0)) (0 + 1) (M 5 0)) rfl (by omega) (by omega) (by rw [← upTo_s _ _ (by decide : (0 : Int) ≤ 0 + 1), ← upTo_s _ _ (by decide : (0 : Int) ≤ 0), upTo_0]; rfl)
theorem cst_kst_20 {κ : Kp} {ma : Nat → Nat} (M M0 : MS) : mw κ ma (cst M 20 0 (0 + 1 + 1) (M 20) (mA (mA M 4 (fun _ => M0 4 0)) 5 (fun _ => M0 5 0))) = mw κ ma (cst M 20 0 (0 + 1 + 1) (M 20) (kst M M0 0 0)) := by
  have e : kst M M0 0 0 = mA (mA M 4 (M0 4)) 5 (M0 5) := by
    funext a
    unfold kst mA
    rw [upTo_0]
    repeat' split
    all_goals first | rfl | omega | (subst_vars; rfl)
  rw [e]
  rfl
set_option maxRecDepth 100000 in
set_option maxHeartbeats 4000000 in
theorem k_X6_carryAll_f20 (κ : Kp) (ma : Nat → Nat) (M M0 : MS) (hS : ∀ z : Int, 0 ≤ z → z < 74 → M 20 z = snapF M0 z) : mV κ yX6_carryAll cX6_carryAll 4 1 [.ref (ma 100), .ref (ma 20), .int (iI 0)] (mw κ ma M) (is0 (mw κ ma (cst M 20 0 74 (M 20) M0))) := by
  refine mV_of (by decide) (Nat.le_of_ble_eq_true rfl) (fun E F K => ?_)
  refine g_lv (lv' := [(0, .ref (ma 100)), (1, .ref (ma 20)), (2, .int (iI 0))]) rfl ?_
  refine g_aload_n F 0 dX6_carryAll_0 rfl ?_
  refine g_aload_n F 1 dX6_carryAll_1 rfl ?_
  refine gm_put_25_20 F dX6_carryAll_2 ?_
  refine g_aload_n F 0 dX6_carryAll_5 rfl ?_
  refine g_iload_n F 2 dX6_carryAll_6 rfl ?_
  refine gm_put_24 F (by omega) dX6_carryAll_7 ?_
  refine g_aload_n F 0 dX6_carryAll_10 rfl ?_
  refine g_iconst F dX6_carryAll_11 ?_
  refine gm_put_23 F dX6_carryAll_12 ?_
  refine g_ws (ws' := mw κ ma (cst M 20 0 0 (M 20) M)) rfl ?_
  refine g_aload_n F 0 dX6_carryAll_15 rfl ?_
  refine g_aload_n F 0 dX6_carryAll_16 rfl ?_
  refine g_aload_n F 0 dX6_carryAll_17 rfl ?_
  refine gm_get_4 F dX6_carryAll_18 ?_
  refine g_top (y := iI (M 4 0)) rfl ?_
  refine g_callI F (stk := [.int (iI (M 4 0)), .ref (ma 100), .ref (ma 100)]) (st := [.ref (ma 100)]) (k_X6_carry_f20 κ ma M M (M 20) 0 (M 4 0) (by omega)) cal_X6_carry lm_X6_212 0 rfl rfl rfl rfl (by decide) rfl (Nat.le_of_ble_eq_true rfl) dX6_carryAll_21 (fun r21 ws21 _ hr21 => ?_)
  obtain ⟨rfl, rfl⟩ := hr21
  refine g_top (y := iI (M0 4 0)) (iIc (hS 0 (by decide) (by decide))) ?_
  refine gm_put_4 F dX6_carryAll_24 ?_
  refine g_ws (ws' := mw κ ma (cst M 20 0 (0 + 1) (M 20) (mA M 4 (fun _ => M0 4 0)))) rfl ?_
  refine g_aload_n F 0 dX6_carryAll_27 rfl ?_
  refine g_aload_n F 0 dX6_carryAll_28 rfl ?_
  refine g_aload_n F 0 dX6_carryAll_29 rfl ?_
  refine gm_get_5 F dX6_carryAll_30 ?_
  refine g_top (y := iI (M 5 0)) rfl ?_
  refine g_callI F (stk := [.int (iI (M 5 0)), .ref (ma 100), .ref (ma 100)]) (st := [.ref (ma 100)]) (k_X6_carry_f20 κ ma M (mA M 4 (fun _ => M0 4 0)) (M 20) (0 + 1) (M 5 0) (by omega)) cal_X6_carry lm_X6_212 0 rfl rfl rfl rfl (by decide) rfl (Nat.le_of_ble_eq_true rfl) dX6_carryAll_33 (fun r33 ws33 _ hr33 => ?_)
  obtain ⟨rfl, rfl⟩ := hr33
  refine g_top (y := iI (M0 5 0)) (iIc (hS (0 + 1) (by decide) (by decide))) ?_
  refine gm_put_5 F dX6_carryAll_36 ?_
  refine g_ws (ws' := mw κ ma (cst M 20 0 (0 + 1 + 1) (M 20) (mA (mA M 4 (fun _ => M0 4 0)) 5 (fun _ => M0 5 0)))) rfl ?_
  refine g_iconst F dX6_carryAll_39 ?_
  refine g_istore_n F (lv' := [(3, .int (iI 0)), (0, .ref (ma 100)), (1, .ref (ma 20)), (2, .int (iI 0))]) 3 dX6_carryAll_40 rfl (by decide) rfl ?_
  have L41 : ∀ (mz41 : Nat) (c : Int) (q : Int), (12 - c).toNat = mz41 → (0 ≤ c ∧ c ≤ 12) → (q = 2 + 4 * c) → G E (mw κ ma (cst M 20 0 q (M 20) (kst M M0 c 0))) [(3, .int (iI c)), (0, .ref (ma 100)), (1, .ref (ma 20)), (2, .int (iI 0))] 41 [] := by
    intro mz41
    induction mz41 using Nat.strongRecOn with
    | _ mz41 ih41 =>
    intro c q hmz41 hc hq
    refine g_iload_n F 0 dX6_carryAll_41 rfl ?_
    refine g_bipush F dX6_carryAll_42 (by decide +kernel) ?_
    refine g_icmp_ge F 117 (by omega) dX6_carryAll_44 (by decide) (fun c44 => ?_) (fun c44 => ?_)
    · skip
      refine g_iconst F dX6_carryAll_117 ?_
      refine g_istore_n F (lv' := [(3, .int (iI 0)), (0, .ref (ma 100)), (1, .ref (ma 20)), (2, .int (iI 0))]) 3 dX6_carryAll_118 rfl (by decide) rfl ?_
      have L119 : ∀ (mz119 : Nat) (p : Int) (q2 : Int), (6 - p).toNat = mz119 → (0 ≤ p ∧ p ≤ 6) → (q2 = 50 + 4 * p) → G E (mw κ ma (cst M 20 0 q2 (M 20) (kst M M0 12 p))) [(3, .int (iI p)), (0, .ref (ma 100)), (1, .ref (ma 20)), (2, .int (iI 0))] 119 [] := by
        intro mz119
        induction mz119 using Nat.strongRecOn with
        | _ mz119 ih119 =>
        intro p q2 hmz119 hp hq2
        refine g_iload_n F 0 dX6_carryAll_119 rfl ?_
        refine g_bipush F dX6_carryAll_120 (by decide +kernel) ?_
        refine g_icmp_ge F 195 (by omega) dX6_carryAll_122 (by decide) (fun c122 => ?_) (fun c122 => ?_)
        · skip
          refine g_ws (ws' := mw κ ma (mA (cst M 20 0 q2 (M 20) (kst M M0 12 p)) 0 (upTo (M 0) (M0 0) 12))) rfl ?_
          refine gm_weq_0 (g := M0 0) (fun j a b => upTo_in a b) ?_
          refine g_ws (ws' := mw κ ma (mA (mA (cst M 20 0 q2 (M 20) (kst M M0 12 p)) 0 (M0 0)) 1 (upTo (M 1) (M0 1) 12))) rfl ?_
          refine gm_weq_1 (g := M0 1) (fun j a b => upTo_in a b) ?_
          refine g_ws (ws' := mw κ ma (mA (mA (mA (cst M 20 0 q2 (M 20) (kst M M0 12 p)) 0 (M0 0)) 1 (M0 1)) 2 (upTo (M 2) (M0 2) 12))) rfl ?_
          refine gm_weq_2 (g := M0 2) (fun j a b => upTo_in a b) ?_
          refine g_ws (ws' := mw κ ma (mA (mA (mA (mA (cst M 20 0 q2 (M 20) (kst M M0 12 p)) 0 (M0 0)) 1 (M0 1)) 2 (M0 2)) 3 (upTo (M 3) (M0 3) 12))) rfl ?_
          refine gm_weq_3 (g := M0 3) (fun j a b => upTo_in a b) ?_
          refine g_ws (ws' := mw κ ma (mA (mA (mA (mA (mA (cst M 20 0 q2 (M 20) (kst M M0 12 p)) 0 (M0 0)) 1 (M0 1)) 2 (M0 2)) 3 (M0 3)) 6 (upTo (M 6) (M0 6) p))) rfl ?_
          refine gm_weq_6 (g := M0 6) (fun j a b => by rw [show p = 6 by omega]; exact upTo_in a b) ?_
          refine g_ws (ws' := mw κ ma (mA (mA (mA (mA (mA (mA (cst M 20 0 q2 (M 20) (kst M M0 12 p)) 0 (M0 0)) 1 (M0 1)) 2 (M0 2)) 3 (M0 3)) 6 (M0 6)) 7 (upTo (M 7) (M0 7) p))) rfl ?_
          refine gm_weq_7 (g := M0 7) (fun j a b => by rw [show p = 6 by omega]; exact upTo_in a b) ?_
          refine g_ws (ws' := mw κ ma (mA (mA (mA (mA (mA (mA (mA (cst M 20 0 q2 (M 20) (kst M M0 12 p)) 0 (M0 0)) 1 (M0 1)) 2 (M0 2)) 3 (M0 3)) 6 (M0 6)) 7 (M0 7)) 8 (upTo (M 8) (M0 8) p))) rfl ?_
          refine gm_weq_8 (g := M0 8) (fun j a b => by rw [show p = 6 by omega]; exact upTo_in a b) ?_
          refine g_ws (ws' := mw κ ma (mA (mA (mA (mA (mA (mA (mA (mA (cst M 20 0 q2 (M 20) (kst M M0 12 p)) 0 (M0 0)) 1 (M0 1)) 2 (M0 2)) 3 (M0 3)) 6 (M0 6)) 7 (M0 7)) 8 (M0 8)) 9 (upTo (M 9) (M0 9) p))) rfl ?_
          refine gm_weq_9 (g := M0 9) (fun j a b => by rw [show p = 6 by omega]; exact upTo_in a b) ?_
          exact K mw_same (by rw [hq2, show p = 6 by omega]; rfl) dX6_carryAll_195
        · skip
          refine g_aload_n F 1 dX6_carryAll_125 rfl ?_
          refine gm_get_6 F dX6_carryAll_126 ?_
          refine g_iload_n F 0 dX6_carryAll_129 rfl ?_
          refine g_aload_n F 1 dX6_carryAll_130 rfl ?_
          refine g_aload_n F 1 dX6_carryAll_131 rfl ?_
          refine gm_get_6 F dX6_carryAll_132 ?_
          refine g_iload_n F 0 dX6_carryAll_135 rfl ?_
          refine gm_ald_6 F (by omega) dX6_carryAll_136 ?_
          refine g_top (y := iI ((upTo (M 6) (M0 6) p) p)) rfl ?_
          refine g_callI F (stk := [.int (iI ((upTo (M 6) (M0 6) p) p)), .ref (ma 100), .int (iI p), .ref (ma 6)]) (st := [.int (iI p), .ref (ma 6)]) (k_X6_carry_f20 κ ma M (kst M M0 12 p) (M 20) q2 ((upTo (M 6) (M0 6) p) p) (by omega)) cal_X6_carry lm_X6_212 0 rfl rfl rfl rfl (by decide) rfl (Nat.le_of_ble_eq_true rfl) dX6_carryAll_137 (fun r137 ws137 _ hr137 => ?_)
          obtain ⟨rfl, rfl⟩ := hr137
          refine g_top (y := iI (M0 6 p)) (iIc ((hS _ (by omega) (by omega)).trans (snap_p M0 hp.1 (by omega) (by decide : (0 : Int) ≤ 0) (by decide) (by omega)))) ?_
          refine gm_ast_6 F (by omega) dX6_carryAll_140 ?_
          refine g_ws (ws' := mw κ ma (mA (cst M 20 0 (q2 + 1) (M 20) (kst M M0 12 p)) 6 (uI (upTo (M 6) (M0 6) p) p (M0 6 p)))) rfl ?_
          refine g_ws (ws' := mw κ ma (cst M 20 0 (q2 + 1) (M 20) (mA (kst M M0 12 p) 6 (uI (upTo (M 6) (M0 6) p) p (M0 6 p))))) rfl ?_
          refine g_aload_n F 1 dX6_carryAll_141 rfl ?_
          refine gm_get_7 F dX6_carryAll_142 ?_
          refine g_iload_n F 0 dX6_carryAll_145 rfl ?_
          refine g_aload_n F 1 dX6_carryAll_146 rfl ?_
          refine g_aload_n F 1 dX6_carryAll_147 rfl ?_
          refine gm_get_7 F dX6_carryAll_148 ?_
          refine g_iload_n F 0 dX6_carryAll_151 rfl ?_
          refine gm_ald_7 F (by omega) dX6_carryAll_152 ?_
          refine g_top (y := iI ((upTo (M 7) (M0 7) p) p)) rfl ?_
          refine g_callI F (stk := [.int (iI ((upTo (M 7) (M0 7) p) p)), .ref (ma 100), .int (iI p), .ref (ma 7)]) (st := [.int (iI p), .ref (ma 7)]) (k_X6_carry_f20 κ ma M (mA (kst M M0 12 p) 6 (uI (upTo (M 6) (M0 6) p) p (M0 6 p))) (M 20) (q2 + 1) ((upTo (M 7) (M0 7) p) p) (by omega)) cal_X6_carry lm_X6_212 0 rfl rfl rfl rfl (by decide) rfl (Nat.le_of_ble_eq_true rfl) dX6_carryAll_153 (fun r153 ws153 _ hr153 => ?_)
          obtain ⟨rfl, rfl⟩ := hr153
          refine g_top (y := iI (M0 7 p)) (iIc ((hS _ (by omega) (by omega)).trans (snap_p M0 hp.1 (by omega) (by decide : (0 : Int) ≤ 1) (by decide) (by omega)))) ?_
          refine gm_ast_7 F (by omega) dX6_carryAll_156 ?_
          refine g_ws (ws' := mw κ ma (mA (cst M 20 0 (q2 + 1 + 1) (M 20) (mA (kst M M0 12 p) 6 (uI (upTo (M 6) (M0 6) p) p (M0 6 p)))) 7 (uI (upTo (M 7) (M0 7) p) p (M0 7 p)))) rfl ?_
          refine g_ws (ws' := mw κ ma (cst M 20 0 (q2 + 1 + 1) (M 20) (mA (mA (kst M M0 12 p) 6 (uI (upTo (M 6) (M0 6) p) p (M0 6 p))) 7 (uI (upTo (M 7) (M0 7) p) p (M0 7 p))))) rfl ?_
          refine g_aload_n F 1 dX6_carryAll_157 rfl ?_
          refine gm_get_8 F dX6_carryAll_158 ?_
          refine g_iload_n F 0 dX6_carryAll_161 rfl ?_
          refine g_aload_n F 1 dX6_carryAll_162 rfl ?_
          refine g_aload_n F 1 dX6_carryAll_163 rfl ?_
          refine gm_get_8 F dX6_carryAll_164 ?_
          refine g_iload_n F 0 dX6_carryAll_167 rfl ?_
          refine gm_ald_8 F (by omega) dX6_carryAll_168 ?_
          refine g_top (y := iI ((upTo (M 8) (M0 8) p) p)) rfl ?_
          refine g_callI F (stk := [.int (iI ((upTo (M 8) (M0 8) p) p)), .ref (ma 100), .int (iI p), .ref (ma 8)]) (st := [.int (iI p), .ref (ma 8)]) (k_X6_carry_f20 κ ma M (mA (mA (kst M M0 12 p) 6 (uI (upTo (M 6) (M0 6) p) p (M0 6 p))) 7 (uI (upTo (M 7) (M0 7) p) p (M0 7 p))) (M 20) (q2 + 1 + 1) ((upTo (M 8) (M0 8) p) p) (by omega)) cal_X6_carry lm_X6_212 0 rfl rfl rfl rfl (by decide) rfl (Nat.le_of_ble_eq_true rfl) dX6_carryAll_169 (fun r169 ws169 _ hr169 => ?_)
          obtain ⟨rfl, rfl⟩ := hr169
          refine g_top (y := iI (M0 8 p)) (iIc ((hS _ (by omega) (by omega)).trans (snap_p M0 hp.1 (by omega) (by decide : (0 : Int) ≤ 2) (by decide) (by omega)))) ?_
          refine gm_ast_8 F (by omega) dX6_carryAll_172 ?_
          refine g_ws (ws' := mw κ ma (mA (cst M 20 0 (q2 + 1 + 1 + 1) (M 20) (mA (mA (kst M M0 12 p) 6 (uI (upTo (M 6) (M0 6) p) p (M0 6 p))) 7 (uI (upTo (M 7) (M0 7) p) p (M0 7 p)))) 8 (uI (upTo (M 8) (M0 8) p) p (M0 8 p)))) rfl ?_
          refine g_ws (ws' := mw κ ma (cst M 20 0 (q2 + 1 + 1 + 1) (M 20) (mA (mA (mA (kst M M0 12 p) 6 (uI (upTo (M 6) (M0 6) p) p (M0 6 p))) 7 (uI (upTo (M 7) (M0 7) p) p (M0 7 p))) 8 (uI (upTo (M 8) (M0 8) p) p (M0 8 p))))) rfl ?_
          refine g_aload_n F 1 dX6_carryAll_173 rfl ?_
          refine gm_get_9 F dX6_carryAll_174 ?_
          refine g_iload_n F 0 dX6_carryAll_177 rfl ?_
          refine g_aload_n F 1 dX6_carryAll_178 rfl ?_
          refine g_aload_n F 1 dX6_carryAll_179 rfl ?_
          refine gm_get_9 F dX6_carryAll_180 ?_
          refine g_iload_n F 0 dX6_carryAll_183 rfl ?_
          refine gm_ald_9 F (by omega) dX6_carryAll_184 ?_
          refine g_top (y := iI ((upTo (M 9) (M0 9) p) p)) rfl ?_
          refine g_callI F (stk := [.int (iI ((upTo (M 9) (M0 9) p) p)), .ref (ma 100), .int (iI p), .ref (ma 9)]) (st := [.int (iI p), .ref (ma 9)]) (k_X6_carry_f20 κ ma M (mA (mA (mA (kst M M0 12 p) 6 (uI (upTo (M 6) (M0 6) p) p (M0 6 p))) 7 (uI (upTo (M 7) (M0 7) p) p (M0 7 p))) 8 (uI (upTo (M 8) (M0 8) p) p (M0 8 p))) (M 20) (q2 + 1 + 1 + 1) ((upTo (M 9) (M0 9) p) p) (by omega)) cal_X6_carry lm_X6_212 0 rfl rfl rfl rfl (by decide) rfl (Nat.le_of_ble_eq_true rfl) dX6_carryAll_185 (fun r185 ws185 _ hr185 => ?_)
          obtain ⟨rfl, rfl⟩ := hr185
          refine g_top (y := iI (M0 9 p)) (iIc ((hS _ (by omega) (by omega)).trans (snap_p M0 hp.1 (by omega) (by decide : (0 : Int) ≤ 3) (by decide) (by omega)))) ?_
          refine gm_ast_9 F (by omega) dX6_carryAll_188 ?_
          refine g_ws (ws' := mw κ ma (mA (cst M 20 0 (q2 + 1 + 1 + 1 + 1) (M 20) (mA (mA (mA (kst M M0 12 p) 6 (uI (upTo (M 6) (M0 6) p) p (M0 6 p))) 7 (uI (upTo (M 7) (M0 7) p) p (M0 7 p))) 8 (uI (upTo (M 8) (M0 8) p) p (M0 8 p)))) 9 (uI (upTo (M 9) (M0 9) p) p (M0 9 p)))) rfl ?_
          refine g_ws (ws' := mw κ ma (cst M 20 0 (q2 + 1 + 1 + 1 + 1) (M 20) (mA (mA (mA (mA (kst M M0 12 p) 6 (uI (upTo (M 6) (M0 6) p) p (M0 6 p))) 7 (uI (upTo (M 7) (M0 7) p) p (M0 7 p))) 8 (uI (upTo (M 8) (M0 8) p) p (M0 8 p))) 9 (uI (upTo (M 9) (M0 9) p) p (M0 9 p))))) rfl ?_
          refine g_iinc F (lv' := [(3, .int (iI (p + 1))), (0, .ref (ma 100)), (1, .ref (ma 20)), (2, .int (iI 0))]) 0 dX6_carryAll_189 rfl (by decide) rfl ?_
          refine g_goto F 119 dX6_carryAll_192 (by decide) ?_
          refine g_sub F (lv' := [(3, .int (iI (p + 1))), (0, .ref (ma 100)), (1, .ref (ma 20)), (2, .int (iI 0))]) [0, 1, 2, 3] rfl ?_
          refine g_ws (ws' := mw κ ma (cst M 20 0 (q2 + 1 + 1 + 1 + 1) (M 20) (kst M M0 12 (p + 1)))) (by rw [upTo_s _ _ hp.1, upTo_s _ _ hp.1, upTo_s _ _ hp.1, upTo_s _ _ hp.1]; rfl) ?_
          exact ih119 _ (by omega) (p + 1) (q2 + 1 + 1 + 1 + 1) rfl (by omega) (by omega)
      refine g_sub F (lv' := [(3, .int (iI 0)), (0, .ref (ma 100)), (1, .ref (ma 20)), (2, .int (iI 0))]) [0, 1, 2, 3] rfl ?_
      refine g_ws (ws' := mw κ ma (cst M 20 0 q (M 20) (kst M M0 12 0))) (by rw [show c = 12 by omega]) ?_
      exact L119 _ 0 q rfl (by omega) (by omega)
    · skip
      refine g_aload_n F 1 dX6_carryAll_47 rfl ?_
      refine gm_get_0 F dX6_carryAll_48 ?_
      refine g_iload_n F 0 dX6_carryAll_51 rfl ?_
      refine g_aload_n F 1 dX6_carryAll_52 rfl ?_
      refine g_aload_n F 1 dX6_carryAll_53 rfl ?_
      refine gm_get_0 F dX6_carryAll_54 ?_
      refine g_iload_n F 0 dX6_carryAll_57 rfl ?_
      refine gm_ald_0 F (by omega) dX6_carryAll_58 ?_
      refine g_top (y := iI ((upTo (M 0) (M0 0) c) c)) rfl ?_
      refine g_callI F (stk := [.int (iI ((upTo (M 0) (M0 0) c) c)), .ref (ma 100), .int (iI c), .ref (ma 0)]) (st := [.int (iI c), .ref (ma 0)]) (k_X6_carry_f20 κ ma M (kst M M0 c 0) (M 20) q ((upTo (M 0) (M0 0) c) c) (by omega)) cal_X6_carry lm_X6_212 0 rfl rfl rfl rfl (by decide) rfl (Nat.le_of_ble_eq_true rfl) dX6_carryAll_59 (fun r59 ws59 _ hr59 => ?_)
      obtain ⟨rfl, rfl⟩ := hr59
      refine g_top (y := iI (M0 0 c)) (iIc ((hS _ (by omega) (by omega)).trans (snap_c M0 hc.1 (by omega) (by decide : (0 : Int) ≤ 0) (by decide) (by omega)))) ?_
      refine gm_ast_0 F (by omega) dX6_carryAll_62 ?_
      refine g_ws (ws' := mw κ ma (mA (cst M 20 0 (q + 1) (M 20) (kst M M0 c 0)) 0 (uI (upTo (M 0) (M0 0) c) c (M0 0 c)))) rfl ?_
      refine g_ws (ws' := mw κ ma (cst M 20 0 (q + 1) (M 20) (mA (kst M M0 c 0) 0 (uI (upTo (M 0) (M0 0) c) c (M0 0 c))))) rfl ?_
      refine g_aload_n F 1 dX6_carryAll_63 rfl ?_
      refine gm_get_1 F dX6_carryAll_64 ?_
      refine g_iload_n F 0 dX6_carryAll_67 rfl ?_
      refine g_aload_n F 1 dX6_carryAll_68 rfl ?_
      refine g_aload_n F 1 dX6_carryAll_69 rfl ?_
      refine gm_get_1 F dX6_carryAll_70 ?_
      refine g_iload_n F 0 dX6_carryAll_73 rfl ?_
      refine gm_ald_1 F (by omega) dX6_carryAll_74 ?_
      refine g_top (y := iI ((upTo (M 1) (M0 1) c) c)) rfl ?_
      refine g_callI F (stk := [.int (iI ((upTo (M 1) (M0 1) c) c)), .ref (ma 100), .int (iI c), .ref (ma 1)]) (st := [.int (iI c), .ref (ma 1)]) (k_X6_carry_f20 κ ma M (mA (kst M M0 c 0) 0 (uI (upTo (M 0) (M0 0) c) c (M0 0 c))) (M 20) (q + 1) ((upTo (M 1) (M0 1) c) c) (by omega)) cal_X6_carry lm_X6_212 0 rfl rfl rfl rfl (by decide) rfl (Nat.le_of_ble_eq_true rfl) dX6_carryAll_75 (fun r75 ws75 _ hr75 => ?_)
      obtain ⟨rfl, rfl⟩ := hr75
      refine g_top (y := iI (M0 1 c)) (iIc ((hS _ (by omega) (by omega)).trans (snap_c M0 hc.1 (by omega) (by decide : (0 : Int) ≤ 1) (by decide) (by omega)))) ?_
      refine gm_ast_1 F (by omega) dX6_carryAll_78 ?_
      refine g_ws (ws' := mw κ ma (mA (cst M 20 0 (q + 1 + 1) (M 20) (mA (kst M M0 c 0) 0 (uI (upTo (M 0) (M0 0) c) c (M0 0 c)))) 1 (uI (upTo (M 1) (M0 1) c) c (M0 1 c)))) rfl ?_
      refine g_ws (ws' := mw κ ma (cst M 20 0 (q + 1 + 1) (M 20) (mA (mA (kst M M0 c 0) 0 (uI (upTo (M 0) (M0 0) c) c (M0 0 c))) 1 (uI (upTo (M 1) (M0 1) c) c (M0 1 c))))) rfl ?_
      refine g_aload_n F 1 dX6_carryAll_79 rfl ?_
      refine gm_get_2 F dX6_carryAll_80 ?_
      refine g_iload_n F 0 dX6_carryAll_83 rfl ?_
      refine g_aload_n F 1 dX6_carryAll_84 rfl ?_
      refine g_aload_n F 1 dX6_carryAll_85 rfl ?_
      refine gm_get_2 F dX6_carryAll_86 ?_
      refine g_iload_n F 0 dX6_carryAll_89 rfl ?_
      refine gm_ald_2 F (by omega) dX6_carryAll_90 ?_
      refine g_top (y := iI ((upTo (M 2) (M0 2) c) c)) rfl ?_
      refine g_callI F (stk := [.int (iI ((upTo (M 2) (M0 2) c) c)), .ref (ma 100), .int (iI c), .ref (ma 2)]) (st := [.int (iI c), .ref (ma 2)]) (k_X6_carry_f20 κ ma M (mA (mA (kst M M0 c 0) 0 (uI (upTo (M 0) (M0 0) c) c (M0 0 c))) 1 (uI (upTo (M 1) (M0 1) c) c (M0 1 c))) (M 20) (q + 1 + 1) ((upTo (M 2) (M0 2) c) c) (by omega)) cal_X6_carry lm_X6_212 0 rfl rfl rfl rfl (by decide) rfl (Nat.le_of_ble_eq_true rfl) dX6_carryAll_91 (fun r91 ws91 _ hr91 => ?_)
      obtain ⟨rfl, rfl⟩ := hr91
      refine g_top (y := iI (M0 2 c)) (iIc ((hS _ (by omega) (by omega)).trans (snap_c M0 hc.1 (by omega) (by decide : (0 : Int) ≤ 2) (by decide) (by omega)))) ?_
      refine gm_ast_2 F (by omega) dX6_carryAll_94 ?_
      refine g_ws (ws' := mw κ ma (mA (cst M 20 0 (q + 1 + 1 + 1) (M 20) (mA (mA (kst M M0 c 0) 0 (uI (upTo (M 0) (M0 0) c) c (M0 0 c))) 1 (uI (upTo (M 1) (M0 1) c) c (M0 1 c)))) 2 (uI (upTo (M 2) (M0 2) c) c (M0 2 c)))) rfl ?_
      refine g_ws (ws' := mw κ ma (cst M 20 0 (q + 1 + 1 + 1) (M 20) (mA (mA (mA (kst M M0 c 0) 0 (uI (upTo (M 0) (M0 0) c) c (M0 0 c))) 1 (uI (upTo (M 1) (M0 1) c) c (M0 1 c))) 2 (uI (upTo (M 2) (M0 2) c) c (M0 2 c))))) rfl ?_
      refine g_aload_n F 1 dX6_carryAll_95 rfl ?_
      refine gm_get_3 F dX6_carryAll_96 ?_
      refine g_iload_n F 0 dX6_carryAll_99 rfl ?_
      refine g_aload_n F 1 dX6_carryAll_100 rfl ?_
      refine g_aload_n F 1 dX6_carryAll_101 rfl ?_
      refine gm_get_3 F dX6_carryAll_102 ?_
      refine g_iload_n F 0 dX6_carryAll_105 rfl ?_
      refine gm_ald_3 F (by omega) dX6_carryAll_106 ?_
      refine g_top (y := iI ((upTo (M 3) (M0 3) c) c)) rfl ?_
      refine g_callI F (stk := [.int (iI ((upTo (M 3) (M0 3) c) c)), .ref (ma 100), .int (iI c), .ref (ma 3)]) (st := [.int (iI c), .ref (ma 3)]) (k_X6_carry_f20 κ ma M (mA (mA (mA (kst M M0 c 0) 0 (uI (upTo (M 0) (M0 0) c) c (M0 0 c))) 1 (uI (upTo (M 1) (M0 1) c) c (M0 1 c))) 2 (uI (upTo (M 2) (M0 2) c) c (M0 2 c))) (M 20) (q + 1 + 1 + 1) ((upTo (M 3) (M0 3) c) c) (by omega)) cal_X6_carry lm_X6_212 0 rfl rfl rfl rfl (by decide) rfl (Nat.le_of_ble_eq_true rfl) dX6_carryAll_107 (fun r107 ws107 _ hr107 => ?_)
      obtain ⟨rfl, rfl⟩ := hr107
      refine g_top (y := iI (M0 3 c)) (iIc ((hS _ (by omega) (by omega)).trans (snap_c M0 hc.1 (by omega) (by decide : (0 : Int) ≤ 3) (by decide) (by omega)))) ?_
      refine gm_ast_3 F (by omega) dX6_carryAll_110 ?_
      refine g_ws (ws' := mw κ ma (mA (cst M 20 0 (q + 1 + 1 + 1 + 1) (M 20) (mA (mA (mA (kst M M0 c 0) 0 (uI (upTo (M 0) (M0 0) c) c (M0 0 c))) 1 (uI (upTo (M 1) (M0 1) c) c (M0 1 c))) 2 (uI (upTo (M 2) (M0 2) c) c (M0 2 c)))) 3 (uI (upTo (M 3) (M0 3) c) c (M0 3 c)))) rfl ?_
      refine g_ws (ws' := mw κ ma (cst M 20 0 (q + 1 + 1 + 1 + 1) (M 20) (mA (mA (mA (mA (kst M M0 c 0) 0 (uI (upTo (M 0) (M0 0) c) c (M0 0 c))) 1 (uI (upTo (M 1) (M0 1) c) c (M0 1 c))) 2 (uI (upTo (M 2) (M0 2) c) c (M0 2 c))) 3 (uI (upTo (M 3) (M0 3) c) c (M0 3 c))))) rfl ?_
      refine g_iinc F (lv' := [(3, .int (iI (c + 1))), (0, .ref (ma 100)), (1, .ref (ma 20)), (2, .int (iI 0))]) 0 dX6_carryAll_111 rfl (by decide) rfl ?_
      refine g_goto F 41 dX6_carryAll_114 (by decide) ?_
      refine g_sub F (lv' := [(3, .int (iI (c + 1))), (0, .ref (ma 100)), (1, .ref (ma 20)), (2, .int (iI 0))]) [0, 1, 2, 3] rfl ?_
      refine g_ws (ws' := mw κ ma (cst M 20 0 (q + 1 + 1 + 1 + 1) (M 20) (kst M M0 (c + 1) 0))) (by rw [upTo_s _ _ hc.1, upTo_s _ _ hc.1, upTo_s _ _ hc.1, upTo_s _ _ hc.1]; rfl) ?_
      exact ih41 _ (by omega) (c + 1) (q + 1 + 1 + 1 + 1) rfl (by omega) (by omega)
  refine g_sub F (lv' := [(3, .int (iI 0)), (0, .ref (ma 100)), (1, .ref (ma 20)), (2, .int (iI 0))]) [0, 1, 2, 3] rfl ?_
  refine g_ws (ws' := mw κ ma (cst M 20 0 (0 + 1 + 1) (M 20) (kst M M0 0 0))) (cst_kst_20 M M0) ?_
  exact L41 _ 0 (0 + 1 + 1) rfl (by omega) (by omega)
set_option maxRecDepth 100000 in
set_option maxHeartbeats 4000000 in
theorem k_X6_carryAll_t21 (κ : Kp) (ma : Nat → Nat) (M : MS)  : mV κ yX6_carryAll cX6_carryAll 4 1 [.ref (ma 100), .ref (ma 21), .int (iI 1)] (mw κ ma M) (is0 (mw κ ma (cst M 21 1 74 (snapF M) M))) := by
  refine mV_of (by decide) (Nat.le_of_ble_eq_true rfl) (fun E F K => ?_)
  refine g_lv (lv' := [(0, .ref (ma 100)), (1, .ref (ma 21)), (2, .int (iI 1))]) rfl ?_
  refine g_aload_n F 0 dX6_carryAll_0 rfl ?_
  refine g_aload_n F 1 dX6_carryAll_1 rfl ?_
  refine gm_put_25_21 F dX6_carryAll_2 ?_
  refine g_aload_n F 0 dX6_carryAll_5 rfl ?_
  refine g_iload_n F 2 dX6_carryAll_6 rfl ?_
  refine gm_put_24 F (by omega) dX6_carryAll_7 ?_
  refine g_aload_n F 0 dX6_carryAll_10 rfl ?_
  refine g_iconst F dX6_carryAll_11 ?_
  refine gm_put_23 F dX6_carryAll_12 ?_
  refine g_ws (ws' := mw κ ma (cst M 21 1 0 (M 21) M)) rfl ?_
  refine g_aload_n F 0 dX6_carryAll_15 rfl ?_
  refine g_aload_n F 0 dX6_carryAll_16 rfl ?_
  refine g_aload_n F 0 dX6_carryAll_17 rfl ?_
  refine gm_get_4 F dX6_carryAll_18 ?_
  refine g_top (y := iI (M 4 0)) rfl ?_
  refine g_callI F (stk := [.int (iI (M 4 0)), .ref (ma 100), .ref (ma 100)]) (st := [.ref (ma 100)]) (k_X6_carry_t21 κ ma M M (M 21) 0 (M 4 0) (by omega)) cal_X6_carry lm_X6_212 0 rfl rfl rfl rfl (by decide) rfl (Nat.le_of_ble_eq_true rfl) dX6_carryAll_21 (fun r21 ws21 _ hr21 => ?_)
  obtain ⟨rfl, rfl⟩ := hr21
  refine gm_put_4 F dX6_carryAll_24 ?_
  refine g_ws (ws' := mw κ ma (cst M 21 1 (0 + 1) (uI (M 21) 0 (M 4 0)) M)) rfl ?_
  refine g_aload_n F 0 dX6_carryAll_27 rfl ?_
  refine g_aload_n F 0 dX6_carryAll_28 rfl ?_
  refine g_aload_n F 0 dX6_carryAll_29 rfl ?_
  refine gm_get_5 F dX6_carryAll_30 ?_
  refine g_top (y := iI (M 5 0)) rfl ?_
  refine g_callI F (stk := [.int (iI (M 5 0)), .ref (ma 100), .ref (ma 100)]) (st := [.ref (ma 100)]) (k_X6_carry_t21 κ ma M M (uI (M 21) 0 (M 4 0)) (0 + 1) (M 5 0) (by omega)) cal_X6_carry lm_X6_212 0 rfl rfl rfl rfl (by decide) rfl (Nat.le_of_ble_eq_true rfl) dX6_carryAll_33 (fun r33 ws33 _ hr33 => ?_)
  obtain ⟨rfl, rfl⟩ := hr33
  refine gm_put_5 F dX6_carryAll_36 ?_
  refine g_ws (ws' := mw κ ma (cst M 21 1 (0 + 1 + 1) (uI (uI (M 21) 0 (M 4 0)) (0 + 1) (M 5 0)) M)) rfl ?_
  refine g_iconst F dX6_carryAll_39 ?_
  refine g_istore_n F (lv' := [(3, .int (iI 0)), (0, .ref (ma 100)), (1, .ref (ma 21)), (2, .int (iI 1))]) 3 dX6_carryAll_40 rfl (by decide) rfl ?_
  have L41 : ∀ (mz41 : Nat) (c : Int) (q : Int) (f : Int → Int), (12 - c).toNat = mz41 → (0 ≤ c ∧ c ≤ 12) → (q = 2 + 4 * c) → (f = upTo (M 21) (snapF M) q) → G E (mw κ ma (cst M 21 1 q f M)) [(3, .int (iI c)), (0, .ref (ma 100)), (1, .ref (ma 21)), (2, .int (iI 1))] 41 [] := by
    intro mz41
    induction mz41 using Nat.strongRecOn with
    | _ mz41 ih41 =>
    intro c q f hmz41 hc hq hf
    refine g_iload_n F 0 dX6_carryAll_41 rfl ?_
    refine g_bipush F dX6_carryAll_42 (by decide +kernel) ?_
    refine g_icmp_ge F 117 (by omega) dX6_carryAll_44 (by decide) (fun c44 => ?_) (fun c44 => ?_)
    · skip
      refine g_iconst F dX6_carryAll_117 ?_
      refine g_istore_n F (lv' := [(3, .int (iI 0)), (0, .ref (ma 100)), (1, .ref (ma 21)), (2, .int (iI 1))]) 3 dX6_carryAll_118 rfl (by decide) rfl ?_
      have L119 : ∀ (mz119 : Nat) (p : Int) (q2 : Int) (g : Int → Int), (6 - p).toNat = mz119 → (0 ≤ p ∧ p ≤ 6) → (q2 = 50 + 4 * p) → (g = upTo (M 21) (snapF M) q2) → G E (mw κ ma (cst M 21 1 q2 g M)) [(3, .int (iI p)), (0, .ref (ma 100)), (1, .ref (ma 21)), (2, .int (iI 1))] 119 [] := by
        intro mz119
        induction mz119 using Nat.strongRecOn with
        | _ mz119 ih119 =>
        intro p q2 g hmz119 hp hq2 hg
        refine g_iload_n F 0 dX6_carryAll_119 rfl ?_
        refine g_bipush F dX6_carryAll_120 (by decide +kernel) ?_
        refine g_icmp_ge F 195 (by omega) dX6_carryAll_122 (by decide) (fun c122 => ?_) (fun c122 => ?_)
        · skip
          refine g_ws (ws' := mw κ ma (mA (cst M 21 1 q2 g M) 21 g)) rfl ?_
          refine gm_weq_21 (g := snapF M) (fun j a b => by rw [hg, hq2, show p = 6 by omega]; exact upTo_in a b) ?_
          exact K mw_same (by rw [hq2, show p = 6 by omega]; rfl) dX6_carryAll_195
        · skip
          refine g_aload_n F 1 dX6_carryAll_125 rfl ?_
          refine gm_get_6 F dX6_carryAll_126 ?_
          refine g_iload_n F 0 dX6_carryAll_129 rfl ?_
          refine g_aload_n F 1 dX6_carryAll_130 rfl ?_
          refine g_aload_n F 1 dX6_carryAll_131 rfl ?_
          refine gm_get_6 F dX6_carryAll_132 ?_
          refine g_iload_n F 0 dX6_carryAll_135 rfl ?_
          refine gm_ald_6 F (by omega) dX6_carryAll_136 ?_
          refine g_top (y := iI (M 6 p)) rfl ?_
          refine g_callI F (stk := [.int (iI (M 6 p)), .ref (ma 100), .int (iI p), .ref (ma 6)]) (st := [.int (iI p), .ref (ma 6)]) (k_X6_carry_t21 κ ma M M g q2 (M 6 p) (by omega)) cal_X6_carry lm_X6_212 0 rfl rfl rfl rfl (by decide) rfl (Nat.le_of_ble_eq_true rfl) dX6_carryAll_137 (fun r137 ws137 _ hr137 => ?_)
          obtain ⟨rfl, rfl⟩ := hr137
          refine gm_ast_6 F (by omega) dX6_carryAll_140 ?_
          refine g_ws (ws' := mw κ ma (mA (cst M 21 1 (q2 + 1) (uI g q2 (M 6 p)) M) 6 (uI (M 6) p (M 6 p)))) rfl ?_
          refine g_ws (ws' := mw κ ma (cst M 21 1 (q2 + 1) (uI g q2 (M 6 p)) M)) (by rw [uI_self]; rfl) ?_
          refine g_aload_n F 1 dX6_carryAll_141 rfl ?_
          refine gm_get_7 F dX6_carryAll_142 ?_
          refine g_iload_n F 0 dX6_carryAll_145 rfl ?_
          refine g_aload_n F 1 dX6_carryAll_146 rfl ?_
          refine g_aload_n F 1 dX6_carryAll_147 rfl ?_
          refine gm_get_7 F dX6_carryAll_148 ?_
          refine g_iload_n F 0 dX6_carryAll_151 rfl ?_
          refine gm_ald_7 F (by omega) dX6_carryAll_152 ?_
          refine g_top (y := iI (M 7 p)) rfl ?_
          refine g_callI F (stk := [.int (iI (M 7 p)), .ref (ma 100), .int (iI p), .ref (ma 7)]) (st := [.int (iI p), .ref (ma 7)]) (k_X6_carry_t21 κ ma M M (uI g q2 (M 6 p)) (q2 + 1) (M 7 p) (by omega)) cal_X6_carry lm_X6_212 0 rfl rfl rfl rfl (by decide) rfl (Nat.le_of_ble_eq_true rfl) dX6_carryAll_153 (fun r153 ws153 _ hr153 => ?_)
          obtain ⟨rfl, rfl⟩ := hr153
          refine gm_ast_7 F (by omega) dX6_carryAll_156 ?_
          refine g_ws (ws' := mw κ ma (mA (cst M 21 1 (q2 + 1 + 1) (uI (uI g q2 (M 6 p)) (q2 + 1) (M 7 p)) M) 7 (uI (M 7) p (M 7 p)))) rfl ?_
          refine g_ws (ws' := mw κ ma (cst M 21 1 (q2 + 1 + 1) (uI (uI g q2 (M 6 p)) (q2 + 1) (M 7 p)) M)) (by rw [uI_self]; rfl) ?_
          refine g_aload_n F 1 dX6_carryAll_157 rfl ?_
          refine gm_get_8 F dX6_carryAll_158 ?_
          refine g_iload_n F 0 dX6_carryAll_161 rfl ?_
          refine g_aload_n F 1 dX6_carryAll_162 rfl ?_
          refine g_aload_n F 1 dX6_carryAll_163 rfl ?_
          refine gm_get_8 F dX6_carryAll_164 ?_
          refine g_iload_n F 0 dX6_carryAll_167 rfl ?_
          refine gm_ald_8 F (by omega) dX6_carryAll_168 ?_
          refine g_top (y := iI (M 8 p)) rfl ?_
          refine g_callI F (stk := [.int (iI (M 8 p)), .ref (ma 100), .int (iI p), .ref (ma 8)]) (st := [.int (iI p), .ref (ma 8)]) (k_X6_carry_t21 κ ma M M (uI (uI g q2 (M 6 p)) (q2 + 1) (M 7 p)) (q2 + 1 + 1) (M 8 p) (by omega)) cal_X6_carry lm_X6_212 0 rfl rfl rfl rfl (by decide) rfl (Nat.le_of_ble_eq_true rfl) dX6_carryAll_169 (fun r169 ws169 _ hr169 => ?_)
          obtain ⟨rfl, rfl⟩ := hr169
          refine gm_ast_8 F (by omega) dX6_carryAll_172 ?_
          refine g_ws (ws' := mw κ ma (mA (cst M 21 1 (q2 + 1 + 1 + 1) (uI (uI (uI g q2 (M 6 p)) (q2 + 1) (M 7 p)) (q2 + 1 + 1) (M 8 p)) M) 8 (uI (M 8) p (M 8 p)))) rfl ?_
          refine g_ws (ws' := mw κ ma (cst M 21 1 (q2 + 1 + 1 + 1) (uI (uI (uI g q2 (M 6 p)) (q2 + 1) (M 7 p)) (q2 + 1 + 1) (M 8 p)) M)) (by rw [uI_self]; rfl) ?_
          refine g_aload_n F 1 dX6_carryAll_173 rfl ?_
          refine gm_get_9 F dX6_carryAll_174 ?_
          refine g_iload_n F 0 dX6_carryAll_177 rfl ?_
          refine g_aload_n F 1 dX6_carryAll_178 rfl ?_
          refine g_aload_n F 1 dX6_carryAll_179 rfl ?_
          refine gm_get_9 F dX6_carryAll_180 ?_
          refine g_iload_n F 0 dX6_carryAll_183 rfl ?_
          refine gm_ald_9 F (by omega) dX6_carryAll_184 ?_
          refine g_top (y := iI (M 9 p)) rfl ?_
          refine g_callI F (stk := [.int (iI (M 9 p)), .ref (ma 100), .int (iI p), .ref (ma 9)]) (st := [.int (iI p), .ref (ma 9)]) (k_X6_carry_t21 κ ma M M (uI (uI (uI g q2 (M 6 p)) (q2 + 1) (M 7 p)) (q2 + 1 + 1) (M 8 p)) (q2 + 1 + 1 + 1) (M 9 p) (by omega)) cal_X6_carry lm_X6_212 0 rfl rfl rfl rfl (by decide) rfl (Nat.le_of_ble_eq_true rfl) dX6_carryAll_185 (fun r185 ws185 _ hr185 => ?_)
          obtain ⟨rfl, rfl⟩ := hr185
          refine gm_ast_9 F (by omega) dX6_carryAll_188 ?_
          refine g_ws (ws' := mw κ ma (mA (cst M 21 1 (q2 + 1 + 1 + 1 + 1) (uI (uI (uI (uI g q2 (M 6 p)) (q2 + 1) (M 7 p)) (q2 + 1 + 1) (M 8 p)) (q2 + 1 + 1 + 1) (M 9 p)) M) 9 (uI (M 9) p (M 9 p)))) rfl ?_
          refine g_ws (ws' := mw κ ma (cst M 21 1 (q2 + 1 + 1 + 1 + 1) (uI (uI (uI (uI g q2 (M 6 p)) (q2 + 1) (M 7 p)) (q2 + 1 + 1) (M 8 p)) (q2 + 1 + 1 + 1) (M 9 p)) M)) (by rw [uI_self]; rfl) ?_
          refine g_iinc F (lv' := [(3, .int (iI (p + 1))), (0, .ref (ma 100)), (1, .ref (ma 21)), (2, .int (iI 1))]) 0 dX6_carryAll_189 rfl (by decide) rfl ?_
          refine g_goto F 119 dX6_carryAll_192 (by decide) ?_
          refine g_sub F (lv' := [(3, .int (iI (p + 1))), (0, .ref (ma 100)), (1, .ref (ma 21)), (2, .int (iI 1))]) [0, 1, 2, 3] rfl ?_
          have e0 : snapF M (q2) = M 6 p := snap_p M hp.1 (by omega) (by decide : (0 : Int) ≤ 0) (by decide) (by omega)
          have e1 : snapF M (q2 + 1) = M 7 p := snap_p M hp.1 (by omega) (by decide : (0 : Int) ≤ 1) (by decide) (by omega)
          have e2 : snapF M (q2 + 1 + 1) = M 8 p := snap_p M hp.1 (by omega) (by decide : (0 : Int) ≤ 2) (by decide) (by omega)
          have e3 : snapF M (q2 + 1 + 1 + 1) = M 9 p := snap_p M hp.1 (by omega) (by decide : (0 : Int) ≤ 3) (by decide) (by omega)
          exact ih119 _ (by omega) (p + 1) (q2 + 1 + 1 + 1 + 1) (uI (uI (uI (uI g q2 (M 6 p)) (q2 + 1) (M 7 p)) (q2 + 1 + 1) (M 8 p)) (q2 + 1 + 1 + 1) (M 9 p)) rfl (by omega) (by omega) (by rw [hg, ← e0, upTo_s _ _ (by omega), ← e1, upTo_s _ _ (by omega), ← e2, upTo_s _ _ (by omega), ← e3, upTo_s _ _ (by omega)])
      refine g_sub F (lv' := [(3, .int (iI 0)), (0, .ref (ma 100)), (1, .ref (ma 21)), (2, .int (iI 1))]) [0, 1, 2, 3] rfl ?_
      exact L119 _ 0 q f rfl (by omega) (by omega) hf
    · skip
      refine g_aload_n F 1 dX6_carryAll_47 rfl ?_
      refine gm_get_0 F dX6_carryAll_48 ?_
      refine g_iload_n F 0 dX6_carryAll_51 rfl ?_
      refine g_aload_n F 1 dX6_carryAll_52 rfl ?_
      refine g_aload_n F 1 dX6_carryAll_53 rfl ?_
      refine gm_get_0 F dX6_carryAll_54 ?_
      refine g_iload_n F 0 dX6_carryAll_57 rfl ?_
      refine gm_ald_0 F (by omega) dX6_carryAll_58 ?_
      refine g_top (y := iI (M 0 c)) rfl ?_
      refine g_callI F (stk := [.int (iI (M 0 c)), .ref (ma 100), .int (iI c), .ref (ma 0)]) (st := [.int (iI c), .ref (ma 0)]) (k_X6_carry_t21 κ ma M M f q (M 0 c) (by omega)) cal_X6_carry lm_X6_212 0 rfl rfl rfl rfl (by decide) rfl (Nat.le_of_ble_eq_true rfl) dX6_carryAll_59 (fun r59 ws59 _ hr59 => ?_)
      obtain ⟨rfl, rfl⟩ := hr59
      refine gm_ast_0 F (by omega) dX6_carryAll_62 ?_
      refine g_ws (ws' := mw κ ma (mA (cst M 21 1 (q + 1) (uI f q (M 0 c)) M) 0 (uI (M 0) c (M 0 c)))) rfl ?_
      refine g_ws (ws' := mw κ ma (cst M 21 1 (q + 1) (uI f q (M 0 c)) M)) (by rw [uI_self]; rfl) ?_
      refine g_aload_n F 1 dX6_carryAll_63 rfl ?_
      refine gm_get_1 F dX6_carryAll_64 ?_
      refine g_iload_n F 0 dX6_carryAll_67 rfl ?_
      refine g_aload_n F 1 dX6_carryAll_68 rfl ?_
      refine g_aload_n F 1 dX6_carryAll_69 rfl ?_
      refine gm_get_1 F dX6_carryAll_70 ?_
      refine g_iload_n F 0 dX6_carryAll_73 rfl ?_
      refine gm_ald_1 F (by omega) dX6_carryAll_74 ?_
      refine g_top (y := iI (M 1 c)) rfl ?_
      refine g_callI F (stk := [.int (iI (M 1 c)), .ref (ma 100), .int (iI c), .ref (ma 1)]) (st := [.int (iI c), .ref (ma 1)]) (k_X6_carry_t21 κ ma M M (uI f q (M 0 c)) (q + 1) (M 1 c) (by omega)) cal_X6_carry lm_X6_212 0 rfl rfl rfl rfl (by decide) rfl (Nat.le_of_ble_eq_true rfl) dX6_carryAll_75 (fun r75 ws75 _ hr75 => ?_)
      obtain ⟨rfl, rfl⟩ := hr75
      refine gm_ast_1 F (by omega) dX6_carryAll_78 ?_
      refine g_ws (ws' := mw κ ma (mA (cst M 21 1 (q + 1 + 1) (uI (uI f q (M 0 c)) (q + 1) (M 1 c)) M) 1 (uI (M 1) c (M 1 c)))) rfl ?_
      refine g_ws (ws' := mw κ ma (cst M 21 1 (q + 1 + 1) (uI (uI f q (M 0 c)) (q + 1) (M 1 c)) M)) (by rw [uI_self]; rfl) ?_
      refine g_aload_n F 1 dX6_carryAll_79 rfl ?_
      refine gm_get_2 F dX6_carryAll_80 ?_
      refine g_iload_n F 0 dX6_carryAll_83 rfl ?_
      refine g_aload_n F 1 dX6_carryAll_84 rfl ?_
      refine g_aload_n F 1 dX6_carryAll_85 rfl ?_
      refine gm_get_2 F dX6_carryAll_86 ?_
      refine g_iload_n F 0 dX6_carryAll_89 rfl ?_
      refine gm_ald_2 F (by omega) dX6_carryAll_90 ?_
      refine g_top (y := iI (M 2 c)) rfl ?_
      refine g_callI F (stk := [.int (iI (M 2 c)), .ref (ma 100), .int (iI c), .ref (ma 2)]) (st := [.int (iI c), .ref (ma 2)]) (k_X6_carry_t21 κ ma M M (uI (uI f q (M 0 c)) (q + 1) (M 1 c)) (q + 1 + 1) (M 2 c) (by omega)) cal_X6_carry lm_X6_212 0 rfl rfl rfl rfl (by decide) rfl (Nat.le_of_ble_eq_true rfl) dX6_carryAll_91 (fun r91 ws91 _ hr91 => ?_)
      obtain ⟨rfl, rfl⟩ := hr91
      refine gm_ast_2 F (by omega) dX6_carryAll_94 ?_
      refine g_ws (ws' := mw κ ma (mA (cst M 21 1 (q + 1 + 1 + 1) (uI (uI (uI f q (M 0 c)) (q + 1) (M 1 c)) (q + 1 + 1) (M 2 c)) M) 2 (uI (M 2) c (M 2 c)))) rfl ?_
      refine g_ws (ws' := mw κ ma (cst M 21 1 (q + 1 + 1 + 1) (uI (uI (uI f q (M 0 c)) (q + 1) (M 1 c)) (q + 1 + 1) (M 2 c)) M)) (by rw [uI_self]; rfl) ?_
      refine g_aload_n F 1 dX6_carryAll_95 rfl ?_
      refine gm_get_3 F dX6_carryAll_96 ?_
      refine g_iload_n F 0 dX6_carryAll_99 rfl ?_
      refine g_aload_n F 1 dX6_carryAll_100 rfl ?_
      refine g_aload_n F 1 dX6_carryAll_101 rfl ?_
      refine gm_get_3 F dX6_carryAll_102 ?_
      refine g_iload_n F 0 dX6_carryAll_105 rfl ?_
      refine gm_ald_3 F (by omega) dX6_carryAll_106 ?_
      refine g_top (y := iI (M 3 c)) rfl ?_
      refine g_callI F (stk := [.int (iI (M 3 c)), .ref (ma 100), .int (iI c), .ref (ma 3)]) (st := [.int (iI c), .ref (ma 3)]) (k_X6_carry_t21 κ ma M M (uI (uI (uI f q (M 0 c)) (q + 1) (M 1 c)) (q + 1 + 1) (M 2 c)) (q + 1 + 1 + 1) (M 3 c) (by omega)) cal_X6_carry lm_X6_212 0 rfl rfl rfl rfl (by decide) rfl (Nat.le_of_ble_eq_true rfl) dX6_carryAll_107 (fun r107 ws107 _ hr107 => ?_)
      obtain ⟨rfl, rfl⟩ := hr107
      refine gm_ast_3 F (by omega) dX6_carryAll_110 ?_
      refine g_ws (ws' := mw κ ma (mA (cst M 21 1 (q + 1 + 1 + 1 + 1) (uI (uI (uI (uI f q (M 0 c)) (q + 1) (M 1 c)) (q + 1 + 1) (M 2 c)) (q + 1 + 1 + 1) (M 3 c)) M) 3 (uI (M 3) c (M 3 c)))) rfl ?_
      refine g_ws (ws' := mw κ ma (cst M 21 1 (q + 1 + 1 + 1 + 1) (uI (uI (uI (uI f q (M 0 c)) (q + 1) (M 1 c)) (q + 1 + 1) (M 2 c)) (q + 1 + 1 + 1) (M 3 c)) M)) (by rw [uI_self]; rfl) ?_
      refine g_iinc F (lv' := [(3, .int (iI (c + 1))), (0, .ref (ma 100)), (1, .ref (ma 21)), (2, .int (iI 1))]) 0 dX6_carryAll_111 rfl (by decide) rfl ?_
      refine g_goto F 41 dX6_carryAll_114 (by decide) ?_
      refine g_sub F (lv' := [(3, .int (iI (c + 1))), (0, .ref (ma 100)), (1, .ref (ma 21)), (2, .int (iI 1))]) [0, 1, 2, 3] rfl ?_
      have e0 : snapF M (q) = M 0 c := snap_c M hc.1 (by omega) (by decide : (0 : Int) ≤ 0) (by decide) (by omega)
      have e1 : snapF M (q + 1) = M 1 c := snap_c M hc.1 (by omega) (by decide : (0 : Int) ≤ 1) (by decide) (by omega)
      have e2 : snapF M (q + 1 + 1) = M 2 c := snap_c M hc.1 (by omega) (by decide : (0 : Int) ≤ 2) (by decide) (by omega)
      have e3 : snapF M (q + 1 + 1 + 1) = M 3 c := snap_c M hc.1 (by omega) (by decide : (0 : Int) ≤ 3) (by decide) (by omega)
      exact ih41 _ (by omega) (c + 1) (q + 1 + 1 + 1 + 1) (uI (uI (uI (uI f q (M 0 c)) (q + 1) (M 1 c)) (q + 1 + 1) (M 2 c)) (q + 1 + 1 + 1) (M 3 c)) rfl (by omega) (by omega) (by rw [hf, ← e0, upTo_s _ _ (by omega), ← e1, upTo_s _ _ (by omega), ← e2, upTo_s _ _ (by omega), ← e3, upTo_s _ _ (by omega)])
  refine g_sub F (lv' := [(3, .int (iI 0)), (0, .ref (ma 100)), (1, .ref (ma 21)), (2, .int (iI 1))]) [0, 1, 2, 3] rfl ?_
  exact L41 _ 0 (0 + 1 + 1) (uI (uI (M 21) 0 (M 4 0)) (0 + 1) (M 5 0)) rfl (by omega) (by omega) (by rw [← upTo_s _ _ (by decide : (0 : Int) ≤ 0 + 1), ← upTo_s _ _ (by decide : (0 : Int) ≤ 0), upTo_0]; rfl)
theorem cst_kst_21 {κ : Kp} {ma : Nat → Nat} (M M0 : MS) : mw κ ma (cst M 21 0 (0 + 1 + 1) (M 21) (mA (mA M 4 (fun _ => M0 4 0)) 5 (fun _ => M0 5 0))) = mw κ ma (cst M 21 0 (0 + 1 + 1) (M 21) (kst M M0 0 0)) := by
  have e : kst M M0 0 0 = mA (mA M 4 (M0 4)) 5 (M0 5) := by
    funext a
    unfold kst mA
    rw [upTo_0]
    repeat' split
    all_goals first | rfl | omega | (subst_vars; rfl)
  rw [e]
  rfl
set_option maxRecDepth 100000 in
set_option maxHeartbeats 4000000 in
theorem k_X6_carryAll_f21 (κ : Kp) (ma : Nat → Nat) (M M0 : MS) (hS : ∀ z : Int, 0 ≤ z → z < 74 → M 21 z = snapF M0 z) : mV κ yX6_carryAll cX6_carryAll 4 1 [.ref (ma 100), .ref (ma 21), .int (iI 0)] (mw κ ma M) (is0 (mw κ ma (cst M 21 0 74 (M 21) M0))) := by
  refine mV_of (by decide) (Nat.le_of_ble_eq_true rfl) (fun E F K => ?_)
  refine g_lv (lv' := [(0, .ref (ma 100)), (1, .ref (ma 21)), (2, .int (iI 0))]) rfl ?_
  refine g_aload_n F 0 dX6_carryAll_0 rfl ?_
  refine g_aload_n F 1 dX6_carryAll_1 rfl ?_
  refine gm_put_25_21 F dX6_carryAll_2 ?_
  refine g_aload_n F 0 dX6_carryAll_5 rfl ?_
  refine g_iload_n F 2 dX6_carryAll_6 rfl ?_
  refine gm_put_24 F (by omega) dX6_carryAll_7 ?_
  refine g_aload_n F 0 dX6_carryAll_10 rfl ?_
  refine g_iconst F dX6_carryAll_11 ?_
  refine gm_put_23 F dX6_carryAll_12 ?_
  refine g_ws (ws' := mw κ ma (cst M 21 0 0 (M 21) M)) rfl ?_
  refine g_aload_n F 0 dX6_carryAll_15 rfl ?_
  refine g_aload_n F 0 dX6_carryAll_16 rfl ?_
  refine g_aload_n F 0 dX6_carryAll_17 rfl ?_
  refine gm_get_4 F dX6_carryAll_18 ?_
  refine g_top (y := iI (M 4 0)) rfl ?_
  refine g_callI F (stk := [.int (iI (M 4 0)), .ref (ma 100), .ref (ma 100)]) (st := [.ref (ma 100)]) (k_X6_carry_f21 κ ma M M (M 21) 0 (M 4 0) (by omega)) cal_X6_carry lm_X6_212 0 rfl rfl rfl rfl (by decide) rfl (Nat.le_of_ble_eq_true rfl) dX6_carryAll_21 (fun r21 ws21 _ hr21 => ?_)
  obtain ⟨rfl, rfl⟩ := hr21
  refine g_top (y := iI (M0 4 0)) (iIc (hS 0 (by decide) (by decide))) ?_
  refine gm_put_4 F dX6_carryAll_24 ?_
  refine g_ws (ws' := mw κ ma (cst M 21 0 (0 + 1) (M 21) (mA M 4 (fun _ => M0 4 0)))) rfl ?_
  refine g_aload_n F 0 dX6_carryAll_27 rfl ?_
  refine g_aload_n F 0 dX6_carryAll_28 rfl ?_
  refine g_aload_n F 0 dX6_carryAll_29 rfl ?_
  refine gm_get_5 F dX6_carryAll_30 ?_
  refine g_top (y := iI (M 5 0)) rfl ?_
  refine g_callI F (stk := [.int (iI (M 5 0)), .ref (ma 100), .ref (ma 100)]) (st := [.ref (ma 100)]) (k_X6_carry_f21 κ ma M (mA M 4 (fun _ => M0 4 0)) (M 21) (0 + 1) (M 5 0) (by omega)) cal_X6_carry lm_X6_212 0 rfl rfl rfl rfl (by decide) rfl (Nat.le_of_ble_eq_true rfl) dX6_carryAll_33 (fun r33 ws33 _ hr33 => ?_)
  obtain ⟨rfl, rfl⟩ := hr33
  refine g_top (y := iI (M0 5 0)) (iIc (hS (0 + 1) (by decide) (by decide))) ?_
  refine gm_put_5 F dX6_carryAll_36 ?_
  refine g_ws (ws' := mw κ ma (cst M 21 0 (0 + 1 + 1) (M 21) (mA (mA M 4 (fun _ => M0 4 0)) 5 (fun _ => M0 5 0)))) rfl ?_
  refine g_iconst F dX6_carryAll_39 ?_
  refine g_istore_n F (lv' := [(3, .int (iI 0)), (0, .ref (ma 100)), (1, .ref (ma 21)), (2, .int (iI 0))]) 3 dX6_carryAll_40 rfl (by decide) rfl ?_
  have L41 : ∀ (mz41 : Nat) (c : Int) (q : Int), (12 - c).toNat = mz41 → (0 ≤ c ∧ c ≤ 12) → (q = 2 + 4 * c) → G E (mw κ ma (cst M 21 0 q (M 21) (kst M M0 c 0))) [(3, .int (iI c)), (0, .ref (ma 100)), (1, .ref (ma 21)), (2, .int (iI 0))] 41 [] := by
    intro mz41
    induction mz41 using Nat.strongRecOn with
    | _ mz41 ih41 =>
    intro c q hmz41 hc hq
    refine g_iload_n F 0 dX6_carryAll_41 rfl ?_
    refine g_bipush F dX6_carryAll_42 (by decide +kernel) ?_
    refine g_icmp_ge F 117 (by omega) dX6_carryAll_44 (by decide) (fun c44 => ?_) (fun c44 => ?_)
    · skip
      refine g_iconst F dX6_carryAll_117 ?_
      refine g_istore_n F (lv' := [(3, .int (iI 0)), (0, .ref (ma 100)), (1, .ref (ma 21)), (2, .int (iI 0))]) 3 dX6_carryAll_118 rfl (by decide) rfl ?_
      have L119 : ∀ (mz119 : Nat) (p : Int) (q2 : Int), (6 - p).toNat = mz119 → (0 ≤ p ∧ p ≤ 6) → (q2 = 50 + 4 * p) → G E (mw κ ma (cst M 21 0 q2 (M 21) (kst M M0 12 p))) [(3, .int (iI p)), (0, .ref (ma 100)), (1, .ref (ma 21)), (2, .int (iI 0))] 119 [] := by
        intro mz119
        induction mz119 using Nat.strongRecOn with
        | _ mz119 ih119 =>
        intro p q2 hmz119 hp hq2
        refine g_iload_n F 0 dX6_carryAll_119 rfl ?_
        refine g_bipush F dX6_carryAll_120 (by decide +kernel) ?_
        refine g_icmp_ge F 195 (by omega) dX6_carryAll_122 (by decide) (fun c122 => ?_) (fun c122 => ?_)
        · skip
          refine g_ws (ws' := mw κ ma (mA (cst M 21 0 q2 (M 21) (kst M M0 12 p)) 0 (upTo (M 0) (M0 0) 12))) rfl ?_
          refine gm_weq_0 (g := M0 0) (fun j a b => upTo_in a b) ?_
          refine g_ws (ws' := mw κ ma (mA (mA (cst M 21 0 q2 (M 21) (kst M M0 12 p)) 0 (M0 0)) 1 (upTo (M 1) (M0 1) 12))) rfl ?_
          refine gm_weq_1 (g := M0 1) (fun j a b => upTo_in a b) ?_
          refine g_ws (ws' := mw κ ma (mA (mA (mA (cst M 21 0 q2 (M 21) (kst M M0 12 p)) 0 (M0 0)) 1 (M0 1)) 2 (upTo (M 2) (M0 2) 12))) rfl ?_
          refine gm_weq_2 (g := M0 2) (fun j a b => upTo_in a b) ?_
          refine g_ws (ws' := mw κ ma (mA (mA (mA (mA (cst M 21 0 q2 (M 21) (kst M M0 12 p)) 0 (M0 0)) 1 (M0 1)) 2 (M0 2)) 3 (upTo (M 3) (M0 3) 12))) rfl ?_
          refine gm_weq_3 (g := M0 3) (fun j a b => upTo_in a b) ?_
          refine g_ws (ws' := mw κ ma (mA (mA (mA (mA (mA (cst M 21 0 q2 (M 21) (kst M M0 12 p)) 0 (M0 0)) 1 (M0 1)) 2 (M0 2)) 3 (M0 3)) 6 (upTo (M 6) (M0 6) p))) rfl ?_
          refine gm_weq_6 (g := M0 6) (fun j a b => by rw [show p = 6 by omega]; exact upTo_in a b) ?_
          refine g_ws (ws' := mw κ ma (mA (mA (mA (mA (mA (mA (cst M 21 0 q2 (M 21) (kst M M0 12 p)) 0 (M0 0)) 1 (M0 1)) 2 (M0 2)) 3 (M0 3)) 6 (M0 6)) 7 (upTo (M 7) (M0 7) p))) rfl ?_
          refine gm_weq_7 (g := M0 7) (fun j a b => by rw [show p = 6 by omega]; exact upTo_in a b) ?_
          refine g_ws (ws' := mw κ ma (mA (mA (mA (mA (mA (mA (mA (cst M 21 0 q2 (M 21) (kst M M0 12 p)) 0 (M0 0)) 1 (M0 1)) 2 (M0 2)) 3 (M0 3)) 6 (M0 6)) 7 (M0 7)) 8 (upTo (M 8) (M0 8) p))) rfl ?_
          refine gm_weq_8 (g := M0 8) (fun j a b => by rw [show p = 6 by omega]; exact upTo_in a b) ?_
          refine g_ws (ws' := mw κ ma (mA (mA (mA (mA (mA (mA (mA (mA (cst M 21 0 q2 (M 21) (kst M M0 12 p)) 0 (M0 0)) 1 (M0 1)) 2 (M0 2)) 3 (M0 3)) 6 (M0 6)) 7 (M0 7)) 8 (M0 8)) 9 (upTo (M 9) (M0 9) p))) rfl ?_
          refine gm_weq_9 (g := M0 9) (fun j a b => by rw [show p = 6 by omega]; exact upTo_in a b) ?_
          exact K mw_same (by rw [hq2, show p = 6 by omega]; rfl) dX6_carryAll_195
        · skip
          refine g_aload_n F 1 dX6_carryAll_125 rfl ?_
          refine gm_get_6 F dX6_carryAll_126 ?_
          refine g_iload_n F 0 dX6_carryAll_129 rfl ?_
          refine g_aload_n F 1 dX6_carryAll_130 rfl ?_
          refine g_aload_n F 1 dX6_carryAll_131 rfl ?_
          refine gm_get_6 F dX6_carryAll_132 ?_
          refine g_iload_n F 0 dX6_carryAll_135 rfl ?_
          refine gm_ald_6 F (by omega) dX6_carryAll_136 ?_
          refine g_top (y := iI ((upTo (M 6) (M0 6) p) p)) rfl ?_
          refine g_callI F (stk := [.int (iI ((upTo (M 6) (M0 6) p) p)), .ref (ma 100), .int (iI p), .ref (ma 6)]) (st := [.int (iI p), .ref (ma 6)]) (k_X6_carry_f21 κ ma M (kst M M0 12 p) (M 21) q2 ((upTo (M 6) (M0 6) p) p) (by omega)) cal_X6_carry lm_X6_212 0 rfl rfl rfl rfl (by decide) rfl (Nat.le_of_ble_eq_true rfl) dX6_carryAll_137 (fun r137 ws137 _ hr137 => ?_)
          obtain ⟨rfl, rfl⟩ := hr137
          refine g_top (y := iI (M0 6 p)) (iIc ((hS _ (by omega) (by omega)).trans (snap_p M0 hp.1 (by omega) (by decide : (0 : Int) ≤ 0) (by decide) (by omega)))) ?_
          refine gm_ast_6 F (by omega) dX6_carryAll_140 ?_
          refine g_ws (ws' := mw κ ma (mA (cst M 21 0 (q2 + 1) (M 21) (kst M M0 12 p)) 6 (uI (upTo (M 6) (M0 6) p) p (M0 6 p)))) rfl ?_
          refine g_ws (ws' := mw κ ma (cst M 21 0 (q2 + 1) (M 21) (mA (kst M M0 12 p) 6 (uI (upTo (M 6) (M0 6) p) p (M0 6 p))))) rfl ?_
          refine g_aload_n F 1 dX6_carryAll_141 rfl ?_
          refine gm_get_7 F dX6_carryAll_142 ?_
          refine g_iload_n F 0 dX6_carryAll_145 rfl ?_
          refine g_aload_n F 1 dX6_carryAll_146 rfl ?_
          refine g_aload_n F 1 dX6_carryAll_147 rfl ?_
          refine gm_get_7 F dX6_carryAll_148 ?_
          refine g_iload_n F 0 dX6_carryAll_151 rfl ?_
          refine gm_ald_7 F (by omega) dX6_carryAll_152 ?_
          refine g_top (y := iI ((upTo (M 7) (M0 7) p) p)) rfl ?_
          refine g_callI F (stk := [.int (iI ((upTo (M 7) (M0 7) p) p)), .ref (ma 100), .int (iI p), .ref (ma 7)]) (st := [.int (iI p), .ref (ma 7)]) (k_X6_carry_f21 κ ma M (mA (kst M M0 12 p) 6 (uI (upTo (M 6) (M0 6) p) p (M0 6 p))) (M 21) (q2 + 1) ((upTo (M 7) (M0 7) p) p) (by omega)) cal_X6_carry lm_X6_212 0 rfl rfl rfl rfl (by decide) rfl (Nat.le_of_ble_eq_true rfl) dX6_carryAll_153 (fun r153 ws153 _ hr153 => ?_)
          obtain ⟨rfl, rfl⟩ := hr153
          refine g_top (y := iI (M0 7 p)) (iIc ((hS _ (by omega) (by omega)).trans (snap_p M0 hp.1 (by omega) (by decide : (0 : Int) ≤ 1) (by decide) (by omega)))) ?_
          refine gm_ast_7 F (by omega) dX6_carryAll_156 ?_
          refine g_ws (ws' := mw κ ma (mA (cst M 21 0 (q2 + 1 + 1) (M 21) (mA (kst M M0 12 p) 6 (uI (upTo (M 6) (M0 6) p) p (M0 6 p)))) 7 (uI (upTo (M 7) (M0 7) p) p (M0 7 p)))) rfl ?_
          refine g_ws (ws' := mw κ ma (cst M 21 0 (q2 + 1 + 1) (M 21) (mA (mA (kst M M0 12 p) 6 (uI (upTo (M 6) (M0 6) p) p (M0 6 p))) 7 (uI (upTo (M 7) (M0 7) p) p (M0 7 p))))) rfl ?_
          refine g_aload_n F 1 dX6_carryAll_157 rfl ?_
          refine gm_get_8 F dX6_carryAll_158 ?_
          refine g_iload_n F 0 dX6_carryAll_161 rfl ?_
          refine g_aload_n F 1 dX6_carryAll_162 rfl ?_
          refine g_aload_n F 1 dX6_carryAll_163 rfl ?_
          refine gm_get_8 F dX6_carryAll_164 ?_
          refine g_iload_n F 0 dX6_carryAll_167 rfl ?_
          refine gm_ald_8 F (by omega) dX6_carryAll_168 ?_
          refine g_top (y := iI ((upTo (M 8) (M0 8) p) p)) rfl ?_
          refine g_callI F (stk := [.int (iI ((upTo (M 8) (M0 8) p) p)), .ref (ma 100), .int (iI p), .ref (ma 8)]) (st := [.int (iI p), .ref (ma 8)]) (k_X6_carry_f21 κ ma M (mA (mA (kst M M0 12 p) 6 (uI (upTo (M 6) (M0 6) p) p (M0 6 p))) 7 (uI (upTo (M 7) (M0 7) p) p (M0 7 p))) (M 21) (q2 + 1 + 1) ((upTo (M 8) (M0 8) p) p) (by omega)) cal_X6_carry lm_X6_212 0 rfl rfl rfl rfl (by decide) rfl (Nat.le_of_ble_eq_true rfl) dX6_carryAll_169 (fun r169 ws169 _ hr169 => ?_)
          obtain ⟨rfl, rfl⟩ := hr169
          refine g_top (y := iI (M0 8 p)) (iIc ((hS _ (by omega) (by omega)).trans (snap_p M0 hp.1 (by omega) (by decide : (0 : Int) ≤ 2) (by decide) (by omega)))) ?_
          refine gm_ast_8 F (by omega) dX6_carryAll_172 ?_
          refine g_ws (ws' := mw κ ma (mA (cst M 21 0 (q2 + 1 + 1 + 1) (M 21) (mA (mA (kst M M0 12 p) 6 (uI (upTo (M 6) (M0 6) p) p (M0 6 p))) 7 (uI (upTo (M 7) (M0 7) p) p (M0 7 p)))) 8 (uI (upTo (M 8) (M0 8) p) p (M0 8 p)))) rfl ?_
          refine g_ws (ws' := mw κ ma (cst M 21 0 (q2 + 1 + 1 + 1) (M 21) (mA (mA (mA (kst M M0 12 p) 6 (uI (upTo (M 6) (M0 6) p) p (M0 6 p))) 7 (uI (upTo (M 7) (M0 7) p) p (M0 7 p))) 8 (uI (upTo (M 8) (M0 8) p) p (M0 8 p))))) rfl ?_
          refine g_aload_n F 1 dX6_carryAll_173 rfl ?_
          refine gm_get_9 F dX6_carryAll_174 ?_
          refine g_iload_n F 0 dX6_carryAll_177 rfl ?_
          refine g_aload_n F 1 dX6_carryAll_178 rfl ?_
          refine g_aload_n F 1 dX6_carryAll_179 rfl ?_
          refine gm_get_9 F dX6_carryAll_180 ?_
          refine g_iload_n F 0 dX6_carryAll_183 rfl ?_
          refine gm_ald_9 F (by omega) dX6_carryAll_184 ?_
          refine g_top (y := iI ((upTo (M 9) (M0 9) p) p)) rfl ?_
          refine g_callI F (stk := [.int (iI ((upTo (M 9) (M0 9) p) p)), .ref (ma 100), .int (iI p), .ref (ma 9)]) (st := [.int (iI p), .ref (ma 9)]) (k_X6_carry_f21 κ ma M (mA (mA (mA (kst M M0 12 p) 6 (uI (upTo (M 6) (M0 6) p) p (M0 6 p))) 7 (uI (upTo (M 7) (M0 7) p) p (M0 7 p))) 8 (uI (upTo (M 8) (M0 8) p) p (M0 8 p))) (M 21) (q2 + 1 + 1 + 1) ((upTo (M 9) (M0 9) p) p) (by omega)) cal_X6_carry lm_X6_212 0 rfl rfl rfl rfl (by decide) rfl (Nat.le_of_ble_eq_true rfl) dX6_carryAll_185 (fun r185 ws185 _ hr185 => ?_)
          obtain ⟨rfl, rfl⟩ := hr185
          refine g_top (y := iI (M0 9 p)) (iIc ((hS _ (by omega) (by omega)).trans (snap_p M0 hp.1 (by omega) (by decide : (0 : Int) ≤ 3) (by decide) (by omega)))) ?_
          refine gm_ast_9 F (by omega) dX6_carryAll_188 ?_
          refine g_ws (ws' := mw κ ma (mA (cst M 21 0 (q2 + 1 + 1 + 1 + 1) (M 21) (mA (mA (mA (kst M M0 12 p) 6 (uI (upTo (M 6) (M0 6) p) p (M0 6 p))) 7 (uI (upTo (M 7) (M0 7) p) p (M0 7 p))) 8 (uI (upTo (M 8) (M0 8) p) p (M0 8 p)))) 9 (uI (upTo (M 9) (M0 9) p) p (M0 9 p)))) rfl ?_
          refine g_ws (ws' := mw κ ma (cst M 21 0 (q2 + 1 + 1 + 1 + 1) (M 21) (mA (mA (mA (mA (kst M M0 12 p) 6 (uI (upTo (M 6) (M0 6) p) p (M0 6 p))) 7 (uI (upTo (M 7) (M0 7) p) p (M0 7 p))) 8 (uI (upTo (M 8) (M0 8) p) p (M0 8 p))) 9 (uI (upTo (M 9) (M0 9) p) p (M0 9 p))))) rfl ?_
          refine g_iinc F (lv' := [(3, .int (iI (p + 1))), (0, .ref (ma 100)), (1, .ref (ma 21)), (2, .int (iI 0))]) 0 dX6_carryAll_189 rfl (by decide) rfl ?_
          refine g_goto F 119 dX6_carryAll_192 (by decide) ?_
          refine g_sub F (lv' := [(3, .int (iI (p + 1))), (0, .ref (ma 100)), (1, .ref (ma 21)), (2, .int (iI 0))]) [0, 1, 2, 3] rfl ?_
          refine g_ws (ws' := mw κ ma (cst M 21 0 (q2 + 1 + 1 + 1 + 1) (M 21) (kst M M0 12 (p + 1)))) (by rw [upTo_s _ _ hp.1, upTo_s _ _ hp.1, upTo_s _ _ hp.1, upTo_s _ _ hp.1]; rfl) ?_
          exact ih119 _ (by omega) (p + 1) (q2 + 1 + 1 + 1 + 1) rfl (by omega) (by omega)
      refine g_sub F (lv' := [(3, .int (iI 0)), (0, .ref (ma 100)), (1, .ref (ma 21)), (2, .int (iI 0))]) [0, 1, 2, 3] rfl ?_
      refine g_ws (ws' := mw κ ma (cst M 21 0 q (M 21) (kst M M0 12 0))) (by rw [show c = 12 by omega]) ?_
      exact L119 _ 0 q rfl (by omega) (by omega)
    · skip
      refine g_aload_n F 1 dX6_carryAll_47 rfl ?_
      refine gm_get_0 F dX6_carryAll_48 ?_
      refine g_iload_n F 0 dX6_carryAll_51 rfl ?_
      refine g_aload_n F 1 dX6_carryAll_52 rfl ?_
      refine g_aload_n F 1 dX6_carryAll_53 rfl ?_
      refine gm_get_0 F dX6_carryAll_54 ?_
      refine g_iload_n F 0 dX6_carryAll_57 rfl ?_
      refine gm_ald_0 F (by omega) dX6_carryAll_58 ?_
      refine g_top (y := iI ((upTo (M 0) (M0 0) c) c)) rfl ?_
      refine g_callI F (stk := [.int (iI ((upTo (M 0) (M0 0) c) c)), .ref (ma 100), .int (iI c), .ref (ma 0)]) (st := [.int (iI c), .ref (ma 0)]) (k_X6_carry_f21 κ ma M (kst M M0 c 0) (M 21) q ((upTo (M 0) (M0 0) c) c) (by omega)) cal_X6_carry lm_X6_212 0 rfl rfl rfl rfl (by decide) rfl (Nat.le_of_ble_eq_true rfl) dX6_carryAll_59 (fun r59 ws59 _ hr59 => ?_)
      obtain ⟨rfl, rfl⟩ := hr59
      refine g_top (y := iI (M0 0 c)) (iIc ((hS _ (by omega) (by omega)).trans (snap_c M0 hc.1 (by omega) (by decide : (0 : Int) ≤ 0) (by decide) (by omega)))) ?_
      refine gm_ast_0 F (by omega) dX6_carryAll_62 ?_
      refine g_ws (ws' := mw κ ma (mA (cst M 21 0 (q + 1) (M 21) (kst M M0 c 0)) 0 (uI (upTo (M 0) (M0 0) c) c (M0 0 c)))) rfl ?_
      refine g_ws (ws' := mw κ ma (cst M 21 0 (q + 1) (M 21) (mA (kst M M0 c 0) 0 (uI (upTo (M 0) (M0 0) c) c (M0 0 c))))) rfl ?_
      refine g_aload_n F 1 dX6_carryAll_63 rfl ?_
      refine gm_get_1 F dX6_carryAll_64 ?_
      refine g_iload_n F 0 dX6_carryAll_67 rfl ?_
      refine g_aload_n F 1 dX6_carryAll_68 rfl ?_
      refine g_aload_n F 1 dX6_carryAll_69 rfl ?_
      refine gm_get_1 F dX6_carryAll_70 ?_
      refine g_iload_n F 0 dX6_carryAll_73 rfl ?_
      refine gm_ald_1 F (by omega) dX6_carryAll_74 ?_
      refine g_top (y := iI ((upTo (M 1) (M0 1) c) c)) rfl ?_
      refine g_callI F (stk := [.int (iI ((upTo (M 1) (M0 1) c) c)), .ref (ma 100), .int (iI c), .ref (ma 1)]) (st := [.int (iI c), .ref (ma 1)]) (k_X6_carry_f21 κ ma M (mA (kst M M0 c 0) 0 (uI (upTo (M 0) (M0 0) c) c (M0 0 c))) (M 21) (q + 1) ((upTo (M 1) (M0 1) c) c) (by omega)) cal_X6_carry lm_X6_212 0 rfl rfl rfl rfl (by decide) rfl (Nat.le_of_ble_eq_true rfl) dX6_carryAll_75 (fun r75 ws75 _ hr75 => ?_)
      obtain ⟨rfl, rfl⟩ := hr75
      refine g_top (y := iI (M0 1 c)) (iIc ((hS _ (by omega) (by omega)).trans (snap_c M0 hc.1 (by omega) (by decide : (0 : Int) ≤ 1) (by decide) (by omega)))) ?_
      refine gm_ast_1 F (by omega) dX6_carryAll_78 ?_
      refine g_ws (ws' := mw κ ma (mA (cst M 21 0 (q + 1 + 1) (M 21) (mA (kst M M0 c 0) 0 (uI (upTo (M 0) (M0 0) c) c (M0 0 c)))) 1 (uI (upTo (M 1) (M0 1) c) c (M0 1 c)))) rfl ?_
      refine g_ws (ws' := mw κ ma (cst M 21 0 (q + 1 + 1) (M 21) (mA (mA (kst M M0 c 0) 0 (uI (upTo (M 0) (M0 0) c) c (M0 0 c))) 1 (uI (upTo (M 1) (M0 1) c) c (M0 1 c))))) rfl ?_
      refine g_aload_n F 1 dX6_carryAll_79 rfl ?_
      refine gm_get_2 F dX6_carryAll_80 ?_
      refine g_iload_n F 0 dX6_carryAll_83 rfl ?_
      refine g_aload_n F 1 dX6_carryAll_84 rfl ?_
      refine g_aload_n F 1 dX6_carryAll_85 rfl ?_
      refine gm_get_2 F dX6_carryAll_86 ?_
      refine g_iload_n F 0 dX6_carryAll_89 rfl ?_
      refine gm_ald_2 F (by omega) dX6_carryAll_90 ?_
      refine g_top (y := iI ((upTo (M 2) (M0 2) c) c)) rfl ?_
      refine g_callI F (stk := [.int (iI ((upTo (M 2) (M0 2) c) c)), .ref (ma 100), .int (iI c), .ref (ma 2)]) (st := [.int (iI c), .ref (ma 2)]) (k_X6_carry_f21 κ ma M (mA (mA (kst M M0 c 0) 0 (uI (upTo (M 0) (M0 0) c) c (M0 0 c))) 1 (uI (upTo (M 1) (M0 1) c) c (M0 1 c))) (M 21) (q + 1 + 1) ((upTo (M 2) (M0 2) c) c) (by omega)) cal_X6_carry lm_X6_212 0 rfl rfl rfl rfl (by decide) rfl (Nat.le_of_ble_eq_true rfl) dX6_carryAll_91 (fun r91 ws91 _ hr91 => ?_)
      obtain ⟨rfl, rfl⟩ := hr91
      refine g_top (y := iI (M0 2 c)) (iIc ((hS _ (by omega) (by omega)).trans (snap_c M0 hc.1 (by omega) (by decide : (0 : Int) ≤ 2) (by decide) (by omega)))) ?_
      refine gm_ast_2 F (by omega) dX6_carryAll_94 ?_
      refine g_ws (ws' := mw κ ma (mA (cst M 21 0 (q + 1 + 1 + 1) (M 21) (mA (mA (kst M M0 c 0) 0 (uI (upTo (M 0) (M0 0) c) c (M0 0 c))) 1 (uI (upTo (M 1) (M0 1) c) c (M0 1 c)))) 2 (uI (upTo (M 2) (M0 2) c) c (M0 2 c)))) rfl ?_
      refine g_ws (ws' := mw κ ma (cst M 21 0 (q + 1 + 1 + 1) (M 21) (mA (mA (mA (kst M M0 c 0) 0 (uI (upTo (M 0) (M0 0) c) c (M0 0 c))) 1 (uI (upTo (M 1) (M0 1) c) c (M0 1 c))) 2 (uI (upTo (M 2) (M0 2) c) c (M0 2 c))))) rfl ?_
      refine g_aload_n F 1 dX6_carryAll_95 rfl ?_
      refine gm_get_3 F dX6_carryAll_96 ?_
      refine g_iload_n F 0 dX6_carryAll_99 rfl ?_
      refine g_aload_n F 1 dX6_carryAll_100 rfl ?_
      refine g_aload_n F 1 dX6_carryAll_101 rfl ?_
      refine gm_get_3 F dX6_carryAll_102 ?_
      refine g_iload_n F 0 dX6_carryAll_105 rfl ?_
      refine gm_ald_3 F (by omega) dX6_carryAll_106 ?_
      refine g_top (y := iI ((upTo (M 3) (M0 3) c) c)) rfl ?_
      refine g_callI F (stk := [.int (iI ((upTo (M 3) (M0 3) c) c)), .ref (ma 100), .int (iI c), .ref (ma 3)]) (st := [.int (iI c), .ref (ma 3)]) (k_X6_carry_f21 κ ma M (mA (mA (mA (kst M M0 c 0) 0 (uI (upTo (M 0) (M0 0) c) c (M0 0 c))) 1 (uI (upTo (M 1) (M0 1) c) c (M0 1 c))) 2 (uI (upTo (M 2) (M0 2) c) c (M0 2 c))) (M 21) (q + 1 + 1 + 1) ((upTo (M 3) (M0 3) c) c) (by omega)) cal_X6_carry lm_X6_212 0 rfl rfl rfl rfl (by decide) rfl (Nat.le_of_ble_eq_true rfl) dX6_carryAll_107 (fun r107 ws107 _ hr107 => ?_)
      obtain ⟨rfl, rfl⟩ := hr107
      refine g_top (y := iI (M0 3 c)) (iIc ((hS _ (by omega) (by omega)).trans (snap_c M0 hc.1 (by omega) (by decide : (0 : Int) ≤ 3) (by decide) (by omega)))) ?_
      refine gm_ast_3 F (by omega) dX6_carryAll_110 ?_
      refine g_ws (ws' := mw κ ma (mA (cst M 21 0 (q + 1 + 1 + 1 + 1) (M 21) (mA (mA (mA (kst M M0 c 0) 0 (uI (upTo (M 0) (M0 0) c) c (M0 0 c))) 1 (uI (upTo (M 1) (M0 1) c) c (M0 1 c))) 2 (uI (upTo (M 2) (M0 2) c) c (M0 2 c)))) 3 (uI (upTo (M 3) (M0 3) c) c (M0 3 c)))) rfl ?_
      refine g_ws (ws' := mw κ ma (cst M 21 0 (q + 1 + 1 + 1 + 1) (M 21) (mA (mA (mA (mA (kst M M0 c 0) 0 (uI (upTo (M 0) (M0 0) c) c (M0 0 c))) 1 (uI (upTo (M 1) (M0 1) c) c (M0 1 c))) 2 (uI (upTo (M 2) (M0 2) c) c (M0 2 c))) 3 (uI (upTo (M 3) (M0 3) c) c (M0 3 c))))) rfl ?_
      refine g_iinc F (lv' := [(3, .int (iI (c + 1))), (0, .ref (ma 100)), (1, .ref (ma 21)), (2, .int (iI 0))]) 0 dX6_carryAll_111 rfl (by decide) rfl ?_
      refine g_goto F 41 dX6_carryAll_114 (by decide) ?_
      refine g_sub F (lv' := [(3, .int (iI (c + 1))), (0, .ref (ma 100)), (1, .ref (ma 21)), (2, .int (iI 0))]) [0, 1, 2, 3] rfl ?_
      refine g_ws (ws' := mw κ ma (cst M 21 0 (q + 1 + 1 + 1 + 1) (M 21) (kst M M0 (c + 1) 0))) (by rw [upTo_s _ _ hc.1, upTo_s _ _ hc.1, upTo_s _ _ hc.1, upTo_s _ _ hc.1]; rfl) ?_
      exact ih41 _ (by omega) (c + 1) (q + 1 + 1 + 1 + 1) rfl (by omega) (by omega)
  refine g_sub F (lv' := [(3, .int (iI 0)), (0, .ref (ma 100)), (1, .ref (ma 21)), (2, .int (iI 0))]) [0, 1, 2, 3] rfl ?_
  refine g_ws (ws' := mw κ ma (cst M 21 0 (0 + 1 + 1) (M 21) (kst M M0 0 0))) (cst_kst_21 M M0) ?_
  exact L41 _ 0 (0 + 1 + 1) rfl (by omega) (by omega)
set_option maxRecDepth 100000 in
set_option maxHeartbeats 4000000 in
theorem k_X6_carryAll_t27 (κ : Kp) (ma : Nat → Nat) (M : MS)  : mV κ yX6_carryAll cX6_carryAll 4 1 [.ref (ma 100), .ref (ma 27), .int (iI 1)] (mw κ ma M) (is0 (mw κ ma (cst M 27 1 74 (snapF M) M))) := by
  refine mV_of (by decide) (Nat.le_of_ble_eq_true rfl) (fun E F K => ?_)
  refine g_lv (lv' := [(0, .ref (ma 100)), (1, .ref (ma 27)), (2, .int (iI 1))]) rfl ?_
  refine g_aload_n F 0 dX6_carryAll_0 rfl ?_
  refine g_aload_n F 1 dX6_carryAll_1 rfl ?_
  refine gm_put_25_27 F dX6_carryAll_2 ?_
  refine g_aload_n F 0 dX6_carryAll_5 rfl ?_
  refine g_iload_n F 2 dX6_carryAll_6 rfl ?_
  refine gm_put_24 F (by omega) dX6_carryAll_7 ?_
  refine g_aload_n F 0 dX6_carryAll_10 rfl ?_
  refine g_iconst F dX6_carryAll_11 ?_
  refine gm_put_23 F dX6_carryAll_12 ?_
  refine g_ws (ws' := mw κ ma (cst M 27 1 0 (M 27) M)) rfl ?_
  refine g_aload_n F 0 dX6_carryAll_15 rfl ?_
  refine g_aload_n F 0 dX6_carryAll_16 rfl ?_
  refine g_aload_n F 0 dX6_carryAll_17 rfl ?_
  refine gm_get_4 F dX6_carryAll_18 ?_
  refine g_top (y := iI (M 4 0)) rfl ?_
  refine g_callI F (stk := [.int (iI (M 4 0)), .ref (ma 100), .ref (ma 100)]) (st := [.ref (ma 100)]) (k_X6_carry_t27 κ ma M M (M 27) 0 (M 4 0) (by omega)) cal_X6_carry lm_X6_212 0 rfl rfl rfl rfl (by decide) rfl (Nat.le_of_ble_eq_true rfl) dX6_carryAll_21 (fun r21 ws21 _ hr21 => ?_)
  obtain ⟨rfl, rfl⟩ := hr21
  refine gm_put_4 F dX6_carryAll_24 ?_
  refine g_ws (ws' := mw κ ma (cst M 27 1 (0 + 1) (uI (M 27) 0 (M 4 0)) M)) rfl ?_
  refine g_aload_n F 0 dX6_carryAll_27 rfl ?_
  refine g_aload_n F 0 dX6_carryAll_28 rfl ?_
  refine g_aload_n F 0 dX6_carryAll_29 rfl ?_
  refine gm_get_5 F dX6_carryAll_30 ?_
  refine g_top (y := iI (M 5 0)) rfl ?_
  refine g_callI F (stk := [.int (iI (M 5 0)), .ref (ma 100), .ref (ma 100)]) (st := [.ref (ma 100)]) (k_X6_carry_t27 κ ma M M (uI (M 27) 0 (M 4 0)) (0 + 1) (M 5 0) (by omega)) cal_X6_carry lm_X6_212 0 rfl rfl rfl rfl (by decide) rfl (Nat.le_of_ble_eq_true rfl) dX6_carryAll_33 (fun r33 ws33 _ hr33 => ?_)
  obtain ⟨rfl, rfl⟩ := hr33
  refine gm_put_5 F dX6_carryAll_36 ?_
  refine g_ws (ws' := mw κ ma (cst M 27 1 (0 + 1 + 1) (uI (uI (M 27) 0 (M 4 0)) (0 + 1) (M 5 0)) M)) rfl ?_
  refine g_iconst F dX6_carryAll_39 ?_
  refine g_istore_n F (lv' := [(3, .int (iI 0)), (0, .ref (ma 100)), (1, .ref (ma 27)), (2, .int (iI 1))]) 3 dX6_carryAll_40 rfl (by decide) rfl ?_
  have L41 : ∀ (mz41 : Nat) (c : Int) (q : Int) (f : Int → Int), (12 - c).toNat = mz41 → (0 ≤ c ∧ c ≤ 12) → (q = 2 + 4 * c) → (f = upTo (M 27) (snapF M) q) → G E (mw κ ma (cst M 27 1 q f M)) [(3, .int (iI c)), (0, .ref (ma 100)), (1, .ref (ma 27)), (2, .int (iI 1))] 41 [] := by
    intro mz41
    induction mz41 using Nat.strongRecOn with
    | _ mz41 ih41 =>
    intro c q f hmz41 hc hq hf
    refine g_iload_n F 0 dX6_carryAll_41 rfl ?_
    refine g_bipush F dX6_carryAll_42 (by decide +kernel) ?_
    refine g_icmp_ge F 117 (by omega) dX6_carryAll_44 (by decide) (fun c44 => ?_) (fun c44 => ?_)
    · skip
      refine g_iconst F dX6_carryAll_117 ?_
      refine g_istore_n F (lv' := [(3, .int (iI 0)), (0, .ref (ma 100)), (1, .ref (ma 27)), (2, .int (iI 1))]) 3 dX6_carryAll_118 rfl (by decide) rfl ?_
      have L119 : ∀ (mz119 : Nat) (p : Int) (q2 : Int) (g : Int → Int), (6 - p).toNat = mz119 → (0 ≤ p ∧ p ≤ 6) → (q2 = 50 + 4 * p) → (g = upTo (M 27) (snapF M) q2) → G E (mw κ ma (cst M 27 1 q2 g M)) [(3, .int (iI p)), (0, .ref (ma 100)), (1, .ref (ma 27)), (2, .int (iI 1))] 119 [] := by
        intro mz119
        induction mz119 using Nat.strongRecOn with
        | _ mz119 ih119 =>
        intro p q2 g hmz119 hp hq2 hg
        refine g_iload_n F 0 dX6_carryAll_119 rfl ?_
        refine g_bipush F dX6_carryAll_120 (by decide +kernel) ?_
        refine g_icmp_ge F 195 (by omega) dX6_carryAll_122 (by decide) (fun c122 => ?_) (fun c122 => ?_)
        · skip
          refine g_ws (ws' := mw κ ma (mA (cst M 27 1 q2 g M) 27 g)) rfl ?_
          refine gm_weq_27 (g := snapF M) (fun j a b => by rw [hg, hq2, show p = 6 by omega]; exact upTo_in a b) ?_
          exact K mw_same (by rw [hq2, show p = 6 by omega]; rfl) dX6_carryAll_195
        · skip
          refine g_aload_n F 1 dX6_carryAll_125 rfl ?_
          refine gm_get_6 F dX6_carryAll_126 ?_
          refine g_iload_n F 0 dX6_carryAll_129 rfl ?_
          refine g_aload_n F 1 dX6_carryAll_130 rfl ?_
          refine g_aload_n F 1 dX6_carryAll_131 rfl ?_
          refine gm_get_6 F dX6_carryAll_132 ?_
          refine g_iload_n F 0 dX6_carryAll_135 rfl ?_
          refine gm_ald_6 F (by omega) dX6_carryAll_136 ?_
          refine g_top (y := iI (M 6 p)) rfl ?_
          refine g_callI F (stk := [.int (iI (M 6 p)), .ref (ma 100), .int (iI p), .ref (ma 6)]) (st := [.int (iI p), .ref (ma 6)]) (k_X6_carry_t27 κ ma M M g q2 (M 6 p) (by omega)) cal_X6_carry lm_X6_212 0 rfl rfl rfl rfl (by decide) rfl (Nat.le_of_ble_eq_true rfl) dX6_carryAll_137 (fun r137 ws137 _ hr137 => ?_)
          obtain ⟨rfl, rfl⟩ := hr137
          refine gm_ast_6 F (by omega) dX6_carryAll_140 ?_
          refine g_ws (ws' := mw κ ma (mA (cst M 27 1 (q2 + 1) (uI g q2 (M 6 p)) M) 6 (uI (M 6) p (M 6 p)))) rfl ?_
          refine g_ws (ws' := mw κ ma (cst M 27 1 (q2 + 1) (uI g q2 (M 6 p)) M)) (by rw [uI_self]; rfl) ?_
          refine g_aload_n F 1 dX6_carryAll_141 rfl ?_
          refine gm_get_7 F dX6_carryAll_142 ?_
          refine g_iload_n F 0 dX6_carryAll_145 rfl ?_
          refine g_aload_n F 1 dX6_carryAll_146 rfl ?_
          refine g_aload_n F 1 dX6_carryAll_147 rfl ?_
          refine gm_get_7 F dX6_carryAll_148 ?_
          refine g_iload_n F 0 dX6_carryAll_151 rfl ?_
          refine gm_ald_7 F (by omega) dX6_carryAll_152 ?_
          refine g_top (y := iI (M 7 p)) rfl ?_
          refine g_callI F (stk := [.int (iI (M 7 p)), .ref (ma 100), .int (iI p), .ref (ma 7)]) (st := [.int (iI p), .ref (ma 7)]) (k_X6_carry_t27 κ ma M M (uI g q2 (M 6 p)) (q2 + 1) (M 7 p) (by omega)) cal_X6_carry lm_X6_212 0 rfl rfl rfl rfl (by decide) rfl (Nat.le_of_ble_eq_true rfl) dX6_carryAll_153 (fun r153 ws153 _ hr153 => ?_)
          obtain ⟨rfl, rfl⟩ := hr153
          refine gm_ast_7 F (by omega) dX6_carryAll_156 ?_
          refine g_ws (ws' := mw κ ma (mA (cst M 27 1 (q2 + 1 + 1) (uI (uI g q2 (M 6 p)) (q2 + 1) (M 7 p)) M) 7 (uI (M 7) p (M 7 p)))) rfl ?_
          refine g_ws (ws' := mw κ ma (cst M 27 1 (q2 + 1 + 1) (uI (uI g q2 (M 6 p)) (q2 + 1) (M 7 p)) M)) (by rw [uI_self]; rfl) ?_
          refine g_aload_n F 1 dX6_carryAll_157 rfl ?_
          refine gm_get_8 F dX6_carryAll_158 ?_
          refine g_iload_n F 0 dX6_carryAll_161 rfl ?_
          refine g_aload_n F 1 dX6_carryAll_162 rfl ?_
          refine g_aload_n F 1 dX6_carryAll_163 rfl ?_
          refine gm_get_8 F dX6_carryAll_164 ?_
          refine g_iload_n F 0 dX6_carryAll_167 rfl ?_
          refine gm_ald_8 F (by omega) dX6_carryAll_168 ?_
          refine g_top (y := iI (M 8 p)) rfl ?_
          refine g_callI F (stk := [.int (iI (M 8 p)), .ref (ma 100), .int (iI p), .ref (ma 8)]) (st := [.int (iI p), .ref (ma 8)]) (k_X6_carry_t27 κ ma M M (uI (uI g q2 (M 6 p)) (q2 + 1) (M 7 p)) (q2 + 1 + 1) (M 8 p) (by omega)) cal_X6_carry lm_X6_212 0 rfl rfl rfl rfl (by decide) rfl (Nat.le_of_ble_eq_true rfl) dX6_carryAll_169 (fun r169 ws169 _ hr169 => ?_)
          obtain ⟨rfl, rfl⟩ := hr169
          refine gm_ast_8 F (by omega) dX6_carryAll_172 ?_
          refine g_ws (ws' := mw κ ma (mA (cst M 27 1 (q2 + 1 + 1 + 1) (uI (uI (uI g q2 (M 6 p)) (q2 + 1) (M 7 p)) (q2 + 1 + 1) (M 8 p)) M) 8 (uI (M 8) p (M 8 p)))) rfl ?_
          refine g_ws (ws' := mw κ ma (cst M 27 1 (q2 + 1 + 1 + 1) (uI (uI (uI g q2 (M 6 p)) (q2 + 1) (M 7 p)) (q2 + 1 + 1) (M 8 p)) M)) (by rw [uI_self]; rfl) ?_
          refine g_aload_n F 1 dX6_carryAll_173 rfl ?_
          refine gm_get_9 F dX6_carryAll_174 ?_
          refine g_iload_n F 0 dX6_carryAll_177 rfl ?_
          refine g_aload_n F 1 dX6_carryAll_178 rfl ?_
          refine g_aload_n F 1 dX6_carryAll_179 rfl ?_
          refine gm_get_9 F dX6_carryAll_180 ?_
          refine g_iload_n F 0 dX6_carryAll_183 rfl ?_
          refine gm_ald_9 F (by omega) dX6_carryAll_184 ?_
          refine g_top (y := iI (M 9 p)) rfl ?_
          refine g_callI F (stk := [.int (iI (M 9 p)), .ref (ma 100), .int (iI p), .ref (ma 9)]) (st := [.int (iI p), .ref (ma 9)]) (k_X6_carry_t27 κ ma M M (uI (uI (uI g q2 (M 6 p)) (q2 + 1) (M 7 p)) (q2 + 1 + 1) (M 8 p)) (q2 + 1 + 1 + 1) (M 9 p) (by omega)) cal_X6_carry lm_X6_212 0 rfl rfl rfl rfl (by decide) rfl (Nat.le_of_ble_eq_true rfl) dX6_carryAll_185 (fun r185 ws185 _ hr185 => ?_)
          obtain ⟨rfl, rfl⟩ := hr185
          refine gm_ast_9 F (by omega) dX6_carryAll_188 ?_
          refine g_ws (ws' := mw κ ma (mA (cst M 27 1 (q2 + 1 + 1 + 1 + 1) (uI (uI (uI (uI g q2 (M 6 p)) (q2 + 1) (M 7 p)) (q2 + 1 + 1) (M 8 p)) (q2 + 1 + 1 + 1) (M 9 p)) M) 9 (uI (M 9) p (M 9 p)))) rfl ?_
          refine g_ws (ws' := mw κ ma (cst M 27 1 (q2 + 1 + 1 + 1 + 1) (uI (uI (uI (uI g q2 (M 6 p)) (q2 + 1) (M 7 p)) (q2 + 1 + 1) (M 8 p)) (q2 + 1 + 1 + 1) (M 9 p)) M)) (by rw [uI_self]; rfl) ?_
          refine g_iinc F (lv' := [(3, .int (iI (p + 1))), (0, .ref (ma 100)), (1, .ref (ma 27)), (2, .int (iI 1))]) 0 dX6_carryAll_189 rfl (by decide) rfl ?_
          refine g_goto F 119 dX6_carryAll_192 (by decide) ?_
          refine g_sub F (lv' := [(3, .int (iI (p + 1))), (0, .ref (ma 100)), (1, .ref (ma 27)), (2, .int (iI 1))]) [0, 1, 2, 3] rfl ?_
          have e0 : snapF M (q2) = M 6 p := snap_p M hp.1 (by omega) (by decide : (0 : Int) ≤ 0) (by decide) (by omega)
          have e1 : snapF M (q2 + 1) = M 7 p := snap_p M hp.1 (by omega) (by decide : (0 : Int) ≤ 1) (by decide) (by omega)
          have e2 : snapF M (q2 + 1 + 1) = M 8 p := snap_p M hp.1 (by omega) (by decide : (0 : Int) ≤ 2) (by decide) (by omega)
          have e3 : snapF M (q2 + 1 + 1 + 1) = M 9 p := snap_p M hp.1 (by omega) (by decide : (0 : Int) ≤ 3) (by decide) (by omega)
          exact ih119 _ (by omega) (p + 1) (q2 + 1 + 1 + 1 + 1) (uI (uI (uI (uI g q2 (M 6 p)) (q2 + 1) (M 7 p)) (q2 + 1 + 1) (M 8 p)) (q2 + 1 + 1 + 1) (M 9 p)) rfl (by omega) (by omega) (by rw [hg, ← e0, upTo_s _ _ (by omega), ← e1, upTo_s _ _ (by omega), ← e2, upTo_s _ _ (by omega), ← e3, upTo_s _ _ (by omega)])
      refine g_sub F (lv' := [(3, .int (iI 0)), (0, .ref (ma 100)), (1, .ref (ma 27)), (2, .int (iI 1))]) [0, 1, 2, 3] rfl ?_
      exact L119 _ 0 q f rfl (by omega) (by omega) hf
    · skip
      refine g_aload_n F 1 dX6_carryAll_47 rfl ?_
      refine gm_get_0 F dX6_carryAll_48 ?_
      refine g_iload_n F 0 dX6_carryAll_51 rfl ?_
      refine g_aload_n F 1 dX6_carryAll_52 rfl ?_
      refine g_aload_n F 1 dX6_carryAll_53 rfl ?_
      refine gm_get_0 F dX6_carryAll_54 ?_
      refine g_iload_n F 0 dX6_carryAll_57 rfl ?_
      refine gm_ald_0 F (by omega) dX6_carryAll_58 ?_
      refine g_top (y := iI (M 0 c)) rfl ?_
      refine g_callI F (stk := [.int (iI (M 0 c)), .ref (ma 100), .int (iI c), .ref (ma 0)]) (st := [.int (iI c), .ref (ma 0)]) (k_X6_carry_t27 κ ma M M f q (M 0 c) (by omega)) cal_X6_carry lm_X6_212 0 rfl rfl rfl rfl (by decide) rfl (Nat.le_of_ble_eq_true rfl) dX6_carryAll_59 (fun r59 ws59 _ hr59 => ?_)
      obtain ⟨rfl, rfl⟩ := hr59
      refine gm_ast_0 F (by omega) dX6_carryAll_62 ?_
      refine g_ws (ws' := mw κ ma (mA (cst M 27 1 (q + 1) (uI f q (M 0 c)) M) 0 (uI (M 0) c (M 0 c)))) rfl ?_
      refine g_ws (ws' := mw κ ma (cst M 27 1 (q + 1) (uI f q (M 0 c)) M)) (by rw [uI_self]; rfl) ?_
      refine g_aload_n F 1 dX6_carryAll_63 rfl ?_
      refine gm_get_1 F dX6_carryAll_64 ?_
      refine g_iload_n F 0 dX6_carryAll_67 rfl ?_
      refine g_aload_n F 1 dX6_carryAll_68 rfl ?_
      refine g_aload_n F 1 dX6_carryAll_69 rfl ?_
      refine gm_get_1 F dX6_carryAll_70 ?_
      refine g_iload_n F 0 dX6_carryAll_73 rfl ?_
      refine gm_ald_1 F (by omega) dX6_carryAll_74 ?_
      refine g_top (y := iI (M 1 c)) rfl ?_
      refine g_callI F (stk := [.int (iI (M 1 c)), .ref (ma 100), .int (iI c), .ref (ma 1)]) (st := [.int (iI c), .ref (ma 1)]) (k_X6_carry_t27 κ ma M M (uI f q (M 0 c)) (q + 1) (M 1 c) (by omega)) cal_X6_carry lm_X6_212 0 rfl rfl rfl rfl (by decide) rfl (Nat.le_of_ble_eq_true rfl) dX6_carryAll_75 (fun r75 ws75 _ hr75 => ?_)
      obtain ⟨rfl, rfl⟩ := hr75
      refine gm_ast_1 F (by omega) dX6_carryAll_78 ?_
      refine g_ws (ws' := mw κ ma (mA (cst M 27 1 (q + 1 + 1) (uI (uI f q (M 0 c)) (q + 1) (M 1 c)) M) 1 (uI (M 1) c (M 1 c)))) rfl ?_
      refine g_ws (ws' := mw κ ma (cst M 27 1 (q + 1 + 1) (uI (uI f q (M 0 c)) (q + 1) (M 1 c)) M)) (by rw [uI_self]; rfl) ?_
      refine g_aload_n F 1 dX6_carryAll_79 rfl ?_
      refine gm_get_2 F dX6_carryAll_80 ?_
      refine g_iload_n F 0 dX6_carryAll_83 rfl ?_
      refine g_aload_n F 1 dX6_carryAll_84 rfl ?_
      refine g_aload_n F 1 dX6_carryAll_85 rfl ?_
      refine gm_get_2 F dX6_carryAll_86 ?_
      refine g_iload_n F 0 dX6_carryAll_89 rfl ?_
      refine gm_ald_2 F (by omega) dX6_carryAll_90 ?_
      refine g_top (y := iI (M 2 c)) rfl ?_
      refine g_callI F (stk := [.int (iI (M 2 c)), .ref (ma 100), .int (iI c), .ref (ma 2)]) (st := [.int (iI c), .ref (ma 2)]) (k_X6_carry_t27 κ ma M M (uI (uI f q (M 0 c)) (q + 1) (M 1 c)) (q + 1 + 1) (M 2 c) (by omega)) cal_X6_carry lm_X6_212 0 rfl rfl rfl rfl (by decide) rfl (Nat.le_of_ble_eq_true rfl) dX6_carryAll_91 (fun r91 ws91 _ hr91 => ?_)
      obtain ⟨rfl, rfl⟩ := hr91
      refine gm_ast_2 F (by omega) dX6_carryAll_94 ?_
      refine g_ws (ws' := mw κ ma (mA (cst M 27 1 (q + 1 + 1 + 1) (uI (uI (uI f q (M 0 c)) (q + 1) (M 1 c)) (q + 1 + 1) (M 2 c)) M) 2 (uI (M 2) c (M 2 c)))) rfl ?_
      refine g_ws (ws' := mw κ ma (cst M 27 1 (q + 1 + 1 + 1) (uI (uI (uI f q (M 0 c)) (q + 1) (M 1 c)) (q + 1 + 1) (M 2 c)) M)) (by rw [uI_self]; rfl) ?_
      refine g_aload_n F 1 dX6_carryAll_95 rfl ?_
      refine gm_get_3 F dX6_carryAll_96 ?_
      refine g_iload_n F 0 dX6_carryAll_99 rfl ?_
      refine g_aload_n F 1 dX6_carryAll_100 rfl ?_
      refine g_aload_n F 1 dX6_carryAll_101 rfl ?_
      refine gm_get_3 F dX6_carryAll_102 ?_
      refine g_iload_n F 0 dX6_carryAll_105 rfl ?_
      refine gm_ald_3 F (by omega) dX6_carryAll_106 ?_
      refine g_top (y := iI (M 3 c)) rfl ?_
      refine g_callI F (stk := [.int (iI (M 3 c)), .ref (ma 100), .int (iI c), .ref (ma 3)]) (st := [.int (iI c), .ref (ma 3)]) (k_X6_carry_t27 κ ma M M (uI (uI (uI f q (M 0 c)) (q + 1) (M 1 c)) (q + 1 + 1) (M 2 c)) (q + 1 + 1 + 1) (M 3 c) (by omega)) cal_X6_carry lm_X6_212 0 rfl rfl rfl rfl (by decide) rfl (Nat.le_of_ble_eq_true rfl) dX6_carryAll_107 (fun r107 ws107 _ hr107 => ?_)
      obtain ⟨rfl, rfl⟩ := hr107
      refine gm_ast_3 F (by omega) dX6_carryAll_110 ?_
      refine g_ws (ws' := mw κ ma (mA (cst M 27 1 (q + 1 + 1 + 1 + 1) (uI (uI (uI (uI f q (M 0 c)) (q + 1) (M 1 c)) (q + 1 + 1) (M 2 c)) (q + 1 + 1 + 1) (M 3 c)) M) 3 (uI (M 3) c (M 3 c)))) rfl ?_
      refine g_ws (ws' := mw κ ma (cst M 27 1 (q + 1 + 1 + 1 + 1) (uI (uI (uI (uI f q (M 0 c)) (q + 1) (M 1 c)) (q + 1 + 1) (M 2 c)) (q + 1 + 1 + 1) (M 3 c)) M)) (by rw [uI_self]; rfl) ?_
      refine g_iinc F (lv' := [(3, .int (iI (c + 1))), (0, .ref (ma 100)), (1, .ref (ma 27)), (2, .int (iI 1))]) 0 dX6_carryAll_111 rfl (by decide) rfl ?_
      refine g_goto F 41 dX6_carryAll_114 (by decide) ?_
      refine g_sub F (lv' := [(3, .int (iI (c + 1))), (0, .ref (ma 100)), (1, .ref (ma 27)), (2, .int (iI 1))]) [0, 1, 2, 3] rfl ?_
      have e0 : snapF M (q) = M 0 c := snap_c M hc.1 (by omega) (by decide : (0 : Int) ≤ 0) (by decide) (by omega)
      have e1 : snapF M (q + 1) = M 1 c := snap_c M hc.1 (by omega) (by decide : (0 : Int) ≤ 1) (by decide) (by omega)
      have e2 : snapF M (q + 1 + 1) = M 2 c := snap_c M hc.1 (by omega) (by decide : (0 : Int) ≤ 2) (by decide) (by omega)
      have e3 : snapF M (q + 1 + 1 + 1) = M 3 c := snap_c M hc.1 (by omega) (by decide : (0 : Int) ≤ 3) (by decide) (by omega)
      exact ih41 _ (by omega) (c + 1) (q + 1 + 1 + 1 + 1) (uI (uI (uI (uI f q (M 0 c)) (q + 1) (M 1 c)) (q + 1 + 1) (M 2 c)) (q + 1 + 1 + 1) (M 3 c)) rfl (by omega) (by omega) (by rw [hf, ← e0, upTo_s _ _ (by omega), ← e1, upTo_s _ _ (by omega), ← e2, upTo_s _ _ (by omega), ← e3, upTo_s _ _ (by omega)])
  refine g_sub F (lv' := [(3, .int (iI 0)), (0, .ref (ma 100)), (1, .ref (ma 27)), (2, .int (iI 1))]) [0, 1, 2, 3] rfl ?_
  exact L41 _ 0 (0 + 1 + 1) (uI (uI (M 27) 0 (M 4 0)) (0 + 1) (M 5 0)) rfl (by omega) (by omega) (by rw [← upTo_s _ _ (by decide : (0 : Int) ≤ 0 + 1), ← upTo_s _ _ (by decide : (0 : Int) ≤ 0), upTo_0]; rfl)
theorem cst_kst_27 {κ : Kp} {ma : Nat → Nat} (M M0 : MS) : mw κ ma (cst M 27 0 (0 + 1 + 1) (M 27) (mA (mA M 4 (fun _ => M0 4 0)) 5 (fun _ => M0 5 0))) = mw κ ma (cst M 27 0 (0 + 1 + 1) (M 27) (kst M M0 0 0)) := by
  have e : kst M M0 0 0 = mA (mA M 4 (M0 4)) 5 (M0 5) := by
    funext a
    unfold kst mA
    rw [upTo_0]
    repeat' split
    all_goals first | rfl | omega | (subst_vars; rfl)
  rw [e]
  rfl
set_option maxRecDepth 100000 in
set_option maxHeartbeats 4000000 in
theorem k_X6_carryAll_f27 (κ : Kp) (ma : Nat → Nat) (M M0 : MS) (hS : ∀ z : Int, 0 ≤ z → z < 74 → M 27 z = snapF M0 z) : mV κ yX6_carryAll cX6_carryAll 4 1 [.ref (ma 100), .ref (ma 27), .int (iI 0)] (mw κ ma M) (is0 (mw κ ma (cst M 27 0 74 (M 27) M0))) := by
  refine mV_of (by decide) (Nat.le_of_ble_eq_true rfl) (fun E F K => ?_)
  refine g_lv (lv' := [(0, .ref (ma 100)), (1, .ref (ma 27)), (2, .int (iI 0))]) rfl ?_
  refine g_aload_n F 0 dX6_carryAll_0 rfl ?_
  refine g_aload_n F 1 dX6_carryAll_1 rfl ?_
  refine gm_put_25_27 F dX6_carryAll_2 ?_
  refine g_aload_n F 0 dX6_carryAll_5 rfl ?_
  refine g_iload_n F 2 dX6_carryAll_6 rfl ?_
  refine gm_put_24 F (by omega) dX6_carryAll_7 ?_
  refine g_aload_n F 0 dX6_carryAll_10 rfl ?_
  refine g_iconst F dX6_carryAll_11 ?_
  refine gm_put_23 F dX6_carryAll_12 ?_
  refine g_ws (ws' := mw κ ma (cst M 27 0 0 (M 27) M)) rfl ?_
  refine g_aload_n F 0 dX6_carryAll_15 rfl ?_
  refine g_aload_n F 0 dX6_carryAll_16 rfl ?_
  refine g_aload_n F 0 dX6_carryAll_17 rfl ?_
  refine gm_get_4 F dX6_carryAll_18 ?_
  refine g_top (y := iI (M 4 0)) rfl ?_
  refine g_callI F (stk := [.int (iI (M 4 0)), .ref (ma 100), .ref (ma 100)]) (st := [.ref (ma 100)]) (k_X6_carry_f27 κ ma M M (M 27) 0 (M 4 0) (by omega)) cal_X6_carry lm_X6_212 0 rfl rfl rfl rfl (by decide) rfl (Nat.le_of_ble_eq_true rfl) dX6_carryAll_21 (fun r21 ws21 _ hr21 => ?_)
  obtain ⟨rfl, rfl⟩ := hr21
  refine g_top (y := iI (M0 4 0)) (iIc (hS 0 (by decide) (by decide))) ?_
  refine gm_put_4 F dX6_carryAll_24 ?_
  refine g_ws (ws' := mw κ ma (cst M 27 0 (0 + 1) (M 27) (mA M 4 (fun _ => M0 4 0)))) rfl ?_
  refine g_aload_n F 0 dX6_carryAll_27 rfl ?_
  refine g_aload_n F 0 dX6_carryAll_28 rfl ?_
  refine g_aload_n F 0 dX6_carryAll_29 rfl ?_
  refine gm_get_5 F dX6_carryAll_30 ?_
  refine g_top (y := iI (M 5 0)) rfl ?_
  refine g_callI F (stk := [.int (iI (M 5 0)), .ref (ma 100), .ref (ma 100)]) (st := [.ref (ma 100)]) (k_X6_carry_f27 κ ma M (mA M 4 (fun _ => M0 4 0)) (M 27) (0 + 1) (M 5 0) (by omega)) cal_X6_carry lm_X6_212 0 rfl rfl rfl rfl (by decide) rfl (Nat.le_of_ble_eq_true rfl) dX6_carryAll_33 (fun r33 ws33 _ hr33 => ?_)
  obtain ⟨rfl, rfl⟩ := hr33
  refine g_top (y := iI (M0 5 0)) (iIc (hS (0 + 1) (by decide) (by decide))) ?_
  refine gm_put_5 F dX6_carryAll_36 ?_
  refine g_ws (ws' := mw κ ma (cst M 27 0 (0 + 1 + 1) (M 27) (mA (mA M 4 (fun _ => M0 4 0)) 5 (fun _ => M0 5 0)))) rfl ?_
  refine g_iconst F dX6_carryAll_39 ?_
  refine g_istore_n F (lv' := [(3, .int (iI 0)), (0, .ref (ma 100)), (1, .ref (ma 27)), (2, .int (iI 0))]) 3 dX6_carryAll_40 rfl (by decide) rfl ?_
  have L41 : ∀ (mz41 : Nat) (c : Int) (q : Int), (12 - c).toNat = mz41 → (0 ≤ c ∧ c ≤ 12) → (q = 2 + 4 * c) → G E (mw κ ma (cst M 27 0 q (M 27) (kst M M0 c 0))) [(3, .int (iI c)), (0, .ref (ma 100)), (1, .ref (ma 27)), (2, .int (iI 0))] 41 [] := by
    intro mz41
    induction mz41 using Nat.strongRecOn with
    | _ mz41 ih41 =>
    intro c q hmz41 hc hq
    refine g_iload_n F 0 dX6_carryAll_41 rfl ?_
    refine g_bipush F dX6_carryAll_42 (by decide +kernel) ?_
    refine g_icmp_ge F 117 (by omega) dX6_carryAll_44 (by decide) (fun c44 => ?_) (fun c44 => ?_)
    · skip
      refine g_iconst F dX6_carryAll_117 ?_
      refine g_istore_n F (lv' := [(3, .int (iI 0)), (0, .ref (ma 100)), (1, .ref (ma 27)), (2, .int (iI 0))]) 3 dX6_carryAll_118 rfl (by decide) rfl ?_
      have L119 : ∀ (mz119 : Nat) (p : Int) (q2 : Int), (6 - p).toNat = mz119 → (0 ≤ p ∧ p ≤ 6) → (q2 = 50 + 4 * p) → G E (mw κ ma (cst M 27 0 q2 (M 27) (kst M M0 12 p))) [(3, .int (iI p)), (0, .ref (ma 100)), (1, .ref (ma 27)), (2, .int (iI 0))] 119 [] := by
        intro mz119
        induction mz119 using Nat.strongRecOn with
        | _ mz119 ih119 =>
        intro p q2 hmz119 hp hq2
        refine g_iload_n F 0 dX6_carryAll_119 rfl ?_
        refine g_bipush F dX6_carryAll_120 (by decide +kernel) ?_
        refine g_icmp_ge F 195 (by omega) dX6_carryAll_122 (by decide) (fun c122 => ?_) (fun c122 => ?_)
        · skip
          refine g_ws (ws' := mw κ ma (mA (cst M 27 0 q2 (M 27) (kst M M0 12 p)) 0 (upTo (M 0) (M0 0) 12))) rfl ?_
          refine gm_weq_0 (g := M0 0) (fun j a b => upTo_in a b) ?_
          refine g_ws (ws' := mw κ ma (mA (mA (cst M 27 0 q2 (M 27) (kst M M0 12 p)) 0 (M0 0)) 1 (upTo (M 1) (M0 1) 12))) rfl ?_
          refine gm_weq_1 (g := M0 1) (fun j a b => upTo_in a b) ?_
          refine g_ws (ws' := mw κ ma (mA (mA (mA (cst M 27 0 q2 (M 27) (kst M M0 12 p)) 0 (M0 0)) 1 (M0 1)) 2 (upTo (M 2) (M0 2) 12))) rfl ?_
          refine gm_weq_2 (g := M0 2) (fun j a b => upTo_in a b) ?_
          refine g_ws (ws' := mw κ ma (mA (mA (mA (mA (cst M 27 0 q2 (M 27) (kst M M0 12 p)) 0 (M0 0)) 1 (M0 1)) 2 (M0 2)) 3 (upTo (M 3) (M0 3) 12))) rfl ?_
          refine gm_weq_3 (g := M0 3) (fun j a b => upTo_in a b) ?_
          refine g_ws (ws' := mw κ ma (mA (mA (mA (mA (mA (cst M 27 0 q2 (M 27) (kst M M0 12 p)) 0 (M0 0)) 1 (M0 1)) 2 (M0 2)) 3 (M0 3)) 6 (upTo (M 6) (M0 6) p))) rfl ?_
          refine gm_weq_6 (g := M0 6) (fun j a b => by rw [show p = 6 by omega]; exact upTo_in a b) ?_
          refine g_ws (ws' := mw κ ma (mA (mA (mA (mA (mA (mA (cst M 27 0 q2 (M 27) (kst M M0 12 p)) 0 (M0 0)) 1 (M0 1)) 2 (M0 2)) 3 (M0 3)) 6 (M0 6)) 7 (upTo (M 7) (M0 7) p))) rfl ?_
          refine gm_weq_7 (g := M0 7) (fun j a b => by rw [show p = 6 by omega]; exact upTo_in a b) ?_
          refine g_ws (ws' := mw κ ma (mA (mA (mA (mA (mA (mA (mA (cst M 27 0 q2 (M 27) (kst M M0 12 p)) 0 (M0 0)) 1 (M0 1)) 2 (M0 2)) 3 (M0 3)) 6 (M0 6)) 7 (M0 7)) 8 (upTo (M 8) (M0 8) p))) rfl ?_
          refine gm_weq_8 (g := M0 8) (fun j a b => by rw [show p = 6 by omega]; exact upTo_in a b) ?_
          refine g_ws (ws' := mw κ ma (mA (mA (mA (mA (mA (mA (mA (mA (cst M 27 0 q2 (M 27) (kst M M0 12 p)) 0 (M0 0)) 1 (M0 1)) 2 (M0 2)) 3 (M0 3)) 6 (M0 6)) 7 (M0 7)) 8 (M0 8)) 9 (upTo (M 9) (M0 9) p))) rfl ?_
          refine gm_weq_9 (g := M0 9) (fun j a b => by rw [show p = 6 by omega]; exact upTo_in a b) ?_
          exact K mw_same (by rw [hq2, show p = 6 by omega]; rfl) dX6_carryAll_195
        · skip
          refine g_aload_n F 1 dX6_carryAll_125 rfl ?_
          refine gm_get_6 F dX6_carryAll_126 ?_
          refine g_iload_n F 0 dX6_carryAll_129 rfl ?_
          refine g_aload_n F 1 dX6_carryAll_130 rfl ?_
          refine g_aload_n F 1 dX6_carryAll_131 rfl ?_
          refine gm_get_6 F dX6_carryAll_132 ?_
          refine g_iload_n F 0 dX6_carryAll_135 rfl ?_
          refine gm_ald_6 F (by omega) dX6_carryAll_136 ?_
          refine g_top (y := iI ((upTo (M 6) (M0 6) p) p)) rfl ?_
          refine g_callI F (stk := [.int (iI ((upTo (M 6) (M0 6) p) p)), .ref (ma 100), .int (iI p), .ref (ma 6)]) (st := [.int (iI p), .ref (ma 6)]) (k_X6_carry_f27 κ ma M (kst M M0 12 p) (M 27) q2 ((upTo (M 6) (M0 6) p) p) (by omega)) cal_X6_carry lm_X6_212 0 rfl rfl rfl rfl (by decide) rfl (Nat.le_of_ble_eq_true rfl) dX6_carryAll_137 (fun r137 ws137 _ hr137 => ?_)
          obtain ⟨rfl, rfl⟩ := hr137
          refine g_top (y := iI (M0 6 p)) (iIc ((hS _ (by omega) (by omega)).trans (snap_p M0 hp.1 (by omega) (by decide : (0 : Int) ≤ 0) (by decide) (by omega)))) ?_
          refine gm_ast_6 F (by omega) dX6_carryAll_140 ?_
          refine g_ws (ws' := mw κ ma (mA (cst M 27 0 (q2 + 1) (M 27) (kst M M0 12 p)) 6 (uI (upTo (M 6) (M0 6) p) p (M0 6 p)))) rfl ?_
          refine g_ws (ws' := mw κ ma (cst M 27 0 (q2 + 1) (M 27) (mA (kst M M0 12 p) 6 (uI (upTo (M 6) (M0 6) p) p (M0 6 p))))) rfl ?_
          refine g_aload_n F 1 dX6_carryAll_141 rfl ?_
          refine gm_get_7 F dX6_carryAll_142 ?_
          refine g_iload_n F 0 dX6_carryAll_145 rfl ?_
          refine g_aload_n F 1 dX6_carryAll_146 rfl ?_
          refine g_aload_n F 1 dX6_carryAll_147 rfl ?_
          refine gm_get_7 F dX6_carryAll_148 ?_
          refine g_iload_n F 0 dX6_carryAll_151 rfl ?_
          refine gm_ald_7 F (by omega) dX6_carryAll_152 ?_
          refine g_top (y := iI ((upTo (M 7) (M0 7) p) p)) rfl ?_
          refine g_callI F (stk := [.int (iI ((upTo (M 7) (M0 7) p) p)), .ref (ma 100), .int (iI p), .ref (ma 7)]) (st := [.int (iI p), .ref (ma 7)]) (k_X6_carry_f27 κ ma M (mA (kst M M0 12 p) 6 (uI (upTo (M 6) (M0 6) p) p (M0 6 p))) (M 27) (q2 + 1) ((upTo (M 7) (M0 7) p) p) (by omega)) cal_X6_carry lm_X6_212 0 rfl rfl rfl rfl (by decide) rfl (Nat.le_of_ble_eq_true rfl) dX6_carryAll_153 (fun r153 ws153 _ hr153 => ?_)
          obtain ⟨rfl, rfl⟩ := hr153
          refine g_top (y := iI (M0 7 p)) (iIc ((hS _ (by omega) (by omega)).trans (snap_p M0 hp.1 (by omega) (by decide : (0 : Int) ≤ 1) (by decide) (by omega)))) ?_
          refine gm_ast_7 F (by omega) dX6_carryAll_156 ?_
          refine g_ws (ws' := mw κ ma (mA (cst M 27 0 (q2 + 1 + 1) (M 27) (mA (kst M M0 12 p) 6 (uI (upTo (M 6) (M0 6) p) p (M0 6 p)))) 7 (uI (upTo (M 7) (M0 7) p) p (M0 7 p)))) rfl ?_
          refine g_ws (ws' := mw κ ma (cst M 27 0 (q2 + 1 + 1) (M 27) (mA (mA (kst M M0 12 p) 6 (uI (upTo (M 6) (M0 6) p) p (M0 6 p))) 7 (uI (upTo (M 7) (M0 7) p) p (M0 7 p))))) rfl ?_
          refine g_aload_n F 1 dX6_carryAll_157 rfl ?_
          refine gm_get_8 F dX6_carryAll_158 ?_
          refine g_iload_n F 0 dX6_carryAll_161 rfl ?_
          refine g_aload_n F 1 dX6_carryAll_162 rfl ?_
          refine g_aload_n F 1 dX6_carryAll_163 rfl ?_
          refine gm_get_8 F dX6_carryAll_164 ?_
          refine g_iload_n F 0 dX6_carryAll_167 rfl ?_
          refine gm_ald_8 F (by omega) dX6_carryAll_168 ?_
          refine g_top (y := iI ((upTo (M 8) (M0 8) p) p)) rfl ?_
          refine g_callI F (stk := [.int (iI ((upTo (M 8) (M0 8) p) p)), .ref (ma 100), .int (iI p), .ref (ma 8)]) (st := [.int (iI p), .ref (ma 8)]) (k_X6_carry_f27 κ ma M (mA (mA (kst M M0 12 p) 6 (uI (upTo (M 6) (M0 6) p) p (M0 6 p))) 7 (uI (upTo (M 7) (M0 7) p) p (M0 7 p))) (M 27) (q2 + 1 + 1) ((upTo (M 8) (M0 8) p) p) (by omega)) cal_X6_carry lm_X6_212 0 rfl rfl rfl rfl (by decide) rfl (Nat.le_of_ble_eq_true rfl) dX6_carryAll_169 (fun r169 ws169 _ hr169 => ?_)
          obtain ⟨rfl, rfl⟩ := hr169
          refine g_top (y := iI (M0 8 p)) (iIc ((hS _ (by omega) (by omega)).trans (snap_p M0 hp.1 (by omega) (by decide : (0 : Int) ≤ 2) (by decide) (by omega)))) ?_
          refine gm_ast_8 F (by omega) dX6_carryAll_172 ?_
          refine g_ws (ws' := mw κ ma (mA (cst M 27 0 (q2 + 1 + 1 + 1) (M 27) (mA (mA (kst M M0 12 p) 6 (uI (upTo (M 6) (M0 6) p) p (M0 6 p))) 7 (uI (upTo (M 7) (M0 7) p) p (M0 7 p)))) 8 (uI (upTo (M 8) (M0 8) p) p (M0 8 p)))) rfl ?_
          refine g_ws (ws' := mw κ ma (cst M 27 0 (q2 + 1 + 1 + 1) (M 27) (mA (mA (mA (kst M M0 12 p) 6 (uI (upTo (M 6) (M0 6) p) p (M0 6 p))) 7 (uI (upTo (M 7) (M0 7) p) p (M0 7 p))) 8 (uI (upTo (M 8) (M0 8) p) p (M0 8 p))))) rfl ?_
          refine g_aload_n F 1 dX6_carryAll_173 rfl ?_
          refine gm_get_9 F dX6_carryAll_174 ?_
          refine g_iload_n F 0 dX6_carryAll_177 rfl ?_
          refine g_aload_n F 1 dX6_carryAll_178 rfl ?_
          refine g_aload_n F 1 dX6_carryAll_179 rfl ?_
          refine gm_get_9 F dX6_carryAll_180 ?_
          refine g_iload_n F 0 dX6_carryAll_183 rfl ?_
          refine gm_ald_9 F (by omega) dX6_carryAll_184 ?_
          refine g_top (y := iI ((upTo (M 9) (M0 9) p) p)) rfl ?_
          refine g_callI F (stk := [.int (iI ((upTo (M 9) (M0 9) p) p)), .ref (ma 100), .int (iI p), .ref (ma 9)]) (st := [.int (iI p), .ref (ma 9)]) (k_X6_carry_f27 κ ma M (mA (mA (mA (kst M M0 12 p) 6 (uI (upTo (M 6) (M0 6) p) p (M0 6 p))) 7 (uI (upTo (M 7) (M0 7) p) p (M0 7 p))) 8 (uI (upTo (M 8) (M0 8) p) p (M0 8 p))) (M 27) (q2 + 1 + 1 + 1) ((upTo (M 9) (M0 9) p) p) (by omega)) cal_X6_carry lm_X6_212 0 rfl rfl rfl rfl (by decide) rfl (Nat.le_of_ble_eq_true rfl) dX6_carryAll_185 (fun r185 ws185 _ hr185 => ?_)
          obtain ⟨rfl, rfl⟩ := hr185
          refine g_top (y := iI (M0 9 p)) (iIc ((hS _ (by omega) (by omega)).trans (snap_p M0 hp.1 (by omega) (by decide : (0 : Int) ≤ 3) (by decide) (by omega)))) ?_
          refine gm_ast_9 F (by omega) dX6_carryAll_188 ?_
          refine g_ws (ws' := mw κ ma (mA (cst M 27 0 (q2 + 1 + 1 + 1 + 1) (M 27) (mA (mA (mA (kst M M0 12 p) 6 (uI (upTo (M 6) (M0 6) p) p (M0 6 p))) 7 (uI (upTo (M 7) (M0 7) p) p (M0 7 p))) 8 (uI (upTo (M 8) (M0 8) p) p (M0 8 p)))) 9 (uI (upTo (M 9) (M0 9) p) p (M0 9 p)))) rfl ?_
          refine g_ws (ws' := mw κ ma (cst M 27 0 (q2 + 1 + 1 + 1 + 1) (M 27) (mA (mA (mA (mA (kst M M0 12 p) 6 (uI (upTo (M 6) (M0 6) p) p (M0 6 p))) 7 (uI (upTo (M 7) (M0 7) p) p (M0 7 p))) 8 (uI (upTo (M 8) (M0 8) p) p (M0 8 p))) 9 (uI (upTo (M 9) (M0 9) p) p (M0 9 p))))) rfl ?_
          refine g_iinc F (lv' := [(3, .int (iI (p + 1))), (0, .ref (ma 100)), (1, .ref (ma 27)), (2, .int (iI 0))]) 0 dX6_carryAll_189 rfl (by decide) rfl ?_
          refine g_goto F 119 dX6_carryAll_192 (by decide) ?_
          refine g_sub F (lv' := [(3, .int (iI (p + 1))), (0, .ref (ma 100)), (1, .ref (ma 27)), (2, .int (iI 0))]) [0, 1, 2, 3] rfl ?_
          refine g_ws (ws' := mw κ ma (cst M 27 0 (q2 + 1 + 1 + 1 + 1) (M 27) (kst M M0 12 (p + 1)))) (by rw [upTo_s _ _ hp.1, upTo_s _ _ hp.1, upTo_s _ _ hp.1, upTo_s _ _ hp.1]; rfl) ?_
          exact ih119 _ (by omega) (p + 1) (q2 + 1 + 1 + 1 + 1) rfl (by omega) (by omega)
      refine g_sub F (lv' := [(3, .int (iI 0)), (0, .ref (ma 100)), (1, .ref (ma 27)), (2, .int (iI 0))]) [0, 1, 2, 3] rfl ?_
      refine g_ws (ws' := mw κ ma (cst M 27 0 q (M 27) (kst M M0 12 0))) (by rw [show c = 12 by omega]) ?_
      exact L119 _ 0 q rfl (by omega) (by omega)
    · skip
      refine g_aload_n F 1 dX6_carryAll_47 rfl ?_
      refine gm_get_0 F dX6_carryAll_48 ?_
      refine g_iload_n F 0 dX6_carryAll_51 rfl ?_
      refine g_aload_n F 1 dX6_carryAll_52 rfl ?_
      refine g_aload_n F 1 dX6_carryAll_53 rfl ?_
      refine gm_get_0 F dX6_carryAll_54 ?_
      refine g_iload_n F 0 dX6_carryAll_57 rfl ?_
      refine gm_ald_0 F (by omega) dX6_carryAll_58 ?_
      refine g_top (y := iI ((upTo (M 0) (M0 0) c) c)) rfl ?_
      refine g_callI F (stk := [.int (iI ((upTo (M 0) (M0 0) c) c)), .ref (ma 100), .int (iI c), .ref (ma 0)]) (st := [.int (iI c), .ref (ma 0)]) (k_X6_carry_f27 κ ma M (kst M M0 c 0) (M 27) q ((upTo (M 0) (M0 0) c) c) (by omega)) cal_X6_carry lm_X6_212 0 rfl rfl rfl rfl (by decide) rfl (Nat.le_of_ble_eq_true rfl) dX6_carryAll_59 (fun r59 ws59 _ hr59 => ?_)
      obtain ⟨rfl, rfl⟩ := hr59
      refine g_top (y := iI (M0 0 c)) (iIc ((hS _ (by omega) (by omega)).trans (snap_c M0 hc.1 (by omega) (by decide : (0 : Int) ≤ 0) (by decide) (by omega)))) ?_
      refine gm_ast_0 F (by omega) dX6_carryAll_62 ?_
      refine g_ws (ws' := mw κ ma (mA (cst M 27 0 (q + 1) (M 27) (kst M M0 c 0)) 0 (uI (upTo (M 0) (M0 0) c) c (M0 0 c)))) rfl ?_
      refine g_ws (ws' := mw κ ma (cst M 27 0 (q + 1) (M 27) (mA (kst M M0 c 0) 0 (uI (upTo (M 0) (M0 0) c) c (M0 0 c))))) rfl ?_
      refine g_aload_n F 1 dX6_carryAll_63 rfl ?_
      refine gm_get_1 F dX6_carryAll_64 ?_
      refine g_iload_n F 0 dX6_carryAll_67 rfl ?_
      refine g_aload_n F 1 dX6_carryAll_68 rfl ?_
      refine g_aload_n F 1 dX6_carryAll_69 rfl ?_
      refine gm_get_1 F dX6_carryAll_70 ?_
      refine g_iload_n F 0 dX6_carryAll_73 rfl ?_
      refine gm_ald_1 F (by omega) dX6_carryAll_74 ?_
      refine g_top (y := iI ((upTo (M 1) (M0 1) c) c)) rfl ?_
      refine g_callI F (stk := [.int (iI ((upTo (M 1) (M0 1) c) c)), .ref (ma 100), .int (iI c), .ref (ma 1)]) (st := [.int (iI c), .ref (ma 1)]) (k_X6_carry_f27 κ ma M (mA (kst M M0 c 0) 0 (uI (upTo (M 0) (M0 0) c) c (M0 0 c))) (M 27) (q + 1) ((upTo (M 1) (M0 1) c) c) (by omega)) cal_X6_carry lm_X6_212 0 rfl rfl rfl rfl (by decide) rfl (Nat.le_of_ble_eq_true rfl) dX6_carryAll_75 (fun r75 ws75 _ hr75 => ?_)
      obtain ⟨rfl, rfl⟩ := hr75
      refine g_top (y := iI (M0 1 c)) (iIc ((hS _ (by omega) (by omega)).trans (snap_c M0 hc.1 (by omega) (by decide : (0 : Int) ≤ 1) (by decide) (by omega)))) ?_
      refine gm_ast_1 F (by omega) dX6_carryAll_78 ?_
      refine g_ws (ws' := mw κ ma (mA (cst M 27 0 (q + 1 + 1) (M 27) (mA (kst M M0 c 0) 0 (uI (upTo (M 0) (M0 0) c) c (M0 0 c)))) 1 (uI (upTo (M 1) (M0 1) c) c (M0 1 c)))) rfl ?_
      refine g_ws (ws' := mw κ ma (cst M 27 0 (q + 1 + 1) (M 27) (mA (mA (kst M M0 c 0) 0 (uI (upTo (M 0) (M0 0) c) c (M0 0 c))) 1 (uI (upTo (M 1) (M0 1) c) c (M0 1 c))))) rfl ?_
      refine g_aload_n F 1 dX6_carryAll_79 rfl ?_
      refine gm_get_2 F dX6_carryAll_80 ?_
      refine g_iload_n F 0 dX6_carryAll_83 rfl ?_
      refine g_aload_n F 1 dX6_carryAll_84 rfl ?_
      refine g_aload_n F 1 dX6_carryAll_85 rfl ?_
      refine gm_get_2 F dX6_carryAll_86 ?_
      refine g_iload_n F 0 dX6_carryAll_89 rfl ?_
      refine gm_ald_2 F (by omega) dX6_carryAll_90 ?_
      refine g_top (y := iI ((upTo (M 2) (M0 2) c) c)) rfl ?_
      refine g_callI F (stk := [.int (iI ((upTo (M 2) (M0 2) c) c)), .ref (ma 100), .int (iI c), .ref (ma 2)]) (st := [.int (iI c), .ref (ma 2)]) (k_X6_carry_f27 κ ma M (mA (mA (kst M M0 c 0) 0 (uI (upTo (M 0) (M0 0) c) c (M0 0 c))) 1 (uI (upTo (M 1) (M0 1) c) c (M0 1 c))) (M 27) (q + 1 + 1) ((upTo (M 2) (M0 2) c) c) (by omega)) cal_X6_carry lm_X6_212 0 rfl rfl rfl rfl (by decide) rfl (Nat.le_of_ble_eq_true rfl) dX6_carryAll_91 (fun r91 ws91 _ hr91 => ?_)
      obtain ⟨rfl, rfl⟩ := hr91
      refine g_top (y := iI (M0 2 c)) (iIc ((hS _ (by omega) (by omega)).trans (snap_c M0 hc.1 (by omega) (by decide : (0 : Int) ≤ 2) (by decide) (by omega)))) ?_
      refine gm_ast_2 F (by omega) dX6_carryAll_94 ?_
      refine g_ws (ws' := mw κ ma (mA (cst M 27 0 (q + 1 + 1 + 1) (M 27) (mA (mA (kst M M0 c 0) 0 (uI (upTo (M 0) (M0 0) c) c (M0 0 c))) 1 (uI (upTo (M 1) (M0 1) c) c (M0 1 c)))) 2 (uI (upTo (M 2) (M0 2) c) c (M0 2 c)))) rfl ?_
      refine g_ws (ws' := mw κ ma (cst M 27 0 (q + 1 + 1 + 1) (M 27) (mA (mA (mA (kst M M0 c 0) 0 (uI (upTo (M 0) (M0 0) c) c (M0 0 c))) 1 (uI (upTo (M 1) (M0 1) c) c (M0 1 c))) 2 (uI (upTo (M 2) (M0 2) c) c (M0 2 c))))) rfl ?_
      refine g_aload_n F 1 dX6_carryAll_95 rfl ?_
      refine gm_get_3 F dX6_carryAll_96 ?_
      refine g_iload_n F 0 dX6_carryAll_99 rfl ?_
      refine g_aload_n F 1 dX6_carryAll_100 rfl ?_
      refine g_aload_n F 1 dX6_carryAll_101 rfl ?_
      refine gm_get_3 F dX6_carryAll_102 ?_
      refine g_iload_n F 0 dX6_carryAll_105 rfl ?_
      refine gm_ald_3 F (by omega) dX6_carryAll_106 ?_
      refine g_top (y := iI ((upTo (M 3) (M0 3) c) c)) rfl ?_
      refine g_callI F (stk := [.int (iI ((upTo (M 3) (M0 3) c) c)), .ref (ma 100), .int (iI c), .ref (ma 3)]) (st := [.int (iI c), .ref (ma 3)]) (k_X6_carry_f27 κ ma M (mA (mA (mA (kst M M0 c 0) 0 (uI (upTo (M 0) (M0 0) c) c (M0 0 c))) 1 (uI (upTo (M 1) (M0 1) c) c (M0 1 c))) 2 (uI (upTo (M 2) (M0 2) c) c (M0 2 c))) (M 27) (q + 1 + 1 + 1) ((upTo (M 3) (M0 3) c) c) (by omega)) cal_X6_carry lm_X6_212 0 rfl rfl rfl rfl (by decide) rfl (Nat.le_of_ble_eq_true rfl) dX6_carryAll_107 (fun r107 ws107 _ hr107 => ?_)
      obtain ⟨rfl, rfl⟩ := hr107
      refine g_top (y := iI (M0 3 c)) (iIc ((hS _ (by omega) (by omega)).trans (snap_c M0 hc.1 (by omega) (by decide : (0 : Int) ≤ 3) (by decide) (by omega)))) ?_
      refine gm_ast_3 F (by omega) dX6_carryAll_110 ?_
      refine g_ws (ws' := mw κ ma (mA (cst M 27 0 (q + 1 + 1 + 1 + 1) (M 27) (mA (mA (mA (kst M M0 c 0) 0 (uI (upTo (M 0) (M0 0) c) c (M0 0 c))) 1 (uI (upTo (M 1) (M0 1) c) c (M0 1 c))) 2 (uI (upTo (M 2) (M0 2) c) c (M0 2 c)))) 3 (uI (upTo (M 3) (M0 3) c) c (M0 3 c)))) rfl ?_
      refine g_ws (ws' := mw κ ma (cst M 27 0 (q + 1 + 1 + 1 + 1) (M 27) (mA (mA (mA (mA (kst M M0 c 0) 0 (uI (upTo (M 0) (M0 0) c) c (M0 0 c))) 1 (uI (upTo (M 1) (M0 1) c) c (M0 1 c))) 2 (uI (upTo (M 2) (M0 2) c) c (M0 2 c))) 3 (uI (upTo (M 3) (M0 3) c) c (M0 3 c))))) rfl ?_
      refine g_iinc F (lv' := [(3, .int (iI (c + 1))), (0, .ref (ma 100)), (1, .ref (ma 27)), (2, .int (iI 0))]) 0 dX6_carryAll_111 rfl (by decide) rfl ?_
      refine g_goto F 41 dX6_carryAll_114 (by decide) ?_
      refine g_sub F (lv' := [(3, .int (iI (c + 1))), (0, .ref (ma 100)), (1, .ref (ma 27)), (2, .int (iI 0))]) [0, 1, 2, 3] rfl ?_
      refine g_ws (ws' := mw κ ma (cst M 27 0 (q + 1 + 1 + 1 + 1) (M 27) (kst M M0 (c + 1) 0))) (by rw [upTo_s _ _ hc.1, upTo_s _ _ hc.1, upTo_s _ _ hc.1, upTo_s _ _ hc.1]; rfl) ?_
      exact ih41 _ (by omega) (c + 1) (q + 1 + 1 + 1 + 1) rfl (by omega) (by omega)
  refine g_sub F (lv' := [(3, .int (iI 0)), (0, .ref (ma 100)), (1, .ref (ma 27)), (2, .int (iI 0))]) [0, 1, 2, 3] rfl ?_
  refine g_ws (ws' := mw κ ma (cst M 27 0 (0 + 1 + 1) (M 27) (kst M M0 0 0))) (cst_kst_27 M M0) ?_
  exact L41 _ 0 (0 + 1 + 1) rfl (by omega) (by omega)
end
section
theorem snapF_mA {M : MS} {k : Nat} {f : Int → Int} (h : 10 ≤ k) : snapF (mA M k f) = snapF M := by
  funext z
  have e : ∀ a : Nat, a < 10 → mA M k f a = M a := fun a ha => mA_n (by omega)
  unfold snapF
  rw [e 4 (by decide), e 5 (by decide), e _ (by omega), e _ (by omega)]
def thk (M : MS) : MS := cst M 20 1 74 (snapF M) M
def agn (M M0 : MS) : MS := cst M 20 0 74 (M 20) M0
/-- the turns kept: one place down; a new one laid in -/
def shT (f : Int → Int) (k : Int) : Int → Int := fun z => if 0 ≤ z ∧ z < k - 74 then f (z + 74) else f z
def segT (f : Int → Int) (s : Int) (S : Int → Int) (k : Int) : Int → Int := fun z => if 74 * s ≤ z ∧ z < 74 * s + k then S (z - 74 * s) else f z
def khs (f : Int → Int) (tn : Int) (S : Int → Int) : Int → Int := if tn = 8 then segT (shT f 592) 7 S 74 else segT f tn S 74
def khn (tn : Int) : Int := if tn = 8 then 8 else tn + 1
def kpt (M : MS) : MS := mA (mA (cst M 27 1 74 (snapF M) M) 26 (khs (M 26) (M 28 0) (snapF M))) 28 (fun _ => khn (M 28 0))
theorem shT_0 (f : Int → Int) : f = shT f 74 := by
  funext z
  unfold shT
  rw [if_neg (by omega)]
theorem shT_s (f : Int → Int) {k : Int} (h : 74 ≤ k) : uI (shT f k) (k - 74) (f k) = shT f (k + 1) := by
  funext z
  unfold uI shT
  by_cases h1 : z = k - 74
  · subst h1; rw [if_pos rfl, if_pos (by omega)]; congr 1; omega
  · rw [if_neg h1]
    by_cases h2 : 0 ≤ z ∧ z < k - 74
    · rw [if_pos h2, if_pos (by omega)]
    · rw [if_neg h2, if_neg (by omega)]
theorem shT_at (f : Int → Int) (k : Int) : shT f k k = f k := by unfold shT; rw [if_neg (by omega)]
theorem segT_0 (f : Int → Int) (s : Int) (S : Int → Int) : f = segT f s S 0 := by
  funext z
  unfold segT
  rw [if_neg (by omega)]
theorem segT_s (f : Int → Int) (s : Int) (S : Int → Int) {k : Int} (h : 0 ≤ k) : uI (segT f s S k) (74 * s + k) (S k) = segT f s S (k + 1) := by
  funext z
  unfold uI segT
  by_cases h1 : z = 74 * s + k
  · subst h1; rw [if_pos rfl, if_pos (by omega)]; congr 1; omega
  · rw [if_neg h1]
    by_cases h2 : 74 * s ≤ z ∧ z < 74 * s + k
    · rw [if_pos h2, if_pos (by omega)]
    · rw [if_neg h2, if_neg (by omega)]
/-- the roll -/
def okR (M : MS) : Prop := (0 ≤ M 5 0 ∧ M 5 0 ≤ 6) ∧ ∀ p : Int, 0 ≤ p → p < 6 → (0 ≤ M 6 p ∧ M 6 p ≤ 5) ∧ (0 ≤ M 7 p ∧ M 7 p ≤ 9) ∧ (0 ≤ M 8 p ∧ M 8 p ≤ 99) ∧ 0 ≤ M 9 p ∧ M 9 p ≤ 1

theorem dX6_think_0 : decode cX6_think 0 = .ok (.aload_n 0, 1) := by decide +kernel
theorem dX6_think_1 : decode cX6_think 1 = .ok (.aload_n 0, 1) := by decide +kernel
theorem dX6_think_2 : decode cX6_think 2 = .ok (.getfield 49, 3) := by decide +kernel
theorem dX6_think_5 : decode cX6_think 5 = .ok (.iconst 1, 1) := by decide +kernel
theorem dX6_think_6 : decode cX6_think 6 = .ok (.invokevirtual 215, 3) := by decide +kernel
theorem dX6_think_9 : decode cX6_think 9 = .ok (.return_, 1) := by decide +kernel
set_option maxRecDepth 100000 in
set_option maxHeartbeats 4000000 in
theorem k_X6_think (κ : Kp) (ma : Nat → Nat) (M : MS)   : mV κ yX6_think cX6_think 1 2 [.ref (ma 100)] (mw κ ma M) (is0 (mw κ ma (thk M))) := by
  refine mV_of (by decide) (Nat.le_of_ble_eq_true rfl) (fun E F K => ?_)
  refine g_lv (lv' := [(0, .ref (ma 100))]) rfl ?_
  refine g_aload_n F 0 dX6_think_0 rfl ?_
  refine g_aload_n F 0 dX6_think_1 rfl ?_
  refine gm_get_20 F dX6_think_2 ?_
  refine g_iconst F dX6_think_5 ?_
  refine g_callV F (stk := [.int (iI 1), .ref (ma 20), .ref (ma 100)]) (st := []) (k_X6_carryAll_t20 κ ma M) cal_X6_carryAll lm_X6_215 0 rfl rfl rfl rfl (by decide) rfl (Nat.le_of_ble_eq_true rfl) dX6_think_6 (fun ws6 _ hr6 => ?_)
  obtain rfl := hr6
  exact K mw_same rfl dX6_think_9
theorem dX6_again_0 : decode cX6_again 0 = .ok (.aload_n 0, 1) := by decide +kernel
theorem dX6_again_1 : decode cX6_again 1 = .ok (.aload_n 0, 1) := by decide +kernel
theorem dX6_again_2 : decode cX6_again 2 = .ok (.getfield 49, 3) := by decide +kernel
theorem dX6_again_5 : decode cX6_again 5 = .ok (.iconst 0, 1) := by decide +kernel
theorem dX6_again_6 : decode cX6_again 6 = .ok (.invokevirtual 215, 3) := by decide +kernel
theorem dX6_again_9 : decode cX6_again 9 = .ok (.return_, 1) := by decide +kernel
set_option maxRecDepth 100000 in
set_option maxHeartbeats 4000000 in
theorem k_X6_again (κ : Kp) (ma : Nat → Nat) (M M0 : MS) (hS : ∀ z : Int, 0 ≤ z → z < 74 → M 20 z = snapF M0 z) : mV κ yX6_again cX6_again 1 2 [.ref (ma 100)] (mw κ ma M) (is0 (mw κ ma (agn M M0))) := by
  refine mV_of (by decide) (Nat.le_of_ble_eq_true rfl) (fun E F K => ?_)
  refine g_lv (lv' := [(0, .ref (ma 100))]) rfl ?_
  refine g_aload_n F 0 dX6_again_0 rfl ?_
  refine g_aload_n F 0 dX6_again_1 rfl ?_
  refine gm_get_20 F dX6_again_2 ?_
  refine g_iconst F dX6_again_5 ?_
  refine g_callV F (stk := [.int (iI 0), .ref (ma 20), .ref (ma 100)]) (st := []) (k_X6_carryAll_f20 κ ma M M0 hS) cal_X6_carryAll lm_X6_215 0 rfl rfl rfl rfl (by decide) rfl (Nat.le_of_ble_eq_true rfl) dX6_again_6 (fun ws6 _ hr6 => ?_)
  obtain rfl := hr6
  exact K mw_same rfl dX6_again_9
theorem dX6_keepTurn_0 : decode cX6_keepTurn 0 = .ok (.aload_n 0, 1) := by decide +kernel
theorem dX6_keepTurn_1 : decode cX6_keepTurn 1 = .ok (.getfield 200, 3) := by decide +kernel
theorem dX6_keepTurn_4 : decode cX6_keepTurn 4 = .ok (.bipush 8, 2) := by decide +kernel
theorem dX6_keepTurn_6 : decode cX6_keepTurn 6 = .ok (.if_icmp .ne 44, 3) := by decide +kernel
theorem dX6_keepTurn_9 : decode cX6_keepTurn 9 = .ok (.bipush 74, 2) := by decide +kernel
theorem dX6_keepTurn_11 : decode cX6_keepTurn 11 = .ok (.istore_n 1, 1) := by decide +kernel
theorem dX6_keepTurn_12 : decode cX6_keepTurn 12 = .ok (.iload_n 1, 1) := by decide +kernel
theorem dX6_keepTurn_13 : decode cX6_keepTurn 13 = .ok (.sipush 592, 3) := by decide +kernel
theorem dX6_keepTurn_16 : decode cX6_keepTurn 16 = .ok (.if_icmp .ge 24, 3) := by decide +kernel
theorem dX6_keepTurn_19 : decode cX6_keepTurn 19 = .ok (.aload_n 0, 1) := by decide +kernel
theorem dX6_keepTurn_20 : decode cX6_keepTurn 20 = .ok (.getfield 55, 3) := by decide +kernel
theorem dX6_keepTurn_23 : decode cX6_keepTurn 23 = .ok (.iload_n 1, 1) := by decide +kernel
theorem dX6_keepTurn_24 : decode cX6_keepTurn 24 = .ok (.bipush 74, 2) := by decide +kernel
theorem dX6_keepTurn_26 : decode cX6_keepTurn 26 = .ok (.isub, 1) := by decide +kernel
theorem dX6_keepTurn_27 : decode cX6_keepTurn 27 = .ok (.aload_n 0, 1) := by decide +kernel
theorem dX6_keepTurn_28 : decode cX6_keepTurn 28 = .ok (.getfield 55, 3) := by decide +kernel
theorem dX6_keepTurn_31 : decode cX6_keepTurn 31 = .ok (.iload_n 1, 1) := by decide +kernel
theorem dX6_keepTurn_32 : decode cX6_keepTurn 32 = .ok (.iaload, 1) := by decide +kernel
theorem dX6_keepTurn_33 : decode cX6_keepTurn 33 = .ok (.iastore, 1) := by decide +kernel
theorem dX6_keepTurn_34 : decode cX6_keepTurn 34 = .ok (.iinc 1 1, 3) := by decide +kernel
theorem dX6_keepTurn_37 : decode cX6_keepTurn 37 = .ok (.goto (-25), 3) := by decide +kernel
theorem dX6_keepTurn_40 : decode cX6_keepTurn 40 = .ok (.aload_n 0, 1) := by decide +kernel
theorem dX6_keepTurn_41 : decode cX6_keepTurn 41 = .ok (.dup, 1) := by decide +kernel
theorem dX6_keepTurn_42 : decode cX6_keepTurn 42 = .ok (.getfield 200, 3) := by decide +kernel
theorem dX6_keepTurn_45 : decode cX6_keepTurn 45 = .ok (.iconst 1, 1) := by decide +kernel
theorem dX6_keepTurn_46 : decode cX6_keepTurn 46 = .ok (.isub, 1) := by decide +kernel
theorem dX6_keepTurn_47 : decode cX6_keepTurn 47 = .ok (.putfield 200, 3) := by decide +kernel
theorem dX6_keepTurn_50 : decode cX6_keepTurn 50 = .ok (.aload_n 0, 1) := by decide +kernel
theorem dX6_keepTurn_51 : decode cX6_keepTurn 51 = .ok (.aload_n 0, 1) := by decide +kernel
theorem dX6_keepTurn_52 : decode cX6_keepTurn 52 = .ok (.getfield 58, 3) := by decide +kernel
theorem dX6_keepTurn_55 : decode cX6_keepTurn 55 = .ok (.iconst 1, 1) := by decide +kernel
theorem dX6_keepTurn_56 : decode cX6_keepTurn 56 = .ok (.invokevirtual 215, 3) := by decide +kernel
theorem dX6_keepTurn_59 : decode cX6_keepTurn 59 = .ok (.iconst 0, 1) := by decide +kernel
theorem dX6_keepTurn_60 : decode cX6_keepTurn 60 = .ok (.istore_n 1, 1) := by decide +kernel
theorem dX6_keepTurn_61 : decode cX6_keepTurn 61 = .ok (.iload_n 1, 1) := by decide +kernel
theorem dX6_keepTurn_62 : decode cX6_keepTurn 62 = .ok (.bipush 74, 2) := by decide +kernel
theorem dX6_keepTurn_64 : decode cX6_keepTurn 64 = .ok (.if_icmp .ge 29, 3) := by decide +kernel
theorem dX6_keepTurn_67 : decode cX6_keepTurn 67 = .ok (.aload_n 0, 1) := by decide +kernel
theorem dX6_keepTurn_68 : decode cX6_keepTurn 68 = .ok (.getfield 55, 3) := by decide +kernel
theorem dX6_keepTurn_71 : decode cX6_keepTurn 71 = .ok (.bipush 74, 2) := by decide +kernel
theorem dX6_keepTurn_73 : decode cX6_keepTurn 73 = .ok (.aload_n 0, 1) := by decide +kernel
theorem dX6_keepTurn_74 : decode cX6_keepTurn 74 = .ok (.getfield 200, 3) := by decide +kernel
theorem dX6_keepTurn_77 : decode cX6_keepTurn 77 = .ok (.imul, 1) := by decide +kernel
theorem dX6_keepTurn_78 : decode cX6_keepTurn 78 = .ok (.iload_n 1, 1) := by decide +kernel
theorem dX6_keepTurn_79 : decode cX6_keepTurn 79 = .ok (.iadd, 1) := by decide +kernel
theorem dX6_keepTurn_80 : decode cX6_keepTurn 80 = .ok (.aload_n 0, 1) := by decide +kernel
theorem dX6_keepTurn_81 : decode cX6_keepTurn 81 = .ok (.getfield 58, 3) := by decide +kernel
theorem dX6_keepTurn_84 : decode cX6_keepTurn 84 = .ok (.iload_n 1, 1) := by decide +kernel
theorem dX6_keepTurn_85 : decode cX6_keepTurn 85 = .ok (.iaload, 1) := by decide +kernel
theorem dX6_keepTurn_86 : decode cX6_keepTurn 86 = .ok (.iastore, 1) := by decide +kernel
theorem dX6_keepTurn_87 : decode cX6_keepTurn 87 = .ok (.iinc 1 1, 3) := by decide +kernel
theorem dX6_keepTurn_90 : decode cX6_keepTurn 90 = .ok (.goto (-29), 3) := by decide +kernel
theorem dX6_keepTurn_93 : decode cX6_keepTurn 93 = .ok (.aload_n 0, 1) := by decide +kernel
theorem dX6_keepTurn_94 : decode cX6_keepTurn 94 = .ok (.dup, 1) := by decide +kernel
theorem dX6_keepTurn_95 : decode cX6_keepTurn 95 = .ok (.getfield 200, 3) := by decide +kernel
theorem dX6_keepTurn_98 : decode cX6_keepTurn 98 = .ok (.iconst 1, 1) := by decide +kernel
theorem dX6_keepTurn_99 : decode cX6_keepTurn 99 = .ok (.iadd, 1) := by decide +kernel
theorem dX6_keepTurn_100 : decode cX6_keepTurn 100 = .ok (.putfield 200, 3) := by decide +kernel
theorem dX6_keepTurn_103 : decode cX6_keepTurn 103 = .ok (.return_, 1) := by decide +kernel
set_option maxRecDepth 100000 in
set_option maxHeartbeats 4000000 in
theorem k_X6_keepTurn_8 (κ : Kp) (ma : Nat → Nat) (M : MS) (h8 : M 28 0 = 8) : mV κ yX6_keepTurn cX6_keepTurn 2 2 [.ref (ma 100)] (mw κ ma M) (is0 (mw κ ma (kpt M))) := by
  refine mV_of (by decide) (Nat.le_of_ble_eq_true rfl) (fun E F K => ?_)
  refine g_lv (lv' := [(0, .ref (ma 100))]) rfl ?_
  refine g_aload_n F 0 dX6_keepTurn_0 rfl ?_
  refine gm_get_28 F dX6_keepTurn_1 ?_
  refine g_bipush F dX6_keepTurn_4 (by decide +kernel) ?_
  refine g_icmp_ne F 50 (by omega) dX6_keepTurn_6 (by decide) (fun c6 => ?_) (fun c6 => ?_)
  · skip
    exact absurd trivial (by omega)
  · skip
    refine g_bipush F dX6_keepTurn_9 (by decide +kernel) ?_
    refine g_istore_n F (lv' := [(1, .int (iI 74)), (0, .ref (ma 100))]) 1 dX6_keepTurn_11 rfl (by decide) rfl ?_
    have L12 : ∀ (mz12 : Nat) (k : Int) (f : Int → Int), (592 - k).toNat = mz12 → (74 ≤ k ∧ k ≤ 592) → (f = shT (M 26) k) → G E (mw κ ma (mA M 26 f)) [(1, .int (iI k)), (0, .ref (ma 100))] 12 [] := by
      intro mz12
      induction mz12 using Nat.strongRecOn with
      | _ mz12 ih12 =>
      intro k f hmz12 hk hf
      refine g_iload_n F 0 dX6_keepTurn_12 rfl ?_
      refine g_sipush F dX6_keepTurn_13 (by decide +kernel) ?_
      refine g_icmp_ge F 40 (by omega) dX6_keepTurn_16 (by decide) (fun c16 => ?_) (fun c16 => ?_)
      · skip
        refine g_aload_n F 1 dX6_keepTurn_40 rfl ?_
        refine g_dup F dX6_keepTurn_41 rfl ?_
        refine gm_get_28 F dX6_keepTurn_42 ?_
        refine g_top (y := iI (M 28 0)) rfl ?_
        refine g_iconst F dX6_keepTurn_45 ?_
        refine g_isub F dX6_keepTurn_46 ?_
        refine gm_put_28 F dX6_keepTurn_47 ?_
        refine g_ws (ws' := mw κ ma (mA (mA M 26 (shT (M 26) 592)) 28 (fun _ => 7))) (by rw [hf, show k = 592 by omega, h8]; rfl) ?_
        refine g_aload_n F 1 dX6_keepTurn_50 rfl ?_
        refine g_aload_n F 1 dX6_keepTurn_51 rfl ?_
        refine gm_get_27 F dX6_keepTurn_52 ?_
        refine g_iconst F dX6_keepTurn_55 ?_
        refine g_callV F (stk := [.int (iI 1), .ref (ma 27), .ref (ma 100)]) (st := []) (k_X6_carryAll_t27 κ ma (mA (mA M 26 (shT (M 26) 592)) 28 (fun _ => 7))) cal_X6_carryAll lm_X6_215 0 rfl rfl rfl rfl (by decide) rfl (Nat.le_of_ble_eq_true rfl) dX6_keepTurn_56 (fun ws56 _ hr56 => ?_)
        obtain rfl := hr56
        refine g_ws (ws' := mw κ ma (cst (mA (mA M 26 (shT (M 26) 592)) 28 (fun _ => 7)) 27 1 74 (snapF M) (mA (mA M 26 (shT (M 26) 592)) 28 (fun _ => 7)))) (by rw [snapF_mA (by decide), snapF_mA (by decide)]) ?_
        refine g_iconst F dX6_keepTurn_59 ?_
        refine g_istore_n F (lv' := [(1, .int (iI 0)), (0, .ref (ma 100))]) 1 dX6_keepTurn_60 rfl (by decide) rfl ?_
        have L61 : ∀ (mz61 : Nat) (j : Int) (g : Int → Int), (74 - j).toNat = mz61 → (0 ≤ j ∧ j ≤ 74) → (g = segT (shT (M 26) 592) (7) (snapF M) j) → G E (mw κ ma (mA (cst (mA (mA M 26 (shT (M 26) 592)) 28 (fun _ => 7)) 27 1 74 (snapF M) (mA (mA M 26 (shT (M 26) 592)) 28 (fun _ => 7))) 26 g)) [(1, .int (iI j)), (0, .ref (ma 100))] 61 [] := by
          intro mz61
          induction mz61 using Nat.strongRecOn with
          | _ mz61 ih61 =>
          intro j g hmz61 hj hg
          refine g_iload_n F 0 dX6_keepTurn_61 rfl ?_
          refine g_bipush F dX6_keepTurn_62 (by decide +kernel) ?_
          refine g_icmp_ge F 93 (by omega) dX6_keepTurn_64 (by decide) (fun c64 => ?_) (fun c64 => ?_)
          · skip
            refine g_aload_n F 1 dX6_keepTurn_93 rfl ?_
            refine g_dup F dX6_keepTurn_94 rfl ?_
            refine gm_get_28 F dX6_keepTurn_95 ?_
            refine g_top (y := iI 7) rfl ?_
            refine g_iconst F dX6_keepTurn_98 ?_
            refine g_iadd F dX6_keepTurn_99 ?_
            refine gm_put_28 F dX6_keepTurn_100 ?_
            refine g_ws (ws' := mw κ ma (kpt M)) (by rw [hg, show j = 74 by omega]; unfold kpt khs khn; rw [h8, if_pos rfl, if_pos rfl]; rfl) ?_
            exact K mw_same rfl dX6_keepTurn_103
          · skip
            refine g_aload_n F 1 dX6_keepTurn_67 rfl ?_
            refine gm_get_26 F dX6_keepTurn_68 ?_
            refine g_bipush F dX6_keepTurn_71 (by decide +kernel) ?_
            refine g_aload_n F 1 dX6_keepTurn_73 rfl ?_
            refine gm_get_28 F dX6_keepTurn_74 ?_
            refine g_top (y := iI 7) rfl ?_
            refine g_imul F dX6_keepTurn_77 ?_
            refine g_iload_n F 0 dX6_keepTurn_78 rfl ?_
            refine g_iadd F dX6_keepTurn_79 ?_
            refine g_aload_n F 1 dX6_keepTurn_80 rfl ?_
            refine gm_get_27 F dX6_keepTurn_81 ?_
            refine g_iload_n F 0 dX6_keepTurn_84 rfl ?_
            refine gm_ald_27 F (by omega) dX6_keepTurn_85 ?_
            refine g_top (y := iI ((snapF M) j)) rfl ?_
            refine gm_astS_26 F (by omega) dX6_keepTurn_86 ?_
            refine g_iinc F (lv' := [(1, .int (iI (j + 1))), (0, .ref (ma 100))]) 0 dX6_keepTurn_87 rfl (by decide) rfl ?_
            refine g_goto F 61 dX6_keepTurn_90 (by decide) ?_
            refine g_sub F (lv' := [(1, .int (iI (j + 1))), (0, .ref (ma 100))]) [0, 1] rfl ?_
            exact ih61 _ (by omega) (j + 1) (uI g ((74 * 7) + j) ((snapF M) j)) rfl (by omega) (by rw [hg, segT_s _ _ _ hj.1])
        refine g_sub F (lv' := [(1, .int (iI 0)), (0, .ref (ma 100))]) [0, 1] rfl ?_
        refine g_ws (ws' := mw κ ma (mA (cst (mA (mA M 26 (shT (M 26) 592)) 28 (fun _ => 7)) 27 1 74 (snapF M) (mA (mA M 26 (shT (M 26) 592)) 28 (fun _ => 7))) 26 (shT (M 26) 592))) rfl ?_
        exact L61 _ 0 (shT (M 26) 592) rfl (by omega) (segT_0 _ _ _)
      · skip
        refine g_aload_n F 1 dX6_keepTurn_19 rfl ?_
        refine gm_get_26 F dX6_keepTurn_20 ?_
        refine g_iload_n F 0 dX6_keepTurn_23 rfl ?_
        refine g_bipush F dX6_keepTurn_24 (by decide +kernel) ?_
        refine g_isub F dX6_keepTurn_26 ?_
        refine g_aload_n F 1 dX6_keepTurn_27 rfl ?_
        refine gm_get_26 F dX6_keepTurn_28 ?_
        refine g_iload_n F 0 dX6_keepTurn_31 rfl ?_
        refine gm_ald_26 F (by omega) dX6_keepTurn_32 ?_
        refine g_top (y := iI (f k)) rfl ?_
        refine g_top (y := iI (M 26 k)) (iIc (by rw [hf, shT_at])) ?_
        refine gm_astS_26 F (by omega) dX6_keepTurn_33 ?_
        refine g_iinc F (lv' := [(1, .int (iI (k + 1))), (0, .ref (ma 100))]) 0 dX6_keepTurn_34 rfl (by decide) rfl ?_
        refine g_goto F 12 dX6_keepTurn_37 (by decide) ?_
        refine g_sub F (lv' := [(1, .int (iI (k + 1))), (0, .ref (ma 100))]) [0, 1] rfl ?_
        exact ih12 _ (by omega) (k + 1) (uI f (k - 74) (M 26 k)) rfl (by omega) (by rw [hf, shT_s _ hk.1])
    refine g_sub F (lv' := [(1, .int (iI 74)), (0, .ref (ma 100))]) [0, 1] rfl ?_
    refine g_ws (ws' := mw κ ma (mA M 26 (M 26))) rfl ?_
    exact L12 _ 74 (M 26) rfl (by omega) (shT_0 _)
set_option maxRecDepth 100000 in
set_option maxHeartbeats 4000000 in
theorem k_X6_keepTurn_n (κ : Kp) (ma : Nat → Nat) (M : MS) (h8 : 0 ≤ M 28 0 ∧ M 28 0 < 8) : mV κ yX6_keepTurn cX6_keepTurn 2 2 [.ref (ma 100)] (mw κ ma M) (is0 (mw κ ma (kpt M))) := by
  refine mV_of (by decide) (Nat.le_of_ble_eq_true rfl) (fun E F K => ?_)
  refine g_lv (lv' := [(0, .ref (ma 100))]) rfl ?_
  refine g_aload_n F 0 dX6_keepTurn_0 rfl ?_
  refine gm_get_28 F dX6_keepTurn_1 ?_
  refine g_bipush F dX6_keepTurn_4 (by decide +kernel) ?_
  refine g_icmp_ne F 50 (by omega) dX6_keepTurn_6 (by decide) (fun c6 => ?_) (fun c6 => ?_)
  · skip
    refine g_aload_n F 0 dX6_keepTurn_50 rfl ?_
    refine g_aload_n F 0 dX6_keepTurn_51 rfl ?_
    refine gm_get_27 F dX6_keepTurn_52 ?_
    refine g_iconst F dX6_keepTurn_55 ?_
    refine g_callV F (stk := [.int (iI 1), .ref (ma 27), .ref (ma 100)]) (st := []) (k_X6_carryAll_t27 κ ma M) cal_X6_carryAll lm_X6_215 0 rfl rfl rfl rfl (by decide) rfl (Nat.le_of_ble_eq_true rfl) dX6_keepTurn_56 (fun ws56 _ hr56 => ?_)
    obtain rfl := hr56
    refine g_iconst F dX6_keepTurn_59 ?_
    refine g_istore_n F (lv' := [(1, .int (iI 0)), (0, .ref (ma 100))]) 1 dX6_keepTurn_60 rfl (by decide) rfl ?_
    have L61 : ∀ (mz61 : Nat) (j : Int) (g : Int → Int), (74 - j).toNat = mz61 → (0 ≤ j ∧ j ≤ 74) → (g = segT (M 26) (M 28 0) (snapF M) j) → G E (mw κ ma (mA (cst M 27 1 74 (snapF M) M) 26 g)) [(1, .int (iI j)), (0, .ref (ma 100))] 61 [] := by
      intro mz61
      induction mz61 using Nat.strongRecOn with
      | _ mz61 ih61 =>
      intro j g hmz61 hj hg
      refine g_iload_n F 0 dX6_keepTurn_61 rfl ?_
      refine g_bipush F dX6_keepTurn_62 (by decide +kernel) ?_
      refine g_icmp_ge F 93 (by omega) dX6_keepTurn_64 (by decide) (fun c64 => ?_) (fun c64 => ?_)
      · skip
        refine g_aload_n F 1 dX6_keepTurn_93 rfl ?_
        refine g_dup F dX6_keepTurn_94 rfl ?_
        refine gm_get_28 F dX6_keepTurn_95 ?_
        refine g_top (y := iI (M 28 0)) rfl ?_
        refine g_iconst F dX6_keepTurn_98 ?_
        refine g_iadd F dX6_keepTurn_99 ?_
        refine gm_put_28 F dX6_keepTurn_100 ?_
        refine g_ws (ws' := mw κ ma (kpt M)) (by rw [hg, show j = 74 by omega]; unfold kpt khs khn; rw [if_neg (by omega), if_neg (by omega)]) ?_
        exact K mw_same rfl dX6_keepTurn_103
      · skip
        refine g_aload_n F 1 dX6_keepTurn_67 rfl ?_
        refine gm_get_26 F dX6_keepTurn_68 ?_
        refine g_bipush F dX6_keepTurn_71 (by decide +kernel) ?_
        refine g_aload_n F 1 dX6_keepTurn_73 rfl ?_
        refine gm_get_28 F dX6_keepTurn_74 ?_
        refine g_top (y := iI (M 28 0)) rfl ?_
        refine g_imul F dX6_keepTurn_77 ?_
        refine g_iload_n F 0 dX6_keepTurn_78 rfl ?_
        refine g_iadd F dX6_keepTurn_79 ?_
        refine g_aload_n F 1 dX6_keepTurn_80 rfl ?_
        refine gm_get_27 F dX6_keepTurn_81 ?_
        refine g_iload_n F 0 dX6_keepTurn_84 rfl ?_
        refine gm_ald_27 F (by omega) dX6_keepTurn_85 ?_
        refine g_top (y := iI ((snapF M) j)) rfl ?_
        refine gm_astS_26 F (by omega) dX6_keepTurn_86 ?_
        refine g_iinc F (lv' := [(1, .int (iI (j + 1))), (0, .ref (ma 100))]) 0 dX6_keepTurn_87 rfl (by decide) rfl ?_
        refine g_goto F 61 dX6_keepTurn_90 (by decide) ?_
        refine g_sub F (lv' := [(1, .int (iI (j + 1))), (0, .ref (ma 100))]) [0, 1] rfl ?_
        exact ih61 _ (by omega) (j + 1) (uI g ((74 * (M 28 0)) + j) ((snapF M) j)) rfl (by omega) (by rw [hg, segT_s _ _ _ hj.1])
    refine g_sub F (lv' := [(1, .int (iI 0)), (0, .ref (ma 100))]) [0, 1] rfl ?_
    refine g_ws (ws' := mw κ ma (mA (cst M 27 1 74 (snapF M) M) 26 (M 26))) rfl ?_
    exact L61 _ 0 (M 26) rfl (by omega) (segT_0 _ _ _)
  · skip
    exact absurd trivial (by omega)
theorem k_X6_keepTurn (κ : Kp) (ma : Nat → Nat) (M : MS) (h : 0 ≤ M 28 0 ∧ M 28 0 ≤ 8) : mV κ yX6_keepTurn cX6_keepTurn 2 2 [.ref (ma 100)] (mw κ ma M) (is0 (mw κ ma (kpt M))) := by
  by_cases h8 : M 28 0 = 8
  · exact k_X6_keepTurn_8 κ ma M h8
  · exact k_X6_keepTurn_n κ ma M (by omega)
theorem dX6_layLasts_0 : decode cX6_layLasts 0 = .ok (.iconst 0, 1) := by decide +kernel
theorem dX6_layLasts_1 : decode cX6_layLasts 1 = .ok (.istore_n 1, 1) := by decide +kernel
theorem dX6_layLasts_2 : decode cX6_layLasts 2 = .ok (.iload_n 1, 1) := by decide +kernel
theorem dX6_layLasts_3 : decode cX6_layLasts 3 = .ok (.bipush 12, 2) := by decide +kernel
theorem dX6_layLasts_5 : decode cX6_layLasts 5 = .ok (.if_icmp .ge 17, 3) := by decide +kernel
theorem dX6_layLasts_8 : decode cX6_layLasts 8 = .ok (.aload_n 0, 1) := by decide +kernel
theorem dX6_layLasts_9 : decode cX6_layLasts 9 = .ok (.getfield 61, 3) := by decide +kernel
theorem dX6_layLasts_12 : decode cX6_layLasts 12 = .ok (.iload_n 1, 1) := by decide +kernel
theorem dX6_layLasts_13 : decode cX6_layLasts 13 = .ok (.bipush 61, 2) := by decide +kernel
theorem dX6_layLasts_15 : decode cX6_layLasts 15 = .ok (.iastore, 1) := by decide +kernel
theorem dX6_layLasts_16 : decode cX6_layLasts 16 = .ok (.iinc 1 1, 3) := by decide +kernel
theorem dX6_layLasts_19 : decode cX6_layLasts 19 = .ok (.goto (-17), 3) := by decide +kernel
theorem dX6_layLasts_22 : decode cX6_layLasts 22 = .ok (.iconst 0, 1) := by decide +kernel
theorem dX6_layLasts_23 : decode cX6_layLasts 23 = .ok (.istore_n 1, 1) := by decide +kernel
theorem dX6_layLasts_24 : decode cX6_layLasts 24 = .ok (.iload_n 1, 1) := by decide +kernel
theorem dX6_layLasts_25 : decode cX6_layLasts 25 = .ok (.bipush 60, 2) := by decide +kernel
theorem dX6_layLasts_27 : decode cX6_layLasts 27 = .ok (.if_icmp .gt 62, 3) := by decide +kernel
theorem dX6_layLasts_30 : decode cX6_layLasts 30 = .ok (.iconst 0, 1) := by decide +kernel
theorem dX6_layLasts_31 : decode cX6_layLasts 31 = .ok (.istore_n 2, 1) := by decide +kernel
theorem dX6_layLasts_32 : decode cX6_layLasts 32 = .ok (.iload_n 2, 1) := by decide +kernel
theorem dX6_layLasts_33 : decode cX6_layLasts 33 = .ok (.bipush 12, 2) := by decide +kernel
theorem dX6_layLasts_35 : decode cX6_layLasts 35 = .ok (.if_icmp .ge 44, 3) := by decide +kernel
theorem dX6_layLasts_38 : decode cX6_layLasts 38 = .ok (.aload_n 0, 1) := by decide +kernel
theorem dX6_layLasts_39 : decode cX6_layLasts 39 = .ok (.getfield 61, 3) := by decide +kernel
theorem dX6_layLasts_42 : decode cX6_layLasts 42 = .ok (.iload_n 2, 1) := by decide +kernel
theorem dX6_layLasts_43 : decode cX6_layLasts 43 = .ok (.aload_n 0, 1) := by decide +kernel
theorem dX6_layLasts_44 : decode cX6_layLasts 44 = .ok (.iload_n 2, 1) := by decide +kernel
theorem dX6_layLasts_45 : decode cX6_layLasts 45 = .ok (.invokevirtual 121, 3) := by decide +kernel
theorem dX6_layLasts_48 : decode cX6_layLasts 48 = .ok (.ifCond .eq 18, 3) := by decide +kernel
theorem dX6_layLasts_51 : decode cX6_layLasts 51 = .ok (.aload_n 0, 1) := by decide +kernel
theorem dX6_layLasts_52 : decode cX6_layLasts 52 = .ok (.getfield 61, 3) := by decide +kernel
theorem dX6_layLasts_55 : decode cX6_layLasts 55 = .ok (.iload_n 2, 1) := by decide +kernel
theorem dX6_layLasts_56 : decode cX6_layLasts 56 = .ok (.iaload, 1) := by decide +kernel
theorem dX6_layLasts_57 : decode cX6_layLasts 57 = .ok (.bipush 61, 2) := by decide +kernel
theorem dX6_layLasts_59 : decode cX6_layLasts 59 = .ok (.if_icmp .ne 7, 3) := by decide +kernel
theorem dX6_layLasts_62 : decode cX6_layLasts 62 = .ok (.iload_n 1, 1) := by decide +kernel
theorem dX6_layLasts_63 : decode cX6_layLasts 63 = .ok (.goto 9, 3) := by decide +kernel
theorem dX6_layLasts_66 : decode cX6_layLasts 66 = .ok (.aload_n 0, 1) := by decide +kernel
theorem dX6_layLasts_67 : decode cX6_layLasts 67 = .ok (.getfield 61, 3) := by decide +kernel
theorem dX6_layLasts_70 : decode cX6_layLasts 70 = .ok (.iload_n 2, 1) := by decide +kernel
theorem dX6_layLasts_71 : decode cX6_layLasts 71 = .ok (.iaload, 1) := by decide +kernel
theorem dX6_layLasts_72 : decode cX6_layLasts 72 = .ok (.iastore, 1) := by decide +kernel
theorem dX6_layLasts_73 : decode cX6_layLasts 73 = .ok (.iinc 2 1, 3) := by decide +kernel
theorem dX6_layLasts_76 : decode cX6_layLasts 76 = .ok (.goto (-44), 3) := by decide +kernel
theorem dX6_layLasts_79 : decode cX6_layLasts 79 = .ok (.aload_n 0, 1) := by decide +kernel
theorem dX6_layLasts_80 : decode cX6_layLasts 80 = .ok (.invokevirtual 131, 3) := by decide +kernel
theorem dX6_layLasts_83 : decode cX6_layLasts 83 = .ok (.iinc 1 1, 3) := by decide +kernel
theorem dX6_layLasts_86 : decode cX6_layLasts 86 = .ok (.goto (-62), 3) := by decide +kernel
theorem dX6_layLasts_89 : decode cX6_layLasts 89 = .ok (.return_, 1) := by decide +kernel
set_option maxRecDepth 100000 in
set_option maxHeartbeats 4000000 in
theorem k_X6_layLasts (κ : Kp) (ma : Nat → Nat) (M : MS)  (hy : M 4 0 ≤ 990000) (ok : okC (cl M)) : mV κ yX6_layLasts cX6_layLasts 3 4 [.ref (ma 100)] (mw κ ma M) (is0 (mw κ ma (mA (stC M (goI 61 (cl M))) 29 (lasts (cl M))))) := by
  refine mV_of (by decide) (Nat.le_of_ble_eq_true rfl) (fun E F K => ?_)
  refine g_lv (lv' := [(0, .ref (ma 100))]) rfl ?_
  refine g_iconst F dX6_layLasts_0 ?_
  refine g_istore_n F (lv' := [(1, .int (iI 0)), (0, .ref (ma 100))]) 1 dX6_layLasts_1 rfl (by decide) rfl ?_
  have L2 : ∀ (mz2 : Nat) (i : Int) (f : Int → Int), (12 - i).toNat = mz2 → (0 ≤ i ∧ i ≤ 12) → (f = upTo (M 29) (lsI (cl M) 0) i) → G E (mw κ ma (mA M 29 f)) [(1, .int (iI i)), (0, .ref (ma 100))] 2 [] := by
    intro mz2
    induction mz2 using Nat.strongRecOn with
    | _ mz2 ih2 =>
    intro i f hmz2 hi hf
    refine g_iload_n F 0 dX6_layLasts_2 rfl ?_
    refine g_bipush F dX6_layLasts_3 (by decide +kernel) ?_
    refine g_icmp_ge F 22 (by omega) dX6_layLasts_5 (by decide) (fun c5 => ?_) (fun c5 => ?_)
    · skip
      refine g_iconst F dX6_layLasts_22 ?_
      refine g_istore_n F (lv' := [(1, .int (iI 0)), (0, .ref (ma 100))]) 1 dX6_layLasts_23 rfl (by decide) rfl ?_
      have L24 : ∀ (mz24 : Nat) (y : Int) (g : Int → Int), (61 - y).toNat = mz24 → (0 ≤ y ∧ y ≤ 61) → (g = upTo (M 29) (lsI (cl M) y) 12) → G E (mw κ ma (mA (stC M (goI y (cl M))) 29 g)) [(1, .int (iI y)), (0, .ref (ma 100))] 24 [] := by
        intro mz24
        induction mz24 using Nat.strongRecOn with
        | _ mz24 ih24 =>
        intro y g hmz24 hy2 hg
        refine g_iload_n F 0 dX6_layLasts_24 rfl ?_
        refine g_bipush F dX6_layLasts_25 (by decide +kernel) ?_
        refine g_icmp_gt F 89 (by omega) dX6_layLasts_27 (by decide) (fun c27 => ?_) (fun c27 => ?_)
        · skip
          refine gm_weq_29 (g := lasts (cl M)) (fun j a b => by rw [hg, show y = 61 by omega]; exact upTo_in a b) ?_
          exact K mw_same (by rw [show y = 61 by omega]) dX6_layLasts_89
        · skip
          refine g_iconst F dX6_layLasts_30 ?_
          refine g_istore_n F (lv' := [(2, .int (iI 0)), (1, .int (iI y)), (0, .ref (ma 100))]) 2 dX6_layLasts_31 rfl (by decide) rfl ?_
          have L32 : ∀ (mz32 : Nat) (c : Int) (h : Int → Int), (12 - c).toNat = mz32 → (0 ≤ c ∧ c ≤ 12) → (h = upTo g (lsI (cl M) (y + 1)) c) → G E (mw κ ma (mA (stC M (goI y (cl M))) 29 h)) [(2, .int (iI c)), (1, .int (iI y)), (0, .ref (ma 100))] 32 [] := by
            intro mz32
            induction mz32 using Nat.strongRecOn with
            | _ mz32 ih32 =>
            intro c h hmz32 hc hh
            refine g_iload_n F 0 dX6_layLasts_32 rfl ?_
            refine g_bipush F dX6_layLasts_33 (by decide +kernel) ?_
            refine g_icmp_ge F 79 (by omega) dX6_layLasts_35 (by decide) (fun c35 => ?_) (fun c35 => ?_)
            · skip
              refine g_aload_n F 2 dX6_layLasts_79 rfl ?_
              refine g_callV F (stk := [.ref (ma 100)]) (st := []) (k_X6_yearOn κ ma (mA (stC M (goI y (cl M))) 29 h) (goI_yrM hy2.1 (by omega)) (goI_ok ok y)) cal_X6_yearOn lm_X6_131 0 rfl rfl rfl rfl (by decide) rfl (Nat.le_of_ble_eq_true rfl) dX6_layLasts_80 (fun ws80 _ hr80 => ?_)
              obtain rfl := hr80
              refine g_ws (ws' := mw κ ma (stC (mA (stC M (goI y (cl M))) 29 h) (yearOn (cl (mA (stC M (goI y (cl M))) 29 h))))) rfl ?_
              refine g_iinc F (lv' := [(1, .int (iI (y + 1))), (2, .int (iI c)), (0, .ref (ma 100))]) 1 dX6_layLasts_83 rfl (by decide) rfl ?_
              refine g_goto F 24 dX6_layLasts_86 (by decide) ?_
              refine g_sub F (lv' := [(1, .int (iI (y + 1))), (0, .ref (ma 100))]) [0, 2] rfl ?_
              refine g_ws (ws' := mw κ ma (mA (stC M (goI (y + 1) (cl M))) 29 h)) (by rw [goI_s hy2.1]; rfl) ?_
              exact ih24 _ (by omega) (y + 1) h rfl (by omega) (by rw [hh, show c = 12 by omega, hg, upTo_upTo])
            · skip
              refine g_aload_n F 2 dX6_layLasts_38 rfl ?_
              refine gm_get_29 F dX6_layLasts_39 ?_
              refine g_iload_n F 0 dX6_layLasts_42 rfl ?_
              refine g_aload_n F 2 dX6_layLasts_43 rfl ?_
              refine g_iload_n F 0 dX6_layLasts_44 rfl ?_
              refine g_callI F (stk := [.int (iI c), .ref (ma 100), .int (iI c), .ref (ma 29)]) (st := [.int (iI c), .ref (ma 29)]) (k_X6_isHole κ ma (mA (stC M (goI y (cl M))) 29 h) c (by omega) (goI_ok ok y)) cal_X6_isHole lm_X6_121 0 rfl rfl rfl rfl (by decide) rfl (Nat.le_of_ble_eq_true rfl) dX6_layLasts_45 (fun r45 ws45 _ hr45 => ?_)
              obtain ⟨rfl, rfl⟩ := hr45
              refine g_if_eq F 66 (b2i_in _) dX6_layLasts_48 (by decide) (fun c48 => ?_) (fun c48 => ?_)
              · skip
                have c48 : ¬ (hole (cl (mA (stC M (goI y (cl M))) 29 h)) c) := b2i_f c48
                have c48 : ¬ hole (goI y (cl M)) c := c48
                refine g_aload_n F 2 dX6_layLasts_66 rfl ?_
                refine gm_get_29 F dX6_layLasts_67 ?_
                refine g_iload_n F 0 dX6_layLasts_70 rfl ?_
                refine gm_ald_29 F (by omega) dX6_layLasts_71 ?_
                refine g_top (y := iI (h c)) rfl ?_
                refine g_top (y := iI (lsI (cl M) y c)) (iIc (by rw [hh, upTo_out (by omega), hg]; exact upTo_in (by omega) (by omega))) ?_
                refine gm_astS_29 F (by omega) dX6_layLasts_72 ?_
                refine g_iinc F (lv' := [(2, .int (iI (c + 1))), (1, .int (iI y)), (0, .ref (ma 100))]) 0 dX6_layLasts_73 rfl (by decide) rfl ?_
                refine g_goto F 32 dX6_layLasts_76 (by decide) ?_
                refine g_sub F (lv' := [(2, .int (iI (c + 1))), (1, .int (iI y)), (0, .ref (ma 100))]) [0, 1, 2] rfl ?_
                exact ih32 _ (by omega) (c + 1) (uI h c (lsI (cl M) y c)) rfl (by omega) (by rw [hh, ← upTo_s _ _ hc.1]; congr 1; rw [lsI_s _ hy2.1]; split <;> omega)
              · skip
                have c48 : hole (cl (mA (stC M (goI y (cl M))) 29 h)) c := b2i_t c48
                have c48 : hole (goI y (cl M)) c := c48
                refine g_aload_n F 2 dX6_layLasts_51 rfl ?_
                refine gm_get_29 F dX6_layLasts_52 ?_
                refine g_iload_n F 0 dX6_layLasts_55 rfl ?_
                refine gm_ald_29 F (by omega) dX6_layLasts_56 ?_
                refine g_top (y := iI (h c)) rfl ?_
                refine g_top (y := iI (lsI (cl M) y c)) (iIc (by rw [hh, upTo_out (by omega), hg]; exact upTo_in (by omega) (by omega))) ?_
                have hls := lsI_bd (cl M) hy2.1 hy2.2 c
                refine g_bipush F dX6_layLasts_57 (by decide +kernel) ?_
                refine g_icmp_ne F 66 (by omega) dX6_layLasts_59 (by decide) (fun c59 => ?_) (fun c59 => ?_)
                · skip
                  refine g_aload_n F 2 dX6_layLasts_66 rfl ?_
                  refine gm_get_29 F dX6_layLasts_67 ?_
                  refine g_iload_n F 0 dX6_layLasts_70 rfl ?_
                  refine gm_ald_29 F (by omega) dX6_layLasts_71 ?_
                  refine g_top (y := iI (h c)) rfl ?_
                  refine g_top (y := iI (lsI (cl M) y c)) (iIc (by rw [hh, upTo_out (by omega), hg]; exact upTo_in (by omega) (by omega))) ?_
                  refine gm_astS_29 F (by omega) dX6_layLasts_72 ?_
                  refine g_iinc F (lv' := [(2, .int (iI (c + 1))), (1, .int (iI y)), (0, .ref (ma 100))]) 0 dX6_layLasts_73 rfl (by decide) rfl ?_
                  refine g_goto F 32 dX6_layLasts_76 (by decide) ?_
                  refine g_sub F (lv' := [(2, .int (iI (c + 1))), (1, .int (iI y)), (0, .ref (ma 100))]) [0, 1, 2] rfl ?_
                  exact ih32 _ (by omega) (c + 1) (uI h c (lsI (cl M) y c)) rfl (by omega) (by rw [hh, ← upTo_s _ _ hc.1]; congr 1; rw [lsI_s _ hy2.1]; split <;> omega)
                · skip
                  refine g_iload_n F 1 dX6_layLasts_62 rfl ?_
                  refine g_goto F 72 dX6_layLasts_63 (by decide) ?_
                  refine gm_astS_29 F (by omega) dX6_layLasts_72 ?_
                  refine g_iinc F (lv' := [(2, .int (iI (c + 1))), (1, .int (iI y)), (0, .ref (ma 100))]) 0 dX6_layLasts_73 rfl (by decide) rfl ?_
                  refine g_goto F 32 dX6_layLasts_76 (by decide) ?_
                  refine g_sub F (lv' := [(2, .int (iI (c + 1))), (1, .int (iI y)), (0, .ref (ma 100))]) [0, 1, 2] rfl ?_
                  exact ih32 _ (by omega) (c + 1) (uI h c y) rfl (by omega) (by rw [hh, ← upTo_s _ _ hc.1]; congr 1; rw [lsI_s _ hy2.1]; split <;> omega)
          refine g_sub F (lv' := [(2, .int (iI 0)), (1, .int (iI y)), (0, .ref (ma 100))]) [0, 1, 2] rfl ?_
          exact L32 _ 0 g rfl (by omega) (upTo_0 _ _).symm
      refine g_sub F (lv' := [(1, .int (iI 0)), (0, .ref (ma 100))]) [0, 1] rfl ?_
      refine g_ws (ws' := mw κ ma (mA (stC M (goI 0 (cl M))) 29 f)) rfl ?_
      exact L24 _ 0 f rfl (by omega) (by rw [hf, show i = 12 by omega])
    · skip
      refine g_aload_n F 1 dX6_layLasts_8 rfl ?_
      refine gm_get_29 F dX6_layLasts_9 ?_
      refine g_iload_n F 0 dX6_layLasts_12 rfl ?_
      refine g_bipush F dX6_layLasts_13 (by decide +kernel) ?_
      refine gm_astS_29 F (by omega) dX6_layLasts_15 ?_
      refine g_iinc F (lv' := [(1, .int (iI (i + 1))), (0, .ref (ma 100))]) 0 dX6_layLasts_16 rfl (by decide) rfl ?_
      refine g_goto F 2 dX6_layLasts_19 (by decide) ?_
      refine g_sub F (lv' := [(1, .int (iI (i + 1))), (0, .ref (ma 100))]) [0, 1] rfl ?_
      exact ih2 _ (by omega) (i + 1) (uI f i 61) rfl (by omega) (by rw [hf, ← upTo_s _ _ hi.1]; rfl)
  refine g_sub F (lv' := [(1, .int (iI 0)), (0, .ref (ma 100))]) [0, 1] rfl ?_
  refine g_ws (ws' := mw κ ma (mA M 29 (M 29))) rfl ?_
  exact L2 _ 0 (M 29) rfl (by omega) (upTo_0 _ _).symm
theorem dX6_firstOf_0 : decode cX6_firstOf 0 = .ok (.iconst 0, 1) := by decide +kernel
theorem dX6_firstOf_1 : decode cX6_firstOf 1 = .ok (.istore_n 1, 1) := by decide +kernel
theorem dX6_firstOf_2 : decode cX6_firstOf 2 = .ok (.iconst 1, 1) := by decide +kernel
theorem dX6_firstOf_3 : decode cX6_firstOf 3 = .ok (.istore_n 2, 1) := by decide +kernel
theorem dX6_firstOf_4 : decode cX6_firstOf 4 = .ok (.iload_n 2, 1) := by decide +kernel
theorem dX6_firstOf_5 : decode cX6_firstOf 5 = .ok (.bipush 12, 2) := by decide +kernel
theorem dX6_firstOf_7 : decode cX6_firstOf 7 = .ok (.if_icmp .ge 30, 3) := by decide +kernel
theorem dX6_firstOf_10 : decode cX6_firstOf 10 = .ok (.aload_n 0, 1) := by decide +kernel
theorem dX6_firstOf_11 : decode cX6_firstOf 11 = .ok (.getfield 61, 3) := by decide +kernel
theorem dX6_firstOf_14 : decode cX6_firstOf 14 = .ok (.iload_n 2, 1) := by decide +kernel
theorem dX6_firstOf_15 : decode cX6_firstOf 15 = .ok (.iaload, 1) := by decide +kernel
theorem dX6_firstOf_16 : decode cX6_firstOf 16 = .ok (.aload_n 0, 1) := by decide +kernel
theorem dX6_firstOf_17 : decode cX6_firstOf 17 = .ok (.getfield 61, 3) := by decide +kernel
theorem dX6_firstOf_20 : decode cX6_firstOf 20 = .ok (.iload_n 1, 1) := by decide +kernel
theorem dX6_firstOf_21 : decode cX6_firstOf 21 = .ok (.iaload, 1) := by decide +kernel
theorem dX6_firstOf_22 : decode cX6_firstOf 22 = .ok (.if_icmp .ge 7, 3) := by decide +kernel
theorem dX6_firstOf_25 : decode cX6_firstOf 25 = .ok (.iload_n 2, 1) := by decide +kernel
theorem dX6_firstOf_26 : decode cX6_firstOf 26 = .ok (.goto 4, 3) := by decide +kernel
theorem dX6_firstOf_29 : decode cX6_firstOf 29 = .ok (.iload_n 1, 1) := by decide +kernel
theorem dX6_firstOf_30 : decode cX6_firstOf 30 = .ok (.istore_n 1, 1) := by decide +kernel
theorem dX6_firstOf_31 : decode cX6_firstOf 31 = .ok (.iinc 2 1, 3) := by decide +kernel
theorem dX6_firstOf_34 : decode cX6_firstOf 34 = .ok (.goto (-30), 3) := by decide +kernel
theorem dX6_firstOf_37 : decode cX6_firstOf 37 = .ok (.iload_n 1, 1) := by decide +kernel
theorem dX6_firstOf_38 : decode cX6_firstOf 38 = .ok (.ireturn, 1) := by decide +kernel
set_option maxRecDepth 100000 in
set_option maxHeartbeats 4000000 in
theorem k_X6_firstOf (κ : Kp) (ma : Nat → Nat) (M : MS)  (hr : ∀ j : Int, 0 ≤ j → j < 12 → 0 ≤ M 29 j ∧ M 29 j ≤ 61) : mI κ yX6_firstOf cX6_firstOf 3 .int 0 [.ref (ma 100)] (mw κ ma M) (is1 (iI (amin (M 29) 12)) (mw κ ma M)) := by
  refine mI_of (by decide) (Nat.le_of_ble_eq_true rfl) (fun E F K => ?_)
  refine g_lv (lv' := [(0, .ref (ma 100))]) rfl ?_
  refine g_iconst F dX6_firstOf_0 ?_
  refine g_istore_n F (lv' := [(1, .int (iI 0)), (0, .ref (ma 100))]) 1 dX6_firstOf_1 rfl (by decide) rfl ?_
  refine g_iconst F dX6_firstOf_2 ?_
  refine g_istore_n F (lv' := [(2, .int (iI 1)), (1, .int (iI 0)), (0, .ref (ma 100))]) 2 dX6_firstOf_3 rfl (by decide) rfl ?_
  have L4 : ∀ (mz4 : Nat) (b : Int) (c : Int), (12 - c).toNat = mz4 → (1 ≤ c ∧ c ≤ 12) → (b = amin (M 29) c) → G E (mw κ ma M) [(2, .int (iI c)), (1, .int (iI b)), (0, .ref (ma 100))] 4 [] := by
    intro mz4
    induction mz4 using Nat.strongRecOn with
    | _ mz4 ih4 =>
    intro b c hmz4 hc hb
    refine g_iload_n F 0 dX6_firstOf_4 rfl ?_
    refine g_bipush F dX6_firstOf_5 (by decide +kernel) ?_
    refine g_icmp_ge F 37 (by omega) dX6_firstOf_7 (by decide) (fun c7 => ?_) (fun c7 => ?_)
    · skip
      refine g_iload_n F 1 dX6_firstOf_37 rfl ?_
      exact K mw_same ⟨congrArg iI (show b = amin (M 29) 12 from by rw [hb, show c = 12 by omega]), rfl⟩ rfl dX6_firstOf_38
    · skip
      have hbi : 0 ≤ b ∧ b < c := by rw [hb]; exact amin_in _ hc.1
      have hr1 := hr c (by omega) (by omega)
      have hr2 := hr b (by omega) (by omega)
      refine g_aload_n F 2 dX6_firstOf_10 rfl ?_
      refine gm_get_29 F dX6_firstOf_11 ?_
      refine g_iload_n F 0 dX6_firstOf_14 rfl ?_
      refine gm_ald_29 F (by omega) dX6_firstOf_15 ?_
      refine g_aload_n F 2 dX6_firstOf_16 rfl ?_
      refine gm_get_29 F dX6_firstOf_17 ?_
      refine g_iload_n F 1 dX6_firstOf_20 rfl ?_
      refine gm_ald_29 F (by omega) dX6_firstOf_21 ?_
      refine g_icmp_ge F 29 (by omega) dX6_firstOf_22 (by decide) (fun c22 => ?_) (fun c22 => ?_)
      · skip
        refine g_iload_n F 1 dX6_firstOf_29 rfl ?_
        refine g_istore_n F (lv' := [(1, .int (iI b)), (2, .int (iI c)), (0, .ref (ma 100))]) 1 dX6_firstOf_30 rfl (by decide) rfl ?_
        refine g_iinc F (lv' := [(2, .int (iI (c + 1))), (1, .int (iI b)), (0, .ref (ma 100))]) 1 dX6_firstOf_31 rfl (by decide) rfl ?_
        refine g_goto F 4 dX6_firstOf_34 (by decide) ?_
        refine g_sub F (lv' := [(2, .int (iI (c + 1))), (1, .int (iI b)), (0, .ref (ma 100))]) [0, 1, 2] rfl ?_
        exact ih4 _ (by omega) b (c + 1) rfl (by omega) (by rw [amin_s _ (by omega), ← hb]; split <;> omega)
      · skip
        refine g_iload_n F 0 dX6_firstOf_25 rfl ?_
        refine g_goto F 30 dX6_firstOf_26 (by decide) ?_
        refine g_istore_n F (lv' := [(1, .int (iI c)), (2, .int (iI c)), (0, .ref (ma 100))]) 1 dX6_firstOf_30 rfl (by decide) rfl ?_
        refine g_iinc F (lv' := [(2, .int (iI (c + 1))), (1, .int (iI c)), (0, .ref (ma 100))]) 1 dX6_firstOf_31 rfl (by decide) rfl ?_
        refine g_goto F 4 dX6_firstOf_34 (by decide) ?_
        refine g_sub F (lv' := [(2, .int (iI (c + 1))), (1, .int (iI c)), (0, .ref (ma 100))]) [0, 1, 2] rfl ?_
        exact ih4 _ (by omega) c (c + 1) rfl (by omega) (by rw [amin_s _ (by omega), ← hb]; split <;> omega)
  refine g_sub F (lv' := [(2, .int (iI 1)), (1, .int (iI 0)), (0, .ref (ma 100))]) [0, 1, 2] rfl ?_
  exact L4 _ 0 1 rfl (by omega) (amin_1 _).symm
theorem dX6_freeBits_0 : decode cX6_freeBits 0 = .ok (.iconst 0, 1) := by decide +kernel
theorem dX6_freeBits_1 : decode cX6_freeBits 1 = .ok (.istore_n 1, 1) := by decide +kernel
theorem dX6_freeBits_2 : decode cX6_freeBits 2 = .ok (.iconst 0, 1) := by decide +kernel
theorem dX6_freeBits_3 : decode cX6_freeBits 3 = .ok (.istore_n 2, 1) := by decide +kernel
theorem dX6_freeBits_4 : decode cX6_freeBits 4 = .ok (.iload_n 2, 1) := by decide +kernel
theorem dX6_freeBits_5 : decode cX6_freeBits 5 = .ok (.aload_n 0, 1) := by decide +kernel
theorem dX6_freeBits_6 : decode cX6_freeBits 6 = .ok (.getfield 101, 3) := by decide +kernel
theorem dX6_freeBits_9 : decode cX6_freeBits 9 = .ok (.if_icmp .ge 28, 3) := by decide +kernel
theorem dX6_freeBits_12 : decode cX6_freeBits 12 = .ok (.iload_n 1, 1) := by decide +kernel
theorem dX6_freeBits_13 : decode cX6_freeBits 13 = .ok (.aload_n 0, 1) := by decide +kernel
theorem dX6_freeBits_14 : decode cX6_freeBits 14 = .ok (.getfield 31, 3) := by decide +kernel
theorem dX6_freeBits_17 : decode cX6_freeBits 17 = .ok (.iload_n 2, 1) := by decide +kernel
theorem dX6_freeBits_18 : decode cX6_freeBits 18 = .ok (.iaload, 1) := by decide +kernel
theorem dX6_freeBits_19 : decode cX6_freeBits 19 = .ok (.ifCond .ne 9, 3) := by decide +kernel
theorem dX6_freeBits_22 : decode cX6_freeBits 22 = .ok (.iconst 1, 1) := by decide +kernel
theorem dX6_freeBits_23 : decode cX6_freeBits 23 = .ok (.iload_n 2, 1) := by decide +kernel
theorem dX6_freeBits_24 : decode cX6_freeBits 24 = .ok (.ishl, 1) := by decide +kernel
theorem dX6_freeBits_25 : decode cX6_freeBits 25 = .ok (.goto 4, 3) := by decide +kernel
theorem dX6_freeBits_28 : decode cX6_freeBits 28 = .ok (.iconst 0, 1) := by decide +kernel
theorem dX6_freeBits_29 : decode cX6_freeBits 29 = .ok (.ior, 1) := by decide +kernel
theorem dX6_freeBits_30 : decode cX6_freeBits 30 = .ok (.istore_n 1, 1) := by decide +kernel
theorem dX6_freeBits_31 : decode cX6_freeBits 31 = .ok (.iinc 2 1, 3) := by decide +kernel
theorem dX6_freeBits_34 : decode cX6_freeBits 34 = .ok (.goto (-30), 3) := by decide +kernel
theorem dX6_freeBits_37 : decode cX6_freeBits 37 = .ok (.iload_n 1, 1) := by decide +kernel
theorem dX6_freeBits_38 : decode cX6_freeBits 38 = .ok (.ireturn, 1) := by decide +kernel
set_option maxRecDepth 100000 in
set_option maxHeartbeats 4000000 in
theorem k_X6_freeBits (κ : Kp) (ma : Nat → Nat) (M : MS)  (okr : okR M) : mI κ yX6_freeBits cX6_freeBits 3 .int 0 [.ref (ma 100)] (mw κ ma M) (is1 (iI (fbits (M 9) (M 5 0))) (mw κ ma M)) := by
  refine mI_of (by decide) (Nat.le_of_ble_eq_true rfl) (fun E F K => ?_)
  refine g_lv (lv' := [(0, .ref (ma 100))]) rfl ?_
  have hn := okr.1
  refine g_iconst F dX6_freeBits_0 ?_
  refine g_istore_n F (lv' := [(1, .int (iI 0)), (0, .ref (ma 100))]) 1 dX6_freeBits_1 rfl (by decide) rfl ?_
  refine g_iconst F dX6_freeBits_2 ?_
  refine g_istore_n F (lv' := [(2, .int (iI 0)), (1, .int (iI 0)), (0, .ref (ma 100))]) 2 dX6_freeBits_3 rfl (by decide) rfl ?_
  have L4 : ∀ (mz4 : Nat) (p : Int) (b : Int), (M 5 0 - p).toNat = mz4 → (0 ≤ p ∧ p ≤ M 5 0) → (b = fbits (M 9) p) → G E (mw κ ma M) [(2, .int (iI p)), (1, .int (iI b)), (0, .ref (ma 100))] 4 [] := by
    intro mz4
    induction mz4 using Nat.strongRecOn with
    | _ mz4 ih4 =>
    intro p b hmz4 hp hb
    refine g_iload_n F 0 dX6_freeBits_4 rfl ?_
    refine g_aload_n F 2 dX6_freeBits_5 rfl ?_
    refine gm_get_5 F dX6_freeBits_6 ?_
    refine g_icmp_ge F 37 (by omega) dX6_freeBits_9 (by decide) (fun c9 => ?_) (fun c9 => ?_)
    · skip
      refine g_iload_n F 1 dX6_freeBits_37 rfl ?_
      exact K mw_same ⟨congrArg iI (show b = fbits (M 9) (M 5 0) from by rw [hb, show p = M 5 0 by omega]), rfl⟩ rfl dX6_freeBits_38
    · skip
      have hbb : 0 ≤ b ∧ b < p2 p := by rw [hb]; exact fbits_bd _ hp.1
      have hrp : (0 ≤ M 6 p ∧ M 6 p ≤ 5) ∧ (0 ≤ M 7 p ∧ M 7 p ≤ 9) ∧ (0 ≤ M 8 p ∧ M 8 p ≤ 99) ∧ 0 ≤ M 9 p ∧ M 9 p ≤ 1 := okr.2 p (by omega) (by omega)
      refine g_iload_n F 1 dX6_freeBits_12 rfl ?_
      refine g_aload_n F 2 dX6_freeBits_13 rfl ?_
      refine gm_get_9 F dX6_freeBits_14 ?_
      refine g_iload_n F 0 dX6_freeBits_17 rfl ?_
      refine gm_ald_9 F (by omega) dX6_freeBits_18 ?_
      refine g_if_ne F 28 (by omega) dX6_freeBits_19 (by decide) (fun c19 => ?_) (fun c19 => ?_)
      · skip
        refine g_iconst F dX6_freeBits_28 ?_
        refine g_ior F dX6_freeBits_29 ?_
        refine g_top (y := iI b) (by rw [iI_bor hbb.1 (by decide), bor_0 hbb.1]) ?_
        refine g_istore_n F (lv' := [(1, .int (iI b)), (2, .int (iI p)), (0, .ref (ma 100))]) 1 dX6_freeBits_30 rfl (by decide) rfl ?_
        refine g_iinc F (lv' := [(2, .int (iI (p + 1))), (1, .int (iI b)), (0, .ref (ma 100))]) 1 dX6_freeBits_31 rfl (by decide) rfl ?_
        refine g_goto F 4 dX6_freeBits_34 (by decide) ?_
        refine g_sub F (lv' := [(2, .int (iI (p + 1))), (1, .int (iI b)), (0, .ref (ma 100))]) [0, 1, 2] rfl ?_
        exact ih4 _ (by omega) (p + 1) b rfl (by omega) (by rw [fbits, sumI_s _ hp.1, ← fbits, ← hb]; unfold fbf; first | rw [if_pos c19] | (rw [if_neg c19]; omega))
      · skip
        refine g_iconst F dX6_freeBits_22 ?_
        refine g_iload_n F 0 dX6_freeBits_23 rfl ?_
        refine g_ishl F dX6_freeBits_24 ?_
        refine g_top (y := iI (p2 p)) (iI_shl1 (by omega) (by omega)) ?_
        refine g_goto F 29 dX6_freeBits_25 (by decide) ?_
        refine g_ior F dX6_freeBits_29 ?_
        refine g_top (y := iI (b + p2 p)) (by rw [iI_bor hbb.1 (by have := p2_pos p; omega), bor_p2 hbb.1 hbb.2]) ?_
        refine g_istore_n F (lv' := [(1, .int (iI (b + p2 p))), (2, .int (iI p)), (0, .ref (ma 100))]) 1 dX6_freeBits_30 rfl (by decide) rfl ?_
        refine g_iinc F (lv' := [(2, .int (iI (p + 1))), (1, .int (iI (b + p2 p))), (0, .ref (ma 100))]) 1 dX6_freeBits_31 rfl (by decide) rfl ?_
        refine g_goto F 4 dX6_freeBits_34 (by decide) ?_
        refine g_sub F (lv' := [(2, .int (iI (p + 1))), (1, .int (iI (b + p2 p))), (0, .ref (ma 100))]) [0, 1, 2] rfl ?_
        exact ih4 _ (by omega) (p + 1) (b + p2 p) rfl (by omega) (by rw [fbits, sumI_s _ hp.1, ← fbits, ← hb]; unfold fbf; first | rw [if_pos c19] | (rw [if_neg c19]; omega))
  refine g_sub F (lv' := [(2, .int (iI 0)), (1, .int (iI 0)), (0, .ref (ma 100))]) [0, 1, 2] rfl ?_
  exact L4 _ 0 0 rfl (by omega) (sumI_0 _).symm
theorem dX6_layFree_0 : decode cX6_layFree 0 = .ok (.aload_n 0, 1) := by decide +kernel
theorem dX6_layFree_1 : decode cX6_layFree 1 = .ok (.iconst 0, 1) := by decide +kernel
theorem dX6_layFree_2 : decode cX6_layFree 2 = .ok (.putfield 264, 3) := by decide +kernel
theorem dX6_layFree_5 : decode cX6_layFree 5 = .ok (.iconst 0, 1) := by decide +kernel
theorem dX6_layFree_6 : decode cX6_layFree 6 = .ok (.istore_n 1, 1) := by decide +kernel
theorem dX6_layFree_7 : decode cX6_layFree 7 = .ok (.iload_n 1, 1) := by decide +kernel
theorem dX6_layFree_8 : decode cX6_layFree 8 = .ok (.aload_n 0, 1) := by decide +kernel
theorem dX6_layFree_9 : decode cX6_layFree 9 = .ok (.getfield 101, 3) := by decide +kernel
theorem dX6_layFree_12 : decode cX6_layFree 12 = .ok (.if_icmp .ge 38, 3) := by decide +kernel
theorem dX6_layFree_15 : decode cX6_layFree 15 = .ok (.aload_n 0, 1) := by decide +kernel
theorem dX6_layFree_16 : decode cX6_layFree 16 = .ok (.getfield 31, 3) := by decide +kernel
theorem dX6_layFree_19 : decode cX6_layFree 19 = .ok (.iload_n 1, 1) := by decide +kernel
theorem dX6_layFree_20 : decode cX6_layFree 20 = .ok (.iaload, 1) := by decide +kernel
theorem dX6_layFree_21 : decode cX6_layFree 21 = .ok (.ifCond .ne 23, 3) := by decide +kernel
theorem dX6_layFree_24 : decode cX6_layFree 24 = .ok (.aload_n 0, 1) := by decide +kernel
theorem dX6_layFree_25 : decode cX6_layFree 25 = .ok (.getfield 64, 3) := by decide +kernel
theorem dX6_layFree_28 : decode cX6_layFree 28 = .ok (.aload_n 0, 1) := by decide +kernel
theorem dX6_layFree_29 : decode cX6_layFree 29 = .ok (.getfield 264, 3) := by decide +kernel
theorem dX6_layFree_32 : decode cX6_layFree 32 = .ok (.iload_n 1, 1) := by decide +kernel
theorem dX6_layFree_33 : decode cX6_layFree 33 = .ok (.iastore, 1) := by decide +kernel
theorem dX6_layFree_34 : decode cX6_layFree 34 = .ok (.aload_n 0, 1) := by decide +kernel
theorem dX6_layFree_35 : decode cX6_layFree 35 = .ok (.dup, 1) := by decide +kernel
theorem dX6_layFree_36 : decode cX6_layFree 36 = .ok (.getfield 264, 3) := by decide +kernel
theorem dX6_layFree_39 : decode cX6_layFree 39 = .ok (.iconst 1, 1) := by decide +kernel
theorem dX6_layFree_40 : decode cX6_layFree 40 = .ok (.iadd, 1) := by decide +kernel
theorem dX6_layFree_41 : decode cX6_layFree 41 = .ok (.putfield 264, 3) := by decide +kernel
theorem dX6_layFree_44 : decode cX6_layFree 44 = .ok (.iinc 1 1, 3) := by decide +kernel
theorem dX6_layFree_47 : decode cX6_layFree 47 = .ok (.goto (-40), 3) := by decide +kernel
theorem dX6_layFree_50 : decode cX6_layFree 50 = .ok (.return_, 1) := by decide +kernel
set_option maxRecDepth 100000 in
set_option maxHeartbeats 4000000 in
theorem k_X6_layFree (κ : Kp) (ma : Nat → Nat) (M : MS)  (okr : okR M) : mV κ yX6_layFree cX6_layFree 2 0 [.ref (ma 100)] (mw κ ma M) (is0 (mw κ ma (mA (mA M 31 (fun _ => frc (M 9) (M 5 0))) 30 (flA (M 30) (M 9) (M 5 0))))) := by
  refine mV_of (by decide) (Nat.le_of_ble_eq_true rfl) (fun E F K => ?_)
  refine g_lv (lv' := [(0, .ref (ma 100))]) rfl ?_
  have hn := okr.1
  refine g_aload_n F 0 dX6_layFree_0 rfl ?_
  refine g_iconst F dX6_layFree_1 ?_
  refine gm_put_31 F dX6_layFree_2 ?_
  refine g_iconst F dX6_layFree_5 ?_
  refine g_istore_n F (lv' := [(1, .int (iI 0)), (0, .ref (ma 100))]) 1 dX6_layFree_6 rfl (by decide) rfl ?_
  have L7 : ∀ (mz7 : Nat) (p : Int) (m : Int) (f : Int → Int), (M 5 0 - p).toNat = mz7 → (0 ≤ p ∧ p ≤ M 5 0) → (m = frc (M 9) p) → (f = flA (M 30) (M 9) p) → G E (mw κ ma (mA (mA M 31 (fun _ => m)) 30 f)) [(1, .int (iI p)), (0, .ref (ma 100))] 7 [] := by
    intro mz7
    induction mz7 using Nat.strongRecOn with
    | _ mz7 ih7 =>
    intro p m f hmz7 hp hm hf
    refine g_iload_n F 0 dX6_layFree_7 rfl ?_
    refine g_aload_n F 1 dX6_layFree_8 rfl ?_
    refine gm_get_5 F dX6_layFree_9 ?_
    refine g_top (y := iI (M 5 0)) rfl ?_
    refine g_icmp_ge F 50 (by omega) dX6_layFree_12 (by decide) (fun c12 => ?_) (fun c12 => ?_)
    · skip
      exact K mw_same (by rw [hm, hf, show p = M 5 0 by omega]) dX6_layFree_50
    · skip
      have hmb : 0 ≤ m ∧ m ≤ p := by rw [hm]; exact frc_bd _ hp.1
      have hrp : (0 ≤ M 6 p ∧ M 6 p ≤ 5) ∧ (0 ≤ M 7 p ∧ M 7 p ≤ 9) ∧ (0 ≤ M 8 p ∧ M 8 p ≤ 99) ∧ 0 ≤ M 9 p ∧ M 9 p ≤ 1 := okr.2 p (by omega) (by omega)
      refine g_aload_n F 1 dX6_layFree_15 rfl ?_
      refine gm_get_9 F dX6_layFree_16 ?_
      refine g_iload_n F 0 dX6_layFree_19 rfl ?_
      refine gm_ald_9 F (by omega) dX6_layFree_20 ?_
      refine g_top (y := iI (M 9 p)) rfl ?_
      refine g_if_ne F 44 (by omega) dX6_layFree_21 (by decide) (fun c21 => ?_) (fun c21 => ?_)
      · skip
        refine g_iinc F (lv' := [(1, .int (iI (p + 1))), (0, .ref (ma 100))]) 0 dX6_layFree_44 rfl (by decide) rfl ?_
        refine g_goto F 7 dX6_layFree_47 (by decide) ?_
        refine g_sub F (lv' := [(1, .int (iI (p + 1))), (0, .ref (ma 100))]) [0, 1] rfl ?_
        exact ih7 _ (by omega) (p + 1) m f rfl (by omega) (by rw [frc_s _ hp.1, ← hm]; unfold fr1; first | rw [if_pos c21] | (rw [if_neg c21]; omega)) (by rw [flA_s _ _ hp.1, ← hm, ← hf]; first | rw [if_pos c21] | rw [if_neg c21])
      · skip
        refine g_aload_n F 1 dX6_layFree_24 rfl ?_
        refine gm_get_30 F dX6_layFree_25 ?_
        refine g_aload_n F 1 dX6_layFree_28 rfl ?_
        refine gm_get_31 F dX6_layFree_29 ?_
        refine g_top (y := iI m) rfl ?_
        refine g_iload_n F 0 dX6_layFree_32 rfl ?_
        refine gm_astS_30 F (by omega) dX6_layFree_33 ?_
        refine g_aload_n F 1 dX6_layFree_34 rfl ?_
        refine g_dup F dX6_layFree_35 rfl ?_
        refine gm_get_31 F dX6_layFree_36 ?_
        refine g_top (y := iI m) rfl ?_
        refine g_iconst F dX6_layFree_39 ?_
        refine g_iadd F dX6_layFree_40 ?_
        refine gm_put_31 F dX6_layFree_41 ?_
        refine g_iinc F (lv' := [(1, .int (iI (p + 1))), (0, .ref (ma 100))]) 0 dX6_layFree_44 rfl (by decide) rfl ?_
        refine g_goto F 7 dX6_layFree_47 (by decide) ?_
        refine g_sub F (lv' := [(1, .int (iI (p + 1))), (0, .ref (ma 100))]) [0, 1] rfl ?_
        refine g_ws (ws' := mw κ ma (mA (mA M 31 (fun _ => (m + 1))) 30 (uI f m p))) rfl ?_
        exact ih7 _ (by omega) (p + 1) (m + 1) (uI f m p) rfl (by omega) (by rw [frc_s _ hp.1, ← hm]; unfold fr1; first | rw [if_pos c21] | (rw [if_neg c21]; omega)) (by rw [flA_s _ _ hp.1, ← hm, ← hf]; first | rw [if_pos c21] | rw [if_neg c21])
  refine g_sub F (lv' := [(1, .int (iI 0)), (0, .ref (ma 100))]) [0, 1] rfl ?_
  refine g_ws (ws' := mw κ ma (mA (mA M 31 (fun _ => 0)) 30 (M 30))) rfl ?_
  exact L7 _ 0 0 (M 30) rfl (by omega) (sumI_0 _).symm rfl
theorem dX6_swapIn_0 : decode cX6_swapIn 0 = .ok (.aload_n 0, 1) := by decide +kernel
theorem dX6_swapIn_1 : decode cX6_swapIn 1 = .ok (.iload_n 1, 1) := by decide +kernel
theorem dX6_swapIn_2 : decode cX6_swapIn 2 = .ok (.iaload, 1) := by decide +kernel
theorem dX6_swapIn_3 : decode cX6_swapIn 3 = .ok (.istore_n 3, 1) := by decide +kernel
theorem dX6_swapIn_4 : decode cX6_swapIn 4 = .ok (.aload_n 0, 1) := by decide +kernel
theorem dX6_swapIn_5 : decode cX6_swapIn 5 = .ok (.iload_n 1, 1) := by decide +kernel
theorem dX6_swapIn_6 : decode cX6_swapIn 6 = .ok (.aload_n 0, 1) := by decide +kernel
theorem dX6_swapIn_7 : decode cX6_swapIn 7 = .ok (.iload_n 2, 1) := by decide +kernel
theorem dX6_swapIn_8 : decode cX6_swapIn 8 = .ok (.iaload, 1) := by decide +kernel
theorem dX6_swapIn_9 : decode cX6_swapIn 9 = .ok (.iastore, 1) := by decide +kernel
theorem dX6_swapIn_10 : decode cX6_swapIn 10 = .ok (.aload_n 0, 1) := by decide +kernel
theorem dX6_swapIn_11 : decode cX6_swapIn 11 = .ok (.iload_n 2, 1) := by decide +kernel
theorem dX6_swapIn_12 : decode cX6_swapIn 12 = .ok (.iload_n 3, 1) := by decide +kernel
theorem dX6_swapIn_13 : decode cX6_swapIn 13 = .ok (.iastore, 1) := by decide +kernel
theorem dX6_swapIn_14 : decode cX6_swapIn 14 = .ok (.return_, 1) := by decide +kernel
set_option maxRecDepth 100000 in
set_option maxHeartbeats 4000000 in
theorem k_X6_swapIn_0 (κ : Kp) (ma : Nat → Nat) (M : MS) (a b : Int) (hab : (0 ≤ a ∧ a < 12) ∧ 0 ≤ b ∧ b < 12) : mV κ yX6_swapIn cX6_swapIn 4 0 [.ref (ma 0), .int (iI a), .int (iI b)] (mw κ ma M) (is0 (mw κ ma (mA M 0 (swf (M 0) a b)))) := by
  refine mV_of (by decide) (Nat.le_of_ble_eq_true rfl) (fun E F K => ?_)
  refine g_lv (lv' := [(0, .ref (ma 0)), (1, .int (iI a)), (2, .int (iI b))]) rfl ?_
  refine g_aload_n F 0 dX6_swapIn_0 rfl ?_
  refine g_iload_n F 1 dX6_swapIn_1 rfl ?_
  refine gm_ald_0 F (by omega) dX6_swapIn_2 ?_
  refine g_istore_n F (lv' := [(3, .int (iI (M 0 a))), (0, .ref (ma 0)), (1, .int (iI a)), (2, .int (iI b))]) 3 dX6_swapIn_3 rfl (by decide) rfl ?_
  refine g_aload_n F 1 dX6_swapIn_4 rfl ?_
  refine g_iload_n F 2 dX6_swapIn_5 rfl ?_
  refine g_aload_n F 1 dX6_swapIn_6 rfl ?_
  refine g_iload_n F 3 dX6_swapIn_7 rfl ?_
  refine gm_ald_0 F (by omega) dX6_swapIn_8 ?_
  refine gm_ast_0 F (by omega) dX6_swapIn_9 ?_
  refine g_aload_n F 1 dX6_swapIn_10 rfl ?_
  refine g_iload_n F 3 dX6_swapIn_11 rfl ?_
  refine g_iload_n F 0 dX6_swapIn_12 rfl ?_
  refine gm_astS_0 F (by omega) dX6_swapIn_13 ?_
  exact K mw_same rfl dX6_swapIn_14
set_option maxRecDepth 100000 in
set_option maxHeartbeats 4000000 in
theorem k_X6_swapIn_1 (κ : Kp) (ma : Nat → Nat) (M : MS) (a b : Int) (hab : (0 ≤ a ∧ a < 12) ∧ 0 ≤ b ∧ b < 12) : mV κ yX6_swapIn cX6_swapIn 4 0 [.ref (ma 1), .int (iI a), .int (iI b)] (mw κ ma M) (is0 (mw κ ma (mA M 1 (swf (M 1) a b)))) := by
  refine mV_of (by decide) (Nat.le_of_ble_eq_true rfl) (fun E F K => ?_)
  refine g_lv (lv' := [(0, .ref (ma 1)), (1, .int (iI a)), (2, .int (iI b))]) rfl ?_
  refine g_aload_n F 0 dX6_swapIn_0 rfl ?_
  refine g_iload_n F 1 dX6_swapIn_1 rfl ?_
  refine gm_ald_1 F (by omega) dX6_swapIn_2 ?_
  refine g_istore_n F (lv' := [(3, .int (iI (M 1 a))), (0, .ref (ma 1)), (1, .int (iI a)), (2, .int (iI b))]) 3 dX6_swapIn_3 rfl (by decide) rfl ?_
  refine g_aload_n F 1 dX6_swapIn_4 rfl ?_
  refine g_iload_n F 2 dX6_swapIn_5 rfl ?_
  refine g_aload_n F 1 dX6_swapIn_6 rfl ?_
  refine g_iload_n F 3 dX6_swapIn_7 rfl ?_
  refine gm_ald_1 F (by omega) dX6_swapIn_8 ?_
  refine gm_ast_1 F (by omega) dX6_swapIn_9 ?_
  refine g_aload_n F 1 dX6_swapIn_10 rfl ?_
  refine g_iload_n F 3 dX6_swapIn_11 rfl ?_
  refine g_iload_n F 0 dX6_swapIn_12 rfl ?_
  refine gm_astS_1 F (by omega) dX6_swapIn_13 ?_
  exact K mw_same rfl dX6_swapIn_14
set_option maxRecDepth 100000 in
set_option maxHeartbeats 4000000 in
theorem k_X6_swapIn_2 (κ : Kp) (ma : Nat → Nat) (M : MS) (a b : Int) (hab : (0 ≤ a ∧ a < 12) ∧ 0 ≤ b ∧ b < 12) : mV κ yX6_swapIn cX6_swapIn 4 0 [.ref (ma 2), .int (iI a), .int (iI b)] (mw κ ma M) (is0 (mw κ ma (mA M 2 (swf (M 2) a b)))) := by
  refine mV_of (by decide) (Nat.le_of_ble_eq_true rfl) (fun E F K => ?_)
  refine g_lv (lv' := [(0, .ref (ma 2)), (1, .int (iI a)), (2, .int (iI b))]) rfl ?_
  refine g_aload_n F 0 dX6_swapIn_0 rfl ?_
  refine g_iload_n F 1 dX6_swapIn_1 rfl ?_
  refine gm_ald_2 F (by omega) dX6_swapIn_2 ?_
  refine g_istore_n F (lv' := [(3, .int (iI (M 2 a))), (0, .ref (ma 2)), (1, .int (iI a)), (2, .int (iI b))]) 3 dX6_swapIn_3 rfl (by decide) rfl ?_
  refine g_aload_n F 1 dX6_swapIn_4 rfl ?_
  refine g_iload_n F 2 dX6_swapIn_5 rfl ?_
  refine g_aload_n F 1 dX6_swapIn_6 rfl ?_
  refine g_iload_n F 3 dX6_swapIn_7 rfl ?_
  refine gm_ald_2 F (by omega) dX6_swapIn_8 ?_
  refine gm_ast_2 F (by omega) dX6_swapIn_9 ?_
  refine g_aload_n F 1 dX6_swapIn_10 rfl ?_
  refine g_iload_n F 3 dX6_swapIn_11 rfl ?_
  refine g_iload_n F 0 dX6_swapIn_12 rfl ?_
  refine gm_astS_2 F (by omega) dX6_swapIn_13 ?_
  exact K mw_same rfl dX6_swapIn_14
set_option maxRecDepth 100000 in
set_option maxHeartbeats 4000000 in
theorem k_X6_swapIn_3 (κ : Kp) (ma : Nat → Nat) (M : MS) (a b : Int) (hab : (0 ≤ a ∧ a < 12) ∧ 0 ≤ b ∧ b < 12) : mV κ yX6_swapIn cX6_swapIn 4 0 [.ref (ma 3), .int (iI a), .int (iI b)] (mw κ ma M) (is0 (mw κ ma (mA M 3 (swf (M 3) a b)))) := by
  refine mV_of (by decide) (Nat.le_of_ble_eq_true rfl) (fun E F K => ?_)
  refine g_lv (lv' := [(0, .ref (ma 3)), (1, .int (iI a)), (2, .int (iI b))]) rfl ?_
  refine g_aload_n F 0 dX6_swapIn_0 rfl ?_
  refine g_iload_n F 1 dX6_swapIn_1 rfl ?_
  refine gm_ald_3 F (by omega) dX6_swapIn_2 ?_
  refine g_istore_n F (lv' := [(3, .int (iI (M 3 a))), (0, .ref (ma 3)), (1, .int (iI a)), (2, .int (iI b))]) 3 dX6_swapIn_3 rfl (by decide) rfl ?_
  refine g_aload_n F 1 dX6_swapIn_4 rfl ?_
  refine g_iload_n F 2 dX6_swapIn_5 rfl ?_
  refine g_aload_n F 1 dX6_swapIn_6 rfl ?_
  refine g_iload_n F 3 dX6_swapIn_7 rfl ?_
  refine gm_ald_3 F (by omega) dX6_swapIn_8 ?_
  refine gm_ast_3 F (by omega) dX6_swapIn_9 ?_
  refine g_aload_n F 1 dX6_swapIn_10 rfl ?_
  refine g_iload_n F 3 dX6_swapIn_11 rfl ?_
  refine g_iload_n F 0 dX6_swapIn_12 rfl ?_
  refine gm_astS_3 F (by omega) dX6_swapIn_13 ?_
  exact K mw_same rfl dX6_swapIn_14
set_option maxRecDepth 100000 in
set_option maxHeartbeats 4000000 in
theorem k_X6_swapIn_41 (κ : Kp) (ma : Nat → Nat) (M : MS) (a b : Int) (hab : (0 ≤ a ∧ a < 12) ∧ 0 ≤ b ∧ b < 12) : mV κ yX6_swapIn cX6_swapIn 4 0 [.ref (ma 41), .int (iI a), .int (iI b)] (mw κ ma M) (is0 (mw κ ma (mA M 41 (swf (M 41) a b)))) := by
  refine mV_of (by decide) (Nat.le_of_ble_eq_true rfl) (fun E F K => ?_)
  refine g_lv (lv' := [(0, .ref (ma 41)), (1, .int (iI a)), (2, .int (iI b))]) rfl ?_
  refine g_aload_n F 0 dX6_swapIn_0 rfl ?_
  refine g_iload_n F 1 dX6_swapIn_1 rfl ?_
  refine gm_ald_41 F (by omega) dX6_swapIn_2 ?_
  refine g_istore_n F (lv' := [(3, .int (iI (M 41 a))), (0, .ref (ma 41)), (1, .int (iI a)), (2, .int (iI b))]) 3 dX6_swapIn_3 rfl (by decide) rfl ?_
  refine g_aload_n F 1 dX6_swapIn_4 rfl ?_
  refine g_iload_n F 2 dX6_swapIn_5 rfl ?_
  refine g_aload_n F 1 dX6_swapIn_6 rfl ?_
  refine g_iload_n F 3 dX6_swapIn_7 rfl ?_
  refine gm_ald_41 F (by omega) dX6_swapIn_8 ?_
  refine gm_ast_41 F (by omega) dX6_swapIn_9 ?_
  refine g_aload_n F 1 dX6_swapIn_10 rfl ?_
  refine g_iload_n F 3 dX6_swapIn_11 rfl ?_
  refine g_iload_n F 0 dX6_swapIn_12 rfl ?_
  refine gm_astS_41 F (by omega) dX6_swapIn_13 ?_
  exact K mw_same rfl dX6_swapIn_14
theorem dX6_swapCells_0 : decode cX6_swapCells 0 = .ok (.aload_n 0, 1) := by decide +kernel
theorem dX6_swapCells_1 : decode cX6_swapCells 1 = .ok (.getfield 7, 3) := by decide +kernel
theorem dX6_swapCells_4 : decode cX6_swapCells 4 = .ok (.iload_n 1, 1) := by decide +kernel
theorem dX6_swapCells_5 : decode cX6_swapCells 5 = .ok (.iload_n 2, 1) := by decide +kernel
theorem dX6_swapCells_6 : decode cX6_swapCells 6 = .ok (.invokestatic 304, 3) := by decide +kernel
theorem dX6_swapCells_9 : decode cX6_swapCells 9 = .ok (.aload_n 0, 1) := by decide +kernel
theorem dX6_swapCells_10 : decode cX6_swapCells 10 = .ok (.getfield 13, 3) := by decide +kernel
theorem dX6_swapCells_13 : decode cX6_swapCells 13 = .ok (.iload_n 1, 1) := by decide +kernel
theorem dX6_swapCells_14 : decode cX6_swapCells 14 = .ok (.iload_n 2, 1) := by decide +kernel
theorem dX6_swapCells_15 : decode cX6_swapCells 15 = .ok (.invokestatic 304, 3) := by decide +kernel
theorem dX6_swapCells_18 : decode cX6_swapCells 18 = .ok (.aload_n 0, 1) := by decide +kernel
theorem dX6_swapCells_19 : decode cX6_swapCells 19 = .ok (.getfield 16, 3) := by decide +kernel
theorem dX6_swapCells_22 : decode cX6_swapCells 22 = .ok (.iload_n 1, 1) := by decide +kernel
theorem dX6_swapCells_23 : decode cX6_swapCells 23 = .ok (.iload_n 2, 1) := by decide +kernel
theorem dX6_swapCells_24 : decode cX6_swapCells 24 = .ok (.invokestatic 304, 3) := by decide +kernel
theorem dX6_swapCells_27 : decode cX6_swapCells 27 = .ok (.aload_n 0, 1) := by decide +kernel
theorem dX6_swapCells_28 : decode cX6_swapCells 28 = .ok (.getfield 19, 3) := by decide +kernel
theorem dX6_swapCells_31 : decode cX6_swapCells 31 = .ok (.iload_n 1, 1) := by decide +kernel
theorem dX6_swapCells_32 : decode cX6_swapCells 32 = .ok (.iload_n 2, 1) := by decide +kernel
theorem dX6_swapCells_33 : decode cX6_swapCells 33 = .ok (.invokestatic 304, 3) := by decide +kernel
theorem dX6_swapCells_36 : decode cX6_swapCells 36 = .ok (.return_, 1) := by decide +kernel
set_option maxRecDepth 100000 in
set_option maxHeartbeats 4000000 in
theorem k_X6_swapCells (κ : Kp) (ma : Nat → Nat) (M : MS) (a : Int) (b : Int)  (hab : (0 ≤ a ∧ a < 12) ∧ 0 ≤ b ∧ b < 12) : mV κ yX6_swapCells cX6_swapCells 3 1 [.ref (ma 100), .int (iI a), .int (iI b)] (mw κ ma M) (is0 (mw κ ma (stC M (swC (cl M) a b)))) := by
  refine mV_of (by decide) (Nat.le_of_ble_eq_true rfl) (fun E F K => ?_)
  refine g_lv (lv' := [(0, .ref (ma 100)), (1, .int (iI a)), (2, .int (iI b))]) rfl ?_
  refine g_aload_n F 0 dX6_swapCells_0 rfl ?_
  refine gm_get_0 F dX6_swapCells_1 ?_
  refine g_iload_n F 1 dX6_swapCells_4 rfl ?_
  refine g_iload_n F 2 dX6_swapCells_5 rfl ?_
  refine g_callSV F (stk := [.int (iI b), .int (iI a), .ref (ma 0)]) (st := []) (k_X6_swapIn_0 κ ma M a b (by omega)) cal_X6_swapIn lm_X6_304 rfl (by decide) rfl (Nat.le_of_ble_eq_true rfl) dX6_swapCells_6 (fun ws6 _ hr6 => ?_)
  obtain rfl := hr6
  refine g_aload_n F 0 dX6_swapCells_9 rfl ?_
  refine gm_get_1 F dX6_swapCells_10 ?_
  refine g_iload_n F 1 dX6_swapCells_13 rfl ?_
  refine g_iload_n F 2 dX6_swapCells_14 rfl ?_
  refine g_callSV F (stk := [.int (iI b), .int (iI a), .ref (ma 1)]) (st := []) (k_X6_swapIn_1 κ ma (mA M 0 (swf (M 0) a b)) a b (by omega)) cal_X6_swapIn lm_X6_304 rfl (by decide) rfl (Nat.le_of_ble_eq_true rfl) dX6_swapCells_15 (fun ws15 _ hr15 => ?_)
  obtain rfl := hr15
  refine g_aload_n F 0 dX6_swapCells_18 rfl ?_
  refine gm_get_2 F dX6_swapCells_19 ?_
  refine g_iload_n F 1 dX6_swapCells_22 rfl ?_
  refine g_iload_n F 2 dX6_swapCells_23 rfl ?_
  refine g_callSV F (stk := [.int (iI b), .int (iI a), .ref (ma 2)]) (st := []) (k_X6_swapIn_2 κ ma (mA (mA M 0 (swf (M 0) a b)) 1 (swf (M 1) a b)) a b (by omega)) cal_X6_swapIn lm_X6_304 rfl (by decide) rfl (Nat.le_of_ble_eq_true rfl) dX6_swapCells_24 (fun ws24 _ hr24 => ?_)
  obtain rfl := hr24
  refine g_aload_n F 0 dX6_swapCells_27 rfl ?_
  refine gm_get_3 F dX6_swapCells_28 ?_
  refine g_iload_n F 1 dX6_swapCells_31 rfl ?_
  refine g_iload_n F 2 dX6_swapCells_32 rfl ?_
  refine g_callSV F (stk := [.int (iI b), .int (iI a), .ref (ma 3)]) (st := []) (k_X6_swapIn_3 κ ma (mA (mA (mA M 0 (swf (M 0) a b)) 1 (swf (M 1) a b)) 2 (swf (M 2) a b)) a b (by omega)) cal_X6_swapIn lm_X6_304 rfl (by decide) rfl (Nat.le_of_ble_eq_true rfl) dX6_swapCells_33 (fun ws33 _ hr33 => ?_)
  obtain rfl := hr33
  exact K mw_same rfl dX6_swapCells_36
theorem dX6_drawBelow_0 : decode cX6_drawBelow 0 = .ok (.aload_n 0, 1) := by decide +kernel
theorem dX6_drawBelow_1 : decode cX6_drawBelow 1 = .ok (.aload_n 0, 1) := by decide +kernel
theorem dX6_drawBelow_2 : decode cX6_drawBelow 2 = .ok (.getfield 334, 3) := by decide +kernel
theorem dX6_drawBelow_5 : decode cX6_drawBelow 5 = .ok (.ldc_w 337, 3) := by decide +kernel
theorem dX6_drawBelow_8 : decode cX6_drawBelow 8 = .ok (.imul, 1) := by decide +kernel
theorem dX6_drawBelow_9 : decode cX6_drawBelow 9 = .ok (.sipush 12345, 3) := by decide +kernel
theorem dX6_drawBelow_12 : decode cX6_drawBelow 12 = .ok (.iadd, 1) := by decide +kernel
theorem dX6_drawBelow_13 : decode cX6_drawBelow 13 = .ok (.putfield 334, 3) := by decide +kernel
theorem dX6_drawBelow_16 : decode cX6_drawBelow 16 = .ok (.aload_n 0, 1) := by decide +kernel
theorem dX6_drawBelow_17 : decode cX6_drawBelow 17 = .ok (.getfield 334, 3) := by decide +kernel
theorem dX6_drawBelow_20 : decode cX6_drawBelow 20 = .ok (.ldc_w 338, 3) := by decide +kernel
theorem dX6_drawBelow_23 : decode cX6_drawBelow 23 = .ok (.iand, 1) := by decide +kernel
theorem dX6_drawBelow_24 : decode cX6_drawBelow 24 = .ok (.ldc_w 339, 3) := by decide +kernel
theorem dX6_drawBelow_27 : decode cX6_drawBelow 27 = .ok (.idiv, 1) := by decide +kernel
theorem dX6_drawBelow_28 : decode cX6_drawBelow 28 = .ok (.iload_n 1, 1) := by decide +kernel
theorem dX6_drawBelow_29 : decode cX6_drawBelow 29 = .ok (.irem, 1) := by decide +kernel
theorem dX6_drawBelow_30 : decode cX6_drawBelow 30 = .ok (.ireturn, 1) := by decide +kernel
set_option maxRecDepth 100000 in
set_option maxHeartbeats 4000000 in
theorem k_X6_drawBelow (κ : Kp) (ma : Nat → Nat) (M : MS) (n : Int)  (hn : 0 < n ∧ n ≤ 1000) : mI κ yX6_drawBelow cX6_drawBelow 2 .int 0 [.ref (ma 100), .int (iI n)] (mw κ ma M) (is1 (iI (drw (nxt (M 42 0)) n)) (mw κ ma (mA M 42 (fun _ => nxt (M 42 0))))) := by
  refine mI_of (by decide) (Nat.le_of_ble_eq_true rfl) (fun E F K => ?_)
  refine g_lv (lv' := [(0, .ref (ma 100)), (1, .int (iI n))]) rfl ?_
  refine g_aload_n F 0 dX6_drawBelow_0 rfl ?_
  refine g_aload_n F 0 dX6_drawBelow_1 rfl ?_
  refine gm_get_42 F dX6_drawBelow_2 ?_
  refine g_ldcw F (z := 1103515245) lc_X6_337 (by decide +kernel) dX6_drawBelow_5 ?_
  refine g_imul F dX6_drawBelow_8 ?_
  refine g_sipush F dX6_drawBelow_9 (by decide +kernel) ?_
  refine g_iadd F dX6_drawBelow_12 ?_
  refine gm_put_42 F dX6_drawBelow_13 ?_
  refine g_aload_n F 0 dX6_drawBelow_16 rfl ?_
  refine gm_get_42 F dX6_drawBelow_17 ?_
  refine g_top (y := iI (((M 42 0) * 1103515245) + 12345)) rfl ?_
  refine g_ldcw F (z := 2147483647) lc_X6_338 (by decide +kernel) dX6_drawBelow_20 ?_
  refine g_iand F dX6_drawBelow_23 ?_
  refine g_top (y := iI (nxt (M 42 0) % 2147483648)) (iI_and31 _) ?_
  refine g_ldcw F (z := 65536) lc_X6_339 (by decide +kernel) dX6_drawBelow_24 ?_
  refine g_idiv F dX6_drawBelow_27 (by omega) ?_
  refine g_iload_n F 1 dX6_drawBelow_28 rfl ?_
  refine g_irem F dX6_drawBelow_29 (by omega) ?_
  exact K mw_same ⟨rfl, rfl⟩ rfl dX6_drawBelow_30
theorem dX6_pieceComes_0 : decode cX6_pieceComes 0 = .ok (.aload_n 0, 1) := by decide +kernel
theorem dX6_pieceComes_1 : decode cX6_pieceComes 1 = .ok (.getfield 22, 3) := by decide +kernel
theorem dX6_pieceComes_4 : decode cX6_pieceComes 4 = .ok (.aload_n 0, 1) := by decide +kernel
theorem dX6_pieceComes_5 : decode cX6_pieceComes 5 = .ok (.getfield 101, 3) := by decide +kernel
theorem dX6_pieceComes_8 : decode cX6_pieceComes 8 = .ok (.iload_n 1, 1) := by decide +kernel
theorem dX6_pieceComes_9 : decode cX6_pieceComes 9 = .ok (.iastore, 1) := by decide +kernel
theorem dX6_pieceComes_10 : decode cX6_pieceComes 10 = .ok (.aload_n 0, 1) := by decide +kernel
theorem dX6_pieceComes_11 : decode cX6_pieceComes 11 = .ok (.getfield 25, 3) := by decide +kernel
theorem dX6_pieceComes_14 : decode cX6_pieceComes 14 = .ok (.aload_n 0, 1) := by decide +kernel
theorem dX6_pieceComes_15 : decode cX6_pieceComes 15 = .ok (.getfield 101, 3) := by decide +kernel
theorem dX6_pieceComes_18 : decode cX6_pieceComes 18 = .ok (.iload_n 2, 1) := by decide +kernel
theorem dX6_pieceComes_19 : decode cX6_pieceComes 19 = .ok (.iastore, 1) := by decide +kernel
theorem dX6_pieceComes_20 : decode cX6_pieceComes 20 = .ok (.aload_n 0, 1) := by decide +kernel
theorem dX6_pieceComes_21 : decode cX6_pieceComes 21 = .ok (.getfield 28, 3) := by decide +kernel
theorem dX6_pieceComes_24 : decode cX6_pieceComes 24 = .ok (.aload_n 0, 1) := by decide +kernel
theorem dX6_pieceComes_25 : decode cX6_pieceComes 25 = .ok (.getfield 101, 3) := by decide +kernel
theorem dX6_pieceComes_28 : decode cX6_pieceComes 28 = .ok (.iload_n 3, 1) := by decide +kernel
theorem dX6_pieceComes_29 : decode cX6_pieceComes 29 = .ok (.iastore, 1) := by decide +kernel
theorem dX6_pieceComes_30 : decode cX6_pieceComes 30 = .ok (.aload_n 0, 1) := by decide +kernel
theorem dX6_pieceComes_31 : decode cX6_pieceComes 31 = .ok (.getfield 31, 3) := by decide +kernel
theorem dX6_pieceComes_34 : decode cX6_pieceComes 34 = .ok (.aload_n 0, 1) := by decide +kernel
theorem dX6_pieceComes_35 : decode cX6_pieceComes 35 = .ok (.getfield 101, 3) := by decide +kernel
theorem dX6_pieceComes_38 : decode cX6_pieceComes 38 = .ok (.iconst 0, 1) := by decide +kernel
theorem dX6_pieceComes_39 : decode cX6_pieceComes 39 = .ok (.iastore, 1) := by decide +kernel
theorem dX6_pieceComes_40 : decode cX6_pieceComes 40 = .ok (.aload_n 0, 1) := by decide +kernel
theorem dX6_pieceComes_41 : decode cX6_pieceComes 41 = .ok (.dup, 1) := by decide +kernel
theorem dX6_pieceComes_42 : decode cX6_pieceComes 42 = .ok (.getfield 101, 3) := by decide +kernel
theorem dX6_pieceComes_45 : decode cX6_pieceComes 45 = .ok (.iconst 1, 1) := by decide +kernel
theorem dX6_pieceComes_46 : decode cX6_pieceComes 46 = .ok (.iadd, 1) := by decide +kernel
theorem dX6_pieceComes_47 : decode cX6_pieceComes 47 = .ok (.putfield 101, 3) := by decide +kernel
theorem dX6_pieceComes_50 : decode cX6_pieceComes 50 = .ok (.return_, 1) := by decide +kernel
set_option maxRecDepth 100000 in
set_option maxHeartbeats 4000000 in
theorem k_X6_pieceComes (κ : Kp) (ma : Nat → Nat) (M : MS) (k : Int) (f : Int) (a : Int)  (hn : 0 ≤ M 5 0 ∧ M 5 0 < 6) : mV κ yX6_pieceComes cX6_pieceComes 4 0 [.ref (ma 100), .int (iI k), .int (iI f), .int (iI a)] (mw κ ma M) (is0 (mw κ ma (mA (mA (mA (mA (mA M 6 (uI (M 6) (M 5 0) k)) 7 (uI (M 7) (M 5 0) f)) 8 (uI (M 8) (M 5 0) a)) 9 (uI (M 9) (M 5 0) 0)) 5 (fun _ => M 5 0 + 1)))) := by
  refine mV_of (by decide) (Nat.le_of_ble_eq_true rfl) (fun E F K => ?_)
  refine g_lv (lv' := [(0, .ref (ma 100)), (1, .int (iI k)), (2, .int (iI f)), (3, .int (iI a))]) rfl ?_
  refine g_aload_n F 0 dX6_pieceComes_0 rfl ?_
  refine gm_get_6 F dX6_pieceComes_1 ?_
  refine g_aload_n F 0 dX6_pieceComes_4 rfl ?_
  refine gm_get_5 F dX6_pieceComes_5 ?_
  refine g_iload_n F 1 dX6_pieceComes_8 rfl ?_
  refine gm_ast_6 F (by omega) dX6_pieceComes_9 ?_
  refine g_aload_n F 0 dX6_pieceComes_10 rfl ?_
  refine gm_get_7 F dX6_pieceComes_11 ?_
  refine g_aload_n F 0 dX6_pieceComes_14 rfl ?_
  refine gm_get_5 F dX6_pieceComes_15 ?_
  refine g_top (y := iI (M 5 0)) rfl ?_
  refine g_iload_n F 2 dX6_pieceComes_18 rfl ?_
  refine gm_ast_7 F (by omega) dX6_pieceComes_19 ?_
  refine g_ws (ws' := mw κ ma (mA (mA M 6 (uI (M 6) (M 5 0) k)) 7 (uI (M 7) (M 5 0) f))) rfl ?_
  refine g_aload_n F 0 dX6_pieceComes_20 rfl ?_
  refine gm_get_8 F dX6_pieceComes_21 ?_
  refine g_aload_n F 0 dX6_pieceComes_24 rfl ?_
  refine gm_get_5 F dX6_pieceComes_25 ?_
  refine g_top (y := iI (M 5 0)) rfl ?_
  refine g_iload_n F 3 dX6_pieceComes_28 rfl ?_
  refine gm_ast_8 F (by omega) dX6_pieceComes_29 ?_
  refine g_ws (ws' := mw κ ma (mA (mA (mA M 6 (uI (M 6) (M 5 0) k)) 7 (uI (M 7) (M 5 0) f)) 8 (uI (M 8) (M 5 0) a))) rfl ?_
  refine g_aload_n F 0 dX6_pieceComes_30 rfl ?_
  refine gm_get_9 F dX6_pieceComes_31 ?_
  refine g_aload_n F 0 dX6_pieceComes_34 rfl ?_
  refine gm_get_5 F dX6_pieceComes_35 ?_
  refine g_top (y := iI (M 5 0)) rfl ?_
  refine g_iconst F dX6_pieceComes_38 ?_
  refine gm_ast_9 F (by omega) dX6_pieceComes_39 ?_
  refine g_ws (ws' := mw κ ma (mA (mA (mA (mA M 6 (uI (M 6) (M 5 0) k)) 7 (uI (M 7) (M 5 0) f)) 8 (uI (M 8) (M 5 0) a)) 9 (uI (M 9) (M 5 0) 0))) rfl ?_
  refine g_aload_n F 0 dX6_pieceComes_40 rfl ?_
  refine g_dup F dX6_pieceComes_41 rfl ?_
  refine gm_get_5 F dX6_pieceComes_42 ?_
  refine g_top (y := iI (M 5 0)) rfl ?_
  refine g_iconst F dX6_pieceComes_45 ?_
  refine g_iadd F dX6_pieceComes_46 ?_
  refine gm_put_5 F dX6_pieceComes_47 ?_
  exact K mw_same rfl dX6_pieceComes_50
theorem dX6_divisor_0 : decode cX6_divisor 0 = .ok (.lload_n 0, 1) := by decide +kernel
theorem dX6_divisor_1 : decode cX6_divisor 1 = .ok (.lstore 4, 2) := by decide +kernel
theorem dX6_divisor_3 : decode cX6_divisor 3 = .ok (.lload_n 2, 1) := by decide +kernel
theorem dX6_divisor_4 : decode cX6_divisor 4 = .ok (.lstore 6, 2) := by decide +kernel
theorem dX6_divisor_6 : decode cX6_divisor 6 = .ok (.lload 6, 2) := by decide +kernel
theorem dX6_divisor_8 : decode cX6_divisor 8 = .ok (.lconst 0, 1) := by decide +kernel
theorem dX6_divisor_9 : decode cX6_divisor 9 = .ok (.lcmp, 1) := by decide +kernel
theorem dX6_divisor_10 : decode cX6_divisor 10 = .ok (.ifCond .eq 21, 3) := by decide +kernel
theorem dX6_divisor_13 : decode cX6_divisor 13 = .ok (.lload 4, 2) := by decide +kernel
theorem dX6_divisor_15 : decode cX6_divisor 15 = .ok (.lload 6, 2) := by decide +kernel
theorem dX6_divisor_17 : decode cX6_divisor 17 = .ok (.lrem, 1) := by decide +kernel
theorem dX6_divisor_18 : decode cX6_divisor 18 = .ok (.lstore 8, 2) := by decide +kernel
theorem dX6_divisor_20 : decode cX6_divisor 20 = .ok (.lload 6, 2) := by decide +kernel
theorem dX6_divisor_22 : decode cX6_divisor 22 = .ok (.lstore 4, 2) := by decide +kernel
theorem dX6_divisor_24 : decode cX6_divisor 24 = .ok (.lload 8, 2) := by decide +kernel
theorem dX6_divisor_26 : decode cX6_divisor 26 = .ok (.lstore 6, 2) := by decide +kernel
theorem dX6_divisor_28 : decode cX6_divisor 28 = .ok (.goto (-22), 3) := by decide +kernel
theorem dX6_divisor_31 : decode cX6_divisor 31 = .ok (.lload 4, 2) := by decide +kernel
theorem dX6_divisor_33 : decode cX6_divisor 33 = .ok (.lreturn, 1) := by decide +kernel
set_option maxRecDepth 100000 in
set_option maxHeartbeats 4000000 in
theorem k_X6_divisor (κ : Kp) (ws : va_W) (a : Int) (b : Int)  (ha : (0 ≤ a ∧ a ≤ 4000000000000000000) ∧ 0 ≤ b ∧ b ≤ 4000000000000000000) : mL κ yX6_divisor cX6_divisor 10 0 [.long (iL a), .long (iL b)] ws (is1L (iL (gcdI a b)) ws) := by
  refine mL_of (by decide) (Nat.le_of_ble_eq_true rfl) (fun E F K => ?_)
  refine g_lv (lv' := [(0, .long (iL a)), (2, .long (iL b))]) rfl ?_
  refine g_lload_n F 0 dX6_divisor_0 rfl ?_
  refine g_lstore F (lv' := [(4, .long (iL a)), (0, .long (iL a)), (2, .long (iL b))]) dX6_divisor_1 (by decide) rfl ?_
  refine g_lload_n F 2 dX6_divisor_3 rfl ?_
  refine g_lstore F (lv' := [(6, .long (iL b)), (4, .long (iL a)), (0, .long (iL a)), (2, .long (iL b))]) dX6_divisor_4 (by decide) rfl ?_
  have L6 : ∀ (mz6 : Nat) (x : Int) (y : Int), y.toNat = mz6 → ((0 ≤ x ∧ x ≤ 4000000000000000000) ∧ 0 ≤ y ∧ y ≤ 4000000000000000000) → (gcdI x y = gcdI a b) → G E ws [(6, .long (iL y)), (4, .long (iL x)), (0, .long (iL a)), (2, .long (iL b))] 6 [] := by
    intro mz6
    induction mz6 using Nat.strongRecOn with
    | _ mz6 ih6 =>
    intro x y hmz6 hx hg
    refine g_lload F 0 dX6_divisor_6 rfl ?_
    refine g_lconst F (z := 0) dX6_divisor_8 rfl ?_
    refine g_lcmp F (by omega) dX6_divisor_9 ?_
    refine g_if_eq F 31 (icmp_in _ _) dX6_divisor_10 (by decide) (fun c10 => ?_) (fun c10 => ?_)
    · skip
      have c10 := icmp_eqt c10
      refine g_lload F 1 dX6_divisor_31 rfl ?_
      exact K sameA.rf ⟨congrArg iL (show x = gcdI a b by rw [← hg, c10, gcdI_0 (by omega)]), rfl⟩ dX6_divisor_33
    · skip
      have c10 := icmp_eqf c10
      refine g_lload F 1 dX6_divisor_13 rfl ?_
      refine g_lload F 0 dX6_divisor_15 rfl ?_
      refine g_lrem F dX6_divisor_17 (by omega) ?_
      refine g_lstore F (lv' := [(8, .long (iL (x % y))), (6, .long (iL y)), (4, .long (iL x)), (0, .long (iL a)), (2, .long (iL b))]) dX6_divisor_18 (by decide) rfl ?_
      refine g_lload F 1 dX6_divisor_20 rfl ?_
      refine g_lstore F (lv' := [(4, .long (iL y)), (8, .long (iL (x % y))), (6, .long (iL y)), (0, .long (iL a)), (2, .long (iL b))]) dX6_divisor_22 (by decide) rfl ?_
      refine g_lload F 1 dX6_divisor_24 rfl ?_
      refine g_lstore F (lv' := [(6, .long (iL (x % y))), (4, .long (iL y)), (8, .long (iL (x % y))), (0, .long (iL a)), (2, .long (iL b))]) dX6_divisor_26 (by decide) rfl ?_
      refine g_goto F 6 dX6_divisor_28 (by decide) ?_
      refine g_sub F (lv' := [(6, .long (iL (x % y))), (4, .long (iL y)), (0, .long (iL a)), (2, .long (iL b))]) [0, 1, 3, 4] rfl ?_
      have hm0 := Int.emod_nonneg x (show y ≠ 0 by omega)
      have hm1 := Int.emod_lt_of_pos x (show 0 < y by omega)
      exact ih6 _ (by omega) y (x % y) rfl (by omega) (by rw [gcdI_step (by omega) (by omega)]; exact hg)
  refine g_sub F (lv' := [(6, .long (iL b)), (4, .long (iL a)), (0, .long (iL a)), (2, .long (iL b))]) [0, 1, 2, 3] rfl ?_
  exact L6 _ a b rfl (by omega) rfl
theorem dX6_partOf_0 : decode cX6_partOf 0 = .ok (.lload_n 0, 1) := by decide +kernel
theorem dX6_partOf_1 : decode cX6_partOf 1 = .ok (.lconst 0, 1) := by decide +kernel
theorem dX6_partOf_2 : decode cX6_partOf 2 = .ok (.lcmp, 1) := by decide +kernel
theorem dX6_partOf_3 : decode cX6_partOf 3 = .ok (.ifCond .ne 7, 3) := by decide +kernel
theorem dX6_partOf_6 : decode cX6_partOf 6 = .ok (.iload 4, 2) := by decide +kernel
theorem dX6_partOf_8 : decode cX6_partOf 8 = .ok (.i2l, 1) := by decide +kernel
theorem dX6_partOf_9 : decode cX6_partOf 9 = .ok (.lreturn, 1) := by decide +kernel
theorem dX6_partOf_10 : decode cX6_partOf 10 = .ok (.lload_n 0, 1) := by decide +kernel
theorem dX6_partOf_11 : decode cX6_partOf 11 = .ok (.lload_n 2, 1) := by decide +kernel
theorem dX6_partOf_12 : decode cX6_partOf 12 = .ok (.invokestatic 311, 3) := by decide +kernel
theorem dX6_partOf_15 : decode cX6_partOf 15 = .ok (.lstore 5, 2) := by decide +kernel
theorem dX6_partOf_17 : decode cX6_partOf 17 = .ok (.iload 4, 2) := by decide +kernel
theorem dX6_partOf_19 : decode cX6_partOf 19 = .ok (.ifCond .ne 10, 3) := by decide +kernel
theorem dX6_partOf_22 : decode cX6_partOf 22 = .ok (.lload_n 0, 1) := by decide +kernel
theorem dX6_partOf_23 : decode cX6_partOf 23 = .ok (.lload 5, 2) := by decide +kernel
theorem dX6_partOf_25 : decode cX6_partOf 25 = .ok (.ldiv, 1) := by decide +kernel
theorem dX6_partOf_26 : decode cX6_partOf 26 = .ok (.goto 7, 3) := by decide +kernel
theorem dX6_partOf_29 : decode cX6_partOf 29 = .ok (.lload_n 2, 1) := by decide +kernel
theorem dX6_partOf_30 : decode cX6_partOf 30 = .ok (.lload 5, 2) := by decide +kernel
theorem dX6_partOf_32 : decode cX6_partOf 32 = .ok (.ldiv, 1) := by decide +kernel
theorem dX6_partOf_33 : decode cX6_partOf 33 = .ok (.lreturn, 1) := by decide +kernel
set_option maxRecDepth 100000 in
set_option maxHeartbeats 4000000 in
theorem k_X6_partOf (κ : Kp) (ws : va_W) (a : Int) (b : Int) (part : Int)  (ha : ((0 ≤ a ∧ a ≤ 4000000000000000000) ∧ 0 < b ∧ b ≤ 4000000000000000000) ∧ 0 ≤ part ∧ part ≤ 1) : mL κ yX6_partOf cX6_partOf 7 1 [.long (iL a), .long (iL b), .int (iI part)] ws (is1L (iL (prt a b part)) ws) := by
  refine mL_of (by decide) (Nat.le_of_ble_eq_true rfl) (fun E F K => ?_)
  refine g_lv (lv' := [(0, .long (iL a)), (2, .long (iL b)), (4, .int (iI part))]) rfl ?_
  refine g_lload_n F 0 dX6_partOf_0 rfl ?_
  refine g_lconst F (z := 0) dX6_partOf_1 rfl ?_
  refine g_lcmp F (by omega) dX6_partOf_2 ?_
  refine g_if_ne F 10 (icmp_in _ _) dX6_partOf_3 (by decide) (fun c3 => ?_) (fun c3 => ?_)
  · skip
    have c3 := icmp_net c3
    refine g_lload_n F 0 dX6_partOf_10 rfl ?_
    refine g_lload_n F 1 dX6_partOf_11 rfl ?_
    refine g_callSL F (stk := [.long (iL b), .long (iL a)]) (st := []) (k_X6_divisor κ ws a b (by omega)) cal_X6_divisor lm_X6_311 rfl (by decide) rfl (Nat.le_of_ble_eq_true rfl) dX6_partOf_12 (fun r12 ws12 _ hr12 => ?_)
    obtain ⟨rfl, rfl⟩ := hr12
    refine g_lstore F (lv' := [(5, .long (iL (gcdI a b))), (0, .long (iL a)), (2, .long (iL b)), (4, .int (iI part))]) dX6_partOf_15 (by decide) rfl ?_
    have hg0 := gcdI_pos (a := a) (b := b) (by omega)
    have hg1 := gcdI_le (a := a) (b := b) (by omega)
    refine g_iload F 3 dX6_partOf_17 rfl ?_
    refine g_if_ne F 29 (by omega) dX6_partOf_19 (by decide) (fun c19 => ?_) (fun c19 => ?_)
    · skip
      refine g_lload_n F 2 dX6_partOf_29 rfl ?_
      refine g_lload F 0 dX6_partOf_30 rfl ?_
      refine g_ldiv F dX6_partOf_32 (by omega) ?_
      exact K sameA.rf ⟨congrArg iL (by unfold prt; first | rw [if_pos c3] | rw [if_neg c3, if_pos c19] | rw [if_neg c3, if_neg c19]), rfl⟩ dX6_partOf_33
    · skip
      refine g_lload_n F 1 dX6_partOf_22 rfl ?_
      refine g_lload F 0 dX6_partOf_23 rfl ?_
      refine g_ldiv F dX6_partOf_25 (by omega) ?_
      refine g_goto F 33 dX6_partOf_26 (by decide) ?_
      exact K sameA.rf ⟨congrArg iL (by unfold prt; first | rw [if_pos c3] | rw [if_neg c3, if_pos c19] | rw [if_neg c3, if_neg c19]), rfl⟩ dX6_partOf_33
  · skip
    have c3 := icmp_nef c3
    refine g_iload F 2 dX6_partOf_6 rfl ?_
    refine g_i2l F (by omega) dX6_partOf_8 ?_
    exact K sameA.rf ⟨congrArg iL (by unfold prt; first | rw [if_pos c3] | rw [if_neg c3, if_pos c19] | rw [if_neg c3, if_neg c19]), rfl⟩ dX6_partOf_9
end
section
/-! PUBLIC METHODS of the reference: what stays -/
def sameM (M M2 : MS) : Prop := M2 0 = M 0 ∧ M2 1 = M 1 ∧ M2 2 = M 2 ∧ M2 3 = M 3 ∧ M2 4 = M 4 ∧ M2 5 = M 5 ∧ M2 6 = M 6 ∧ M2 7 = M 7 ∧ M2 8 = M 8 ∧ M2 9 = M 9 ∧ M2 12 = M 12 ∧ M2 13 = M 13 ∧ M2 21 = M 21 ∧ M2 22 = M 22 ∧ M2 26 = M 26 ∧ M2 28 = M 28 ∧ M2 37 = M 37 ∧ M2 38 = M 38
/-- a question: the answer q, refusals counted, nothing else of it changed -/
def qM (κ : Kp) (ma : Nat → Nat) (M : MS) (q : Int) : Int32 → va_W → Prop := fun r w => ∃ M2, w = mw κ ma M2 ∧ r = iI q ∧ sameM M M2 ∧ M2 11 = rfa (M 11) q
def qML (κ : Kp) (ma : Nat → Nat) (M : MS) (q s : Int) : Int64 → va_W → Prop := fun r w => ∃ M2, w = mw κ ma M2 ∧ r = iL q ∧ sameM M M2 ∧ M2 11 = rfa (M 11) s
theorem dX6_cellOf_0 : decode cX6_cellOf 0 = .ok (.aload_n 0, 1) := by decide +kernel
theorem dX6_cellOf_1 : decode cX6_cellOf 1 = .ok (.iconst 0, 1) := by decide +kernel
theorem dX6_cellOf_2 : decode cX6_cellOf 2 = .ok (.putfield 91, 3) := by decide +kernel
theorem dX6_cellOf_5 : decode cX6_cellOf 5 = .ok (.iload_n 1, 1) := by decide +kernel
theorem dX6_cellOf_6 : decode cX6_cellOf 6 = .ok (.invokestatic 222, 3) := by decide +kernel
theorem dX6_cellOf_9 : decode cX6_cellOf 9 = .ok (.ifCond .eq 15, 3) := by decide +kernel
theorem dX6_cellOf_12 : decode cX6_cellOf 12 = .ok (.iload_n 2, 1) := by decide +kernel
theorem dX6_cellOf_13 : decode cX6_cellOf 13 = .ok (.i2l, 1) := by decide +kernel
theorem dX6_cellOf_14 : decode cX6_cellOf 14 = .ok (.lconst 0, 1) := by decide +kernel
theorem dX6_cellOf_15 : decode cX6_cellOf 15 = .ok (.ldc2_w 225, 3) := by decide +kernel
theorem dX6_cellOf_18 : decode cX6_cellOf 18 = .ok (.invokestatic 97, 3) := by decide +kernel
theorem dX6_cellOf_21 : decode cX6_cellOf 21 = .ok (.ifCond .ne 21, 3) := by decide +kernel
theorem dX6_cellOf_24 : decode cX6_cellOf 24 = .ok (.aload_n 0, 1) := by decide +kernel
theorem dX6_cellOf_25 : decode cX6_cellOf 25 = .ok (.iload_n 1, 1) := by decide +kernel
theorem dX6_cellOf_26 : decode cX6_cellOf 26 = .ok (.invokestatic 222, 3) := by decide +kernel
theorem dX6_cellOf_29 : decode cX6_cellOf 29 = .ok (.ifCond .eq 8, 3) := by decide +kernel
theorem dX6_cellOf_32 : decode cX6_cellOf 32 = .ok (.bipush (-2), 2) := by decide +kernel
theorem dX6_cellOf_34 : decode cX6_cellOf 34 = .ok (.goto 4, 3) := by decide +kernel
theorem dX6_cellOf_37 : decode cX6_cellOf 37 = .ok (.iconst (-1), 1) := by decide +kernel
theorem dX6_cellOf_38 : decode cX6_cellOf 38 = .ok (.invokevirtual 138, 3) := by decide +kernel
theorem dX6_cellOf_41 : decode cX6_cellOf 41 = .ok (.ireturn, 1) := by decide +kernel
theorem dX6_cellOf_42 : decode cX6_cellOf 42 = .ok (.iload_n 2, 1) := by decide +kernel
theorem dX6_cellOf_43 : decode cX6_cellOf 43 = .ok (.tableswitch 93 0 6 #[41, 48, 55, 62, 69, 75, 87], 41) := by decide +kernel
theorem dX6_cellOf_84 : decode cX6_cellOf 84 = .ok (.aload_n 0, 1) := by decide +kernel
theorem dX6_cellOf_85 : decode cX6_cellOf 85 = .ok (.getfield 7, 3) := by decide +kernel
theorem dX6_cellOf_88 : decode cX6_cellOf 88 = .ok (.iload_n 1, 1) := by decide +kernel
theorem dX6_cellOf_89 : decode cX6_cellOf 89 = .ok (.iaload, 1) := by decide +kernel
theorem dX6_cellOf_90 : decode cX6_cellOf 90 = .ok (.ireturn, 1) := by decide +kernel
theorem dX6_cellOf_91 : decode cX6_cellOf 91 = .ok (.aload_n 0, 1) := by decide +kernel
theorem dX6_cellOf_92 : decode cX6_cellOf 92 = .ok (.getfield 13, 3) := by decide +kernel
theorem dX6_cellOf_95 : decode cX6_cellOf 95 = .ok (.iload_n 1, 1) := by decide +kernel
theorem dX6_cellOf_96 : decode cX6_cellOf 96 = .ok (.iaload, 1) := by decide +kernel
theorem dX6_cellOf_97 : decode cX6_cellOf 97 = .ok (.ireturn, 1) := by decide +kernel
theorem dX6_cellOf_98 : decode cX6_cellOf 98 = .ok (.aload_n 0, 1) := by decide +kernel
theorem dX6_cellOf_99 : decode cX6_cellOf 99 = .ok (.getfield 16, 3) := by decide +kernel
theorem dX6_cellOf_102 : decode cX6_cellOf 102 = .ok (.iload_n 1, 1) := by decide +kernel
theorem dX6_cellOf_103 : decode cX6_cellOf 103 = .ok (.iaload, 1) := by decide +kernel
theorem dX6_cellOf_104 : decode cX6_cellOf 104 = .ok (.ireturn, 1) := by decide +kernel
theorem dX6_cellOf_105 : decode cX6_cellOf 105 = .ok (.aload_n 0, 1) := by decide +kernel
theorem dX6_cellOf_106 : decode cX6_cellOf 106 = .ok (.getfield 19, 3) := by decide +kernel
theorem dX6_cellOf_109 : decode cX6_cellOf 109 = .ok (.iload_n 1, 1) := by decide +kernel
theorem dX6_cellOf_110 : decode cX6_cellOf 110 = .ok (.iaload, 1) := by decide +kernel
theorem dX6_cellOf_111 : decode cX6_cellOf 111 = .ok (.ireturn, 1) := by decide +kernel
theorem dX6_cellOf_112 : decode cX6_cellOf 112 = .ok (.aload_n 0, 1) := by decide +kernel
theorem dX6_cellOf_113 : decode cX6_cellOf 113 = .ok (.iload_n 1, 1) := by decide +kernel
theorem dX6_cellOf_114 : decode cX6_cellOf 114 = .ok (.invokevirtual 114, 3) := by decide +kernel
theorem dX6_cellOf_117 : decode cX6_cellOf 117 = .ok (.ireturn, 1) := by decide +kernel
theorem dX6_cellOf_118 : decode cX6_cellOf 118 = .ok (.aload_n 0, 1) := by decide +kernel
theorem dX6_cellOf_119 : decode cX6_cellOf 119 = .ok (.iload_n 1, 1) := by decide +kernel
theorem dX6_cellOf_120 : decode cX6_cellOf 120 = .ok (.aload_n 0, 1) := by decide +kernel
theorem dX6_cellOf_121 : decode cX6_cellOf 121 = .ok (.getfield 125, 3) := by decide +kernel
theorem dX6_cellOf_124 : decode cX6_cellOf 124 = .ok (.iconst 1, 1) := by decide +kernel
theorem dX6_cellOf_125 : decode cX6_cellOf 125 = .ok (.iadd, 1) := by decide +kernel
theorem dX6_cellOf_126 : decode cX6_cellOf 126 = .ok (.invokevirtual 128, 3) := by decide +kernel
theorem dX6_cellOf_129 : decode cX6_cellOf 129 = .ok (.ireturn, 1) := by decide +kernel
theorem dX6_cellOf_130 : decode cX6_cellOf 130 = .ok (.aload_n 0, 1) := by decide +kernel
theorem dX6_cellOf_131 : decode cX6_cellOf 131 = .ok (.iload_n 1, 1) := by decide +kernel
theorem dX6_cellOf_132 : decode cX6_cellOf 132 = .ok (.invokevirtual 118, 3) := by decide +kernel
theorem dX6_cellOf_135 : decode cX6_cellOf 135 = .ok (.ireturn, 1) := by decide +kernel
theorem dX6_cellOf_136 : decode cX6_cellOf 136 = .ok (.aload_n 0, 1) := by decide +kernel
theorem dX6_cellOf_137 : decode cX6_cellOf 137 = .ok (.iload_n 1, 1) := by decide +kernel
theorem dX6_cellOf_138 : decode cX6_cellOf 138 = .ok (.invokevirtual 121, 3) := by decide +kernel
theorem dX6_cellOf_141 : decode cX6_cellOf 141 = .ok (.ifCond .eq 7, 3) := by decide +kernel
theorem dX6_cellOf_144 : decode cX6_cellOf 144 = .ok (.iconst 1, 1) := by decide +kernel
theorem dX6_cellOf_145 : decode cX6_cellOf 145 = .ok (.goto 4, 3) := by decide +kernel
theorem dX6_cellOf_148 : decode cX6_cellOf 148 = .ok (.iconst 0, 1) := by decide +kernel
theorem dX6_cellOf_149 : decode cX6_cellOf 149 = .ok (.ireturn, 1) := by decide +kernel
set_option maxRecDepth 100000 in
set_option maxHeartbeats 4000000 in
theorem k_X6_cellOf (κ : Kp) (ma : Nat → Nat) (M : MS) (c : Int) (w : Int)  (ha_c : In32 c) (ha_w : In32 w) (ok : okC (cl M)) (hy : M 4 0 ≤ 999) : mI κ yX6_cellOf cX6_cellOf 3 .int 3 [.ref (ma 100), .int (iI c), .int (iI w)] (mw κ ma M) (qM κ ma M (qCellOf (cl M) c w)) := by
  refine mI_of (by decide) (Nat.le_of_ble_eq_true rfl) (fun E F K => ?_)
  refine g_lv (lv' := [(0, .ref (ma 100)), (1, .int (iI c)), (2, .int (iI w))]) rfl ?_
  refine g_aload_n F 0 dX6_cellOf_0 rfl ?_
  refine g_iconst F dX6_cellOf_1 ?_
  refine gm_put_10 F dX6_cellOf_2 ?_
  refine g_iload_n F 1 dX6_cellOf_5 rfl ?_
  refine g_callSI F (stk := [.int (iI c)]) (st := []) (k_X6_isCell κ (mw κ ma (mA M 10 (fun _ => 0))) c (by omega)) cal_X6_isCell lm_X6_222 rfl (by decide) rfl (Nat.le_of_ble_eq_true rfl) dX6_cellOf_6 (fun r6 ws6 _ hr6 => ?_)
  obtain ⟨rfl, rfl⟩ := hr6
  refine g_if_eq F 24 (b2i_in _) dX6_cellOf_9 (by decide) (fun c9 => ?_) (fun c9 => ?_)
  · skip
    have c9 : ¬ (0 ≤ c ∧ c < 12) := b2i_f c9
    refine g_aload_n F 0 dX6_cellOf_24 rfl ?_
    refine g_iload_n F 1 dX6_cellOf_25 rfl ?_
    refine g_callSI F (stk := [.int (iI c), .ref (ma 100)]) (st := [.ref (ma 100)]) (k_X6_isCell κ (mw κ ma (mA M 10 (fun _ => 0))) c (by omega)) cal_X6_isCell lm_X6_222 rfl (by decide) rfl (Nat.le_of_ble_eq_true rfl) dX6_cellOf_26 (fun r26 ws26 _ hr26 => ?_)
    obtain ⟨rfl, rfl⟩ := hr26
    refine g_if_eq F 37 (b2i_in _) dX6_cellOf_29 (by decide) (fun c29 => ?_) (fun c29 => ?_)
    · skip
      have c29 : ¬ (0 ≤ c ∧ c < 12) := b2i_f c29
      refine g_iconst F dX6_cellOf_37 ?_
      refine g_callI F (stk := [.int (iI (-1)), .ref (ma 100)]) (st := []) (k_X6_refuse κ ma (mA M 10 (fun _ => 0)) (-1) (by omega)) cal_X6_refuse lm_X6_138 0 rfl rfl rfl rfl (by decide) rfl (Nat.le_of_ble_eq_true rfl) dX6_cellOf_38 (fun r38 ws38 _ hr38 => ?_)
      obtain ⟨rfl, rfl⟩ := hr38
      refine g_top (y := iI (-1)) rfl ?_
      refine g_ws (ws' := mw κ ma (mA (mA M 10 (fun _ => 0)) 11 (uI (M 11) (-(-1)) (M 11 (-(-1)) + 1)))) rfl ?_
      have hq : (-1) = qCellOf (cl M) c w := by unfold qCellOf; show _ = if ¬ (0 ≤ c ∧ c < 12) then -1 else if w = 0 then M 0 c else if w = 1 then M 1 c else if w = 2 then M 2 c else if w = 3 then M 3 c else if w = 4 then pull (cl M) c else if w = 5 then wearing (cl M) (M 4 0 + 1) c else if w = 6 then hold (cl M) c else if w = 7 then (if hole (cl M) c then 1 else 0) else -2; (repeat' split) <;> omega
      exact K mw_same ⟨_, rfl, iIc hq, ⟨rfl, rfl, rfl, rfl, rfl, rfl, rfl, rfl, rfl, rfl, rfl, rfl, rfl, rfl, rfl, rfl, rfl, rfl⟩, (by rw [← hq]; exact (rfa_r (by omega)).symm)⟩ rfl dX6_cellOf_41
    · skip
      have c29 : 0 ≤ c ∧ c < 12 := b2i_t c29
      refine g_bipush F dX6_cellOf_32 (by decide +kernel) ?_
      refine g_goto F 38 dX6_cellOf_34 (by decide) ?_
      refine g_callI F (stk := [.int (iI (-2)), .ref (ma 100)]) (st := []) (k_X6_refuse κ ma (mA M 10 (fun _ => 0)) (-2) (by omega)) cal_X6_refuse lm_X6_138 0 rfl rfl rfl rfl (by decide) rfl (Nat.le_of_ble_eq_true rfl) dX6_cellOf_38 (fun r38 ws38 _ hr38 => ?_)
      obtain ⟨rfl, rfl⟩ := hr38
      refine g_top (y := iI (-2)) rfl ?_
      refine g_ws (ws' := mw κ ma (mA (mA M 10 (fun _ => 0)) 11 (uI (M 11) (-(-2)) (M 11 (-(-2)) + 1)))) rfl ?_
      have hq : (-2) = qCellOf (cl M) c w := by unfold qCellOf; show _ = if ¬ (0 ≤ c ∧ c < 12) then -1 else if w = 0 then M 0 c else if w = 1 then M 1 c else if w = 2 then M 2 c else if w = 3 then M 3 c else if w = 4 then pull (cl M) c else if w = 5 then wearing (cl M) (M 4 0 + 1) c else if w = 6 then hold (cl M) c else if w = 7 then (if hole (cl M) c then 1 else 0) else -2; (repeat' split) <;> omega
      exact K mw_same ⟨_, rfl, iIc hq, ⟨rfl, rfl, rfl, rfl, rfl, rfl, rfl, rfl, rfl, rfl, rfl, rfl, rfl, rfl, rfl, rfl, rfl, rfl⟩, (by rw [← hq]; exact (rfa_r (by omega)).symm)⟩ rfl dX6_cellOf_41
  · skip
    have c9 : 0 ≤ c ∧ c < 12 := b2i_t c9
    refine g_iload_n F 2 dX6_cellOf_12 rfl ?_
    refine g_i2l F (by omega) dX6_cellOf_13 ?_
    refine g_lconst F (z := 0) dX6_cellOf_14 rfl ?_
    refine g_ldc2 F (z := 7) ll_X6_225 (by decide +kernel) dX6_cellOf_15 ?_
    refine g_callSI F (stk := [.long (iL 7), .long (iL 0), .long (iL w)]) (st := []) (k_X6_in κ (mw κ ma (mA M 10 (fun _ => 0))) w 0 7 (by omega)) cal_X6_in lm_X6_97 rfl (by decide) rfl (Nat.le_of_ble_eq_true rfl) dX6_cellOf_18 (fun r18 ws18 _ hr18 => ?_)
    obtain ⟨rfl, rfl⟩ := hr18
    refine g_if_ne F 42 (b2i_in _) dX6_cellOf_21 (by decide) (fun c21 => ?_) (fun c21 => ?_)
    · skip
      have c21 : 0 ≤ w ∧ w ≤ 7 := b2i_t c21
      refine g_iload_n F 2 dX6_cellOf_42 rfl ?_
      have hk : (0 ≤ M 0 c ∧ M 0 c ≤ 5) ∧ (0 ≤ M 1 c ∧ M 1 c ≤ 9) ∧ (0 ≤ M 2 c ∧ M 2 c ≤ 99) ∧ 0 ≤ M 3 c ∧ M 3 c ≤ 99 := ok.r (by omega) (by omega)
      have hy0 : 0 ≤ M 4 0 := ok.2
      have hp := pull_bd ok.A (c := c) (by omega) (by omega)
      have hw := wearing_bd ok.A (y := M 4 0 + 1) (c := c) (by omega) (by omega)
      have hh := hold_bd ok.A (c := c) (by omega) (by omega)
      by_cases c43_0 : w = 0
      · skip
        refine g_tsw_in F 84 (by omega) dX6_cellOf_43 (by omega) (by omega) (by rw [c43_0]; rfl) (by decide) ?_
        refine g_aload_n F 0 dX6_cellOf_84 rfl ?_
        refine gm_get_0 F dX6_cellOf_85 ?_
        refine g_iload_n F 1 dX6_cellOf_88 rfl ?_
        refine gm_ald_0 F (by omega) dX6_cellOf_89 ?_
        refine g_top (y := iI (M 0 c)) rfl ?_
        have hq : M 0 c = qCellOf (cl M) c w := by unfold qCellOf; show _ = if ¬ (0 ≤ c ∧ c < 12) then -1 else if w = 0 then M 0 c else if w = 1 then M 1 c else if w = 2 then M 2 c else if w = 3 then M 3 c else if w = 4 then pull (cl M) c else if w = 5 then wearing (cl M) (M 4 0 + 1) c else if w = 6 then hold (cl M) c else if w = 7 then (if hole (cl M) c then 1 else 0) else -2; (repeat' split) <;> omega
        exact K mw_same ⟨_, rfl, iIc hq, ⟨rfl, rfl, rfl, rfl, rfl, rfl, rfl, rfl, rfl, rfl, rfl, rfl, rfl, rfl, rfl, rfl, rfl, rfl⟩, (by rw [← hq]; exact (rfa_n (by omega)).symm)⟩ rfl dX6_cellOf_90
      by_cases c43_1 : w = 1
      · skip
        refine g_tsw_in F 91 (by omega) dX6_cellOf_43 (by omega) (by omega) (by rw [c43_1]; rfl) (by decide) ?_
        refine g_aload_n F 0 dX6_cellOf_91 rfl ?_
        refine gm_get_1 F dX6_cellOf_92 ?_
        refine g_iload_n F 1 dX6_cellOf_95 rfl ?_
        refine gm_ald_1 F (by omega) dX6_cellOf_96 ?_
        refine g_top (y := iI (M 1 c)) rfl ?_
        have hq : M 1 c = qCellOf (cl M) c w := by unfold qCellOf; show _ = if ¬ (0 ≤ c ∧ c < 12) then -1 else if w = 0 then M 0 c else if w = 1 then M 1 c else if w = 2 then M 2 c else if w = 3 then M 3 c else if w = 4 then pull (cl M) c else if w = 5 then wearing (cl M) (M 4 0 + 1) c else if w = 6 then hold (cl M) c else if w = 7 then (if hole (cl M) c then 1 else 0) else -2; (repeat' split) <;> omega
        exact K mw_same ⟨_, rfl, iIc hq, ⟨rfl, rfl, rfl, rfl, rfl, rfl, rfl, rfl, rfl, rfl, rfl, rfl, rfl, rfl, rfl, rfl, rfl, rfl⟩, (by rw [← hq]; exact (rfa_n (by omega)).symm)⟩ rfl dX6_cellOf_97
      by_cases c43_2 : w = 2
      · skip
        refine g_tsw_in F 98 (by omega) dX6_cellOf_43 (by omega) (by omega) (by rw [c43_2]; rfl) (by decide) ?_
        refine g_aload_n F 0 dX6_cellOf_98 rfl ?_
        refine gm_get_2 F dX6_cellOf_99 ?_
        refine g_iload_n F 1 dX6_cellOf_102 rfl ?_
        refine gm_ald_2 F (by omega) dX6_cellOf_103 ?_
        refine g_top (y := iI (M 2 c)) rfl ?_
        have hq : M 2 c = qCellOf (cl M) c w := by unfold qCellOf; show _ = if ¬ (0 ≤ c ∧ c < 12) then -1 else if w = 0 then M 0 c else if w = 1 then M 1 c else if w = 2 then M 2 c else if w = 3 then M 3 c else if w = 4 then pull (cl M) c else if w = 5 then wearing (cl M) (M 4 0 + 1) c else if w = 6 then hold (cl M) c else if w = 7 then (if hole (cl M) c then 1 else 0) else -2; (repeat' split) <;> omega
        exact K mw_same ⟨_, rfl, iIc hq, ⟨rfl, rfl, rfl, rfl, rfl, rfl, rfl, rfl, rfl, rfl, rfl, rfl, rfl, rfl, rfl, rfl, rfl, rfl⟩, (by rw [← hq]; exact (rfa_n (by omega)).symm)⟩ rfl dX6_cellOf_104
      by_cases c43_3 : w = 3
      · skip
        refine g_tsw_in F 105 (by omega) dX6_cellOf_43 (by omega) (by omega) (by rw [c43_3]; rfl) (by decide) ?_
        refine g_aload_n F 0 dX6_cellOf_105 rfl ?_
        refine gm_get_3 F dX6_cellOf_106 ?_
        refine g_iload_n F 1 dX6_cellOf_109 rfl ?_
        refine gm_ald_3 F (by omega) dX6_cellOf_110 ?_
        refine g_top (y := iI (M 3 c)) rfl ?_
        have hq : M 3 c = qCellOf (cl M) c w := by unfold qCellOf; show _ = if ¬ (0 ≤ c ∧ c < 12) then -1 else if w = 0 then M 0 c else if w = 1 then M 1 c else if w = 2 then M 2 c else if w = 3 then M 3 c else if w = 4 then pull (cl M) c else if w = 5 then wearing (cl M) (M 4 0 + 1) c else if w = 6 then hold (cl M) c else if w = 7 then (if hole (cl M) c then 1 else 0) else -2; (repeat' split) <;> omega
        exact K mw_same ⟨_, rfl, iIc hq, ⟨rfl, rfl, rfl, rfl, rfl, rfl, rfl, rfl, rfl, rfl, rfl, rfl, rfl, rfl, rfl, rfl, rfl, rfl⟩, (by rw [← hq]; exact (rfa_n (by omega)).symm)⟩ rfl dX6_cellOf_111
      by_cases c43_4 : w = 4
      · skip
        refine g_tsw_in F 112 (by omega) dX6_cellOf_43 (by omega) (by omega) (by rw [c43_4]; rfl) (by decide) ?_
        refine g_aload_n F 0 dX6_cellOf_112 rfl ?_
        refine g_iload_n F 1 dX6_cellOf_113 rfl ?_
        refine g_callI F (stk := [.int (iI c), .ref (ma 100)]) (st := []) (k_X6_pullOf κ ma (mA M 10 (fun _ => 0)) c (by omega) ok.A) cal_X6_pullOf lm_X6_114 0 rfl rfl rfl rfl (by decide) rfl (Nat.le_of_ble_eq_true rfl) dX6_cellOf_114 (fun r114 ws114 _ hr114 => ?_)
        obtain ⟨rfl, rfl⟩ := hr114
        refine g_top (y := iI (pull (cl M) c)) rfl ?_
        have hq : pull (cl M) c = qCellOf (cl M) c w := by unfold qCellOf; show _ = if ¬ (0 ≤ c ∧ c < 12) then -1 else if w = 0 then M 0 c else if w = 1 then M 1 c else if w = 2 then M 2 c else if w = 3 then M 3 c else if w = 4 then pull (cl M) c else if w = 5 then wearing (cl M) (M 4 0 + 1) c else if w = 6 then hold (cl M) c else if w = 7 then (if hole (cl M) c then 1 else 0) else -2; (repeat' split) <;> omega
        exact K mw_same ⟨_, rfl, iIc hq, ⟨rfl, rfl, rfl, rfl, rfl, rfl, rfl, rfl, rfl, rfl, rfl, rfl, rfl, rfl, rfl, rfl, rfl, rfl⟩, (by rw [← hq]; exact (rfa_n (by omega)).symm)⟩ rfl dX6_cellOf_117
      by_cases c43_5 : w = 5
      · skip
        refine g_tsw_in F 118 (by omega) dX6_cellOf_43 (by omega) (by omega) (by rw [c43_5]; rfl) (by decide) ?_
        refine g_aload_n F 0 dX6_cellOf_118 rfl ?_
        refine g_iload_n F 1 dX6_cellOf_119 rfl ?_
        refine g_aload_n F 0 dX6_cellOf_120 rfl ?_
        refine gm_get_4 F dX6_cellOf_121 ?_
        refine g_top (y := iI (M 4 0)) rfl ?_
        refine g_iconst F dX6_cellOf_124 ?_
        refine g_iadd F dX6_cellOf_125 ?_
        refine g_callI F (stk := [.int (iI ((M 4 0) + 1)), .int (iI c), .ref (ma 100)]) (st := []) (k_X6_wearsIn κ ma (mA M 10 (fun _ => 0)) c ((M 4 0) + 1) (by omega) (by omega) ok.A) cal_X6_wearsIn lm_X6_128 0 rfl rfl rfl rfl (by decide) rfl (Nat.le_of_ble_eq_true rfl) dX6_cellOf_126 (fun r126 ws126 _ hr126 => ?_)
        obtain ⟨rfl, rfl⟩ := hr126
        refine g_top (y := iI (wearing (cl M) ((M 4 0) + 1) c)) rfl ?_
        have hq : wearing (cl M) ((M 4 0) + 1) c = qCellOf (cl M) c w := by unfold qCellOf; show _ = if ¬ (0 ≤ c ∧ c < 12) then -1 else if w = 0 then M 0 c else if w = 1 then M 1 c else if w = 2 then M 2 c else if w = 3 then M 3 c else if w = 4 then pull (cl M) c else if w = 5 then wearing (cl M) (M 4 0 + 1) c else if w = 6 then hold (cl M) c else if w = 7 then (if hole (cl M) c then 1 else 0) else -2; (repeat' split) <;> omega
        exact K mw_same ⟨_, rfl, iIc hq, ⟨rfl, rfl, rfl, rfl, rfl, rfl, rfl, rfl, rfl, rfl, rfl, rfl, rfl, rfl, rfl, rfl, rfl, rfl⟩, (by rw [← hq]; exact (rfa_n (by omega)).symm)⟩ rfl dX6_cellOf_129
      by_cases c43_6 : w = 6
      · skip
        refine g_tsw_in F 130 (by omega) dX6_cellOf_43 (by omega) (by omega) (by rw [c43_6]; rfl) (by decide) ?_
        refine g_aload_n F 0 dX6_cellOf_130 rfl ?_
        refine g_iload_n F 1 dX6_cellOf_131 rfl ?_
        refine g_callI F (stk := [.int (iI c), .ref (ma 100)]) (st := []) (k_X6_holdsOf κ ma (mA M 10 (fun _ => 0)) c (by omega) ok.A) cal_X6_holdsOf lm_X6_118 0 rfl rfl rfl rfl (by decide) rfl (Nat.le_of_ble_eq_true rfl) dX6_cellOf_132 (fun r132 ws132 _ hr132 => ?_)
        obtain ⟨rfl, rfl⟩ := hr132
        refine g_top (y := iI (hold (cl M) c)) rfl ?_
        have hq : hold (cl M) c = qCellOf (cl M) c w := by unfold qCellOf; show _ = if ¬ (0 ≤ c ∧ c < 12) then -1 else if w = 0 then M 0 c else if w = 1 then M 1 c else if w = 2 then M 2 c else if w = 3 then M 3 c else if w = 4 then pull (cl M) c else if w = 5 then wearing (cl M) (M 4 0 + 1) c else if w = 6 then hold (cl M) c else if w = 7 then (if hole (cl M) c then 1 else 0) else -2; (repeat' split) <;> omega
        exact K mw_same ⟨_, rfl, iIc hq, ⟨rfl, rfl, rfl, rfl, rfl, rfl, rfl, rfl, rfl, rfl, rfl, rfl, rfl, rfl, rfl, rfl, rfl, rfl⟩, (by rw [← hq]; exact (rfa_n (by omega)).symm)⟩ rfl dX6_cellOf_135
      refine g_tsw_out F 136 (by omega) dX6_cellOf_43 (by omega) (by decide) ?_
      refine g_aload_n F 0 dX6_cellOf_136 rfl ?_
      refine g_iload_n F 1 dX6_cellOf_137 rfl ?_
      refine g_callI F (stk := [.int (iI c), .ref (ma 100)]) (st := []) (k_X6_isHole κ ma (mA M 10 (fun _ => 0)) c (by omega) ok) cal_X6_isHole lm_X6_121 0 rfl rfl rfl rfl (by decide) rfl (Nat.le_of_ble_eq_true rfl) dX6_cellOf_138 (fun r138 ws138 _ hr138 => ?_)
      obtain ⟨rfl, rfl⟩ := hr138
      refine g_top (y := iI (b2i (hole (cl M) c))) rfl ?_
      refine g_if_eq F 148 (b2i_in _) dX6_cellOf_141 (by decide) (fun c141 => ?_) (fun c141 => ?_)
      · skip
        have c141 : ¬ (hole (cl M) c) := b2i_f c141
        refine g_iconst F dX6_cellOf_148 ?_
        have hq : 0 = qCellOf (cl M) c w := by unfold qCellOf; show _ = if ¬ (0 ≤ c ∧ c < 12) then -1 else if w = 0 then M 0 c else if w = 1 then M 1 c else if w = 2 then M 2 c else if w = 3 then M 3 c else if w = 4 then pull (cl M) c else if w = 5 then wearing (cl M) (M 4 0 + 1) c else if w = 6 then hold (cl M) c else if w = 7 then (if hole (cl M) c then 1 else 0) else -2; (repeat' split) <;> omega
        exact K mw_same ⟨_, rfl, iIc hq, ⟨rfl, rfl, rfl, rfl, rfl, rfl, rfl, rfl, rfl, rfl, rfl, rfl, rfl, rfl, rfl, rfl, rfl, rfl⟩, (by rw [← hq]; exact (rfa_n (by omega)).symm)⟩ rfl dX6_cellOf_149
      · skip
        have c141 : hole (cl M) c := b2i_t c141
        refine g_iconst F dX6_cellOf_144 ?_
        refine g_goto F 149 dX6_cellOf_145 (by decide) ?_
        have hq : 1 = qCellOf (cl M) c w := by unfold qCellOf; show _ = if ¬ (0 ≤ c ∧ c < 12) then -1 else if w = 0 then M 0 c else if w = 1 then M 1 c else if w = 2 then M 2 c else if w = 3 then M 3 c else if w = 4 then pull (cl M) c else if w = 5 then wearing (cl M) (M 4 0 + 1) c else if w = 6 then hold (cl M) c else if w = 7 then (if hole (cl M) c then 1 else 0) else -2; (repeat' split) <;> omega
        exact K mw_same ⟨_, rfl, iIc hq, ⟨rfl, rfl, rfl, rfl, rfl, rfl, rfl, rfl, rfl, rfl, rfl, rfl, rfl, rfl, rfl, rfl, rfl, rfl⟩, (by rw [← hq]; exact (rfa_n (by omega)).symm)⟩ rfl dX6_cellOf_149
    · skip
      have c21 : ¬ (0 ≤ w ∧ w ≤ 7) := b2i_f c21
      refine g_aload_n F 0 dX6_cellOf_24 rfl ?_
      refine g_iload_n F 1 dX6_cellOf_25 rfl ?_
      refine g_callSI F (stk := [.int (iI c), .ref (ma 100)]) (st := [.ref (ma 100)]) (k_X6_isCell κ (mw κ ma (mA M 10 (fun _ => 0))) c (by omega)) cal_X6_isCell lm_X6_222 rfl (by decide) rfl (Nat.le_of_ble_eq_true rfl) dX6_cellOf_26 (fun r26 ws26 _ hr26 => ?_)
      obtain ⟨rfl, rfl⟩ := hr26
      refine g_if_eq F 37 (b2i_in _) dX6_cellOf_29 (by decide) (fun c29 => ?_) (fun c29 => ?_)
      · skip
        have c29 : ¬ (0 ≤ c ∧ c < 12) := b2i_f c29
        refine g_iconst F dX6_cellOf_37 ?_
        refine g_callI F (stk := [.int (iI (-1)), .ref (ma 100)]) (st := []) (k_X6_refuse κ ma (mA M 10 (fun _ => 0)) (-1) (by omega)) cal_X6_refuse lm_X6_138 0 rfl rfl rfl rfl (by decide) rfl (Nat.le_of_ble_eq_true rfl) dX6_cellOf_38 (fun r38 ws38 _ hr38 => ?_)
        obtain ⟨rfl, rfl⟩ := hr38
        refine g_top (y := iI (-1)) rfl ?_
        refine g_ws (ws' := mw κ ma (mA (mA M 10 (fun _ => 0)) 11 (uI (M 11) (-(-1)) (M 11 (-(-1)) + 1)))) rfl ?_
        have hq : (-1) = qCellOf (cl M) c w := by unfold qCellOf; show _ = if ¬ (0 ≤ c ∧ c < 12) then -1 else if w = 0 then M 0 c else if w = 1 then M 1 c else if w = 2 then M 2 c else if w = 3 then M 3 c else if w = 4 then pull (cl M) c else if w = 5 then wearing (cl M) (M 4 0 + 1) c else if w = 6 then hold (cl M) c else if w = 7 then (if hole (cl M) c then 1 else 0) else -2; (repeat' split) <;> omega
        exact K mw_same ⟨_, rfl, iIc hq, ⟨rfl, rfl, rfl, rfl, rfl, rfl, rfl, rfl, rfl, rfl, rfl, rfl, rfl, rfl, rfl, rfl, rfl, rfl⟩, (by rw [← hq]; exact (rfa_r (by omega)).symm)⟩ rfl dX6_cellOf_41
      · skip
        have c29 : 0 ≤ c ∧ c < 12 := b2i_t c29
        refine g_bipush F dX6_cellOf_32 (by decide +kernel) ?_
        refine g_goto F 38 dX6_cellOf_34 (by decide) ?_
        refine g_callI F (stk := [.int (iI (-2)), .ref (ma 100)]) (st := []) (k_X6_refuse κ ma (mA M 10 (fun _ => 0)) (-2) (by omega)) cal_X6_refuse lm_X6_138 0 rfl rfl rfl rfl (by decide) rfl (Nat.le_of_ble_eq_true rfl) dX6_cellOf_38 (fun r38 ws38 _ hr38 => ?_)
        obtain ⟨rfl, rfl⟩ := hr38
        refine g_top (y := iI (-2)) rfl ?_
        refine g_ws (ws' := mw κ ma (mA (mA M 10 (fun _ => 0)) 11 (uI (M 11) (-(-2)) (M 11 (-(-2)) + 1)))) rfl ?_
        have hq : (-2) = qCellOf (cl M) c w := by unfold qCellOf; show _ = if ¬ (0 ≤ c ∧ c < 12) then -1 else if w = 0 then M 0 c else if w = 1 then M 1 c else if w = 2 then M 2 c else if w = 3 then M 3 c else if w = 4 then pull (cl M) c else if w = 5 then wearing (cl M) (M 4 0 + 1) c else if w = 6 then hold (cl M) c else if w = 7 then (if hole (cl M) c then 1 else 0) else -2; (repeat' split) <;> omega
        exact K mw_same ⟨_, rfl, iIc hq, ⟨rfl, rfl, rfl, rfl, rfl, rfl, rfl, rfl, rfl, rfl, rfl, rfl, rfl, rfl, rfl, rfl, rfl, rfl⟩, (by rw [← hq]; exact (rfa_r (by omega)).symm)⟩ rfl dX6_cellOf_41
theorem dX6_behind_0 : decode cX6_behind 0 = .ok (.aload_n 0, 1) := by decide +kernel
theorem dX6_behind_1 : decode cX6_behind 1 = .ok (.iconst 0, 1) := by decide +kernel
theorem dX6_behind_2 : decode cX6_behind 2 = .ok (.putfield 91, 3) := by decide +kernel
theorem dX6_behind_5 : decode cX6_behind 5 = .ok (.iload_n 1, 1) := by decide +kernel
theorem dX6_behind_6 : decode cX6_behind 6 = .ok (.invokestatic 222, 3) := by decide +kernel
theorem dX6_behind_9 : decode cX6_behind 9 = .ok (.ifCond .eq 13, 3) := by decide +kernel
theorem dX6_behind_12 : decode cX6_behind 12 = .ok (.iload_n 2, 1) := by decide +kernel
theorem dX6_behind_13 : decode cX6_behind 13 = .ok (.iconst 0, 1) := by decide +kernel
theorem dX6_behind_14 : decode cX6_behind 14 = .ok (.bipush 60, 2) := by decide +kernel
theorem dX6_behind_16 : decode cX6_behind 16 = .ok (.invokestatic 237, 3) := by decide +kernel
theorem dX6_behind_19 : decode cX6_behind 19 = .ok (.goto 4, 3) := by decide +kernel
theorem dX6_behind_22 : decode cX6_behind 22 = .ok (.iconst (-1), 1) := by decide +kernel
theorem dX6_behind_23 : decode cX6_behind 23 = .ok (.iload_n 3, 1) := by decide +kernel
theorem dX6_behind_24 : decode cX6_behind 24 = .ok (.iconst 2, 1) := by decide +kernel
theorem dX6_behind_25 : decode cX6_behind 25 = .ok (.invokestatic 247, 3) := by decide +kernel
theorem dX6_behind_28 : decode cX6_behind 28 = .ok (.istore 4, 2) := by decide +kernel
theorem dX6_behind_30 : decode cX6_behind 30 = .ok (.iload 4, 2) := by decide +kernel
theorem dX6_behind_32 : decode cX6_behind 32 = .ok (.ifCond .ge 10, 3) := by decide +kernel
theorem dX6_behind_35 : decode cX6_behind 35 = .ok (.aload_n 0, 1) := by decide +kernel
theorem dX6_behind_36 : decode cX6_behind 36 = .ok (.iload 4, 2) := by decide +kernel
theorem dX6_behind_38 : decode cX6_behind 38 = .ok (.invokevirtual 138, 3) := by decide +kernel
theorem dX6_behind_41 : decode cX6_behind 41 = .ok (.ireturn, 1) := by decide +kernel
theorem dX6_behind_42 : decode cX6_behind 42 = .ok (.aload_n 0, 1) := by decide +kernel
theorem dX6_behind_43 : decode cX6_behind 43 = .ok (.invokevirtual 191, 3) := by decide +kernel
theorem dX6_behind_46 : decode cX6_behind 46 = .ok (.aload_n 0, 1) := by decide +kernel
theorem dX6_behind_47 : decode cX6_behind 47 = .ok (.iload_n 2, 1) := by decide +kernel
theorem dX6_behind_48 : decode cX6_behind 48 = .ok (.invokevirtual 184, 3) := by decide +kernel
theorem dX6_behind_51 : decode cX6_behind 51 = .ok (.iload_n 3, 1) := by decide +kernel
theorem dX6_behind_52 : decode cX6_behind 52 = .ok (.ifCond .ne 12, 3) := by decide +kernel
theorem dX6_behind_55 : decode cX6_behind 55 = .ok (.aload_n 0, 1) := by decide +kernel
theorem dX6_behind_56 : decode cX6_behind 56 = .ok (.getfield 19, 3) := by decide +kernel
theorem dX6_behind_59 : decode cX6_behind 59 = .ok (.iload_n 1, 1) := by decide +kernel
theorem dX6_behind_60 : decode cX6_behind 60 = .ok (.iaload, 1) := by decide +kernel
theorem dX6_behind_61 : decode cX6_behind 61 = .ok (.goto 29, 3) := by decide +kernel
theorem dX6_behind_64 : decode cX6_behind 64 = .ok (.iload_n 3, 1) := by decide +kernel
theorem dX6_behind_65 : decode cX6_behind 65 = .ok (.iconst 1, 1) := by decide +kernel
theorem dX6_behind_66 : decode cX6_behind 66 = .ok (.if_icmp .ne 11, 3) := by decide +kernel
theorem dX6_behind_69 : decode cX6_behind 69 = .ok (.aload_n 0, 1) := by decide +kernel
theorem dX6_behind_70 : decode cX6_behind 70 = .ok (.iload_n 1, 1) := by decide +kernel
theorem dX6_behind_71 : decode cX6_behind 71 = .ok (.invokevirtual 114, 3) := by decide +kernel
theorem dX6_behind_74 : decode cX6_behind 74 = .ok (.goto 16, 3) := by decide +kernel
theorem dX6_behind_77 : decode cX6_behind 77 = .ok (.aload_n 0, 1) := by decide +kernel
theorem dX6_behind_78 : decode cX6_behind 78 = .ok (.iload_n 1, 1) := by decide +kernel
theorem dX6_behind_79 : decode cX6_behind 79 = .ok (.invokevirtual 121, 3) := by decide +kernel
theorem dX6_behind_82 : decode cX6_behind 82 = .ok (.ifCond .eq 7, 3) := by decide +kernel
theorem dX6_behind_85 : decode cX6_behind 85 = .ok (.iconst 1, 1) := by decide +kernel
theorem dX6_behind_86 : decode cX6_behind 86 = .ok (.goto 4, 3) := by decide +kernel
theorem dX6_behind_89 : decode cX6_behind 89 = .ok (.iconst 0, 1) := by decide +kernel
theorem dX6_behind_90 : decode cX6_behind 90 = .ok (.istore 5, 2) := by decide +kernel
theorem dX6_behind_92 : decode cX6_behind 92 = .ok (.aload_n 0, 1) := by decide +kernel
theorem dX6_behind_93 : decode cX6_behind 93 = .ok (.invokevirtual 197, 3) := by decide +kernel
theorem dX6_behind_96 : decode cX6_behind 96 = .ok (.iload 5, 2) := by decide +kernel
theorem dX6_behind_98 : decode cX6_behind 98 = .ok (.ireturn, 1) := by decide +kernel
set_option maxRecDepth 100000 in
set_option maxHeartbeats 4000000 in
theorem k_X6_behind (κ : Kp) (ma : Nat → Nat) (M : MS) (c : Int) (n : Int) (w : Int)  (ha_c : In32 c) (ha_n : In32 n) (ha_w : In32 w) (ok : okC (cl M)) (hy : M 4 0 ≤ 999) : mI κ yX6_behind cX6_behind 6 .int 5 [.ref (ma 100), .int (iI c), .int (iI n), .int (iI w)] (mw κ ma M) (qM κ ma M (qBehind (cl M) c n w)) := by
  refine mI_of (by decide) (Nat.le_of_ble_eq_true rfl) (fun E F K => ?_)
  refine g_lv (lv' := [(0, .ref (ma 100)), (1, .int (iI c)), (2, .int (iI n)), (3, .int (iI w))]) rfl ?_
  refine g_aload_n F 0 dX6_behind_0 rfl ?_
  refine g_iconst F dX6_behind_1 ?_
  refine gm_put_10 F dX6_behind_2 ?_
  refine g_iload_n F 1 dX6_behind_5 rfl ?_
  refine g_callSI F (stk := [.int (iI c)]) (st := []) (k_X6_isCell κ (mw κ ma (mA M 10 (fun _ => 0))) c (by omega)) cal_X6_isCell lm_X6_222 rfl (by decide) rfl (Nat.le_of_ble_eq_true rfl) dX6_behind_6 (fun r6 ws6 _ hr6 => ?_)
  obtain ⟨rfl, rfl⟩ := hr6
  refine g_if_eq F 22 (b2i_in _) dX6_behind_9 (by decide) (fun c9 => ?_) (fun c9 => ?_)
  · skip
    have c9 : ¬ (0 ≤ c ∧ c < 12) := b2i_f c9
    refine g_iconst F dX6_behind_22 ?_
    refine g_iload_n F 3 dX6_behind_23 rfl ?_
    refine g_iconst F dX6_behind_24 ?_
    refine g_callSI F (stk := [.int (iI 2), .int (iI w), .int (iI (-1))]) (st := []) (k_X6_wrongBit κ (mw κ ma (mA M 10 (fun _ => 0))) (-1) w 2 (by omega)) cal_X6_wrongBit lm_X6_247 rfl (by decide) rfl (Nat.le_of_ble_eq_true rfl) dX6_behind_25 (fun r25 ws25 _ hr25 => ?_)
    obtain ⟨rfl, rfl⟩ := hr25
    have hwb25 := wb_spec (-1) w 2
    refine g_istore F (lv' := [(4, .int (iI (wbit (-1) w 2))), (0, .ref (ma 100)), (1, .int (iI c)), (2, .int (iI n)), (3, .int (iI w))]) dX6_behind_28 (by decide) rfl ?_
    refine g_iload F 0 dX6_behind_30 rfl ?_
    refine g_if_ge F 42 (by omega) dX6_behind_32 (by decide) (fun c32 => ?_) (fun c32 => ?_)
    · skip
      refine g_aload_n F 1 dX6_behind_42 rfl ?_
      refine g_callV F (stk := [.ref (ma 100)]) (st := []) (k_X6_think κ ma (mA M 10 (fun _ => 0))) cal_X6_think lm_X6_191 0 rfl rfl rfl rfl (by decide) rfl (Nat.le_of_ble_eq_true rfl) dX6_behind_43 (fun ws43 _ hr43 => ?_)
      obtain rfl := hr43
      refine g_ws (ws' := mw κ ma (thk (mA M 10 (fun _ => 0)))) rfl ?_
      refine g_aload_n F 1 dX6_behind_46 rfl ?_
      refine g_iload_n F 3 dX6_behind_47 rfl ?_
      refine g_callV F (stk := [.int (iI n), .ref (ma 100)]) (st := []) (k_X6_goYears κ ma (thk (mA M 10 (fun _ => 0))) n (show (0 ≤ n ∧ n ≤ 1000) ∧ (M 4 0) + n ≤ 1000000 from by omega) ok) cal_X6_goYears lm_X6_184 0 rfl rfl rfl rfl (by decide) rfl (Nat.le_of_ble_eq_true rfl) dX6_behind_48 (fun ws48 _ hr48 => ?_)
      obtain rfl := hr48
      refine g_ws (ws' := mw κ ma (stC (thk (mA M 10 (fun _ => 0))) (goI n (cl M)))) rfl ?_
      refine g_iload_n F 4 dX6_behind_51 rfl ?_
      refine g_if_ne F 64 (by omega) dX6_behind_52 (by decide) (fun c52 => ?_) (fun c52 => ?_)
      · skip
        refine g_iload_n F 4 dX6_behind_64 rfl ?_
        refine g_iconst F dX6_behind_65 ?_
        refine g_icmp_ne F 77 (by omega) dX6_behind_66 (by decide) (fun c66 => ?_) (fun c66 => ?_)
        · skip
          refine g_aload_n F 1 dX6_behind_77 rfl ?_
          refine g_iload_n F 2 dX6_behind_78 rfl ?_
          refine g_callI F (stk := [.int (iI c), .ref (ma 100)]) (st := []) (k_X6_isHole κ ma (stC (thk (mA M 10 (fun _ => 0))) (goI n (cl M))) c (by omega) (goI_ok ok n)) cal_X6_isHole lm_X6_121 0 rfl rfl rfl rfl (by decide) rfl (Nat.le_of_ble_eq_true rfl) dX6_behind_79 (fun r79 ws79 _ hr79 => ?_)
          obtain ⟨rfl, rfl⟩ := hr79
          refine g_top (y := iI (b2i (hole (goI n (cl M)) c))) rfl ?_
          refine g_if_eq F 89 (b2i_in _) dX6_behind_82 (by decide) (fun c82 => ?_) (fun c82 => ?_)
          · skip
            have c82 : ¬ (hole (goI n (cl M)) c) := b2i_f c82
            refine g_iconst F dX6_behind_89 ?_
            refine g_istore F (lv' := [(5, .int (iI 0)), (4, .int (iI (wbit (-1) w 2))), (0, .ref (ma 100)), (1, .int (iI c)), (2, .int (iI n)), (3, .int (iI w))]) dX6_behind_90 (by decide) rfl ?_
            refine g_aload_n F 2 dX6_behind_92 rfl ?_
            refine g_callV F (stk := [.ref (ma 100)]) (st := []) (k_X6_again κ ma (stC (thk (mA M 10 (fun _ => 0))) (goI n (cl M))) (mA M 10 (fun _ => 0)) (fun _ _ _ => rfl)) cal_X6_again lm_X6_197 0 rfl rfl rfl rfl (by decide) rfl (Nat.le_of_ble_eq_true rfl) dX6_behind_93 (fun ws93 _ hr93 => ?_)
            obtain rfl := hr93
            refine g_iload F 0 dX6_behind_96 rfl ?_
            have hp := pull_bd (goI_ok ok n).A (c := c) (by omega) (by omega)
            have hww := (goI_ok ok n).w c (by omega) (by omega)
            have hq : 0 = qBehind (cl M) c n w := by unfold qBehind; (repeat' split) <;> omega
            exact K mw_same ⟨_, rfl, iIc hq, ⟨rfl, rfl, rfl, rfl, rfl, rfl, rfl, rfl, rfl, rfl, rfl, rfl, rfl, rfl, rfl, rfl, rfl, rfl⟩, (by rw [← hq]; exact (rfa_n (by omega)).symm)⟩ rfl dX6_behind_98
          · skip
            have c82 : hole (goI n (cl M)) c := b2i_t c82
            refine g_iconst F dX6_behind_85 ?_
            refine g_goto F 90 dX6_behind_86 (by decide) ?_
            refine g_istore F (lv' := [(5, .int (iI 1)), (4, .int (iI (wbit (-1) w 2))), (0, .ref (ma 100)), (1, .int (iI c)), (2, .int (iI n)), (3, .int (iI w))]) dX6_behind_90 (by decide) rfl ?_
            refine g_aload_n F 2 dX6_behind_92 rfl ?_
            refine g_callV F (stk := [.ref (ma 100)]) (st := []) (k_X6_again κ ma (stC (thk (mA M 10 (fun _ => 0))) (goI n (cl M))) (mA M 10 (fun _ => 0)) (fun _ _ _ => rfl)) cal_X6_again lm_X6_197 0 rfl rfl rfl rfl (by decide) rfl (Nat.le_of_ble_eq_true rfl) dX6_behind_93 (fun ws93 _ hr93 => ?_)
            obtain rfl := hr93
            refine g_iload F 0 dX6_behind_96 rfl ?_
            have hp := pull_bd (goI_ok ok n).A (c := c) (by omega) (by omega)
            have hww := (goI_ok ok n).w c (by omega) (by omega)
            have hq : 1 = qBehind (cl M) c n w := by unfold qBehind; (repeat' split) <;> omega
            exact K mw_same ⟨_, rfl, iIc hq, ⟨rfl, rfl, rfl, rfl, rfl, rfl, rfl, rfl, rfl, rfl, rfl, rfl, rfl, rfl, rfl, rfl, rfl, rfl⟩, (by rw [← hq]; exact (rfa_n (by omega)).symm)⟩ rfl dX6_behind_98
        · skip
          refine g_aload_n F 1 dX6_behind_69 rfl ?_
          refine g_iload_n F 2 dX6_behind_70 rfl ?_
          refine g_callI F (stk := [.int (iI c), .ref (ma 100)]) (st := []) (k_X6_pullOf κ ma (stC (thk (mA M 10 (fun _ => 0))) (goI n (cl M))) c (by omega) (goI_ok ok n).A) cal_X6_pullOf lm_X6_114 0 rfl rfl rfl rfl (by decide) rfl (Nat.le_of_ble_eq_true rfl) dX6_behind_71 (fun r71 ws71 _ hr71 => ?_)
          obtain ⟨rfl, rfl⟩ := hr71
          refine g_top (y := iI (pull (goI n (cl M)) c)) rfl ?_
          refine g_goto F 90 dX6_behind_74 (by decide) ?_
          refine g_istore F (lv' := [(5, .int (iI (pull (goI n (cl M)) c))), (4, .int (iI (wbit (-1) w 2))), (0, .ref (ma 100)), (1, .int (iI c)), (2, .int (iI n)), (3, .int (iI w))]) dX6_behind_90 (by decide) rfl ?_
          refine g_aload_n F 2 dX6_behind_92 rfl ?_
          refine g_callV F (stk := [.ref (ma 100)]) (st := []) (k_X6_again κ ma (stC (thk (mA M 10 (fun _ => 0))) (goI n (cl M))) (mA M 10 (fun _ => 0)) (fun _ _ _ => rfl)) cal_X6_again lm_X6_197 0 rfl rfl rfl rfl (by decide) rfl (Nat.le_of_ble_eq_true rfl) dX6_behind_93 (fun ws93 _ hr93 => ?_)
          obtain rfl := hr93
          refine g_iload F 0 dX6_behind_96 rfl ?_
          have hp := pull_bd (goI_ok ok n).A (c := c) (by omega) (by omega)
          have hww := (goI_ok ok n).w c (by omega) (by omega)
          have hq : pull (goI n (cl M)) c = qBehind (cl M) c n w := by unfold qBehind; (repeat' split) <;> omega
          exact K mw_same ⟨_, rfl, iIc hq, ⟨rfl, rfl, rfl, rfl, rfl, rfl, rfl, rfl, rfl, rfl, rfl, rfl, rfl, rfl, rfl, rfl, rfl, rfl⟩, (by rw [← hq]; exact (rfa_n (by omega)).symm)⟩ rfl dX6_behind_98
      · skip
        refine g_aload_n F 1 dX6_behind_55 rfl ?_
        refine gm_get_3 F dX6_behind_56 ?_
        refine g_iload_n F 2 dX6_behind_59 rfl ?_
        refine gm_ald_3 F (by omega) dX6_behind_60 ?_
        refine g_top (y := iI ((we (goI n (cl M))) c)) rfl ?_
        refine g_goto F 90 dX6_behind_61 (by decide) ?_
        refine g_istore F (lv' := [(5, .int (iI ((we (goI n (cl M))) c))), (4, .int (iI (wbit (-1) w 2))), (0, .ref (ma 100)), (1, .int (iI c)), (2, .int (iI n)), (3, .int (iI w))]) dX6_behind_90 (by decide) rfl ?_
        refine g_aload_n F 2 dX6_behind_92 rfl ?_
        refine g_callV F (stk := [.ref (ma 100)]) (st := []) (k_X6_again κ ma (stC (thk (mA M 10 (fun _ => 0))) (goI n (cl M))) (mA M 10 (fun _ => 0)) (fun _ _ _ => rfl)) cal_X6_again lm_X6_197 0 rfl rfl rfl rfl (by decide) rfl (Nat.le_of_ble_eq_true rfl) dX6_behind_93 (fun ws93 _ hr93 => ?_)
        obtain rfl := hr93
        refine g_iload F 0 dX6_behind_96 rfl ?_
        have hp := pull_bd (goI_ok ok n).A (c := c) (by omega) (by omega)
        have hww := (goI_ok ok n).w c (by omega) (by omega)
        have hq : (we (goI n (cl M))) c = qBehind (cl M) c n w := by unfold qBehind; (repeat' split) <;> omega
        exact K mw_same ⟨_, rfl, iIc hq, ⟨rfl, rfl, rfl, rfl, rfl, rfl, rfl, rfl, rfl, rfl, rfl, rfl, rfl, rfl, rfl, rfl, rfl, rfl⟩, (by rw [← hq]; exact (rfa_n (by omega)).symm)⟩ rfl dX6_behind_98
    · skip
      refine g_aload_n F 1 dX6_behind_35 rfl ?_
      refine g_iload F 0 dX6_behind_36 rfl ?_
      refine g_callI F (stk := [.int (iI (wbit (-1) w 2)), .ref (ma 100)]) (st := []) (k_X6_refuse κ ma (mA M 10 (fun _ => 0)) (wbit (-1) w 2) (by omega)) cal_X6_refuse lm_X6_138 0 rfl rfl rfl rfl (by decide) rfl (Nat.le_of_ble_eq_true rfl) dX6_behind_38 (fun r38 ws38 _ hr38 => ?_)
      obtain ⟨rfl, rfl⟩ := hr38
      refine g_top (y := iI (wbit (-1) w 2)) rfl ?_
      refine g_ws (ws' := mw κ ma (mA (mA M 10 (fun _ => 0)) 11 (uI (M 11) (-(wbit (-1) w 2)) (M 11 (-(wbit (-1) w 2)) + 1)))) rfl ?_
      have hq : (wbit (-1) w 2) = qBehind (cl M) c n w := by unfold qBehind; (repeat' split) <;> omega
      exact K mw_same ⟨_, rfl, iIc hq, ⟨rfl, rfl, rfl, rfl, rfl, rfl, rfl, rfl, rfl, rfl, rfl, rfl, rfl, rfl, rfl, rfl, rfl, rfl⟩, (by rw [← hq]; exact (rfa_r (by omega)).symm)⟩ rfl dX6_behind_41
  · skip
    have c9 : 0 ≤ c ∧ c < 12 := b2i_t c9
    refine g_iload_n F 2 dX6_behind_12 rfl ?_
    refine g_iconst F dX6_behind_13 ?_
    refine g_bipush F dX6_behind_14 (by decide +kernel) ?_
    refine g_callSI F (stk := [.int (iI 60), .int (iI 0), .int (iI n)]) (st := []) (k_X6_wrongNumber κ (mw κ ma (mA M 10 (fun _ => 0))) n 0 60 (by omega)) cal_X6_wrongNumber lm_X6_237 rfl (by decide) rfl (Nat.le_of_ble_eq_true rfl) dX6_behind_16 (fun r16 ws16 _ hr16 => ?_)
    obtain ⟨rfl, rfl⟩ := hr16
    have hwn16 := wn_spec n 0 60
    refine g_goto F 23 dX6_behind_19 (by decide) ?_
    refine g_iload_n F 3 dX6_behind_23 rfl ?_
    refine g_iconst F dX6_behind_24 ?_
    refine g_callSI F (stk := [.int (iI 2), .int (iI w), .int (iI (wnum n 0 60))]) (st := []) (k_X6_wrongBit κ (mw κ ma (mA M 10 (fun _ => 0))) (wnum n 0 60) w 2 (by omega)) cal_X6_wrongBit lm_X6_247 rfl (by decide) rfl (Nat.le_of_ble_eq_true rfl) dX6_behind_25 (fun r25 ws25 _ hr25 => ?_)
    obtain ⟨rfl, rfl⟩ := hr25
    have hwb25 := wb_spec (wnum n 0 60) w 2
    refine g_istore F (lv' := [(4, .int (iI (wbit (wnum n 0 60) w 2))), (0, .ref (ma 100)), (1, .int (iI c)), (2, .int (iI n)), (3, .int (iI w))]) dX6_behind_28 (by decide) rfl ?_
    refine g_iload F 0 dX6_behind_30 rfl ?_
    refine g_if_ge F 42 (by omega) dX6_behind_32 (by decide) (fun c32 => ?_) (fun c32 => ?_)
    · skip
      refine g_aload_n F 1 dX6_behind_42 rfl ?_
      refine g_callV F (stk := [.ref (ma 100)]) (st := []) (k_X6_think κ ma (mA M 10 (fun _ => 0))) cal_X6_think lm_X6_191 0 rfl rfl rfl rfl (by decide) rfl (Nat.le_of_ble_eq_true rfl) dX6_behind_43 (fun ws43 _ hr43 => ?_)
      obtain rfl := hr43
      refine g_ws (ws' := mw κ ma (thk (mA M 10 (fun _ => 0)))) rfl ?_
      refine g_aload_n F 1 dX6_behind_46 rfl ?_
      refine g_iload_n F 3 dX6_behind_47 rfl ?_
      refine g_callV F (stk := [.int (iI n), .ref (ma 100)]) (st := []) (k_X6_goYears κ ma (thk (mA M 10 (fun _ => 0))) n (show (0 ≤ n ∧ n ≤ 1000) ∧ (M 4 0) + n ≤ 1000000 from by omega) ok) cal_X6_goYears lm_X6_184 0 rfl rfl rfl rfl (by decide) rfl (Nat.le_of_ble_eq_true rfl) dX6_behind_48 (fun ws48 _ hr48 => ?_)
      obtain rfl := hr48
      refine g_ws (ws' := mw κ ma (stC (thk (mA M 10 (fun _ => 0))) (goI n (cl M)))) rfl ?_
      refine g_iload_n F 4 dX6_behind_51 rfl ?_
      refine g_if_ne F 64 (by omega) dX6_behind_52 (by decide) (fun c52 => ?_) (fun c52 => ?_)
      · skip
        refine g_iload_n F 4 dX6_behind_64 rfl ?_
        refine g_iconst F dX6_behind_65 ?_
        refine g_icmp_ne F 77 (by omega) dX6_behind_66 (by decide) (fun c66 => ?_) (fun c66 => ?_)
        · skip
          refine g_aload_n F 1 dX6_behind_77 rfl ?_
          refine g_iload_n F 2 dX6_behind_78 rfl ?_
          refine g_callI F (stk := [.int (iI c), .ref (ma 100)]) (st := []) (k_X6_isHole κ ma (stC (thk (mA M 10 (fun _ => 0))) (goI n (cl M))) c (by omega) (goI_ok ok n)) cal_X6_isHole lm_X6_121 0 rfl rfl rfl rfl (by decide) rfl (Nat.le_of_ble_eq_true rfl) dX6_behind_79 (fun r79 ws79 _ hr79 => ?_)
          obtain ⟨rfl, rfl⟩ := hr79
          refine g_top (y := iI (b2i (hole (goI n (cl M)) c))) rfl ?_
          refine g_if_eq F 89 (b2i_in _) dX6_behind_82 (by decide) (fun c82 => ?_) (fun c82 => ?_)
          · skip
            have c82 : ¬ (hole (goI n (cl M)) c) := b2i_f c82
            refine g_iconst F dX6_behind_89 ?_
            refine g_istore F (lv' := [(5, .int (iI 0)), (4, .int (iI (wbit (wnum n 0 60) w 2))), (0, .ref (ma 100)), (1, .int (iI c)), (2, .int (iI n)), (3, .int (iI w))]) dX6_behind_90 (by decide) rfl ?_
            refine g_aload_n F 2 dX6_behind_92 rfl ?_
            refine g_callV F (stk := [.ref (ma 100)]) (st := []) (k_X6_again κ ma (stC (thk (mA M 10 (fun _ => 0))) (goI n (cl M))) (mA M 10 (fun _ => 0)) (fun _ _ _ => rfl)) cal_X6_again lm_X6_197 0 rfl rfl rfl rfl (by decide) rfl (Nat.le_of_ble_eq_true rfl) dX6_behind_93 (fun ws93 _ hr93 => ?_)
            obtain rfl := hr93
            refine g_iload F 0 dX6_behind_96 rfl ?_
            have hp := pull_bd (goI_ok ok n).A (c := c) (by omega) (by omega)
            have hww := (goI_ok ok n).w c (by omega) (by omega)
            have hq : 0 = qBehind (cl M) c n w := by unfold qBehind; (repeat' split) <;> omega
            exact K mw_same ⟨_, rfl, iIc hq, ⟨rfl, rfl, rfl, rfl, rfl, rfl, rfl, rfl, rfl, rfl, rfl, rfl, rfl, rfl, rfl, rfl, rfl, rfl⟩, (by rw [← hq]; exact (rfa_n (by omega)).symm)⟩ rfl dX6_behind_98
          · skip
            have c82 : hole (goI n (cl M)) c := b2i_t c82
            refine g_iconst F dX6_behind_85 ?_
            refine g_goto F 90 dX6_behind_86 (by decide) ?_
            refine g_istore F (lv' := [(5, .int (iI 1)), (4, .int (iI (wbit (wnum n 0 60) w 2))), (0, .ref (ma 100)), (1, .int (iI c)), (2, .int (iI n)), (3, .int (iI w))]) dX6_behind_90 (by decide) rfl ?_
            refine g_aload_n F 2 dX6_behind_92 rfl ?_
            refine g_callV F (stk := [.ref (ma 100)]) (st := []) (k_X6_again κ ma (stC (thk (mA M 10 (fun _ => 0))) (goI n (cl M))) (mA M 10 (fun _ => 0)) (fun _ _ _ => rfl)) cal_X6_again lm_X6_197 0 rfl rfl rfl rfl (by decide) rfl (Nat.le_of_ble_eq_true rfl) dX6_behind_93 (fun ws93 _ hr93 => ?_)
            obtain rfl := hr93
            refine g_iload F 0 dX6_behind_96 rfl ?_
            have hp := pull_bd (goI_ok ok n).A (c := c) (by omega) (by omega)
            have hww := (goI_ok ok n).w c (by omega) (by omega)
            have hq : 1 = qBehind (cl M) c n w := by unfold qBehind; (repeat' split) <;> omega
            exact K mw_same ⟨_, rfl, iIc hq, ⟨rfl, rfl, rfl, rfl, rfl, rfl, rfl, rfl, rfl, rfl, rfl, rfl, rfl, rfl, rfl, rfl, rfl, rfl⟩, (by rw [← hq]; exact (rfa_n (by omega)).symm)⟩ rfl dX6_behind_98
        · skip
          refine g_aload_n F 1 dX6_behind_69 rfl ?_
          refine g_iload_n F 2 dX6_behind_70 rfl ?_
          refine g_callI F (stk := [.int (iI c), .ref (ma 100)]) (st := []) (k_X6_pullOf κ ma (stC (thk (mA M 10 (fun _ => 0))) (goI n (cl M))) c (by omega) (goI_ok ok n).A) cal_X6_pullOf lm_X6_114 0 rfl rfl rfl rfl (by decide) rfl (Nat.le_of_ble_eq_true rfl) dX6_behind_71 (fun r71 ws71 _ hr71 => ?_)
          obtain ⟨rfl, rfl⟩ := hr71
          refine g_top (y := iI (pull (goI n (cl M)) c)) rfl ?_
          refine g_goto F 90 dX6_behind_74 (by decide) ?_
          refine g_istore F (lv' := [(5, .int (iI (pull (goI n (cl M)) c))), (4, .int (iI (wbit (wnum n 0 60) w 2))), (0, .ref (ma 100)), (1, .int (iI c)), (2, .int (iI n)), (3, .int (iI w))]) dX6_behind_90 (by decide) rfl ?_
          refine g_aload_n F 2 dX6_behind_92 rfl ?_
          refine g_callV F (stk := [.ref (ma 100)]) (st := []) (k_X6_again κ ma (stC (thk (mA M 10 (fun _ => 0))) (goI n (cl M))) (mA M 10 (fun _ => 0)) (fun _ _ _ => rfl)) cal_X6_again lm_X6_197 0 rfl rfl rfl rfl (by decide) rfl (Nat.le_of_ble_eq_true rfl) dX6_behind_93 (fun ws93 _ hr93 => ?_)
          obtain rfl := hr93
          refine g_iload F 0 dX6_behind_96 rfl ?_
          have hp := pull_bd (goI_ok ok n).A (c := c) (by omega) (by omega)
          have hww := (goI_ok ok n).w c (by omega) (by omega)
          have hq : pull (goI n (cl M)) c = qBehind (cl M) c n w := by unfold qBehind; (repeat' split) <;> omega
          exact K mw_same ⟨_, rfl, iIc hq, ⟨rfl, rfl, rfl, rfl, rfl, rfl, rfl, rfl, rfl, rfl, rfl, rfl, rfl, rfl, rfl, rfl, rfl, rfl⟩, (by rw [← hq]; exact (rfa_n (by omega)).symm)⟩ rfl dX6_behind_98
      · skip
        refine g_aload_n F 1 dX6_behind_55 rfl ?_
        refine gm_get_3 F dX6_behind_56 ?_
        refine g_iload_n F 2 dX6_behind_59 rfl ?_
        refine gm_ald_3 F (by omega) dX6_behind_60 ?_
        refine g_top (y := iI ((we (goI n (cl M))) c)) rfl ?_
        refine g_goto F 90 dX6_behind_61 (by decide) ?_
        refine g_istore F (lv' := [(5, .int (iI ((we (goI n (cl M))) c))), (4, .int (iI (wbit (wnum n 0 60) w 2))), (0, .ref (ma 100)), (1, .int (iI c)), (2, .int (iI n)), (3, .int (iI w))]) dX6_behind_90 (by decide) rfl ?_
        refine g_aload_n F 2 dX6_behind_92 rfl ?_
        refine g_callV F (stk := [.ref (ma 100)]) (st := []) (k_X6_again κ ma (stC (thk (mA M 10 (fun _ => 0))) (goI n (cl M))) (mA M 10 (fun _ => 0)) (fun _ _ _ => rfl)) cal_X6_again lm_X6_197 0 rfl rfl rfl rfl (by decide) rfl (Nat.le_of_ble_eq_true rfl) dX6_behind_93 (fun ws93 _ hr93 => ?_)
        obtain rfl := hr93
        refine g_iload F 0 dX6_behind_96 rfl ?_
        have hp := pull_bd (goI_ok ok n).A (c := c) (by omega) (by omega)
        have hww := (goI_ok ok n).w c (by omega) (by omega)
        have hq : (we (goI n (cl M))) c = qBehind (cl M) c n w := by unfold qBehind; (repeat' split) <;> omega
        exact K mw_same ⟨_, rfl, iIc hq, ⟨rfl, rfl, rfl, rfl, rfl, rfl, rfl, rfl, rfl, rfl, rfl, rfl, rfl, rfl, rfl, rfl, rfl, rfl⟩, (by rw [← hq]; exact (rfa_n (by omega)).symm)⟩ rfl dX6_behind_98
    · skip
      refine g_aload_n F 1 dX6_behind_35 rfl ?_
      refine g_iload F 0 dX6_behind_36 rfl ?_
      refine g_callI F (stk := [.int (iI (wbit (wnum n 0 60) w 2)), .ref (ma 100)]) (st := []) (k_X6_refuse κ ma (mA M 10 (fun _ => 0)) (wbit (wnum n 0 60) w 2) (by omega)) cal_X6_refuse lm_X6_138 0 rfl rfl rfl rfl (by decide) rfl (Nat.le_of_ble_eq_true rfl) dX6_behind_38 (fun r38 ws38 _ hr38 => ?_)
      obtain ⟨rfl, rfl⟩ := hr38
      refine g_top (y := iI (wbit (wnum n 0 60) w 2)) rfl ?_
      refine g_ws (ws' := mw κ ma (mA (mA M 10 (fun _ => 0)) 11 (uI (M 11) (-(wbit (wnum n 0 60) w 2)) (M 11 (-(wbit (wnum n 0 60) w 2)) + 1)))) rfl ?_
      have hq : (wbit (wnum n 0 60) w 2) = qBehind (cl M) c n w := by unfold qBehind; (repeat' split) <;> omega
      exact K mw_same ⟨_, rfl, iIc hq, ⟨rfl, rfl, rfl, rfl, rfl, rfl, rfl, rfl, rfl, rfl, rfl, rfl, rfl, rfl, rfl, rfl, rfl, rfl⟩, (by rw [← hq]; exact (rfa_r (by omega)).symm)⟩ rfl dX6_behind_41
theorem dX6_all_0 : decode cX6_all 0 = .ok (.aload_n 0, 1) := by decide +kernel
theorem dX6_all_1 : decode cX6_all 1 = .ok (.iconst 0, 1) := by decide +kernel
theorem dX6_all_2 : decode cX6_all 2 = .ok (.putfield 91, 3) := by decide +kernel
theorem dX6_all_5 : decode cX6_all 5 = .ok (.iload_n 1, 1) := by decide +kernel
theorem dX6_all_6 : decode cX6_all 6 = .ok (.iconst 0, 1) := by decide +kernel
theorem dX6_all_7 : decode cX6_all 7 = .ok (.bipush 60, 2) := by decide +kernel
theorem dX6_all_9 : decode cX6_all 9 = .ok (.invokestatic 237, 3) := by decide +kernel
theorem dX6_all_12 : decode cX6_all 12 = .ok (.iload_n 2, 1) := by decide +kernel
theorem dX6_all_13 : decode cX6_all 13 = .ok (.iconst 2, 1) := by decide +kernel
theorem dX6_all_14 : decode cX6_all 14 = .ok (.invokestatic 247, 3) := by decide +kernel
theorem dX6_all_17 : decode cX6_all 17 = .ok (.istore_n 3, 1) := by decide +kernel
theorem dX6_all_18 : decode cX6_all 18 = .ok (.iload_n 3, 1) := by decide +kernel
theorem dX6_all_19 : decode cX6_all 19 = .ok (.ifCond .ge 9, 3) := by decide +kernel
theorem dX6_all_22 : decode cX6_all 22 = .ok (.aload_n 0, 1) := by decide +kernel
theorem dX6_all_23 : decode cX6_all 23 = .ok (.iload_n 3, 1) := by decide +kernel
theorem dX6_all_24 : decode cX6_all 24 = .ok (.invokevirtual 138, 3) := by decide +kernel
theorem dX6_all_27 : decode cX6_all 27 = .ok (.ireturn, 1) := by decide +kernel
theorem dX6_all_28 : decode cX6_all 28 = .ok (.aload_n 0, 1) := by decide +kernel
theorem dX6_all_29 : decode cX6_all 29 = .ok (.invokevirtual 191, 3) := by decide +kernel
theorem dX6_all_32 : decode cX6_all 32 = .ok (.aload_n 0, 1) := by decide +kernel
theorem dX6_all_33 : decode cX6_all 33 = .ok (.iload_n 1, 1) := by decide +kernel
theorem dX6_all_34 : decode cX6_all 34 = .ok (.invokevirtual 184, 3) := by decide +kernel
theorem dX6_all_37 : decode cX6_all 37 = .ok (.iload_n 2, 1) := by decide +kernel
theorem dX6_all_38 : decode cX6_all 38 = .ok (.ifCond .ne 13, 3) := by decide +kernel
theorem dX6_all_41 : decode cX6_all 41 = .ok (.aload_n 0, 1) := by decide +kernel
theorem dX6_all_42 : decode cX6_all 42 = .ok (.invokevirtual 241, 3) := by decide +kernel
theorem dX6_all_45 : decode cX6_all 45 = .ok (.invokestatic 244, 3) := by decide +kernel
theorem dX6_all_48 : decode cX6_all 48 = .ok (.goto 19, 3) := by decide +kernel
theorem dX6_all_51 : decode cX6_all 51 = .ok (.iload_n 2, 1) := by decide +kernel
theorem dX6_all_52 : decode cX6_all 52 = .ok (.iconst 1, 1) := by decide +kernel
theorem dX6_all_53 : decode cX6_all 53 = .ok (.if_icmp .ne 10, 3) := by decide +kernel
theorem dX6_all_56 : decode cX6_all 56 = .ok (.aload_n 0, 1) := by decide +kernel
theorem dX6_all_57 : decode cX6_all 57 = .ok (.invokevirtual 250, 3) := by decide +kernel
theorem dX6_all_60 : decode cX6_all 60 = .ok (.goto 7, 3) := by decide +kernel
theorem dX6_all_63 : decode cX6_all 63 = .ok (.aload_n 0, 1) := by decide +kernel
theorem dX6_all_64 : decode cX6_all 64 = .ok (.invokevirtual 234, 3) := by decide +kernel
theorem dX6_all_67 : decode cX6_all 67 = .ok (.istore 4, 2) := by decide +kernel
theorem dX6_all_69 : decode cX6_all 69 = .ok (.aload_n 0, 1) := by decide +kernel
theorem dX6_all_70 : decode cX6_all 70 = .ok (.invokevirtual 197, 3) := by decide +kernel
theorem dX6_all_73 : decode cX6_all 73 = .ok (.iload 4, 2) := by decide +kernel
theorem dX6_all_75 : decode cX6_all 75 = .ok (.ireturn, 1) := by decide +kernel
set_option maxRecDepth 100000 in
set_option maxHeartbeats 4000000 in
theorem k_X6_all (κ : Kp) (ma : Nat → Nat) (M : MS) (n : Int) (w : Int)  (ha_n : In32 n) (ha_w : In32 w) (ok : okC (cl M)) (hy : M 4 0 ≤ 999) : mI κ yX6_all cX6_all 5 .int 5 [.ref (ma 100), .int (iI n), .int (iI w)] (mw κ ma M) (qM κ ma M (qAll (cl M) n w)) := by
  refine mI_of (by decide) (Nat.le_of_ble_eq_true rfl) (fun E F K => ?_)
  refine g_lv (lv' := [(0, .ref (ma 100)), (1, .int (iI n)), (2, .int (iI w))]) rfl ?_
  refine g_aload_n F 0 dX6_all_0 rfl ?_
  refine g_iconst F dX6_all_1 ?_
  refine gm_put_10 F dX6_all_2 ?_
  refine g_iload_n F 1 dX6_all_5 rfl ?_
  refine g_iconst F dX6_all_6 ?_
  refine g_bipush F dX6_all_7 (by decide +kernel) ?_
  refine g_callSI F (stk := [.int (iI 60), .int (iI 0), .int (iI n)]) (st := []) (k_X6_wrongNumber κ (mw κ ma (mA M 10 (fun _ => 0))) n 0 60 (by omega)) cal_X6_wrongNumber lm_X6_237 rfl (by decide) rfl (Nat.le_of_ble_eq_true rfl) dX6_all_9 (fun r9 ws9 _ hr9 => ?_)
  obtain ⟨rfl, rfl⟩ := hr9
  have hwn9 := wn_spec n 0 60
  refine g_iload_n F 2 dX6_all_12 rfl ?_
  refine g_iconst F dX6_all_13 ?_
  refine g_callSI F (stk := [.int (iI 2), .int (iI w), .int (iI (wnum n 0 60))]) (st := []) (k_X6_wrongBit κ (mw κ ma (mA M 10 (fun _ => 0))) (wnum n 0 60) w 2 (by omega)) cal_X6_wrongBit lm_X6_247 rfl (by decide) rfl (Nat.le_of_ble_eq_true rfl) dX6_all_14 (fun r14 ws14 _ hr14 => ?_)
  obtain ⟨rfl, rfl⟩ := hr14
  have hwb14 := wb_spec (wnum n 0 60) w 2
  refine g_istore_n F (lv' := [(3, .int (iI (wbit (wnum n 0 60) w 2))), (0, .ref (ma 100)), (1, .int (iI n)), (2, .int (iI w))]) 3 dX6_all_17 rfl (by decide) rfl ?_
  refine g_iload_n F 0 dX6_all_18 rfl ?_
  refine g_if_ge F 28 (by omega) dX6_all_19 (by decide) (fun c19 => ?_) (fun c19 => ?_)
  · skip
    refine g_aload_n F 1 dX6_all_28 rfl ?_
    refine g_callV F (stk := [.ref (ma 100)]) (st := []) (k_X6_think κ ma (mA M 10 (fun _ => 0))) cal_X6_think lm_X6_191 0 rfl rfl rfl rfl (by decide) rfl (Nat.le_of_ble_eq_true rfl) dX6_all_29 (fun ws29 _ hr29 => ?_)
    obtain rfl := hr29
    refine g_ws (ws' := mw κ ma (thk (mA M 10 (fun _ => 0)))) rfl ?_
    refine g_aload_n F 1 dX6_all_32 rfl ?_
    refine g_iload_n F 2 dX6_all_33 rfl ?_
    refine g_callV F (stk := [.int (iI n), .ref (ma 100)]) (st := []) (k_X6_goYears κ ma (thk (mA M 10 (fun _ => 0))) n (show (0 ≤ n ∧ n ≤ 1000) ∧ (M 4 0) + n ≤ 1000000 from by omega) ok) cal_X6_goYears lm_X6_184 0 rfl rfl rfl rfl (by decide) rfl (Nat.le_of_ble_eq_true rfl) dX6_all_34 (fun ws34 _ hr34 => ?_)
    obtain rfl := hr34
    refine g_ws (ws' := mw κ ma (stC (thk (mA M 10 (fun _ => 0))) (goI n (cl M)))) rfl ?_
    refine g_iload_n F 3 dX6_all_37 rfl ?_
    refine g_if_ne F 51 (by omega) dX6_all_38 (by decide) (fun c38 => ?_) (fun c38 => ?_)
    · skip
      refine g_iload_n F 3 dX6_all_51 rfl ?_
      refine g_iconst F dX6_all_52 ?_
      refine g_icmp_ne F 63 (by omega) dX6_all_53 (by decide) (fun c53 => ?_) (fun c53 => ?_)
      · skip
        refine g_aload_n F 1 dX6_all_63 rfl ?_
        refine g_callI F (stk := [.ref (ma 100)]) (st := []) (k_X6_allPull κ ma (stC (thk (mA M 10 (fun _ => 0))) (goI n (cl M))) (goI_ok ok n).A) cal_X6_allPull lm_X6_234 0 rfl rfl rfl rfl (by decide) rfl (Nat.le_of_ble_eq_true rfl) dX6_all_64 (fun r64 ws64 _ hr64 => ?_)
        obtain ⟨rfl, rfl⟩ := hr64
        refine g_top (y := iI (allPull (goI n (cl M)))) rfl ?_
        refine g_istore F (lv' := [(4, .int (iI (allPull (goI n (cl M))))), (3, .int (iI (wbit (wnum n 0 60) w 2))), (0, .ref (ma 100)), (1, .int (iI n)), (2, .int (iI w))]) dX6_all_67 (by decide) rfl ?_
        refine g_aload_n F 2 dX6_all_69 rfl ?_
        refine g_callV F (stk := [.ref (ma 100)]) (st := []) (k_X6_again κ ma (stC (thk (mA M 10 (fun _ => 0))) (goI n (cl M))) (mA M 10 (fun _ => 0)) (fun _ _ _ => rfl)) cal_X6_again lm_X6_197 0 rfl rfl rfl rfl (by decide) rfl (Nat.le_of_ble_eq_true rfl) dX6_all_70 (fun ws70 _ hr70 => ?_)
        obtain rfl := hr70
        refine g_iload F 0 dX6_all_73 rfl ?_
        have hp := pcnt_bd (hbits (goI n (cl M)))
        have h1 := allWear_bd (goI_ok ok n)
        have h2 := allPull_bd (goI_ok ok n).A
        have hq : allPull (goI n (cl M)) = qAll (cl M) n w := by unfold qAll; (repeat' split) <;> omega
        exact K mw_same ⟨_, rfl, iIc hq, ⟨rfl, rfl, rfl, rfl, rfl, rfl, rfl, rfl, rfl, rfl, rfl, rfl, rfl, rfl, rfl, rfl, rfl, rfl⟩, (by rw [← hq]; exact (rfa_n (by omega)).symm)⟩ rfl dX6_all_75
      · skip
        refine g_aload_n F 1 dX6_all_56 rfl ?_
        refine g_callI F (stk := [.ref (ma 100)]) (st := []) (k_X6_allWear κ ma (stC (thk (mA M 10 (fun _ => 0))) (goI n (cl M)))) cal_X6_allWear lm_X6_250 0 rfl rfl rfl rfl (by decide) rfl (Nat.le_of_ble_eq_true rfl) dX6_all_57 (fun r57 ws57 _ hr57 => ?_)
        obtain ⟨rfl, rfl⟩ := hr57
        refine g_top (y := iI (allWear (goI n (cl M)))) rfl ?_
        refine g_goto F 67 dX6_all_60 (by decide) ?_
        refine g_istore F (lv' := [(4, .int (iI (allWear (goI n (cl M))))), (3, .int (iI (wbit (wnum n 0 60) w 2))), (0, .ref (ma 100)), (1, .int (iI n)), (2, .int (iI w))]) dX6_all_67 (by decide) rfl ?_
        refine g_aload_n F 2 dX6_all_69 rfl ?_
        refine g_callV F (stk := [.ref (ma 100)]) (st := []) (k_X6_again κ ma (stC (thk (mA M 10 (fun _ => 0))) (goI n (cl M))) (mA M 10 (fun _ => 0)) (fun _ _ _ => rfl)) cal_X6_again lm_X6_197 0 rfl rfl rfl rfl (by decide) rfl (Nat.le_of_ble_eq_true rfl) dX6_all_70 (fun ws70 _ hr70 => ?_)
        obtain rfl := hr70
        refine g_iload F 0 dX6_all_73 rfl ?_
        have hp := pcnt_bd (hbits (goI n (cl M)))
        have h1 := allWear_bd (goI_ok ok n)
        have h2 := allPull_bd (goI_ok ok n).A
        have hq : allWear (goI n (cl M)) = qAll (cl M) n w := by unfold qAll; (repeat' split) <;> omega
        exact K mw_same ⟨_, rfl, iIc hq, ⟨rfl, rfl, rfl, rfl, rfl, rfl, rfl, rfl, rfl, rfl, rfl, rfl, rfl, rfl, rfl, rfl, rfl, rfl⟩, (by rw [← hq]; exact (rfa_n (by omega)).symm)⟩ rfl dX6_all_75
    · skip
      refine g_aload_n F 1 dX6_all_41 rfl ?_
      refine g_callI F (stk := [.ref (ma 100)]) (st := []) (k_X6_holeBits κ ma (stC (thk (mA M 10 (fun _ => 0))) (goI n (cl M))) (goI_ok ok n)) cal_X6_holeBits lm_X6_241 0 rfl rfl rfl rfl (by decide) rfl (Nat.le_of_ble_eq_true rfl) dX6_all_42 (fun r42 ws42 _ hr42 => ?_)
      obtain ⟨rfl, rfl⟩ := hr42
      refine g_top (y := iI (hbits (goI n (cl M)))) rfl ?_
      refine g_callSI F (stk := [.int (iI (hbits (goI n (cl M))))]) (st := []) (k_X6_onesOf κ (mw κ ma (stC (thk (mA M 10 (fun _ => 0))) (goI n (cl M)))) (hbits (goI n (cl M))) (hbits_in _)) cal_X6_onesOf lm_X6_244 rfl (by decide) rfl (Nat.le_of_ble_eq_true rfl) dX6_all_45 (fun r45 ws45 _ hr45 => ?_)
      obtain ⟨rfl, rfl⟩ := hr45
      refine g_goto F 67 dX6_all_48 (by decide) ?_
      refine g_istore F (lv' := [(4, .int (iI (pcnt (hbits (goI n (cl M)))))), (3, .int (iI (wbit (wnum n 0 60) w 2))), (0, .ref (ma 100)), (1, .int (iI n)), (2, .int (iI w))]) dX6_all_67 (by decide) rfl ?_
      refine g_aload_n F 2 dX6_all_69 rfl ?_
      refine g_callV F (stk := [.ref (ma 100)]) (st := []) (k_X6_again κ ma (stC (thk (mA M 10 (fun _ => 0))) (goI n (cl M))) (mA M 10 (fun _ => 0)) (fun _ _ _ => rfl)) cal_X6_again lm_X6_197 0 rfl rfl rfl rfl (by decide) rfl (Nat.le_of_ble_eq_true rfl) dX6_all_70 (fun ws70 _ hr70 => ?_)
      obtain rfl := hr70
      refine g_iload F 0 dX6_all_73 rfl ?_
      have hp := pcnt_bd (hbits (goI n (cl M)))
      have h1 := allWear_bd (goI_ok ok n)
      have h2 := allPull_bd (goI_ok ok n).A
      have hq : pcnt (hbits (goI n (cl M))) = qAll (cl M) n w := by unfold qAll; (repeat' split) <;> omega
      exact K mw_same ⟨_, rfl, iIc hq, ⟨rfl, rfl, rfl, rfl, rfl, rfl, rfl, rfl, rfl, rfl, rfl, rfl, rfl, rfl, rfl, rfl, rfl, rfl⟩, (by rw [← hq]; exact (rfa_n (by omega)).symm)⟩ rfl dX6_all_75
  · skip
    refine g_aload_n F 1 dX6_all_22 rfl ?_
    refine g_iload_n F 0 dX6_all_23 rfl ?_
    refine g_callI F (stk := [.int (iI (wbit (wnum n 0 60) w 2)), .ref (ma 100)]) (st := []) (k_X6_refuse κ ma (mA M 10 (fun _ => 0)) (wbit (wnum n 0 60) w 2) (by omega)) cal_X6_refuse lm_X6_138 0 rfl rfl rfl rfl (by decide) rfl (Nat.le_of_ble_eq_true rfl) dX6_all_24 (fun r24 ws24 _ hr24 => ?_)
    obtain ⟨rfl, rfl⟩ := hr24
    refine g_top (y := iI (wbit (wnum n 0 60) w 2)) rfl ?_
    refine g_ws (ws' := mw κ ma (mA (mA M 10 (fun _ => 0)) 11 (uI (M 11) (-(wbit (wnum n 0 60) w 2)) (M 11 (-(wbit (wnum n 0 60) w 2)) + 1)))) rfl ?_
    have hq : (wbit (wnum n 0 60) w 2) = qAll (cl M) n w := by unfold qAll; (repeat' split) <;> omega
    exact K mw_same ⟨_, rfl, iIc hq, ⟨rfl, rfl, rfl, rfl, rfl, rfl, rfl, rfl, rfl, rfl, rfl, rfl, rfl, rfl, rfl, rfl, rfl, rfl⟩, (by rw [← hq]; exact (rfa_r (by omega)).symm)⟩ rfl dX6_all_27
theorem dX6_entire_0 : decode cX6_entire 0 = .ok (.aload_n 0, 1) := by decide +kernel
theorem dX6_entire_1 : decode cX6_entire 1 = .ok (.iconst 0, 1) := by decide +kernel
theorem dX6_entire_2 : decode cX6_entire 2 = .ok (.putfield 91, 3) := by decide +kernel
theorem dX6_entire_5 : decode cX6_entire 5 = .ok (.iconst 0, 1) := by decide +kernel
theorem dX6_entire_6 : decode cX6_entire 6 = .ok (.istore_n 1, 1) := by decide +kernel
theorem dX6_entire_7 : decode cX6_entire 7 = .ok (.iconst 0, 1) := by decide +kernel
theorem dX6_entire_8 : decode cX6_entire 8 = .ok (.istore_n 2, 1) := by decide +kernel
theorem dX6_entire_9 : decode cX6_entire 9 = .ok (.iload_n 2, 1) := by decide +kernel
theorem dX6_entire_10 : decode cX6_entire 10 = .ok (.bipush 12, 2) := by decide +kernel
theorem dX6_entire_12 : decode cX6_entire 12 = .ok (.if_icmp .ge 25, 3) := by decide +kernel
theorem dX6_entire_15 : decode cX6_entire 15 = .ok (.iload_n 1, 1) := by decide +kernel
theorem dX6_entire_16 : decode cX6_entire 16 = .ok (.aload_n 0, 1) := by decide +kernel
theorem dX6_entire_17 : decode cX6_entire 17 = .ok (.iload_n 2, 1) := by decide +kernel
theorem dX6_entire_18 : decode cX6_entire 18 = .ok (.invokevirtual 114, 3) := by decide +kernel
theorem dX6_entire_21 : decode cX6_entire 21 = .ok (.ifCond .ne 7, 3) := by decide +kernel
theorem dX6_entire_24 : decode cX6_entire 24 = .ok (.iconst 1, 1) := by decide +kernel
theorem dX6_entire_25 : decode cX6_entire 25 = .ok (.goto 4, 3) := by decide +kernel
theorem dX6_entire_28 : decode cX6_entire 28 = .ok (.iconst 0, 1) := by decide +kernel
theorem dX6_entire_29 : decode cX6_entire 29 = .ok (.iadd, 1) := by decide +kernel
theorem dX6_entire_30 : decode cX6_entire 30 = .ok (.istore_n 1, 1) := by decide +kernel
theorem dX6_entire_31 : decode cX6_entire 31 = .ok (.iinc 2 1, 3) := by decide +kernel
theorem dX6_entire_34 : decode cX6_entire 34 = .ok (.goto (-25), 3) := by decide +kernel
theorem dX6_entire_37 : decode cX6_entire 37 = .ok (.iload_n 1, 1) := by decide +kernel
theorem dX6_entire_38 : decode cX6_entire 38 = .ok (.ireturn, 1) := by decide +kernel
set_option maxRecDepth 100000 in
set_option maxHeartbeats 4000000 in
theorem k_X6_entire (κ : Kp) (ma : Nat → Nat) (M : MS)  (ok : okC (cl M)) : mI κ yX6_entire cX6_entire 3 .int 2 [.ref (ma 100)] (mw κ ma M) (qM κ ma M (qEntire (cl M))) := by
  refine mI_of (by decide) (Nat.le_of_ble_eq_true rfl) (fun E F K => ?_)
  refine g_lv (lv' := [(0, .ref (ma 100))]) rfl ?_
  refine g_aload_n F 0 dX6_entire_0 rfl ?_
  refine g_iconst F dX6_entire_1 ?_
  refine gm_put_10 F dX6_entire_2 ?_
  refine g_iconst F dX6_entire_5 ?_
  refine g_istore_n F (lv' := [(1, .int (iI 0)), (0, .ref (ma 100))]) 1 dX6_entire_6 rfl (by decide) rfl ?_
  refine g_iconst F dX6_entire_7 ?_
  refine g_istore_n F (lv' := [(2, .int (iI 0)), (1, .int (iI 0)), (0, .ref (ma 100))]) 2 dX6_entire_8 rfl (by decide) rfl ?_
  have L9 : ∀ (mz9 : Nat) (i : Int) (s : Int), (12 - i).toNat = mz9 → (0 ≤ i ∧ i ≤ 12) → (s = sumI (fun c => if pull (cl M) c = 0 then 1 else 0) i) → (0 ≤ s) → G E (mw κ ma (mA M 10 (fun _ => 0))) [(2, .int (iI i)), (1, .int (iI s)), (0, .ref (ma 100))] 9 [] := by
    intro mz9
    induction mz9 using Nat.strongRecOn with
    | _ mz9 ih9 =>
    intro i s hmz9 hi hs hsb
    refine g_iload_n F 0 dX6_entire_9 rfl ?_
    refine g_bipush F dX6_entire_10 (by decide +kernel) ?_
    refine g_icmp_ge F 37 (by omega) dX6_entire_12 (by decide) (fun c12 => ?_) (fun c12 => ?_)
    · skip
      refine g_iload_n F 1 dX6_entire_37 rfl ?_
      have hq : s = qEntire (cl M) := by rw [hs, show i = 12 by omega]; rfl
      exact K mw_same ⟨_, rfl, iIc hq, ⟨rfl, rfl, rfl, rfl, rfl, rfl, rfl, rfl, rfl, rfl, rfl, rfl, rfl, rfl, rfl, rfl, rfl, rfl⟩, (by rw [← hq]; exact (rfa_n (by omega)).symm)⟩ rfl dX6_entire_38
    · skip
      have hp := pull_bd ok.A hi.1 c12
      refine g_iload_n F 1 dX6_entire_15 rfl ?_
      refine g_aload_n F 2 dX6_entire_16 rfl ?_
      refine g_iload_n F 0 dX6_entire_17 rfl ?_
      refine g_callI F (stk := [.int (iI i), .ref (ma 100), .int (iI s)]) (st := [.int (iI s)]) (k_X6_pullOf κ ma (mA M 10 (fun _ => 0)) i (by omega) ok.A) cal_X6_pullOf lm_X6_114 0 rfl rfl rfl rfl (by decide) rfl (Nat.le_of_ble_eq_true rfl) dX6_entire_18 (fun r18 ws18 _ hr18 => ?_)
      obtain ⟨rfl, rfl⟩ := hr18
      refine g_top (y := iI (pull (cl M) i)) rfl ?_
      refine g_if_ne F 28 (by omega) dX6_entire_21 (by decide) (fun c21 => ?_) (fun c21 => ?_)
      · skip
        refine g_iconst F dX6_entire_28 ?_
        refine g_iadd F dX6_entire_29 ?_
        refine g_istore_n F (lv' := [(1, .int (iI (s + 0))), (2, .int (iI i)), (0, .ref (ma 100))]) 1 dX6_entire_30 rfl (by decide) rfl ?_
        refine g_iinc F (lv' := [(2, .int (iI (i + 1))), (1, .int (iI (s + 0))), (0, .ref (ma 100))]) 1 dX6_entire_31 rfl (by decide) rfl ?_
        refine g_goto F 9 dX6_entire_34 (by decide) ?_
        refine g_sub F (lv' := [(2, .int (iI (i + 1))), (1, .int (iI (s + 0))), (0, .ref (ma 100))]) [0, 1, 2] rfl ?_
        exact ih9 _ (by omega) (i + 1) (s + 0) rfl (by omega) (by rw [sumI_s _ hi.1, ← hs]; split <;> omega) (by omega)
      · skip
        refine g_iconst F dX6_entire_24 ?_
        refine g_goto F 29 dX6_entire_25 (by decide) ?_
        refine g_iadd F dX6_entire_29 ?_
        refine g_istore_n F (lv' := [(1, .int (iI (s + 1))), (2, .int (iI i)), (0, .ref (ma 100))]) 1 dX6_entire_30 rfl (by decide) rfl ?_
        refine g_iinc F (lv' := [(2, .int (iI (i + 1))), (1, .int (iI (s + 1))), (0, .ref (ma 100))]) 1 dX6_entire_31 rfl (by decide) rfl ?_
        refine g_goto F 9 dX6_entire_34 (by decide) ?_
        refine g_sub F (lv' := [(2, .int (iI (i + 1))), (1, .int (iI (s + 1))), (0, .ref (ma 100))]) [0, 1, 2] rfl ?_
        exact ih9 _ (by omega) (i + 1) (s + 1) rfl (by omega) (by rw [sumI_s _ hi.1, ← hs]; split <;> omega) (by omega)
  refine g_sub F (lv' := [(2, .int (iI 0)), (1, .int (iI 0)), (0, .ref (ma 100))]) [0, 1, 2] rfl ?_
  exact L9 _ 0 0 rfl (by omega) (sumI_0 _).symm (by omega)
end
