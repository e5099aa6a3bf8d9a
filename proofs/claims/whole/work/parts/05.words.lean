/-! WORDS: where each stands among the tables' -/
def atT (i : Nat) (w : Cond) : Prop := lw_tbl[i]? = some w
theorem atT.tg {i : Nat} {w : Cond} (h : atT i w) (g : goodWord w = true) : w ∈ TG := tg_in (List.mem_of_getElem? h) g
theorem in1 {i : Nat} {w : Cond} (h : tables_1_1[i]? = some w) (g : goodWord w = true) : w ∈ TG := tg_in (List.mem_append_right _ (List.mem_append_left _ (List.mem_of_getElem? h))) g
theorem in2 {i : Nat} {w : Cond} (h : tables_1_2[i]? = some w) (g : goodWord w = true) : w ∈ TG := tg_in (List.mem_append_right _ (List.mem_append_right _ (List.mem_append_left _ (List.mem_of_getElem? h)))) g
theorem in3 {i : Nat} {w : Cond} (h : tables_1_3[i]? = some w) (g : goodWord w = true) : w ∈ TG := tg_in (List.mem_append_right _ (List.mem_append_right _ (List.mem_append_right _ (List.mem_append_left _ (List.mem_of_getElem? h))))) g
theorem in4 {i : Nat} {w : Cond} (h : tables_1_4[i]? = some w) (g : goodWord w = true) : w ∈ TG := tg_in (List.mem_append_right _ (List.mem_append_right _ (List.mem_append_right _ (List.mem_append_right _ (List.mem_append_left _ (List.mem_of_getElem? h)))))) g
theorem in5 {i : Nat} {w : Cond} (h : tables_1_5[i]? = some w) (g : goodWord w = true) : w ∈ TG := tg_in (List.mem_append_right _ (List.mem_append_right _ (List.mem_append_right _ (List.mem_append_right _ (List.mem_append_right _ (List.mem_append_left _ (List.mem_of_getElem? h))))))) g
theorem in6 {i : Nat} {w : Cond} (h : tables_1_6[i]? = some w) (g : goodWord w = true) : w ∈ TG := tg_in (List.mem_append_right _ (List.mem_append_right _ (List.mem_append_right _ (List.mem_append_right _ (List.mem_append_right _ (List.mem_append_right _ (List.mem_of_getElem? h))))))) g
theorem inP {i : Nat} {w : Cond} (h : (k2_sels lw_privs)[i]? = some w) (g : goodWord w = true) : w ∈ TG := tg_in (List.mem_append_left _ (List.mem_of_getElem? h)) g
set_option maxRecDepth 100000 in
theorem lcl_L_7 : Cond.classLink "PatchesSameAgeLaw" 7 RX5 ∈ TG := in1 (i := 11) rfl rfl
set_option maxRecDepth 100000 in
theorem lm_L_9 : Cond.methodLink "PatchesSameAgeLaw" 9 yX5_init ∈ TG := in1 (i := 13) rfl rfl
set_option maxRecDepth 100000 in
theorem lm_X5_1 : Cond.methodLink RX5 1 objectInit ∈ TG := in1 (i := 16) rfl rfl
set_option maxRecDepth 100000 in
theorem lcl_X5_7 : Cond.classLink RX5 7 RX0 ∈ TG := in1 (i := 19) rfl rfl
set_option maxRecDepth 100000 in
theorem nm_X5_9 : Cond.methodLinkNest RX5 9 yX0_init "PatchesSameAge" ∈ NWl := List.mem_of_getElem? (i := 0) rfl
set_option maxRecDepth 100000 in
theorem lm_X0_3 : Cond.methodLink RX0 3 objectInit ∈ TG := in1 (i := 24) rfl rfl
set_option maxRecDepth 100000 in
theorem lf_X0_9 : Cond.fieldLink RX0 9 "PatchesSameAge$Cloth" "kind" "[I" ∈ TG := in1 (i := 25) rfl rfl
set_option maxRecDepth 100000 in
theorem nf_X5_169 : Cond.fieldLinkNest RX5 169 "PatchesSameAge$Cloth" "kind" "[I" "PatchesSameAge" ∈ NWl := List.mem_of_getElem? (i := 1) rfl
set_option maxRecDepth 100000 in
theorem lf_X0_15 : Cond.fieldLink RX0 15 "PatchesSameAge$Cloth" "figure" "[I" ∈ TG := in1 (i := 27) rfl rfl
set_option maxRecDepth 100000 in
theorem nf_X5_172 : Cond.fieldLinkNest RX5 172 "PatchesSameAge$Cloth" "figure" "[I" "PatchesSameAge" ∈ NWl := List.mem_of_getElem? (i := 2) rfl
set_option maxRecDepth 100000 in
theorem lf_X0_18 : Cond.fieldLink RX0 18 "PatchesSameAge$Cloth" "age" "[I" ∈ TG := in1 (i := 29) rfl rfl
set_option maxRecDepth 100000 in
theorem nf_X5_175 : Cond.fieldLinkNest RX5 175 "PatchesSameAge$Cloth" "age" "[I" "PatchesSameAge" ∈ NWl := List.mem_of_getElem? (i := 3) rfl
set_option maxRecDepth 100000 in
theorem lf_X0_21 : Cond.fieldLink RX0 21 "PatchesSameAge$Cloth" "wear" "[I" ∈ TG := in1 (i := 31) rfl rfl
set_option maxRecDepth 100000 in
theorem nf_X5_160 : Cond.fieldLinkNest RX5 160 "PatchesSameAge$Cloth" "wear" "[I" "PatchesSameAge" ∈ NWl := List.mem_of_getElem? (i := 4) rfl
set_option maxRecDepth 100000 in
theorem lf_X0_30 : Cond.fieldLink RX0 30 "PatchesSameAge$Cloth" "year" "I" ∈ TG := in1 (i := 33) rfl rfl
set_option maxRecDepth 100000 in
theorem nf_X5_163 : Cond.fieldLinkNest RX5 163 "PatchesSameAge$Cloth" "year" "I" "PatchesSameAge" ∈ NWl := List.mem_of_getElem? (i := 5) rfl
set_option maxRecDepth 100000 in
theorem lcl_X5_16 : Cond.classLink RX5 16 RX2 ∈ TG := in1 (i := 47) rfl rfl
set_option maxRecDepth 100000 in
theorem nm_X5_18 : Cond.methodLinkNest RX5 18 yX2_init "PatchesSameAge" ∈ NWl := List.mem_of_getElem? (i := 6) rfl
set_option maxRecDepth 100000 in
theorem lm_X2_3 : Cond.methodLink RX2 3 objectInit ∈ TG := in1 (i := 52) rfl rfl
set_option maxRecDepth 100000 in
theorem lf_X2_9 : Cond.fieldLink RX2 9 "PatchesSameAge$Roll" "kind" "[I" ∈ TG := in1 (i := 53) rfl rfl
set_option maxRecDepth 100000 in
theorem nf_X0_34 : Cond.fieldLinkNest RX0 34 "PatchesSameAge$Roll" "kind" "[I" "PatchesSameAge" ∈ NWl := List.mem_of_getElem? (i := 7) rfl
set_option maxRecDepth 100000 in
theorem nf_X5_193 : Cond.fieldLinkNest RX5 193 "PatchesSameAge$Roll" "kind" "[I" "PatchesSameAge" ∈ NWl := List.mem_of_getElem? (i := 8) rfl
set_option maxRecDepth 100000 in
theorem lf_X2_15 : Cond.fieldLink RX2 15 "PatchesSameAge$Roll" "figure" "[I" ∈ TG := in1 (i := 56) rfl rfl
set_option maxRecDepth 100000 in
theorem nf_X0_37 : Cond.fieldLinkNest RX0 37 "PatchesSameAge$Roll" "figure" "[I" "PatchesSameAge" ∈ NWl := List.mem_of_getElem? (i := 9) rfl
set_option maxRecDepth 100000 in
theorem nf_X5_194 : Cond.fieldLinkNest RX5 194 "PatchesSameAge$Roll" "figure" "[I" "PatchesSameAge" ∈ NWl := List.mem_of_getElem? (i := 10) rfl
set_option maxRecDepth 100000 in
theorem lf_X2_18 : Cond.fieldLink RX2 18 "PatchesSameAge$Roll" "age" "[I" ∈ TG := in1 (i := 59) rfl rfl
set_option maxRecDepth 100000 in
theorem nf_X0_38 : Cond.fieldLinkNest RX0 38 "PatchesSameAge$Roll" "age" "[I" "PatchesSameAge" ∈ NWl := List.mem_of_getElem? (i := 11) rfl
set_option maxRecDepth 100000 in
theorem nf_X5_195 : Cond.fieldLinkNest RX5 195 "PatchesSameAge$Roll" "age" "[I" "PatchesSameAge" ∈ NWl := List.mem_of_getElem? (i := 12) rfl
set_option maxRecDepth 100000 in
theorem nf_X4_25 : Cond.fieldLinkNest RX4 25 "PatchesSameAge$Roll" "size" "I" "PatchesSameAge" ∈ NWl := List.mem_of_getElem? (i := 13) rfl
set_option maxRecDepth 100000 in
theorem lf_X2_27 : Cond.fieldLink RX2 27 "PatchesSameAge$Roll" "size" "I" ∈ TG := in1 (i := 63) rfl rfl
set_option maxRecDepth 100000 in
theorem nf_X5_144 : Cond.fieldLinkNest RX5 144 "PatchesSameAge$Roll" "size" "I" "PatchesSameAge" ∈ NWl := List.mem_of_getElem? (i := 14) rfl
set_option maxRecDepth 100000 in
theorem nf_X1_30 : Cond.fieldLinkNest RX1 30 "PatchesSameAge$Roll" "used" "I" "PatchesSameAge" ∈ NWl := List.mem_of_getElem? (i := 15) rfl
set_option maxRecDepth 100000 in
theorem lf_X2_31 : Cond.fieldLink RX2 31 "PatchesSameAge$Roll" "used" "I" ∈ TG := in1 (i := 66) rfl rfl
set_option maxRecDepth 100000 in
theorem lcl_X5_23 : Cond.classLink RX5 23 RX1 ∈ TG := in1 (i := 78) rfl rfl
set_option maxRecDepth 100000 in
theorem nm_X5_25 : Cond.methodLinkNest RX5 25 yX1_init "PatchesSameAge" ∈ NWl := List.mem_of_getElem? (i := 16) rfl
set_option maxRecDepth 100000 in
theorem lm_X1_3 : Cond.methodLink RX1 3 objectInit ∈ TG := in1 (i := 83) rfl rfl
set_option maxRecDepth 100000 in
theorem lcl_X1_9 : Cond.classLink RX1 9 RX0 ∈ TG := in1 (i := 84) rfl rfl
set_option maxRecDepth 100000 in
theorem nm_X1_21 : Cond.methodLinkNest RX1 21 yX0_init "PatchesSameAge" ∈ NWl := List.mem_of_getElem? (i := 17) rfl
set_option maxRecDepth 100000 in
theorem lf_X1_11 : Cond.fieldLink RX1 11 "PatchesSameAge$Past" "cloth" "[LPatchesSameAge$Cloth;" ∈ TG := in1 (i := 87) rfl rfl
set_option maxRecDepth 100000 in
theorem lf_X1_17 : Cond.fieldLink RX1 17 "PatchesSameAge$Past" "used" "[I" ∈ TG := in1 (i := 88) rfl rfl
set_option maxRecDepth 100000 in
theorem lf_X1_22 : Cond.fieldLink RX1 22 "PatchesSameAge$Past" "next" "I" ∈ TG := in1 (i := 89) rfl rfl
set_option maxRecDepth 100000 in
theorem lf_X1_34 : Cond.fieldLink RX1 34 "PatchesSameAge$Past" "size" "I" ∈ TG := in1 (i := 90) rfl rfl
set_option maxRecDepth 100000 in
theorem nf_X5_211 : Cond.fieldLinkNest RX5 211 "PatchesSameAge$Past" "size" "I" "PatchesSameAge" ∈ NWl := List.mem_of_getElem? (i := 18) rfl
set_option maxRecDepth 100000 in
theorem lcl_X5_30 : Cond.classLink RX5 30 RX3 ∈ TG := in1 (i := 101) rfl rfl
set_option maxRecDepth 100000 in
theorem nm_X5_32 : Cond.methodLinkNest RX5 32 yX3_init "PatchesSameAge" ∈ NWl := List.mem_of_getElem? (i := 19) rfl
set_option maxRecDepth 100000 in
theorem lm_X3_3 : Cond.methodLink RX3 3 objectInit ∈ TG := in1 (i := 106) rfl rfl
set_option maxRecDepth 100000 in
theorem lf_X3_9 : Cond.fieldLink RX3 9 "PatchesSameAge$Text" "letter" "[I" ∈ TG := in1 (i := 107) rfl rfl
set_option maxRecDepth 100000 in
theorem lf_X3_15 : Cond.fieldLink RX3 15 "PatchesSameAge$Text" "length" "I" ∈ TG := in1 (i := 108) rfl rfl
set_option maxRecDepth 100000 in
theorem nf_X5_73 : Cond.fieldLinkNest RX5 73 "PatchesSameAge$Text" "length" "I" "PatchesSameAge" ∈ NWl := List.mem_of_getElem? (i := 20) rfl
set_option maxRecDepth 100000 in
theorem lcl_X5_59 : Cond.classLink RX5 59 RX4 ∈ TG := in1 (i := 115) rfl rfl
set_option maxRecDepth 100000 in
theorem nm_X5_61 : Cond.methodLinkNest RX5 61 yX4_init "PatchesSameAge" ∈ NWl := List.mem_of_getElem? (i := 21) rfl
set_option maxRecDepth 100000 in
theorem lm_X4_3 : Cond.methodLink RX4 3 objectInit ∈ TG := in1 (i := 120) rfl rfl
set_option maxRecDepth 100000 in
theorem lf_X4_9 : Cond.fieldLink RX4 9 "PatchesSameAge$Ways" "piece" "[I" ∈ TG := in1 (i := 121) rfl rfl
set_option maxRecDepth 100000 in
theorem nf_X5_267 : Cond.fieldLinkNest RX5 267 "PatchesSameAge$Ways" "piece" "[I" "PatchesSameAge" ∈ NWl := List.mem_of_getElem? (i := 22) rfl
set_option maxRecDepth 100000 in
theorem lf_X4_15 : Cond.fieldLink RX4 15 "PatchesSameAge$Ways" "at" "[I" ∈ TG := in1 (i := 123) rfl rfl
set_option maxRecDepth 100000 in
theorem nf_X5_260 : Cond.fieldLinkNest RX5 260 "PatchesSameAge$Ways" "at" "[I" "PatchesSameAge" ∈ NWl := List.mem_of_getElem? (i := 23) rfl
set_option maxRecDepth 100000 in
theorem lf_X4_18 : Cond.fieldLink RX4 18 "PatchesSameAge$Ways" "pull" "[I" ∈ TG := in1 (i := 125) rfl rfl
set_option maxRecDepth 100000 in
theorem nf_X5_248 : Cond.fieldLinkNest RX5 248 "PatchesSameAge$Ways" "pull" "[I" "PatchesSameAge" ∈ NWl := List.mem_of_getElem? (i := 24) rfl
set_option maxRecDepth 100000 in
theorem lf_X4_21 : Cond.fieldLink RX4 21 "PatchesSameAge$Ways" "size" "I" ∈ TG := in1 (i := 127) rfl rfl
set_option maxRecDepth 100000 in
theorem nf_X5_259 : Cond.fieldLinkNest RX5 259 "PatchesSameAge$Ways" "size" "I" "PatchesSameAge" ∈ NWl := List.mem_of_getElem? (i := 25) rfl
set_option maxRecDepth 100000 in
theorem lf_X5_10 : Cond.fieldLink RX5 10 "PatchesSameAge" "now" "LPatchesSameAge$Cloth;" ∈ TG := in1 (i := 138) rfl rfl
set_option maxRecDepth 100000 in
theorem lf_X5_19 : Cond.fieldLink RX5 19 "PatchesSameAge" "roll" "LPatchesSameAge$Roll;" ∈ TG := in1 (i := 139) rfl rfl
set_option maxRecDepth 100000 in
theorem lf_X5_26 : Cond.fieldLink RX5 26 "PatchesSameAge" "past" "LPatchesSameAge$Past;" ∈ TG := in1 (i := 140) rfl rfl
set_option maxRecDepth 100000 in
theorem lf_X5_33 : Cond.fieldLink RX5 33 "PatchesSameAge" "text" "LPatchesSameAge$Text;" ∈ TG := in1 (i := 141) rfl rfl
set_option maxRecDepth 100000 in
theorem lf_X5_37 : Cond.fieldLink RX5 37 "PatchesSameAge" "numbers" "[I" ∈ TG := in1 (i := 142) rfl rfl
set_option maxRecDepth 100000 in
theorem lf_X5_281 : Cond.fieldLink RX5 281 "PatchesSameAge" "numberCount" "I" ∈ TG := in1 (i := 143) rfl rfl
set_option maxRecDepth 100000 in
theorem lf_X5_41 : Cond.fieldLink RX5 41 "PatchesSameAge" "refused" "[I" ∈ TG := in1 (i := 144) rfl rfl
set_option maxRecDepth 100000 in
theorem lf_X5_44 : Cond.fieldLink RX5 44 "PatchesSameAge" "imageCloth" "LPatchesSameAge$Cloth;" ∈ TG := in1 (i := 145) rfl rfl
set_option maxRecDepth 100000 in
theorem lf_X5_47 : Cond.fieldLink RX5 47 "PatchesSameAge" "imageRoll" "LPatchesSameAge$Roll;" ∈ TG := in1 (i := 146) rfl rfl
set_option maxRecDepth 100000 in
theorem lf_X5_336 : Cond.fieldLink RX5 336 "PatchesSameAge" "imageTaken" "Z" ∈ TG := in1 (i := 147) rfl rfl
set_option maxRecDepth 100000 in
theorem lf_X5_50 : Cond.fieldLink RX5 50 "PatchesSameAge" "mind" "LPatchesSameAge$Cloth;" ∈ TG := in1 (i := 148) rfl rfl
set_option maxRecDepth 100000 in
theorem lf_X5_53 : Cond.fieldLink RX5 53 "PatchesSameAge" "later" "LPatchesSameAge$Cloth;" ∈ TG := in1 (i := 149) rfl rfl
set_option maxRecDepth 100000 in
theorem lf_X5_56 : Cond.fieldLink RX5 56 "PatchesSameAge" "mindRoll" "LPatchesSameAge$Roll;" ∈ TG := in1 (i := 150) rfl rfl
set_option maxRecDepth 100000 in
theorem lf_X5_62 : Cond.fieldLink RX5 62 "PatchesSameAge" "ways" "LPatchesSameAge$Ways;" ∈ TG := in1 (i := 151) rfl rfl
set_option maxRecDepth 100000 in
theorem lf_X5_66 : Cond.fieldLink RX5 66 "PatchesSameAge" "list" "[I" ∈ TG := in1 (i := 152) rfl rfl
set_option maxRecDepth 100000 in
theorem lm_L_13 : Cond.methodLink "PatchesSameAgeLaw" 13 yX5_feed ∈ TG := in1 (i := 184) rfl rfl
set_option maxRecDepth 100000 in
theorem lm_X5_69 : Cond.methodLink RX5 69 yX5_refuse ∈ TG := in1 (i := 188) rfl rfl
set_option maxRecDepth 100000 in
theorem nm_X5_77 : Cond.methodLinkNest RX5 77 yX3_add "PatchesSameAge" ∈ NWl := List.mem_of_getElem? (i := 26) rfl
set_option maxRecDepth 100000 in
theorem lm_L_18 : Cond.methodLink "PatchesSameAgeLaw" 18 yX5_trousers ∈ TG := in1 (i := 196) rfl rfl
set_option maxRecDepth 100000 in
theorem nm_X5_81 : Cond.methodLinkNest RX5 81 yX3_formFault "PatchesSameAge" ∈ NWl := List.mem_of_getElem? (i := 27) rfl
set_option maxRecDepth 100000 in
theorem lm_X3_23 : Cond.methodLink RX3 23 yX3_sizeAt ∈ TG := in1 (i := 204) rfl rfl
set_option maxRecDepth 100000 in
theorem lm_X3_19 : Cond.methodLink RX3 19 yX3_letterAt ∈ TG := in1 (i := 208) rfl rfl
set_option maxRecDepth 100000 in
theorem lm_X3_26 : Cond.methodLink RX3 26 yX3_isDigit ∈ TG := in1 (i := 212) rfl rfl
set_option maxRecDepth 100000 in
theorem lm_X5_85 : Cond.methodLink RX5 85 yX5_tellAll ∈ TG := in1 (i := 215) rfl rfl
set_option maxRecDepth 100000 in
theorem nm_X5_88 : Cond.methodLinkNest RX5 88 yX0_become "PatchesSameAge" ∈ NWl := List.mem_of_getElem? (i := 28) rfl
set_option maxRecDepth 100000 in
theorem lm_X0_24 : Cond.methodLink RX0 24 arraycopyName ∈ TG := in1 (i := 223) rfl rfl
set_option maxRecDepth 100000 in
theorem nm_X5_92 : Cond.methodLinkNest RX5 92 yX2_become "PatchesSameAge" ∈ NWl := List.mem_of_getElem? (i := 29) rfl
set_option maxRecDepth 100000 in
theorem lm_X2_21 : Cond.methodLink RX2 21 arraycopyName ∈ TG := in1 (i := 230) rfl rfl
set_option maxRecDepth 100000 in
theorem lm_X5_95 : Cond.methodLink RX5 95 yX5_tellOne ∈ TG := in1 (i := 231) rfl rfl
set_option maxRecDepth 100000 in
theorem nm_X5_111 : Cond.methodLinkNest RX5 111 yX3_letterAt "PatchesSameAge" ∈ NWl := List.mem_of_getElem? (i := 30) rfl
set_option maxRecDepth 100000 in
theorem nm_X5_114 : Cond.methodLinkNest RX5 114 yX3_number "PatchesSameAge" ∈ NWl := List.mem_of_getElem? (i := 31) rfl
set_option maxRecDepth 100000 in
theorem lm_X5_117 : Cond.methodLink RX5 117 yX5_tellCells ∈ TG := in2 (i := 0) rfl rfl
set_option maxRecDepth 100000 in
theorem lm_X5_134 : Cond.methodLink RX5 134 yX5_isCell ∈ TG := in2 (i := 4) rfl rfl
set_option maxRecDepth 100000 in
theorem lm_X5_137 : Cond.methodLink RX5 137 yX5_isKind ∈ TG := in2 (i := 7) rfl rfl
set_option maxRecDepth 100000 in
theorem nm_X5_140 : Cond.methodLinkNest RX5 140 yX0_make "PatchesSameAge" ∈ NWl := List.mem_of_getElem? (i := 32) rfl
set_option maxRecDepth 100000 in
theorem lm_X5_121 : Cond.methodLink RX5 121 yX5_tellPiece ∈ TG := in2 (i := 14) rfl rfl
set_option maxRecDepth 100000 in
theorem nm_X5_147 : Cond.methodLinkNest RX5 147 yX2_add "PatchesSameAge" ∈ NWl := List.mem_of_getElem? (i := 33) rfl
set_option maxRecDepth 100000 in
theorem lm_X5_124 : Cond.methodLink RX5 124 yX5_tellPut ∈ TG := in2 (i := 22) rfl rfl
set_option maxRecDepth 100000 in
theorem nm_X5_150 : Cond.methodLinkNest RX5 150 yX2_isFree "PatchesSameAge" ∈ NWl := List.mem_of_getElem? (i := 34) rfl
set_option maxRecDepth 100000 in
theorem lm_X2_34 : Cond.methodLink RX2 34 yX2_has ∈ TG := in2 (i := 30) rfl rfl
set_option maxRecDepth 100000 in
theorem nm_X5_153 : Cond.methodLinkNest RX5 153 yX0_put "PatchesSameAge" ∈ NWl := List.mem_of_getElem? (i := 35) rfl
set_option maxRecDepth 100000 in
theorem lm_X0_39 : Cond.methodLink RX0 39 yX0_make ∈ TG := in2 (i := 38) rfl rfl
set_option maxRecDepth 100000 in
theorem nm_X5_157 : Cond.methodLinkNest RX5 157 yX2_use "PatchesSameAge" ∈ NWl := List.mem_of_getElem? (i := 36) rfl
set_option maxRecDepth 100000 in
theorem lm_X5_128 : Cond.methodLink RX5 128 yX5_tellWear ∈ TG := in2 (i := 43) rfl rfl
set_option maxRecDepth 100000 in
theorem lm_X5_131 : Cond.methodLink RX5 131 yX5_tellYears ∈ TG := in2 (i := 47) rfl rfl
set_option maxRecDepth 100000 in
theorem nm_X5_166 : Cond.methodLinkNest RX5 166 yX0_goOn "PatchesSameAge" ∈ NWl := List.mem_of_getElem? (i := 37) rfl
set_option maxRecDepth 100000 in
theorem lm_X0_70 : Cond.methodLink RX0 70 yX0_wearing ∈ TG := in2 (i := 55) rfl rfl
set_option maxRecDepth 100000 in
theorem lm_X0_60 : Cond.methodLink RX0 60 yX0_pull ∈ TG := in2 (i := 59) rfl rfl
set_option maxRecDepth 100000 in
theorem nf_X0_47 : Cond.fieldLinkNest RX0 47 "PatchesSameAge" "BESIDE" "[I" "PatchesSameAge" ∈ NWl := List.mem_of_getElem? (i := 38) rfl
set_option maxRecDepth 100000 in
theorem lm_X0_50 : Cond.methodLink RX0 50 Lib.Math.abs.name ∈ TG := in2 (i := 65) rfl rfl
set_option maxRecDepth 100000 in
theorem lm_X0_56 : Cond.methodLink RX0 56 Lib.Math.max.name ∈ TG := in2 (i := 68) rfl rfl
set_option maxRecDepth 100000 in
theorem lm_X0_73 : Cond.methodLink RX0 73 Lib.Math.min.name ∈ TG := in2 (i := 71) rfl rfl
set_option maxRecDepth 100000 in
theorem lm_X0_76 : Cond.methodLink RX0 76 yX0_growOlder ∈ TG := in2 (i := 74) rfl rfl
set_option maxRecDepth 100000 in
theorem nm_X5_99 : Cond.methodLinkNest RX5 99 yX3_sizeAt "PatchesSameAge" ∈ NWl := List.mem_of_getElem? (i := 39) rfl
set_option maxRecDepth 100000 in
theorem lm_X5_102 : Cond.methodLink RX5 102 Lib.Math.max.name ∈ TG := in2 (i := 79) rfl rfl
set_option maxRecDepth 100000 in
theorem nm_X5_108 : Cond.methodLinkNest RX5 108 yX1_forget "PatchesSameAge" ∈ NWl := List.mem_of_getElem? (i := 40) rfl
set_option maxRecDepth 100000 in
theorem lm_L_23 : Cond.methodLink "PatchesSameAgeLaw" 23 yX5_cellOf ∈ TG := in2 (i := 84) rfl rfl
set_option maxRecDepth 100000 in
theorem nm_X5_178 : Cond.methodLinkNest RX5 178 yX0_pull "PatchesSameAge" ∈ NWl := List.mem_of_getElem? (i := 41) rfl
set_option maxRecDepth 100000 in
theorem nm_X5_181 : Cond.methodLinkNest RX5 181 yX0_wearing "PatchesSameAge" ∈ NWl := List.mem_of_getElem? (i := 42) rfl
set_option maxRecDepth 100000 in
theorem nm_X5_184 : Cond.methodLinkNest RX5 184 yX0_hold "PatchesSameAge" ∈ NWl := List.mem_of_getElem? (i := 43) rfl
set_option maxRecDepth 100000 in
theorem nm_X5_187 : Cond.methodLinkNest RX5 187 yX0_isHole "PatchesSameAge" ∈ NWl := List.mem_of_getElem? (i := 44) rfl
set_option maxRecDepth 100000 in
theorem lm_X0_63 : Cond.methodLink RX0 63 yX0_hold ∈ TG := in2 (i := 98) rfl rfl
set_option maxRecDepth 100000 in
theorem lm_L_28 : Cond.methodLink "PatchesSameAgeLaw" 28 yX5_pieceOf ∈ TG := in2 (i := 99) rfl rfl
set_option maxRecDepth 100000 in
theorem nm_X5_190 : Cond.methodLinkNest RX5 190 yX2_has "PatchesSameAge" ∈ NWl := List.mem_of_getElem? (i := 45) rfl
set_option maxRecDepth 100000 in
theorem lm_L_32 : Cond.methodLink "PatchesSameAgeLaw" 32 yX5_piece ∈ TG := in2 (i := 104) rfl rfl
set_option maxRecDepth 100000 in
theorem lm_L_37 : Cond.methodLink "PatchesSameAgeLaw" 37 yX5_cell ∈ TG := in2 (i := 108) rfl rfl
set_option maxRecDepth 100000 in
theorem nm_X5_196 : Cond.methodLinkNest RX5 196 yX1_note "PatchesSameAge" ∈ NWl := List.mem_of_getElem? (i := 46) rfl
set_option maxRecDepth 100000 in
theorem nm_X1_26 : Cond.methodLinkNest RX1 26 yX0_become "PatchesSameAge" ∈ NWl := List.mem_of_getElem? (i := 47) rfl
set_option maxRecDepth 100000 in
theorem lm_X1_37 : Cond.methodLink RX1 37 Lib.Math.min.name ∈ TG := in2 (i := 117) rfl rfl
set_option maxRecDepth 100000 in
theorem lm_L_42 : Cond.methodLink "PatchesSameAgeLaw" 42 yX5_puts ∈ TG := in2 (i := 118) rfl rfl
set_option maxRecDepth 100000 in
theorem nm_X5_200 : Cond.methodLinkNest RX5 200 yX0_pullTogether "PatchesSameAge" ∈ NWl := List.mem_of_getElem? (i := 48) rfl
set_option maxRecDepth 100000 in
theorem lm_L_46 : Cond.methodLink "PatchesSameAgeLaw" 46 yX5_wears ∈ TG := in2 (i := 126) rfl rfl
set_option maxRecDepth 100000 in
theorem lm_L_50 : Cond.methodLink "PatchesSameAgeLaw" 50 yX5_years ∈ TG := in2 (i := 130) rfl rfl
set_option maxRecDepth 100000 in
theorem nm_X5_203 : Cond.methodLinkNest RX5 203 yX0_holeBits "PatchesSameAge" ∈ NWl := List.mem_of_getElem? (i := 49) rfl
set_option maxRecDepth 100000 in
theorem lm_X0_66 : Cond.methodLink RX0 66 yX0_isHole ∈ TG := in2 (i := 138) rfl rfl
set_option maxRecDepth 100000 in
theorem lm_X5_206 : Cond.methodLink RX5 206 yJ6_bitCount_0f7a4 ∈ TG := in2 (i := 139) rfl rfl
set_option maxRecDepth 100000 in
theorem lc_J6_265 : Cond.constant RJ6 265 (1431655765) ∈ TG := in2 (i := 142) rfl rfl
set_option maxRecDepth 100000 in
theorem lc_J6_266 : Cond.constant RJ6 266 (858993459) ∈ TG := in2 (i := 143) rfl rfl
set_option maxRecDepth 100000 in
theorem lc_J6_267 : Cond.constant RJ6 267 (252645135) ∈ TG := in2 (i := 144) rfl rfl
set_option maxRecDepth 100000 in
theorem lm_L_54 : Cond.methodLink "PatchesSameAgeLaw" 54 yX5_back ∈ TG := in2 (i := 145) rfl rfl
set_option maxRecDepth 100000 in
theorem nm_X5_212 : Cond.methodLinkNest RX5 212 yX1_takeBack "PatchesSameAge" ∈ NWl := List.mem_of_getElem? (i := 50) rfl
set_option maxRecDepth 100000 in
theorem lm_L_58 : Cond.methodLink "PatchesSameAgeLaw" 58 yX5_behind ∈ TG := in2 (i := 153) rfl rfl
set_option maxRecDepth 100000 in
theorem lm_X5_215 : Cond.methodLink RX5 215 yX5_thinkYears ∈ TG := in2 (i := 157) rfl rfl
set_option maxRecDepth 100000 in
theorem lm_L_62 : Cond.methodLink "PatchesSameAgeLaw" 62 yX5_all ∈ TG := in2 (i := 161) rfl rfl
set_option maxRecDepth 100000 in
theorem nm_X5_218 : Cond.methodLinkNest RX5 218 yX0_wearTogether "PatchesSameAge" ∈ NWl := List.mem_of_getElem? (i := 51) rfl
set_option maxRecDepth 100000 in
theorem lm_L_66 : Cond.methodLink "PatchesSameAgeLaw" 66 yX5_holes ∈ TG := in2 (i := 169) rfl rfl
set_option maxRecDepth 100000 in
theorem lm_X5_221 : Cond.methodLink RX5 221 yX5_lastWhole ∈ TG := in2 (i := 173) rfl rfl
set_option maxRecDepth 100000 in
theorem nm_X5_224 : Cond.methodLinkNest RX5 224 yX0_yearsToHole "PatchesSameAge" ∈ NWl := List.mem_of_getElem? (i := 52) rfl
set_option maxRecDepth 100000 in
theorem lm_X0_80 : Cond.methodLink RX0 80 yX0_holeBits ∈ TG := in2 (i := 181) rfl rfl
set_option maxRecDepth 100000 in
theorem lm_X0_84 : Cond.methodLink RX0 84 yX0_goOn ∈ TG := in2 (i := 182) rfl rfl
set_option maxRecDepth 100000 in
theorem lm_X5_227 : Cond.methodLink RX5 227 yX5_least ∈ TG := in2 (i := 183) rfl rfl
set_option maxRecDepth 100000 in
theorem lm_L_70 : Cond.methodLink "PatchesSameAgeLaw" 70 yX5_lasts ∈ TG := in2 (i := 186) rfl rfl
set_option maxRecDepth 100000 in
theorem lm_L_159 : Cond.methodLink "PatchesSameAgeLaw" 159 yX5_doomed ∈ TG := in2 (i := 190) rfl rfl
set_option maxRecDepth 100000 in
theorem lm_L_168 : Cond.methodLink "PatchesSameAgeLaw" 168 yX5_younger ∈ TG := in2 (i := 194) rfl rfl
set_option maxRecDepth 100000 in
theorem lc_X5_230 : Cond.constant RX5 230 (1000000000) ∈ TG := in2 (i := 198) rfl rfl
set_option maxRecDepth 100000 in
theorem nm_X5_231 : Cond.methodLinkNest RX5 231 yX0_growOlder "PatchesSameAge" ∈ NWl := List.mem_of_getElem? (i := 53) rfl
set_option maxRecDepth 100000 in
theorem lm_L_74 : Cond.methodLink "PatchesSameAgeLaw" 74 yX5_fits ∈ TG := in2 (i := 200) rfl rfl
set_option maxRecDepth 100000 in
theorem lc_X5_234 : Cond.constant RX5 234 (2147483647) ∈ TG := in2 (i := 204) rfl rfl
set_option maxRecDepth 100000 in
theorem lm_L_78 : Cond.methodLink "PatchesSameAgeLaw" 78 yX5_bestPiece ∈ TG := in2 (i := 205) rfl rfl
set_option maxRecDepth 100000 in
theorem lm_L_82 : Cond.methodLink "PatchesSameAgeLaw" 82 yX5_mend ∈ TG := in2 (i := 209) rfl rfl
set_option maxRecDepth 100000 in
theorem lm_L_86 : Cond.methodLink "PatchesSameAgeLaw" 86 yX5_keep ∈ TG := in2 (i := 213) rfl rfl
set_option maxRecDepth 100000 in
theorem lm_L_90 : Cond.methodLink "PatchesSameAgeLaw" 90 yX5_placed ∈ TG := in2 (i := 217) rfl rfl
set_option maxRecDepth 100000 in
theorem nm_X5_235 : Cond.methodLinkNest RX5 235 yX2_free "PatchesSameAge" ∈ NWl := List.mem_of_getElem? (i := 54) rfl
set_option maxRecDepth 100000 in
theorem lm_X2_38 : Cond.methodLink RX2 38 yJ6_bitCount_0f7a4 ∈ TG := in2 (i := 225) rfl rfl
set_option maxRecDepth 100000 in
theorem nm_X5_238 : Cond.methodLinkNest RX5 238 yX4_gather "PatchesSameAge" ∈ NWl := List.mem_of_getElem? (i := 55) rfl
set_option maxRecDepth 100000 in
theorem nm_X4_28 : Cond.methodLinkNest RX4 28 yX2_isFree "PatchesSameAge" ∈ NWl := List.mem_of_getElem? (i := 56) rfl
set_option maxRecDepth 100000 in
theorem nm_X5_241 : Cond.methodLinkNest RX5 241 yX4_reckon "PatchesSameAge" ∈ NWl := List.mem_of_getElem? (i := 57) rfl
set_option maxRecDepth 100000 in
theorem lm_X4_32 : Cond.methodLink RX4 32 yX4_many ∈ TG := in2 (i := 235) rfl rfl
set_option maxRecDepth 100000 in
theorem lm_X4_36 : Cond.methodLink RX4 36 yX4_takeOff ∈ TG := in2 (i := 239) rfl rfl
set_option maxRecDepth 100000 in
theorem nm_X4_39 : Cond.methodLinkNest RX4 39 yX0_become "PatchesSameAge" ∈ NWl := List.mem_of_getElem? (i := 58) rfl
set_option maxRecDepth 100000 in
theorem lm_X4_45 : Cond.methodLink RX4 45 yX4_cellIn ∈ TG := in3 (i := 4) rfl rfl
set_option maxRecDepth 100000 in
theorem lm_X4_49 : Cond.methodLink RX4 49 yX4_isTaken ∈ TG := in3 (i := 8) rfl rfl
set_option maxRecDepth 100000 in
theorem nm_X4_52 : Cond.methodLinkNest RX4 52 yX0_put "PatchesSameAge" ∈ NWl := List.mem_of_getElem? (i := 59) rfl
set_option maxRecDepth 100000 in
theorem nm_X4_56 : Cond.methodLinkNest RX4 56 yX0_pullTogether "PatchesSameAge" ∈ NWl := List.mem_of_getElem? (i := 60) rfl
set_option maxRecDepth 100000 in
theorem nm_X5_245 : Cond.methodLinkNest RX5 245 yX4_leastWay "PatchesSameAge" ∈ NWl := List.mem_of_getElem? (i := 61) rfl
set_option maxRecDepth 100000 in
theorem lm_X4_59 : Cond.methodLink RX4 59 Lib.Math.max.name ∈ TG := in3 (i := 18) rfl rfl
set_option maxRecDepth 100000 in
theorem nm_X5_250 : Cond.methodLinkNest RX5 250 yX4_placeOf "PatchesSameAge" ∈ NWl := List.mem_of_getElem? (i := 62) rfl
set_option maxRecDepth 100000 in
theorem nm_X5_253 : Cond.methodLinkNest RX5 253 yX4_cellIn "PatchesSameAge" ∈ NWl := List.mem_of_getElem? (i := 63) rfl
set_option maxRecDepth 100000 in
theorem lm_L_94 : Cond.methodLink "PatchesSameAgeLaw" 94 yX5_when ∈ TG := in3 (i := 24) rfl rfl
set_option maxRecDepth 100000 in
theorem lm_L_98 : Cond.methodLink "PatchesSameAgeLaw" 98 yX5_turns ∈ TG := in3 (i := 28) rfl rfl
set_option maxRecDepth 100000 in
theorem nm_X5_256 : Cond.methodLinkNest RX5 256 yX4_takeOff "PatchesSameAge" ∈ NWl := List.mem_of_getElem? (i := 64) rfl
set_option maxRecDepth 100000 in
theorem lm_X5_263 : Cond.methodLink RX5 263 yX5_endOf ∈ TG := in3 (i := 33) rfl rfl
set_option maxRecDepth 100000 in
theorem nm_X5_270 : Cond.methodLinkNest RX5 270 yX4_number "PatchesSameAge" ∈ NWl := List.mem_of_getElem? (i := 65) rfl
set_option maxRecDepth 100000 in
theorem nm_X5_272 : Cond.methodLinkNest RX5 272 yX4_isTaken "PatchesSameAge" ∈ NWl := List.mem_of_getElem? (i := 66) rfl
set_option maxRecDepth 100000 in
theorem lm_X5_275 : Cond.methodLink RX5 275 Lib.Math.min.name ∈ TG := in3 (i := 41) rfl rfl
set_option maxRecDepth 100000 in
theorem lm_L_139 : Cond.methodLink "PatchesSameAgeLaw" 139 yX5_bestOf ∈ TG := in3 (i := 42) rfl rfl
set_option maxRecDepth 100000 in
theorem lm_X5_278 : Cond.methodLink RX5 278 yX5_thinkOther ∈ TG := in3 (i := 46) rfl rfl
set_option maxRecDepth 100000 in
theorem lm_L_176 : Cond.methodLink "PatchesSameAgeLaw" 176 yX5_row ∈ TG := in3 (i := 50) rfl rfl
set_option maxRecDepth 100000 in
theorem lm_L_184 : Cond.methodLink "PatchesSameAgeLaw" 184 yX5_clear ∈ TG := in3 (i := 54) rfl rfl
set_option maxRecDepth 100000 in
theorem lm_L_180 : Cond.methodLink "PatchesSameAgeLaw" 180 yX5_judge ∈ TG := in3 (i := 58) rfl rfl
set_option maxRecDepth 100000 in
theorem lm_L_102 : Cond.methodLink "PatchesSameAgeLaw" 102 yX5_whose ∈ TG := in3 (i := 62) rfl rfl
set_option maxRecDepth 100000 in
theorem lm_X5_284 : Cond.methodLink RX5 284 yX5_bitsThatWoreSo ∈ TG := in3 (i := 66) rfl rfl
set_option maxRecDepth 100000 in
theorem lm_X5_291 : Cond.methodLink RX5 291 yX5_mindWoreSo ∈ TG := in3 (i := 70) rfl rfl
set_option maxRecDepth 100000 in
theorem lm_X5_288 : Cond.methodLink RX5 288 yX5_agesThatWoreSo ∈ TG := in3 (i := 74) rfl rfl
set_option maxRecDepth 100000 in
theorem lm_L_106 : Cond.methodLink "PatchesSameAgeLaw" 106 yX5_islands ∈ TG := in3 (i := 78) rfl rfl
set_option maxRecDepth 100000 in
theorem nm_X5_294 : Cond.methodLinkNest RX5 294 yX0_heapOf "PatchesSameAge" ∈ NWl := List.mem_of_getElem? (i := 67) rfl
set_option maxRecDepth 100000 in
theorem lm_X0_87 : Cond.methodLink RX0 87 yX0_hangingOn ∈ TG := in3 (i := 86) rfl rfl
set_option maxRecDepth 100000 in
theorem lm_L_110 : Cond.methodLink "PatchesSameAgeLaw" 110 yX5_strip ∈ TG := in3 (i := 90) rfl rfl
set_option maxRecDepth 100000 in
theorem nm_X5_297 : Cond.methodLinkNest RX5 297 yX0_risingFrom "PatchesSameAge" ∈ NWl := List.mem_of_getElem? (i := 68) rfl
set_option maxRecDepth 100000 in
theorem lm_L_114 : Cond.methodLink "PatchesSameAgeLaw" 114 yX5_swap ∈ TG := in3 (i := 98) rfl rfl
set_option maxRecDepth 100000 in
theorem nm_X5_300 : Cond.methodLinkNest RX5 300 yX0_change "PatchesSameAge" ∈ NWl := List.mem_of_getElem? (i := 69) rfl
set_option maxRecDepth 100000 in
theorem lm_X0_43 : Cond.methodLink RX0 43 yX0_changeIn ∈ TG := in3 (i := 106) rfl rfl
set_option maxRecDepth 100000 in
theorem lm_L_123 : Cond.methodLink "PatchesSameAgeLaw" 123 yX5_oldest ∈ TG := in3 (i := 109) rfl rfl
set_option maxRecDepth 100000 in
theorem lm_X5_304 : Cond.methodLink RX5 304 yX5_bySize ∈ TG := in3 (i := 113) rfl rfl
set_option maxRecDepth 100000 in
theorem lm_L_127 : Cond.methodLink "PatchesSameAgeLaw" 127 yX5_tightest ∈ TG := in3 (i := 116) rfl rfl
set_option maxRecDepth 100000 in
theorem lf_X5_308 : Cond.fieldLink RX5 308 "PatchesSameAge" "BESIDE" "[I" ∈ TG := in3 (i := 120) rfl rfl
set_option maxRecDepth 100000 in
theorem lm_X5_311 : Cond.methodLink RX5 311 Lib.Math.abs.name ∈ TG := in3 (i := 121) rfl rfl
set_option maxRecDepth 100000 in
theorem lm_L_131 : Cond.methodLink "PatchesSameAgeLaw" 131 yX5_ageFor ∈ TG := in3 (i := 122) rfl rfl
set_option maxRecDepth 100000 in
theorem lm_L_135 : Cond.methodLink "PatchesSameAgeLaw" 135 yX5_entire ∈ TG := in3 (i := 126) rfl rfl
set_option maxRecDepth 100000 in
theorem lm_L_143 : Cond.methodLink "PatchesSameAgeLaw" 143 yX5_harm ∈ TG := in3 (i := 130) rfl rfl
set_option maxRecDepth 100000 in
theorem lm_L_147 : Cond.methodLink "PatchesSameAgeLaw" 147 yX5_pairs ∈ TG := in3 (i := 134) rfl rfl
set_option maxRecDepth 100000 in
theorem lm_L_151 : Cond.methodLink "PatchesSameAgeLaw" 151 yX5_sumOf ∈ TG := in3 (i := 138) rfl rfl
set_option maxRecDepth 100000 in
theorem lm_L_155 : Cond.methodLink "PatchesSameAgeLaw" 155 yX5_rank ∈ TG := in3 (i := 142) rfl rfl
set_option maxRecDepth 100000 in
theorem nm_X5_314 : Cond.methodLinkNest RX5 314 yX0_moreWorn "PatchesSameAge" ∈ NWl := List.mem_of_getElem? (i := 70) rfl
set_option maxRecDepth 100000 in
theorem lm_L_172 : Cond.methodLink "PatchesSameAgeLaw" 172 yX5_unlike ∈ TG := in3 (i := 150) rfl rfl
set_option maxRecDepth 100000 in
theorem lm_L_118 : Cond.methodLink "PatchesSameAgeLaw" 118 yX5_chance ∈ TG := in3 (i := 154) rfl rfl
set_option maxRecDepth 100000 in
theorem lm_X5_317 : Cond.methodLink RX5 317 yX5_refuseLong ∈ TG := in3 (i := 158) rfl rfl
set_option maxRecDepth 100000 in
theorem ll_X5_340 : Cond.constantLong RX5 340 (4000000000000000000) ∈ TG := in3 (i := 162) rfl rfl
set_option maxRecDepth 100000 in
theorem lm_X5_321 : Cond.methodLink RX5 321 yX5_waysToHole ∈ TG := in3 (i := 163) rfl rfl
set_option maxRecDepth 100000 in
theorem lm_X5_325 : Cond.methodLink RX5 325 yX5_partOf ∈ TG := in3 (i := 167) rfl rfl
set_option maxRecDepth 100000 in
theorem lm_L_163 : Cond.methodLink "PatchesSameAgeLaw" 163 yX5_mean ∈ TG := in3 (i := 170) rfl rfl
set_option maxRecDepth 100000 in
theorem nm_X5_329 : Cond.methodLinkNest RX5 329 yX0_ageTogether "PatchesSameAge" ∈ NWl := List.mem_of_getElem? (i := 71) rfl
set_option maxRecDepth 100000 in
theorem ll_X5_332 : Cond.constantLong RX5 332 (12) ∈ TG := in3 (i := 178) rfl rfl
set_option maxRecDepth 100000 in
theorem lm_L_188 : Cond.methodLink "PatchesSameAgeLaw" 188 yX5_lots ∈ TG := in3 (i := 179) rfl rfl
set_option maxRecDepth 100000 in
theorem lc_X5_334 : Cond.constant RX5 334 (1103515245) ∈ TG := in3 (i := 183) rfl rfl
set_option maxRecDepth 100000 in
theorem lc_X5_335 : Cond.constant RX5 335 (65536) ∈ TG := in3 (i := 184) rfl rfl
set_option maxRecDepth 100000 in
theorem lm_L_192 : Cond.methodLink "PatchesSameAgeLaw" 192 yX5_image ∈ TG := in3 (i := 185) rfl rfl
set_option maxRecDepth 100000 in
theorem lm_L_196 : Cond.methodLink "PatchesSameAgeLaw" 196 yX5_restore ∈ TG := in3 (i := 189) rfl rfl
set_option maxRecDepth 100000 in
theorem lm_L_200 : Cond.methodLink "PatchesSameAgeLaw" 200 yX5_count ∈ TG := in3 (i := 193) rfl rfl
set_option maxRecDepth 100000 in
theorem lcl_L_10 : Cond.classLink "PatchesSameAgeLaw" 10 RX6 ∈ TG := in3 (i := 197) rfl rfl
set_option maxRecDepth 100000 in
theorem lm_L_12 : Cond.methodLink "PatchesSameAgeLaw" 12 yX6_init ∈ TG := in3 (i := 199) rfl rfl
set_option maxRecDepth 100000 in
theorem lm_X6_1 : Cond.methodLink RX6 1 objectInit ∈ TG := in3 (i := 202) rfl rfl
set_option maxRecDepth 100000 in
theorem lf_X6_7 : Cond.fieldLink RX6 7 "PatchesSameAgeModel" "kinds" "[I" ∈ TG := in3 (i := 203) rfl rfl
set_option maxRecDepth 100000 in
theorem lf_X6_13 : Cond.fieldLink RX6 13 "PatchesSameAgeModel" "figures" "[I" ∈ TG := in3 (i := 204) rfl rfl
set_option maxRecDepth 100000 in
theorem lf_X6_16 : Cond.fieldLink RX6 16 "PatchesSameAgeModel" "ages" "[I" ∈ TG := in3 (i := 205) rfl rfl
set_option maxRecDepth 100000 in
theorem lf_X6_19 : Cond.fieldLink RX6 19 "PatchesSameAgeModel" "wear0" "[I" ∈ TG := in3 (i := 206) rfl rfl
set_option maxRecDepth 100000 in
theorem lf_X6_125 : Cond.fieldLink RX6 125 "PatchesSameAgeModel" "year" "I" ∈ TG := in3 (i := 207) rfl rfl
set_option maxRecDepth 100000 in
theorem lf_X6_101 : Cond.fieldLink RX6 101 "PatchesSameAgeModel" "pieces" "I" ∈ TG := in3 (i := 208) rfl rfl
set_option maxRecDepth 100000 in
theorem lf_X6_22 : Cond.fieldLink RX6 22 "PatchesSameAgeModel" "pieceKind" "[I" ∈ TG := in3 (i := 209) rfl rfl
set_option maxRecDepth 100000 in
theorem lf_X6_25 : Cond.fieldLink RX6 25 "PatchesSameAgeModel" "pieceFigure" "[I" ∈ TG := in3 (i := 210) rfl rfl
set_option maxRecDepth 100000 in
theorem lf_X6_28 : Cond.fieldLink RX6 28 "PatchesSameAgeModel" "pieceAge" "[I" ∈ TG := in3 (i := 211) rfl rfl
set_option maxRecDepth 100000 in
theorem lf_X6_31 : Cond.fieldLink RX6 31 "PatchesSameAgeModel" "pieceUsed" "[I" ∈ TG := in3 (i := 212) rfl rfl
set_option maxRecDepth 100000 in
theorem lf_X6_91 : Cond.fieldLink RX6 91 "PatchesSameAgeModel" "thrown" "I" ∈ TG := in3 (i := 213) rfl rfl
set_option maxRecDepth 100000 in
theorem lf_X6_34 : Cond.fieldLink RX6 34 "PatchesSameAgeModel" "refusals" "[I" ∈ TG := in3 (i := 214) rfl rfl
set_option maxRecDepth 100000 in
theorem lf_X6_37 : Cond.fieldLink RX6 37 "PatchesSameAgeModel" "letters" "[I" ∈ TG := in3 (i := 215) rfl rfl
set_option maxRecDepth 100000 in
theorem lf_X6_141 : Cond.fieldLink RX6 141 "PatchesSameAgeModel" "letterMany" "I" ∈ TG := in3 (i := 216) rfl rfl
set_option maxRecDepth 100000 in
theorem lf_X6_144 : Cond.fieldLink RX6 144 "PatchesSameAgeModel" "at" "I" ∈ TG := in3 (i := 217) rfl rfl
set_option maxRecDepth 100000 in
theorem lf_X6_147 : Cond.fieldLink RX6 147 "PatchesSameAgeModel" "isBad" "Z" ∈ TG := in3 (i := 218) rfl rfl
set_option maxRecDepth 100000 in
theorem lf_X6_162 : Cond.fieldLink RX6 162 "PatchesSameAgeModel" "statements" "I" ∈ TG := in3 (i := 219) rfl rfl
set_option maxRecDepth 100000 in
theorem lf_X6_40 : Cond.fieldLink RX6 40 "PatchesSameAgeModel" "placeIn" "[I" ∈ TG := in3 (i := 220) rfl rfl
set_option maxRecDepth 100000 in
theorem lf_X6_43 : Cond.fieldLink RX6 43 "PatchesSameAgeModel" "letterOf" "[I" ∈ TG := in3 (i := 221) rfl rfl
set_option maxRecDepth 100000 in
theorem lf_X6_46 : Cond.fieldLink RX6 46 "PatchesSameAgeModel" "told" "[I" ∈ TG := in3 (i := 222) rfl rfl
set_option maxRecDepth 100000 in
theorem lf_X6_49 : Cond.fieldLink RX6 49 "PatchesSameAgeModel" "kept" "[I" ∈ TG := in3 (i := 223) rfl rfl
set_option maxRecDepth 100000 in
theorem lf_X6_52 : Cond.fieldLink RX6 52 "PatchesSameAgeModel" "imaged" "[I" ∈ TG := in3 (i := 224) rfl rfl
set_option maxRecDepth 100000 in
theorem lf_X6_219 : Cond.fieldLink RX6 219 "PatchesSameAgeModel" "hasImage" "Z" ∈ TG := in3 (i := 225) rfl rfl
set_option maxRecDepth 100000 in
theorem lf_X6_209 : Cond.fieldLink RX6 209 "PatchesSameAgeModel" "place0" "I" ∈ TG := in3 (i := 226) rfl rfl
set_option maxRecDepth 100000 in
theorem lf_X6_203 : Cond.fieldLink RX6 203 "PatchesSameAgeModel" "isTaking" "Z" ∈ TG := in3 (i := 227) rfl rfl
set_option maxRecDepth 100000 in
theorem lf_X6_206 : Cond.fieldLink RX6 206 "PatchesSameAgeModel" "keptIn" "[I" ∈ TG := in3 (i := 228) rfl rfl
set_option maxRecDepth 100000 in
theorem lf_X6_55 : Cond.fieldLink RX6 55 "PatchesSameAgeModel" "turns0" "[I" ∈ TG := in3 (i := 229) rfl rfl
set_option maxRecDepth 100000 in
theorem lf_X6_58 : Cond.fieldLink RX6 58 "PatchesSameAgeModel" "turnOf" "[I" ∈ TG := in3 (i := 230) rfl rfl
set_option maxRecDepth 100000 in
theorem lf_X6_200 : Cond.fieldLink RX6 200 "PatchesSameAgeModel" "turned" "I" ∈ TG := in3 (i := 231) rfl rfl
set_option maxRecDepth 100000 in
theorem lf_X6_61 : Cond.fieldLink RX6 61 "PatchesSameAgeModel" "lastsOf" "[I" ∈ TG := in3 (i := 232) rfl rfl
set_option maxRecDepth 100000 in
theorem lf_X6_64 : Cond.fieldLink RX6 64 "PatchesSameAgeModel" "free0" "[I" ∈ TG := in3 (i := 233) rfl rfl
set_option maxRecDepth 100000 in
theorem lf_X6_264 : Cond.fieldLink RX6 264 "PatchesSameAgeModel" "freeMany" "I" ∈ TG := in3 (i := 234) rfl rfl
set_option maxRecDepth 100000 in
theorem lf_X6_67 : Cond.fieldLink RX6 67 "PatchesSameAgeModel" "cellFor" "[I" ∈ TG := in3 (i := 235) rfl rfl
set_option maxRecDepth 100000 in
theorem lf_X6_70 : Cond.fieldLink RX6 70 "PatchesSameAgeModel" "bestFor" "[I" ∈ TG := in3 (i := 236) rfl rfl
set_option maxRecDepth 100000 in
theorem lf_X6_73 : Cond.fieldLink RX6 73 "PatchesSameAgeModel" "tried" "[I" ∈ TG := in3 (i := 237) rfl rfl
set_option maxRecDepth 100000 in
theorem lf_X6_76 : Cond.fieldLink RX6 76 "PatchesSameAgeModel" "worthAt" "[I" ∈ TG := in3 (i := 238) rfl rfl
set_option maxRecDepth 100000 in
theorem lf_X6_276 : Cond.fieldLink RX6 276 "PatchesSameAgeModel" "firstTried" "I" ∈ TG := in3 (i := 239) rfl rfl
set_option maxRecDepth 100000 in
theorem lf_X6_79 : Cond.fieldLink RX6 79 "PatchesSameAgeModel" "row" "[I" ∈ TG := in4 (i := 0) rfl rfl
set_option maxRecDepth 100000 in
theorem lf_X6_295 : Cond.fieldLink RX6 295 "PatchesSameAgeModel" "rowMany" "I" ∈ TG := in4 (i := 1) rfl rfl
set_option maxRecDepth 100000 in
theorem lf_X6_82 : Cond.fieldLink RX6 82 "PatchesSameAgeModel" "heapOf" "[I" ∈ TG := in4 (i := 2) rfl rfl
set_option maxRecDepth 100000 in
theorem lf_X6_85 : Cond.fieldLink RX6 85 "PatchesSameAgeModel" "wearAt" "[I" ∈ TG := in4 (i := 3) rfl rfl
set_option maxRecDepth 100000 in
theorem lf_X6_88 : Cond.fieldLink RX6 88 "PatchesSameAgeModel" "sorted" "[I" ∈ TG := in4 (i := 4) rfl rfl
set_option maxRecDepth 100000 in
theorem lf_X6_334 : Cond.fieldLink RX6 334 "PatchesSameAgeModel" "seed" "I" ∈ TG := in4 (i := 5) rfl rfl
set_option maxRecDepth 100000 in
theorem lm_L_17 : Cond.methodLink "PatchesSameAgeLaw" 17 yX6_feed ∈ TG := in4 (i := 93) rfl rfl
set_option maxRecDepth 100000 in
theorem lm_X6_138 : Cond.methodLink RX6 138 yX6_refuse ∈ TG := in4 (i := 97) rfl rfl
set_option maxRecDepth 100000 in
theorem lm_L_22 : Cond.methodLink "PatchesSameAgeLaw" 22 yX6_trousers ∈ TG := in4 (i := 101) rfl rfl
set_option maxRecDepth 100000 in
theorem lm_X6_188 : Cond.methodLink RX6 188 yX6_readStatement ∈ TG := in4 (i := 105) rfl rfl
set_option maxRecDepth 100000 in
theorem lm_X6_151 : Cond.methodLink RX6 151 yX6_here ∈ TG := in4 (i := 109) rfl rfl
set_option maxRecDepth 100000 in
theorem lm_X6_165 : Cond.methodLink RX6 165 yX6_isLetter ∈ TG := in4 (i := 113) rfl rfl
set_option maxRecDepth 100000 in
theorem lm_X6_168 : Cond.methodLink RX6 168 yX6_readNumbers ∈ TG := in4 (i := 116) rfl rfl
set_option maxRecDepth 100000 in
theorem lm_X6_159 : Cond.methodLink RX6 159 yX6_readDigits ∈ TG := in4 (i := 120) rfl rfl
set_option maxRecDepth 100000 in
theorem ll_X6_155 : Cond.constantLong RX6 155 (48) ∈ TG := in4 (i := 124) rfl rfl
set_option maxRecDepth 100000 in
theorem ll_X6_157 : Cond.constantLong RX6 157 (57) ∈ TG := in4 (i := 125) rfl rfl
set_option maxRecDepth 100000 in
theorem lm_X6_97 : Cond.methodLink RX6 97 yX6_in ∈ TG := in4 (i := 126) rfl rfl
set_option maxRecDepth 100000 in
theorem lm_X6_191 : Cond.methodLink RX6 191 yX6_think ∈ TG := in4 (i := 129) rfl rfl
set_option maxRecDepth 100000 in
theorem lm_X6_215 : Cond.methodLink RX6 215 yX6_carryAll ∈ TG := in4 (i := 133) rfl rfl
set_option maxRecDepth 100000 in
theorem lm_X6_212 : Cond.methodLink RX6 212 yX6_carry ∈ TG := in4 (i := 137) rfl rfl
set_option maxRecDepth 100000 in
theorem lm_X6_194 : Cond.methodLink RX6 194 yX6_comesTold ∈ TG := in4 (i := 141) rfl rfl
set_option maxRecDepth 100000 in
theorem lm_X6_134 : Cond.methodLink RX6 134 yX6_makeCell ∈ TG := in4 (i := 145) rfl rfl
set_option maxRecDepth 100000 in
theorem lm_X6_172 : Cond.methodLink RX6 172 yX6_pieceComes ∈ TG := in4 (i := 149) rfl rfl
set_option maxRecDepth 100000 in
theorem lm_X6_176 : Cond.methodLink RX6 176 yX6_isPiece ∈ TG := in4 (i := 153) rfl rfl
set_option maxRecDepth 100000 in
theorem lm_X6_179 : Cond.methodLink RX6 179 yX6_putOn ∈ TG := in4 (i := 157) rfl rfl
set_option maxRecDepth 100000 in
theorem ll_X6_182 : Cond.constantLong RX6 182 (60) ∈ TG := in4 (i := 161) rfl rfl
set_option maxRecDepth 100000 in
theorem lm_X6_184 : Cond.methodLink RX6 184 yX6_goYears ∈ TG := in4 (i := 162) rfl rfl
set_option maxRecDepth 100000 in
theorem lm_X6_131 : Cond.methodLink RX6 131 yX6_yearOn ∈ TG := in4 (i := 166) rfl rfl
set_option maxRecDepth 100000 in
theorem lm_X6_128 : Cond.methodLink RX6 128 yX6_wearsIn ∈ TG := in4 (i := 170) rfl rfl
set_option maxRecDepth 100000 in
theorem lm_X6_114 : Cond.methodLink RX6 114 yX6_pullOf ∈ TG := in4 (i := 174) rfl rfl
set_option maxRecDepth 100000 in
theorem lm_X6_104 : Cond.methodLink RX6 104 yX6_besideOf ∈ TG := in4 (i := 178) rfl rfl
set_option maxRecDepth 100000 in
theorem lm_X6_108 : Cond.methodLink RX6 108 yX6_apart ∈ TG := in4 (i := 181) rfl rfl
set_option maxRecDepth 100000 in
theorem lm_X6_111 : Cond.methodLink RX6 111 yX6_held ∈ TG := in4 (i := 184) rfl rfl
set_option maxRecDepth 100000 in
theorem lm_X6_197 : Cond.methodLink RX6 197 yX6_again ∈ TG := in4 (i := 187) rfl rfl
set_option maxRecDepth 100000 in
theorem lm_L_195 : Cond.methodLink "PatchesSameAgeLaw" 195 yX6_image ∈ TG := in4 (i := 191) rfl rfl
set_option maxRecDepth 100000 in
theorem lm_L_199 : Cond.methodLink "PatchesSameAgeLaw" 199 yX6_restore ∈ TG := in4 (i := 195) rfl rfl
set_option maxRecDepth 100000 in
theorem lm_L_57 : Cond.methodLink "PatchesSameAgeLaw" 57 yX6_back ∈ TG := in4 (i := 199) rfl rfl
set_option maxRecDepth 100000 in
theorem lm_L_27 : Cond.methodLink "PatchesSameAgeLaw" 27 yX6_cellOf ∈ TG := in4 (i := 203) rfl rfl
set_option maxRecDepth 100000 in
theorem lm_X6_222 : Cond.methodLink RX6 222 yX6_isCell ∈ TG := in4 (i := 207) rfl rfl
set_option maxRecDepth 100000 in
theorem ll_X6_95 : Cond.constantLong RX6 95 (11) ∈ TG := in4 (i := 210) rfl rfl
set_option maxRecDepth 100000 in
theorem ll_X6_225 : Cond.constantLong RX6 225 (7) ∈ TG := in4 (i := 211) rfl rfl
set_option maxRecDepth 100000 in
theorem lm_X6_118 : Cond.methodLink RX6 118 yX6_holdsOf ∈ TG := in4 (i := 212) rfl rfl
set_option maxRecDepth 100000 in
theorem lm_X6_121 : Cond.methodLink RX6 121 yX6_isHole ∈ TG := in4 (i := 216) rfl rfl
set_option maxRecDepth 100000 in
theorem lm_L_31 : Cond.methodLink "PatchesSameAgeLaw" 31 yX6_pieceOf ∈ TG := in4 (i := 220) rfl rfl
set_option maxRecDepth 100000 in
theorem ll_X6_227 : Cond.constantLong RX6 227 (3) ∈ TG := in4 (i := 224) rfl rfl
set_option maxRecDepth 100000 in
theorem lm_L_36 : Cond.methodLink "PatchesSameAgeLaw" 36 yX6_piece ∈ TG := in4 (i := 225) rfl rfl
set_option maxRecDepth 100000 in
theorem ll_X6_229 : Cond.constantLong RX6 229 (5) ∈ TG := in4 (i := 229) rfl rfl
set_option maxRecDepth 100000 in
theorem lm_L_41 : Cond.methodLink "PatchesSameAgeLaw" 41 yX6_cell ∈ TG := in4 (i := 230) rfl rfl
set_option maxRecDepth 100000 in
theorem lm_X6_231 : Cond.methodLink RX6 231 yX6_keepTurn ∈ TG := in4 (i := 234) rfl rfl
set_option maxRecDepth 100000 in
theorem lm_L_45 : Cond.methodLink "PatchesSameAgeLaw" 45 yX6_puts ∈ TG := in4 (i := 238) rfl rfl
set_option maxRecDepth 100000 in
theorem lm_X6_234 : Cond.methodLink RX6 234 yX6_allPull ∈ TG := in5 (i := 2) rfl rfl
set_option maxRecDepth 100000 in
theorem lm_L_49 : Cond.methodLink "PatchesSameAgeLaw" 49 yX6_wears ∈ TG := in5 (i := 6) rfl rfl
set_option maxRecDepth 100000 in
theorem lm_X6_237 : Cond.methodLink RX6 237 yX6_wrongNumber ∈ TG := in5 (i := 10) rfl rfl
set_option maxRecDepth 100000 in
theorem lm_L_53 : Cond.methodLink "PatchesSameAgeLaw" 53 yX6_years ∈ TG := in5 (i := 13) rfl rfl
set_option maxRecDepth 100000 in
theorem lm_X6_241 : Cond.methodLink RX6 241 yX6_holeBits ∈ TG := in5 (i := 17) rfl rfl
set_option maxRecDepth 100000 in
theorem lm_X6_244 : Cond.methodLink RX6 244 yX6_onesOf ∈ TG := in5 (i := 21) rfl rfl
set_option maxRecDepth 100000 in
theorem lm_L_61 : Cond.methodLink "PatchesSameAgeLaw" 61 yX6_behind ∈ TG := in5 (i := 24) rfl rfl
set_option maxRecDepth 100000 in
theorem lm_X6_247 : Cond.methodLink RX6 247 yX6_wrongBit ∈ TG := in5 (i := 28) rfl rfl
set_option maxRecDepth 100000 in
theorem lm_L_65 : Cond.methodLink "PatchesSameAgeLaw" 65 yX6_all ∈ TG := in5 (i := 31) rfl rfl
set_option maxRecDepth 100000 in
theorem lm_X6_250 : Cond.methodLink RX6 250 yX6_allWear ∈ TG := in5 (i := 35) rfl rfl
set_option maxRecDepth 100000 in
theorem lm_L_69 : Cond.methodLink "PatchesSameAgeLaw" 69 yX6_holes ∈ TG := in5 (i := 39) rfl rfl
set_option maxRecDepth 100000 in
theorem ll_X6_253 : Cond.constantLong RX6 253 (2) ∈ TG := in5 (i := 43) rfl rfl
set_option maxRecDepth 100000 in
theorem lm_X6_255 : Cond.methodLink RX6 255 yX6_layLasts ∈ TG := in5 (i := 44) rfl rfl
set_option maxRecDepth 100000 in
theorem lm_X6_258 : Cond.methodLink RX6 258 yX6_firstOf ∈ TG := in5 (i := 48) rfl rfl
set_option maxRecDepth 100000 in
theorem lm_L_73 : Cond.methodLink "PatchesSameAgeLaw" 73 yX6_lasts ∈ TG := in5 (i := 52) rfl rfl
set_option maxRecDepth 100000 in
theorem lm_L_77 : Cond.methodLink "PatchesSameAgeLaw" 77 yX6_fits ∈ TG := in5 (i := 56) rfl rfl
set_option maxRecDepth 100000 in
theorem lm_L_81 : Cond.methodLink "PatchesSameAgeLaw" 81 yX6_bestPiece ∈ TG := in5 (i := 60) rfl rfl
set_option maxRecDepth 100000 in
theorem lm_L_85 : Cond.methodLink "PatchesSameAgeLaw" 85 yX6_mend ∈ TG := in5 (i := 64) rfl rfl
set_option maxRecDepth 100000 in
theorem lm_X6_261 : Cond.methodLink RX6 261 yX6_freeBits ∈ TG := in5 (i := 68) rfl rfl
set_option maxRecDepth 100000 in
theorem lm_L_89 : Cond.methodLink "PatchesSameAgeLaw" 89 yX6_keep ∈ TG := in5 (i := 72) rfl rfl
set_option maxRecDepth 100000 in
theorem lm_L_93 : Cond.methodLink "PatchesSameAgeLaw" 93 yX6_placed ∈ TG := in5 (i := 76) rfl rfl
set_option maxRecDepth 100000 in
theorem lm_X6_267 : Cond.methodLink RX6 267 yX6_layFree ∈ TG := in5 (i := 80) rfl rfl
set_option maxRecDepth 100000 in
theorem ll_X6_270 : Cond.constantLong RX6 270 (-1) ∈ TG := in5 (i := 84) rfl rfl
set_option maxRecDepth 100000 in
theorem lm_X6_272 : Cond.methodLink RX6 272 yX6_areApart ∈ TG := in5 (i := 85) rfl rfl
set_option maxRecDepth 100000 in
theorem lm_L_97 : Cond.methodLink "PatchesSameAgeLaw" 97 yX6_when ∈ TG := in5 (i := 89) rfl rfl
set_option maxRecDepth 100000 in
theorem lm_L_101 : Cond.methodLink "PatchesSameAgeLaw" 101 yX6_turns ∈ TG := in5 (i := 93) rfl rfl
set_option maxRecDepth 100000 in
theorem lm_X6_292 : Cond.methodLink RX6 292 yX6_playAll ∈ TG := in5 (i := 97) rfl rfl
set_option maxRecDepth 100000 in
theorem lm_X6_279 : Cond.methodLink RX6 279 yX6_canTry ∈ TG := in5 (i := 101) rfl rfl
set_option maxRecDepth 100000 in
theorem lm_X6_282 : Cond.methodLink RX6 282 yX6_takeWorth ∈ TG := in5 (i := 105) rfl rfl
set_option maxRecDepth 100000 in
theorem lm_X6_288 : Cond.methodLink RX6 288 yX6_isBetter ∈ TG := in5 (i := 109) rfl rfl
set_option maxRecDepth 100000 in
theorem lm_X6_285 : Cond.methodLink RX6 285 yX6_layTried ∈ TG := in5 (i := 112) rfl rfl
set_option maxRecDepth 100000 in
theorem lm_L_105 : Cond.methodLink "PatchesSameAgeLaw" 105 yX6_whose ∈ TG := in5 (i := 116) rfl rfl
set_option maxRecDepth 100000 in
theorem lm_X6_298 : Cond.methodLink RX6 298 yX6_isRow ∈ TG := in5 (i := 120) rfl rfl
set_option maxRecDepth 100000 in
theorem lm_L_109 : Cond.methodLink "PatchesSameAgeLaw" 109 yX6_islands ∈ TG := in5 (i := 124) rfl rfl
set_option maxRecDepth 100000 in
theorem lm_X6_301 : Cond.methodLink RX6 301 yX6_layHeaps ∈ TG := in5 (i := 128) rfl rfl
set_option maxRecDepth 100000 in
theorem lm_L_113 : Cond.methodLink "PatchesSameAgeLaw" 113 yX6_strip ∈ TG := in5 (i := 132) rfl rfl
set_option maxRecDepth 100000 in
theorem lm_L_117 : Cond.methodLink "PatchesSameAgeLaw" 117 yX6_swap ∈ TG := in5 (i := 136) rfl rfl
set_option maxRecDepth 100000 in
theorem lm_X6_308 : Cond.methodLink RX6 308 yX6_swapCells ∈ TG := in5 (i := 140) rfl rfl
set_option maxRecDepth 100000 in
theorem lm_X6_304 : Cond.methodLink RX6 304 yX6_swapIn ∈ TG := in5 (i := 144) rfl rfl
set_option maxRecDepth 100000 in
theorem lm_L_122 : Cond.methodLink "PatchesSameAgeLaw" 122 yX6_chance ∈ TG := in5 (i := 147) rfl rfl
set_option maxRecDepth 100000 in
theorem ll_X6_315 : Cond.constantLong RX6 315 (4000000000000000000) ∈ TG := in5 (i := 151) rfl rfl
set_option maxRecDepth 100000 in
theorem lm_X6_317 : Cond.methodLink RX6 317 yX6_hasBit ∈ TG := in5 (i := 152) rfl rfl
set_option maxRecDepth 100000 in
theorem lm_X6_321 : Cond.methodLink RX6 321 yX6_partOf ∈ TG := in5 (i := 155) rfl rfl
set_option maxRecDepth 100000 in
theorem lm_X6_311 : Cond.methodLink RX6 311 yX6_divisor ∈ TG := in5 (i := 158) rfl rfl
set_option maxRecDepth 100000 in
theorem lm_L_126 : Cond.methodLink "PatchesSameAgeLaw" 126 yX6_oldest ∈ TG := in5 (i := 161) rfl rfl
set_option maxRecDepth 100000 in
theorem lm_X6_325 : Cond.methodLink RX6 325 yX6_ofSize ∈ TG := in5 (i := 165) rfl rfl
set_option maxRecDepth 100000 in
theorem lm_L_130 : Cond.methodLink "PatchesSameAgeLaw" 130 yX6_tightest ∈ TG := in5 (i := 169) rfl rfl
set_option maxRecDepth 100000 in
theorem lm_L_134 : Cond.methodLink "PatchesSameAgeLaw" 134 yX6_ageFor ∈ TG := in5 (i := 173) rfl rfl
set_option maxRecDepth 100000 in
theorem lm_L_138 : Cond.methodLink "PatchesSameAgeLaw" 138 yX6_entire ∈ TG := in5 (i := 177) rfl rfl
set_option maxRecDepth 100000 in
theorem lm_L_142 : Cond.methodLink "PatchesSameAgeLaw" 142 yX6_bestOf ∈ TG := in5 (i := 181) rfl rfl
set_option maxRecDepth 100000 in
theorem lm_L_146 : Cond.methodLink "PatchesSameAgeLaw" 146 yX6_harm ∈ TG := in5 (i := 185) rfl rfl
set_option maxRecDepth 100000 in
theorem lc_X6_328 : Cond.constant RX6 328 (1000000000) ∈ TG := in5 (i := 189) rfl rfl
set_option maxRecDepth 100000 in
theorem lm_L_150 : Cond.methodLink "PatchesSameAgeLaw" 150 yX6_pairs ∈ TG := in5 (i := 190) rfl rfl
set_option maxRecDepth 100000 in
theorem lm_L_154 : Cond.methodLink "PatchesSameAgeLaw" 154 yX6_sumOf ∈ TG := in5 (i := 194) rfl rfl
set_option maxRecDepth 100000 in
theorem lm_L_158 : Cond.methodLink "PatchesSameAgeLaw" 158 yX6_rank ∈ TG := in5 (i := 198) rfl rfl
set_option maxRecDepth 100000 in
theorem lm_L_162 : Cond.methodLink "PatchesSameAgeLaw" 162 yX6_doomed ∈ TG := in5 (i := 202) rfl rfl
set_option maxRecDepth 100000 in
theorem lm_L_167 : Cond.methodLink "PatchesSameAgeLaw" 167 yX6_mean ∈ TG := in5 (i := 206) rfl rfl
set_option maxRecDepth 100000 in
theorem lm_X6_329 : Cond.methodLink RX6 329 yX6_allAges ∈ TG := in5 (i := 210) rfl rfl
set_option maxRecDepth 100000 in
theorem ll_X6_332 : Cond.constantLong RX6 332 (12) ∈ TG := in5 (i := 214) rfl rfl
set_option maxRecDepth 100000 in
theorem lm_L_171 : Cond.methodLink "PatchesSameAgeLaw" 171 yX6_younger ∈ TG := in5 (i := 215) rfl rfl
set_option maxRecDepth 100000 in
theorem lm_L_175 : Cond.methodLink "PatchesSameAgeLaw" 175 yX6_unlike ∈ TG := in5 (i := 219) rfl rfl
set_option maxRecDepth 100000 in
theorem lm_L_179 : Cond.methodLink "PatchesSameAgeLaw" 179 yX6_row ∈ TG := in5 (i := 223) rfl rfl
set_option maxRecDepth 100000 in
theorem lm_L_183 : Cond.methodLink "PatchesSameAgeLaw" 183 yX6_judge ∈ TG := in5 (i := 227) rfl rfl
set_option maxRecDepth 100000 in
theorem lm_L_187 : Cond.methodLink "PatchesSameAgeLaw" 187 yX6_clear ∈ TG := in5 (i := 231) rfl rfl
set_option maxRecDepth 100000 in
theorem lm_L_191 : Cond.methodLink "PatchesSameAgeLaw" 191 yX6_lots ∈ TG := in5 (i := 235) rfl rfl
set_option maxRecDepth 100000 in
theorem lm_X6_340 : Cond.methodLink RX6 340 yX6_drawBelow ∈ TG := in5 (i := 239) rfl rfl
set_option maxRecDepth 100000 in
theorem lc_X6_337 : Cond.constant RX6 337 (1103515245) ∈ TG := in6 (i := 3) rfl rfl
set_option maxRecDepth 100000 in
theorem lc_X6_338 : Cond.constant RX6 338 (2147483647) ∈ TG := in6 (i := 4) rfl rfl
set_option maxRecDepth 100000 in
theorem lc_X6_339 : Cond.constant RX6 339 (65536) ∈ TG := in6 (i := 5) rfl rfl
set_option maxRecDepth 100000 in
theorem lm_L_203 : Cond.methodLink "PatchesSameAgeLaw" 203 yX6_count ∈ TG := in6 (i := 6) rfl rfl
set_option maxRecDepth 100000 in
theorem ll_X6_343 : Cond.constantLong RX6 343 (16) ∈ TG := in6 (i := 10) rfl rfl
set_option maxRecDepth 100000 in
theorem ini_L : Cond.initialized "PatchesSameAgeLaw" ∈ TG := in1 (i := 0) rfl rfl
set_option maxRecDepth 100000 in
theorem ini_X5 : Cond.initialized RX5 ∈ TG := in1 (i := 1) rfl rfl
set_option maxRecDepth 100000 in
theorem ini_X0 : Cond.initialized RX0 ∈ TG := in1 (i := 2) rfl rfl
set_option maxRecDepth 100000 in
theorem ini_X2 : Cond.initialized RX2 ∈ TG := in1 (i := 3) rfl rfl
set_option maxRecDepth 100000 in
theorem ini_X1 : Cond.initialized RX1 ∈ TG := in1 (i := 4) rfl rfl
set_option maxRecDepth 100000 in
theorem ini_X3 : Cond.initialized RX3 ∈ TG := in1 (i := 5) rfl rfl
set_option maxRecDepth 100000 in
theorem ini_X4 : Cond.initialized RX4 ∈ TG := in1 (i := 6) rfl rfl
set_option maxRecDepth 100000 in
theorem ini_X6 : Cond.initialized RX6 ∈ TG := in1 (i := 7) rfl rfl
set_option maxRecDepth 100000 in
theorem ini_J10 : Cond.initialized RJ10 ∈ TG := in1 (i := 8) rfl rfl
set_option maxRecDepth 100000 in
theorem ini_J9 : Cond.initialized RJ9 ∈ TG := in1 (i := 9) rfl rfl
set_option maxRecDepth 100000 in
theorem ini_J6 : Cond.initialized RJ6 ∈ TG := in1 (i := 10) rfl rfl
set_option maxRecDepth 100000 in
theorem ins_X5 : Cond.instantiable RX5 15 ∈ TG := in1 (i := 12) rfl rfl
set_option maxRecDepth 100000 in
theorem ins_X0 : Cond.instantiable RX0 5 ∈ TG := in1 (i := 20) rfl rfl
set_option maxRecDepth 100000 in
theorem arr_int : Cond.arrayClass FieldType.int ∈ TG := in1 (i := 46) rfl rfl
set_option maxRecDepth 100000 in
theorem ins_X2 : Cond.instantiable RX2 5 ∈ TG := in1 (i := 48) rfl rfl
set_option maxRecDepth 100000 in
theorem ins_X1 : Cond.instantiable RX1 4 ∈ TG := in1 (i := 79) rfl rfl
set_option maxRecDepth 100000 in
theorem ins_X3 : Cond.instantiable RX3 2 ∈ TG := in1 (i := 102) rfl rfl
set_option maxRecDepth 100000 in
theorem ins_X4 : Cond.instantiable RX4 4 ∈ TG := in1 (i := 116) rfl rfl
set_option maxRecDepth 100000 in
theorem ins_X6 : Cond.instantiable RX6 43 ∈ TG := in3 (i := 198) rfl rfl
set_option maxRecDepth 100000 in
theorem cod_X5_init : Cond.code yX5_init cX5_init 1 none ∈ TG := in1 (i := 15) rfl rfl
set_option maxRecDepth 100000 in
theorem iin_X5_init : Cond.instanceMethod yX5_init ∈ TG := in1 (i := 14) rfl rfl
set_option maxRecDepth 100000 in
theorem oi_1 : Cond.instanceMethod objectInit ∈ TG := in1 (i := 17) rfl rfl
set_option maxRecDepth 100000 in
theorem oi_2 : Cond.code objectInit ⟨#[0xb1]⟩ 1 none ∈ TG := in1 (i := 18) rfl rfl
set_option maxRecDepth 100000 in
theorem cod_X0_init : Cond.code yX0_init cX0_init 1 none ∈ TG := in1 (i := 23) rfl rfl
set_option maxRecDepth 100000 in
theorem iin_X0_init : Cond.instanceMethod yX0_init ∈ TG := in1 (i := 22) rfl rfl
set_option maxRecDepth 100000 in
theorem cod_X2_init : Cond.code yX2_init cX2_init 1 none ∈ TG := in1 (i := 51) rfl rfl
set_option maxRecDepth 100000 in
theorem iin_X2_init : Cond.instanceMethod yX2_init ∈ TG := in1 (i := 50) rfl rfl
set_option maxRecDepth 100000 in
theorem cod_X1_init : Cond.code yX1_init cX1_init 2 none ∈ TG := in1 (i := 82) rfl rfl
set_option maxRecDepth 100000 in
theorem iin_X1_init : Cond.instanceMethod yX1_init ∈ TG := in1 (i := 81) rfl rfl
set_option maxRecDepth 100000 in
theorem cod_X3_init : Cond.code yX3_init cX3_init 1 none ∈ TG := in1 (i := 105) rfl rfl
set_option maxRecDepth 100000 in
theorem iin_X3_init : Cond.instanceMethod yX3_init ∈ TG := in1 (i := 104) rfl rfl
set_option maxRecDepth 100000 in
theorem cod_X4_init : Cond.code yX4_init cX4_init 1 none ∈ TG := in1 (i := 119) rfl rfl
set_option maxRecDepth 100000 in
theorem iin_X4_init : Cond.instanceMethod yX4_init ∈ TG := in1 (i := 118) rfl rfl
set_option maxRecDepth 100000 in
theorem cod_X5_feed : Cond.code yX5_feed cX5_feed 2 (some .int) ∈ TG := in1 (i := 187) rfl rfl
set_option maxRecDepth 100000 in
theorem cal_X5_feed : CalV yX5_feed cX5_feed 2 (some .int) 1 := ⟨in1 (i := 185) rfl rfl, in1 (i := 186) rfl rfl, ini_X5, cod_X5_feed, by decide +kernel, by decide⟩
set_option maxRecDepth 100000 in
theorem cod_X5_refuse : Cond.code yX5_refuse cX5_refuse 2 (some .int) ∈ TG := in1 (i := 191) rfl rfl
set_option maxRecDepth 100000 in
theorem cal_X5_refuse : CalV yX5_refuse cX5_refuse 2 (some .int) 1 := ⟨in1 (i := 190) rfl rfl, inP (i := 0) rfl rfl, ini_X5, cod_X5_refuse, by decide +kernel, by decide⟩
set_option maxRecDepth 100000 in
theorem cod_X3_add : Cond.code yX3_add cX3_add 2 none ∈ TG := in1 (i := 195) rfl rfl
set_option maxRecDepth 100000 in
theorem cal_X3_add : CalV yX3_add cX3_add 2 none 1 := ⟨in1 (i := 194) rfl rfl, inP (i := 1) rfl rfl, ini_X3, cod_X3_add, by decide +kernel, by decide⟩
set_option maxRecDepth 100000 in
theorem cod_X5_trousers : Cond.code yX5_trousers cX5_trousers 3 (some .int) ∈ TG := in1 (i := 199) rfl rfl
set_option maxRecDepth 100000 in
theorem cal_X5_trousers : CalV yX5_trousers cX5_trousers 3 (some .int) 0 := ⟨in1 (i := 197) rfl rfl, in1 (i := 198) rfl rfl, ini_X5, cod_X5_trousers, by decide +kernel, by decide⟩
set_option maxRecDepth 100000 in
theorem cod_X3_formFault : Cond.code yX3_formFault cX3_formFault 5 (some .int) ∈ TG := in1 (i := 203) rfl rfl
set_option maxRecDepth 100000 in
theorem cal_X3_formFault : CalV yX3_formFault cX3_formFault 5 (some .int) 0 := ⟨in1 (i := 202) rfl rfl, inP (i := 2) rfl rfl, ini_X3, cod_X3_formFault, by decide +kernel, by decide⟩
set_option maxRecDepth 100000 in
theorem cod_X3_sizeAt : Cond.code yX3_sizeAt cX3_sizeAt 2 (some .int) ∈ TG := in1 (i := 207) rfl rfl
set_option maxRecDepth 100000 in
theorem cal_X3_sizeAt : CalV yX3_sizeAt cX3_sizeAt 2 (some .int) 1 := ⟨in1 (i := 206) rfl rfl, inP (i := 3) rfl rfl, ini_X3, cod_X3_sizeAt, by decide +kernel, by decide⟩
set_option maxRecDepth 100000 in
theorem cod_X3_letterAt : Cond.code yX3_letterAt cX3_letterAt 2 (some .int) ∈ TG := in1 (i := 211) rfl rfl
set_option maxRecDepth 100000 in
theorem cal_X3_letterAt : CalV yX3_letterAt cX3_letterAt 2 (some .int) 1 := ⟨in1 (i := 210) rfl rfl, inP (i := 4) rfl rfl, ini_X3, cod_X3_letterAt, by decide +kernel, by decide⟩
set_option maxRecDepth 100000 in
theorem cod_X3_isDigit : Cond.code yX3_isDigit cX3_isDigit 1 (some .boolean) ∈ TG := in1 (i := 214) rfl rfl
set_option maxRecDepth 100000 in
theorem cal_X3_isDigit : CalS yX3_isDigit cX3_isDigit 1 (some .boolean) 1 := ⟨in1 (i := 213) rfl rfl, ini_X3, cod_X3_isDigit, by decide +kernel, by decide⟩
set_option maxRecDepth 100000 in
theorem cod_X5_tellAll : Cond.code yX5_tellAll cX5_tellAll 3 (some .int) ∈ TG := in1 (i := 218) rfl rfl
set_option maxRecDepth 100000 in
theorem cal_X5_tellAll : CalV yX5_tellAll cX5_tellAll 3 (some .int) 0 := ⟨in1 (i := 217) rfl rfl, inP (i := 5) rfl rfl, ini_X5, cod_X5_tellAll, by decide +kernel, by decide⟩
set_option maxRecDepth 100000 in
theorem cod_X0_become : Cond.code yX0_become cX0_become 2 none ∈ TG := in1 (i := 222) rfl rfl
set_option maxRecDepth 100000 in
theorem cal_X0_become : CalV yX0_become cX0_become 2 none 1 := ⟨in1 (i := 221) rfl rfl, inP (i := 6) rfl rfl, ini_X0, cod_X0_become, by decide +kernel, by decide⟩
set_option maxRecDepth 100000 in
theorem cod_X2_become : Cond.code yX2_become cX2_become 2 none ∈ TG := in1 (i := 229) rfl rfl
set_option maxRecDepth 100000 in
theorem cal_X2_become : CalV yX2_become cX2_become 2 none 1 := ⟨in1 (i := 228) rfl rfl, inP (i := 7) rfl rfl, ini_X2, cod_X2_become, by decide +kernel, by decide⟩
set_option maxRecDepth 100000 in
theorem cod_X5_tellOne : Cond.code yX5_tellOne cX5_tellOne 2 (some .boolean) ∈ TG := in1 (i := 234) rfl rfl
set_option maxRecDepth 100000 in
theorem cal_X5_tellOne : CalV yX5_tellOne cX5_tellOne 2 (some .boolean) 1 := ⟨in1 (i := 233) rfl rfl, inP (i := 8) rfl rfl, ini_X5, cod_X5_tellOne, by decide +kernel, by decide⟩
set_option maxRecDepth 100000 in
theorem cod_X3_number : Cond.code yX3_number cX3_number 5 (some .int) ∈ TG := in1 (i := 239) rfl rfl
set_option maxRecDepth 100000 in
theorem cal_X3_number : CalV yX3_number cX3_number 5 (some .int) 2 := ⟨in1 (i := 238) rfl rfl, inP (i := 9) rfl rfl, ini_X3, cod_X3_number, by decide +kernel, by decide⟩
set_option maxRecDepth 100000 in
theorem cod_X5_tellCells : Cond.code yX5_tellCells cX5_tellCells 6 (some .boolean) ∈ TG := in2 (i := 3) rfl rfl
set_option maxRecDepth 100000 in
theorem cal_X5_tellCells : CalV yX5_tellCells cX5_tellCells 6 (some .boolean) 3 := ⟨in2 (i := 2) rfl rfl, inP (i := 10) rfl rfl, ini_X5, cod_X5_tellCells, by decide +kernel, by decide⟩
set_option maxRecDepth 100000 in
theorem cod_X5_isCell : Cond.code yX5_isCell cX5_isCell 1 (some .boolean) ∈ TG := in2 (i := 6) rfl rfl
set_option maxRecDepth 100000 in
theorem cal_X5_isCell : CalS yX5_isCell cX5_isCell 1 (some .boolean) 1 := ⟨in2 (i := 5) rfl rfl, ini_X5, cod_X5_isCell, by decide +kernel, by decide⟩
set_option maxRecDepth 100000 in
theorem cod_X5_isKind : Cond.code yX5_isKind cX5_isKind 1 (some .boolean) ∈ TG := in2 (i := 9) rfl rfl
set_option maxRecDepth 100000 in
theorem cal_X5_isKind : CalS yX5_isKind cX5_isKind 1 (some .boolean) 1 := ⟨in2 (i := 8) rfl rfl, ini_X5, cod_X5_isKind, by decide +kernel, by decide⟩
set_option maxRecDepth 100000 in
theorem cod_X0_make : Cond.code yX0_make cX0_make 5 none ∈ TG := in2 (i := 13) rfl rfl
set_option maxRecDepth 100000 in
theorem cal_X0_make : CalV yX0_make cX0_make 5 none 4 := ⟨in2 (i := 12) rfl rfl, inP (i := 11) rfl rfl, ini_X0, cod_X0_make, by decide +kernel, by decide⟩
set_option maxRecDepth 100000 in
theorem cod_X5_tellPiece : Cond.code yX5_tellPiece cX5_tellPiece 4 (some .boolean) ∈ TG := in2 (i := 17) rfl rfl
set_option maxRecDepth 100000 in
theorem cal_X5_tellPiece : CalV yX5_tellPiece cX5_tellPiece 4 (some .boolean) 3 := ⟨in2 (i := 16) rfl rfl, inP (i := 12) rfl rfl, ini_X5, cod_X5_tellPiece, by decide +kernel, by decide⟩
set_option maxRecDepth 100000 in
theorem cod_X2_add : Cond.code yX2_add cX2_add 4 none ∈ TG := in2 (i := 21) rfl rfl
set_option maxRecDepth 100000 in
theorem cal_X2_add : CalV yX2_add cX2_add 4 none 3 := ⟨in2 (i := 20) rfl rfl, inP (i := 13) rfl rfl, ini_X2, cod_X2_add, by decide +kernel, by decide⟩
set_option maxRecDepth 100000 in
theorem cod_X5_tellPut : Cond.code yX5_tellPut cX5_tellPut 3 (some .boolean) ∈ TG := in2 (i := 25) rfl rfl
set_option maxRecDepth 100000 in
theorem cal_X5_tellPut : CalV yX5_tellPut cX5_tellPut 3 (some .boolean) 2 := ⟨in2 (i := 24) rfl rfl, inP (i := 14) rfl rfl, ini_X5, cod_X5_tellPut, by decide +kernel, by decide⟩
set_option maxRecDepth 100000 in
theorem cod_X2_isFree : Cond.code yX2_isFree cX2_isFree 2 (some .boolean) ∈ TG := in2 (i := 29) rfl rfl
set_option maxRecDepth 100000 in
theorem cal_X2_isFree : CalV yX2_isFree cX2_isFree 2 (some .boolean) 1 := ⟨in2 (i := 28) rfl rfl, inP (i := 15) rfl rfl, ini_X2, cod_X2_isFree, by decide +kernel, by decide⟩
set_option maxRecDepth 100000 in
theorem cod_X2_has : Cond.code yX2_has cX2_has 2 (some .boolean) ∈ TG := in2 (i := 33) rfl rfl
set_option maxRecDepth 100000 in
theorem cal_X2_has : CalV yX2_has cX2_has 2 (some .boolean) 1 := ⟨in2 (i := 32) rfl rfl, inP (i := 16) rfl rfl, ini_X2, cod_X2_has, by decide +kernel, by decide⟩
set_option maxRecDepth 100000 in
theorem cod_X0_put : Cond.code yX0_put cX0_put 4 none ∈ TG := in2 (i := 37) rfl rfl
set_option maxRecDepth 100000 in
theorem cal_X0_put : CalV yX0_put cX0_put 4 none 3 := ⟨in2 (i := 36) rfl rfl, inP (i := 17) rfl rfl, ini_X0, cod_X0_put, by decide +kernel, by decide⟩
set_option maxRecDepth 100000 in
theorem cod_X2_use : Cond.code yX2_use cX2_use 2 none ∈ TG := in2 (i := 42) rfl rfl
set_option maxRecDepth 100000 in
theorem cal_X2_use : CalV yX2_use cX2_use 2 none 1 := ⟨in2 (i := 41) rfl rfl, inP (i := 18) rfl rfl, ini_X2, cod_X2_use, by decide +kernel, by decide⟩
set_option maxRecDepth 100000 in
theorem cod_X5_tellWear : Cond.code yX5_tellWear cX5_tellWear 3 (some .boolean) ∈ TG := in2 (i := 46) rfl rfl
set_option maxRecDepth 100000 in
theorem cal_X5_tellWear : CalV yX5_tellWear cX5_tellWear 3 (some .boolean) 2 := ⟨in2 (i := 45) rfl rfl, inP (i := 19) rfl rfl, ini_X5, cod_X5_tellWear, by decide +kernel, by decide⟩
set_option maxRecDepth 100000 in
theorem cod_X5_tellYears : Cond.code yX5_tellYears cX5_tellYears 2 (some .boolean) ∈ TG := in2 (i := 50) rfl rfl
set_option maxRecDepth 100000 in
theorem cal_X5_tellYears : CalV yX5_tellYears cX5_tellYears 2 (some .boolean) 1 := ⟨in2 (i := 49) rfl rfl, inP (i := 20) rfl rfl, ini_X5, cod_X5_tellYears, by decide +kernel, by decide⟩
set_option maxRecDepth 100000 in
theorem cod_X0_goOn : Cond.code yX0_goOn cX0_goOn 4 none ∈ TG := in2 (i := 54) rfl rfl
set_option maxRecDepth 100000 in
theorem cal_X0_goOn : CalV yX0_goOn cX0_goOn 4 none 1 := ⟨in2 (i := 53) rfl rfl, inP (i := 21) rfl rfl, ini_X0, cod_X0_goOn, by decide +kernel, by decide⟩
set_option maxRecDepth 100000 in
theorem cod_X0_wearing : Cond.code yX0_wearing cX0_wearing 3 (some .int) ∈ TG := in2 (i := 58) rfl rfl
set_option maxRecDepth 100000 in
theorem cal_X0_wearing : CalV yX0_wearing cX0_wearing 3 (some .int) 1 := ⟨in2 (i := 57) rfl rfl, inP (i := 22) rfl rfl, ini_X0, cod_X0_wearing, by decide +kernel, by decide⟩
set_option maxRecDepth 100000 in
theorem cod_X0_pull : Cond.code yX0_pull cX0_pull 6 (some .int) ∈ TG := in2 (i := 62) rfl rfl
set_option maxRecDepth 100000 in
theorem cal_X0_pull : CalV yX0_pull cX0_pull 6 (some .int) 1 := ⟨in2 (i := 61) rfl rfl, inP (i := 23) rfl rfl, ini_X0, cod_X0_pull, by decide +kernel, by decide⟩
set_option maxRecDepth 100000 in
theorem mc_abs : Cond.code Lib.Math.abs.name Lib.Math.abs.code 1 (some .int) ∈ TG := in2 (i := 67) rfl rfl
set_option maxRecDepth 100000 in
theorem ms_abs : Cond.static Lib.Math.abs.name ∈ TG := in2 (i := 66) rfl rfl
set_option maxRecDepth 100000 in
theorem mc_max : Cond.code Lib.Math.max.name Lib.Math.max.code 2 (some .int) ∈ TG := in2 (i := 70) rfl rfl
set_option maxRecDepth 100000 in
theorem ms_max : Cond.static Lib.Math.max.name ∈ TG := in2 (i := 69) rfl rfl
set_option maxRecDepth 100000 in
theorem mc_min : Cond.code Lib.Math.min.name Lib.Math.min.code 2 (some .int) ∈ TG := in2 (i := 73) rfl rfl
set_option maxRecDepth 100000 in
theorem ms_min : Cond.static Lib.Math.min.name ∈ TG := in2 (i := 72) rfl rfl
set_option maxRecDepth 100000 in
theorem cod_X0_growOlder : Cond.code yX0_growOlder cX0_growOlder 3 none ∈ TG := in2 (i := 77) rfl rfl
set_option maxRecDepth 100000 in
theorem cal_X0_growOlder : CalV yX0_growOlder cX0_growOlder 3 none 1 := ⟨in2 (i := 76) rfl rfl, inP (i := 24) rfl rfl, ini_X0, cod_X0_growOlder, by decide +kernel, by decide⟩
set_option maxRecDepth 100000 in
theorem cod_X1_forget : Cond.code yX1_forget cX1_forget 1 none ∈ TG := in2 (i := 83) rfl rfl
set_option maxRecDepth 100000 in
theorem cal_X1_forget : CalV yX1_forget cX1_forget 1 none 0 := ⟨in2 (i := 82) rfl rfl, inP (i := 25) rfl rfl, ini_X1, cod_X1_forget, by decide +kernel, by decide⟩
set_option maxRecDepth 100000 in
theorem cod_X5_cellOf : Cond.code yX5_cellOf cX5_cellOf 3 (some .int) ∈ TG := in2 (i := 87) rfl rfl
set_option maxRecDepth 100000 in
theorem cal_X5_cellOf : CalV yX5_cellOf cX5_cellOf 3 (some .int) 2 := ⟨in2 (i := 85) rfl rfl, in2 (i := 86) rfl rfl, ini_X5, cod_X5_cellOf, by decide +kernel, by decide⟩
set_option maxRecDepth 100000 in
theorem cod_X0_hold : Cond.code yX0_hold cX0_hold 3 (some .int) ∈ TG := in2 (i := 93) rfl rfl
set_option maxRecDepth 100000 in
theorem cal_X0_hold : CalV yX0_hold cX0_hold 3 (some .int) 1 := ⟨in2 (i := 92) rfl rfl, inP (i := 26) rfl rfl, ini_X0, cod_X0_hold, by decide +kernel, by decide⟩
set_option maxRecDepth 100000 in
theorem cod_X0_isHole : Cond.code yX0_isHole cX0_isHole 2 (some .boolean) ∈ TG := in2 (i := 97) rfl rfl
set_option maxRecDepth 100000 in
theorem cal_X0_isHole : CalV yX0_isHole cX0_isHole 2 (some .boolean) 1 := ⟨in2 (i := 96) rfl rfl, inP (i := 27) rfl rfl, ini_X0, cod_X0_isHole, by decide +kernel, by decide⟩
set_option maxRecDepth 100000 in
theorem cod_X5_pieceOf : Cond.code yX5_pieceOf cX5_pieceOf 3 (some .int) ∈ TG := in2 (i := 102) rfl rfl
set_option maxRecDepth 100000 in
theorem cal_X5_pieceOf : CalV yX5_pieceOf cX5_pieceOf 3 (some .int) 2 := ⟨in2 (i := 100) rfl rfl, in2 (i := 101) rfl rfl, ini_X5, cod_X5_pieceOf, by decide +kernel, by decide⟩
set_option maxRecDepth 100000 in
theorem cod_X5_piece : Cond.code yX5_piece cX5_piece 4 (some .int) ∈ TG := in2 (i := 107) rfl rfl
set_option maxRecDepth 100000 in
theorem cal_X5_piece : CalV yX5_piece cX5_piece 4 (some .int) 3 := ⟨in2 (i := 105) rfl rfl, in2 (i := 106) rfl rfl, ini_X5, cod_X5_piece, by decide +kernel, by decide⟩
set_option maxRecDepth 100000 in
theorem cod_X5_cell : Cond.code yX5_cell cX5_cell 6 (some .int) ∈ TG := in2 (i := 111) rfl rfl
set_option maxRecDepth 100000 in
theorem cal_X5_cell : CalV yX5_cell cX5_cell 6 (some .int) 4 := ⟨in2 (i := 109) rfl rfl, in2 (i := 110) rfl rfl, ini_X5, cod_X5_cell, by decide +kernel, by decide⟩
set_option maxRecDepth 100000 in
theorem cod_X1_note : Cond.code yX1_note cX1_note 3 none ∈ TG := in2 (i := 115) rfl rfl
set_option maxRecDepth 100000 in
theorem cal_X1_note : CalV yX1_note cX1_note 3 none 2 := ⟨in2 (i := 114) rfl rfl, inP (i := 28) rfl rfl, ini_X1, cod_X1_note, by decide +kernel, by decide⟩
set_option maxRecDepth 100000 in
theorem cod_X5_puts : Cond.code yX5_puts cX5_puts 3 (some .int) ∈ TG := in2 (i := 121) rfl rfl
set_option maxRecDepth 100000 in
theorem cal_X5_puts : CalV yX5_puts cX5_puts 3 (some .int) 2 := ⟨in2 (i := 119) rfl rfl, in2 (i := 120) rfl rfl, ini_X5, cod_X5_puts, by decide +kernel, by decide⟩
set_option maxRecDepth 100000 in
theorem cod_X0_pullTogether : Cond.code yX0_pullTogether cX0_pullTogether 3 (some .int) ∈ TG := in2 (i := 125) rfl rfl
set_option maxRecDepth 100000 in
theorem cal_X0_pullTogether : CalV yX0_pullTogether cX0_pullTogether 3 (some .int) 0 := ⟨in2 (i := 124) rfl rfl, inP (i := 29) rfl rfl, ini_X0, cod_X0_pullTogether, by decide +kernel, by decide⟩
set_option maxRecDepth 100000 in
theorem cod_X5_wears : Cond.code yX5_wears cX5_wears 4 (some .int) ∈ TG := in2 (i := 129) rfl rfl
set_option maxRecDepth 100000 in
theorem cal_X5_wears : CalV yX5_wears cX5_wears 4 (some .int) 2 := ⟨in2 (i := 127) rfl rfl, in2 (i := 128) rfl rfl, ini_X5, cod_X5_wears, by decide +kernel, by decide⟩
set_option maxRecDepth 100000 in
theorem cod_X5_years : Cond.code yX5_years cX5_years 2 (some .int) ∈ TG := in2 (i := 133) rfl rfl
set_option maxRecDepth 100000 in
theorem cal_X5_years : CalV yX5_years cX5_years 2 (some .int) 1 := ⟨in2 (i := 131) rfl rfl, in2 (i := 132) rfl rfl, ini_X5, cod_X5_years, by decide +kernel, by decide⟩
set_option maxRecDepth 100000 in
theorem cod_X0_holeBits : Cond.code yX0_holeBits cX0_holeBits 3 (some .int) ∈ TG := in2 (i := 137) rfl rfl
set_option maxRecDepth 100000 in
theorem cal_X0_holeBits : CalV yX0_holeBits cX0_holeBits 3 (some .int) 0 := ⟨in2 (i := 136) rfl rfl, inP (i := 30) rfl rfl, ini_X0, cod_X0_holeBits, by decide +kernel, by decide⟩
set_option maxRecDepth 100000 in
theorem cod_J6_bitCount_0f7a4 : Cond.code yJ6_bitCount_0f7a4 cJ6_bitCount_0f7a4 1 (some .int) ∈ TG := in2 (i := 141) rfl rfl
set_option maxRecDepth 100000 in
theorem cal_J6_bitCount_0f7a4 : CalS yJ6_bitCount_0f7a4 cJ6_bitCount_0f7a4 1 (some .int) 1 := ⟨in2 (i := 140) rfl rfl, ini_J6, cod_J6_bitCount_0f7a4, by decide +kernel, by decide⟩
set_option maxRecDepth 100000 in
theorem cod_X5_back : Cond.code yX5_back cX5_back 1 (some .int) ∈ TG := in2 (i := 148) rfl rfl
set_option maxRecDepth 100000 in
theorem cal_X5_back : CalV yX5_back cX5_back 1 (some .int) 0 := ⟨in2 (i := 146) rfl rfl, in2 (i := 147) rfl rfl, ini_X5, cod_X5_back, by decide +kernel, by decide⟩
set_option maxRecDepth 100000 in
theorem cod_X1_takeBack : Cond.code yX1_takeBack cX1_takeBack 3 none ∈ TG := in2 (i := 152) rfl rfl
set_option maxRecDepth 100000 in
theorem cal_X1_takeBack : CalV yX1_takeBack cX1_takeBack 3 none 2 := ⟨in2 (i := 151) rfl rfl, inP (i := 31) rfl rfl, ini_X1, cod_X1_takeBack, by decide +kernel, by decide⟩
set_option maxRecDepth 100000 in
theorem cod_X5_behind : Cond.code yX5_behind cX5_behind 4 (some .int) ∈ TG := in2 (i := 156) rfl rfl
set_option maxRecDepth 100000 in
theorem cal_X5_behind : CalV yX5_behind cX5_behind 4 (some .int) 3 := ⟨in2 (i := 154) rfl rfl, in2 (i := 155) rfl rfl, ini_X5, cod_X5_behind, by decide +kernel, by decide⟩
set_option maxRecDepth 100000 in
theorem cod_X5_thinkYears : Cond.code yX5_thinkYears cX5_thinkYears 2 none ∈ TG := in2 (i := 160) rfl rfl
set_option maxRecDepth 100000 in
theorem cal_X5_thinkYears : CalV yX5_thinkYears cX5_thinkYears 2 none 1 := ⟨in2 (i := 159) rfl rfl, inP (i := 32) rfl rfl, ini_X5, cod_X5_thinkYears, by decide +kernel, by decide⟩
set_option maxRecDepth 100000 in
theorem cod_X5_all : Cond.code yX5_all cX5_all 3 (some .int) ∈ TG := in2 (i := 164) rfl rfl
set_option maxRecDepth 100000 in
theorem cal_X5_all : CalV yX5_all cX5_all 3 (some .int) 2 := ⟨in2 (i := 162) rfl rfl, in2 (i := 163) rfl rfl, ini_X5, cod_X5_all, by decide +kernel, by decide⟩
set_option maxRecDepth 100000 in
theorem cod_X0_wearTogether : Cond.code yX0_wearTogether cX0_wearTogether 3 (some .int) ∈ TG := in2 (i := 168) rfl rfl
set_option maxRecDepth 100000 in
theorem cal_X0_wearTogether : CalV yX0_wearTogether cX0_wearTogether 3 (some .int) 0 := ⟨in2 (i := 167) rfl rfl, inP (i := 33) rfl rfl, ini_X0, cod_X0_wearTogether, by decide +kernel, by decide⟩
set_option maxRecDepth 100000 in
theorem cod_X5_holes : Cond.code yX5_holes cX5_holes 3 (some .int) ∈ TG := in2 (i := 172) rfl rfl
set_option maxRecDepth 100000 in
theorem cal_X5_holes : CalV yX5_holes cX5_holes 3 (some .int) 1 := ⟨in2 (i := 170) rfl rfl, in2 (i := 171) rfl rfl, ini_X5, cod_X5_holes, by decide +kernel, by decide⟩
set_option maxRecDepth 100000 in
theorem cod_X5_lastWhole : Cond.code yX5_lastWhole cX5_lastWhole 5 (some .int) ∈ TG := in2 (i := 176) rfl rfl
set_option maxRecDepth 100000 in
theorem cal_X5_lastWhole : CalV yX5_lastWhole cX5_lastWhole 5 (some .int) 0 := ⟨in2 (i := 175) rfl rfl, inP (i := 34) rfl rfl, ini_X5, cod_X5_lastWhole, by decide +kernel, by decide⟩
set_option maxRecDepth 100000 in
theorem cod_X0_yearsToHole : Cond.code yX0_yearsToHole cX0_yearsToHole 4 (some .int) ∈ TG := in2 (i := 180) rfl rfl
set_option maxRecDepth 100000 in
theorem cal_X0_yearsToHole : CalV yX0_yearsToHole cX0_yearsToHole 4 (some .int) 2 := ⟨in2 (i := 179) rfl rfl, inP (i := 35) rfl rfl, ini_X0, cod_X0_yearsToHole, by decide +kernel, by decide⟩
set_option maxRecDepth 100000 in
theorem cod_X5_least : Cond.code yX5_least cX5_least 2 (some .int) ∈ TG := in2 (i := 185) rfl rfl
set_option maxRecDepth 100000 in
theorem cal_X5_least : CalS yX5_least cX5_least 2 (some .int) 1 := ⟨in2 (i := 184) rfl rfl, ini_X5, cod_X5_least, by decide +kernel, by decide⟩
set_option maxRecDepth 100000 in
theorem cod_X5_lasts : Cond.code yX5_lasts cX5_lasts 3 (some .int) ∈ TG := in2 (i := 189) rfl rfl
set_option maxRecDepth 100000 in
theorem cal_X5_lasts : CalV yX5_lasts cX5_lasts 3 (some .int) 1 := ⟨in2 (i := 187) rfl rfl, in2 (i := 188) rfl rfl, ini_X5, cod_X5_lasts, by decide +kernel, by decide⟩
set_option maxRecDepth 100000 in
theorem cod_X5_doomed : Cond.code yX5_doomed cX5_doomed 2 (some .int) ∈ TG := in2 (i := 193) rfl rfl
set_option maxRecDepth 100000 in
theorem cal_X5_doomed : CalV yX5_doomed cX5_doomed 2 (some .int) 1 := ⟨in2 (i := 191) rfl rfl, in2 (i := 192) rfl rfl, ini_X5, cod_X5_doomed, by decide +kernel, by decide⟩
set_option maxRecDepth 100000 in
theorem cod_X5_younger : Cond.code yX5_younger cX5_younger 3 (some .int) ∈ TG := in2 (i := 197) rfl rfl
set_option maxRecDepth 100000 in
theorem cal_X5_younger : CalV yX5_younger cX5_younger 3 (some .int) 1 := ⟨in2 (i := 195) rfl rfl, in2 (i := 196) rfl rfl, ini_X5, cod_X5_younger, by decide +kernel, by decide⟩
set_option maxRecDepth 100000 in
theorem cod_X5_fits : Cond.code yX5_fits cX5_fits 7 (some .int) ∈ TG := in2 (i := 203) rfl rfl
set_option maxRecDepth 100000 in
theorem cal_X5_fits : CalV yX5_fits cX5_fits 7 (some .int) 2 := ⟨in2 (i := 201) rfl rfl, in2 (i := 202) rfl rfl, ini_X5, cod_X5_fits, by decide +kernel, by decide⟩
set_option maxRecDepth 100000 in
theorem cod_X5_bestPiece : Cond.code yX5_bestPiece cX5_bestPiece 6 (some .int) ∈ TG := in2 (i := 208) rfl rfl
set_option maxRecDepth 100000 in
theorem cal_X5_bestPiece : CalV yX5_bestPiece cX5_bestPiece 6 (some .int) 1 := ⟨in2 (i := 206) rfl rfl, in2 (i := 207) rfl rfl, ini_X5, cod_X5_bestPiece, by decide +kernel, by decide⟩
set_option maxRecDepth 100000 in
theorem cod_X5_mend : Cond.code yX5_mend cX5_mend 4 (some .int) ∈ TG := in2 (i := 212) rfl rfl
set_option maxRecDepth 100000 in
theorem cal_X5_mend : CalV yX5_mend cX5_mend 4 (some .int) 0 := ⟨in2 (i := 210) rfl rfl, in2 (i := 211) rfl rfl, ini_X5, cod_X5_mend, by decide +kernel, by decide⟩
set_option maxRecDepth 100000 in
theorem cod_X5_keep : Cond.code yX5_keep cX5_keep 6 (some .int) ∈ TG := in2 (i := 216) rfl rfl
set_option maxRecDepth 100000 in
theorem cal_X5_keep : CalV yX5_keep cX5_keep 6 (some .int) 0 := ⟨in2 (i := 214) rfl rfl, in2 (i := 215) rfl rfl, ini_X5, cod_X5_keep, by decide +kernel, by decide⟩
set_option maxRecDepth 100000 in
theorem cod_X5_placed : Cond.code yX5_placed cX5_placed 3 (some .int) ∈ TG := in2 (i := 220) rfl rfl
set_option maxRecDepth 100000 in
theorem cal_X5_placed : CalV yX5_placed cX5_placed 3 (some .int) 1 := ⟨in2 (i := 218) rfl rfl, in2 (i := 219) rfl rfl, ini_X5, cod_X5_placed, by decide +kernel, by decide⟩
set_option maxRecDepth 100000 in
theorem cod_X2_free : Cond.code yX2_free cX2_free 1 (some .int) ∈ TG := in2 (i := 224) rfl rfl
set_option maxRecDepth 100000 in
theorem cal_X2_free : CalV yX2_free cX2_free 1 (some .int) 0 := ⟨in2 (i := 223) rfl rfl, inP (i := 36) rfl rfl, ini_X2, cod_X2_free, by decide +kernel, by decide⟩
set_option maxRecDepth 100000 in
theorem cod_X4_gather : Cond.code yX4_gather cX4_gather 3 none ∈ TG := in2 (i := 229) rfl rfl
set_option maxRecDepth 100000 in
theorem cal_X4_gather : CalV yX4_gather cX4_gather 3 none 1 := ⟨in2 (i := 228) rfl rfl, inP (i := 37) rfl rfl, ini_X4, cod_X4_gather, by decide +kernel, by decide⟩
set_option maxRecDepth 100000 in
theorem cod_X4_reckon : Cond.code yX4_reckon cX4_reckon 8 none ∈ TG := in2 (i := 234) rfl rfl
set_option maxRecDepth 100000 in
theorem cal_X4_reckon : CalV yX4_reckon cX4_reckon 8 none 3 := ⟨in2 (i := 233) rfl rfl, inP (i := 38) rfl rfl, ini_X4, cod_X4_reckon, by decide +kernel, by decide⟩
set_option maxRecDepth 100000 in
theorem cod_X4_many : Cond.code yX4_many cX4_many 3 (some .int) ∈ TG := in2 (i := 238) rfl rfl
set_option maxRecDepth 100000 in
theorem cal_X4_many : CalV yX4_many cX4_many 3 (some .int) 0 := ⟨in2 (i := 237) rfl rfl, inP (i := 39) rfl rfl, ini_X4, cod_X4_many, by decide +kernel, by decide⟩
set_option maxRecDepth 100000 in
theorem cod_X4_takeOff : Cond.code yX4_takeOff cX4_takeOff 2 none ∈ TG := in3 (i := 2) rfl rfl
set_option maxRecDepth 100000 in
theorem cal_X4_takeOff : CalV yX4_takeOff cX4_takeOff 2 none 0 := ⟨in3 (i := 1) rfl rfl, inP (i := 40) rfl rfl, ini_X4, cod_X4_takeOff, by decide +kernel, by decide⟩
set_option maxRecDepth 100000 in
theorem cod_X4_cellIn : Cond.code yX4_cellIn cX4_cellIn 5 (some .int) ∈ TG := in3 (i := 7) rfl rfl
set_option maxRecDepth 100000 in
theorem cal_X4_cellIn : CalV yX4_cellIn cX4_cellIn 5 (some .int) 2 := ⟨in3 (i := 6) rfl rfl, inP (i := 41) rfl rfl, ini_X4, cod_X4_cellIn, by decide +kernel, by decide⟩
set_option maxRecDepth 100000 in
theorem cod_X4_isTaken : Cond.code yX4_isTaken cX4_isTaken 3 (some .boolean) ∈ TG := in3 (i := 11) rfl rfl
set_option maxRecDepth 100000 in
theorem cal_X4_isTaken : CalV yX4_isTaken cX4_isTaken 3 (some .boolean) 1 := ⟨in3 (i := 10) rfl rfl, inP (i := 42) rfl rfl, ini_X4, cod_X4_isTaken, by decide +kernel, by decide⟩
set_option maxRecDepth 100000 in
theorem cod_X4_leastWay : Cond.code yX4_leastWay cX4_leastWay 3 (some .int) ∈ TG := in3 (i := 17) rfl rfl
set_option maxRecDepth 100000 in
theorem cal_X4_leastWay : CalV yX4_leastWay cX4_leastWay 3 (some .int) 0 := ⟨in3 (i := 16) rfl rfl, inP (i := 43) rfl rfl, ini_X4, cod_X4_leastWay, by decide +kernel, by decide⟩
set_option maxRecDepth 100000 in
theorem cod_X4_placeOf : Cond.code yX4_placeOf cX4_placeOf 3 (some .int) ∈ TG := in3 (i := 22) rfl rfl
set_option maxRecDepth 100000 in
theorem cal_X4_placeOf : CalV yX4_placeOf cX4_placeOf 3 (some .int) 1 := ⟨in3 (i := 21) rfl rfl, inP (i := 44) rfl rfl, ini_X4, cod_X4_placeOf, by decide +kernel, by decide⟩
set_option maxRecDepth 100000 in
theorem cod_X5_when : Cond.code yX5_when cX5_when 7 (some .int) ∈ TG := in3 (i := 27) rfl rfl
set_option maxRecDepth 100000 in
theorem cal_X5_when : CalV yX5_when cX5_when 7 (some .int) 2 := ⟨in3 (i := 25) rfl rfl, in3 (i := 26) rfl rfl, ini_X5, cod_X5_when, by decide +kernel, by decide⟩
set_option maxRecDepth 100000 in
theorem cod_X5_turns : Cond.code yX5_turns cX5_turns 7 (some .int) ∈ TG := in3 (i := 31) rfl rfl
set_option maxRecDepth 100000 in
theorem cal_X5_turns : CalV yX5_turns cX5_turns 7 (some .int) 1 := ⟨in3 (i := 29) rfl rfl, in3 (i := 30) rfl rfl, ini_X5, cod_X5_turns, by decide +kernel, by decide⟩
set_option maxRecDepth 100000 in
theorem cod_X5_endOf : Cond.code yX5_endOf cX5_endOf 7 (some .int) ∈ TG := in3 (i := 35) rfl rfl
set_option maxRecDepth 100000 in
theorem cal_X5_endOf : CalS yX5_endOf cX5_endOf 7 (some .int) 2 := ⟨in3 (i := 34) rfl rfl, ini_X5, cod_X5_endOf, by decide +kernel, by decide⟩
set_option maxRecDepth 100000 in
theorem cod_X4_number : Cond.code yX4_number cX4_number 3 (some .int) ∈ TG := in3 (i := 39) rfl rfl
set_option maxRecDepth 100000 in
theorem cal_X4_number : CalV yX4_number cX4_number 3 (some .int) 0 := ⟨in3 (i := 38) rfl rfl, inP (i := 45) rfl rfl, ini_X4, cod_X4_number, by decide +kernel, by decide⟩
set_option maxRecDepth 100000 in
theorem cod_X5_bestOf : Cond.code yX5_bestOf cX5_bestOf 7 (some .int) ∈ TG := in3 (i := 45) rfl rfl
set_option maxRecDepth 100000 in
theorem cal_X5_bestOf : CalV yX5_bestOf cX5_bestOf 7 (some .int) 2 := ⟨in3 (i := 43) rfl rfl, in3 (i := 44) rfl rfl, ini_X5, cod_X5_bestOf, by decide +kernel, by decide⟩
set_option maxRecDepth 100000 in
theorem cod_X5_thinkOther : Cond.code yX5_thinkOther cX5_thinkOther 4 none ∈ TG := in3 (i := 49) rfl rfl
set_option maxRecDepth 100000 in
theorem cal_X5_thinkOther : CalV yX5_thinkOther cX5_thinkOther 4 none 3 := ⟨in3 (i := 48) rfl rfl, inP (i := 46) rfl rfl, ini_X5, cod_X5_thinkOther, by decide +kernel, by decide⟩
set_option maxRecDepth 100000 in
theorem cod_X5_row : Cond.code yX5_row cX5_row 2 (some .int) ∈ TG := in3 (i := 53) rfl rfl
set_option maxRecDepth 100000 in
theorem cal_X5_row : CalV yX5_row cX5_row 2 (some .int) 1 := ⟨in3 (i := 51) rfl rfl, in3 (i := 52) rfl rfl, ini_X5, cod_X5_row, by decide +kernel, by decide⟩
set_option maxRecDepth 100000 in
theorem cod_X5_clear : Cond.code yX5_clear cX5_clear 2 (some .int) ∈ TG := in3 (i := 57) rfl rfl
set_option maxRecDepth 100000 in
theorem cal_X5_clear : CalV yX5_clear cX5_clear 2 (some .int) 0 := ⟨in3 (i := 55) rfl rfl, in3 (i := 56) rfl rfl, ini_X5, cod_X5_clear, by decide +kernel, by decide⟩
set_option maxRecDepth 100000 in
theorem cod_X5_judge : Cond.code yX5_judge cX5_judge 3 (some .int) ∈ TG := in3 (i := 61) rfl rfl
set_option maxRecDepth 100000 in
theorem cal_X5_judge : CalV yX5_judge cX5_judge 3 (some .int) 0 := ⟨in3 (i := 59) rfl rfl, in3 (i := 60) rfl rfl, ini_X5, cod_X5_judge, by decide +kernel, by decide⟩
set_option maxRecDepth 100000 in
theorem cod_X5_whose : Cond.code yX5_whose cX5_whose 3 (some .int) ∈ TG := in3 (i := 65) rfl rfl
set_option maxRecDepth 100000 in
theorem cal_X5_whose : CalV yX5_whose cX5_whose 3 (some .int) 2 := ⟨in3 (i := 63) rfl rfl, in3 (i := 64) rfl rfl, ini_X5, cod_X5_whose, by decide +kernel, by decide⟩
set_option maxRecDepth 100000 in
theorem cod_X5_bitsThatWoreSo : Cond.code yX5_bitsThatWoreSo cX5_bitsThatWoreSo 6 (some .int) ∈ TG := in3 (i := 69) rfl rfl
set_option maxRecDepth 100000 in
theorem cal_X5_bitsThatWoreSo : CalV yX5_bitsThatWoreSo cX5_bitsThatWoreSo 6 (some .int) 3 := ⟨in3 (i := 68) rfl rfl, inP (i := 47) rfl rfl, ini_X5, cod_X5_bitsThatWoreSo, by decide +kernel, by decide⟩
set_option maxRecDepth 100000 in
theorem cod_X5_mindWoreSo : Cond.code yX5_mindWoreSo cX5_mindWoreSo 3 (some .boolean) ∈ TG := in3 (i := 73) rfl rfl
set_option maxRecDepth 100000 in
theorem cal_X5_mindWoreSo : CalV yX5_mindWoreSo cX5_mindWoreSo 3 (some .boolean) 1 := ⟨in3 (i := 72) rfl rfl, inP (i := 48) rfl rfl, ini_X5, cod_X5_mindWoreSo, by decide +kernel, by decide⟩
set_option maxRecDepth 100000 in
theorem cod_X5_agesThatWoreSo : Cond.code yX5_agesThatWoreSo cX5_agesThatWoreSo 4 (some .int) ∈ TG := in3 (i := 77) rfl rfl
set_option maxRecDepth 100000 in
theorem cal_X5_agesThatWoreSo : CalV yX5_agesThatWoreSo cX5_agesThatWoreSo 4 (some .int) 1 := ⟨in3 (i := 76) rfl rfl, inP (i := 49) rfl rfl, ini_X5, cod_X5_agesThatWoreSo, by decide +kernel, by decide⟩
set_option maxRecDepth 100000 in
theorem cod_X5_islands : Cond.code yX5_islands cX5_islands 8 (some .int) ∈ TG := in3 (i := 81) rfl rfl
set_option maxRecDepth 100000 in
theorem cal_X5_islands : CalV yX5_islands cX5_islands 8 (some .int) 2 := ⟨in3 (i := 79) rfl rfl, in3 (i := 80) rfl rfl, ini_X5, cod_X5_islands, by decide +kernel, by decide⟩
set_option maxRecDepth 100000 in
theorem cod_X0_heapOf : Cond.code yX0_heapOf cX0_heapOf 6 (some .int) ∈ TG := in3 (i := 85) rfl rfl
set_option maxRecDepth 100000 in
theorem cal_X0_heapOf : CalV yX0_heapOf cX0_heapOf 6 (some .int) 2 := ⟨in3 (i := 84) rfl rfl, inP (i := 50) rfl rfl, ini_X0, cod_X0_heapOf, by decide +kernel, by decide⟩
set_option maxRecDepth 100000 in
theorem cod_X0_hangingOn : Cond.code yX0_hangingOn cX0_hangingOn 6 (some .int) ∈ TG := in3 (i := 89) rfl rfl
set_option maxRecDepth 100000 in
theorem cal_X0_hangingOn : CalV yX0_hangingOn cX0_hangingOn 6 (some .int) 2 := ⟨in3 (i := 88) rfl rfl, inP (i := 51) rfl rfl, ini_X0, cod_X0_hangingOn, by decide +kernel, by decide⟩
set_option maxRecDepth 100000 in
theorem cod_X5_strip : Cond.code yX5_strip cX5_strip 6 (some .int) ∈ TG := in3 (i := 93) rfl rfl
set_option maxRecDepth 100000 in
theorem cal_X5_strip : CalV yX5_strip cX5_strip 6 (some .int) 1 := ⟨in3 (i := 91) rfl rfl, in3 (i := 92) rfl rfl, ini_X5, cod_X5_strip, by decide +kernel, by decide⟩
set_option maxRecDepth 100000 in
theorem cod_X0_risingFrom : Cond.code yX0_risingFrom cX0_risingFrom 4 (some .int) ∈ TG := in3 (i := 97) rfl rfl
set_option maxRecDepth 100000 in
theorem cal_X0_risingFrom : CalV yX0_risingFrom cX0_risingFrom 4 (some .int) 1 := ⟨in3 (i := 96) rfl rfl, inP (i := 52) rfl rfl, ini_X0, cod_X0_risingFrom, by decide +kernel, by decide⟩
set_option maxRecDepth 100000 in
theorem cod_X5_swap : Cond.code yX5_swap cX5_swap 6 (some .int) ∈ TG := in3 (i := 101) rfl rfl
set_option maxRecDepth 100000 in
theorem cal_X5_swap : CalV yX5_swap cX5_swap 6 (some .int) 0 := ⟨in3 (i := 99) rfl rfl, in3 (i := 100) rfl rfl, ini_X5, cod_X5_swap, by decide +kernel, by decide⟩
set_option maxRecDepth 100000 in
theorem cod_X0_change : Cond.code yX0_change cX0_change 3 none ∈ TG := in3 (i := 105) rfl rfl
set_option maxRecDepth 100000 in
theorem cal_X0_change : CalV yX0_change cX0_change 3 none 2 := ⟨in3 (i := 104) rfl rfl, inP (i := 53) rfl rfl, ini_X0, cod_X0_change, by decide +kernel, by decide⟩
set_option maxRecDepth 100000 in
theorem cod_X0_changeIn : Cond.code yX0_changeIn cX0_changeIn 4 none ∈ TG := in3 (i := 108) rfl rfl
set_option maxRecDepth 100000 in
theorem cal_X0_changeIn : CalS yX0_changeIn cX0_changeIn 4 none 3 := ⟨in3 (i := 107) rfl rfl, ini_X0, cod_X0_changeIn, by decide +kernel, by decide⟩
set_option maxRecDepth 100000 in
theorem cod_X5_oldest : Cond.code yX5_oldest cX5_oldest 4 (some .int) ∈ TG := in3 (i := 112) rfl rfl
set_option maxRecDepth 100000 in
theorem cal_X5_oldest : CalV yX5_oldest cX5_oldest 4 (some .int) 1 := ⟨in3 (i := 110) rfl rfl, in3 (i := 111) rfl rfl, ini_X5, cod_X5_oldest, by decide +kernel, by decide⟩
set_option maxRecDepth 100000 in
theorem cod_X5_bySize : Cond.code yX5_bySize cX5_bySize 6 (some .int) ∈ TG := in3 (i := 115) rfl rfl
set_option maxRecDepth 100000 in
theorem cal_X5_bySize : CalS yX5_bySize cX5_bySize 6 (some .int) 3 := ⟨in3 (i := 114) rfl rfl, ini_X5, cod_X5_bySize, by decide +kernel, by decide⟩
set_option maxRecDepth 100000 in
theorem cod_X5_tightest : Cond.code yX5_tightest cX5_tightest 8 (some .int) ∈ TG := in3 (i := 119) rfl rfl
set_option maxRecDepth 100000 in
theorem cal_X5_tightest : CalV yX5_tightest cX5_tightest 8 (some .int) 1 := ⟨in3 (i := 117) rfl rfl, in3 (i := 118) rfl rfl, ini_X5, cod_X5_tightest, by decide +kernel, by decide⟩
set_option maxRecDepth 100000 in
theorem cod_X5_ageFor : Cond.code yX5_ageFor cX5_ageFor 6 (some .int) ∈ TG := in3 (i := 125) rfl rfl
set_option maxRecDepth 100000 in
theorem cal_X5_ageFor : CalV yX5_ageFor cX5_ageFor 6 (some .int) 1 := ⟨in3 (i := 123) rfl rfl, in3 (i := 124) rfl rfl, ini_X5, cod_X5_ageFor, by decide +kernel, by decide⟩
set_option maxRecDepth 100000 in
theorem cod_X5_entire : Cond.code yX5_entire cX5_entire 3 (some .int) ∈ TG := in3 (i := 129) rfl rfl
set_option maxRecDepth 100000 in
theorem cal_X5_entire : CalV yX5_entire cX5_entire 3 (some .int) 0 := ⟨in3 (i := 127) rfl rfl, in3 (i := 128) rfl rfl, ini_X5, cod_X5_entire, by decide +kernel, by decide⟩
set_option maxRecDepth 100000 in
theorem cod_X5_harm : Cond.code yX5_harm cX5_harm 5 (some .int) ∈ TG := in3 (i := 133) rfl rfl
set_option maxRecDepth 100000 in
theorem cal_X5_harm : CalV yX5_harm cX5_harm 5 (some .int) 1 := ⟨in3 (i := 131) rfl rfl, in3 (i := 132) rfl rfl, ini_X5, cod_X5_harm, by decide +kernel, by decide⟩
set_option maxRecDepth 100000 in
theorem cod_X5_pairs : Cond.code yX5_pairs cX5_pairs 5 (some .int) ∈ TG := in3 (i := 137) rfl rfl
set_option maxRecDepth 100000 in
theorem cal_X5_pairs : CalV yX5_pairs cX5_pairs 5 (some .int) 0 := ⟨in3 (i := 135) rfl rfl, in3 (i := 136) rfl rfl, ini_X5, cod_X5_pairs, by decide +kernel, by decide⟩
set_option maxRecDepth 100000 in
theorem cod_X5_sumOf : Cond.code yX5_sumOf cX5_sumOf 4 (some .int) ∈ TG := in3 (i := 141) rfl rfl
set_option maxRecDepth 100000 in
theorem cal_X5_sumOf : CalV yX5_sumOf cX5_sumOf 4 (some .int) 1 := ⟨in3 (i := 139) rfl rfl, in3 (i := 140) rfl rfl, ini_X5, cod_X5_sumOf, by decide +kernel, by decide⟩
set_option maxRecDepth 100000 in
theorem cod_X5_rank : Cond.code yX5_rank cX5_rank 3 (some .int) ∈ TG := in3 (i := 145) rfl rfl
set_option maxRecDepth 100000 in
theorem cal_X5_rank : CalV yX5_rank cX5_rank 3 (some .int) 1 := ⟨in3 (i := 143) rfl rfl, in3 (i := 144) rfl rfl, ini_X5, cod_X5_rank, by decide +kernel, by decide⟩
set_option maxRecDepth 100000 in
theorem cod_X0_moreWorn : Cond.code yX0_moreWorn cX0_moreWorn 4 (some .int) ∈ TG := in3 (i := 149) rfl rfl
set_option maxRecDepth 100000 in
theorem cal_X0_moreWorn : CalV yX0_moreWorn cX0_moreWorn 4 (some .int) 1 := ⟨in3 (i := 148) rfl rfl, inP (i := 54) rfl rfl, ini_X0, cod_X0_moreWorn, by decide +kernel, by decide⟩
set_option maxRecDepth 100000 in
theorem cod_X5_unlike : Cond.code yX5_unlike cX5_unlike 5 (some .int) ∈ TG := in3 (i := 153) rfl rfl
set_option maxRecDepth 100000 in
theorem cal_X5_unlike : CalV yX5_unlike cX5_unlike 5 (some .int) 0 := ⟨in3 (i := 151) rfl rfl, in3 (i := 152) rfl rfl, ini_X5, cod_X5_unlike, by decide +kernel, by decide⟩
set_option maxRecDepth 100000 in
theorem cod_X5_chance : Cond.code yX5_chance cX5_chance 8 (some .long) ∈ TG := in3 (i := 157) rfl rfl
set_option maxRecDepth 100000 in
theorem cal_X5_chance : CalV yX5_chance cX5_chance 8 (some .long) 4 := ⟨in3 (i := 155) rfl rfl, in3 (i := 156) rfl rfl, ini_X5, cod_X5_chance, by decide +kernel, by decide⟩
set_option maxRecDepth 100000 in
theorem cod_X5_refuseLong : Cond.code yX5_refuseLong cX5_refuseLong 2 (some .long) ∈ TG := in3 (i := 161) rfl rfl
set_option maxRecDepth 100000 in
theorem cal_X5_refuseLong : CalV yX5_refuseLong cX5_refuseLong 2 (some .long) 1 := ⟨in3 (i := 160) rfl rfl, inP (i := 55) rfl rfl, ini_X5, cod_X5_refuseLong, by decide +kernel, by decide⟩
set_option maxRecDepth 100000 in
theorem cod_X5_waysToHole : Cond.code yX5_waysToHole cX5_waysToHole 11 (some .long) ∈ TG := in3 (i := 166) rfl rfl
set_option maxRecDepth 100000 in
theorem cal_X5_waysToHole : CalV yX5_waysToHole cX5_waysToHole 11 (some .long) 3 := ⟨in3 (i := 165) rfl rfl, inP (i := 56) rfl rfl, ini_X5, cod_X5_waysToHole, by decide +kernel, by decide⟩
set_option maxRecDepth 100000 in
theorem cod_X5_partOf : Cond.code yX5_partOf cX5_partOf 12 (some .long) ∈ TG := in3 (i := 169) rfl rfl
set_option maxRecDepth 100000 in
theorem cal_X5_partOf : CalS yX5_partOf cX5_partOf 12 (some .long) 3 := ⟨in3 (i := 168) rfl rfl, ini_X5, cod_X5_partOf, by decide +kernel, by decide⟩
set_option maxRecDepth 100000 in
theorem cod_X5_mean : Cond.code yX5_mean cX5_mean 2 (some .long) ∈ TG := in3 (i := 173) rfl rfl
set_option maxRecDepth 100000 in
theorem cal_X5_mean : CalV yX5_mean cX5_mean 2 (some .long) 1 := ⟨in3 (i := 171) rfl rfl, in3 (i := 172) rfl rfl, ini_X5, cod_X5_mean, by decide +kernel, by decide⟩
set_option maxRecDepth 100000 in
theorem cod_X0_ageTogether : Cond.code yX0_ageTogether cX0_ageTogether 3 (some .int) ∈ TG := in3 (i := 177) rfl rfl
set_option maxRecDepth 100000 in
theorem cal_X0_ageTogether : CalV yX0_ageTogether cX0_ageTogether 3 (some .int) 0 := ⟨in3 (i := 176) rfl rfl, inP (i := 57) rfl rfl, ini_X0, cod_X0_ageTogether, by decide +kernel, by decide⟩
set_option maxRecDepth 100000 in
theorem cod_X5_lots : Cond.code yX5_lots cX5_lots 8 (some .int) ∈ TG := in3 (i := 182) rfl rfl
set_option maxRecDepth 100000 in
theorem cal_X5_lots : CalV yX5_lots cX5_lots 8 (some .int) 3 := ⟨in3 (i := 180) rfl rfl, in3 (i := 181) rfl rfl, ini_X5, cod_X5_lots, by decide +kernel, by decide⟩
set_option maxRecDepth 100000 in
theorem cod_X5_image : Cond.code yX5_image cX5_image 1 (some .int) ∈ TG := in3 (i := 188) rfl rfl
set_option maxRecDepth 100000 in
theorem cal_X5_image : CalV yX5_image cX5_image 1 (some .int) 0 := ⟨in3 (i := 186) rfl rfl, in3 (i := 187) rfl rfl, ini_X5, cod_X5_image, by decide +kernel, by decide⟩
set_option maxRecDepth 100000 in
theorem cod_X5_restore : Cond.code yX5_restore cX5_restore 1 (some .int) ∈ TG := in3 (i := 192) rfl rfl
set_option maxRecDepth 100000 in
theorem cal_X5_restore : CalV yX5_restore cX5_restore 1 (some .int) 0 := ⟨in3 (i := 190) rfl rfl, in3 (i := 191) rfl rfl, ini_X5, cod_X5_restore, by decide +kernel, by decide⟩
set_option maxRecDepth 100000 in
theorem cod_X5_count : Cond.code yX5_count cX5_count 2 (some .int) ∈ TG := in3 (i := 196) rfl rfl
set_option maxRecDepth 100000 in
theorem cal_X5_count : CalV yX5_count cX5_count 2 (some .int) 1 := ⟨in3 (i := 194) rfl rfl, in3 (i := 195) rfl rfl, ini_X5, cod_X5_count, by decide +kernel, by decide⟩
set_option maxRecDepth 100000 in
theorem cod_X6_init : Cond.code yX6_init cX6_init 1 none ∈ TG := in3 (i := 201) rfl rfl
set_option maxRecDepth 100000 in
theorem iin_X6_init : Cond.instanceMethod yX6_init ∈ TG := in3 (i := 200) rfl rfl
set_option maxRecDepth 100000 in
theorem cod_X6_feed : Cond.code yX6_feed cX6_feed 2 (some .int) ∈ TG := in4 (i := 96) rfl rfl
set_option maxRecDepth 100000 in
theorem cal_X6_feed : CalV yX6_feed cX6_feed 2 (some .int) 1 := ⟨in4 (i := 94) rfl rfl, in4 (i := 95) rfl rfl, ini_X6, cod_X6_feed, by decide +kernel, by decide⟩
set_option maxRecDepth 100000 in
theorem cod_X6_refuse : Cond.code yX6_refuse cX6_refuse 2 (some .int) ∈ TG := in4 (i := 100) rfl rfl
set_option maxRecDepth 100000 in
theorem cal_X6_refuse : CalV yX6_refuse cX6_refuse 2 (some .int) 1 := ⟨in4 (i := 99) rfl rfl, inP (i := 58) rfl rfl, ini_X6, cod_X6_refuse, by decide +kernel, by decide⟩
set_option maxRecDepth 100000 in
theorem cod_X6_trousers : Cond.code yX6_trousers cX6_trousers 2 (some .int) ∈ TG := in4 (i := 104) rfl rfl
set_option maxRecDepth 100000 in
theorem cal_X6_trousers : CalV yX6_trousers cX6_trousers 2 (some .int) 0 := ⟨in4 (i := 102) rfl rfl, in4 (i := 103) rfl rfl, ini_X6, cod_X6_trousers, by decide +kernel, by decide⟩
set_option maxRecDepth 100000 in
theorem cod_X6_readStatement : Cond.code yX6_readStatement cX6_readStatement 3 none ∈ TG := in4 (i := 108) rfl rfl
set_option maxRecDepth 100000 in
theorem cal_X6_readStatement : CalV yX6_readStatement cX6_readStatement 3 none 0 := ⟨in4 (i := 107) rfl rfl, inP (i := 59) rfl rfl, ini_X6, cod_X6_readStatement, by decide +kernel, by decide⟩
set_option maxRecDepth 100000 in
theorem cod_X6_here : Cond.code yX6_here cX6_here 1 (some .int) ∈ TG := in4 (i := 112) rfl rfl
set_option maxRecDepth 100000 in
theorem cal_X6_here : CalV yX6_here cX6_here 1 (some .int) 0 := ⟨in4 (i := 111) rfl rfl, inP (i := 60) rfl rfl, ini_X6, cod_X6_here, by decide +kernel, by decide⟩
set_option maxRecDepth 100000 in
theorem cod_X6_isLetter : Cond.code yX6_isLetter cX6_isLetter 1 (some .boolean) ∈ TG := in4 (i := 115) rfl rfl
set_option maxRecDepth 100000 in
theorem cal_X6_isLetter : CalS yX6_isLetter cX6_isLetter 1 (some .boolean) 1 := ⟨in4 (i := 114) rfl rfl, ini_X6, cod_X6_isLetter, by decide +kernel, by decide⟩
set_option maxRecDepth 100000 in
theorem cod_X6_readNumbers : Cond.code yX6_readNumbers cX6_readNumbers 3 none ∈ TG := in4 (i := 119) rfl rfl
set_option maxRecDepth 100000 in
theorem cal_X6_readNumbers : CalV yX6_readNumbers cX6_readNumbers 3 none 2 := ⟨in4 (i := 118) rfl rfl, inP (i := 61) rfl rfl, ini_X6, cod_X6_readNumbers, by decide +kernel, by decide⟩
set_option maxRecDepth 100000 in
theorem cod_X6_readDigits : Cond.code yX6_readDigits cX6_readDigits 4 (some .int) ∈ TG := in4 (i := 123) rfl rfl
set_option maxRecDepth 100000 in
theorem cal_X6_readDigits : CalV yX6_readDigits cX6_readDigits 4 (some .int) 1 := ⟨in4 (i := 122) rfl rfl, inP (i := 62) rfl rfl, ini_X6, cod_X6_readDigits, by decide +kernel, by decide⟩
set_option maxRecDepth 100000 in
theorem cod_X6_in : Cond.code yX6_in cX6_in 6 (some .boolean) ∈ TG := in4 (i := 128) rfl rfl
set_option maxRecDepth 100000 in
theorem cal_X6_in : CalS yX6_in cX6_in 6 (some .boolean) 3 := ⟨in4 (i := 127) rfl rfl, ini_X6, cod_X6_in, by decide +kernel, by decide⟩
set_option maxRecDepth 100000 in
theorem cod_X6_think : Cond.code yX6_think cX6_think 1 none ∈ TG := in4 (i := 132) rfl rfl
set_option maxRecDepth 100000 in
theorem cal_X6_think : CalV yX6_think cX6_think 1 none 0 := ⟨in4 (i := 131) rfl rfl, inP (i := 63) rfl rfl, ini_X6, cod_X6_think, by decide +kernel, by decide⟩
set_option maxRecDepth 100000 in
theorem cod_X6_carryAll : Cond.code yX6_carryAll cX6_carryAll 4 none ∈ TG := in4 (i := 136) rfl rfl
set_option maxRecDepth 100000 in
theorem cal_X6_carryAll : CalV yX6_carryAll cX6_carryAll 4 none 2 := ⟨in4 (i := 135) rfl rfl, inP (i := 64) rfl rfl, ini_X6, cod_X6_carryAll, by decide +kernel, by decide⟩
set_option maxRecDepth 100000 in
theorem cod_X6_carry : Cond.code yX6_carry cX6_carry 2 (some .int) ∈ TG := in4 (i := 140) rfl rfl
set_option maxRecDepth 100000 in
theorem cal_X6_carry : CalV yX6_carry cX6_carry 2 (some .int) 1 := ⟨in4 (i := 139) rfl rfl, inP (i := 65) rfl rfl, ini_X6, cod_X6_carry, by decide +kernel, by decide⟩
set_option maxRecDepth 100000 in
theorem cod_X6_comesTold : Cond.code yX6_comesTold cX6_comesTold 7 (some .boolean) ∈ TG := in4 (i := 144) rfl rfl
set_option maxRecDepth 100000 in
theorem cal_X6_comesTold : CalV yX6_comesTold cX6_comesTold 7 (some .boolean) 1 := ⟨in4 (i := 143) rfl rfl, inP (i := 66) rfl rfl, ini_X6, cod_X6_comesTold, by decide +kernel, by decide⟩
set_option maxRecDepth 100000 in
theorem cod_X6_makeCell : Cond.code yX6_makeCell cX6_makeCell 5 none ∈ TG := in4 (i := 148) rfl rfl
set_option maxRecDepth 100000 in
theorem cal_X6_makeCell : CalV yX6_makeCell cX6_makeCell 5 none 4 := ⟨in4 (i := 147) rfl rfl, inP (i := 67) rfl rfl, ini_X6, cod_X6_makeCell, by decide +kernel, by decide⟩
set_option maxRecDepth 100000 in
theorem cod_X6_pieceComes : Cond.code yX6_pieceComes cX6_pieceComes 4 none ∈ TG := in4 (i := 152) rfl rfl
set_option maxRecDepth 100000 in
theorem cal_X6_pieceComes : CalV yX6_pieceComes cX6_pieceComes 4 none 3 := ⟨in4 (i := 151) rfl rfl, inP (i := 68) rfl rfl, ini_X6, cod_X6_pieceComes, by decide +kernel, by decide⟩
set_option maxRecDepth 100000 in
theorem cod_X6_isPiece : Cond.code yX6_isPiece cX6_isPiece 2 (some .boolean) ∈ TG := in4 (i := 156) rfl rfl
set_option maxRecDepth 100000 in
theorem cal_X6_isPiece : CalV yX6_isPiece cX6_isPiece 2 (some .boolean) 1 := ⟨in4 (i := 155) rfl rfl, inP (i := 69) rfl rfl, ini_X6, cod_X6_isPiece, by decide +kernel, by decide⟩
set_option maxRecDepth 100000 in
theorem cod_X6_putOn : Cond.code yX6_putOn cX6_putOn 3 none ∈ TG := in4 (i := 160) rfl rfl
set_option maxRecDepth 100000 in
theorem cal_X6_putOn : CalV yX6_putOn cX6_putOn 3 none 2 := ⟨in4 (i := 159) rfl rfl, inP (i := 70) rfl rfl, ini_X6, cod_X6_putOn, by decide +kernel, by decide⟩
set_option maxRecDepth 100000 in
theorem cod_X6_goYears : Cond.code yX6_goYears cX6_goYears 3 none ∈ TG := in4 (i := 165) rfl rfl
set_option maxRecDepth 100000 in
theorem cal_X6_goYears : CalV yX6_goYears cX6_goYears 3 none 1 := ⟨in4 (i := 164) rfl rfl, inP (i := 71) rfl rfl, ini_X6, cod_X6_goYears, by decide +kernel, by decide⟩
set_option maxRecDepth 100000 in
theorem cod_X6_yearOn : Cond.code yX6_yearOn cX6_yearOn 2 none ∈ TG := in4 (i := 169) rfl rfl
set_option maxRecDepth 100000 in
theorem cal_X6_yearOn : CalV yX6_yearOn cX6_yearOn 2 none 0 := ⟨in4 (i := 168) rfl rfl, inP (i := 72) rfl rfl, ini_X6, cod_X6_yearOn, by decide +kernel, by decide⟩
set_option maxRecDepth 100000 in
theorem cod_X6_wearsIn : Cond.code yX6_wearsIn cX6_wearsIn 4 (some .int) ∈ TG := in4 (i := 173) rfl rfl
set_option maxRecDepth 100000 in
theorem cal_X6_wearsIn : CalV yX6_wearsIn cX6_wearsIn 4 (some .int) 2 := ⟨in4 (i := 172) rfl rfl, inP (i := 73) rfl rfl, ini_X6, cod_X6_wearsIn, by decide +kernel, by decide⟩
set_option maxRecDepth 100000 in
theorem cod_X6_pullOf : Cond.code yX6_pullOf cX6_pullOf 6 (some .int) ∈ TG := in4 (i := 177) rfl rfl
set_option maxRecDepth 100000 in
theorem cal_X6_pullOf : CalV yX6_pullOf cX6_pullOf 6 (some .int) 1 := ⟨in4 (i := 176) rfl rfl, inP (i := 74) rfl rfl, ini_X6, cod_X6_pullOf, by decide +kernel, by decide⟩
set_option maxRecDepth 100000 in
theorem cod_X6_besideOf : Cond.code yX6_besideOf cX6_besideOf 2 (some .int) ∈ TG := in4 (i := 180) rfl rfl
set_option maxRecDepth 100000 in
theorem cal_X6_besideOf : CalS yX6_besideOf cX6_besideOf 2 (some .int) 2 := ⟨in4 (i := 179) rfl rfl, ini_X6, cod_X6_besideOf, by decide +kernel, by decide⟩
set_option maxRecDepth 100000 in
theorem cod_X6_apart : Cond.code yX6_apart cX6_apart 2 (some .int) ∈ TG := in4 (i := 183) rfl rfl
set_option maxRecDepth 100000 in
theorem cal_X6_apart : CalS yX6_apart cX6_apart 2 (some .int) 2 := ⟨in4 (i := 182) rfl rfl, ini_X6, cod_X6_apart, by decide +kernel, by decide⟩
set_option maxRecDepth 100000 in
theorem cod_X6_held : Cond.code yX6_held cX6_held 2 (some .int) ∈ TG := in4 (i := 186) rfl rfl
set_option maxRecDepth 100000 in
theorem cal_X6_held : CalS yX6_held cX6_held 2 (some .int) 2 := ⟨in4 (i := 185) rfl rfl, ini_X6, cod_X6_held, by decide +kernel, by decide⟩
set_option maxRecDepth 100000 in
theorem cod_X6_again : Cond.code yX6_again cX6_again 1 none ∈ TG := in4 (i := 190) rfl rfl
set_option maxRecDepth 100000 in
theorem cal_X6_again : CalV yX6_again cX6_again 1 none 0 := ⟨in4 (i := 189) rfl rfl, inP (i := 75) rfl rfl, ini_X6, cod_X6_again, by decide +kernel, by decide⟩
set_option maxRecDepth 100000 in
theorem cod_X6_image : Cond.code yX6_image cX6_image 1 (some .int) ∈ TG := in4 (i := 194) rfl rfl
set_option maxRecDepth 100000 in
theorem cal_X6_image : CalV yX6_image cX6_image 1 (some .int) 0 := ⟨in4 (i := 192) rfl rfl, in4 (i := 193) rfl rfl, ini_X6, cod_X6_image, by decide +kernel, by decide⟩
set_option maxRecDepth 100000 in
theorem cod_X6_restore : Cond.code yX6_restore cX6_restore 1 (some .int) ∈ TG := in4 (i := 198) rfl rfl
set_option maxRecDepth 100000 in
theorem cal_X6_restore : CalV yX6_restore cX6_restore 1 (some .int) 0 := ⟨in4 (i := 196) rfl rfl, in4 (i := 197) rfl rfl, ini_X6, cod_X6_restore, by decide +kernel, by decide⟩
set_option maxRecDepth 100000 in
theorem cod_X6_back : Cond.code yX6_back cX6_back 2 (some .int) ∈ TG := in4 (i := 202) rfl rfl
set_option maxRecDepth 100000 in
theorem cal_X6_back : CalV yX6_back cX6_back 2 (some .int) 0 := ⟨in4 (i := 200) rfl rfl, in4 (i := 201) rfl rfl, ini_X6, cod_X6_back, by decide +kernel, by decide⟩
set_option maxRecDepth 100000 in
theorem cod_X6_cellOf : Cond.code yX6_cellOf cX6_cellOf 3 (some .int) ∈ TG := in4 (i := 206) rfl rfl
set_option maxRecDepth 100000 in
theorem cal_X6_cellOf : CalV yX6_cellOf cX6_cellOf 3 (some .int) 2 := ⟨in4 (i := 204) rfl rfl, in4 (i := 205) rfl rfl, ini_X6, cod_X6_cellOf, by decide +kernel, by decide⟩
set_option maxRecDepth 100000 in
theorem cod_X6_isCell : Cond.code yX6_isCell cX6_isCell 1 (some .boolean) ∈ TG := in4 (i := 209) rfl rfl
set_option maxRecDepth 100000 in
theorem cal_X6_isCell : CalS yX6_isCell cX6_isCell 1 (some .boolean) 1 := ⟨in4 (i := 208) rfl rfl, ini_X6, cod_X6_isCell, by decide +kernel, by decide⟩
set_option maxRecDepth 100000 in
theorem cod_X6_holdsOf : Cond.code yX6_holdsOf cX6_holdsOf 2 (some .int) ∈ TG := in4 (i := 215) rfl rfl
set_option maxRecDepth 100000 in
theorem cal_X6_holdsOf : CalV yX6_holdsOf cX6_holdsOf 2 (some .int) 1 := ⟨in4 (i := 214) rfl rfl, inP (i := 76) rfl rfl, ini_X6, cod_X6_holdsOf, by decide +kernel, by decide⟩
set_option maxRecDepth 100000 in
theorem cod_X6_isHole : Cond.code yX6_isHole cX6_isHole 2 (some .boolean) ∈ TG := in4 (i := 219) rfl rfl
set_option maxRecDepth 100000 in
theorem cal_X6_isHole : CalV yX6_isHole cX6_isHole 2 (some .boolean) 1 := ⟨in4 (i := 218) rfl rfl, inP (i := 77) rfl rfl, ini_X6, cod_X6_isHole, by decide +kernel, by decide⟩
set_option maxRecDepth 100000 in
theorem cod_X6_pieceOf : Cond.code yX6_pieceOf cX6_pieceOf 3 (some .int) ∈ TG := in4 (i := 223) rfl rfl
set_option maxRecDepth 100000 in
theorem cal_X6_pieceOf : CalV yX6_pieceOf cX6_pieceOf 3 (some .int) 2 := ⟨in4 (i := 221) rfl rfl, in4 (i := 222) rfl rfl, ini_X6, cod_X6_pieceOf, by decide +kernel, by decide⟩
set_option maxRecDepth 100000 in
theorem cod_X6_piece : Cond.code yX6_piece cX6_piece 5 (some .int) ∈ TG := in4 (i := 228) rfl rfl
set_option maxRecDepth 100000 in
theorem cal_X6_piece : CalV yX6_piece cX6_piece 5 (some .int) 3 := ⟨in4 (i := 226) rfl rfl, in4 (i := 227) rfl rfl, ini_X6, cod_X6_piece, by decide +kernel, by decide⟩
set_option maxRecDepth 100000 in
theorem cod_X6_cell : Cond.code yX6_cell cX6_cell 7 (some .int) ∈ TG := in4 (i := 233) rfl rfl
set_option maxRecDepth 100000 in
theorem cal_X6_cell : CalV yX6_cell cX6_cell 7 (some .int) 4 := ⟨in4 (i := 231) rfl rfl, in4 (i := 232) rfl rfl, ini_X6, cod_X6_cell, by decide +kernel, by decide⟩
set_option maxRecDepth 100000 in
theorem cod_X6_keepTurn : Cond.code yX6_keepTurn cX6_keepTurn 2 none ∈ TG := in4 (i := 237) rfl rfl
set_option maxRecDepth 100000 in
theorem cal_X6_keepTurn : CalV yX6_keepTurn cX6_keepTurn 2 none 0 := ⟨in4 (i := 236) rfl rfl, inP (i := 78) rfl rfl, ini_X6, cod_X6_keepTurn, by decide +kernel, by decide⟩
set_option maxRecDepth 100000 in
theorem cod_X6_puts : Cond.code yX6_puts cX6_puts 4 (some .int) ∈ TG := in5 (i := 1) rfl rfl
set_option maxRecDepth 100000 in
theorem cal_X6_puts : CalV yX6_puts cX6_puts 4 (some .int) 2 := ⟨in4 (i := 239) rfl rfl, in5 (i := 0) rfl rfl, ini_X6, cod_X6_puts, by decide +kernel, by decide⟩
set_option maxRecDepth 100000 in
theorem cod_X6_allPull : Cond.code yX6_allPull cX6_allPull 3 (some .int) ∈ TG := in5 (i := 5) rfl rfl
set_option maxRecDepth 100000 in
theorem cal_X6_allPull : CalV yX6_allPull cX6_allPull 3 (some .int) 0 := ⟨in5 (i := 4) rfl rfl, inP (i := 79) rfl rfl, ini_X6, cod_X6_allPull, by decide +kernel, by decide⟩
set_option maxRecDepth 100000 in
theorem cod_X6_wears : Cond.code yX6_wears cX6_wears 5 (some .int) ∈ TG := in5 (i := 9) rfl rfl
set_option maxRecDepth 100000 in
theorem cal_X6_wears : CalV yX6_wears cX6_wears 5 (some .int) 2 := ⟨in5 (i := 7) rfl rfl, in5 (i := 8) rfl rfl, ini_X6, cod_X6_wears, by decide +kernel, by decide⟩
set_option maxRecDepth 100000 in
theorem cod_X6_wrongNumber : Cond.code yX6_wrongNumber cX6_wrongNumber 3 (some .int) ∈ TG := in5 (i := 12) rfl rfl
set_option maxRecDepth 100000 in
theorem cal_X6_wrongNumber : CalS yX6_wrongNumber cX6_wrongNumber 3 (some .int) 3 := ⟨in5 (i := 11) rfl rfl, ini_X6, cod_X6_wrongNumber, by decide +kernel, by decide⟩
set_option maxRecDepth 100000 in
theorem cod_X6_years : Cond.code yX6_years cX6_years 3 (some .int) ∈ TG := in5 (i := 16) rfl rfl
set_option maxRecDepth 100000 in
theorem cal_X6_years : CalV yX6_years cX6_years 3 (some .int) 1 := ⟨in5 (i := 14) rfl rfl, in5 (i := 15) rfl rfl, ini_X6, cod_X6_years, by decide +kernel, by decide⟩
set_option maxRecDepth 100000 in
theorem cod_X6_holeBits : Cond.code yX6_holeBits cX6_holeBits 3 (some .int) ∈ TG := in5 (i := 20) rfl rfl
set_option maxRecDepth 100000 in
theorem cal_X6_holeBits : CalV yX6_holeBits cX6_holeBits 3 (some .int) 0 := ⟨in5 (i := 19) rfl rfl, inP (i := 80) rfl rfl, ini_X6, cod_X6_holeBits, by decide +kernel, by decide⟩
set_option maxRecDepth 100000 in
theorem cod_X6_onesOf : Cond.code yX6_onesOf cX6_onesOf 3 (some .int) ∈ TG := in5 (i := 23) rfl rfl
set_option maxRecDepth 100000 in
theorem cal_X6_onesOf : CalS yX6_onesOf cX6_onesOf 3 (some .int) 1 := ⟨in5 (i := 22) rfl rfl, ini_X6, cod_X6_onesOf, by decide +kernel, by decide⟩
set_option maxRecDepth 100000 in
theorem cod_X6_behind : Cond.code yX6_behind cX6_behind 6 (some .int) ∈ TG := in5 (i := 27) rfl rfl
set_option maxRecDepth 100000 in
theorem cal_X6_behind : CalV yX6_behind cX6_behind 6 (some .int) 3 := ⟨in5 (i := 25) rfl rfl, in5 (i := 26) rfl rfl, ini_X6, cod_X6_behind, by decide +kernel, by decide⟩
set_option maxRecDepth 100000 in
theorem cod_X6_wrongBit : Cond.code yX6_wrongBit cX6_wrongBit 3 (some .int) ∈ TG := in5 (i := 30) rfl rfl
set_option maxRecDepth 100000 in
theorem cal_X6_wrongBit : CalS yX6_wrongBit cX6_wrongBit 3 (some .int) 3 := ⟨in5 (i := 29) rfl rfl, ini_X6, cod_X6_wrongBit, by decide +kernel, by decide⟩
set_option maxRecDepth 100000 in
theorem cod_X6_all : Cond.code yX6_all cX6_all 5 (some .int) ∈ TG := in5 (i := 34) rfl rfl
set_option maxRecDepth 100000 in
theorem cal_X6_all : CalV yX6_all cX6_all 5 (some .int) 2 := ⟨in5 (i := 32) rfl rfl, in5 (i := 33) rfl rfl, ini_X6, cod_X6_all, by decide +kernel, by decide⟩
set_option maxRecDepth 100000 in
theorem cod_X6_allWear : Cond.code yX6_allWear cX6_allWear 3 (some .int) ∈ TG := in5 (i := 38) rfl rfl
set_option maxRecDepth 100000 in
theorem cal_X6_allWear : CalV yX6_allWear cX6_allWear 3 (some .int) 0 := ⟨in5 (i := 37) rfl rfl, inP (i := 81) rfl rfl, ini_X6, cod_X6_allWear, by decide +kernel, by decide⟩
set_option maxRecDepth 100000 in
theorem cod_X6_holes : Cond.code yX6_holes cX6_holes 5 (some .int) ∈ TG := in5 (i := 42) rfl rfl
set_option maxRecDepth 100000 in
theorem cal_X6_holes : CalV yX6_holes cX6_holes 5 (some .int) 1 := ⟨in5 (i := 40) rfl rfl, in5 (i := 41) rfl rfl, ini_X6, cod_X6_holes, by decide +kernel, by decide⟩
set_option maxRecDepth 100000 in
theorem cod_X6_layLasts : Cond.code yX6_layLasts cX6_layLasts 3 none ∈ TG := in5 (i := 47) rfl rfl
set_option maxRecDepth 100000 in
theorem cal_X6_layLasts : CalV yX6_layLasts cX6_layLasts 3 none 0 := ⟨in5 (i := 46) rfl rfl, inP (i := 82) rfl rfl, ini_X6, cod_X6_layLasts, by decide +kernel, by decide⟩
set_option maxRecDepth 100000 in
theorem cod_X6_firstOf : Cond.code yX6_firstOf cX6_firstOf 3 (some .int) ∈ TG := in5 (i := 51) rfl rfl
set_option maxRecDepth 100000 in
theorem cal_X6_firstOf : CalV yX6_firstOf cX6_firstOf 3 (some .int) 0 := ⟨in5 (i := 50) rfl rfl, inP (i := 83) rfl rfl, ini_X6, cod_X6_firstOf, by decide +kernel, by decide⟩
set_option maxRecDepth 100000 in
theorem cod_X6_lasts : Cond.code yX6_lasts cX6_lasts 2 (some .int) ∈ TG := in5 (i := 55) rfl rfl
set_option maxRecDepth 100000 in
theorem cal_X6_lasts : CalV yX6_lasts cX6_lasts 2 (some .int) 1 := ⟨in5 (i := 53) rfl rfl, in5 (i := 54) rfl rfl, ini_X6, cod_X6_lasts, by decide +kernel, by decide⟩
set_option maxRecDepth 100000 in
theorem cod_X6_fits : Cond.code yX6_fits cX6_fits 8 (some .int) ∈ TG := in5 (i := 59) rfl rfl
set_option maxRecDepth 100000 in
theorem cal_X6_fits : CalV yX6_fits cX6_fits 8 (some .int) 2 := ⟨in5 (i := 57) rfl rfl, in5 (i := 58) rfl rfl, ini_X6, cod_X6_fits, by decide +kernel, by decide⟩
set_option maxRecDepth 100000 in
theorem cod_X6_bestPiece : Cond.code yX6_bestPiece cX6_bestPiece 5 (some .int) ∈ TG := in5 (i := 63) rfl rfl
set_option maxRecDepth 100000 in
theorem cal_X6_bestPiece : CalV yX6_bestPiece cX6_bestPiece 5 (some .int) 1 := ⟨in5 (i := 61) rfl rfl, in5 (i := 62) rfl rfl, ini_X6, cod_X6_bestPiece, by decide +kernel, by decide⟩
set_option maxRecDepth 100000 in
theorem cod_X6_mend : Cond.code yX6_mend cX6_mend 4 (some .int) ∈ TG := in5 (i := 67) rfl rfl
set_option maxRecDepth 100000 in
theorem cal_X6_mend : CalV yX6_mend cX6_mend 4 (some .int) 0 := ⟨in5 (i := 65) rfl rfl, in5 (i := 66) rfl rfl, ini_X6, cod_X6_mend, by decide +kernel, by decide⟩
set_option maxRecDepth 100000 in
theorem cod_X6_freeBits : Cond.code yX6_freeBits cX6_freeBits 3 (some .int) ∈ TG := in5 (i := 71) rfl rfl
set_option maxRecDepth 100000 in
theorem cal_X6_freeBits : CalV yX6_freeBits cX6_freeBits 3 (some .int) 0 := ⟨in5 (i := 70) rfl rfl, inP (i := 84) rfl rfl, ini_X6, cod_X6_freeBits, by decide +kernel, by decide⟩
set_option maxRecDepth 100000 in
theorem cod_X6_keep : Cond.code yX6_keep cX6_keep 6 (some .int) ∈ TG := in5 (i := 75) rfl rfl
set_option maxRecDepth 100000 in
theorem cal_X6_keep : CalV yX6_keep cX6_keep 6 (some .int) 0 := ⟨in5 (i := 73) rfl rfl, in5 (i := 74) rfl rfl, ini_X6, cod_X6_keep, by decide +kernel, by decide⟩
set_option maxRecDepth 100000 in
theorem cod_X6_placed : Cond.code yX6_placed cX6_placed 10 (some .int) ∈ TG := in5 (i := 79) rfl rfl
set_option maxRecDepth 100000 in
theorem cal_X6_placed : CalV yX6_placed cX6_placed 10 (some .int) 1 := ⟨in5 (i := 77) rfl rfl, in5 (i := 78) rfl rfl, ini_X6, cod_X6_placed, by decide +kernel, by decide⟩
set_option maxRecDepth 100000 in
theorem cod_X6_layFree : Cond.code yX6_layFree cX6_layFree 2 none ∈ TG := in5 (i := 83) rfl rfl
set_option maxRecDepth 100000 in
theorem cal_X6_layFree : CalV yX6_layFree cX6_layFree 2 none 0 := ⟨in5 (i := 82) rfl rfl, inP (i := 85) rfl rfl, ini_X6, cod_X6_layFree, by decide +kernel, by decide⟩
set_option maxRecDepth 100000 in
theorem cod_X6_areApart : Cond.code yX6_areApart cX6_areApart 4 (some .boolean) ∈ TG := in5 (i := 88) rfl rfl
set_option maxRecDepth 100000 in
theorem cal_X6_areApart : CalV yX6_areApart cX6_areApart 4 (some .boolean) 0 := ⟨in5 (i := 87) rfl rfl, inP (i := 86) rfl rfl, ini_X6, cod_X6_areApart, by decide +kernel, by decide⟩
set_option maxRecDepth 100000 in
theorem cod_X6_when : Cond.code yX6_when cX6_when 8 (some .int) ∈ TG := in5 (i := 92) rfl rfl
set_option maxRecDepth 100000 in
theorem cal_X6_when : CalV yX6_when cX6_when 8 (some .int) 2 := ⟨in5 (i := 90) rfl rfl, in5 (i := 91) rfl rfl, ini_X6, cod_X6_when, by decide +kernel, by decide⟩
set_option maxRecDepth 100000 in
theorem cod_X6_turns : Cond.code yX6_turns cX6_turns 3 (some .int) ∈ TG := in5 (i := 96) rfl rfl
set_option maxRecDepth 100000 in
theorem cal_X6_turns : CalV yX6_turns cX6_turns 3 (some .int) 1 := ⟨in5 (i := 94) rfl rfl, in5 (i := 95) rfl rfl, ini_X6, cod_X6_turns, by decide +kernel, by decide⟩
set_option maxRecDepth 100000 in
theorem cod_X6_playAll : Cond.code yX6_playAll cX6_playAll 2 none ∈ TG := in5 (i := 100) rfl rfl
set_option maxRecDepth 100000 in
theorem cal_X6_playAll : CalV yX6_playAll cX6_playAll 2 none 0 := ⟨in5 (i := 99) rfl rfl, inP (i := 87) rfl rfl, ini_X6, cod_X6_playAll, by decide +kernel, by decide⟩
set_option maxRecDepth 100000 in
theorem cod_X6_canTry : Cond.code yX6_canTry cX6_canTry 4 (some .boolean) ∈ TG := in5 (i := 104) rfl rfl
set_option maxRecDepth 100000 in
theorem cal_X6_canTry : CalV yX6_canTry cX6_canTry 4 (some .boolean) 1 := ⟨in5 (i := 103) rfl rfl, inP (i := 88) rfl rfl, ini_X6, cod_X6_canTry, by decide +kernel, by decide⟩
set_option maxRecDepth 100000 in
theorem cod_X6_takeWorth : Cond.code yX6_takeWorth cX6_takeWorth 3 none ∈ TG := in5 (i := 108) rfl rfl
set_option maxRecDepth 100000 in
theorem cal_X6_takeWorth : CalV yX6_takeWorth cX6_takeWorth 3 none 2 := ⟨in5 (i := 107) rfl rfl, inP (i := 89) rfl rfl, ini_X6, cod_X6_takeWorth, by decide +kernel, by decide⟩
set_option maxRecDepth 100000 in
theorem cod_X6_isBetter : Cond.code yX6_isBetter cX6_isBetter 3 (some .boolean) ∈ TG := in5 (i := 111) rfl rfl
set_option maxRecDepth 100000 in
theorem cal_X6_isBetter : CalS yX6_isBetter cX6_isBetter 3 (some .boolean) 3 := ⟨in5 (i := 110) rfl rfl, ini_X6, cod_X6_isBetter, by decide +kernel, by decide⟩
set_option maxRecDepth 100000 in
theorem cod_X6_layTried : Cond.code yX6_layTried cX6_layTried 3 none ∈ TG := in5 (i := 115) rfl rfl
set_option maxRecDepth 100000 in
theorem cal_X6_layTried : CalV yX6_layTried cX6_layTried 3 none 1 := ⟨in5 (i := 114) rfl rfl, inP (i := 90) rfl rfl, ini_X6, cod_X6_layTried, by decide +kernel, by decide⟩
set_option maxRecDepth 100000 in
theorem cod_X6_whose : Cond.code yX6_whose cX6_whose 8 (some .int) ∈ TG := in5 (i := 119) rfl rfl
set_option maxRecDepth 100000 in
theorem cal_X6_whose : CalV yX6_whose cX6_whose 8 (some .int) 2 := ⟨in5 (i := 117) rfl rfl, in5 (i := 118) rfl rfl, ini_X6, cod_X6_whose, by decide +kernel, by decide⟩
set_option maxRecDepth 100000 in
theorem cod_X6_isRow : Cond.code yX6_isRow cX6_isRow 4 (some .boolean) ∈ TG := in5 (i := 123) rfl rfl
set_option maxRecDepth 100000 in
theorem cal_X6_isRow : CalV yX6_isRow cX6_isRow 4 (some .boolean) 1 := ⟨in5 (i := 122) rfl rfl, inP (i := 91) rfl rfl, ini_X6, cod_X6_isRow, by decide +kernel, by decide⟩
set_option maxRecDepth 100000 in
theorem cod_X6_islands : Cond.code yX6_islands cX6_islands 9 (some .int) ∈ TG := in5 (i := 127) rfl rfl
set_option maxRecDepth 100000 in
theorem cal_X6_islands : CalV yX6_islands cX6_islands 9 (some .int) 2 := ⟨in5 (i := 125) rfl rfl, in5 (i := 126) rfl rfl, ini_X6, cod_X6_islands, by decide +kernel, by decide⟩
set_option maxRecDepth 100000 in
theorem cod_X6_layHeaps : Cond.code yX6_layHeaps cX6_layHeaps 7 none ∈ TG := in5 (i := 131) rfl rfl
set_option maxRecDepth 100000 in
theorem cal_X6_layHeaps : CalV yX6_layHeaps cX6_layHeaps 7 none 1 := ⟨in5 (i := 130) rfl rfl, inP (i := 92) rfl rfl, ini_X6, cod_X6_layHeaps, by decide +kernel, by decide⟩
set_option maxRecDepth 100000 in
theorem cod_X6_strip : Cond.code yX6_strip cX6_strip 6 (some .int) ∈ TG := in5 (i := 135) rfl rfl
set_option maxRecDepth 100000 in
theorem cal_X6_strip : CalV yX6_strip cX6_strip 6 (some .int) 1 := ⟨in5 (i := 133) rfl rfl, in5 (i := 134) rfl rfl, ini_X6, cod_X6_strip, by decide +kernel, by decide⟩
set_option maxRecDepth 100000 in
theorem cod_X6_swap : Cond.code yX6_swap cX6_swap 6 (some .int) ∈ TG := in5 (i := 139) rfl rfl
set_option maxRecDepth 100000 in
theorem cal_X6_swap : CalV yX6_swap cX6_swap 6 (some .int) 0 := ⟨in5 (i := 137) rfl rfl, in5 (i := 138) rfl rfl, ini_X6, cod_X6_swap, by decide +kernel, by decide⟩
set_option maxRecDepth 100000 in
theorem cod_X6_swapCells : Cond.code yX6_swapCells cX6_swapCells 3 none ∈ TG := in5 (i := 143) rfl rfl
set_option maxRecDepth 100000 in
theorem cal_X6_swapCells : CalV yX6_swapCells cX6_swapCells 3 none 2 := ⟨in5 (i := 142) rfl rfl, inP (i := 93) rfl rfl, ini_X6, cod_X6_swapCells, by decide +kernel, by decide⟩
set_option maxRecDepth 100000 in
theorem cod_X6_swapIn : Cond.code yX6_swapIn cX6_swapIn 4 none ∈ TG := in5 (i := 146) rfl rfl
set_option maxRecDepth 100000 in
theorem cal_X6_swapIn : CalS yX6_swapIn cX6_swapIn 4 none 3 := ⟨in5 (i := 145) rfl rfl, ini_X6, cod_X6_swapIn, by decide +kernel, by decide⟩
set_option maxRecDepth 100000 in
theorem cod_X6_chance : Cond.code yX6_chance cX6_chance 15 (some .long) ∈ TG := in5 (i := 150) rfl rfl
set_option maxRecDepth 100000 in
theorem cal_X6_chance : CalV yX6_chance cX6_chance 15 (some .long) 4 := ⟨in5 (i := 148) rfl rfl, in5 (i := 149) rfl rfl, ini_X6, cod_X6_chance, by decide +kernel, by decide⟩
set_option maxRecDepth 100000 in
theorem cod_X6_hasBit : Cond.code yX6_hasBit cX6_hasBit 2 (some .boolean) ∈ TG := in5 (i := 154) rfl rfl
set_option maxRecDepth 100000 in
theorem cal_X6_hasBit : CalS yX6_hasBit cX6_hasBit 2 (some .boolean) 2 := ⟨in5 (i := 153) rfl rfl, ini_X6, cod_X6_hasBit, by decide +kernel, by decide⟩
set_option maxRecDepth 100000 in
theorem cod_X6_partOf : Cond.code yX6_partOf cX6_partOf 7 (some .long) ∈ TG := in5 (i := 157) rfl rfl
set_option maxRecDepth 100000 in
theorem cal_X6_partOf : CalS yX6_partOf cX6_partOf 7 (some .long) 3 := ⟨in5 (i := 156) rfl rfl, ini_X6, cod_X6_partOf, by decide +kernel, by decide⟩
set_option maxRecDepth 100000 in
theorem cod_X6_divisor : Cond.code yX6_divisor cX6_divisor 10 (some .long) ∈ TG := in5 (i := 160) rfl rfl
set_option maxRecDepth 100000 in
theorem cal_X6_divisor : CalS yX6_divisor cX6_divisor 10 (some .long) 2 := ⟨in5 (i := 159) rfl rfl, ini_X6, cod_X6_divisor, by decide +kernel, by decide⟩
set_option maxRecDepth 100000 in
theorem cod_X6_oldest : Cond.code yX6_oldest cX6_oldest 4 (some .int) ∈ TG := in5 (i := 164) rfl rfl
set_option maxRecDepth 100000 in
theorem cal_X6_oldest : CalV yX6_oldest cX6_oldest 4 (some .int) 1 := ⟨in5 (i := 162) rfl rfl, in5 (i := 163) rfl rfl, ini_X6, cod_X6_oldest, by decide +kernel, by decide⟩
set_option maxRecDepth 100000 in
theorem cod_X6_ofSize : Cond.code yX6_ofSize cX6_ofSize 5 (some .int) ∈ TG := in5 (i := 168) rfl rfl
set_option maxRecDepth 100000 in
theorem cal_X6_ofSize : CalV yX6_ofSize cX6_ofSize 5 (some .int) 2 := ⟨in5 (i := 167) rfl rfl, inP (i := 94) rfl rfl, ini_X6, cod_X6_ofSize, by decide +kernel, by decide⟩
set_option maxRecDepth 100000 in
theorem cod_X6_tightest : Cond.code yX6_tightest cX6_tightest 8 (some .int) ∈ TG := in5 (i := 172) rfl rfl
set_option maxRecDepth 100000 in
theorem cal_X6_tightest : CalV yX6_tightest cX6_tightest 8 (some .int) 1 := ⟨in5 (i := 170) rfl rfl, in5 (i := 171) rfl rfl, ini_X6, cod_X6_tightest, by decide +kernel, by decide⟩
set_option maxRecDepth 100000 in
theorem cod_X6_ageFor : Cond.code yX6_ageFor cX6_ageFor 7 (some .int) ∈ TG := in5 (i := 176) rfl rfl
set_option maxRecDepth 100000 in
theorem cal_X6_ageFor : CalV yX6_ageFor cX6_ageFor 7 (some .int) 1 := ⟨in5 (i := 174) rfl rfl, in5 (i := 175) rfl rfl, ini_X6, cod_X6_ageFor, by decide +kernel, by decide⟩
set_option maxRecDepth 100000 in
theorem cod_X6_entire : Cond.code yX6_entire cX6_entire 3 (some .int) ∈ TG := in5 (i := 180) rfl rfl
set_option maxRecDepth 100000 in
theorem cal_X6_entire : CalV yX6_entire cX6_entire 3 (some .int) 0 := ⟨in5 (i := 178) rfl rfl, in5 (i := 179) rfl rfl, ini_X6, cod_X6_entire, by decide +kernel, by decide⟩
set_option maxRecDepth 100000 in
theorem cod_X6_bestOf : Cond.code yX6_bestOf cX6_bestOf 7 (some .int) ∈ TG := in5 (i := 184) rfl rfl
set_option maxRecDepth 100000 in
theorem cal_X6_bestOf : CalV yX6_bestOf cX6_bestOf 7 (some .int) 2 := ⟨in5 (i := 182) rfl rfl, in5 (i := 183) rfl rfl, ini_X6, cod_X6_bestOf, by decide +kernel, by decide⟩
set_option maxRecDepth 100000 in
theorem cod_X6_harm : Cond.code yX6_harm cX6_harm 6 (some .int) ∈ TG := in5 (i := 188) rfl rfl
set_option maxRecDepth 100000 in
theorem cal_X6_harm : CalV yX6_harm cX6_harm 6 (some .int) 1 := ⟨in5 (i := 186) rfl rfl, in5 (i := 187) rfl rfl, ini_X6, cod_X6_harm, by decide +kernel, by decide⟩
set_option maxRecDepth 100000 in
theorem cod_X6_pairs : Cond.code yX6_pairs cX6_pairs 5 (some .int) ∈ TG := in5 (i := 193) rfl rfl
set_option maxRecDepth 100000 in
theorem cal_X6_pairs : CalV yX6_pairs cX6_pairs 5 (some .int) 0 := ⟨in5 (i := 191) rfl rfl, in5 (i := 192) rfl rfl, ini_X6, cod_X6_pairs, by decide +kernel, by decide⟩
set_option maxRecDepth 100000 in
theorem cod_X6_sumOf : Cond.code yX6_sumOf cX6_sumOf 4 (some .int) ∈ TG := in5 (i := 197) rfl rfl
set_option maxRecDepth 100000 in
theorem cal_X6_sumOf : CalV yX6_sumOf cX6_sumOf 4 (some .int) 1 := ⟨in5 (i := 195) rfl rfl, in5 (i := 196) rfl rfl, ini_X6, cod_X6_sumOf, by decide +kernel, by decide⟩
set_option maxRecDepth 100000 in
theorem cod_X6_rank : Cond.code yX6_rank cX6_rank 5 (some .int) ∈ TG := in5 (i := 201) rfl rfl
set_option maxRecDepth 100000 in
theorem cal_X6_rank : CalV yX6_rank cX6_rank 5 (some .int) 1 := ⟨in5 (i := 199) rfl rfl, in5 (i := 200) rfl rfl, ini_X6, cod_X6_rank, by decide +kernel, by decide⟩
set_option maxRecDepth 100000 in
theorem cod_X6_doomed : Cond.code yX6_doomed cX6_doomed 4 (some .int) ∈ TG := in5 (i := 205) rfl rfl
set_option maxRecDepth 100000 in
theorem cal_X6_doomed : CalV yX6_doomed cX6_doomed 4 (some .int) 1 := ⟨in5 (i := 203) rfl rfl, in5 (i := 204) rfl rfl, ini_X6, cod_X6_doomed, by decide +kernel, by decide⟩
set_option maxRecDepth 100000 in
theorem cod_X6_mean : Cond.code yX6_mean cX6_mean 2 (some .long) ∈ TG := in5 (i := 209) rfl rfl
set_option maxRecDepth 100000 in
theorem cal_X6_mean : CalV yX6_mean cX6_mean 2 (some .long) 1 := ⟨in5 (i := 207) rfl rfl, in5 (i := 208) rfl rfl, ini_X6, cod_X6_mean, by decide +kernel, by decide⟩
set_option maxRecDepth 100000 in
theorem cod_X6_allAges : Cond.code yX6_allAges cX6_allAges 3 (some .int) ∈ TG := in5 (i := 213) rfl rfl
set_option maxRecDepth 100000 in
theorem cal_X6_allAges : CalV yX6_allAges cX6_allAges 3 (some .int) 0 := ⟨in5 (i := 212) rfl rfl, inP (i := 95) rfl rfl, ini_X6, cod_X6_allAges, by decide +kernel, by decide⟩
set_option maxRecDepth 100000 in
theorem cod_X6_younger : Cond.code yX6_younger cX6_younger 4 (some .int) ∈ TG := in5 (i := 218) rfl rfl
set_option maxRecDepth 100000 in
theorem cal_X6_younger : CalV yX6_younger cX6_younger 4 (some .int) 1 := ⟨in5 (i := 216) rfl rfl, in5 (i := 217) rfl rfl, ini_X6, cod_X6_younger, by decide +kernel, by decide⟩
set_option maxRecDepth 100000 in
theorem cod_X6_unlike : Cond.code yX6_unlike cX6_unlike 5 (some .int) ∈ TG := in5 (i := 222) rfl rfl
set_option maxRecDepth 100000 in
theorem cal_X6_unlike : CalV yX6_unlike cX6_unlike 5 (some .int) 0 := ⟨in5 (i := 220) rfl rfl, in5 (i := 221) rfl rfl, ini_X6, cod_X6_unlike, by decide +kernel, by decide⟩
set_option maxRecDepth 100000 in
theorem cod_X6_row : Cond.code yX6_row cX6_row 2 (some .int) ∈ TG := in5 (i := 226) rfl rfl
set_option maxRecDepth 100000 in
theorem cal_X6_row : CalV yX6_row cX6_row 2 (some .int) 1 := ⟨in5 (i := 224) rfl rfl, in5 (i := 225) rfl rfl, ini_X6, cod_X6_row, by decide +kernel, by decide⟩
set_option maxRecDepth 100000 in
theorem cod_X6_judge : Cond.code yX6_judge cX6_judge 3 (some .int) ∈ TG := in5 (i := 230) rfl rfl
set_option maxRecDepth 100000 in
theorem cal_X6_judge : CalV yX6_judge cX6_judge 3 (some .int) 0 := ⟨in5 (i := 228) rfl rfl, in5 (i := 229) rfl rfl, ini_X6, cod_X6_judge, by decide +kernel, by decide⟩
set_option maxRecDepth 100000 in
theorem cod_X6_clear : Cond.code yX6_clear cX6_clear 2 (some .int) ∈ TG := in5 (i := 234) rfl rfl
set_option maxRecDepth 100000 in
theorem cal_X6_clear : CalV yX6_clear cX6_clear 2 (some .int) 0 := ⟨in5 (i := 232) rfl rfl, in5 (i := 233) rfl rfl, ini_X6, cod_X6_clear, by decide +kernel, by decide⟩
set_option maxRecDepth 100000 in
theorem cod_X6_lots : Cond.code yX6_lots cX6_lots 8 (some .int) ∈ TG := in5 (i := 238) rfl rfl
set_option maxRecDepth 100000 in
theorem cal_X6_lots : CalV yX6_lots cX6_lots 8 (some .int) 3 := ⟨in5 (i := 236) rfl rfl, in5 (i := 237) rfl rfl, ini_X6, cod_X6_lots, by decide +kernel, by decide⟩
set_option maxRecDepth 100000 in
theorem cod_X6_drawBelow : Cond.code yX6_drawBelow cX6_drawBelow 2 (some .int) ∈ TG := in6 (i := 2) rfl rfl
set_option maxRecDepth 100000 in
theorem cal_X6_drawBelow : CalV yX6_drawBelow cX6_drawBelow 2 (some .int) 1 := ⟨in6 (i := 1) rfl rfl, inP (i := 96) rfl rfl, ini_X6, cod_X6_drawBelow, by decide +kernel, by decide⟩
set_option maxRecDepth 100000 in
theorem cod_X6_count : Cond.code yX6_count cX6_count 2 (some .int) ∈ TG := in6 (i := 9) rfl rfl
set_option maxRecDepth 100000 in
theorem cal_X6_count : CalV yX6_count cX6_count 2 (some .int) 1 := ⟨in6 (i := 7) rfl rfl, in6 (i := 8) rfl rfl, ini_X6, cod_X6_count, by decide +kernel, by decide⟩
set_option maxRecDepth 100000 in
theorem sy_1 : Cond.static arraycopyName ∈ TG := in1 (i := 224) rfl rfl
set_option maxRecDepth 100000 in
theorem sy_2 : Cond.initialized "java/lang/System" ∈ TG := in1 (i := 8) rfl rfl
set_option maxRecDepth 100000 in
theorem ms_ini : Cond.initialized "java/lang/Math" ∈ TG := in1 (i := 9) rfl rfl
set_option maxRecDepth 100000 in
theorem sy_0 : Cond.native arraycopyName ∈ TG := in1 (i := 225) rfl rfl
set_option maxRecDepth 100000 in
theorem lay_X0_0 : u_lay RX0 TX0 0 ∈ TG := in1 (i := 35) rfl rfl
set_option maxRecDepth 100000 in
theorem lay_X0_1 : u_lay RX0 TX0 1 ∈ TG := in1 (i := 37) rfl rfl
set_option maxRecDepth 100000 in
theorem lay_X0_2 : u_lay RX0 TX0 2 ∈ TG := in1 (i := 39) rfl rfl
set_option maxRecDepth 100000 in
theorem lay_X0_3 : u_lay RX0 TX0 3 ∈ TG := in1 (i := 41) rfl rfl
set_option maxRecDepth 100000 in
theorem lay_X0_4 : u_lay RX0 TX0 4 ∈ TG := in1 (i := 43) rfl rfl
theorem i_X0 : ∀ w ∈ u_ws RX0 TX0 5, w ∈ TG := by
  intro w hw
  obtain ⟨k, hk, rfl⟩ := List.mem_map.mp hw
  have hk := List.mem_range.mp hk
  match k, hk with
  | 0, _ => exact lay_X0_0
  | 1, _ => exact lay_X0_1
  | 2, _ => exact lay_X0_2
  | 3, _ => exact lay_X0_3
  | 4, _ => exact lay_X0_4
  | k + 5, h => exact absurd h (by omega)
set_option maxRecDepth 100000 in
theorem lay_X1_0 : u_lay RX1 TX1 0 ∈ TG := in1 (i := 92) rfl rfl
set_option maxRecDepth 100000 in
theorem lay_X1_1 : u_lay RX1 TX1 1 ∈ TG := in1 (i := 94) rfl rfl
set_option maxRecDepth 100000 in
theorem lay_X1_2 : u_lay RX1 TX1 2 ∈ TG := in1 (i := 96) rfl rfl
set_option maxRecDepth 100000 in
theorem lay_X1_3 : u_lay RX1 TX1 3 ∈ TG := in1 (i := 98) rfl rfl
theorem i_X1 : ∀ w ∈ u_ws RX1 TX1 4, w ∈ TG := by
  intro w hw
  obtain ⟨k, hk, rfl⟩ := List.mem_map.mp hw
  have hk := List.mem_range.mp hk
  match k, hk with
  | 0, _ => exact lay_X1_0
  | 1, _ => exact lay_X1_1
  | 2, _ => exact lay_X1_2
  | 3, _ => exact lay_X1_3
  | k + 4, h => exact absurd h (by omega)
set_option maxRecDepth 100000 in
theorem lay_X2_0 : u_lay RX2 TX2 0 ∈ TG := in1 (i := 67) rfl rfl
set_option maxRecDepth 100000 in
theorem lay_X2_1 : u_lay RX2 TX2 1 ∈ TG := in1 (i := 69) rfl rfl
set_option maxRecDepth 100000 in
theorem lay_X2_2 : u_lay RX2 TX2 2 ∈ TG := in1 (i := 71) rfl rfl
set_option maxRecDepth 100000 in
theorem lay_X2_3 : u_lay RX2 TX2 3 ∈ TG := in1 (i := 73) rfl rfl
set_option maxRecDepth 100000 in
theorem lay_X2_4 : u_lay RX2 TX2 4 ∈ TG := in1 (i := 75) rfl rfl
theorem i_X2 : ∀ w ∈ u_ws RX2 TX2 5, w ∈ TG := by
  intro w hw
  obtain ⟨k, hk, rfl⟩ := List.mem_map.mp hw
  have hk := List.mem_range.mp hk
  match k, hk with
  | 0, _ => exact lay_X2_0
  | 1, _ => exact lay_X2_1
  | 2, _ => exact lay_X2_2
  | 3, _ => exact lay_X2_3
  | 4, _ => exact lay_X2_4
  | k + 5, h => exact absurd h (by omega)
set_option maxRecDepth 100000 in
theorem lay_X3_0 : u_lay RX3 TX3 0 ∈ TG := in1 (i := 110) rfl rfl
set_option maxRecDepth 100000 in
theorem lay_X3_1 : u_lay RX3 TX3 1 ∈ TG := in1 (i := 112) rfl rfl
theorem i_X3 : ∀ w ∈ u_ws RX3 TX3 2, w ∈ TG := by
  intro w hw
  obtain ⟨k, hk, rfl⟩ := List.mem_map.mp hw
  have hk := List.mem_range.mp hk
  match k, hk with
  | 0, _ => exact lay_X3_0
  | 1, _ => exact lay_X3_1
  | k + 2, h => exact absurd h (by omega)
set_option maxRecDepth 100000 in
theorem lay_X4_0 : u_lay RX4 TX4 0 ∈ TG := in1 (i := 129) rfl rfl
set_option maxRecDepth 100000 in
theorem lay_X4_1 : u_lay RX4 TX4 1 ∈ TG := in1 (i := 131) rfl rfl
set_option maxRecDepth 100000 in
theorem lay_X4_2 : u_lay RX4 TX4 2 ∈ TG := in1 (i := 133) rfl rfl
set_option maxRecDepth 100000 in
theorem lay_X4_3 : u_lay RX4 TX4 3 ∈ TG := in1 (i := 135) rfl rfl
theorem i_X4 : ∀ w ∈ u_ws RX4 TX4 4, w ∈ TG := by
  intro w hw
  obtain ⟨k, hk, rfl⟩ := List.mem_map.mp hw
  have hk := List.mem_range.mp hk
  match k, hk with
  | 0, _ => exact lay_X4_0
  | 1, _ => exact lay_X4_1
  | 2, _ => exact lay_X4_2
  | 3, _ => exact lay_X4_3
  | k + 4, h => exact absurd h (by omega)
set_option maxRecDepth 100000 in
theorem lay_X5_0 : u_lay RX5 TX5 0 ∈ TG := in1 (i := 153) rfl rfl
set_option maxRecDepth 100000 in
theorem lay_X5_1 : u_lay RX5 TX5 1 ∈ TG := in1 (i := 155) rfl rfl
set_option maxRecDepth 100000 in
theorem lay_X5_2 : u_lay RX5 TX5 2 ∈ TG := in1 (i := 157) rfl rfl
set_option maxRecDepth 100000 in
theorem lay_X5_3 : u_lay RX5 TX5 3 ∈ TG := in1 (i := 159) rfl rfl
set_option maxRecDepth 100000 in
theorem lay_X5_4 : u_lay RX5 TX5 4 ∈ TG := in1 (i := 161) rfl rfl
set_option maxRecDepth 100000 in
theorem lay_X5_5 : u_lay RX5 TX5 5 ∈ TG := in1 (i := 163) rfl rfl
set_option maxRecDepth 100000 in
theorem lay_X5_6 : u_lay RX5 TX5 6 ∈ TG := in1 (i := 165) rfl rfl
set_option maxRecDepth 100000 in
theorem lay_X5_7 : u_lay RX5 TX5 7 ∈ TG := in1 (i := 167) rfl rfl
set_option maxRecDepth 100000 in
theorem lay_X5_8 : u_lay RX5 TX5 8 ∈ TG := in1 (i := 169) rfl rfl
set_option maxRecDepth 100000 in
theorem lay_X5_9 : u_lay RX5 TX5 9 ∈ TG := in1 (i := 171) rfl rfl
set_option maxRecDepth 100000 in
theorem lay_X5_10 : u_lay RX5 TX5 10 ∈ TG := in1 (i := 173) rfl rfl
set_option maxRecDepth 100000 in
theorem lay_X5_11 : u_lay RX5 TX5 11 ∈ TG := in1 (i := 175) rfl rfl
set_option maxRecDepth 100000 in
theorem lay_X5_12 : u_lay RX5 TX5 12 ∈ TG := in1 (i := 177) rfl rfl
set_option maxRecDepth 100000 in
theorem lay_X5_13 : u_lay RX5 TX5 13 ∈ TG := in1 (i := 179) rfl rfl
set_option maxRecDepth 100000 in
theorem lay_X5_14 : u_lay RX5 TX5 14 ∈ TG := in1 (i := 181) rfl rfl
theorem i_X5 : ∀ w ∈ u_ws RX5 TX5 15, w ∈ TG := by
  intro w hw
  obtain ⟨k, hk, rfl⟩ := List.mem_map.mp hw
  have hk := List.mem_range.mp hk
  match k, hk with
  | 0, _ => exact lay_X5_0
  | 1, _ => exact lay_X5_1
  | 2, _ => exact lay_X5_2
  | 3, _ => exact lay_X5_3
  | 4, _ => exact lay_X5_4
  | 5, _ => exact lay_X5_5
  | 6, _ => exact lay_X5_6
  | 7, _ => exact lay_X5_7
  | 8, _ => exact lay_X5_8
  | 9, _ => exact lay_X5_9
  | 10, _ => exact lay_X5_10
  | 11, _ => exact lay_X5_11
  | 12, _ => exact lay_X5_12
  | 13, _ => exact lay_X5_13
  | 14, _ => exact lay_X5_14
  | k + 15, h => exact absurd h (by omega)
set_option maxRecDepth 100000 in
theorem lay_X6_0 : u_lay RX6 TX6 0 ∈ TG := in4 (i := 6) rfl rfl
set_option maxRecDepth 100000 in
theorem lay_X6_1 : u_lay RX6 TX6 1 ∈ TG := in4 (i := 8) rfl rfl
set_option maxRecDepth 100000 in
theorem lay_X6_2 : u_lay RX6 TX6 2 ∈ TG := in4 (i := 10) rfl rfl
set_option maxRecDepth 100000 in
theorem lay_X6_3 : u_lay RX6 TX6 3 ∈ TG := in4 (i := 12) rfl rfl
set_option maxRecDepth 100000 in
theorem lay_X6_4 : u_lay RX6 TX6 4 ∈ TG := in4 (i := 14) rfl rfl
set_option maxRecDepth 100000 in
theorem lay_X6_5 : u_lay RX6 TX6 5 ∈ TG := in4 (i := 16) rfl rfl
set_option maxRecDepth 100000 in
theorem lay_X6_6 : u_lay RX6 TX6 6 ∈ TG := in4 (i := 18) rfl rfl
set_option maxRecDepth 100000 in
theorem lay_X6_7 : u_lay RX6 TX6 7 ∈ TG := in4 (i := 20) rfl rfl
set_option maxRecDepth 100000 in
theorem lay_X6_8 : u_lay RX6 TX6 8 ∈ TG := in4 (i := 22) rfl rfl
set_option maxRecDepth 100000 in
theorem lay_X6_9 : u_lay RX6 TX6 9 ∈ TG := in4 (i := 24) rfl rfl
set_option maxRecDepth 100000 in
theorem lay_X6_10 : u_lay RX6 TX6 10 ∈ TG := in4 (i := 26) rfl rfl
set_option maxRecDepth 100000 in
theorem lay_X6_11 : u_lay RX6 TX6 11 ∈ TG := in4 (i := 28) rfl rfl
set_option maxRecDepth 100000 in
theorem lay_X6_12 : u_lay RX6 TX6 12 ∈ TG := in4 (i := 30) rfl rfl
set_option maxRecDepth 100000 in
theorem lay_X6_13 : u_lay RX6 TX6 13 ∈ TG := in4 (i := 32) rfl rfl
set_option maxRecDepth 100000 in
theorem lay_X6_14 : u_lay RX6 TX6 14 ∈ TG := in4 (i := 34) rfl rfl
set_option maxRecDepth 100000 in
theorem lay_X6_15 : u_lay RX6 TX6 15 ∈ TG := in4 (i := 36) rfl rfl
set_option maxRecDepth 100000 in
theorem lay_X6_16 : u_lay RX6 TX6 16 ∈ TG := in4 (i := 38) rfl rfl
set_option maxRecDepth 100000 in
theorem lay_X6_17 : u_lay RX6 TX6 17 ∈ TG := in4 (i := 40) rfl rfl
set_option maxRecDepth 100000 in
theorem lay_X6_18 : u_lay RX6 TX6 18 ∈ TG := in4 (i := 42) rfl rfl
set_option maxRecDepth 100000 in
theorem lay_X6_19 : u_lay RX6 TX6 19 ∈ TG := in4 (i := 44) rfl rfl
set_option maxRecDepth 100000 in
theorem lay_X6_20 : u_lay RX6 TX6 20 ∈ TG := in4 (i := 46) rfl rfl
set_option maxRecDepth 100000 in
theorem lay_X6_21 : u_lay RX6 TX6 21 ∈ TG := in4 (i := 48) rfl rfl
set_option maxRecDepth 100000 in
theorem lay_X6_22 : u_lay RX6 TX6 22 ∈ TG := in4 (i := 50) rfl rfl
set_option maxRecDepth 100000 in
theorem lay_X6_23 : u_lay RX6 TX6 23 ∈ TG := in4 (i := 52) rfl rfl
set_option maxRecDepth 100000 in
theorem lay_X6_24 : u_lay RX6 TX6 24 ∈ TG := in4 (i := 54) rfl rfl
set_option maxRecDepth 100000 in
theorem lay_X6_25 : u_lay RX6 TX6 25 ∈ TG := in4 (i := 56) rfl rfl
set_option maxRecDepth 100000 in
theorem lay_X6_26 : u_lay RX6 TX6 26 ∈ TG := in4 (i := 58) rfl rfl
set_option maxRecDepth 100000 in
theorem lay_X6_27 : u_lay RX6 TX6 27 ∈ TG := in4 (i := 60) rfl rfl
set_option maxRecDepth 100000 in
theorem lay_X6_28 : u_lay RX6 TX6 28 ∈ TG := in4 (i := 62) rfl rfl
set_option maxRecDepth 100000 in
theorem lay_X6_29 : u_lay RX6 TX6 29 ∈ TG := in4 (i := 64) rfl rfl
set_option maxRecDepth 100000 in
theorem lay_X6_30 : u_lay RX6 TX6 30 ∈ TG := in4 (i := 66) rfl rfl
set_option maxRecDepth 100000 in
theorem lay_X6_31 : u_lay RX6 TX6 31 ∈ TG := in4 (i := 68) rfl rfl
set_option maxRecDepth 100000 in
theorem lay_X6_32 : u_lay RX6 TX6 32 ∈ TG := in4 (i := 70) rfl rfl
set_option maxRecDepth 100000 in
theorem lay_X6_33 : u_lay RX6 TX6 33 ∈ TG := in4 (i := 72) rfl rfl
set_option maxRecDepth 100000 in
theorem lay_X6_34 : u_lay RX6 TX6 34 ∈ TG := in4 (i := 74) rfl rfl
set_option maxRecDepth 100000 in
theorem lay_X6_35 : u_lay RX6 TX6 35 ∈ TG := in4 (i := 76) rfl rfl
set_option maxRecDepth 100000 in
theorem lay_X6_36 : u_lay RX6 TX6 36 ∈ TG := in4 (i := 78) rfl rfl
set_option maxRecDepth 100000 in
theorem lay_X6_37 : u_lay RX6 TX6 37 ∈ TG := in4 (i := 80) rfl rfl
set_option maxRecDepth 100000 in
theorem lay_X6_38 : u_lay RX6 TX6 38 ∈ TG := in4 (i := 82) rfl rfl
set_option maxRecDepth 100000 in
theorem lay_X6_39 : u_lay RX6 TX6 39 ∈ TG := in4 (i := 84) rfl rfl
set_option maxRecDepth 100000 in
theorem lay_X6_40 : u_lay RX6 TX6 40 ∈ TG := in4 (i := 86) rfl rfl
set_option maxRecDepth 100000 in
theorem lay_X6_41 : u_lay RX6 TX6 41 ∈ TG := in4 (i := 88) rfl rfl
set_option maxRecDepth 100000 in
theorem lay_X6_42 : u_lay RX6 TX6 42 ∈ TG := in4 (i := 90) rfl rfl
theorem i_X6 : ∀ w ∈ u_ws RX6 TX6 43, w ∈ TG := by
  intro w hw
  obtain ⟨k, hk, rfl⟩ := List.mem_map.mp hw
  have hk := List.mem_range.mp hk
  match k, hk with
  | 0, _ => exact lay_X6_0
  | 1, _ => exact lay_X6_1
  | 2, _ => exact lay_X6_2
  | 3, _ => exact lay_X6_3
  | 4, _ => exact lay_X6_4
  | 5, _ => exact lay_X6_5
  | 6, _ => exact lay_X6_6
  | 7, _ => exact lay_X6_7
  | 8, _ => exact lay_X6_8
  | 9, _ => exact lay_X6_9
  | 10, _ => exact lay_X6_10
  | 11, _ => exact lay_X6_11
  | 12, _ => exact lay_X6_12
  | 13, _ => exact lay_X6_13
  | 14, _ => exact lay_X6_14
  | 15, _ => exact lay_X6_15
  | 16, _ => exact lay_X6_16
  | 17, _ => exact lay_X6_17
  | 18, _ => exact lay_X6_18
  | 19, _ => exact lay_X6_19
  | 20, _ => exact lay_X6_20
  | 21, _ => exact lay_X6_21
  | 22, _ => exact lay_X6_22
  | 23, _ => exact lay_X6_23
  | 24, _ => exact lay_X6_24
  | 25, _ => exact lay_X6_25
  | 26, _ => exact lay_X6_26
  | 27, _ => exact lay_X6_27
  | 28, _ => exact lay_X6_28
  | 29, _ => exact lay_X6_29
  | 30, _ => exact lay_X6_30
  | 31, _ => exact lay_X6_31
  | 32, _ => exact lay_X6_32
  | 33, _ => exact lay_X6_33
  | 34, _ => exact lay_X6_34
  | 35, _ => exact lay_X6_35
  | 36, _ => exact lay_X6_36
  | 37, _ => exact lay_X6_37
  | 38, _ => exact lay_X6_38
  | 39, _ => exact lay_X6_39
  | 40, _ => exact lay_X6_40
  | 41, _ => exact lay_X6_41
  | 42, _ => exact lay_X6_42
  | k + 43, h => exact absurd h (by omega)
