def mS (M : MS) : Sx := (cl M, (M 6, M 7, M 8, M 5 0, M 9))
def lyS (M : MS) (s : Sx) : MS := mA (mA (mA (mA (mA (stC M s.1) 5 (fun _ => pn s.2)) 6 (pk s.2)) 7 (pf s.2)) 8 (pa s.2)) 9 (pu s.2)
theorem ly_c {κ : Kp} {ma : Nat → Nat} {L : Int → Int} {n p : Int} {M : MS} (h : lt L n p = 99) : mw κ ma (stC M (fil (cl M) (num L n (p + 1) 2) (num L n (p + 3) 2) (num L n (p + 5) 1) (num L n (p + 6) 1) (num L n (p + 7) 2))) = mw κ ma (lyS M (apS L n p (mS M))) := by
  have e1 : apC L n p (mS M) = fil (cl M) (num L n (p + 1) 2) (num L n (p + 3) 2) (num L n (p + 5) 1) (num L n (p + 6) 1) (num L n (p + 7) 2) := if_pos h
  have e2 : apR L n p (mS M) = (M 6, M 7, M 8, M 5 0, M 9) := (if_neg (by omega)).trans (if_neg (by omega))
  unfold apS
  rw [e1, e2]
  rfl
theorem ly_r {κ : Kp} {ma : Nat → Nat} {L : Int → Int} {n p : Int} {M : MS} (h : lt L n p = 114) : mw κ ma (mA (mA (mA (mA (mA M 6 (uI (M 6) (M 5 0) (num L n (p + 1) 1))) 7 (uI (M 7) (M 5 0) (num L n (p + 2) 1))) 8 (uI (M 8) (M 5 0) (num L n (p + 3) 2))) 9 (uI (M 9) (M 5 0) 0)) 5 (fun _ => M 5 0 + 1)) = mw κ ma (lyS M (apS L n p (mS M))) := by
  have e1 : apC L n p (mS M) = cl M := (if_neg (by omega)).trans (if_pos h)
  have e2 : apR L n p (mS M) = (uI (M 6) (M 5 0) (num L n (p + 1) 1), uI (M 7) (M 5 0) (num L n (p + 2) 1), uI (M 8) (M 5 0) (num L n (p + 3) 2), M 5 0 + 1, uI (M 9) (M 5 0) 0) := if_pos h
  unfold apS
  rw [e1, e2]
  rfl
theorem ly_p {κ : Kp} {ma : Nat → Nat} {L : Int → Int} {n p : Int} {M : MS} (h : lt L n p = 112) : mw κ ma (mA (stC M (make (cl M) (num L n (p + 2) 2) (M 6 (num L n (p + 1) 1)) (M 7 (num L n (p + 1) 1)) (M 8 (num L n (p + 1) 1)))) 9 (uI (M 9) (num L n (p + 1) 1) 1)) = mw κ ma (lyS M (apS L n p (mS M))) := by
  have e1 : apC L n p (mS M) = make (cl M) (num L n (p + 2) 2) (M 6 (num L n (p + 1) 1)) (M 7 (num L n (p + 1) 1)) (M 8 (num L n (p + 1) 1)) := (if_neg (by omega)).trans ((if_neg (by omega)).trans (if_pos h))
  have e2 : apR L n p (mS M) = (M 6, M 7, M 8, M 5 0, uI (M 9) (num L n (p + 1) 1) 1) := (if_neg (by omega)).trans (if_pos h)
  unfold apS
  rw [e1, e2]
  rfl
theorem ly_w {κ : Kp} {ma : Nat → Nat} {L : Int → Int} {n p : Int} {M : MS} (h : lt L n p = 119) : mw κ ma (mA M 3 (uI (M 3) (num L n (p + 1) 2) (num L n (p + 3) 2))) = mw κ ma (lyS M (apS L n p (mS M))) := by
  have e1 : apC L n p (mS M) = (M 0, M 1, M 2, uI (M 3) (num L n (p + 1) 2) (num L n (p + 3) 2), M 4 0) := (if_neg (by omega)).trans ((if_neg (by omega)).trans ((if_neg (by omega)).trans (if_pos h)))
  have e2 : apR L n p (mS M) = (M 6, M 7, M 8, M 5 0, M 9) := (if_neg (by omega)).trans (if_neg (by omega))
  unfold apS
  rw [e1, e2]
  rfl
theorem ly_y {κ : Kp} {ma : Nat → Nat} {L : Int → Int} {n p : Int} {M : MS} (h : lt L n p = 121) : mw κ ma (stC M (goI (num L n (p + 1) 2) (cl M))) = mw κ ma (lyS M (apS L n p (mS M))) := by
  have e1 : apC L n p (mS M) = goI (num L n (p + 1) 2) (cl M) := (if_neg (by omega)).trans ((if_neg (by omega)).trans ((if_neg (by omega)).trans (if_neg (by omega))))
  have e2 : apR L n p (mS M) = (M 6, M 7, M 8, M 5 0, M 9) := (if_neg (by omega)).trans (if_neg (by omega))
  unfold apS
  rw [e1, e2]
  rfl
theorem ly_t {κ : Kp} {ma : Nat → Nat} {L : Int → Int} {n p : Int} {M Y : MS} (hc : okS L n p (mS M)) (hw : mw κ ma Y = mw κ ma (lyS M (apS L n p (mS M)))) : iI 1 = iI (b2i (okB L n p (mS M) = true)) ∧ mw κ ma Y = mw κ ma (if okB L n p (mS M) = true then lyS M (apS L n p (mS M)) else M) := by
  have h := (okB_S L n p (mS M)).mpr hc
  exact ⟨b2i_1 h, by rw [if_pos h]; exact hw⟩
theorem ly_f {κ : Kp} {ma : Nat → Nat} {L : Int → Int} {n p : Int} {M : MS} (hc : ¬ okS L n p (mS M)) : iI 0 = iI (b2i (okB L n p (mS M) = true)) ∧ mw κ ma M = mw κ ma (if okB L n p (mS M) = true then lyS M (apS L n p (mS M)) else M) := by
  have h : ¬ okB L n p (mS M) = true := fun z => hc ((okB_S L n p (mS M)).mp z)
  exact ⟨b2i_0 h, by rw [if_neg h]⟩
theorem ly_f2 {κ : Kp} {ma : Nat → Nat} {L : Int → Int} {n p : Int} {M Y : MS} (hc : ¬ okS L n p (mS M)) (hw : mw κ ma Y = mw κ ma M) : iI 0 = iI (b2i (okB L n p (mS M) = true)) ∧ mw κ ma Y = mw κ ma (if okB L n p (mS M) = true then lyS M (apS L n p (mS M)) else M) := by
  have h : ¬ okB L n p (mS M) = true := fun z => hc ((okB_S L n p (mS M)).mp z)
  exact ⟨b2i_0 h, by rw [if_neg h]; exact hw⟩
theorem dX6_comesTold_0 : decode cX6_comesTold 0 = .ok (.iconst 5, 1) := by decide +kernel
theorem dX6_comesTold_1 : decode cX6_comesTold 1 = .ok (.iload_n 1, 1) := by decide +kernel
theorem dX6_comesTold_2 : decode cX6_comesTold 2 = .ok (.imul, 1) := by decide +kernel
theorem dX6_comesTold_3 : decode cX6_comesTold 3 = .ok (.istore_n 2, 1) := by decide +kernel
theorem dX6_comesTold_4 : decode cX6_comesTold 4 = .ok (.aload_n 0, 1) := by decide +kernel
theorem dX6_comesTold_5 : decode cX6_comesTold 5 = .ok (.getfield 46, 3) := by decide +kernel
theorem dX6_comesTold_8 : decode cX6_comesTold 8 = .ok (.iload_n 2, 1) := by decide +kernel
theorem dX6_comesTold_9 : decode cX6_comesTold 9 = .ok (.iaload, 1) := by decide +kernel
theorem dX6_comesTold_10 : decode cX6_comesTold 10 = .ok (.istore_n 3, 1) := by decide +kernel
theorem dX6_comesTold_11 : decode cX6_comesTold 11 = .ok (.aload_n 0, 1) := by decide +kernel
theorem dX6_comesTold_12 : decode cX6_comesTold 12 = .ok (.getfield 46, 3) := by decide +kernel
theorem dX6_comesTold_15 : decode cX6_comesTold 15 = .ok (.iload_n 2, 1) := by decide +kernel
theorem dX6_comesTold_16 : decode cX6_comesTold 16 = .ok (.iconst 1, 1) := by decide +kernel
theorem dX6_comesTold_17 : decode cX6_comesTold 17 = .ok (.iadd, 1) := by decide +kernel
theorem dX6_comesTold_18 : decode cX6_comesTold 18 = .ok (.iaload, 1) := by decide +kernel
theorem dX6_comesTold_19 : decode cX6_comesTold 19 = .ok (.istore 4, 2) := by decide +kernel
theorem dX6_comesTold_21 : decode cX6_comesTold 21 = .ok (.iconst 1, 1) := by decide +kernel
theorem dX6_comesTold_22 : decode cX6_comesTold 22 = .ok (.istore 5, 2) := by decide +kernel
theorem dX6_comesTold_24 : decode cX6_comesTold 24 = .ok (.aload_n 0, 1) := by decide +kernel
theorem dX6_comesTold_25 : decode cX6_comesTold 25 = .ok (.getfield 43, 3) := by decide +kernel
theorem dX6_comesTold_28 : decode cX6_comesTold 28 = .ok (.iload_n 1, 1) := by decide +kernel
theorem dX6_comesTold_29 : decode cX6_comesTold 29 = .ok (.iaload, 1) := by decide +kernel
theorem dX6_comesTold_30 : decode cX6_comesTold 30 = .ok (.lookupswitch 249 #[(99, 42), (112, 174), (114, 129), (119, 220)], 42) := by decide +kernel
theorem dX6_comesTold_72 : decode cX6_comesTold 72 = .ok (.iload_n 3, 1) := by decide +kernel
theorem dX6_comesTold_73 : decode cX6_comesTold 73 = .ok (.iload 4, 2) := by decide +kernel
theorem dX6_comesTold_75 : decode cX6_comesTold 75 = .ok (.if_icmp .gt 27, 3) := by decide +kernel
theorem dX6_comesTold_78 : decode cX6_comesTold 78 = .ok (.iload 4, 2) := by decide +kernel
theorem dX6_comesTold_80 : decode cX6_comesTold 80 = .ok (.bipush 12, 2) := by decide +kernel
theorem dX6_comesTold_82 : decode cX6_comesTold 82 = .ok (.if_icmp .ge 20, 3) := by decide +kernel
theorem dX6_comesTold_85 : decode cX6_comesTold 85 = .ok (.aload_n 0, 1) := by decide +kernel
theorem dX6_comesTold_86 : decode cX6_comesTold 86 = .ok (.getfield 46, 3) := by decide +kernel
theorem dX6_comesTold_89 : decode cX6_comesTold 89 = .ok (.iload_n 2, 1) := by decide +kernel
theorem dX6_comesTold_90 : decode cX6_comesTold 90 = .ok (.iconst 2, 1) := by decide +kernel
theorem dX6_comesTold_91 : decode cX6_comesTold 91 = .ok (.iadd, 1) := by decide +kernel
theorem dX6_comesTold_92 : decode cX6_comesTold 92 = .ok (.iaload, 1) := by decide +kernel
theorem dX6_comesTold_93 : decode cX6_comesTold 93 = .ok (.bipush 6, 2) := by decide +kernel
theorem dX6_comesTold_95 : decode cX6_comesTold 95 = .ok (.if_icmp .ge 7, 3) := by decide +kernel
theorem dX6_comesTold_98 : decode cX6_comesTold 98 = .ok (.iconst 1, 1) := by decide +kernel
theorem dX6_comesTold_99 : decode cX6_comesTold 99 = .ok (.goto 4, 3) := by decide +kernel
theorem dX6_comesTold_102 : decode cX6_comesTold 102 = .ok (.iconst 0, 1) := by decide +kernel
theorem dX6_comesTold_103 : decode cX6_comesTold 103 = .ok (.istore 5, 2) := by decide +kernel
theorem dX6_comesTold_105 : decode cX6_comesTold 105 = .ok (.iload_n 3, 1) := by decide +kernel
theorem dX6_comesTold_106 : decode cX6_comesTold 106 = .ok (.istore 6, 2) := by decide +kernel
theorem dX6_comesTold_108 : decode cX6_comesTold 108 = .ok (.iload 6, 2) := by decide +kernel
theorem dX6_comesTold_110 : decode cX6_comesTold 110 = .ok (.iload 4, 2) := by decide +kernel
theorem dX6_comesTold_112 : decode cX6_comesTold 112 = .ok (.if_icmp .gt 44, 3) := by decide +kernel
theorem dX6_comesTold_115 : decode cX6_comesTold 115 = .ok (.iload 5, 2) := by decide +kernel
theorem dX6_comesTold_117 : decode cX6_comesTold 117 = .ok (.ifCond .eq 39, 3) := by decide +kernel
theorem dX6_comesTold_120 : decode cX6_comesTold 120 = .ok (.aload_n 0, 1) := by decide +kernel
theorem dX6_comesTold_121 : decode cX6_comesTold 121 = .ok (.iload 6, 2) := by decide +kernel
theorem dX6_comesTold_123 : decode cX6_comesTold 123 = .ok (.aload_n 0, 1) := by decide +kernel
theorem dX6_comesTold_124 : decode cX6_comesTold 124 = .ok (.getfield 46, 3) := by decide +kernel
theorem dX6_comesTold_127 : decode cX6_comesTold 127 = .ok (.iload_n 2, 1) := by decide +kernel
theorem dX6_comesTold_128 : decode cX6_comesTold 128 = .ok (.iconst 2, 1) := by decide +kernel
theorem dX6_comesTold_129 : decode cX6_comesTold 129 = .ok (.iadd, 1) := by decide +kernel
theorem dX6_comesTold_130 : decode cX6_comesTold 130 = .ok (.iaload, 1) := by decide +kernel
theorem dX6_comesTold_131 : decode cX6_comesTold 131 = .ok (.aload_n 0, 1) := by decide +kernel
theorem dX6_comesTold_132 : decode cX6_comesTold 132 = .ok (.getfield 46, 3) := by decide +kernel
theorem dX6_comesTold_135 : decode cX6_comesTold 135 = .ok (.iload_n 2, 1) := by decide +kernel
theorem dX6_comesTold_136 : decode cX6_comesTold 136 = .ok (.iconst 3, 1) := by decide +kernel
theorem dX6_comesTold_137 : decode cX6_comesTold 137 = .ok (.iadd, 1) := by decide +kernel
theorem dX6_comesTold_138 : decode cX6_comesTold 138 = .ok (.iaload, 1) := by decide +kernel
theorem dX6_comesTold_139 : decode cX6_comesTold 139 = .ok (.aload_n 0, 1) := by decide +kernel
theorem dX6_comesTold_140 : decode cX6_comesTold 140 = .ok (.getfield 46, 3) := by decide +kernel
theorem dX6_comesTold_143 : decode cX6_comesTold 143 = .ok (.iload_n 2, 1) := by decide +kernel
theorem dX6_comesTold_144 : decode cX6_comesTold 144 = .ok (.iconst 4, 1) := by decide +kernel
theorem dX6_comesTold_145 : decode cX6_comesTold 145 = .ok (.iadd, 1) := by decide +kernel
theorem dX6_comesTold_146 : decode cX6_comesTold 146 = .ok (.iaload, 1) := by decide +kernel
theorem dX6_comesTold_147 : decode cX6_comesTold 147 = .ok (.invokevirtual 134, 3) := by decide +kernel
theorem dX6_comesTold_150 : decode cX6_comesTold 150 = .ok (.iinc 6 1, 3) := by decide +kernel
theorem dX6_comesTold_153 : decode cX6_comesTold 153 = .ok (.goto (-45), 3) := by decide +kernel
theorem dX6_comesTold_156 : decode cX6_comesTold 156 = .ok (.iload 5, 2) := by decide +kernel
theorem dX6_comesTold_158 : decode cX6_comesTold 158 = .ok (.ireturn, 1) := by decide +kernel
theorem dX6_comesTold_159 : decode cX6_comesTold 159 = .ok (.iload_n 3, 1) := by decide +kernel
theorem dX6_comesTold_160 : decode cX6_comesTold 160 = .ok (.bipush 6, 2) := by decide +kernel
theorem dX6_comesTold_162 : decode cX6_comesTold 162 = .ok (.if_icmp .ge 16, 3) := by decide +kernel
theorem dX6_comesTold_165 : decode cX6_comesTold 165 = .ok (.aload_n 0, 1) := by decide +kernel
theorem dX6_comesTold_166 : decode cX6_comesTold 166 = .ok (.getfield 101, 3) := by decide +kernel
theorem dX6_comesTold_169 : decode cX6_comesTold 169 = .ok (.bipush 6, 2) := by decide +kernel
theorem dX6_comesTold_171 : decode cX6_comesTold 171 = .ok (.if_icmp .ge 7, 3) := by decide +kernel
theorem dX6_comesTold_174 : decode cX6_comesTold 174 = .ok (.iconst 1, 1) := by decide +kernel
theorem dX6_comesTold_175 : decode cX6_comesTold 175 = .ok (.goto 4, 3) := by decide +kernel
theorem dX6_comesTold_178 : decode cX6_comesTold 178 = .ok (.iconst 0, 1) := by decide +kernel
theorem dX6_comesTold_179 : decode cX6_comesTold 179 = .ok (.istore 5, 2) := by decide +kernel
theorem dX6_comesTold_181 : decode cX6_comesTold 181 = .ok (.iload 5, 2) := by decide +kernel
theorem dX6_comesTold_183 : decode cX6_comesTold 183 = .ok (.ifCond .eq 18, 3) := by decide +kernel
theorem dX6_comesTold_186 : decode cX6_comesTold 186 = .ok (.aload_n 0, 1) := by decide +kernel
theorem dX6_comesTold_187 : decode cX6_comesTold 187 = .ok (.iload_n 3, 1) := by decide +kernel
theorem dX6_comesTold_188 : decode cX6_comesTold 188 = .ok (.iload 4, 2) := by decide +kernel
theorem dX6_comesTold_190 : decode cX6_comesTold 190 = .ok (.aload_n 0, 1) := by decide +kernel
theorem dX6_comesTold_191 : decode cX6_comesTold 191 = .ok (.getfield 46, 3) := by decide +kernel
theorem dX6_comesTold_194 : decode cX6_comesTold 194 = .ok (.iload_n 2, 1) := by decide +kernel
theorem dX6_comesTold_195 : decode cX6_comesTold 195 = .ok (.iconst 2, 1) := by decide +kernel
theorem dX6_comesTold_196 : decode cX6_comesTold 196 = .ok (.iadd, 1) := by decide +kernel
theorem dX6_comesTold_197 : decode cX6_comesTold 197 = .ok (.iaload, 1) := by decide +kernel
theorem dX6_comesTold_198 : decode cX6_comesTold 198 = .ok (.invokevirtual 172, 3) := by decide +kernel
theorem dX6_comesTold_201 : decode cX6_comesTold 201 = .ok (.iload 5, 2) := by decide +kernel
theorem dX6_comesTold_203 : decode cX6_comesTold 203 = .ok (.ireturn, 1) := by decide +kernel
theorem dX6_comesTold_204 : decode cX6_comesTold 204 = .ok (.aload_n 0, 1) := by decide +kernel
theorem dX6_comesTold_205 : decode cX6_comesTold 205 = .ok (.iload_n 3, 1) := by decide +kernel
theorem dX6_comesTold_206 : decode cX6_comesTold 206 = .ok (.invokevirtual 176, 3) := by decide +kernel
theorem dX6_comesTold_209 : decode cX6_comesTold 209 = .ok (.ifCond .eq 23, 3) := by decide +kernel
theorem dX6_comesTold_212 : decode cX6_comesTold 212 = .ok (.aload_n 0, 1) := by decide +kernel
theorem dX6_comesTold_213 : decode cX6_comesTold 213 = .ok (.getfield 31, 3) := by decide +kernel
theorem dX6_comesTold_216 : decode cX6_comesTold 216 = .ok (.iload_n 3, 1) := by decide +kernel
theorem dX6_comesTold_217 : decode cX6_comesTold 217 = .ok (.iaload, 1) := by decide +kernel
theorem dX6_comesTold_218 : decode cX6_comesTold 218 = .ok (.ifCond .ne 14, 3) := by decide +kernel
theorem dX6_comesTold_221 : decode cX6_comesTold 221 = .ok (.iload 4, 2) := by decide +kernel
theorem dX6_comesTold_223 : decode cX6_comesTold 223 = .ok (.bipush 12, 2) := by decide +kernel
theorem dX6_comesTold_225 : decode cX6_comesTold 225 = .ok (.if_icmp .ge 7, 3) := by decide +kernel
theorem dX6_comesTold_228 : decode cX6_comesTold 228 = .ok (.iconst 1, 1) := by decide +kernel
theorem dX6_comesTold_229 : decode cX6_comesTold 229 = .ok (.goto 4, 3) := by decide +kernel
theorem dX6_comesTold_232 : decode cX6_comesTold 232 = .ok (.iconst 0, 1) := by decide +kernel
theorem dX6_comesTold_233 : decode cX6_comesTold 233 = .ok (.istore 5, 2) := by decide +kernel
theorem dX6_comesTold_235 : decode cX6_comesTold 235 = .ok (.iload 5, 2) := by decide +kernel
theorem dX6_comesTold_237 : decode cX6_comesTold 237 = .ok (.ifCond .eq 10, 3) := by decide +kernel
theorem dX6_comesTold_240 : decode cX6_comesTold 240 = .ok (.aload_n 0, 1) := by decide +kernel
theorem dX6_comesTold_241 : decode cX6_comesTold 241 = .ok (.iload_n 3, 1) := by decide +kernel
theorem dX6_comesTold_242 : decode cX6_comesTold 242 = .ok (.iload 4, 2) := by decide +kernel
theorem dX6_comesTold_244 : decode cX6_comesTold 244 = .ok (.invokevirtual 179, 3) := by decide +kernel
theorem dX6_comesTold_247 : decode cX6_comesTold 247 = .ok (.iload 5, 2) := by decide +kernel
theorem dX6_comesTold_249 : decode cX6_comesTold 249 = .ok (.ireturn, 1) := by decide +kernel
theorem dX6_comesTold_250 : decode cX6_comesTold 250 = .ok (.iload_n 3, 1) := by decide +kernel
theorem dX6_comesTold_251 : decode cX6_comesTold 251 = .ok (.bipush 12, 2) := by decide +kernel
theorem dX6_comesTold_253 : decode cX6_comesTold 253 = .ok (.if_icmp .ge 7, 3) := by decide +kernel
theorem dX6_comesTold_256 : decode cX6_comesTold 256 = .ok (.iconst 1, 1) := by decide +kernel
theorem dX6_comesTold_257 : decode cX6_comesTold 257 = .ok (.goto 4, 3) := by decide +kernel
theorem dX6_comesTold_260 : decode cX6_comesTold 260 = .ok (.iconst 0, 1) := by decide +kernel
theorem dX6_comesTold_261 : decode cX6_comesTold 261 = .ok (.istore 5, 2) := by decide +kernel
theorem dX6_comesTold_263 : decode cX6_comesTold 263 = .ok (.iload 5, 2) := by decide +kernel
theorem dX6_comesTold_265 : decode cX6_comesTold 265 = .ok (.ifCond .eq 11, 3) := by decide +kernel
theorem dX6_comesTold_268 : decode cX6_comesTold 268 = .ok (.aload_n 0, 1) := by decide +kernel
theorem dX6_comesTold_269 : decode cX6_comesTold 269 = .ok (.getfield 19, 3) := by decide +kernel
theorem dX6_comesTold_272 : decode cX6_comesTold 272 = .ok (.iload_n 3, 1) := by decide +kernel
theorem dX6_comesTold_273 : decode cX6_comesTold 273 = .ok (.iload 4, 2) := by decide +kernel
theorem dX6_comesTold_275 : decode cX6_comesTold 275 = .ok (.iastore, 1) := by decide +kernel
theorem dX6_comesTold_276 : decode cX6_comesTold 276 = .ok (.iload 5, 2) := by decide +kernel
theorem dX6_comesTold_278 : decode cX6_comesTold 278 = .ok (.ireturn, 1) := by decide +kernel
theorem dX6_comesTold_279 : decode cX6_comesTold 279 = .ok (.iload_n 3, 1) := by decide +kernel
theorem dX6_comesTold_280 : decode cX6_comesTold 280 = .ok (.i2l, 1) := by decide +kernel
theorem dX6_comesTold_281 : decode cX6_comesTold 281 = .ok (.lconst 1, 1) := by decide +kernel
theorem dX6_comesTold_282 : decode cX6_comesTold 282 = .ok (.ldc2_w 182, 3) := by decide +kernel
theorem dX6_comesTold_285 : decode cX6_comesTold 285 = .ok (.invokestatic 97, 3) := by decide +kernel
theorem dX6_comesTold_288 : decode cX6_comesTold 288 = .ok (.ifCond .eq 19, 3) := by decide +kernel
theorem dX6_comesTold_291 : decode cX6_comesTold 291 = .ok (.aload_n 0, 1) := by decide +kernel
theorem dX6_comesTold_292 : decode cX6_comesTold 292 = .ok (.getfield 125, 3) := by decide +kernel
theorem dX6_comesTold_295 : decode cX6_comesTold 295 = .ok (.iload_n 3, 1) := by decide +kernel
theorem dX6_comesTold_296 : decode cX6_comesTold 296 = .ok (.iadd, 1) := by decide +kernel
theorem dX6_comesTold_297 : decode cX6_comesTold 297 = .ok (.sipush 999, 3) := by decide +kernel
theorem dX6_comesTold_300 : decode cX6_comesTold 300 = .ok (.if_icmp .gt 7, 3) := by decide +kernel
theorem dX6_comesTold_303 : decode cX6_comesTold 303 = .ok (.iconst 1, 1) := by decide +kernel
theorem dX6_comesTold_304 : decode cX6_comesTold 304 = .ok (.goto 4, 3) := by decide +kernel
theorem dX6_comesTold_307 : decode cX6_comesTold 307 = .ok (.iconst 0, 1) := by decide +kernel
theorem dX6_comesTold_308 : decode cX6_comesTold 308 = .ok (.istore 5, 2) := by decide +kernel
theorem dX6_comesTold_310 : decode cX6_comesTold 310 = .ok (.iload 5, 2) := by decide +kernel
theorem dX6_comesTold_312 : decode cX6_comesTold 312 = .ok (.ifCond .eq 8, 3) := by decide +kernel
theorem dX6_comesTold_315 : decode cX6_comesTold 315 = .ok (.aload_n 0, 1) := by decide +kernel
theorem dX6_comesTold_316 : decode cX6_comesTold 316 = .ok (.iload_n 3, 1) := by decide +kernel
theorem dX6_comesTold_317 : decode cX6_comesTold 317 = .ok (.invokevirtual 184, 3) := by decide +kernel
theorem dX6_comesTold_320 : decode cX6_comesTold 320 = .ok (.iload 5, 2) := by decide +kernel
theorem dX6_comesTold_322 : decode cX6_comesTold 322 = .ok (.ireturn, 1) := by decide +kernel
set_option maxRecDepth 100000 in
set_option maxHeartbeats 4000000 in
theorem k_X6_comesTold (κ : Kp) (ma : Nat → Nat) (M : MS) (L : Int → Int) (n p k : Int) (hc : M 18 k = lt L n p) (ht : tdF L n (p + 1) (lt L n p) (fun j => M 19 (5 * k + j))) (hf : stF L n p = -1) (hp : 0 ≤ p) (hk : 0 ≤ k ∧ k ≤ 47) (okt : okT (mS M)) (hbl : -1 ≤ lt L n p ∧ lt L n p ≤ 255) : mI κ yX6_comesTold cX6_comesTold 7 .boolean 5 [.ref (ma 100), .int (iI k)] (mw κ ma M) (is1 (iI (b2i (okB L n p (mS M) = true))) (mw κ ma (if okB L n p (mS M) = true then lyS M (apS L n p (mS M)) else M))) := by
  refine mI_of (by decide) (Nat.le_of_ble_eq_true rfl) (fun E F K => ?_)
  refine g_lv (lv' := [(0, .ref (ma 100)), (1, .int (iI k))]) rfl ?_
  have hnb := nbs_ok hf hp
  have hl := sz_let (stF_ok hf hp).1
  have okc : okC (cl M) := okt.1
  have hyr : M 4 0 ≤ 999 := okt.2.1
  have hy0 : 0 ≤ M 4 0 := okc.2
  have hnn : 0 ≤ M 5 0 ∧ M 5 0 ≤ 6 := okt.2.2.1
  obtain ⟨t0, ht0⟩ : ∃ t : Int, t = M 19 (5 * k) := ⟨_, rfl⟩
  obtain ⟨t1, ht1⟩ : ∃ t : Int, t = M 19 (5 * k + 1) := ⟨_, rfl⟩
  obtain ⟨t2, ht2⟩ : ∃ t : Int, t = M 19 (5 * k + 2) := ⟨_, rfl⟩
  obtain ⟨t3, ht3⟩ : ∃ t : Int, t = M 19 (5 * k + 3) := ⟨_, rfl⟩
  obtain ⟨t4, ht4⟩ : ∃ t : Int, t = M 19 (5 * k + 4) := ⟨_, rfl⟩
  refine g_iconst F dX6_comesTold_0 ?_
  refine g_iload_n F 1 dX6_comesTold_1 rfl ?_
  refine g_imul F dX6_comesTold_2 ?_
  refine g_istore_n F (lv' := [(2, .int (iI (5 * k))), (0, .ref (ma 100)), (1, .int (iI k))]) 2 dX6_comesTold_3 rfl (by decide) rfl ?_
  refine g_aload_n F 1 dX6_comesTold_4 rfl ?_
  refine gm_get_19 F dX6_comesTold_5 ?_
  refine g_iload_n F 0 dX6_comesTold_8 rfl ?_
  refine gm_ald_19 F (by omega) dX6_comesTold_9 ?_
  refine g_top (y := iI t0) (iIc ht0.symm) ?_
  refine g_istore_n F (lv' := [(3, .int (iI t0)), (2, .int (iI (5 * k))), (0, .ref (ma 100)), (1, .int (iI k))]) 3 dX6_comesTold_10 rfl (by decide) rfl ?_
  refine g_aload_n F 2 dX6_comesTold_11 rfl ?_
  refine gm_get_19 F dX6_comesTold_12 ?_
  refine g_iload_n F 1 dX6_comesTold_15 rfl ?_
  refine g_iconst F dX6_comesTold_16 ?_
  refine g_iadd F dX6_comesTold_17 ?_
  refine gm_ald_19 F (by omega) dX6_comesTold_18 ?_
  refine g_top (y := iI t1) (iIc ht1.symm) ?_
  refine g_istore F (lv' := [(4, .int (iI t1)), (3, .int (iI t0)), (2, .int (iI (5 * k))), (0, .ref (ma 100)), (1, .int (iI k))]) dX6_comesTold_19 (by decide) rfl ?_
  refine g_iconst F dX6_comesTold_21 ?_
  refine g_istore F (lv' := [(5, .int (iI 1)), (4, .int (iI t1)), (3, .int (iI t0)), (2, .int (iI (5 * k))), (0, .ref (ma 100)), (1, .int (iI k))]) dX6_comesTold_22 (by decide) rfl ?_
  refine g_aload_n F 4 dX6_comesTold_24 rfl ?_
  refine gm_get_18 F dX6_comesTold_25 ?_
  refine g_iload_n F 5 dX6_comesTold_28 rfl ?_
  refine gm_ald_18 F (by omega) dX6_comesTold_29 ?_
  refine g_top (y := iI (lt L n p)) (iIc hc) ?_
  by_cases c30_99 : (lt L n p) = 99
  · skip
    refine g_lsw F 72 (by omega) dX6_comesTold_30 (by decide +kernel) (off := 42) (by rw [c30_99]; decide +kernel) (by decide) ?_
    have hcc : lt L n p = 99 := c30_99
    have hd := ht.1 hcc
    have e0 : t0 = num L n (p + 1) 2 := by have h : M 19 (5 * k + 0) = _ := hd.1; rw [Int.add_zero] at h; rw [ht0, h]
    have e1 : t1 = num L n (p + 3) 2 := by have h : M 19 (5 * k + 1) = _ := hd.2.1; rw [ht1, h]; congr 1; omega
    have e2 : t2 = num L n (p + 5) 1 := by have h : M 19 (5 * k + 2) = _ := hd.2.2.1; rw [ht2, h]; congr 1; omega
    have e3 : t3 = num L n (p + 6) 1 := by have h : M 19 (5 * k + 3) = _ := hd.2.2.2.1; rw [ht3, h]; congr 1; omega
    have e4 : t4 = num L n (p + 7) 2 := by have h : M 19 (5 * k + 4) = _ := hd.2.2.2.2; rw [ht4, h]; congr 1; omega
    have hb := hnb.1 hcc
    refine g_iload_n F 2 dX6_comesTold_72 rfl ?_
    refine g_iload F 1 dX6_comesTold_73 rfl ?_
    refine g_icmp_gt F 102 (by omega) dX6_comesTold_75 (by decide) (fun c75 => ?_) (fun c75 => ?_)
    · skip
      refine g_iconst F dX6_comesTold_102 ?_
      refine g_istore F (lv' := [(5, .int (iI 0)), (4, .int (iI t1)), (3, .int (iI t0)), (2, .int (iI (5 * k))), (0, .ref (ma 100)), (1, .int (iI k))]) dX6_comesTold_103 (by decide) rfl ?_
      refine g_iload_n F 2 dX6_comesTold_105 rfl ?_
      refine g_istore F (lv' := [(6, .int (iI t0)), (5, .int (iI 0)), (4, .int (iI t1)), (3, .int (iI t0)), (2, .int (iI (5 * k))), (0, .ref (ma 100)), (1, .int (iI k))]) dX6_comesTold_106 (by decide) rfl ?_
      have L108 : ∀ (mz108 : Nat) (c : Int), (t1 + 1 - c).toNat = mz108 → ((0 = 1 ∧ t0 ≤ c ∧ c ≤ t1 + 1) ∨ (0 = 0 ∧ c = t0)) → G E (mw κ ma (stC M (filN (cl M) t0 t2 t3 t4 (c - t0).toNat))) [(6, .int (iI c)), (5, .int (iI 0)), (4, .int (iI t1)), (3, .int (iI t0)), (2, .int (iI (5 * k))), (0, .ref (ma 100)), (1, .int (iI k))] 108 [] := by
        intro mz108
        induction mz108 using Nat.strongRecOn with
        | _ mz108 ih108 =>
        intro c hmz108 hcr
        refine g_iload F 0 dX6_comesTold_108 rfl ?_
        refine g_iload F 2 dX6_comesTold_110 rfl ?_
        refine g_icmp_gt F 156 (by omega) dX6_comesTold_112 (by decide) (fun c112 => ?_) (fun c112 => ?_)
        · skip
          refine g_iload F 1 dX6_comesTold_156 rfl ?_
          exact K mw_same (ly_f2 (by unfold okS; rw [if_pos hcc]; show ¬ (num L n (p + 1) 2 ≤ num L n (p + 3) 2 ∧ num L n (p + 3) 2 < 12 ∧ num L n (p + 5) 1 < 6); omega) (by have e : c = t0 := (by omega); rw [e, Int.sub_self]; rfl)) (by decide +kernel) dX6_comesTold_158
        · skip
          refine g_iload F 1 dX6_comesTold_115 rfl ?_
          refine g_if_eq F 156 (by omega) dX6_comesTold_117 (by decide) (fun c117 => ?_) (fun c117 => ?_)
          · skip
            refine g_iload F 1 dX6_comesTold_156 rfl ?_
            exact K mw_same (ly_f2 (by unfold okS; rw [if_pos hcc]; show ¬ (num L n (p + 1) 2 ≤ num L n (p + 3) 2 ∧ num L n (p + 3) 2 < 12 ∧ num L n (p + 5) 1 < 6); omega) (by have e : c = t0 := (by omega); rw [e, Int.sub_self]; rfl)) (by decide +kernel) dX6_comesTold_158
          · skip
            exact absurd trivial (by omega)
      refine g_sub F (lv' := [(6, .int (iI t0)), (5, .int (iI 0)), (4, .int (iI t1)), (3, .int (iI t0)), (2, .int (iI (5 * k))), (0, .ref (ma 100)), (1, .int (iI k))]) [0, 1, 2, 3, 4, 5, 6] rfl ?_
      refine g_ws (ws' := mw κ ma (stC M (filN (cl M) t0 t2 t3 t4 (t0 - t0).toNat))) (by rw [Int.sub_self]; rfl) ?_
      exact L108 _ t0 rfl (by first | exact Or.inr ⟨rfl, rfl⟩ | exact Or.inl ⟨rfl, by omega, by omega⟩)
    · skip
      refine g_iload F 1 dX6_comesTold_78 rfl ?_
      refine g_bipush F dX6_comesTold_80 (by decide +kernel) ?_
      refine g_icmp_ge F 102 (by omega) dX6_comesTold_82 (by decide) (fun c82 => ?_) (fun c82 => ?_)
      · skip
        refine g_iconst F dX6_comesTold_102 ?_
        refine g_istore F (lv' := [(5, .int (iI 0)), (4, .int (iI t1)), (3, .int (iI t0)), (2, .int (iI (5 * k))), (0, .ref (ma 100)), (1, .int (iI k))]) dX6_comesTold_103 (by decide) rfl ?_
        refine g_iload_n F 2 dX6_comesTold_105 rfl ?_
        refine g_istore F (lv' := [(6, .int (iI t0)), (5, .int (iI 0)), (4, .int (iI t1)), (3, .int (iI t0)), (2, .int (iI (5 * k))), (0, .ref (ma 100)), (1, .int (iI k))]) dX6_comesTold_106 (by decide) rfl ?_
        have L108 : ∀ (mz108 : Nat) (c : Int), (t1 + 1 - c).toNat = mz108 → ((0 = 1 ∧ t0 ≤ c ∧ c ≤ t1 + 1) ∨ (0 = 0 ∧ c = t0)) → G E (mw κ ma (stC M (filN (cl M) t0 t2 t3 t4 (c - t0).toNat))) [(6, .int (iI c)), (5, .int (iI 0)), (4, .int (iI t1)), (3, .int (iI t0)), (2, .int (iI (5 * k))), (0, .ref (ma 100)), (1, .int (iI k))] 108 [] := by
          intro mz108
          induction mz108 using Nat.strongRecOn with
          | _ mz108 ih108 =>
          intro c hmz108 hcr
          refine g_iload F 0 dX6_comesTold_108 rfl ?_
          refine g_iload F 2 dX6_comesTold_110 rfl ?_
          refine g_icmp_gt F 156 (by omega) dX6_comesTold_112 (by decide) (fun c112 => ?_) (fun c112 => ?_)
          · skip
            refine g_iload F 1 dX6_comesTold_156 rfl ?_
            exact K mw_same (ly_f2 (by unfold okS; rw [if_pos hcc]; show ¬ (num L n (p + 1) 2 ≤ num L n (p + 3) 2 ∧ num L n (p + 3) 2 < 12 ∧ num L n (p + 5) 1 < 6); omega) (by have e : c = t0 := (by omega); rw [e, Int.sub_self]; rfl)) (by decide +kernel) dX6_comesTold_158
          · skip
            refine g_iload F 1 dX6_comesTold_115 rfl ?_
            refine g_if_eq F 156 (by omega) dX6_comesTold_117 (by decide) (fun c117 => ?_) (fun c117 => ?_)
            · skip
              refine g_iload F 1 dX6_comesTold_156 rfl ?_
              exact K mw_same (ly_f2 (by unfold okS; rw [if_pos hcc]; show ¬ (num L n (p + 1) 2 ≤ num L n (p + 3) 2 ∧ num L n (p + 3) 2 < 12 ∧ num L n (p + 5) 1 < 6); omega) (by have e : c = t0 := (by omega); rw [e, Int.sub_self]; rfl)) (by decide +kernel) dX6_comesTold_158
            · skip
              exact absurd trivial (by omega)
        refine g_sub F (lv' := [(6, .int (iI t0)), (5, .int (iI 0)), (4, .int (iI t1)), (3, .int (iI t0)), (2, .int (iI (5 * k))), (0, .ref (ma 100)), (1, .int (iI k))]) [0, 1, 2, 3, 4, 5, 6] rfl ?_
        refine g_ws (ws' := mw κ ma (stC M (filN (cl M) t0 t2 t3 t4 (t0 - t0).toNat))) (by rw [Int.sub_self]; rfl) ?_
        exact L108 _ t0 rfl (by first | exact Or.inr ⟨rfl, rfl⟩ | exact Or.inl ⟨rfl, by omega, by omega⟩)
      · skip
        refine g_aload_n F 4 dX6_comesTold_85 rfl ?_
        refine gm_get_19 F dX6_comesTold_86 ?_
        refine g_iload_n F 3 dX6_comesTold_89 rfl ?_
        refine g_iconst F dX6_comesTold_90 ?_
        refine g_iadd F dX6_comesTold_91 ?_
        refine gm_ald_19 F (by omega) dX6_comesTold_92 ?_
        refine g_top (y := iI t2) (iIc ht2.symm) ?_
        refine g_bipush F dX6_comesTold_93 (by decide +kernel) ?_
        refine g_icmp_ge F 102 (by omega) dX6_comesTold_95 (by decide) (fun c95 => ?_) (fun c95 => ?_)
        · skip
          refine g_iconst F dX6_comesTold_102 ?_
          refine g_istore F (lv' := [(5, .int (iI 0)), (4, .int (iI t1)), (3, .int (iI t0)), (2, .int (iI (5 * k))), (0, .ref (ma 100)), (1, .int (iI k))]) dX6_comesTold_103 (by decide) rfl ?_
          refine g_iload_n F 2 dX6_comesTold_105 rfl ?_
          refine g_istore F (lv' := [(6, .int (iI t0)), (5, .int (iI 0)), (4, .int (iI t1)), (3, .int (iI t0)), (2, .int (iI (5 * k))), (0, .ref (ma 100)), (1, .int (iI k))]) dX6_comesTold_106 (by decide) rfl ?_
          have L108 : ∀ (mz108 : Nat) (c : Int), (t1 + 1 - c).toNat = mz108 → ((0 = 1 ∧ t0 ≤ c ∧ c ≤ t1 + 1) ∨ (0 = 0 ∧ c = t0)) → G E (mw κ ma (stC M (filN (cl M) t0 t2 t3 t4 (c - t0).toNat))) [(6, .int (iI c)), (5, .int (iI 0)), (4, .int (iI t1)), (3, .int (iI t0)), (2, .int (iI (5 * k))), (0, .ref (ma 100)), (1, .int (iI k))] 108 [] := by
            intro mz108
            induction mz108 using Nat.strongRecOn with
            | _ mz108 ih108 =>
            intro c hmz108 hcr
            refine g_iload F 0 dX6_comesTold_108 rfl ?_
            refine g_iload F 2 dX6_comesTold_110 rfl ?_
            refine g_icmp_gt F 156 (by omega) dX6_comesTold_112 (by decide) (fun c112 => ?_) (fun c112 => ?_)
            · skip
              refine g_iload F 1 dX6_comesTold_156 rfl ?_
              exact K mw_same (ly_f2 (by unfold okS; rw [if_pos hcc]; show ¬ (num L n (p + 1) 2 ≤ num L n (p + 3) 2 ∧ num L n (p + 3) 2 < 12 ∧ num L n (p + 5) 1 < 6); omega) (by have e : c = t0 := (by omega); rw [e, Int.sub_self]; rfl)) (by decide +kernel) dX6_comesTold_158
            · skip
              refine g_iload F 1 dX6_comesTold_115 rfl ?_
              refine g_if_eq F 156 (by omega) dX6_comesTold_117 (by decide) (fun c117 => ?_) (fun c117 => ?_)
              · skip
                refine g_iload F 1 dX6_comesTold_156 rfl ?_
                exact K mw_same (ly_f2 (by unfold okS; rw [if_pos hcc]; show ¬ (num L n (p + 1) 2 ≤ num L n (p + 3) 2 ∧ num L n (p + 3) 2 < 12 ∧ num L n (p + 5) 1 < 6); omega) (by have e : c = t0 := (by omega); rw [e, Int.sub_self]; rfl)) (by decide +kernel) dX6_comesTold_158
              · skip
                exact absurd trivial (by omega)
          refine g_sub F (lv' := [(6, .int (iI t0)), (5, .int (iI 0)), (4, .int (iI t1)), (3, .int (iI t0)), (2, .int (iI (5 * k))), (0, .ref (ma 100)), (1, .int (iI k))]) [0, 1, 2, 3, 4, 5, 6] rfl ?_
          refine g_ws (ws' := mw κ ma (stC M (filN (cl M) t0 t2 t3 t4 (t0 - t0).toNat))) (by rw [Int.sub_self]; rfl) ?_
          exact L108 _ t0 rfl (by first | exact Or.inr ⟨rfl, rfl⟩ | exact Or.inl ⟨rfl, by omega, by omega⟩)
        · skip
          refine g_iconst F dX6_comesTold_98 ?_
          refine g_goto F 103 dX6_comesTold_99 (by decide) ?_
          refine g_istore F (lv' := [(5, .int (iI 1)), (4, .int (iI t1)), (3, .int (iI t0)), (2, .int (iI (5 * k))), (0, .ref (ma 100)), (1, .int (iI k))]) dX6_comesTold_103 (by decide) rfl ?_
          refine g_iload_n F 2 dX6_comesTold_105 rfl ?_
          refine g_istore F (lv' := [(6, .int (iI t0)), (5, .int (iI 1)), (4, .int (iI t1)), (3, .int (iI t0)), (2, .int (iI (5 * k))), (0, .ref (ma 100)), (1, .int (iI k))]) dX6_comesTold_106 (by decide) rfl ?_
          have L108 : ∀ (mz108 : Nat) (c : Int), (t1 + 1 - c).toNat = mz108 → ((1 = 1 ∧ t0 ≤ c ∧ c ≤ t1 + 1) ∨ (1 = 0 ∧ c = t0)) → G E (mw κ ma (stC M (filN (cl M) t0 t2 t3 t4 (c - t0).toNat))) [(6, .int (iI c)), (5, .int (iI 1)), (4, .int (iI t1)), (3, .int (iI t0)), (2, .int (iI (5 * k))), (0, .ref (ma 100)), (1, .int (iI k))] 108 [] := by
            intro mz108
            induction mz108 using Nat.strongRecOn with
            | _ mz108 ih108 =>
            intro c hmz108 hcr
            refine g_iload F 0 dX6_comesTold_108 rfl ?_
            refine g_iload F 2 dX6_comesTold_110 rfl ?_
            refine g_icmp_gt F 156 (by omega) dX6_comesTold_112 (by decide) (fun c112 => ?_) (fun c112 => ?_)
            · skip
              refine g_iload F 1 dX6_comesTold_156 rfl ?_
              exact K mw_same (ly_t (by unfold okS; rw [if_pos hcc]; exact ⟨by omega, by omega, by omega⟩) (by rw [← ly_c hcc, ← e0, ← e1, ← e2, ← e3, ← e4, fil, show t1 - t0 + 1 = c - t0 by omega])) (by decide +kernel) dX6_comesTold_158
            · skip
              refine g_iload F 1 dX6_comesTold_115 rfl ?_
              refine g_if_eq F 156 (by omega) dX6_comesTold_117 (by decide) (fun c117 => ?_) (fun c117 => ?_)
              · skip
                exact absurd trivial (by omega)
              · skip
                refine g_aload_n F 5 dX6_comesTold_120 rfl ?_
                refine g_iload F 0 dX6_comesTold_121 rfl ?_
                refine g_aload_n F 5 dX6_comesTold_123 rfl ?_
                refine gm_get_19 F dX6_comesTold_124 ?_
                refine g_iload_n F 4 dX6_comesTold_127 rfl ?_
                refine g_iconst F dX6_comesTold_128 ?_
                refine g_iadd F dX6_comesTold_129 ?_
                refine gm_ald_19 F (by omega) dX6_comesTold_130 ?_
                refine g_top (y := iI (M 19 ((5 * k) + 2))) rfl ?_
                refine g_top (y := iI t2) (iIc (by first | exact ht2.symm | rfl)) ?_
                refine g_aload_n F 5 dX6_comesTold_131 rfl ?_
                refine gm_get_19 F dX6_comesTold_132 ?_
                refine g_iload_n F 4 dX6_comesTold_135 rfl ?_
                refine g_iconst F dX6_comesTold_136 ?_
                refine g_iadd F dX6_comesTold_137 ?_
                refine gm_ald_19 F (by omega) dX6_comesTold_138 ?_
                refine g_top (y := iI (M 19 ((5 * k) + 3))) rfl ?_
                refine g_top (y := iI t3) (iIc ht3.symm) ?_
                refine g_aload_n F 5 dX6_comesTold_139 rfl ?_
                refine gm_get_19 F dX6_comesTold_140 ?_
                refine g_iload_n F 4 dX6_comesTold_143 rfl ?_
                refine g_iconst F dX6_comesTold_144 ?_
                refine g_iadd F dX6_comesTold_145 ?_
                refine gm_ald_19 F (by omega) dX6_comesTold_146 ?_
                refine g_top (y := iI (M 19 ((5 * k) + 4))) rfl ?_
                refine g_top (y := iI t4) (iIc ht4.symm) ?_
                refine g_callV F (stk := [.int (iI t4), .int (iI t3), .int (iI t2), .int (iI c), .ref (ma 100)]) (st := []) (k_X6_makeCell κ ma (stC M (filN (cl M) t0 t2 t3 t4 (c - t0).toNat)) c t2 t3 t4 (by omega)) cal_X6_makeCell lm_X6_134 0 rfl rfl rfl rfl (by decide) rfl (Nat.le_of_ble_eq_true rfl) dX6_comesTold_147 (fun ws147 _ hr147 => ?_)
                obtain rfl := hr147
                refine g_ws (ws' := mw κ ma (stC M (make (filN (cl M) t0 t2 t3 t4 (c - t0).toNat) c t2 t3 t4))) rfl ?_
                refine g_iinc F (lv' := [(6, .int (iI (c + 1))), (5, .int (iI 1)), (4, .int (iI t1)), (3, .int (iI t0)), (2, .int (iI (5 * k))), (0, .ref (ma 100)), (1, .int (iI k))]) 0 dX6_comesTold_150 rfl (by decide) rfl ?_
                refine g_goto F 108 dX6_comesTold_153 (by decide) ?_
                refine g_sub F (lv' := [(6, .int (iI (c + 1))), (5, .int (iI 1)), (4, .int (iI t1)), (3, .int (iI t0)), (2, .int (iI (5 * k))), (0, .ref (ma 100)), (1, .int (iI k))]) [0, 1, 2, 3, 4, 5, 6] rfl ?_
                refine g_ws (ws' := mw κ ma (stC M (filN (cl M) t0 t2 t3 t4 ((c + 1) - t0).toNat))) (by have e := fil_s (cl M) t0 t2 t3 t4 (m := c - t0) (by omega); rw [show t0 + (c - t0) = c by omega, show c - t0 + 1 = c + 1 - t0 by omega] at e; rw [e]) ?_
                exact ih108 _ (by omega) (c + 1) rfl (Or.inl ⟨rfl, by omega, by omega⟩)
          refine g_sub F (lv' := [(6, .int (iI t0)), (5, .int (iI 1)), (4, .int (iI t1)), (3, .int (iI t0)), (2, .int (iI (5 * k))), (0, .ref (ma 100)), (1, .int (iI k))]) [0, 1, 2, 3, 4, 5, 6] rfl ?_
          refine g_ws (ws' := mw κ ma (stC M (filN (cl M) t0 t2 t3 t4 (t0 - t0).toNat))) (by rw [Int.sub_self]; rfl) ?_
          exact L108 _ t0 rfl (by first | exact Or.inr ⟨rfl, rfl⟩ | exact Or.inl ⟨rfl, by omega, by omega⟩)
  by_cases c30_112 : (lt L n p) = 112
  · skip
    refine g_lsw F 204 (by omega) dX6_comesTold_30 (by decide +kernel) (off := 174) (by rw [c30_112]; decide +kernel) (by decide) ?_
    have hcc : lt L n p = 112 := c30_112
    have hd := ht.2.2.1 hcc
    have e0 : t0 = num L n (p + 1) 1 := by have h : M 19 (5 * k + 0) = _ := hd.1; rw [Int.add_zero] at h; rw [ht0, h]
    have e1 : t1 = num L n (p + 2) 2 := by have h : M 19 (5 * k + 1) = _ := hd.2; rw [ht1, h]; congr 1; omega
    have hb := hnb.2.2.1 hcc
    refine g_aload_n F 4 dX6_comesTold_204 rfl ?_
    refine g_iload_n F 2 dX6_comesTold_205 rfl ?_
    refine g_callI F (stk := [.int (iI t0), .ref (ma 100)]) (st := []) (k_X6_isPiece κ ma M t0 (show In32 t0 ∧ 0 ≤ (M 5 0) ∧ (M 5 0) ≤ 6 from by omega)) cal_X6_isPiece lm_X6_176 0 rfl rfl rfl rfl (by decide) rfl (Nat.le_of_ble_eq_true rfl) dX6_comesTold_206 (fun r206 ws206 _ hr206 => ?_)
    obtain ⟨rfl, rfl⟩ := hr206
    refine g_if_eq F 232 (b2i_in _) dX6_comesTold_209 (by decide) (fun c209 => ?_) (fun c209 => ?_)
    · skip
      have c209 : ¬ (0 ≤ t0 ∧ t0 < M 5 0) := b2i_f c209
      refine g_iconst F dX6_comesTold_232 ?_
      refine g_istore F (lv' := [(5, .int (iI 0)), (4, .int (iI t1)), (3, .int (iI t0)), (2, .int (iI (5 * k))), (0, .ref (ma 100)), (1, .int (iI k))]) dX6_comesTold_233 (by decide) rfl ?_
      refine g_iload F 0 dX6_comesTold_235 rfl ?_
      refine g_if_eq F 247 (by omega) dX6_comesTold_237 (by decide) (fun c237 => ?_) (fun c237 => ?_)
      · skip
        refine g_iload F 0 dX6_comesTold_247 rfl ?_
        exact K mw_same (ly_f (by unfold okS; rw [if_neg (by omega), if_neg (by omega), if_pos hcc]; show ¬ (num L n (p + 1) 1 < M 5 0 ∧ M 9 (num L n (p + 1) 1) = 0 ∧ num L n (p + 2) 2 < 12); rw [← e0, ← e1]; omega)) (by decide +kernel) dX6_comesTold_249
      · skip
        exact absurd trivial (by omega)
    · skip
      have c209 : 0 ≤ t0 ∧ t0 < M 5 0 := b2i_t c209
      have hu9 := (okt.2.2.2 t0 (by omega) (by omega)).2.2.2
      have hu9 : 0 ≤ M 9 t0 ∧ M 9 t0 ≤ 1 := hu9
      refine g_aload_n F 4 dX6_comesTold_212 rfl ?_
      refine gm_get_9 F dX6_comesTold_213 ?_
      refine g_iload_n F 2 dX6_comesTold_216 rfl ?_
      refine gm_ald_9 F (by omega) dX6_comesTold_217 ?_
      refine g_if_ne F 232 (by omega) dX6_comesTold_218 (by decide) (fun c218 => ?_) (fun c218 => ?_)
      · skip
        refine g_iconst F dX6_comesTold_232 ?_
        refine g_istore F (lv' := [(5, .int (iI 0)), (4, .int (iI t1)), (3, .int (iI t0)), (2, .int (iI (5 * k))), (0, .ref (ma 100)), (1, .int (iI k))]) dX6_comesTold_233 (by decide) rfl ?_
        refine g_iload F 0 dX6_comesTold_235 rfl ?_
        refine g_if_eq F 247 (by omega) dX6_comesTold_237 (by decide) (fun c237 => ?_) (fun c237 => ?_)
        · skip
          refine g_iload F 0 dX6_comesTold_247 rfl ?_
          exact K mw_same (ly_f (by unfold okS; rw [if_neg (by omega), if_neg (by omega), if_pos hcc]; show ¬ (num L n (p + 1) 1 < M 5 0 ∧ M 9 (num L n (p + 1) 1) = 0 ∧ num L n (p + 2) 2 < 12); rw [← e0, ← e1]; omega)) (by decide +kernel) dX6_comesTold_249
        · skip
          exact absurd trivial (by omega)
      · skip
        refine g_iload F 1 dX6_comesTold_221 rfl ?_
        refine g_bipush F dX6_comesTold_223 (by decide +kernel) ?_
        refine g_icmp_ge F 232 (by omega) dX6_comesTold_225 (by decide) (fun c225 => ?_) (fun c225 => ?_)
        · skip
          refine g_iconst F dX6_comesTold_232 ?_
          refine g_istore F (lv' := [(5, .int (iI 0)), (4, .int (iI t1)), (3, .int (iI t0)), (2, .int (iI (5 * k))), (0, .ref (ma 100)), (1, .int (iI k))]) dX6_comesTold_233 (by decide) rfl ?_
          refine g_iload F 0 dX6_comesTold_235 rfl ?_
          refine g_if_eq F 247 (by omega) dX6_comesTold_237 (by decide) (fun c237 => ?_) (fun c237 => ?_)
          · skip
            refine g_iload F 0 dX6_comesTold_247 rfl ?_
            exact K mw_same (ly_f (by unfold okS; rw [if_neg (by omega), if_neg (by omega), if_pos hcc]; show ¬ (num L n (p + 1) 1 < M 5 0 ∧ M 9 (num L n (p + 1) 1) = 0 ∧ num L n (p + 2) 2 < 12); rw [← e0, ← e1]; omega)) (by decide +kernel) dX6_comesTold_249
          · skip
            exact absurd trivial (by omega)
        · skip
          refine g_iconst F dX6_comesTold_228 ?_
          refine g_goto F 233 dX6_comesTold_229 (by decide) ?_
          refine g_istore F (lv' := [(5, .int (iI 1)), (4, .int (iI t1)), (3, .int (iI t0)), (2, .int (iI (5 * k))), (0, .ref (ma 100)), (1, .int (iI k))]) dX6_comesTold_233 (by decide) rfl ?_
          refine g_iload F 0 dX6_comesTold_235 rfl ?_
          refine g_if_eq F 247 (by omega) dX6_comesTold_237 (by decide) (fun c237 => ?_) (fun c237 => ?_)
          · skip
            exact absurd trivial (by omega)
          · skip
            refine g_aload_n F 4 dX6_comesTold_240 rfl ?_
            refine g_iload_n F 2 dX6_comesTold_241 rfl ?_
            refine g_iload F 1 dX6_comesTold_242 rfl ?_
            refine g_callV F (stk := [.int (iI t1), .int (iI t0), .ref (ma 100)]) (st := []) (k_X6_putOn κ ma M t0 t1 (by omega) (by omega)) cal_X6_putOn lm_X6_179 0 rfl rfl rfl rfl (by decide) rfl (Nat.le_of_ble_eq_true rfl) dX6_comesTold_244 (fun ws244 _ hr244 => ?_)
            obtain rfl := hr244
            refine g_iload F 0 dX6_comesTold_247 rfl ?_
            exact K mw_same (ly_t (by unfold okS; rw [if_neg (by omega), if_neg (by omega), if_pos hcc]; exact ⟨by show _ < M 5 0; omega, by show M 9 _ = 0; rw [← e0]; omega, by omega⟩) (by rw [← ly_p hcc, ← e0, ← e1])) (by decide +kernel) dX6_comesTold_249
  by_cases c30_114 : (lt L n p) = 114
  · skip
    refine g_lsw F 159 (by omega) dX6_comesTold_30 (by decide +kernel) (off := 129) (by rw [c30_114]; decide +kernel) (by decide) ?_
    have hcc : lt L n p = 114 := c30_114
    have hd := ht.2.1 hcc
    have e0 : t0 = num L n (p + 1) 1 := by have h : M 19 (5 * k + 0) = _ := hd.1; rw [Int.add_zero] at h; rw [ht0, h]
    have e1 : t1 = num L n (p + 2) 1 := by have h : M 19 (5 * k + 1) = _ := hd.2.1; rw [ht1, h]; congr 1; omega
    have e2 : t2 = num L n (p + 3) 2 := by have h : M 19 (5 * k + 2) = _ := hd.2.2; rw [ht2, h]; congr 1; omega
    have hb := hnb.2.1 hcc
    refine g_iload_n F 2 dX6_comesTold_159 rfl ?_
    refine g_bipush F dX6_comesTold_160 (by decide +kernel) ?_
    refine g_icmp_ge F 178 (by omega) dX6_comesTold_162 (by decide) (fun c162 => ?_) (fun c162 => ?_)
    · skip
      refine g_iconst F dX6_comesTold_178 ?_
      refine g_istore F (lv' := [(5, .int (iI 0)), (4, .int (iI t1)), (3, .int (iI t0)), (2, .int (iI (5 * k))), (0, .ref (ma 100)), (1, .int (iI k))]) dX6_comesTold_179 (by decide) rfl ?_
      refine g_iload F 0 dX6_comesTold_181 rfl ?_
      refine g_if_eq F 201 (by omega) dX6_comesTold_183 (by decide) (fun c183 => ?_) (fun c183 => ?_)
      · skip
        refine g_iload F 0 dX6_comesTold_201 rfl ?_
        exact K mw_same (ly_f (by unfold okS; rw [if_neg (by omega), if_pos hcc]; show ¬ (num L n (p + 1) 1 < 6 ∧ M 5 0 < 6); omega)) (by decide +kernel) dX6_comesTold_203
      · skip
        exact absurd trivial (by omega)
    · skip
      refine g_aload_n F 4 dX6_comesTold_165 rfl ?_
      refine gm_get_5 F dX6_comesTold_166 ?_
      refine g_bipush F dX6_comesTold_169 (by decide +kernel) ?_
      refine g_icmp_ge F 178 (by omega) dX6_comesTold_171 (by decide) (fun c171 => ?_) (fun c171 => ?_)
      · skip
        refine g_iconst F dX6_comesTold_178 ?_
        refine g_istore F (lv' := [(5, .int (iI 0)), (4, .int (iI t1)), (3, .int (iI t0)), (2, .int (iI (5 * k))), (0, .ref (ma 100)), (1, .int (iI k))]) dX6_comesTold_179 (by decide) rfl ?_
        refine g_iload F 0 dX6_comesTold_181 rfl ?_
        refine g_if_eq F 201 (by omega) dX6_comesTold_183 (by decide) (fun c183 => ?_) (fun c183 => ?_)
        · skip
          refine g_iload F 0 dX6_comesTold_201 rfl ?_
          exact K mw_same (ly_f (by unfold okS; rw [if_neg (by omega), if_pos hcc]; show ¬ (num L n (p + 1) 1 < 6 ∧ M 5 0 < 6); omega)) (by decide +kernel) dX6_comesTold_203
        · skip
          exact absurd trivial (by omega)
      · skip
        refine g_iconst F dX6_comesTold_174 ?_
        refine g_goto F 179 dX6_comesTold_175 (by decide) ?_
        refine g_istore F (lv' := [(5, .int (iI 1)), (4, .int (iI t1)), (3, .int (iI t0)), (2, .int (iI (5 * k))), (0, .ref (ma 100)), (1, .int (iI k))]) dX6_comesTold_179 (by decide) rfl ?_
        refine g_iload F 0 dX6_comesTold_181 rfl ?_
        refine g_if_eq F 201 (by omega) dX6_comesTold_183 (by decide) (fun c183 => ?_) (fun c183 => ?_)
        · skip
          exact absurd trivial (by omega)
        · skip
          refine g_aload_n F 4 dX6_comesTold_186 rfl ?_
          refine g_iload_n F 2 dX6_comesTold_187 rfl ?_
          refine g_iload F 1 dX6_comesTold_188 rfl ?_
          refine g_aload_n F 4 dX6_comesTold_190 rfl ?_
          refine gm_get_19 F dX6_comesTold_191 ?_
          refine g_iload_n F 3 dX6_comesTold_194 rfl ?_
          refine g_iconst F dX6_comesTold_195 ?_
          refine g_iadd F dX6_comesTold_196 ?_
          refine gm_ald_19 F (by omega) dX6_comesTold_197 ?_
          refine g_top (y := iI t2) (iIc ht2.symm) ?_
          refine g_callV F (stk := [.int (iI t2), .int (iI t1), .int (iI t0), .ref (ma 100)]) (st := []) (k_X6_pieceComes κ ma M t0 t1 t2 (show 0 ≤ (M 5 0) ∧ (M 5 0) < 6 from by omega)) cal_X6_pieceComes lm_X6_172 0 rfl rfl rfl rfl (by decide) rfl (Nat.le_of_ble_eq_true rfl) dX6_comesTold_198 (fun ws198 _ hr198 => ?_)
          obtain rfl := hr198
          refine g_iload F 0 dX6_comesTold_201 rfl ?_
          exact K mw_same (ly_t (by unfold okS; rw [if_neg (by omega), if_pos hcc]; exact ⟨by omega, by show M 5 0 < 6; omega⟩) (by rw [← ly_r hcc, ← e0, ← e1, ← e2])) (by decide +kernel) dX6_comesTold_203
  by_cases c30_119 : (lt L n p) = 119
  · skip
    refine g_lsw F 250 (by omega) dX6_comesTold_30 (by decide +kernel) (off := 220) (by rw [c30_119]; decide +kernel) (by decide) ?_
    have hcc : lt L n p = 119 := c30_119
    have hd := ht.2.2.2.1 hcc
    have e0 : t0 = num L n (p + 1) 2 := by have h : M 19 (5 * k + 0) = _ := hd.1; rw [Int.add_zero] at h; rw [ht0, h]
    have e1 : t1 = num L n (p + 3) 2 := by have h : M 19 (5 * k + 1) = _ := hd.2; rw [ht1, h]; congr 1; omega
    have hb := hnb.2.2.2.1 hcc
    refine g_iload_n F 2 dX6_comesTold_250 rfl ?_
    refine g_bipush F dX6_comesTold_251 (by decide +kernel) ?_
    refine g_icmp_ge F 260 (by omega) dX6_comesTold_253 (by decide) (fun c253 => ?_) (fun c253 => ?_)
    · skip
      refine g_iconst F dX6_comesTold_260 ?_
      refine g_istore F (lv' := [(5, .int (iI 0)), (4, .int (iI t1)), (3, .int (iI t0)), (2, .int (iI (5 * k))), (0, .ref (ma 100)), (1, .int (iI k))]) dX6_comesTold_261 (by decide) rfl ?_
      refine g_iload F 0 dX6_comesTold_263 rfl ?_
      refine g_if_eq F 276 (by omega) dX6_comesTold_265 (by decide) (fun c265 => ?_) (fun c265 => ?_)
      · skip
        refine g_iload F 0 dX6_comesTold_276 rfl ?_
        exact K mw_same (ly_f (by unfold okS; rw [if_neg (by omega), if_neg (by omega), if_neg (by omega), if_pos hcc]; show ¬ (num L n (p + 1) 2 < 12); omega)) (by decide +kernel) dX6_comesTold_278
      · skip
        exact absurd trivial (by omega)
    · skip
      refine g_iconst F dX6_comesTold_256 ?_
      refine g_goto F 261 dX6_comesTold_257 (by decide) ?_
      refine g_istore F (lv' := [(5, .int (iI 1)), (4, .int (iI t1)), (3, .int (iI t0)), (2, .int (iI (5 * k))), (0, .ref (ma 100)), (1, .int (iI k))]) dX6_comesTold_261 (by decide) rfl ?_
      refine g_iload F 0 dX6_comesTold_263 rfl ?_
      refine g_if_eq F 276 (by omega) dX6_comesTold_265 (by decide) (fun c265 => ?_) (fun c265 => ?_)
      · skip
        exact absurd trivial (by omega)
      · skip
        refine g_aload_n F 4 dX6_comesTold_268 rfl ?_
        refine gm_get_3 F dX6_comesTold_269 ?_
        refine g_iload_n F 2 dX6_comesTold_272 rfl ?_
        refine g_iload F 1 dX6_comesTold_273 rfl ?_
        refine gm_ast_3 F (by omega) dX6_comesTold_275 ?_
        refine g_iload F 0 dX6_comesTold_276 rfl ?_
        exact K mw_same (ly_t (by unfold okS; rw [if_neg (by omega), if_neg (by omega), if_neg (by omega), if_pos hcc]; exact (by omega)) (by rw [← ly_w hcc, ← e0, ← e1])) (by decide +kernel) dX6_comesTold_278
  refine g_lsw F 279 (by omega) dX6_comesTold_30 (by decide +kernel) (off := 249) (by simp [Op.lookupswitch.offset, List.find?]; omega) (by decide) ?_
  have hcc : lt L n p = 121 := by omega
  have hd := ht.2.2.2.2 hcc
  have e0 : t0 = num L n (p + 1) 2 := by have h : M 19 (5 * k + 0) = _ := hd; rw [Int.add_zero] at h; rw [ht0, h]
  have hb := hnb.2.2.2.2 hcc
  refine g_iload_n F 2 dX6_comesTold_279 rfl ?_
  refine g_i2l F (by omega) dX6_comesTold_280 ?_
  refine g_lconst F (z := 1) dX6_comesTold_281 rfl ?_
  refine g_ldc2 F (z := 60) ll_X6_182 (by decide +kernel) dX6_comesTold_282 ?_
  refine g_callSI F (stk := [.long (iL 60), .long (iL 1), .long (iL t0)]) (st := []) (k_X6_in κ (mw κ ma M) t0 1 60 (by omega)) cal_X6_in lm_X6_97 rfl (by decide) rfl (Nat.le_of_ble_eq_true rfl) dX6_comesTold_285 (fun r285 ws285 _ hr285 => ?_)
  obtain ⟨rfl, rfl⟩ := hr285
  refine g_if_eq F 307 (b2i_in _) dX6_comesTold_288 (by decide) (fun c288 => ?_) (fun c288 => ?_)
  · skip
    have c288 : ¬ (1 ≤ t0 ∧ t0 ≤ 60) := b2i_f c288
    refine g_iconst F dX6_comesTold_307 ?_
    refine g_istore F (lv' := [(5, .int (iI 0)), (4, .int (iI t1)), (3, .int (iI t0)), (2, .int (iI (5 * k))), (0, .ref (ma 100)), (1, .int (iI k))]) dX6_comesTold_308 (by decide) rfl ?_
    refine g_iload F 0 dX6_comesTold_310 rfl ?_
    refine g_if_eq F 320 (by omega) dX6_comesTold_312 (by decide) (fun c312 => ?_) (fun c312 => ?_)
    · skip
      refine g_iload F 0 dX6_comesTold_320 rfl ?_
      exact K mw_same (ly_f (by unfold okS; rw [if_neg (by omega), if_neg (by omega), if_neg (by omega), if_neg (by omega)]; show ¬ ((1 ≤ num L n (p + 1) 2 ∧ num L n (p + 1) 2 ≤ 60) ∧ M 4 0 + num L n (p + 1) 2 ≤ 999); omega)) (by decide +kernel) dX6_comesTold_322
    · skip
      exact absurd trivial (by omega)
  · skip
    have c288 : 1 ≤ t0 ∧ t0 ≤ 60 := b2i_t c288
    refine g_aload_n F 4 dX6_comesTold_291 rfl ?_
    refine gm_get_4 F dX6_comesTold_292 ?_
    refine g_iload_n F 2 dX6_comesTold_295 rfl ?_
    refine g_iadd F dX6_comesTold_296 ?_
    refine g_sipush F dX6_comesTold_297 (by decide +kernel) ?_
    refine g_icmp_gt F 307 (by omega) dX6_comesTold_300 (by decide) (fun c300 => ?_) (fun c300 => ?_)
    · skip
      refine g_iconst F dX6_comesTold_307 ?_
      refine g_istore F (lv' := [(5, .int (iI 0)), (4, .int (iI t1)), (3, .int (iI t0)), (2, .int (iI (5 * k))), (0, .ref (ma 100)), (1, .int (iI k))]) dX6_comesTold_308 (by decide) rfl ?_
      refine g_iload F 0 dX6_comesTold_310 rfl ?_
      refine g_if_eq F 320 (by omega) dX6_comesTold_312 (by decide) (fun c312 => ?_) (fun c312 => ?_)
      · skip
        refine g_iload F 0 dX6_comesTold_320 rfl ?_
        exact K mw_same (ly_f (by unfold okS; rw [if_neg (by omega), if_neg (by omega), if_neg (by omega), if_neg (by omega)]; show ¬ ((1 ≤ num L n (p + 1) 2 ∧ num L n (p + 1) 2 ≤ 60) ∧ M 4 0 + num L n (p + 1) 2 ≤ 999); omega)) (by decide +kernel) dX6_comesTold_322
      · skip
        exact absurd trivial (by omega)
    · skip
      refine g_iconst F dX6_comesTold_303 ?_
      refine g_goto F 308 dX6_comesTold_304 (by decide) ?_
      refine g_istore F (lv' := [(5, .int (iI 1)), (4, .int (iI t1)), (3, .int (iI t0)), (2, .int (iI (5 * k))), (0, .ref (ma 100)), (1, .int (iI k))]) dX6_comesTold_308 (by decide) rfl ?_
      refine g_iload F 0 dX6_comesTold_310 rfl ?_
      refine g_if_eq F 320 (by omega) dX6_comesTold_312 (by decide) (fun c312 => ?_) (fun c312 => ?_)
      · skip
        exact absurd trivial (by omega)
      · skip
        refine g_aload_n F 4 dX6_comesTold_315 rfl ?_
        refine g_iload_n F 2 dX6_comesTold_316 rfl ?_
        refine g_callV F (stk := [.int (iI t0), .ref (ma 100)]) (st := []) (k_X6_goYears κ ma M t0 (show (0 ≤ t0 ∧ t0 ≤ 1000) ∧ (M 4 0) + t0 ≤ 1000000 from by omega) okc) cal_X6_goYears lm_X6_184 0 rfl rfl rfl rfl (by decide) rfl (Nat.le_of_ble_eq_true rfl) dX6_comesTold_317 (fun ws317 _ hr317 => ?_)
        obtain rfl := hr317
        refine g_iload F 0 dX6_comesTold_320 rfl ?_
        exact K mw_same (ly_t (by unfold okS; rw [if_neg (by omega), if_neg (by omega), if_neg (by omega), if_neg (by omega)]; exact ⟨⟨by omega, by omega⟩, by show M 4 0 + _ ≤ 999; omega⟩) (by rw [← ly_y hcc, ← e0])) (by decide +kernel) dX6_comesTold_322
