theorem mA_r {W : MS} {k a : Nat} {f : Int → Int} (h : relB a = true) (hk : relB k = false) : mA W k f a = W a := mA_n (fun q => by rw [q, hk] at h; cases h)
theorem tst_r {M G : MS} {a : Nat} (h : relB a = true) : tst M G a = M a := by
  have h20 : a ≠ 20 := fun q => by rw [q] at h; exact absurd h (by decide)
  unfold tst
  rw [if_neg h20, if_pos h]
theorem ms_dec {cd k : Int} {m : Nat} (h : (cd - k).toNat = m) (hk : k < cd) : (cd - (k + 1)).toNat < m := by omega
theorem mw_31 {κ : Kp} {ma : Nat → Nat} (W : MS) : mw κ ma (mA W 31 (fun _ => W 31 0)) = mw κ ma W := rfl
theorem pl_norm {κ : Kp} {ma : Nat → Nat} (M W : MS) {n : Int} {fr g : Int → Int} (h31 : W 31 0 = n) (h30 : W 30 = fr) (h33 : W 33 = g) (h20 : W 20 = snapF M) (hr : ∀ a : Nat, relB a = true → W a = M a) : mw κ ma W = mw κ ma (mA (mA (mA (tst M W) 31 (fun _ => n)) 30 fr) 33 g) := by
  have e : mA (mA (mA (tst M W) 31 (fun _ => n)) 30 fr) 33 g = mA W 31 (fun _ => n) := by
    funext a
    by_cases q3 : a = 33
    · rw [q3, mA_s, mA_n (by decide), h33]
    · rw [mA_n q3]
      by_cases q0 : a = 30
      · rw [q0, mA_s, mA_n (by decide), h30]
      · rw [mA_n q0]
        by_cases q1 : a = 31
        · rw [q1, mA_s, mA_s]
        · rw [mA_n q1, mA_n q1]
          unfold tst
          by_cases q2 : a = 20
          · rw [if_pos q2, q2, h20]
          · rw [if_neg q2]
            by_cases qr : relB a = true
            · rw [if_pos qr, hr a qr]
            · rw [if_neg qr]
  rw [e, ← h31, mw_31]
theorem pl_n1 {κ : Kp} {ma : Nat → Nat} (M G : MS) (n : Int) (fr g f : Int → Int) : mw κ ma (mA (mA (mA (mA (tst M G) 31 (fun _ => n)) 30 fr) 33 g) 32 f) = mw κ ma (mA (mA (mA (tst M (mA (mA (mA (mA (tst M G) 31 (fun _ => n)) 30 fr) 33 g) 32 f)) 31 (fun _ => n)) 30 fr) 33 g) :=
  pl_norm M _ (by rw [mA_n (by decide), mA_n (by decide), mA_n (by decide), mA_s]) (by rw [mA_n (by decide), mA_n (by decide), mA_s]) (by rw [mA_n (by decide), mA_s]) (by rw [mA_n (by decide), mA_n (by decide), mA_n (by decide), mA_n (by decide)]; rfl) (fun a ha => by rw [mA_r ha (by decide), mA_r ha (by decide), mA_r ha (by decide), mA_r ha (by decide)]; exact tst_r ha)
theorem pl_n2 {κ : Kp} {ma : Nat → Nat} (M G : MS) (n : Int) (fr g f : Int → Int) : mw κ ma (mA (mA (mA (mA (tst M G) 31 (fun _ => n)) 30 fr) 32 f) 33 g) = mw κ ma (mA (mA (mA (tst M (mA (mA (mA (mA (tst M G) 31 (fun _ => n)) 30 fr) 32 f) 33 g)) 31 (fun _ => n)) 30 fr) 33 g) :=
  pl_norm M _ (by rw [mA_n (by decide), mA_n (by decide), mA_n (by decide), mA_s]) (by rw [mA_n (by decide), mA_n (by decide), mA_s]) (by rw [mA_s]) (by rw [mA_n (by decide), mA_n (by decide), mA_n (by decide), mA_n (by decide)]; rfl) (fun a ha => by rw [mA_r ha (by decide), mA_r ha (by decide), mA_r ha (by decide), mA_r ha (by decide)]; exact tst_r ha)
theorem dX6_placed_0 : decode cX6_placed 0 = .ok (.aload_n 0, 1) := by decide +kernel
theorem dX6_placed_1 : decode cX6_placed 1 = .ok (.iconst 0, 1) := by decide +kernel
theorem dX6_placed_2 : decode cX6_placed 2 = .ok (.putfield 91, 3) := by decide +kernel
theorem dX6_placed_5 : decode cX6_placed 5 = .ok (.aload_n 0, 1) := by decide +kernel
theorem dX6_placed_6 : decode cX6_placed 6 = .ok (.invokevirtual 267, 3) := by decide +kernel
theorem dX6_placed_9 : decode cX6_placed 9 = .ok (.iload_n 1, 1) := by decide +kernel
theorem dX6_placed_10 : decode cX6_placed 10 = .ok (.i2l, 1) := by decide +kernel
theorem dX6_placed_11 : decode cX6_placed 11 = .ok (.ldc2_w 270, 3) := by decide +kernel
theorem dX6_placed_14 : decode cX6_placed 14 = .ok (.aload_n 0, 1) := by decide +kernel
theorem dX6_placed_15 : decode cX6_placed 15 = .ok (.getfield 101, 3) := by decide +kernel
theorem dX6_placed_18 : decode cX6_placed 18 = .ok (.iconst 1, 1) := by decide +kernel
theorem dX6_placed_19 : decode cX6_placed 19 = .ok (.isub, 1) := by decide +kernel
theorem dX6_placed_20 : decode cX6_placed 20 = .ok (.i2l, 1) := by decide +kernel
theorem dX6_placed_21 : decode cX6_placed 21 = .ok (.invokestatic 97, 3) := by decide +kernel
theorem dX6_placed_24 : decode cX6_placed 24 = .ok (.ifCond .ne 7, 3) := by decide +kernel
theorem dX6_placed_27 : decode cX6_placed 27 = .ok (.iconst (-1), 1) := by decide +kernel
theorem dX6_placed_28 : decode cX6_placed 28 = .ok (.goto 17, 3) := by decide +kernel
theorem dX6_placed_31 : decode cX6_placed 31 = .ok (.aload_n 0, 1) := by decide +kernel
theorem dX6_placed_32 : decode cX6_placed 32 = .ok (.getfield 264, 3) := by decide +kernel
theorem dX6_placed_35 : decode cX6_placed 35 = .ok (.iconst 3, 1) := by decide +kernel
theorem dX6_placed_36 : decode cX6_placed 36 = .ok (.if_icmp .le 8, 3) := by decide +kernel
theorem dX6_placed_39 : decode cX6_placed 39 = .ok (.bipush (-3), 2) := by decide +kernel
theorem dX6_placed_41 : decode cX6_placed 41 = .ok (.goto 4, 3) := by decide +kernel
theorem dX6_placed_44 : decode cX6_placed 44 = .ok (.iconst 0, 1) := by decide +kernel
theorem dX6_placed_45 : decode cX6_placed 45 = .ok (.istore_n 2, 1) := by decide +kernel
theorem dX6_placed_46 : decode cX6_placed 46 = .ok (.iload_n 2, 1) := by decide +kernel
theorem dX6_placed_47 : decode cX6_placed 47 = .ok (.ifCond .ge 9, 3) := by decide +kernel
theorem dX6_placed_50 : decode cX6_placed 50 = .ok (.aload_n 0, 1) := by decide +kernel
theorem dX6_placed_51 : decode cX6_placed 51 = .ok (.iload_n 2, 1) := by decide +kernel
theorem dX6_placed_52 : decode cX6_placed 52 = .ok (.invokevirtual 138, 3) := by decide +kernel
theorem dX6_placed_55 : decode cX6_placed 55 = .ok (.ireturn, 1) := by decide +kernel
theorem dX6_placed_56 : decode cX6_placed 56 = .ok (.aload_n 0, 1) := by decide +kernel
theorem dX6_placed_57 : decode cX6_placed 57 = .ok (.getfield 264, 3) := by decide +kernel
theorem dX6_placed_60 : decode cX6_placed 60 = .ok (.ifCond .ne 6, 3) := by decide +kernel
theorem dX6_placed_63 : decode cX6_placed 63 = .ok (.bipush (-9), 2) := by decide +kernel
theorem dX6_placed_65 : decode cX6_placed 65 = .ok (.ireturn, 1) := by decide +kernel
theorem dX6_placed_66 : decode cX6_placed 66 = .ok (.iconst 1, 1) := by decide +kernel
theorem dX6_placed_67 : decode cX6_placed 67 = .ok (.istore_n 3, 1) := by decide +kernel
theorem dX6_placed_68 : decode cX6_placed 68 = .ok (.iconst 0, 1) := by decide +kernel
theorem dX6_placed_69 : decode cX6_placed 69 = .ok (.istore 4, 2) := by decide +kernel
theorem dX6_placed_71 : decode cX6_placed 71 = .ok (.iload 4, 2) := by decide +kernel
theorem dX6_placed_73 : decode cX6_placed 73 = .ok (.aload_n 0, 1) := by decide +kernel
theorem dX6_placed_74 : decode cX6_placed 74 = .ok (.getfield 264, 3) := by decide +kernel
theorem dX6_placed_77 : decode cX6_placed 77 = .ok (.if_icmp .ge 14, 3) := by decide +kernel
theorem dX6_placed_80 : decode cX6_placed 80 = .ok (.iload_n 3, 1) := by decide +kernel
theorem dX6_placed_81 : decode cX6_placed 81 = .ok (.bipush 12, 2) := by decide +kernel
theorem dX6_placed_83 : decode cX6_placed 83 = .ok (.imul, 1) := by decide +kernel
theorem dX6_placed_84 : decode cX6_placed 84 = .ok (.istore_n 3, 1) := by decide +kernel
theorem dX6_placed_85 : decode cX6_placed 85 = .ok (.iinc 4 1, 3) := by decide +kernel
theorem dX6_placed_88 : decode cX6_placed 88 = .ok (.goto (-17), 3) := by decide +kernel
theorem dX6_placed_91 : decode cX6_placed 91 = .ok (.iconst (-1), 1) := by decide +kernel
theorem dX6_placed_92 : decode cX6_placed 92 = .ok (.istore 4, 2) := by decide +kernel
theorem dX6_placed_94 : decode cX6_placed 94 = .ok (.aload_n 0, 1) := by decide +kernel
theorem dX6_placed_95 : decode cX6_placed 95 = .ok (.invokevirtual 191, 3) := by decide +kernel
theorem dX6_placed_98 : decode cX6_placed 98 = .ok (.iconst 0, 1) := by decide +kernel
theorem dX6_placed_99 : decode cX6_placed 99 = .ok (.istore 5, 2) := by decide +kernel
theorem dX6_placed_101 : decode cX6_placed 101 = .ok (.iload 5, 2) := by decide +kernel
theorem dX6_placed_103 : decode cX6_placed 103 = .ok (.iload_n 3, 1) := by decide +kernel
theorem dX6_placed_104 : decode cX6_placed 104 = .ok (.if_icmp .ge 175, 3) := by decide +kernel
theorem dX6_placed_107 : decode cX6_placed 107 = .ok (.iload_n 3, 1) := by decide +kernel
theorem dX6_placed_108 : decode cX6_placed 108 = .ok (.istore 6, 2) := by decide +kernel
theorem dX6_placed_110 : decode cX6_placed 110 = .ok (.iconst 0, 1) := by decide +kernel
theorem dX6_placed_111 : decode cX6_placed 111 = .ok (.istore 7, 2) := by decide +kernel
theorem dX6_placed_113 : decode cX6_placed 113 = .ok (.iload 7, 2) := by decide +kernel
theorem dX6_placed_115 : decode cX6_placed 115 = .ok (.aload_n 0, 1) := by decide +kernel
theorem dX6_placed_116 : decode cX6_placed 116 = .ok (.getfield 264, 3) := by decide +kernel
theorem dX6_placed_119 : decode cX6_placed 119 = .ok (.if_icmp .ge 31, 3) := by decide +kernel
theorem dX6_placed_122 : decode cX6_placed 122 = .ok (.iload 6, 2) := by decide +kernel
theorem dX6_placed_124 : decode cX6_placed 124 = .ok (.bipush 12, 2) := by decide +kernel
theorem dX6_placed_126 : decode cX6_placed 126 = .ok (.idiv, 1) := by decide +kernel
theorem dX6_placed_127 : decode cX6_placed 127 = .ok (.istore 6, 2) := by decide +kernel
theorem dX6_placed_129 : decode cX6_placed 129 = .ok (.aload_n 0, 1) := by decide +kernel
theorem dX6_placed_130 : decode cX6_placed 130 = .ok (.getfield 67, 3) := by decide +kernel
theorem dX6_placed_133 : decode cX6_placed 133 = .ok (.iload 7, 2) := by decide +kernel
theorem dX6_placed_135 : decode cX6_placed 135 = .ok (.iload 5, 2) := by decide +kernel
theorem dX6_placed_137 : decode cX6_placed 137 = .ok (.iload 6, 2) := by decide +kernel
theorem dX6_placed_139 : decode cX6_placed 139 = .ok (.idiv, 1) := by decide +kernel
theorem dX6_placed_140 : decode cX6_placed 140 = .ok (.bipush 12, 2) := by decide +kernel
theorem dX6_placed_142 : decode cX6_placed 142 = .ok (.irem, 1) := by decide +kernel
theorem dX6_placed_143 : decode cX6_placed 143 = .ok (.iastore, 1) := by decide +kernel
theorem dX6_placed_144 : decode cX6_placed 144 = .ok (.iinc 7 1, 3) := by decide +kernel
theorem dX6_placed_147 : decode cX6_placed 147 = .ok (.goto (-34), 3) := by decide +kernel
theorem dX6_placed_150 : decode cX6_placed 150 = .ok (.aload_n 0, 1) := by decide +kernel
theorem dX6_placed_151 : decode cX6_placed 151 = .ok (.invokevirtual 272, 3) := by decide +kernel
theorem dX6_placed_154 : decode cX6_placed 154 = .ok (.ifCond .eq 119, 3) := by decide +kernel
theorem dX6_placed_157 : decode cX6_placed 157 = .ok (.iconst 0, 1) := by decide +kernel
theorem dX6_placed_158 : decode cX6_placed 158 = .ok (.istore 7, 2) := by decide +kernel
theorem dX6_placed_160 : decode cX6_placed 160 = .ok (.iload 7, 2) := by decide +kernel
theorem dX6_placed_162 : decode cX6_placed 162 = .ok (.aload_n 0, 1) := by decide +kernel
theorem dX6_placed_163 : decode cX6_placed 163 = .ok (.getfield 264, 3) := by decide +kernel
theorem dX6_placed_166 : decode cX6_placed 166 = .ok (.if_icmp .ge 27, 3) := by decide +kernel
theorem dX6_placed_169 : decode cX6_placed 169 = .ok (.aload_n 0, 1) := by decide +kernel
theorem dX6_placed_170 : decode cX6_placed 170 = .ok (.aload_n 0, 1) := by decide +kernel
theorem dX6_placed_171 : decode cX6_placed 171 = .ok (.getfield 64, 3) := by decide +kernel
theorem dX6_placed_174 : decode cX6_placed 174 = .ok (.iload 7, 2) := by decide +kernel
theorem dX6_placed_176 : decode cX6_placed 176 = .ok (.iaload, 1) := by decide +kernel
theorem dX6_placed_177 : decode cX6_placed 177 = .ok (.aload_n 0, 1) := by decide +kernel
theorem dX6_placed_178 : decode cX6_placed 178 = .ok (.getfield 67, 3) := by decide +kernel
theorem dX6_placed_181 : decode cX6_placed 181 = .ok (.iload 7, 2) := by decide +kernel
theorem dX6_placed_183 : decode cX6_placed 183 = .ok (.iaload, 1) := by decide +kernel
theorem dX6_placed_184 : decode cX6_placed 184 = .ok (.invokevirtual 179, 3) := by decide +kernel
theorem dX6_placed_187 : decode cX6_placed 187 = .ok (.iinc 7 1, 3) := by decide +kernel
theorem dX6_placed_190 : decode cX6_placed 190 = .ok (.goto (-30), 3) := by decide +kernel
theorem dX6_placed_193 : decode cX6_placed 193 = .ok (.aload_n 0, 1) := by decide +kernel
theorem dX6_placed_194 : decode cX6_placed 194 = .ok (.invokevirtual 234, 3) := by decide +kernel
theorem dX6_placed_197 : decode cX6_placed 197 = .ok (.istore 7, 2) := by decide +kernel
theorem dX6_placed_199 : decode cX6_placed 199 = .ok (.aload_n 0, 1) := by decide +kernel
theorem dX6_placed_200 : decode cX6_placed 200 = .ok (.invokevirtual 197, 3) := by decide +kernel
theorem dX6_placed_203 : decode cX6_placed 203 = .ok (.iload 4, 2) := by decide +kernel
theorem dX6_placed_205 : decode cX6_placed 205 = .ok (.ifCond .lt 10, 3) := by decide +kernel
theorem dX6_placed_208 : decode cX6_placed 208 = .ok (.iload 7, 2) := by decide +kernel
theorem dX6_placed_210 : decode cX6_placed 210 = .ok (.iload 4, 2) := by decide +kernel
theorem dX6_placed_212 : decode cX6_placed 212 = .ok (.if_icmp .ge 7, 3) := by decide +kernel
theorem dX6_placed_215 : decode cX6_placed 215 = .ok (.iconst 1, 1) := by decide +kernel
theorem dX6_placed_216 : decode cX6_placed 216 = .ok (.goto 4, 3) := by decide +kernel
theorem dX6_placed_219 : decode cX6_placed 219 = .ok (.iconst 0, 1) := by decide +kernel
theorem dX6_placed_220 : decode cX6_placed 220 = .ok (.istore 8, 2) := by decide +kernel
theorem dX6_placed_222 : decode cX6_placed 222 = .ok (.iload 8, 2) := by decide +kernel
theorem dX6_placed_224 : decode cX6_placed 224 = .ok (.ifCond .eq 8, 3) := by decide +kernel
theorem dX6_placed_227 : decode cX6_placed 227 = .ok (.iload 7, 2) := by decide +kernel
theorem dX6_placed_229 : decode cX6_placed 229 = .ok (.goto 5, 3) := by decide +kernel
theorem dX6_placed_232 : decode cX6_placed 232 = .ok (.iload 4, 2) := by decide +kernel
theorem dX6_placed_234 : decode cX6_placed 234 = .ok (.istore 4, 2) := by decide +kernel
theorem dX6_placed_236 : decode cX6_placed 236 = .ok (.iconst 0, 1) := by decide +kernel
theorem dX6_placed_237 : decode cX6_placed 237 = .ok (.istore 9, 2) := by decide +kernel
theorem dX6_placed_239 : decode cX6_placed 239 = .ok (.iload 9, 2) := by decide +kernel
theorem dX6_placed_241 : decode cX6_placed 241 = .ok (.aload_n 0, 1) := by decide +kernel
theorem dX6_placed_242 : decode cX6_placed 242 = .ok (.getfield 264, 3) := by decide +kernel
theorem dX6_placed_245 : decode cX6_placed 245 = .ok (.if_icmp .ge 28, 3) := by decide +kernel
theorem dX6_placed_248 : decode cX6_placed 248 = .ok (.iload 8, 2) := by decide +kernel
theorem dX6_placed_250 : decode cX6_placed 250 = .ok (.ifCond .eq 23, 3) := by decide +kernel
theorem dX6_placed_253 : decode cX6_placed 253 = .ok (.aload_n 0, 1) := by decide +kernel
theorem dX6_placed_254 : decode cX6_placed 254 = .ok (.getfield 70, 3) := by decide +kernel
theorem dX6_placed_257 : decode cX6_placed 257 = .ok (.iload 9, 2) := by decide +kernel
theorem dX6_placed_259 : decode cX6_placed 259 = .ok (.aload_n 0, 1) := by decide +kernel
theorem dX6_placed_260 : decode cX6_placed 260 = .ok (.getfield 67, 3) := by decide +kernel
theorem dX6_placed_263 : decode cX6_placed 263 = .ok (.iload 9, 2) := by decide +kernel
theorem dX6_placed_265 : decode cX6_placed 265 = .ok (.iaload, 1) := by decide +kernel
theorem dX6_placed_266 : decode cX6_placed 266 = .ok (.iastore, 1) := by decide +kernel
theorem dX6_placed_267 : decode cX6_placed 267 = .ok (.iinc 9 1, 3) := by decide +kernel
theorem dX6_placed_270 : decode cX6_placed 270 = .ok (.goto (-31), 3) := by decide +kernel
theorem dX6_placed_273 : decode cX6_placed 273 = .ok (.iinc 5 1, 3) := by decide +kernel
theorem dX6_placed_276 : decode cX6_placed 276 = .ok (.goto (-175), 3) := by decide +kernel
theorem dX6_placed_279 : decode cX6_placed 279 = .ok (.bipush (-9), 2) := by decide +kernel
theorem dX6_placed_281 : decode cX6_placed 281 = .ok (.istore 5, 2) := by decide +kernel
theorem dX6_placed_283 : decode cX6_placed 283 = .ok (.iconst 0, 1) := by decide +kernel
theorem dX6_placed_284 : decode cX6_placed 284 = .ok (.istore 6, 2) := by decide +kernel
theorem dX6_placed_286 : decode cX6_placed 286 = .ok (.iload 6, 2) := by decide +kernel
theorem dX6_placed_288 : decode cX6_placed 288 = .ok (.aload_n 0, 1) := by decide +kernel
theorem dX6_placed_289 : decode cX6_placed 289 = .ok (.getfield 264, 3) := by decide +kernel
theorem dX6_placed_292 : decode cX6_placed 292 = .ok (.if_icmp .ge 34, 3) := by decide +kernel
theorem dX6_placed_295 : decode cX6_placed 295 = .ok (.aload_n 0, 1) := by decide +kernel
theorem dX6_placed_296 : decode cX6_placed 296 = .ok (.getfield 64, 3) := by decide +kernel
theorem dX6_placed_299 : decode cX6_placed 299 = .ok (.iload 6, 2) := by decide +kernel
theorem dX6_placed_301 : decode cX6_placed 301 = .ok (.iaload, 1) := by decide +kernel
theorem dX6_placed_302 : decode cX6_placed 302 = .ok (.iload_n 1, 1) := by decide +kernel
theorem dX6_placed_303 : decode cX6_placed 303 = .ok (.if_icmp .ne 13, 3) := by decide +kernel
theorem dX6_placed_306 : decode cX6_placed 306 = .ok (.aload_n 0, 1) := by decide +kernel
theorem dX6_placed_307 : decode cX6_placed 307 = .ok (.getfield 70, 3) := by decide +kernel
theorem dX6_placed_310 : decode cX6_placed 310 = .ok (.iload 6, 2) := by decide +kernel
theorem dX6_placed_312 : decode cX6_placed 312 = .ok (.iaload, 1) := by decide +kernel
theorem dX6_placed_313 : decode cX6_placed 313 = .ok (.goto 5, 3) := by decide +kernel
theorem dX6_placed_316 : decode cX6_placed 316 = .ok (.iload 5, 2) := by decide +kernel
theorem dX6_placed_318 : decode cX6_placed 318 = .ok (.istore 5, 2) := by decide +kernel
theorem dX6_placed_320 : decode cX6_placed 320 = .ok (.iinc 6 1, 3) := by decide +kernel
theorem dX6_placed_323 : decode cX6_placed 323 = .ok (.goto (-37), 3) := by decide +kernel
theorem dX6_placed_326 : decode cX6_placed 326 = .ok (.iload_n 1, 1) := by decide +kernel
theorem dX6_placed_327 : decode cX6_placed 327 = .ok (.ifCond .ge 8, 3) := by decide +kernel
theorem dX6_placed_330 : decode cX6_placed 330 = .ok (.iload 4, 2) := by decide +kernel
theorem dX6_placed_332 : decode cX6_placed 332 = .ok (.goto 5, 3) := by decide +kernel
theorem dX6_placed_335 : decode cX6_placed 335 = .ok (.iload 5, 2) := by decide +kernel
theorem dX6_placed_337 : decode cX6_placed 337 = .ok (.ireturn, 1) := by decide +kernel
set_option maxRecDepth 100000 in
set_option maxHeartbeats 4000000 in
theorem k_X6_placed (κ : Kp) (ma : Nat → Nat) (M : MS) (p : Int)  (ha_p : In32 p) (ok : okC (cl M)) (hy : M 4 0 ≤ 999) (okr : okR M) : mI κ yX6_placed cX6_placed 10 .int 5 [.ref (ma 100), .int (iI p)] (mw κ ma M) (qM κ ma M (qPlaced (cl M) (M 6) (M 7) (M 8) (M 9) (M 5 0) p)) := by
  refine mI_of (by decide) (Nat.le_of_ble_eq_true rfl) (fun E F K => ?_)
  refine g_lv (lv' := [(0, .ref (ma 100)), (1, .int (iI p))]) rfl ?_
  refine g_aload_n F 0 dX6_placed_0 rfl ?_
  refine g_iconst F dX6_placed_1 ?_
  refine gm_put_10 F dX6_placed_2 ?_
  have hn := okr.1
  refine g_aload_n F 0 dX6_placed_5 rfl ?_
  obtain ⟨n, hnn⟩ : ∃ n : Int, n = frc (M 9) (M 5 0) := ⟨_, rfl⟩
  obtain ⟨fr, hfr⟩ : ∃ fr : Int → Int, fr = flA (M 30) (M 9) (M 5 0) := ⟨_, rfl⟩
  have hnb := frc_bd (M 9) hn.1
  have hF : isFr fr (M 9) (M 5 0) := by rw [hfr]; exact isFr_fl _ _ hn.1
  have hfE : ∀ i : Int, 0 ≤ i → i < n → fr i = frP (M 9) (M 5 0) i := fun i a b => isFr_eq hF (isFr_fl _ _ hn.1) i a (by omega)
  have hpr : ∀ i : Int, 0 ≤ i → i < n → (0 ≤ M 6 (fr i) ∧ M 6 (fr i) ≤ 5) ∧ (0 ≤ M 7 (fr i) ∧ M 7 (fr i) ≤ 9) ∧ 0 ≤ M 8 (fr i) ∧ M 8 (fr i) ≤ 99 := fun i a b => by have q := hF.1 i a (by omega); have r := okr.2 (fr i) q.1.1 (by omega); omega
  refine g_callV F (stk := [.ref (ma 100)]) (st := []) (k_X6_layFree κ ma (mA M 10 (fun _ => 0)) okr) cal_X6_layFree lm_X6_267 0 rfl rfl rfl rfl (by decide) rfl (Nat.le_of_ble_eq_true rfl) dX6_placed_6 (fun ws6 _ hr6 => ?_)
  obtain rfl := hr6
  refine g_ws (ws' := mw κ ma (mA (mA (mA M 10 (fun _ => 0)) 31 (fun _ => frc (M 9) (M 5 0))) 30 (flA (M 30) (M 9) (M 5 0)))) rfl ?_
  refine g_ws (ws' := mw κ ma (mA (mA (mA M 10 (fun _ => 0)) 31 (fun _ => n)) 30 fr)) (by rw [hnn, hfr]) ?_
  refine g_iload_n F 1 dX6_placed_9 rfl ?_
  refine g_i2l F (by omega) dX6_placed_10 ?_
  refine g_ldc2 F (z := -1) ll_X6_270 (by decide +kernel) dX6_placed_11 ?_
  refine g_aload_n F 0 dX6_placed_14 rfl ?_
  refine gm_get_5 F dX6_placed_15 ?_
  refine g_top (y := iI (M 5 0)) rfl ?_
  refine g_iconst F dX6_placed_18 ?_
  refine g_isub F dX6_placed_19 ?_
  refine g_i2l F (by omega) dX6_placed_20 ?_
  refine g_callSI F (stk := [.long (iL ((M 5 0) - 1)), .long (iL (-1)), .long (iL p)]) (st := []) (k_X6_in κ (mw κ ma (mA (mA (mA M 10 (fun _ => 0)) 31 (fun _ => n)) 30 fr)) p (-1) ((M 5 0) - 1) (by omega)) cal_X6_in lm_X6_97 rfl (by decide) rfl (Nat.le_of_ble_eq_true rfl) dX6_placed_21 (fun r21 ws21 _ hr21 => ?_)
  obtain ⟨rfl, rfl⟩ := hr21
  refine g_if_ne F 31 (b2i_in _) dX6_placed_24 (by decide) (fun c24 => ?_) (fun c24 => ?_)
  · skip
    have c24 : (-1) ≤ p ∧ p ≤ ((M 5 0) - 1) := b2i_t c24
    refine g_aload_n F 0 dX6_placed_31 rfl ?_
    refine gm_get_31 F dX6_placed_32 ?_
    refine g_top (y := iI n) rfl ?_
    refine g_iconst F dX6_placed_35 ?_
    refine g_icmp_le F 44 (by omega) dX6_placed_36 (by decide) (fun c36 => ?_) (fun c36 => ?_)
    · skip
      refine g_iconst F dX6_placed_44 ?_
      refine g_istore_n F (lv' := [(2, .int (iI 0)), (0, .ref (ma 100)), (1, .int (iI p))]) 2 dX6_placed_45 rfl (by decide) rfl ?_
      refine g_iload_n F 0 dX6_placed_46 rfl ?_
      refine g_if_ge F 56 (by omega) dX6_placed_47 (by decide) (fun c47 => ?_) (fun c47 => ?_)
      · skip
        refine g_aload_n F 1 dX6_placed_56 rfl ?_
        refine gm_get_31 F dX6_placed_57 ?_
        refine g_top (y := iI n) rfl ?_
        refine g_if_ne F 66 (by omega) dX6_placed_60 (by decide) (fun c60 => ?_) (fun c60 => ?_)
        · skip
          refine g_iconst F dX6_placed_66 ?_
          refine g_istore_n F (lv' := [(3, .int (iI 1)), (2, .int (iI 0)), (0, .ref (ma 100)), (1, .int (iI p))]) 3 dX6_placed_67 rfl (by decide) rfl ?_
          refine g_iconst F dX6_placed_68 ?_
          refine g_istore F (lv' := [(4, .int (iI 0)), (3, .int (iI 1)), (2, .int (iI 0)), (0, .ref (ma 100)), (1, .int (iI p))]) dX6_placed_69 (by decide) rfl ?_
          have L71 : ∀ (mz71 : Nat) (i : Int) (cd : Int), (n - i).toNat = mz71 → (0 ≤ i ∧ i ≤ n) → (cd = pwT i) → (1 ≤ cd ∧ cd ≤ 1728) → G E (mw κ ma (mA (mA (mA M 10 (fun _ => 0)) 31 (fun _ => n)) 30 fr)) [(4, .int (iI i)), (3, .int (iI cd)), (0, .ref (ma 100)), (1, .int (iI p))] 71 [] := by
            intro mz71
            induction mz71 using Nat.strongRecOn with
            | _ mz71 ih71 =>
            intro i cd hmz71 hi hcd hcdb
            refine g_iload F 0 dX6_placed_71 rfl ?_
            refine g_aload_n F 2 dX6_placed_73 rfl ?_
            refine gm_get_31 F dX6_placed_74 ?_
            refine g_top (y := iI n) rfl ?_
            refine g_icmp_ge F 91 (by omega) dX6_placed_77 (by decide) (fun c77 => ?_) (fun c77 => ?_)
            · skip
              have hce : cd = pwT n := by rw [hcd, show i = n by omega]
              have hcb := pwT_bd n
              refine g_iconst F dX6_placed_91 ?_
              refine g_istore F (lv' := [(4, .int (iI (-1))), (3, .int (iI cd)), (0, .ref (ma 100)), (1, .int (iI p))]) dX6_placed_92 (by decide) rfl ?_
              refine g_aload_n F 2 dX6_placed_94 rfl ?_
              refine g_callV F (stk := [.ref (ma 100)]) (st := []) (k_X6_think κ ma (mA (mA (mA M 10 (fun _ => 0)) 31 (fun _ => n)) 30 fr)) cal_X6_think lm_X6_191 0 rfl rfl rfl rfl (by decide) rfl (Nat.le_of_ble_eq_true rfl) dX6_placed_95 (fun ws95 _ hr95 => ?_)
              obtain rfl := hr95
              refine g_ws (ws' := mw κ ma (thk (mA (mA (mA M 10 (fun _ => 0)) 31 (fun _ => n)) 30 fr))) rfl ?_
              refine g_iconst F dX6_placed_98 ?_
              refine g_istore F (lv' := [(5, .int (iI 0)), (4, .int (iI (-1))), (3, .int (iI cd)), (0, .ref (ma 100)), (1, .int (iI p))]) dX6_placed_99 (by decide) rfl ?_
              have L101 : ∀ (mz101 : Nat) (k : Int) (l : Int) (b : Int) (g : Int → Int) (Gm : MS), (cd - k).toNat = mz101 → (0 ≤ k ∧ k ≤ cd) → (-1 ≤ l ∧ l ≤ 3000) → (plI (cl M) (M 6) (M 7) (M 8) fr n k l b g) → G E (mw κ ma (mA (mA (mA (tst M Gm) 31 (fun _ => n)) 30 fr) 33 g)) [(5, .int (iI k)), (4, .int (iI l)), (3, .int (iI cd)), (0, .ref (ma 100)), (1, .int (iI p))] 101 [] := by
                intro mz101
                induction mz101 using Nat.strongRecOn with
                | _ mz101 ih101 =>
                intro k l b g Gm hmz101 hk hlr hs
                refine g_iload F 0 dX6_placed_101 rfl ?_
                refine g_iload_n F 2 dX6_placed_103 rfl ?_
                refine g_icmp_ge F 279 (by omega) dX6_placed_104 (by decide) (fun c104 => ?_) (fun c104 => ?_)
                · skip
                  have he := pl_end hs (by omega) (by omega) (fun a => (allPull_bd (asC_ok ok hpr (a := a)).A).2)
                  refine g_bipush F dX6_placed_279 (by decide +kernel) ?_
                  refine g_istore F (lv' := [(5, .int (iI (-9))), (4, .int (iI l)), (3, .int (iI cd)), (0, .ref (ma 100)), (1, .int (iI p))]) dX6_placed_281 (by decide) rfl ?_
                  refine g_iconst F dX6_placed_283 ?_
                  refine g_istore F (lv' := [(6, .int (iI 0)), (5, .int (iI (-9))), (4, .int (iI l)), (3, .int (iI cd)), (0, .ref (ma 100)), (1, .int (iI p))]) dX6_placed_284 (by decide) rfl ?_
                  have L286 : ∀ (mz286 : Nat) (i5 : Int) (fd : Int), (n - i5).toNat = mz286 → (0 ≤ i5 ∧ i5 ≤ n) → (fdI (M 9) g p i5 fd) → G E (mw κ ma (mA (mA (mA (tst M Gm) 31 (fun _ => n)) 30 fr) 33 g)) [(6, .int (iI i5)), (5, .int (iI fd)), (4, .int (iI l)), (0, .ref (ma 100)), (1, .int (iI p))] 286 [] := by
                    intro mz286
                    induction mz286 using Nat.strongRecOn with
                    | _ mz286 ih286 =>
                    intro i5 fd hmz286 hi5 hfd5
                    refine g_iload F 0 dX6_placed_286 rfl ?_
                    refine g_aload_n F 3 dX6_placed_288 rfl ?_
                    refine gm_get_31 F dX6_placed_289 ?_
                    refine g_top (y := iI n) rfl ?_
                    refine g_icmp_ge F 326 (by omega) dX6_placed_292 (by decide) (fun c292 => ?_) (fun c292 => ?_)
                    · skip
                      refine g_iload_n F 4 dX6_placed_326 rfl ?_
                      refine g_if_ge F 335 (by omega) dX6_placed_327 (by decide) (fun c327 => ?_) (fun c327 => ?_)
                      · skip
                        refine g_iload F 1 dX6_placed_335 rfl ?_
                        have hgb : 0 ≤ p → -9 ≤ fd ∧ fd ≤ 11 ∧ (fd = -9 ∨ 0 ≤ fd) := fun p0 => by rcases hfd5 p0 with ⟨⟨q1, q2⟩, q3⟩ | ⟨q1, q2⟩; (rw [q3, he.2.2 _ (frc_bd (M 9) p0).1 (by omega)]; have h := dg_bd n b (frc (M 9) p); have h2 := h.2.2 (frc_bd (M 9) p0).1 (by omega); omega); omega
                        have hq : fd = qPlaced (cl M) (M 6) (M 7) (M 8) (M 9) (M 5 0) p := by unfold qPlaced; rw [if_neg (by omega), ← hnn, if_neg (by omega), if_neg (by omega)]; first | (rw [if_pos (by omega), ← sPl_fr _ _ _ _ hfE, he.2.1]) | (rw [if_neg (by omega), ← sPl_fr _ _ _ _ hfE, he.2.1]; have h5 : i5 = n := (by omega); rw [h5] at hfd5; rcases hfd5 (by omega) with ⟨⟨q1, q2⟩, q3⟩ | ⟨q1, q2⟩; (rw [if_pos q1, q3]; exact he.2.2 _ (frc_bd (M 9) (by omega)).1 q2); (rw [if_neg (fun z => q1 ⟨z, by have := (hF.2 p (by omega) (by omega) z).2; omega⟩)]; exact q2))
                        exact K mw_same ⟨_, rfl, iIc hq, ⟨rfl, rfl, rfl, rfl, rfl, rfl, rfl, rfl, rfl, rfl, rfl, rfl, rfl, rfl, rfl, rfl, rfl, rfl⟩, (by rw [← hq]; show M 11 = _; exact (rfa_n (by omega)).symm)⟩ rfl dX6_placed_337
                      · skip
                        refine g_iload F 2 dX6_placed_330 rfl ?_
                        refine g_goto F 337 dX6_placed_332 (by decide) ?_
                        have hgb : 0 ≤ p → -9 ≤ fd ∧ fd ≤ 11 ∧ (fd = -9 ∨ 0 ≤ fd) := fun p0 => by rcases hfd5 p0 with ⟨⟨q1, q2⟩, q3⟩ | ⟨q1, q2⟩; (rw [q3, he.2.2 _ (frc_bd (M 9) p0).1 (by omega)]; have h := dg_bd n b (frc (M 9) p); have h2 := h.2.2 (frc_bd (M 9) p0).1 (by omega); omega); omega
                        have hq : l = qPlaced (cl M) (M 6) (M 7) (M 8) (M 9) (M 5 0) p := by unfold qPlaced; rw [if_neg (by omega), ← hnn, if_neg (by omega), if_neg (by omega)]; first | (rw [if_pos (by omega), ← sPl_fr _ _ _ _ hfE, he.2.1]) | (rw [if_neg (by omega), ← sPl_fr _ _ _ _ hfE, he.2.1]; have h5 : i5 = n := (by omega); rw [h5] at hfd5; rcases hfd5 (by omega) with ⟨⟨q1, q2⟩, q3⟩ | ⟨q1, q2⟩; (rw [if_pos q1, q3]; exact he.2.2 _ (frc_bd (M 9) (by omega)).1 q2); (rw [if_neg (fun z => q1 ⟨z, by have := (hF.2 p (by omega) (by omega) z).2; omega⟩)]; exact q2))
                        exact K mw_same ⟨_, rfl, iIc hq, ⟨rfl, rfl, rfl, rfl, rfl, rfl, rfl, rfl, rfl, rfl, rfl, rfl, rfl, rfl, rfl, rfl, rfl, rfl⟩, (by rw [← hq]; show M 11 = _; exact (rfa_n (by omega)).symm)⟩ rfl dX6_placed_337
                    · skip
                      have hfi := hF.1 i5 hi5.1 (by omega)
                      refine g_aload_n F 3 dX6_placed_295 rfl ?_
                      refine gm_get_30 F dX6_placed_296 ?_
                      refine g_iload F 0 dX6_placed_299 rfl ?_
                      refine gm_ald_30 F (by omega) dX6_placed_301 ?_
                      refine g_top (y := iI (fr i5)) rfl ?_
                      refine g_iload_n F 4 dX6_placed_302 rfl ?_
                      refine g_icmp_ne F 316 (by omega) dX6_placed_303 (by decide) (fun c303 => ?_) (fun c303 => ?_)
                      · skip
                        refine g_iload F 1 dX6_placed_316 rfl ?_
                        refine g_istore F (lv' := [(5, .int (iI fd)), (6, .int (iI i5)), (4, .int (iI l)), (0, .ref (ma 100)), (1, .int (iI p))]) dX6_placed_318 (by decide) rfl ?_
                        refine g_iinc F (lv' := [(6, .int (iI (i5 + 1))), (5, .int (iI fd)), (4, .int (iI l)), (0, .ref (ma 100)), (1, .int (iI p))]) 1 dX6_placed_320 rfl (by decide) rfl ?_
                        refine g_goto F 286 dX6_placed_323 (by decide) ?_
                        refine g_sub F (lv' := [(6, .int (iI (i5 + 1))), (5, .int (iI fd)), (4, .int (iI l)), (0, .ref (ma 100)), (1, .int (iI p))]) [0, 1, 2, 3, 4] rfl ?_
                        exact ih286 _ (by omega) (i5 + 1) fd rfl (by omega) (by first | exact fd_t hF hi5.1 (by omega) c303 | exact fd_f hF (by omega) hfd5 c303)
                      · skip
                        refine g_aload_n F 3 dX6_placed_306 rfl ?_
                        refine gm_get_33 F dX6_placed_307 ?_
                        refine g_iload F 0 dX6_placed_310 rfl ?_
                        refine gm_ald_33 F (by omega) dX6_placed_312 ?_
                        refine g_top (y := iI (g i5)) rfl ?_
                        refine g_goto F 318 dX6_placed_313 (by decide) ?_
                        refine g_istore F (lv' := [(5, .int (iI (g i5))), (6, .int (iI i5)), (4, .int (iI l)), (0, .ref (ma 100)), (1, .int (iI p))]) dX6_placed_318 (by decide) rfl ?_
                        refine g_iinc F (lv' := [(6, .int (iI (i5 + 1))), (5, .int (iI (g i5))), (4, .int (iI l)), (0, .ref (ma 100)), (1, .int (iI p))]) 1 dX6_placed_320 rfl (by decide) rfl ?_
                        refine g_goto F 286 dX6_placed_323 (by decide) ?_
                        refine g_sub F (lv' := [(6, .int (iI (i5 + 1))), (5, .int (iI (g i5))), (4, .int (iI l)), (0, .ref (ma 100)), (1, .int (iI p))]) [0, 1, 2, 3, 4] rfl ?_
                        exact ih286 _ (by omega) (i5 + 1) (g i5) rfl (by omega) (by first | exact fd_t hF hi5.1 (by omega) c303 | exact fd_f hF (by omega) hfd5 c303)
                  refine g_sub F (lv' := [(6, .int (iI 0)), (5, .int (iI (-9))), (4, .int (iI l)), (0, .ref (ma 100)), (1, .int (iI p))]) [0, 1, 2, 4, 5] rfl ?_
                  exact L286 _ 0 (-9) rfl (by omega) (fun p0 => Or.inr ⟨fun z => by have := (frc_bd (M 9) p0).1; omega, rfl⟩)
                · skip
                  refine g_iload_n F 2 dX6_placed_107 rfl ?_
                  refine g_istore F (lv' := [(6, .int (iI cd)), (5, .int (iI k)), (4, .int (iI l)), (3, .int (iI cd)), (0, .ref (ma 100)), (1, .int (iI p))]) dX6_placed_108 (by decide) rfl ?_
                  refine g_iconst F dX6_placed_110 ?_
                  refine g_istore F (lv' := [(7, .int (iI 0)), (6, .int (iI cd)), (5, .int (iI k)), (4, .int (iI l)), (3, .int (iI cd)), (0, .ref (ma 100)), (1, .int (iI p))]) dX6_placed_111 (by decide) rfl ?_
                  have L113 : ∀ (mz113 : Nat) (i2 : Int) (y : Int) (f : Int → Int), (n - i2).toNat = mz113 → (0 ≤ i2 ∧ i2 ≤ n) → (y = pwT (n - i2)) → (∀ j : Int, 0 ≤ j → j < i2 → f j = dgA n k j) → G E (mw κ ma (mA (mA (mA (mA (tst M Gm) 31 (fun _ => n)) 30 fr) 33 g) 32 f)) [(7, .int (iI i2)), (6, .int (iI y)), (5, .int (iI k)), (4, .int (iI l)), (3, .int (iI cd)), (0, .ref (ma 100)), (1, .int (iI p))] 113 [] := by
                    intro mz113
                    induction mz113 using Nat.strongRecOn with
                    | _ mz113 ih113 =>
                    intro i2 y f hmz113 hi2 hy2 hf
                    refine g_iload F 0 dX6_placed_113 rfl ?_
                    refine g_aload_n F 5 dX6_placed_115 rfl ?_
                    refine gm_get_31 F dX6_placed_116 ?_
                    refine g_top (y := iI n) rfl ?_
                    refine g_icmp_ge F 150 (by omega) dX6_placed_119 (by decide) (fun c119 => ?_) (fun c119 => ?_)
                    · skip
                      have hfd : ∀ j : Int, 0 ≤ j → j < n → f j = dgA n k j := fun j a b => hf j a (by omega)
                      have hr : ∀ j : Int, 0 ≤ j → j < n → 0 ≤ f j ∧ f j < 12 := fun j a b => by rw [hfd j a b]; have h := dg_bd n k j; exact ⟨h.2.2 a b, h.2.1⟩
                      refine g_aload_n F 5 dX6_placed_150 rfl ?_
                      refine g_callI F (stk := [.ref (ma 100)]) (st := []) (k_X6_areApart κ ma (mA (mA (mA (mA (tst M Gm) 31 (fun _ => n)) 30 fr) 33 g) 32 f) (show 0 ≤ n ∧ n ≤ 3 from by omega) hr) cal_X6_areApart lm_X6_272 0 rfl rfl rfl rfl (by decide) rfl (Nat.le_of_ble_eq_true rfl) dX6_placed_151 (fun r151 ws151 _ hr151 => ?_)
                      obtain ⟨rfl, rfl⟩ := hr151
                      refine g_top (y := iI (b2i (apP f (n)))) rfl ?_
                      refine g_if_eq F 273 (b2i_in _) dX6_placed_154 (by decide) (fun c154 => ?_) (fun c154 => ?_)
                      · skip
                        have c154 : ¬ (apP f (n)) := b2i_f c154
                        have hnp : ¬ apP (dgA n k) n := fun q => c154 ((apP_eq hfd).mpr q)
                        refine g_iinc F (lv' := [(5, .int (iI (k + 1))), (7, .int (iI i2)), (6, .int (iI y)), (4, .int (iI l)), (3, .int (iI cd)), (0, .ref (ma 100)), (1, .int (iI p))]) 2 dX6_placed_273 rfl (by decide) rfl ?_
                        refine g_goto F 101 dX6_placed_276 (by decide) ?_
                        refine g_sub F (lv' := [(5, .int (iI (k + 1))), (4, .int (iI l)), (3, .int (iI cd)), (0, .ref (ma 100)), (1, .int (iI p))]) [0, 3, 4, 5, 6] rfl ?_
                        refine g_ws (ws' := mw κ ma (mA (mA (mA (tst M (mA (mA (mA (mA (tst M Gm) 31 (fun _ => n)) 30 fr) 33 g) 32 f)) 31 (fun _ => n)) 30 fr) 33 g)) (pl_n1 M _ n fr g f) ?_
                        exact ih101 _ (ms_dec hmz101 (by omega)) (k + 1) l b g (mA (mA (mA (mA (tst M Gm) 31 (fun _ => n)) 30 fr) 33 g) 32 f) rfl (by omega) (by omega) (pl_n hs hk.1 hnp)
                      · skip
                        have c154 : apP f (n) := b2i_t c154
                        have hap : apP (dgA n k) n := (apP_eq hfd).mp c154
                        refine g_iconst F dX6_placed_157 ?_
                        refine g_istore F (lv' := [(7, .int (iI 0)), (6, .int (iI y)), (5, .int (iI k)), (4, .int (iI l)), (3, .int (iI cd)), (0, .ref (ma 100)), (1, .int (iI p))]) dX6_placed_158 (by decide) rfl ?_
                        have L160 : ∀ (mz160 : Nat) (i3 : Int) (uu : Int → Int), (n - i3).toNat = mz160 → (0 ≤ i3 ∧ i3 ≤ n) → G E (mw κ ma (mA (stC (mA (mA (mA (mA (tst M Gm) 31 (fun _ => n)) 30 fr) 33 g) 32 f) (asC (cl M) (M 6) (M 7) (M 8) fr (dgU n k i3) n)) 9 uu)) [(7, .int (iI i3)), (5, .int (iI k)), (4, .int (iI l)), (3, .int (iI cd)), (0, .ref (ma 100)), (1, .int (iI p))] 160 [] := by
                          intro mz160
                          induction mz160 using Nat.strongRecOn with
                          | _ mz160 ih160 =>
                          intro i3 uu hmz160 hi3
                          refine g_iload F 0 dX6_placed_160 rfl ?_
                          refine g_aload_n F 4 dX6_placed_162 rfl ?_
                          refine gm_get_31 F dX6_placed_163 ?_
                          refine g_top (y := iI n) rfl ?_
                          refine g_icmp_ge F 193 (by omega) dX6_placed_166 (by decide) (fun c166 => ?_) (fun c166 => ?_)
                          · skip
                            have hlb : 0 ≤ leaf (cl M) (M 6) (M 7) (M 8) fr n (dgA n k) ∧ leaf (cl M) (M 6) (M 7) (M 8) fr n (dgA n k) ≤ 3000 := allPull_bd (asC_ok ok hpr).A
                            refine g_aload_n F 4 dX6_placed_193 rfl ?_
                            refine g_callI F (stk := [.ref (ma 100)]) (st := []) (k_X6_allPull κ ma (mA (stC (mA (mA (mA (mA (tst M Gm) 31 (fun _ => n)) 30 fr) 33 g) 32 f) (asC (cl M) (M 6) (M 7) (M 8) fr (dgU n k i3) n)) 9 uu) (asC_ok ok hpr).A) cal_X6_allPull lm_X6_234 0 rfl rfl rfl rfl (by decide) rfl (Nat.le_of_ble_eq_true rfl) dX6_placed_194 (fun r194 ws194 _ hr194 => ?_)
                            obtain ⟨rfl, rfl⟩ := hr194
                            refine g_top (y := iI (allPull (asC (cl M) (M 6) (M 7) (M 8) fr (dgU n k i3) n))) rfl ?_
                            refine g_top (y := iI (leaf (cl M) (M 6) (M 7) (M 8) fr n (dgA n k))) (iIc (by rw [show i3 = n by omega]; show allPull (asC _ _ _ _ _ (dgU n k n) n) = _; rw [asC_at _ _ _ _ _ (dgU_all (n := n) (k := k))])) ?_
                            refine g_istore F (lv' := [(7, .int (iI (leaf (cl M) (M 6) (M 7) (M 8) fr n (dgA n k)))), (5, .int (iI k)), (4, .int (iI l)), (3, .int (iI cd)), (0, .ref (ma 100)), (1, .int (iI p))]) dX6_placed_197 (by decide) rfl ?_
                            refine g_aload_n F 4 dX6_placed_199 rfl ?_
                            refine g_callV F (stk := [.ref (ma 100)]) (st := []) (k_X6_again κ ma (mA (stC (mA (mA (mA (mA (tst M Gm) 31 (fun _ => n)) 30 fr) 33 g) 32 f) (asC (cl M) (M 6) (M 7) (M 8) fr (dgU n k i3) n)) 9 uu) M (fun _ _ _ => rfl)) cal_X6_again lm_X6_197 0 rfl rfl rfl rfl (by decide) rfl (Nat.le_of_ble_eq_true rfl) dX6_placed_200 (fun ws200 _ hr200 => ?_)
                            obtain rfl := hr200
                            refine g_iload F 2 dX6_placed_203 rfl ?_
                            refine g_if_lt F 215 (by omega) dX6_placed_205 (by decide) (fun c205 => ?_) (fun c205 => ?_)
                            · skip
                              refine g_iconst F dX6_placed_215 ?_
                              refine g_goto F 220 dX6_placed_216 (by decide) ?_
                              refine g_istore F (lv' := [(8, .int (iI 1)), (7, .int (iI (leaf (cl M) (M 6) (M 7) (M 8) fr n (dgA n k)))), (5, .int (iI k)), (4, .int (iI l)), (3, .int (iI cd)), (0, .ref (ma 100)), (1, .int (iI p))]) dX6_placed_220 (by decide) rfl ?_
                              refine g_iload F 0 dX6_placed_222 rfl ?_
                              refine g_if_eq F 232 (by omega) dX6_placed_224 (by decide) (fun c224 => ?_) (fun c224 => ?_)
                              · skip
                                exact absurd trivial (by omega)
                              · skip
                                refine g_iload F 1 dX6_placed_227 rfl ?_
                                refine g_goto F 234 dX6_placed_229 (by decide) ?_
                                refine g_istore F (lv' := [(4, .int (iI (leaf (cl M) (M 6) (M 7) (M 8) fr n (dgA n k)))), (8, .int (iI 1)), (7, .int (iI (leaf (cl M) (M 6) (M 7) (M 8) fr n (dgA n k)))), (5, .int (iI k)), (3, .int (iI cd)), (0, .ref (ma 100)), (1, .int (iI p))]) dX6_placed_234 (by decide) rfl ?_
                                refine g_iconst F dX6_placed_236 ?_
                                refine g_istore F (lv' := [(9, .int (iI 0)), (4, .int (iI (leaf (cl M) (M 6) (M 7) (M 8) fr n (dgA n k)))), (8, .int (iI 1)), (7, .int (iI (leaf (cl M) (M 6) (M 7) (M 8) fr n (dgA n k)))), (5, .int (iI k)), (3, .int (iI cd)), (0, .ref (ma 100)), (1, .int (iI p))]) dX6_placed_237 (by decide) rfl ?_
                                have L239 : ∀ (mz239 : Nat) (i4 : Int) (g2 : Int → Int) (G2 : MS), (n - i4).toNat = mz239 → (0 ≤ i4 ∧ i4 ≤ n) → (∀ j : Int, 0 ≤ j → j < i4 → g2 j = dgA n k j) → (1 = 1 ∨ (i4 = 0 ∧ g2 = g)) → G E (mw κ ma (mA (mA (mA (mA (tst M G2) 31 (fun _ => n)) 30 fr) 32 f) 33 g2)) [(9, .int (iI i4)), (4, .int (iI (leaf (cl M) (M 6) (M 7) (M 8) fr n (dgA n k)))), (8, .int (iI 1)), (5, .int (iI k)), (3, .int (iI cd)), (0, .ref (ma 100)), (1, .int (iI p))] 239 [] := by
                                  intro mz239
                                  induction mz239 using Nat.strongRecOn with
                                  | _ mz239 ih239 =>
                                  intro i4 g2 G2 hmz239 hi4 hg2 hz
                                  refine g_iload F 0 dX6_placed_239 rfl ?_
                                  refine g_aload_n F 5 dX6_placed_241 rfl ?_
                                  refine gm_get_31 F dX6_placed_242 ?_
                                  refine g_top (y := iI n) rfl ?_
                                  refine g_icmp_ge F 273 (by omega) dX6_placed_245 (by decide) (fun c245 => ?_) (fun c245 => ?_)
                                  · skip
                                    refine g_iinc F (lv' := [(5, .int (iI (k + 1))), (9, .int (iI i4)), (4, .int (iI (leaf (cl M) (M 6) (M 7) (M 8) fr n (dgA n k)))), (8, .int (iI 1)), (3, .int (iI cd)), (0, .ref (ma 100)), (1, .int (iI p))]) 3 dX6_placed_273 rfl (by decide) rfl ?_
                                    refine g_goto F 101 dX6_placed_276 (by decide) ?_
                                    refine g_sub F (lv' := [(5, .int (iI (k + 1))), (4, .int (iI (leaf (cl M) (M 6) (M 7) (M 8) fr n (dgA n k)))), (3, .int (iI cd)), (0, .ref (ma 100)), (1, .int (iI p))]) [0, 2, 4, 5, 6] rfl ?_
                                    refine g_ws (ws' := mw κ ma (mA (mA (mA (tst M (mA (mA (mA (mA (tst M G2) 31 (fun _ => n)) 30 fr) 32 f) 33 g2)) 31 (fun _ => n)) 30 fr) 33 g2)) (pl_n2 M _ n fr _ f) ?_
                                    exact ih101 _ (ms_dec hmz101 (by omega)) (k + 1) (leaf (cl M) (M 6) (M 7) (M 8) fr n (dgA n k)) k g2 (mA (mA (mA (mA (tst M G2) 31 (fun _ => n)) 30 fr) 32 f) 33 g2) rfl (by omega) (by omega) (pl_b hs hk.1 hap hlb (by omega) (fun j a b => hg2 j a (by omega)))
                                  · skip
                                    refine g_iload F 2 dX6_placed_248 rfl ?_
                                    refine g_if_eq F 273 (by omega) dX6_placed_250 (by decide) (fun c250 => ?_) (fun c250 => ?_)
                                    · skip
                                      exact absurd trivial (by omega)
                                    · skip
                                      refine g_aload_n F 5 dX6_placed_253 rfl ?_
                                      refine gm_get_33 F dX6_placed_254 ?_
                                      refine g_iload F 0 dX6_placed_257 rfl ?_
                                      refine g_aload_n F 5 dX6_placed_259 rfl ?_
                                      refine gm_get_32 F dX6_placed_260 ?_
                                      refine g_iload F 0 dX6_placed_263 rfl ?_
                                      refine gm_ald_32 F (by omega) dX6_placed_265 ?_
                                      refine g_top (y := iI (f i4)) rfl ?_
                                      refine gm_astS_33 F (by omega) dX6_placed_266 ?_
                                      refine g_iinc F (lv' := [(9, .int (iI (i4 + 1))), (4, .int (iI (leaf (cl M) (M 6) (M 7) (M 8) fr n (dgA n k)))), (8, .int (iI 1)), (5, .int (iI k)), (3, .int (iI cd)), (0, .ref (ma 100)), (1, .int (iI p))]) 0 dX6_placed_267 rfl (by decide) rfl ?_
                                      refine g_goto F 239 dX6_placed_270 (by decide) ?_
                                      refine g_sub F (lv' := [(9, .int (iI (i4 + 1))), (4, .int (iI (leaf (cl M) (M 6) (M 7) (M 8) fr n (dgA n k)))), (8, .int (iI 1)), (5, .int (iI k)), (3, .int (iI cd)), (0, .ref (ma 100)), (1, .int (iI p))]) [0, 1, 2, 3, 4, 5, 6] rfl ?_
                                      exact ih239 _ (by omega) (i4 + 1) (uI g2 i4 (f i4)) G2 rfl (by omega) (fun j a b => by by_cases q : j = i4 <;> first | (rw [q, uI_s]; exact hfd i4 hi4.1 (by omega)) | (rw [uI_n q]; exact hg2 j a (by omega))) (Or.inl rfl)
                                refine g_sub F (lv' := [(9, .int (iI 0)), (4, .int (iI (leaf (cl M) (M 6) (M 7) (M 8) fr n (dgA n k)))), (8, .int (iI 1)), (5, .int (iI k)), (3, .int (iI cd)), (0, .ref (ma 100)), (1, .int (iI p))]) [0, 1, 2, 4, 5, 6, 7] rfl ?_
                                refine g_ws (ws' := mw κ ma (mA (mA (mA (mA (tst M (agn (mA (stC (mA (mA (mA (mA (tst M Gm) 31 (fun _ => n)) 30 fr) 33 g) 32 f) (asC (cl M) (M 6) (M 7) (M 8) fr (dgU n k i3) n)) 9 uu) M)) 31 (fun _ => n)) 30 fr) 32 f) 33 g)) rfl ?_
                                exact L239 _ 0 g (agn (mA (stC (mA (mA (mA (mA (tst M Gm) 31 (fun _ => n)) 30 fr) 33 g) 32 f) (asC (cl M) (M 6) (M 7) (M 8) fr (dgU n k i3) n)) 9 uu) M) rfl (by omega) (fun j a b => absurd b (by omega)) (by first | exact Or.inl rfl | exact Or.inr ⟨rfl, rfl⟩)
                            · skip
                              refine g_iload F 0 dX6_placed_208 rfl ?_
                              refine g_iload F 2 dX6_placed_210 rfl ?_
                              refine g_icmp_ge F 219 (by omega) dX6_placed_212 (by decide) (fun c212 => ?_) (fun c212 => ?_)
                              · skip
                                refine g_iconst F dX6_placed_219 ?_
                                refine g_istore F (lv' := [(8, .int (iI 0)), (7, .int (iI (leaf (cl M) (M 6) (M 7) (M 8) fr n (dgA n k)))), (5, .int (iI k)), (4, .int (iI l)), (3, .int (iI cd)), (0, .ref (ma 100)), (1, .int (iI p))]) dX6_placed_220 (by decide) rfl ?_
                                refine g_iload F 0 dX6_placed_222 rfl ?_
                                refine g_if_eq F 232 (by omega) dX6_placed_224 (by decide) (fun c224 => ?_) (fun c224 => ?_)
                                · skip
                                  refine g_iload F 3 dX6_placed_232 rfl ?_
                                  refine g_istore F (lv' := [(4, .int (iI l)), (8, .int (iI 0)), (7, .int (iI (leaf (cl M) (M 6) (M 7) (M 8) fr n (dgA n k)))), (5, .int (iI k)), (3, .int (iI cd)), (0, .ref (ma 100)), (1, .int (iI p))]) dX6_placed_234 (by decide) rfl ?_
                                  refine g_iconst F dX6_placed_236 ?_
                                  refine g_istore F (lv' := [(9, .int (iI 0)), (4, .int (iI l)), (8, .int (iI 0)), (7, .int (iI (leaf (cl M) (M 6) (M 7) (M 8) fr n (dgA n k)))), (5, .int (iI k)), (3, .int (iI cd)), (0, .ref (ma 100)), (1, .int (iI p))]) dX6_placed_237 (by decide) rfl ?_
                                  have L239 : ∀ (mz239 : Nat) (i4 : Int) (g2 : Int → Int) (G2 : MS), (n - i4).toNat = mz239 → (0 ≤ i4 ∧ i4 ≤ n) → (∀ j : Int, 0 ≤ j → j < i4 → g2 j = dgA n k j) → (0 = 1 ∨ (i4 = 0 ∧ g2 = g)) → G E (mw κ ma (mA (mA (mA (mA (tst M G2) 31 (fun _ => n)) 30 fr) 32 f) 33 g2)) [(9, .int (iI i4)), (4, .int (iI l)), (8, .int (iI 0)), (5, .int (iI k)), (3, .int (iI cd)), (0, .ref (ma 100)), (1, .int (iI p))] 239 [] := by
                                    intro mz239
                                    induction mz239 using Nat.strongRecOn with
                                    | _ mz239 ih239 =>
                                    intro i4 g2 G2 hmz239 hi4 hg2 hz
                                    refine g_iload F 0 dX6_placed_239 rfl ?_
                                    refine g_aload_n F 5 dX6_placed_241 rfl ?_
                                    refine gm_get_31 F dX6_placed_242 ?_
                                    refine g_top (y := iI n) rfl ?_
                                    refine g_icmp_ge F 273 (by omega) dX6_placed_245 (by decide) (fun c245 => ?_) (fun c245 => ?_)
                                    · skip
                                      refine g_iinc F (lv' := [(5, .int (iI (k + 1))), (9, .int (iI i4)), (4, .int (iI l)), (8, .int (iI 0)), (3, .int (iI cd)), (0, .ref (ma 100)), (1, .int (iI p))]) 3 dX6_placed_273 rfl (by decide) rfl ?_
                                      refine g_goto F 101 dX6_placed_276 (by decide) ?_
                                      refine g_sub F (lv' := [(5, .int (iI (k + 1))), (4, .int (iI l)), (3, .int (iI cd)), (0, .ref (ma 100)), (1, .int (iI p))]) [0, 2, 4, 5, 6] rfl ?_
                                      refine g_ws (ws' := mw κ ma (mA (mA (mA (tst M (mA (mA (mA (mA (tst M G2) 31 (fun _ => n)) 30 fr) 32 f) 33 g2)) 31 (fun _ => n)) 30 fr) 33 g2)) (pl_n2 M _ n fr _ f) ?_
                                      exact ih101 _ (ms_dec hmz101 (by omega)) (k + 1) l b g2 (mA (mA (mA (mA (tst M G2) 31 (fun _ => n)) 30 fr) 32 f) 33 g2) rfl (by omega) (by omega) (pl_w hs hk.1 (by omega) (by omega) (hz.resolve_left (by decide)).2)
                                    · skip
                                      refine g_iload F 2 dX6_placed_248 rfl ?_
                                      refine g_if_eq F 273 (by omega) dX6_placed_250 (by decide) (fun c250 => ?_) (fun c250 => ?_)
                                      · skip
                                        refine g_iinc F (lv' := [(5, .int (iI (k + 1))), (9, .int (iI i4)), (4, .int (iI l)), (8, .int (iI 0)), (3, .int (iI cd)), (0, .ref (ma 100)), (1, .int (iI p))]) 3 dX6_placed_273 rfl (by decide) rfl ?_
                                        refine g_goto F 101 dX6_placed_276 (by decide) ?_
                                        refine g_sub F (lv' := [(5, .int (iI (k + 1))), (4, .int (iI l)), (3, .int (iI cd)), (0, .ref (ma 100)), (1, .int (iI p))]) [0, 2, 4, 5, 6] rfl ?_
                                        refine g_ws (ws' := mw κ ma (mA (mA (mA (tst M (mA (mA (mA (mA (tst M G2) 31 (fun _ => n)) 30 fr) 32 f) 33 g2)) 31 (fun _ => n)) 30 fr) 33 g2)) (pl_n2 M _ n fr _ f) ?_
                                        exact ih101 _ (ms_dec hmz101 (by omega)) (k + 1) l b g2 (mA (mA (mA (mA (tst M G2) 31 (fun _ => n)) 30 fr) 32 f) 33 g2) rfl (by omega) (by omega) (pl_w hs hk.1 (by omega) (by omega) (hz.resolve_left (by decide)).2)
                                      · skip
                                        exact absurd trivial (by omega)
                                  refine g_sub F (lv' := [(9, .int (iI 0)), (4, .int (iI l)), (8, .int (iI 0)), (5, .int (iI k)), (3, .int (iI cd)), (0, .ref (ma 100)), (1, .int (iI p))]) [0, 1, 2, 4, 5, 6, 7] rfl ?_
                                  refine g_ws (ws' := mw κ ma (mA (mA (mA (mA (tst M (agn (mA (stC (mA (mA (mA (mA (tst M Gm) 31 (fun _ => n)) 30 fr) 33 g) 32 f) (asC (cl M) (M 6) (M 7) (M 8) fr (dgU n k i3) n)) 9 uu) M)) 31 (fun _ => n)) 30 fr) 32 f) 33 g)) rfl ?_
                                  exact L239 _ 0 g (agn (mA (stC (mA (mA (mA (mA (tst M Gm) 31 (fun _ => n)) 30 fr) 33 g) 32 f) (asC (cl M) (M 6) (M 7) (M 8) fr (dgU n k i3) n)) 9 uu) M) rfl (by omega) (fun j a b => absurd b (by omega)) (by first | exact Or.inl rfl | exact Or.inr ⟨rfl, rfl⟩)
                                · skip
                                  exact absurd trivial (by omega)
                              · skip
                                refine g_iconst F dX6_placed_215 ?_
                                refine g_goto F 220 dX6_placed_216 (by decide) ?_
                                refine g_istore F (lv' := [(8, .int (iI 1)), (7, .int (iI (leaf (cl M) (M 6) (M 7) (M 8) fr n (dgA n k)))), (5, .int (iI k)), (4, .int (iI l)), (3, .int (iI cd)), (0, .ref (ma 100)), (1, .int (iI p))]) dX6_placed_220 (by decide) rfl ?_
                                refine g_iload F 0 dX6_placed_222 rfl ?_
                                refine g_if_eq F 232 (by omega) dX6_placed_224 (by decide) (fun c224 => ?_) (fun c224 => ?_)
                                · skip
                                  exact absurd trivial (by omega)
                                · skip
                                  refine g_iload F 1 dX6_placed_227 rfl ?_
                                  refine g_goto F 234 dX6_placed_229 (by decide) ?_
                                  refine g_istore F (lv' := [(4, .int (iI (leaf (cl M) (M 6) (M 7) (M 8) fr n (dgA n k)))), (8, .int (iI 1)), (7, .int (iI (leaf (cl M) (M 6) (M 7) (M 8) fr n (dgA n k)))), (5, .int (iI k)), (3, .int (iI cd)), (0, .ref (ma 100)), (1, .int (iI p))]) dX6_placed_234 (by decide) rfl ?_
                                  refine g_iconst F dX6_placed_236 ?_
                                  refine g_istore F (lv' := [(9, .int (iI 0)), (4, .int (iI (leaf (cl M) (M 6) (M 7) (M 8) fr n (dgA n k)))), (8, .int (iI 1)), (7, .int (iI (leaf (cl M) (M 6) (M 7) (M 8) fr n (dgA n k)))), (5, .int (iI k)), (3, .int (iI cd)), (0, .ref (ma 100)), (1, .int (iI p))]) dX6_placed_237 (by decide) rfl ?_
                                  have L239 : ∀ (mz239 : Nat) (i4 : Int) (g2 : Int → Int) (G2 : MS), (n - i4).toNat = mz239 → (0 ≤ i4 ∧ i4 ≤ n) → (∀ j : Int, 0 ≤ j → j < i4 → g2 j = dgA n k j) → (1 = 1 ∨ (i4 = 0 ∧ g2 = g)) → G E (mw κ ma (mA (mA (mA (mA (tst M G2) 31 (fun _ => n)) 30 fr) 32 f) 33 g2)) [(9, .int (iI i4)), (4, .int (iI (leaf (cl M) (M 6) (M 7) (M 8) fr n (dgA n k)))), (8, .int (iI 1)), (5, .int (iI k)), (3, .int (iI cd)), (0, .ref (ma 100)), (1, .int (iI p))] 239 [] := by
                                    intro mz239
                                    induction mz239 using Nat.strongRecOn with
                                    | _ mz239 ih239 =>
                                    intro i4 g2 G2 hmz239 hi4 hg2 hz
                                    refine g_iload F 0 dX6_placed_239 rfl ?_
                                    refine g_aload_n F 5 dX6_placed_241 rfl ?_
                                    refine gm_get_31 F dX6_placed_242 ?_
                                    refine g_top (y := iI n) rfl ?_
                                    refine g_icmp_ge F 273 (by omega) dX6_placed_245 (by decide) (fun c245 => ?_) (fun c245 => ?_)
                                    · skip
                                      refine g_iinc F (lv' := [(5, .int (iI (k + 1))), (9, .int (iI i4)), (4, .int (iI (leaf (cl M) (M 6) (M 7) (M 8) fr n (dgA n k)))), (8, .int (iI 1)), (3, .int (iI cd)), (0, .ref (ma 100)), (1, .int (iI p))]) 3 dX6_placed_273 rfl (by decide) rfl ?_
                                      refine g_goto F 101 dX6_placed_276 (by decide) ?_
                                      refine g_sub F (lv' := [(5, .int (iI (k + 1))), (4, .int (iI (leaf (cl M) (M 6) (M 7) (M 8) fr n (dgA n k)))), (3, .int (iI cd)), (0, .ref (ma 100)), (1, .int (iI p))]) [0, 2, 4, 5, 6] rfl ?_
                                      refine g_ws (ws' := mw κ ma (mA (mA (mA (tst M (mA (mA (mA (mA (tst M G2) 31 (fun _ => n)) 30 fr) 32 f) 33 g2)) 31 (fun _ => n)) 30 fr) 33 g2)) (pl_n2 M _ n fr _ f) ?_
                                      exact ih101 _ (ms_dec hmz101 (by omega)) (k + 1) (leaf (cl M) (M 6) (M 7) (M 8) fr n (dgA n k)) k g2 (mA (mA (mA (mA (tst M G2) 31 (fun _ => n)) 30 fr) 32 f) 33 g2) rfl (by omega) (by omega) (pl_b hs hk.1 hap hlb (by omega) (fun j a b => hg2 j a (by omega)))
                                    · skip
                                      refine g_iload F 2 dX6_placed_248 rfl ?_
                                      refine g_if_eq F 273 (by omega) dX6_placed_250 (by decide) (fun c250 => ?_) (fun c250 => ?_)
                                      · skip
                                        exact absurd trivial (by omega)
                                      · skip
                                        refine g_aload_n F 5 dX6_placed_253 rfl ?_
                                        refine gm_get_33 F dX6_placed_254 ?_
                                        refine g_iload F 0 dX6_placed_257 rfl ?_
                                        refine g_aload_n F 5 dX6_placed_259 rfl ?_
                                        refine gm_get_32 F dX6_placed_260 ?_
                                        refine g_iload F 0 dX6_placed_263 rfl ?_
                                        refine gm_ald_32 F (by omega) dX6_placed_265 ?_
                                        refine g_top (y := iI (f i4)) rfl ?_
                                        refine gm_astS_33 F (by omega) dX6_placed_266 ?_
                                        refine g_iinc F (lv' := [(9, .int (iI (i4 + 1))), (4, .int (iI (leaf (cl M) (M 6) (M 7) (M 8) fr n (dgA n k)))), (8, .int (iI 1)), (5, .int (iI k)), (3, .int (iI cd)), (0, .ref (ma 100)), (1, .int (iI p))]) 0 dX6_placed_267 rfl (by decide) rfl ?_
                                        refine g_goto F 239 dX6_placed_270 (by decide) ?_
                                        refine g_sub F (lv' := [(9, .int (iI (i4 + 1))), (4, .int (iI (leaf (cl M) (M 6) (M 7) (M 8) fr n (dgA n k)))), (8, .int (iI 1)), (5, .int (iI k)), (3, .int (iI cd)), (0, .ref (ma 100)), (1, .int (iI p))]) [0, 1, 2, 3, 4, 5, 6] rfl ?_
                                        exact ih239 _ (by omega) (i4 + 1) (uI g2 i4 (f i4)) G2 rfl (by omega) (fun j a b => by by_cases q : j = i4 <;> first | (rw [q, uI_s]; exact hfd i4 hi4.1 (by omega)) | (rw [uI_n q]; exact hg2 j a (by omega))) (Or.inl rfl)
                                  refine g_sub F (lv' := [(9, .int (iI 0)), (4, .int (iI (leaf (cl M) (M 6) (M 7) (M 8) fr n (dgA n k)))), (8, .int (iI 1)), (5, .int (iI k)), (3, .int (iI cd)), (0, .ref (ma 100)), (1, .int (iI p))]) [0, 1, 2, 4, 5, 6, 7] rfl ?_
                                  refine g_ws (ws' := mw κ ma (mA (mA (mA (mA (tst M (agn (mA (stC (mA (mA (mA (mA (tst M Gm) 31 (fun _ => n)) 30 fr) 33 g) 32 f) (asC (cl M) (M 6) (M 7) (M 8) fr (dgU n k i3) n)) 9 uu) M)) 31 (fun _ => n)) 30 fr) 32 f) 33 g)) rfl ?_
                                  exact L239 _ 0 g (agn (mA (stC (mA (mA (mA (mA (tst M Gm) 31 (fun _ => n)) 30 fr) 33 g) 32 f) (asC (cl M) (M 6) (M 7) (M 8) fr (dgU n k i3) n)) 9 uu) M) rfl (by omega) (fun j a b => absurd b (by omega)) (by first | exact Or.inl rfl | exact Or.inr ⟨rfl, rfl⟩)
                          · skip
                            have hfi := hF.1 i3 hi3.1 (by omega)
                            have hri := hr i3 hi3.1 (by omega)
                            refine g_aload_n F 4 dX6_placed_169 rfl ?_
                            refine g_aload_n F 4 dX6_placed_170 rfl ?_
                            refine gm_get_30 F dX6_placed_171 ?_
                            refine g_iload F 0 dX6_placed_174 rfl ?_
                            refine gm_ald_30 F (by omega) dX6_placed_176 ?_
                            refine g_top (y := iI (fr i3)) rfl ?_
                            refine g_aload_n F 4 dX6_placed_177 rfl ?_
                            refine gm_get_32 F dX6_placed_178 ?_
                            refine g_iload F 0 dX6_placed_181 rfl ?_
                            refine gm_ald_32 F (by omega) dX6_placed_183 ?_
                            refine g_top (y := iI (f i3)) rfl ?_
                            refine g_callV F (stk := [.int (iI (f i3)), .int (iI (fr i3)), .ref (ma 100)]) (st := []) (k_X6_putOn κ ma (mA (stC (mA (mA (mA (mA (tst M Gm) 31 (fun _ => n)) 30 fr) 33 g) 32 f) (asC (cl M) (M 6) (M 7) (M 8) fr (dgU n k i3) n)) 9 uu) (fr i3) (f i3) (by omega) (by omega)) cal_X6_putOn lm_X6_179 0 rfl rfl rfl rfl (by decide) rfl (Nat.le_of_ble_eq_true rfl) dX6_placed_184 (fun ws184 _ hr184 => ?_)
                            obtain rfl := hr184
                            refine g_ws (ws' := mw κ ma (mA (stC (mA (stC (mA (mA (mA (mA (tst M Gm) 31 (fun _ => n)) 30 fr) 33 g) 32 f) (asC (cl M) (M 6) (M 7) (M 8) fr (dgU n k i3) n)) 9 uu) (make (asC (cl M) (M 6) (M 7) (M 8) fr (dgU n k i3) n) (f i3) (M 6 (fr i3)) (M 7 (fr i3)) (M 8 (fr i3)))) 9 (uI uu (fr i3) 1))) rfl ?_
                            refine g_iinc F (lv' := [(7, .int (iI (i3 + 1))), (5, .int (iI k)), (4, .int (iI l)), (3, .int (iI cd)), (0, .ref (ma 100)), (1, .int (iI p))]) 0 dX6_placed_187 rfl (by decide) rfl ?_
                            refine g_goto F 160 dX6_placed_190 (by decide) ?_
                            refine g_sub F (lv' := [(7, .int (iI (i3 + 1))), (5, .int (iI k)), (4, .int (iI l)), (3, .int (iI cd)), (0, .ref (ma 100)), (1, .int (iI p))]) [0, 1, 2, 3, 4, 5] rfl ?_
                            refine g_ws (ws' := mw κ ma (mA (stC (mA (mA (mA (mA (tst M Gm) 31 (fun _ => n)) 30 fr) 33 g) 32 f) (asC (cl M) (M 6) (M 7) (M 8) fr (dgU n k (i3 + 1)) n)) 9 (uI uu (fr i3) 1))) (by have e := way_put (cl M) (M 6) (M 7) (M 8) fr (n := n) (k := k) (i := i3) ⟨hi3.1, by omega⟩ (by omega) (apQ_mono ((apQ_P _ _).mpr hap) (by omega)); rw [hfd i3 hi3.1 (by omega), e]; rfl) ?_
                            exact ih160 _ (by omega) (i3 + 1) (uI uu (fr i3) 1) rfl (by omega)
                        refine g_sub F (lv' := [(7, .int (iI 0)), (5, .int (iI k)), (4, .int (iI l)), (3, .int (iI cd)), (0, .ref (ma 100)), (1, .int (iI p))]) [0, 2, 3, 4, 5, 6] rfl ?_
                        refine g_ws (ws' := mw κ ma (mA (stC (mA (mA (mA (mA (tst M Gm) 31 (fun _ => n)) 30 fr) 33 g) 32 f) (asC (cl M) (M 6) (M 7) (M 8) fr (dgU n k 0) n)) 9 (M 9))) (by rw [asC_no _ _ _ _ _ (dgU_no n k)]; rfl) ?_
                        exact L160 _ 0 (M 9) rfl (by omega)
                    · skip
                      have hpw : pwT (n - i2) = 12 * pwT (n - 1 - i2) := by have e := pwT_s (j := n - 1 - i2) (by omega) (by omega); rw [show n - 1 - i2 + 1 = n - i2 by omega] at e; exact e
                      have hpb := pwT_bd (n - 1 - i2)
                      have hq0 : 0 ≤ k / pwT (n - 1 - i2) := Int.ediv_nonneg hk.1 (by omega)
                      have hq1 : k / pwT (n - 1 - i2) ≤ k := Int.ediv_le_self _ hk.1
                      refine g_iload F 1 dX6_placed_122 rfl ?_
                      refine g_bipush F dX6_placed_124 (by decide +kernel) ?_
                      refine g_idiv F dX6_placed_126 (by omega) ?_
                      refine g_top (y := iI (pwT (n - 1 - i2))) (iIc (by omega)) ?_
                      refine g_istore F (lv' := [(6, .int (iI (pwT (n - 1 - i2)))), (7, .int (iI i2)), (5, .int (iI k)), (4, .int (iI l)), (3, .int (iI cd)), (0, .ref (ma 100)), (1, .int (iI p))]) dX6_placed_127 (by decide) rfl ?_
                      refine g_aload_n F 5 dX6_placed_129 rfl ?_
                      refine gm_get_32 F dX6_placed_130 ?_
                      refine g_iload F 1 dX6_placed_133 rfl ?_
                      refine g_iload F 2 dX6_placed_135 rfl ?_
                      refine g_iload F 0 dX6_placed_137 rfl ?_
                      refine g_idiv F dX6_placed_139 (by omega) ?_
                      refine g_bipush F dX6_placed_140 (by decide +kernel) ?_
                      refine g_irem F dX6_placed_142 (by omega) ?_
                      refine gm_astS_32 F (by omega) dX6_placed_143 ?_
                      refine g_iinc F (lv' := [(7, .int (iI (i2 + 1))), (6, .int (iI (pwT (n - 1 - i2)))), (5, .int (iI k)), (4, .int (iI l)), (3, .int (iI cd)), (0, .ref (ma 100)), (1, .int (iI p))]) 1 dX6_placed_144 rfl (by decide) rfl ?_
                      refine g_goto F 113 dX6_placed_147 (by decide) ?_
                      refine g_sub F (lv' := [(7, .int (iI (i2 + 1))), (6, .int (iI (pwT (n - 1 - i2)))), (5, .int (iI k)), (4, .int (iI l)), (3, .int (iI cd)), (0, .ref (ma 100)), (1, .int (iI p))]) [0, 1, 2, 3, 4, 5, 6] rfl ?_
                      exact ih113 _ (by omega) (i2 + 1) (pwT (n - 1 - i2)) (uI f i2 ((k / (pwT (n - 1 - i2))) % 12)) rfl (by omega) (by rw [show n - (i2 + 1) = n - 1 - i2 by omega]) (fun j a b => by by_cases q : j = i2 <;> first | (rw [q, uI_s, dg_in (by omega) (by omega)]) | (rw [uI_n q]; exact hf j a (by omega)))
                  refine g_sub F (lv' := [(7, .int (iI 0)), (6, .int (iI cd)), (5, .int (iI k)), (4, .int (iI l)), (3, .int (iI cd)), (0, .ref (ma 100)), (1, .int (iI p))]) [0, 1, 2, 3, 4, 5, 6] rfl ?_
                  refine g_ws (ws' := mw κ ma (mA (mA (mA (mA (tst M Gm) 31 (fun _ => n)) 30 fr) 33 g) 32 (Gm 32))) rfl ?_
                  exact L113 _ 0 cd (Gm 32) rfl (by omega) (by rw [Int.sub_zero]; exact hce) (fun j a b => absurd b (by omega))
              refine g_sub F (lv' := [(5, .int (iI 0)), (4, .int (iI (-1))), (3, .int (iI cd)), (0, .ref (ma 100)), (1, .int (iI p))]) [0, 1, 2, 3, 4] rfl ?_
              refine g_ws (ws' := mw κ ma (mA (mA (mA (tst M (thk (mA (mA (mA M 10 (fun _ => 0)) 31 (fun _ => n)) 30 fr))) 31 (fun _ => n)) 30 fr) 33 (M 33))) (by unfold thk; rw [snapF_mA (by decide), snapF_mA (by decide), snapF_mA (by decide)]; rfl) ?_
              exact L101 _ 0 (-1) 0 (M 33) (thk (mA (mA (mA M 10 (fun _ => 0)) 31 (fun _ => n)) 30 fr)) rfl (by omega) (by omega) (Or.inl ⟨rfl, rfl⟩)
            · skip
              refine g_iload_n F 1 dX6_placed_80 rfl ?_
              refine g_bipush F dX6_placed_81 (by decide +kernel) ?_
              refine g_imul F dX6_placed_83 ?_
              refine g_istore_n F (lv' := [(3, .int (iI (cd * 12))), (4, .int (iI i)), (0, .ref (ma 100)), (1, .int (iI p))]) 3 dX6_placed_84 rfl (by decide) rfl ?_
              refine g_iinc F (lv' := [(4, .int (iI (i + 1))), (3, .int (iI (cd * 12))), (0, .ref (ma 100)), (1, .int (iI p))]) 1 dX6_placed_85 rfl (by decide) rfl ?_
              refine g_goto F 71 dX6_placed_88 (by decide) ?_
              refine g_sub F (lv' := [(4, .int (iI (i + 1))), (3, .int (iI (cd * 12))), (0, .ref (ma 100)), (1, .int (iI p))]) [0, 1, 2, 3] rfl ?_
              exact ih71 _ (by omega) (i + 1) (cd * 12) rfl (by omega) (by rw [pwT_s hi.1 (by omega)]; omega) (by have e := pwT_s (j := i) hi.1 (by omega); have e2 := pwT_bd (i + 1); omega)
          refine g_sub F (lv' := [(4, .int (iI 0)), (3, .int (iI 1)), (0, .ref (ma 100)), (1, .int (iI p))]) [0, 1, 3, 4] rfl ?_
          exact L71 _ 0 1 rfl (by omega) (by decide) (by omega)
        · skip
          refine g_bipush F dX6_placed_63 (by decide +kernel) ?_
          have hq : -9 = qPlaced (cl M) (M 6) (M 7) (M 8) (M 9) (M 5 0) p := by unfold qPlaced; (repeat' split) <;> omega
          exact K mw_same ⟨_, rfl, iIc hq, ⟨rfl, rfl, rfl, rfl, rfl, rfl, rfl, rfl, rfl, rfl, rfl, rfl, rfl, rfl, rfl, rfl, rfl, rfl⟩, (by rw [← hq]; show M 11 = _; exact (rfa_n (by omega)).symm)⟩ rfl dX6_placed_65
      · skip
        exact absurd trivial (by omega)
    · skip
      refine g_bipush F dX6_placed_39 (by decide +kernel) ?_
      refine g_goto F 45 dX6_placed_41 (by decide) ?_
      refine g_istore_n F (lv' := [(2, .int (iI (-3))), (0, .ref (ma 100)), (1, .int (iI p))]) 2 dX6_placed_45 rfl (by decide) rfl ?_
      refine g_iload_n F 0 dX6_placed_46 rfl ?_
      refine g_if_ge F 56 (by omega) dX6_placed_47 (by decide) (fun c47 => ?_) (fun c47 => ?_)
      · skip
        exact absurd trivial (by omega)
      · skip
        refine g_aload_n F 1 dX6_placed_50 rfl ?_
        refine g_iload_n F 0 dX6_placed_51 rfl ?_
        refine g_callI F (stk := [.int (iI (-3)), .ref (ma 100)]) (st := []) (k_X6_refuse κ ma (mA (mA (mA M 10 (fun _ => 0)) 31 (fun _ => n)) 30 fr) (-3) (by omega)) cal_X6_refuse lm_X6_138 0 rfl rfl rfl rfl (by decide) rfl (Nat.le_of_ble_eq_true rfl) dX6_placed_52 (fun r52 ws52 _ hr52 => ?_)
        obtain ⟨rfl, rfl⟩ := hr52
        refine g_top (y := iI (-3)) rfl ?_
        refine g_ws (ws' := mw κ ma (mA (mA (mA (mA M 10 (fun _ => 0)) 31 (fun _ => n)) 30 fr) 11 (uI (M 11) (-(-3)) (M 11 (-(-3)) + 1)))) rfl ?_
        have hq : (-3) = qPlaced (cl M) (M 6) (M 7) (M 8) (M 9) (M 5 0) p := by unfold qPlaced; (repeat' split) <;> omega
        exact K mw_same ⟨_, rfl, iIc hq, ⟨rfl, rfl, rfl, rfl, rfl, rfl, rfl, rfl, rfl, rfl, rfl, rfl, rfl, rfl, rfl, rfl, rfl, rfl⟩, (by rw [← hq]; exact (rfa_r (by omega)).symm)⟩ rfl dX6_placed_55
  · skip
    have c24 : ¬ ((-1) ≤ p ∧ p ≤ ((M 5 0) - 1)) := b2i_f c24
    refine g_iconst F dX6_placed_27 ?_
    refine g_goto F 45 dX6_placed_28 (by decide) ?_
    refine g_istore_n F (lv' := [(2, .int (iI (-1))), (0, .ref (ma 100)), (1, .int (iI p))]) 2 dX6_placed_45 rfl (by decide) rfl ?_
    refine g_iload_n F 0 dX6_placed_46 rfl ?_
    refine g_if_ge F 56 (by omega) dX6_placed_47 (by decide) (fun c47 => ?_) (fun c47 => ?_)
    · skip
      exact absurd trivial (by omega)
    · skip
      refine g_aload_n F 1 dX6_placed_50 rfl ?_
      refine g_iload_n F 0 dX6_placed_51 rfl ?_
      refine g_callI F (stk := [.int (iI (-1)), .ref (ma 100)]) (st := []) (k_X6_refuse κ ma (mA (mA (mA M 10 (fun _ => 0)) 31 (fun _ => n)) 30 fr) (-1) (by omega)) cal_X6_refuse lm_X6_138 0 rfl rfl rfl rfl (by decide) rfl (Nat.le_of_ble_eq_true rfl) dX6_placed_52 (fun r52 ws52 _ hr52 => ?_)
      obtain ⟨rfl, rfl⟩ := hr52
      refine g_top (y := iI (-1)) rfl ?_
      refine g_ws (ws' := mw κ ma (mA (mA (mA (mA M 10 (fun _ => 0)) 31 (fun _ => n)) 30 fr) 11 (uI (M 11) (-(-1)) (M 11 (-(-1)) + 1)))) rfl ?_
      have hq : (-1) = qPlaced (cl M) (M 6) (M 7) (M 8) (M 9) (M 5 0) p := by unfold qPlaced; (repeat' split) <;> omega
      exact K mw_same ⟨_, rfl, iIc hq, ⟨rfl, rfl, rfl, rfl, rfl, rfl, rfl, rfl, rfl, rfl, rfl, rfl, rfl, rfl, rfl, rfl, rfl, rfl⟩, (by rw [← hq]; exact (rfa_r (by omega)).symm)⟩ rfl dX6_placed_55
