theorem dd_Mo_keep_0 : decode cc_Mo_keep 0 = .ok (.aload_n 0, 1) := by decide +kernel
theorem dd_Mo_keep_1 : decode cc_Mo_keep 1 = .ok (.getfield 13, 3) := by decide +kernel
theorem dd_Mo_keep_4 : decode cc_Mo_keep 4 = .ok (.iconst 4, 1) := by decide +kernel
theorem dd_Mo_keep_5 : decode cc_Mo_keep 5 = .ok (.iaload, 1) := by decide +kernel
theorem dd_Mo_keep_6 : decode cc_Mo_keep 6 = .ok (.ifCond .lt 15, 3) := by decide +kernel
theorem dd_Mo_keep_9 : decode cc_Mo_keep 9 = .ok (.aload_n 0, 1) := by decide +kernel
theorem dd_Mo_keep_10 : decode cc_Mo_keep 10 = .ok (.getfield 16, 3) := by decide +kernel
theorem dd_Mo_keep_13 : decode cc_Mo_keep 13 = .ok (.iconst 4, 1) := by decide +kernel
theorem dd_Mo_keep_14 : decode cc_Mo_keep 14 = .ok (.laload, 1) := by decide +kernel
theorem dd_Mo_keep_15 : decode cc_Mo_keep 15 = .ok (.invokestatic 91, 3) := by decide +kernel
theorem dd_Mo_keep_18 : decode cc_Mo_keep 18 = .ok (.ifCond .eq 7, 3) := by decide +kernel
theorem dd_Mo_keep_21 : decode cc_Mo_keep 21 = .ok (.iconst 1, 1) := by decide +kernel
theorem dd_Mo_keep_22 : decode cc_Mo_keep 22 = .ok (.goto 4, 3) := by decide +kernel
theorem dd_Mo_keep_25 : decode cc_Mo_keep 25 = .ok (.iconst 0, 1) := by decide +kernel
theorem dd_Mo_keep_26 : decode cc_Mo_keep 26 = .ok (.istore_n 2, 1) := by decide +kernel
theorem dd_Mo_keep_27 : decode cc_Mo_keep 27 = .ok (.iconst 0, 1) := by decide +kernel
theorem dd_Mo_keep_28 : decode cc_Mo_keep 28 = .ok (.istore_n 3, 1) := by decide +kernel
theorem dd_Mo_keep_29 : decode cc_Mo_keep 29 = .ok (.iload_n 3, 1) := by decide +kernel
theorem dd_Mo_keep_30 : decode cc_Mo_keep 30 = .ok (.aload_n 0, 1) := by decide +kernel
theorem dd_Mo_keep_31 : decode cc_Mo_keep 31 = .ok (.getfield 7, 3) := by decide +kernel
theorem dd_Mo_keep_34 : decode cc_Mo_keep 34 = .ok (.iconst 4, 1) := by decide +kernel
theorem dd_Mo_keep_35 : decode cc_Mo_keep 35 = .ok (.iaload, 1) := by decide +kernel
theorem dd_Mo_keep_36 : decode cc_Mo_keep 36 = .ok (.if_icmp .ge 35, 3) := by decide +kernel
theorem dd_Mo_keep_39 : decode cc_Mo_keep 39 = .ok (.iload_n 2, 1) := by decide +kernel
theorem dd_Mo_keep_40 : decode cc_Mo_keep 40 = .ok (.ifCond .eq 23, 3) := by decide +kernel
theorem dd_Mo_keep_43 : decode cc_Mo_keep 43 = .ok (.aload_n 0, 1) := by decide +kernel
theorem dd_Mo_keep_44 : decode cc_Mo_keep 44 = .ok (.getfield 20, 3) := by decide +kernel
theorem dd_Mo_keep_47 : decode cc_Mo_keep 47 = .ok (.bipush 64, 2) := by decide +kernel
theorem dd_Mo_keep_49 : decode cc_Mo_keep 49 = .ok (.iload_n 3, 1) := by decide +kernel
theorem dd_Mo_keep_50 : decode cc_Mo_keep 50 = .ok (.iadd, 1) := by decide +kernel
theorem dd_Mo_keep_51 : decode cc_Mo_keep 51 = .ok (.laload, 1) := by decide +kernel
theorem dd_Mo_keep_52 : decode cc_Mo_keep 52 = .ok (.ldc2_w 85, 3) := by decide +kernel
theorem dd_Mo_keep_55 : decode cc_Mo_keep 55 = .ok (.lcmp, 1) := by decide +kernel
theorem dd_Mo_keep_56 : decode cc_Mo_keep 56 = .ok (.ifCond .gt 7, 3) := by decide +kernel
theorem dd_Mo_keep_59 : decode cc_Mo_keep 59 = .ok (.iconst 1, 1) := by decide +kernel
theorem dd_Mo_keep_60 : decode cc_Mo_keep 60 = .ok (.goto 4, 3) := by decide +kernel
theorem dd_Mo_keep_63 : decode cc_Mo_keep 63 = .ok (.iconst 0, 1) := by decide +kernel
theorem dd_Mo_keep_64 : decode cc_Mo_keep 64 = .ok (.istore_n 2, 1) := by decide +kernel
theorem dd_Mo_keep_65 : decode cc_Mo_keep 65 = .ok (.iinc 3 1, 3) := by decide +kernel
theorem dd_Mo_keep_68 : decode cc_Mo_keep 68 = .ok (.goto (-39), 3) := by decide +kernel
theorem dd_Mo_keep_71 : decode cc_Mo_keep 71 = .ok (.iconst 0, 1) := by decide +kernel
theorem dd_Mo_keep_72 : decode cc_Mo_keep 72 = .ok (.istore_n 3, 1) := by decide +kernel
theorem dd_Mo_keep_73 : decode cc_Mo_keep 73 = .ok (.iload_n 3, 1) := by decide +kernel
theorem dd_Mo_keep_74 : decode cc_Mo_keep 74 = .ok (.aload_n 0, 1) := by decide +kernel
theorem dd_Mo_keep_75 : decode cc_Mo_keep 75 = .ok (.getfield 23, 3) := by decide +kernel
theorem dd_Mo_keep_78 : decode cc_Mo_keep 78 = .ok (.iconst 4, 1) := by decide +kernel
theorem dd_Mo_keep_79 : decode cc_Mo_keep 79 = .ok (.iaload, 1) := by decide +kernel
theorem dd_Mo_keep_80 : decode cc_Mo_keep 80 = .ok (.if_icmp .ge 36, 3) := by decide +kernel
theorem dd_Mo_keep_83 : decode cc_Mo_keep 83 = .ok (.iload_n 2, 1) := by decide +kernel
theorem dd_Mo_keep_84 : decode cc_Mo_keep 84 = .ok (.ifCond .eq 24, 3) := by decide +kernel
theorem dd_Mo_keep_87 : decode cc_Mo_keep 87 = .ok (.aload_n 0, 1) := by decide +kernel
theorem dd_Mo_keep_88 : decode cc_Mo_keep 88 = .ok (.getfield 38, 3) := by decide +kernel
theorem dd_Mo_keep_91 : decode cc_Mo_keep 91 = .ok (.sipush 260, 3) := by decide +kernel
theorem dd_Mo_keep_94 : decode cc_Mo_keep 94 = .ok (.iload_n 3, 1) := by decide +kernel
theorem dd_Mo_keep_95 : decode cc_Mo_keep 95 = .ok (.iadd, 1) := by decide +kernel
theorem dd_Mo_keep_96 : decode cc_Mo_keep 96 = .ok (.laload, 1) := by decide +kernel
theorem dd_Mo_keep_97 : decode cc_Mo_keep 97 = .ok (.ldc2_w 85, 3) := by decide +kernel
theorem dd_Mo_keep_100 : decode cc_Mo_keep 100 = .ok (.lcmp, 1) := by decide +kernel
theorem dd_Mo_keep_101 : decode cc_Mo_keep 101 = .ok (.ifCond .gt 7, 3) := by decide +kernel
theorem dd_Mo_keep_104 : decode cc_Mo_keep 104 = .ok (.iconst 1, 1) := by decide +kernel
theorem dd_Mo_keep_105 : decode cc_Mo_keep 105 = .ok (.goto 4, 3) := by decide +kernel
theorem dd_Mo_keep_108 : decode cc_Mo_keep 108 = .ok (.iconst 0, 1) := by decide +kernel
theorem dd_Mo_keep_109 : decode cc_Mo_keep 109 = .ok (.istore_n 2, 1) := by decide +kernel
theorem dd_Mo_keep_110 : decode cc_Mo_keep 110 = .ok (.iinc 3 1, 3) := by decide +kernel
theorem dd_Mo_keep_113 : decode cc_Mo_keep 113 = .ok (.goto (-40), 3) := by decide +kernel
theorem dd_Mo_keep_116 : decode cc_Mo_keep 116 = .ok (.iload_n 2, 1) := by decide +kernel
theorem dd_Mo_keep_117 : decode cc_Mo_keep 117 = .ok (.ifCond .ne 5, 3) := by decide +kernel
theorem dd_Mo_keep_120 : decode cc_Mo_keep 120 = .ok (.iconst 0, 1) := by decide +kernel
theorem dd_Mo_keep_121 : decode cc_Mo_keep 121 = .ok (.ireturn, 1) := by decide +kernel
theorem dd_Mo_keep_122 : decode cc_Mo_keep 122 = .ok (.aload_n 0, 1) := by decide +kernel
theorem dd_Mo_keep_123 : decode cc_Mo_keep 123 = .ok (.getfield 7, 3) := by decide +kernel
theorem dd_Mo_keep_126 : decode cc_Mo_keep 126 = .ok (.iload_n 1, 1) := by decide +kernel
theorem dd_Mo_keep_127 : decode cc_Mo_keep 127 = .ok (.aload_n 0, 1) := by decide +kernel
theorem dd_Mo_keep_128 : decode cc_Mo_keep 128 = .ok (.getfield 7, 3) := by decide +kernel
theorem dd_Mo_keep_131 : decode cc_Mo_keep 131 = .ok (.iconst 4, 1) := by decide +kernel
theorem dd_Mo_keep_132 : decode cc_Mo_keep 132 = .ok (.iaload, 1) := by decide +kernel
theorem dd_Mo_keep_133 : decode cc_Mo_keep 133 = .ok (.iastore, 1) := by decide +kernel
theorem dd_Mo_keep_134 : decode cc_Mo_keep 134 = .ok (.aload_n 0, 1) := by decide +kernel
theorem dd_Mo_keep_135 : decode cc_Mo_keep 135 = .ok (.getfield 13, 3) := by decide +kernel
theorem dd_Mo_keep_138 : decode cc_Mo_keep 138 = .ok (.iload_n 1, 1) := by decide +kernel
theorem dd_Mo_keep_139 : decode cc_Mo_keep 139 = .ok (.aload_n 0, 1) := by decide +kernel
theorem dd_Mo_keep_140 : decode cc_Mo_keep 140 = .ok (.getfield 13, 3) := by decide +kernel
theorem dd_Mo_keep_143 : decode cc_Mo_keep 143 = .ok (.iconst 4, 1) := by decide +kernel
theorem dd_Mo_keep_144 : decode cc_Mo_keep 144 = .ok (.iaload, 1) := by decide +kernel
theorem dd_Mo_keep_145 : decode cc_Mo_keep 145 = .ok (.iastore, 1) := by decide +kernel
theorem dd_Mo_keep_146 : decode cc_Mo_keep 146 = .ok (.aload_n 0, 1) := by decide +kernel
theorem dd_Mo_keep_147 : decode cc_Mo_keep 147 = .ok (.getfield 16, 3) := by decide +kernel
theorem dd_Mo_keep_150 : decode cc_Mo_keep 150 = .ok (.iload_n 1, 1) := by decide +kernel
theorem dd_Mo_keep_151 : decode cc_Mo_keep 151 = .ok (.aload_n 0, 1) := by decide +kernel
theorem dd_Mo_keep_152 : decode cc_Mo_keep 152 = .ok (.getfield 16, 3) := by decide +kernel
theorem dd_Mo_keep_155 : decode cc_Mo_keep 155 = .ok (.iconst 4, 1) := by decide +kernel
theorem dd_Mo_keep_156 : decode cc_Mo_keep 156 = .ok (.laload, 1) := by decide +kernel
theorem dd_Mo_keep_157 : decode cc_Mo_keep 157 = .ok (.lastore, 1) := by decide +kernel
theorem dd_Mo_keep_158 : decode cc_Mo_keep 158 = .ok (.aload_n 0, 1) := by decide +kernel
theorem dd_Mo_keep_159 : decode cc_Mo_keep 159 = .ok (.getfield 23, 3) := by decide +kernel
theorem dd_Mo_keep_162 : decode cc_Mo_keep 162 = .ok (.iload_n 1, 1) := by decide +kernel
theorem dd_Mo_keep_163 : decode cc_Mo_keep 163 = .ok (.aload_n 0, 1) := by decide +kernel
theorem dd_Mo_keep_164 : decode cc_Mo_keep 164 = .ok (.getfield 23, 3) := by decide +kernel
theorem dd_Mo_keep_167 : decode cc_Mo_keep 167 = .ok (.iconst 4, 1) := by decide +kernel
theorem dd_Mo_keep_168 : decode cc_Mo_keep 168 = .ok (.iaload, 1) := by decide +kernel
theorem dd_Mo_keep_169 : decode cc_Mo_keep 169 = .ok (.iastore, 1) := by decide +kernel
theorem dd_Mo_keep_170 : decode cc_Mo_keep 170 = .ok (.iconst 0, 1) := by decide +kernel
theorem dd_Mo_keep_171 : decode cc_Mo_keep 171 = .ok (.istore_n 3, 1) := by decide +kernel
theorem dd_Mo_keep_172 : decode cc_Mo_keep 172 = .ok (.iload_n 3, 1) := by decide +kernel
theorem dd_Mo_keep_173 : decode cc_Mo_keep 173 = .ok (.bipush 16, 2) := by decide +kernel
theorem dd_Mo_keep_175 : decode cc_Mo_keep 175 = .ok (.if_icmp .ge 29, 3) := by decide +kernel
theorem dd_Mo_keep_178 : decode cc_Mo_keep 178 = .ok (.aload_n 0, 1) := by decide +kernel
theorem dd_Mo_keep_179 : decode cc_Mo_keep 179 = .ok (.getfield 20, 3) := by decide +kernel
theorem dd_Mo_keep_182 : decode cc_Mo_keep 182 = .ok (.bipush 16, 2) := by decide +kernel
theorem dd_Mo_keep_184 : decode cc_Mo_keep 184 = .ok (.iload_n 1, 1) := by decide +kernel
theorem dd_Mo_keep_185 : decode cc_Mo_keep 185 = .ok (.imul, 1) := by decide +kernel
theorem dd_Mo_keep_186 : decode cc_Mo_keep 186 = .ok (.iload_n 3, 1) := by decide +kernel
theorem dd_Mo_keep_187 : decode cc_Mo_keep 187 = .ok (.iadd, 1) := by decide +kernel
theorem dd_Mo_keep_188 : decode cc_Mo_keep 188 = .ok (.aload_n 0, 1) := by decide +kernel
theorem dd_Mo_keep_189 : decode cc_Mo_keep 189 = .ok (.getfield 20, 3) := by decide +kernel
theorem dd_Mo_keep_192 : decode cc_Mo_keep 192 = .ok (.bipush 64, 2) := by decide +kernel
theorem dd_Mo_keep_194 : decode cc_Mo_keep 194 = .ok (.iload_n 3, 1) := by decide +kernel
theorem dd_Mo_keep_195 : decode cc_Mo_keep 195 = .ok (.iadd, 1) := by decide +kernel
theorem dd_Mo_keep_196 : decode cc_Mo_keep 196 = .ok (.laload, 1) := by decide +kernel
theorem dd_Mo_keep_197 : decode cc_Mo_keep 197 = .ok (.lastore, 1) := by decide +kernel
theorem dd_Mo_keep_198 : decode cc_Mo_keep 198 = .ok (.iinc 3 1, 3) := by decide +kernel
theorem dd_Mo_keep_201 : decode cc_Mo_keep 201 = .ok (.goto (-29), 3) := by decide +kernel
theorem dd_Mo_keep_204 : decode cc_Mo_keep 204 = .ok (.iconst 0, 1) := by decide +kernel
theorem dd_Mo_keep_205 : decode cc_Mo_keep 205 = .ok (.istore_n 3, 1) := by decide +kernel
theorem dd_Mo_keep_206 : decode cc_Mo_keep 206 = .ok (.iload_n 3, 1) := by decide +kernel
theorem dd_Mo_keep_207 : decode cc_Mo_keep 207 = .ok (.aload_n 0, 1) := by decide +kernel
theorem dd_Mo_keep_208 : decode cc_Mo_keep 208 = .ok (.getfield 23, 3) := by decide +kernel
theorem dd_Mo_keep_211 : decode cc_Mo_keep 211 = .ok (.iload_n 1, 1) := by decide +kernel
theorem dd_Mo_keep_212 : decode cc_Mo_keep 212 = .ok (.iaload, 1) := by decide +kernel
theorem dd_Mo_keep_213 : decode cc_Mo_keep 213 = .ok (.if_icmp .ge 114, 3) := by decide +kernel
theorem dd_Mo_keep_216 : decode cc_Mo_keep 216 = .ok (.aload_n 0, 1) := by decide +kernel
theorem dd_Mo_keep_217 : decode cc_Mo_keep 217 = .ok (.getfield 26, 3) := by decide +kernel
theorem dd_Mo_keep_220 : decode cc_Mo_keep 220 = .ok (.bipush 65, 2) := by decide +kernel
theorem dd_Mo_keep_222 : decode cc_Mo_keep 222 = .ok (.iload_n 1, 1) := by decide +kernel
theorem dd_Mo_keep_223 : decode cc_Mo_keep 223 = .ok (.imul, 1) := by decide +kernel
theorem dd_Mo_keep_224 : decode cc_Mo_keep 224 = .ok (.iload_n 3, 1) := by decide +kernel
theorem dd_Mo_keep_225 : decode cc_Mo_keep 225 = .ok (.iadd, 1) := by decide +kernel
theorem dd_Mo_keep_226 : decode cc_Mo_keep 226 = .ok (.aload_n 0, 1) := by decide +kernel
theorem dd_Mo_keep_227 : decode cc_Mo_keep 227 = .ok (.getfield 26, 3) := by decide +kernel
theorem dd_Mo_keep_230 : decode cc_Mo_keep 230 = .ok (.sipush 260, 3) := by decide +kernel
theorem dd_Mo_keep_233 : decode cc_Mo_keep 233 = .ok (.iload_n 3, 1) := by decide +kernel
theorem dd_Mo_keep_234 : decode cc_Mo_keep 234 = .ok (.iadd, 1) := by decide +kernel
theorem dd_Mo_keep_235 : decode cc_Mo_keep 235 = .ok (.iaload, 1) := by decide +kernel
theorem dd_Mo_keep_236 : decode cc_Mo_keep 236 = .ok (.iastore, 1) := by decide +kernel
theorem dd_Mo_keep_237 : decode cc_Mo_keep 237 = .ok (.aload_n 0, 1) := by decide +kernel
theorem dd_Mo_keep_238 : decode cc_Mo_keep 238 = .ok (.getfield 29, 3) := by decide +kernel
theorem dd_Mo_keep_241 : decode cc_Mo_keep 241 = .ok (.bipush 65, 2) := by decide +kernel
theorem dd_Mo_keep_243 : decode cc_Mo_keep 243 = .ok (.iload_n 1, 1) := by decide +kernel
theorem dd_Mo_keep_244 : decode cc_Mo_keep 244 = .ok (.imul, 1) := by decide +kernel
theorem dd_Mo_keep_245 : decode cc_Mo_keep 245 = .ok (.iload_n 3, 1) := by decide +kernel
theorem dd_Mo_keep_246 : decode cc_Mo_keep 246 = .ok (.iadd, 1) := by decide +kernel
theorem dd_Mo_keep_247 : decode cc_Mo_keep 247 = .ok (.aload_n 0, 1) := by decide +kernel
theorem dd_Mo_keep_248 : decode cc_Mo_keep 248 = .ok (.getfield 29, 3) := by decide +kernel
theorem dd_Mo_keep_251 : decode cc_Mo_keep 251 = .ok (.sipush 260, 3) := by decide +kernel
theorem dd_Mo_keep_254 : decode cc_Mo_keep 254 = .ok (.iload_n 3, 1) := by decide +kernel
theorem dd_Mo_keep_255 : decode cc_Mo_keep 255 = .ok (.iadd, 1) := by decide +kernel
theorem dd_Mo_keep_256 : decode cc_Mo_keep 256 = .ok (.iaload, 1) := by decide +kernel
theorem dd_Mo_keep_257 : decode cc_Mo_keep 257 = .ok (.iastore, 1) := by decide +kernel
theorem dd_Mo_keep_258 : decode cc_Mo_keep 258 = .ok (.aload_n 0, 1) := by decide +kernel
theorem dd_Mo_keep_259 : decode cc_Mo_keep 259 = .ok (.getfield 32, 3) := by decide +kernel
theorem dd_Mo_keep_262 : decode cc_Mo_keep 262 = .ok (.bipush 65, 2) := by decide +kernel
theorem dd_Mo_keep_264 : decode cc_Mo_keep 264 = .ok (.iload_n 1, 1) := by decide +kernel
theorem dd_Mo_keep_265 : decode cc_Mo_keep 265 = .ok (.imul, 1) := by decide +kernel
theorem dd_Mo_keep_266 : decode cc_Mo_keep 266 = .ok (.iload_n 3, 1) := by decide +kernel
theorem dd_Mo_keep_267 : decode cc_Mo_keep 267 = .ok (.iadd, 1) := by decide +kernel
theorem dd_Mo_keep_268 : decode cc_Mo_keep 268 = .ok (.aload_n 0, 1) := by decide +kernel
theorem dd_Mo_keep_269 : decode cc_Mo_keep 269 = .ok (.getfield 32, 3) := by decide +kernel
theorem dd_Mo_keep_272 : decode cc_Mo_keep 272 = .ok (.sipush 260, 3) := by decide +kernel
theorem dd_Mo_keep_275 : decode cc_Mo_keep 275 = .ok (.iload_n 3, 1) := by decide +kernel
theorem dd_Mo_keep_276 : decode cc_Mo_keep 276 = .ok (.iadd, 1) := by decide +kernel
theorem dd_Mo_keep_277 : decode cc_Mo_keep 277 = .ok (.iaload, 1) := by decide +kernel
theorem dd_Mo_keep_278 : decode cc_Mo_keep 278 = .ok (.iastore, 1) := by decide +kernel
theorem dd_Mo_keep_279 : decode cc_Mo_keep 279 = .ok (.aload_n 0, 1) := by decide +kernel
theorem dd_Mo_keep_280 : decode cc_Mo_keep 280 = .ok (.getfield 35, 3) := by decide +kernel
theorem dd_Mo_keep_283 : decode cc_Mo_keep 283 = .ok (.bipush 65, 2) := by decide +kernel
theorem dd_Mo_keep_285 : decode cc_Mo_keep 285 = .ok (.iload_n 1, 1) := by decide +kernel
theorem dd_Mo_keep_286 : decode cc_Mo_keep 286 = .ok (.imul, 1) := by decide +kernel
theorem dd_Mo_keep_287 : decode cc_Mo_keep 287 = .ok (.iload_n 3, 1) := by decide +kernel
theorem dd_Mo_keep_288 : decode cc_Mo_keep 288 = .ok (.iadd, 1) := by decide +kernel
theorem dd_Mo_keep_289 : decode cc_Mo_keep 289 = .ok (.aload_n 0, 1) := by decide +kernel
theorem dd_Mo_keep_290 : decode cc_Mo_keep 290 = .ok (.getfield 35, 3) := by decide +kernel
theorem dd_Mo_keep_293 : decode cc_Mo_keep 293 = .ok (.sipush 260, 3) := by decide +kernel
theorem dd_Mo_keep_296 : decode cc_Mo_keep 296 = .ok (.iload_n 3, 1) := by decide +kernel
theorem dd_Mo_keep_297 : decode cc_Mo_keep 297 = .ok (.iadd, 1) := by decide +kernel
theorem dd_Mo_keep_298 : decode cc_Mo_keep 298 = .ok (.iaload, 1) := by decide +kernel
theorem dd_Mo_keep_299 : decode cc_Mo_keep 299 = .ok (.iastore, 1) := by decide +kernel
theorem dd_Mo_keep_300 : decode cc_Mo_keep 300 = .ok (.aload_n 0, 1) := by decide +kernel
theorem dd_Mo_keep_301 : decode cc_Mo_keep 301 = .ok (.getfield 38, 3) := by decide +kernel
theorem dd_Mo_keep_304 : decode cc_Mo_keep 304 = .ok (.bipush 65, 2) := by decide +kernel
theorem dd_Mo_keep_306 : decode cc_Mo_keep 306 = .ok (.iload_n 1, 1) := by decide +kernel
theorem dd_Mo_keep_307 : decode cc_Mo_keep 307 = .ok (.imul, 1) := by decide +kernel
theorem dd_Mo_keep_308 : decode cc_Mo_keep 308 = .ok (.iload_n 3, 1) := by decide +kernel
theorem dd_Mo_keep_309 : decode cc_Mo_keep 309 = .ok (.iadd, 1) := by decide +kernel
theorem dd_Mo_keep_310 : decode cc_Mo_keep 310 = .ok (.aload_n 0, 1) := by decide +kernel
theorem dd_Mo_keep_311 : decode cc_Mo_keep 311 = .ok (.getfield 38, 3) := by decide +kernel
theorem dd_Mo_keep_314 : decode cc_Mo_keep 314 = .ok (.sipush 260, 3) := by decide +kernel
theorem dd_Mo_keep_317 : decode cc_Mo_keep 317 = .ok (.iload_n 3, 1) := by decide +kernel
theorem dd_Mo_keep_318 : decode cc_Mo_keep 318 = .ok (.iadd, 1) := by decide +kernel
theorem dd_Mo_keep_319 : decode cc_Mo_keep 319 = .ok (.laload, 1) := by decide +kernel
theorem dd_Mo_keep_320 : decode cc_Mo_keep 320 = .ok (.lastore, 1) := by decide +kernel
theorem dd_Mo_keep_321 : decode cc_Mo_keep 321 = .ok (.iinc 3 1, 3) := by decide +kernel
theorem dd_Mo_keep_324 : decode cc_Mo_keep 324 = .ok (.goto (-118), 3) := by decide +kernel
theorem dd_Mo_keep_327 : decode cc_Mo_keep 327 = .ok (.iconst 1, 1) := by decide +kernel
theorem dd_Mo_keep_328 : decode cc_Mo_keep 328 = .ok (.ireturn, 1) := by decide +kernel
set_option maxRecDepth 100000 in
set_option maxHeartbeats 4000000 in
theorem ct_Mo_keep (l : Launch) (D : va_G) (dA : Nat → ClassId) (ad : Nat → Nat) (h : Nat → va_E) (F : mo_F) (L : mo_L) (S : Nat → Int32) {c B : Nat} {b : am_T} (hc : c < 4) (hM : mo_is F L 4 b) (hn16 : am_n b ≤ 16) (hB : B ≤ 2 ^ 62) (hwb : ∀ x ∈ am_ar b, x.2 < B) (heb : ∀ q e, am_en b q = some e → e < B) (hsb : ∀ x, am_st b = some x → x.1 < 16 ∧ x.2 < B) : gx_Ct l D dA yy_Mo_keep cc_Mo_keep 4 (some .boolean) 1 0 0 [.ref (ad 43), .int (nI c)] (gx_w ad (mo_h dA ad h F L S)) (fun v w => (am_fit b = true ∧ v = some (.int (nI 1)) ∧ ∃ F2 L2, w = (gx_w ad (mo_h dA ad h F2 L2 S)) ∧ mo_is F2 L2 c b ∧ mo_fr c F L F2 L2) ∨ (am_fit b = false ∧ v = some (.int (nI 0)) ∧ w = (gx_w ad (mo_h dA ad h F L S)))) := by
  refine gx_of (by decide) (Nat.le_of_ble_eq_true rfl) (fun K C _ _ => ?_)
  have hl64 := hM.2.2.2.2.2
  have good : ∀ j, gx_G K D 4 0 0 116 [(3, .int (nI j)), (2, .int (nI (decide (am_sw b ≤ 1000000000) && am_fe (am_en b) (am_n b) && am_fa (am_ar b) (am_ar b).length).toNat)), (0, .ref (ad 43)), (1, .int (nI c))] [] (gx_w ad (mo_h dA ad h F L S)) (gx_Z K D dA 0 0 (fun v w => (am_fit b = true ∧ v = some (.int (nI 1)) ∧ ∃ F2 L2, w = (gx_w ad (mo_h dA ad h F2 L2 S)) ∧ mo_is F2 L2 c b ∧ mo_fr c F L F2 L2) ∨ (am_fit b = false ∧ v = some (.int (nI 0)) ∧ w = (gx_w ad (mo_h dA ad h F L S))))) := by
    intro j
    rcases hfit : (decide (am_sw b ≤ 1000000000) && am_fe (am_en b) (am_n b) && am_fa (am_ar b) (am_ar b).length) with _ | _
    · have hff : am_fit b = false := hfit
      refine gx_iload_n C 1 dd_Mo_keep_116 (kk := ?_)
      refine gx_if_ne C 122 dd_Mo_keep_117 (fun h117 => absurd rfl h117) (fun h117 => ?_)
      refine gx_iconst (v := nI 0) C dd_Mo_keep_120 (kk := ?_)
      refine gx_zret C dd_Mo_keep_121 (by first | rfl | exact fb_nar) ?_
      exact Or.inr ⟨hff, rfl, rfl⟩
    · replace hfit : am_fit b = true := hfit
      refine gx_iload_n C 1 dd_Mo_keep_116 (kk := ?_)
      refine gx_if_ne C 122 dd_Mo_keep_117 (fun h117 => ?_) (fun h117 => absurd h117 (by decide))
      refine gx_aload_n C 2 dd_Mo_keep_122 (kk := ?_)
      refine mo_get C fd_Mo_7 dd_Mo_keep_123 (kk := ?_)
      refine gx_iload_n C 3 dd_Mo_keep_126 (kk := ?_)
      refine gx_aload_n C 2 dd_Mo_keep_127 (kk := ?_)
      refine mo_get C fd_Mo_7 dd_Mo_keep_128 (kk := ?_)
      refine gx_iconst (v := nI 4) C dd_Mo_keep_131 (kk := ?_)
      refine mo_l44 C dd_Mo_keep_132 (by omega) (kk := ?_)
      refine gx_topi (F 44 4) rfl ?_
      refine mo_s44 C dd_Mo_keep_133 (by omega) (kk := fun F133 hF133 => ?_)
      refine gx_aload_n C 2 dd_Mo_keep_134 (kk := ?_)
      refine mo_get C fd_Mo_13 dd_Mo_keep_135 (kk := ?_)
      refine gx_iload_n C 3 dd_Mo_keep_138 (kk := ?_)
      refine gx_aload_n C 2 dd_Mo_keep_139 (kk := ?_)
      refine mo_get C fd_Mo_13 dd_Mo_keep_140 (kk := ?_)
      refine gx_iconst (v := nI 4) C dd_Mo_keep_143 (kk := ?_)
      refine mo_l45 C dd_Mo_keep_144 (by omega) (kk := ?_)
      refine gx_topi (F 45 4) (by rw [hF133, gm_un (by decide)]) ?_
      refine mo_s45 C dd_Mo_keep_145 (by omega) (kk := fun F145 hF145 => ?_)
      refine gx_aload_n C 2 dd_Mo_keep_146 (kk := ?_)
      refine mo_get C fd_Mo_16 dd_Mo_keep_147 (kk := ?_)
      refine gx_iload_n C 3 dd_Mo_keep_150 (kk := ?_)
      refine gx_aload_n C 2 dd_Mo_keep_151 (kk := ?_)
      refine mo_get C fd_Mo_16 dd_Mo_keep_152 (kk := ?_)
      refine gx_iconst (v := nI 4) C dd_Mo_keep_155 (kk := ?_)
      refine mo_l46 C dd_Mo_keep_156 (by omega) (kk := ?_)
      skip
      refine mo_s46 C dd_Mo_keep_157 (by omega) (kk := fun L157 hL157 => ?_)
      refine gx_aload_n C 2 dd_Mo_keep_158 (kk := ?_)
      refine mo_get C fd_Mo_23 dd_Mo_keep_159 (kk := ?_)
      refine gx_iload_n C 3 dd_Mo_keep_162 (kk := ?_)
      refine gx_aload_n C 2 dd_Mo_keep_163 (kk := ?_)
      refine mo_get C fd_Mo_23 dd_Mo_keep_164 (kk := ?_)
      refine gx_iconst (v := nI 4) C dd_Mo_keep_167 (kk := ?_)
      refine mo_l48 C dd_Mo_keep_168 (by omega) (kk := ?_)
      refine gx_topi (F 48 4) (by rw [hF145, gm_un (by decide), hF133, gm_un (by decide)]) ?_
      refine mo_s48 C dd_Mo_keep_169 (by omega) (kk := fun F169 hF169 => ?_)
      refine gx_iconst (v := nI 0) C dd_Mo_keep_170 (kk := ?_)
      refine gx_istore_n C _ dd_Mo_keep_171 (kk := ?_)
      have loopC : ∀ m j L2, j + m = 16 → (∀ q, q < j → L2 47 (16 * c + q) = am_e (am_en b q)) → (∀ k, k ≠ 47 → L2 k = L157 k) → mo_fr c F L F169 L2 → gx_G K D 4 0 0 172 [(3, .int (nI j)), (2, .int (nI 1)), (0, .ref (ad 43)), (1, .int (nI c))] [] (gx_w ad (mo_h dA ad h F169 L2 S)) (gx_Z K D dA 0 0 (fun v w => (am_fit b = true ∧ v = some (.int (nI 1)) ∧ ∃ F2 L2, w = (gx_w ad (mo_h dA ad h F2 L2 S)) ∧ mo_is F2 L2 c b ∧ mo_fr c F L F2 L2) ∨ (am_fit b = false ∧ v = some (.int (nI 0)) ∧ w = (gx_w ad (mo_h dA ad h F L S))))) := by
        intro m
        induction m with
        | zero =>
          intro j L2 hj hL hL2k hfr
          refine gx_iload_n C 0 dd_Mo_keep_172 (kk := ?_)
          refine gx_bipush (v := nI 16) C dd_Mo_keep_173 (kk := ?_)
          refine gx_icmp_ge C 204 dd_Mo_keep_175 (fun h175 => ?_) (fun h175 => absurd (nI_le (a := 16) (b := j) (by omega) (by omega)) h175)
          refine gx_iconst (v := nI 0) C dd_Mo_keep_204 (kk := ?_)
          refine gx_istore_n C _ dd_Mo_keep_205 (kk := ?_)
          have hL2 : ∀ q, q < 16 → L2 47 (16 * c + q) = am_e (am_en b q) := fun q hq => hL q (by omega)
          have loopD : ∀ m j F1 L1, j + m = (am_ar b).length → (∀ k, k ≠ 49 → k ≠ 50 → k ≠ 51 → k ≠ 52 → F1 k = F169 k) → (∀ k, k ≠ 53 → L1 k = L2 k) → F1 48 c = nI (am_ar b).length → (∀ i x, i < j → (am_ar b)[i]? = some x → mo_a F1 L1 (65 * c + i) x) → mo_fr c F L F1 L1 → gx_G K D 4 0 0 206 [(3, .int (nI j)), (2, .int (nI 1)), (0, .ref (ad 43)), (1, .int (nI c))] [] (gx_w ad (mo_h dA ad h F1 L1 S)) (gx_Z K D dA 0 0 (fun v w => (am_fit b = true ∧ v = some (.int (nI 1)) ∧ ∃ F2 L2, w = (gx_w ad (mo_h dA ad h F2 L2 S)) ∧ mo_is F2 L2 c b ∧ mo_fr c F L F2 L2) ∨ (am_fit b = false ∧ v = some (.int (nI 0)) ∧ w = (gx_w ad (mo_h dA ad h F L S))))) := by
            intro m
            induction m with
            | zero =>
              intro j F1 L1 hj hFk hLk h48 hrow hfr
              refine gx_iload_n C 0 dd_Mo_keep_206 (kk := ?_)
              refine gx_aload_n C 2 dd_Mo_keep_207 (kk := ?_)
              refine mo_get C fd_Mo_23 dd_Mo_keep_208 (kk := ?_)
              refine gx_iload_n C 3 dd_Mo_keep_211 (kk := ?_)
              refine mo_l48 C dd_Mo_keep_212 (by omega) (kk := ?_)
              refine gx_topi _ h48 ?_
              refine gx_icmp_ge C 327 dd_Mo_keep_213 (fun h213 => ?_) (fun h213 => absurd (nI_le (a := (am_ar b).length) (b := j) (by omega) (by omega)) h213)
              refine gx_iconst (v := nI 1) C dd_Mo_keep_327 (kk := ?_)
              refine gx_zret C dd_Mo_keep_328 (by first | rfl | exact fb_nar) ?_
              refine Or.inl ⟨hfit, rfl, F1, L1, rfl, ⟨?_, ?_, ?_, ?_, ?_, hl64⟩, hfr⟩
              · rw [hFk 44 (by decide) (by decide) (by decide) (by decide), hF169, gm_un (by decide), hF145, gm_un (by decide), hF133, gm_us, pk_us]
                exact hM.1
              · rw [hFk 45 (by decide) (by decide) (by decide) (by decide), hF169, gm_un (by decide), hF145, gm_us, pk_us, hLk 46 (by decide), hL2k 46 (by decide), hL157, gm_us, pk_uLs]
                exact hM.2.1
              · intro q hq
                rw [hLk 47 (by decide)]
                exact hL2 q hq
              · exact h48
              · intro i x hx
                exact hrow i x (by have := (List.getElem?_eq_some_iff.mp hx).1; omega) hx
            | succ m ih =>
              intro j F1 L1 hj hFk hLk h48 hrow hfr
              obtain ⟨x, hx⟩ : ∃ x, (am_ar b)[j]? = some x := ⟨_, List.getElem?_eq_getElem (by omega)⟩
              have hxa := hM.2.2.2.2.1 j x hx
              have hxw := hwb x (List.mem_of_getElem? hx)
              refine gx_iload_n C 0 dd_Mo_keep_206 (kk := ?_)
              refine gx_aload_n C 2 dd_Mo_keep_207 (kk := ?_)
              refine mo_get C fd_Mo_23 dd_Mo_keep_208 (kk := ?_)
              refine gx_iload_n C 3 dd_Mo_keep_211 (kk := ?_)
              refine mo_l48 C dd_Mo_keep_212 (by omega) (kk := ?_)
              refine gx_topi _ h48 ?_
              refine gx_icmp_ge C 327 dd_Mo_keep_213 (fun h213 => absurd h213 (nI_ge (by omega) (by omega))) (fun h213 => ?_)
              refine gx_aload_n C 2 dd_Mo_keep_216 (kk := ?_)
              refine mo_get C fd_Mo_26 dd_Mo_keep_217 (kk := ?_)
              refine gx_bipush (v := nI 65) C dd_Mo_keep_220 (kk := ?_)
              refine gx_iload_n C 3 dd_Mo_keep_222 (kk := ?_)
              refine gx_imul C dd_Mo_keep_223 (kk := ?_)
              refine gx_topi _ (pk_mul _ _) ?_
              refine gx_iload_n C 0 dd_Mo_keep_224 (kk := ?_)
              refine gx_iadd C dd_Mo_keep_225 (kk := ?_)
              refine gx_topi _ (nI_add _ _) ?_
              refine gx_aload_n C 2 dd_Mo_keep_226 (kk := ?_)
              refine mo_get C fd_Mo_26 dd_Mo_keep_227 (kk := ?_)
              refine gx_sipush (v := nI 260) C dd_Mo_keep_230 (kk := ?_)
              refine gx_iload_n C 0 dd_Mo_keep_233 (kk := ?_)
              refine gx_iadd C dd_Mo_keep_234 (kk := ?_)
              refine gx_topi _ (nI_add _ _) ?_
              refine mo_l49 C dd_Mo_keep_235 (by omega) (kk := ?_)
              refine gx_topi (nI (x.1 / 1024)) (by exact ((hfr.2.2.1 (260 + j) (by omega)).1.trans (by rw [show 260 + j = 65 * 4 + j by omega]; exact hxa.1))) ?_
              refine mo_s49 C dd_Mo_keep_236 (by omega) (kk := fun F236 hF236 => ?_)
              refine gx_aload_n C 2 dd_Mo_keep_237 (kk := ?_)
              refine mo_get C fd_Mo_29 dd_Mo_keep_238 (kk := ?_)
              refine gx_bipush (v := nI 65) C dd_Mo_keep_241 (kk := ?_)
              refine gx_iload_n C 3 dd_Mo_keep_243 (kk := ?_)
              refine gx_imul C dd_Mo_keep_244 (kk := ?_)
              refine gx_topi _ (pk_mul _ _) ?_
              refine gx_iload_n C 0 dd_Mo_keep_245 (kk := ?_)
              refine gx_iadd C dd_Mo_keep_246 (kk := ?_)
              refine gx_topi _ (nI_add _ _) ?_
              refine gx_aload_n C 2 dd_Mo_keep_247 (kk := ?_)
              refine mo_get C fd_Mo_29 dd_Mo_keep_248 (kk := ?_)
              refine gx_sipush (v := nI 260) C dd_Mo_keep_251 (kk := ?_)
              refine gx_iload_n C 0 dd_Mo_keep_254 (kk := ?_)
              refine gx_iadd C dd_Mo_keep_255 (kk := ?_)
              refine gx_topi _ (nI_add _ _) ?_
              refine mo_l50 C dd_Mo_keep_256 (by omega) (kk := ?_)
              refine gx_topi (nI (x.1 % 16)) (by rw [hF236, gm_un (by decide)]; exact ((hfr.2.2.1 (260 + j) (by omega)).2.1.trans (by rw [show 260 + j = 65 * 4 + j by omega]; exact hxa.2.1))) ?_
              refine mo_s50 C dd_Mo_keep_257 (by omega) (kk := fun F257 hF257 => ?_)
              refine gx_aload_n C 2 dd_Mo_keep_258 (kk := ?_)
              refine mo_get C fd_Mo_32 dd_Mo_keep_259 (kk := ?_)
              refine gx_bipush (v := nI 65) C dd_Mo_keep_262 (kk := ?_)
              refine gx_iload_n C 3 dd_Mo_keep_264 (kk := ?_)
              refine gx_imul C dd_Mo_keep_265 (kk := ?_)
              refine gx_topi _ (pk_mul _ _) ?_
              refine gx_iload_n C 0 dd_Mo_keep_266 (kk := ?_)
              refine gx_iadd C dd_Mo_keep_267 (kk := ?_)
              refine gx_topi _ (nI_add _ _) ?_
              refine gx_aload_n C 2 dd_Mo_keep_268 (kk := ?_)
              refine mo_get C fd_Mo_32 dd_Mo_keep_269 (kk := ?_)
              refine gx_sipush (v := nI 260) C dd_Mo_keep_272 (kk := ?_)
              refine gx_iload_n C 0 dd_Mo_keep_275 (kk := ?_)
              refine gx_iadd C dd_Mo_keep_276 (kk := ?_)
              refine gx_topi _ (nI_add _ _) ?_
              refine mo_l51 C dd_Mo_keep_277 (by omega) (kk := ?_)
              refine gx_topi (nI (x.1 / 128 % 8)) (by rw [hF257, gm_un (by decide), hF236, gm_un (by decide)]; exact ((hfr.2.2.1 (260 + j) (by omega)).2.2.1.trans (by rw [show 260 + j = 65 * 4 + j by omega]; exact hxa.2.2.1))) ?_
              refine mo_s51 C dd_Mo_keep_278 (by omega) (kk := fun F278 hF278 => ?_)
              refine gx_aload_n C 2 dd_Mo_keep_279 (kk := ?_)
              refine mo_get C fd_Mo_35 dd_Mo_keep_280 (kk := ?_)
              refine gx_bipush (v := nI 65) C dd_Mo_keep_283 (kk := ?_)
              refine gx_iload_n C 3 dd_Mo_keep_285 (kk := ?_)
              refine gx_imul C dd_Mo_keep_286 (kk := ?_)
              refine gx_topi _ (pk_mul _ _) ?_
              refine gx_iload_n C 0 dd_Mo_keep_287 (kk := ?_)
              refine gx_iadd C dd_Mo_keep_288 (kk := ?_)
              refine gx_topi _ (nI_add _ _) ?_
              refine gx_aload_n C 2 dd_Mo_keep_289 (kk := ?_)
              refine mo_get C fd_Mo_35 dd_Mo_keep_290 (kk := ?_)
              refine gx_sipush (v := nI 260) C dd_Mo_keep_293 (kk := ?_)
              refine gx_iload_n C 0 dd_Mo_keep_296 (kk := ?_)
              refine gx_iadd C dd_Mo_keep_297 (kk := ?_)
              refine gx_topi _ (nI_add _ _) ?_
              refine mo_l52 C dd_Mo_keep_298 (by omega) (kk := ?_)
              refine gx_topi (nI (x.1 / 16 % 8)) (by rw [hF278, gm_un (by decide), hF257, gm_un (by decide), hF236, gm_un (by decide)]; exact ((hfr.2.2.1 (260 + j) (by omega)).2.2.2.1.trans (by rw [show 260 + j = 65 * 4 + j by omega]; exact hxa.2.2.2.1))) ?_
              refine mo_s52 C dd_Mo_keep_299 (by omega) (kk := fun F299 hF299 => ?_)
              refine gx_aload_n C 2 dd_Mo_keep_300 (kk := ?_)
              refine mo_get C fd_Mo_38 dd_Mo_keep_301 (kk := ?_)
              refine gx_bipush (v := nI 65) C dd_Mo_keep_304 (kk := ?_)
              refine gx_iload_n C 3 dd_Mo_keep_306 (kk := ?_)
              refine gx_imul C dd_Mo_keep_307 (kk := ?_)
              refine gx_topi _ (pk_mul _ _) ?_
              refine gx_iload_n C 0 dd_Mo_keep_308 (kk := ?_)
              refine gx_iadd C dd_Mo_keep_309 (kk := ?_)
              refine gx_topi _ (nI_add _ _) ?_
              refine gx_aload_n C 2 dd_Mo_keep_310 (kk := ?_)
              refine mo_get C fd_Mo_38 dd_Mo_keep_311 (kk := ?_)
              refine gx_sipush (v := nI 260) C dd_Mo_keep_314 (kk := ?_)
              refine gx_iload_n C 0 dd_Mo_keep_317 (kk := ?_)
              refine gx_iadd C dd_Mo_keep_318 (kk := ?_)
              refine gx_topi _ (nI_add _ _) ?_
              refine mo_l53 C dd_Mo_keep_319 (by omega) (kk := ?_)
              refine gx_topl (lN x.2) (by exact ((hfr.2.2.1 (260 + j) (by omega)).2.2.2.2.trans (by rw [show 260 + j = 65 * 4 + j by omega]; exact hxa.2.2.2.2))) ?_
              refine mo_s53 C dd_Mo_keep_320 (by omega) (kk := fun L320 hL320 => ?_)
              refine gx_iinc C 0 (nI (j + 1)) _ dd_Mo_keep_321 (nI_1 j) (kk := ?_)
              refine gx_goto C 206 dd_Mo_keep_324 (kk := ?_)
              refine ih (j + 1) F299 L320 (by omega) (fun k a1 a2 a3 a4 => by rw [hF299, gm_un a4, hF278, gm_un a3, hF257, gm_un a2, hF236, gm_un a1]; exact hFk k a1 a2 a3 a4) (fun k a1 => by rw [hL320, gm_un a1]; exact hLk k a1) (by rw [hF299, gm_un (by decide), hF278, gm_un (by decide), hF257, gm_un (by decide), hF236, gm_un (by decide)]; exact h48) (fun i y hi hy => ?_) (mo_fr_tr hfr (mo_fr_tr (mo_fr_49 (by omega) hF236) (mo_fr_tr (mo_fr_50 (by omega) hF257) (mo_fr_tr (mo_fr_51 (by omega) hF278) (mo_fr_tr (mo_fr_52 (by omega) hF299) (mo_fr_53 (by omega) hL320))))))
              have e49 : F299 49 = upd (F1 49) (65 * c + j) (nI (x.1 / 1024)) := by rw [hF299, gm_un (by decide), hF278, gm_un (by decide), hF257, gm_un (by decide), hF236, gm_us]
              have e50 : F299 50 = upd (F1 50) (65 * c + j) (nI (x.1 % 16)) := by rw [hF299, gm_un (by decide), hF278, gm_un (by decide), hF257, gm_us, hF236, gm_un (by decide)]
              have e51 : F299 51 = upd (F1 51) (65 * c + j) (nI (x.1 / 128 % 8)) := by rw [hF299, gm_un (by decide), hF278, gm_us, hF257, gm_un (by decide), hF236, gm_un (by decide)]
              have e52 : F299 52 = upd (F1 52) (65 * c + j) (nI (x.1 / 16 % 8)) := by rw [hF299, gm_us, hF278, gm_un (by decide), hF257, gm_un (by decide), hF236, gm_un (by decide)]
              have e53 : L320 53 = vp_updL (L1 53) (65 * c + j) (lN x.2) := by rw [hL320, gm_us]
              unfold mo_a
              rw [e49, e50, e51, e52, e53]
              by_cases hij : i = j
              · subst hij
                rw [hx] at hy
                cases hy
                rw [pk_us, pk_us, pk_us, pk_us, pk_uLs]
                exact ⟨rfl, rfl, rfl, rfl, rfl⟩
              · rw [pk_un (by omega), pk_un (by omega), pk_un (by omega), pk_un (by omega), pk_uLn (by omega)]
                exact hrow i y (by omega) hy
          exact loopD (am_ar b).length 0 F169 L2 (by omega) (fun _ _ _ _ _ => rfl) (fun _ _ => rfl) (by rw [hF169, gm_us, pk_us]; exact hM.2.2.2.1) (fun i x hi => absurd hi (Nat.not_lt_zero _)) hfr
        | succ m ih =>
          intro j L2 hj hL hL2k hfr
          refine gx_iload_n C 0 dd_Mo_keep_172 (kk := ?_)
          refine gx_bipush (v := nI 16) C dd_Mo_keep_173 (kk := ?_)
          refine gx_icmp_ge C 204 dd_Mo_keep_175 (fun h175 => absurd h175 (nI_ge (by omega) (by omega))) (fun h175 => ?_)
          refine gx_aload_n C 2 dd_Mo_keep_178 (kk := ?_)
          refine mo_get C fd_Mo_20 dd_Mo_keep_179 (kk := ?_)
          refine gx_bipush (v := nI 16) C dd_Mo_keep_182 (kk := ?_)
          refine gx_iload_n C 3 dd_Mo_keep_184 (kk := ?_)
          refine gx_imul C dd_Mo_keep_185 (kk := ?_)
          refine gx_topi _ (pk_mul _ _) ?_
          refine gx_iload_n C 0 dd_Mo_keep_186 (kk := ?_)
          refine gx_iadd C dd_Mo_keep_187 (kk := ?_)
          refine gx_topi _ (nI_add _ _) ?_
          refine gx_aload_n C 2 dd_Mo_keep_188 (kk := ?_)
          refine mo_get C fd_Mo_20 dd_Mo_keep_189 (kk := ?_)
          refine gx_bipush (v := nI 64) C dd_Mo_keep_192 (kk := ?_)
          refine gx_iload_n C 0 dd_Mo_keep_194 (kk := ?_)
          refine gx_iadd C dd_Mo_keep_195 (kk := ?_)
          refine gx_topi _ (nI_add _ _) ?_
          refine mo_l47 C dd_Mo_keep_196 (by omega) (kk := ?_)
          refine gx_topl (am_e (am_en b j)) ((hfr.2.1 (64 + j) (by omega)).trans (by rw [show 64 + j = 16 * 4 + j by omega]; exact hM.2.2.1 j (by omega))) ?_
          refine mo_s47 C dd_Mo_keep_197 (by omega) (kk := fun L197 hL197 => ?_)
          refine gx_iinc C 0 (nI (j + 1)) _ dd_Mo_keep_198 (nI_1 j) (kk := ?_)
          refine gx_goto C 172 dd_Mo_keep_201 (kk := ?_)
          refine ih (j + 1) L197 (by omega) (fun q hq => ?_) (fun k hk => by rw [hL197, gm_un hk]; exact hL2k k hk) (mo_fr_tr hfr (mo_fr_47 (by omega) hL197))
          rw [hL197, gm_us]
          by_cases hqj : q = j
          · rw [hqj, pk_uLs]
          · rw [pk_uLn (by omega)]
            exact hL q (by omega)
      exact loopC 16 0 L157 rfl (fun q hq => absurd hq (Nat.not_lt_zero _)) (fun _ _ => rfl) (mo_fr_tr (mo_fr_44 hF133) (mo_fr_tr (mo_fr_45 hF145) (mo_fr_tr (mo_fr_46 hL157) (mo_fr_48 hF169))))
  have loopB : ∀ m j, j + m = (am_ar b).length → gx_G K D 4 0 0 73 [(3, .int (nI j)), (2, .int (nI (decide (am_sw b ≤ 1000000000) && am_fe (am_en b) (am_n b) && am_fa (am_ar b) j).toNat)), (0, .ref (ad 43)), (1, .int (nI c))] [] (gx_w ad (mo_h dA ad h F L S)) (gx_Z K D dA 0 0 (fun v w => (am_fit b = true ∧ v = some (.int (nI 1)) ∧ ∃ F2 L2, w = (gx_w ad (mo_h dA ad h F2 L2 S)) ∧ mo_is F2 L2 c b ∧ mo_fr c F L F2 L2) ∨ (am_fit b = false ∧ v = some (.int (nI 0)) ∧ w = (gx_w ad (mo_h dA ad h F L S))))) := by
    intro m
    induction m with
    | zero =>
      intro j hj
      refine gx_iload_n C 0 dd_Mo_keep_73 (kk := ?_)
      refine gx_aload_n C 2 dd_Mo_keep_74 (kk := ?_)
      refine mo_get C fd_Mo_23 dd_Mo_keep_75 (kk := ?_)
      refine gx_iconst (v := nI 4) C dd_Mo_keep_78 (kk := ?_)
      refine mo_l48 C dd_Mo_keep_79 (by omega) (kk := ?_)
      refine gx_topi _ hM.2.2.2.1 ?_
      refine gx_icmp_ge C 116 dd_Mo_keep_80 (fun h80 => ?_) (fun h80 => absurd (nI_le (a := (am_ar b).length) (b := j) (by omega) (by omega)) h80)
      rw [show j = (am_ar b).length by omega]
      exact good _
    | succ m ih =>
      intro j hj
      obtain ⟨x, hx⟩ : ∃ x, (am_ar b)[j]? = some x := ⟨_, List.getElem?_eq_getElem (by omega)⟩
      have hxa := hM.2.2.2.2.1 j x hx
      have hxw := hwb x (List.mem_of_getElem? hx)
      refine gx_iload_n C 0 dd_Mo_keep_73 (kk := ?_)
      refine gx_aload_n C 2 dd_Mo_keep_74 (kk := ?_)
      refine mo_get C fd_Mo_23 dd_Mo_keep_75 (kk := ?_)
      refine gx_iconst (v := nI 4) C dd_Mo_keep_78 (kk := ?_)
      refine mo_l48 C dd_Mo_keep_79 (by omega) (kk := ?_)
      refine gx_topi _ hM.2.2.2.1 ?_
      refine gx_icmp_ge C 116 dd_Mo_keep_80 (fun h80 => absurd h80 (nI_ge (by omega) (by omega))) (fun h80 => ?_)
      refine gx_iload_n C 1 dd_Mo_keep_83 (kk := ?_)
      refine gx_if_eq C 108 dd_Mo_keep_84 (fun h84 => ?_) (fun h84 => ?_)
      · refine gx_iconst (v := nI 0) C dd_Mo_keep_108 (kk := ?_)
        refine gx_topi (nI (decide (am_sw b ≤ 1000000000) && am_fe (am_en b) (am_n b) && am_fa (am_ar b) (j + 1)).toNat) ?_ ?_
        · rw [fb_0] at h84
          rw [am_fa_s hx, ← Bool.and_assoc, h84]
          rfl
        refine gx_istore_n C _ dd_Mo_keep_109 (kk := ?_)
        refine gx_iinc C 1 (nI (j + 1)) _ dd_Mo_keep_110 (nI_1 j) (kk := ?_)
        refine gx_goto C 73 dd_Mo_keep_113 (kk := ?_)
        exact ih (j + 1) (by omega)
      · refine gx_aload_n C 2 dd_Mo_keep_87 (kk := ?_)
        refine mo_get C fd_Mo_38 dd_Mo_keep_88 (kk := ?_)
        refine gx_sipush (v := nI 260) C dd_Mo_keep_91 (kk := ?_)
        refine gx_iload_n C 0 dd_Mo_keep_94 (kk := ?_)
        refine gx_iadd C dd_Mo_keep_95 (kk := ?_)
        refine gx_topi _ (nI_add _ _) ?_
        refine mo_l53 C dd_Mo_keep_96 (by omega) (kk := ?_)
        refine gx_topl (lN x.2) (by rw [show 260 + j = 65 * 4 + j by omega]; exact hxa.2.2.2.2) ?_
        refine gx_ldc2 C dd_Mo_keep_97 kc_Mo_85 (kk := ?_)
        refine gx_lcmp C dd_Mo_keep_100 (kk := ?_)
        refine gx_if_gt C 108 dd_Mo_keep_101 (fun h101 => ?_) (fun h101 => ?_)
        · refine gx_iconst (v := nI 0) C dd_Mo_keep_108 (kk := ?_)
          refine gx_topi (nI (decide (am_sw b ≤ 1000000000) && am_fe (am_en b) (am_n b) && am_fa (am_ar b) (j + 1)).toNat) ?_ ?_
          · rw [lc_gt, lN_e9 (by omega)] at h101
            rw [am_fa_s hx, ← Bool.and_assoc, decide_eq_false (show ¬ x.2 ≤ 1000000000 by omega), Bool.and_false]
            rfl
          refine gx_istore_n C _ dd_Mo_keep_109 (kk := ?_)
          refine gx_iinc C 1 (nI (j + 1)) _ dd_Mo_keep_110 (nI_1 j) (kk := ?_)
          refine gx_goto C 73 dd_Mo_keep_113 (kk := ?_)
          exact ih (j + 1) (by omega)
        · refine gx_iconst (v := nI 1) C dd_Mo_keep_104 (kk := ?_)
          refine gx_goto C 109 dd_Mo_keep_105 (kk := ?_)
          refine gx_topi (nI (decide (am_sw b ≤ 1000000000) && am_fe (am_en b) (am_n b) && am_fa (am_ar b) (j + 1)).toNat) ?_ ?_
          · rw [lc_gt, lN_e9 (by omega)] at h101
            rw [fb_0] at h84
            rw [am_fa_s hx, ← Bool.and_assoc, decide_eq_true (show x.2 ≤ 1000000000 by omega), ts_nf h84]
            rfl
          refine gx_istore_n C _ dd_Mo_keep_109 (kk := ?_)
          refine gx_iinc C 1 (nI (j + 1)) _ dd_Mo_keep_110 (nI_1 j) (kk := ?_)
          refine gx_goto C 73 dd_Mo_keep_113 (kk := ?_)
          exact ih (j + 1) (by omega)
  have loopA : ∀ m j, j + m = am_n b → gx_G K D 4 0 0 29 [(3, .int (nI j)), (2, .int (nI (decide (am_sw b ≤ 1000000000) && am_fe (am_en b) j).toNat)), (0, .ref (ad 43)), (1, .int (nI c))] [] (gx_w ad (mo_h dA ad h F L S)) (gx_Z K D dA 0 0 (fun v w => (am_fit b = true ∧ v = some (.int (nI 1)) ∧ ∃ F2 L2, w = (gx_w ad (mo_h dA ad h F2 L2 S)) ∧ mo_is F2 L2 c b ∧ mo_fr c F L F2 L2) ∨ (am_fit b = false ∧ v = some (.int (nI 0)) ∧ w = (gx_w ad (mo_h dA ad h F L S))))) := by
    intro m
    induction m with
    | zero =>
      intro j hj
      refine gx_iload_n C 0 dd_Mo_keep_29 (kk := ?_)
      refine gx_aload_n C 2 dd_Mo_keep_30 (kk := ?_)
      refine mo_get C fd_Mo_7 dd_Mo_keep_31 (kk := ?_)
      refine gx_iconst (v := nI 4) C dd_Mo_keep_34 (kk := ?_)
      refine mo_l44 C dd_Mo_keep_35 (by omega) (kk := ?_)
      refine gx_topi _ hM.1 ?_
      refine gx_icmp_ge C 71 dd_Mo_keep_36 (fun h36 => ?_) (fun h36 => absurd (nI_le (a := am_n b) (b := j) (by omega) (by omega)) h36)
      refine gx_iconst (v := nI 0) C dd_Mo_keep_71 (kk := ?_)
      refine gx_istore_n C _ dd_Mo_keep_72 (kk := ?_)
      rw [show j = am_n b by omega]
      rw [show (decide (am_sw b ≤ 1000000000) && am_fe (am_en b) (am_n b)) = (decide (am_sw b ≤ 1000000000) && am_fe (am_en b) (am_n b) && am_fa (am_ar b) 0) by simp [am_fa]]
      exact loopB (am_ar b).length 0 (by omega)
    | succ m ih =>
      intro j hj
      refine gx_iload_n C 0 dd_Mo_keep_29 (kk := ?_)
      refine gx_aload_n C 2 dd_Mo_keep_30 (kk := ?_)
      refine mo_get C fd_Mo_7 dd_Mo_keep_31 (kk := ?_)
      refine gx_iconst (v := nI 4) C dd_Mo_keep_34 (kk := ?_)
      refine mo_l44 C dd_Mo_keep_35 (by omega) (kk := ?_)
      refine gx_topi _ hM.1 ?_
      refine gx_icmp_ge C 71 dd_Mo_keep_36 (fun h36 => absurd h36 (nI_ge (by omega) (by omega))) (fun h36 => ?_)
      refine gx_iload_n C 1 dd_Mo_keep_39 (kk := ?_)
      refine gx_if_eq C 63 dd_Mo_keep_40 (fun h40 => ?_) (fun h40 => ?_)
      · refine gx_iconst (v := nI 0) C dd_Mo_keep_63 (kk := ?_)
        refine gx_topi (nI (decide (am_sw b ≤ 1000000000) && am_fe (am_en b) (j + 1)).toNat) ?_ ?_
        · rw [fb_0] at h40
          simp only [am_fe, ← Bool.and_assoc, h40]
          rfl
        refine gx_istore_n C _ dd_Mo_keep_64 (kk := ?_)
        refine gx_iinc C 1 (nI (j + 1)) _ dd_Mo_keep_65 (nI_1 j) (kk := ?_)
        refine gx_goto C 29 dd_Mo_keep_68 (kk := ?_)
        exact ih (j + 1) (by omega)
      · refine gx_aload_n C 2 dd_Mo_keep_43 (kk := ?_)
        refine mo_get C fd_Mo_20 dd_Mo_keep_44 (kk := ?_)
        refine gx_bipush (v := nI 64) C dd_Mo_keep_47 (kk := ?_)
        refine gx_iload_n C 0 dd_Mo_keep_49 (kk := ?_)
        refine gx_iadd C dd_Mo_keep_50 (kk := ?_)
        refine gx_topi _ (nI_add _ _) ?_
        refine mo_l47 C dd_Mo_keep_51 (by omega) (kk := ?_)
        refine gx_topl (am_e (am_en b j)) (by rw [show 64 + j = 16 * 4 + j by omega]; exact hM.2.2.1 j (by omega)) ?_
        refine gx_ldc2 C dd_Mo_keep_52 kc_Mo_85 (kk := ?_)
        refine gx_lcmp C dd_Mo_keep_55 (kk := ?_)
        refine gx_if_gt C 63 dd_Mo_keep_56 (fun h56 => ?_) (fun h56 => ?_)
        · refine gx_iconst (v := nI 0) C dd_Mo_keep_63 (kk := ?_)
          refine gx_topi (nI (decide (am_sw b ≤ 1000000000) && am_fe (am_en b) (j + 1)).toNat) ?_ ?_
          · rw [lc_gt, am_e_e9 (fun w hw => Nat.lt_of_lt_of_le (heb _ _ hw) (by omega))] at h56
            simp only [am_fe, ← Bool.and_assoc, h56, Bool.and_false]
            rfl
          refine gx_istore_n C _ dd_Mo_keep_64 (kk := ?_)
          refine gx_iinc C 1 (nI (j + 1)) _ dd_Mo_keep_65 (nI_1 j) (kk := ?_)
          refine gx_goto C 29 dd_Mo_keep_68 (kk := ?_)
          exact ih (j + 1) (by omega)
        · refine gx_iconst (v := nI 1) C dd_Mo_keep_59 (kk := ?_)
          refine gx_goto C 64 dd_Mo_keep_60 (kk := ?_)
          refine gx_topi (nI (decide (am_sw b ≤ 1000000000) && am_fe (am_en b) (j + 1)).toNat) ?_ ?_
          · rw [lc_gt, am_e_e9 (fun w hw => Nat.lt_of_lt_of_le (heb _ _ hw) (by omega))] at h56
            rw [fb_0] at h40
            simp only [am_fe, ← Bool.and_assoc, ts_nf h56, ts_nf h40]
            rfl
          refine gx_istore_n C _ dd_Mo_keep_64 (kk := ?_)
          refine gx_iinc C 1 (nI (j + 1)) _ dd_Mo_keep_65 (nI_1 j) (kk := ?_)
          refine gx_goto C 29 dd_Mo_keep_68 (kk := ?_)
          exact ih (j + 1) (by omega)
  rcases hst : am_st b with _ | s0
  · have hsq := hM.2.1
    rw [hst] at hsq
    refine gx_aload_n C 0 dd_Mo_keep_0 (kk := ?_)
    refine mo_get C fd_Mo_13 dd_Mo_keep_1 (kk := ?_)
    refine gx_iconst (v := nI 4) C dd_Mo_keep_4 (kk := ?_)
    refine mo_l45 C dd_Mo_keep_5 (by omega) (kk := ?_)
    refine gx_topi _ hsq.1 ?_
    refine gx_if_lt C 21 dd_Mo_keep_6 (fun h6 => ?_) (fun h6 => absurd (by decide) h6)
    refine gx_iconst (v := nI 1) C dd_Mo_keep_21 (kk := ?_)
    refine gx_goto C 26 dd_Mo_keep_22 (kk := ?_)
    refine gx_topi (nI (decide (am_sw b ≤ 1000000000) && am_fe (am_en b) 0).toNat) ?_ ?_
    · rw [decide_eq_true (show am_sw b ≤ 1000000000 by unfold am_sw; rw [hst]; decide)]
      rfl
    refine gx_istore_n C _ dd_Mo_keep_26 (kk := ?_)
    refine gx_iconst (v := nI 0) C dd_Mo_keep_27 (kk := ?_)
    refine gx_istore_n C _ dd_Mo_keep_28 (kk := ?_)
    exact loopA (am_n b) 0 (by omega)
  · have hsq := hM.2.1
    rw [hst] at hsq
    have hs0 := hsb s0 hst
    refine gx_aload_n C 0 dd_Mo_keep_0 (kk := ?_)
    refine mo_get C fd_Mo_13 dd_Mo_keep_1 (kk := ?_)
    refine gx_iconst (v := nI 4) C dd_Mo_keep_4 (kk := ?_)
    refine mo_l45 C dd_Mo_keep_5 (by omega) (kk := ?_)
    refine gx_topi _ hsq.1 ?_
    refine gx_if_lt C 21 dd_Mo_keep_6 (fun h6 => absurd h6 (nI_pos (by omega))) (fun h6 => ?_)
    refine gx_aload_n C 0 dd_Mo_keep_9 (kk := ?_)
    refine mo_get C fd_Mo_16 dd_Mo_keep_10 (kk := ?_)
    refine gx_iconst (v := nI 4) C dd_Mo_keep_13 (kk := ?_)
    refine mo_l46 C dd_Mo_keep_14 (by omega) (kk := ?_)
    refine gx_topl _ hsq.2 ?_
    refine gx_callS C (ct_Mo_isWeight (gx_l K) D dA _ (lN s0.2)) me_Mo_isWeight ml_Mo_91 ms_Mo_isWeight dd_Mo_keep_15 (kk := fun v w hq => ?_)
    obtain ⟨rfl, rfl⟩ := hq
    refine gx_if_eq C 25 dd_Mo_keep_18 (fun h18 => ?_) (fun h18 => ?_)
    · have h18b : ¬ s0.2 ≤ 1000000000 := fun e => by
        rw [if_neg (fun c => c.elim (fun c => by rw [pk_lLT (by omega) (by decide)] at c; omega) (fun c => by rw [lN_e9 (by omega)] at c; omega))] at h18
        exact absurd h18 (by decide)
      refine gx_iconst (v := nI 0) C dd_Mo_keep_25 (kk := ?_)
      refine gx_topi (nI (decide (am_sw b ≤ 1000000000) && am_fe (am_en b) 0).toNat) ?_ ?_
      · have hsw : am_sw b = s0.2 := by unfold am_sw; rw [hst]
        rw [hsw]
        rw [decide_eq_false (by omega)]
        rfl
      refine gx_istore_n C _ dd_Mo_keep_26 (kk := ?_)
      refine gx_iconst (v := nI 0) C dd_Mo_keep_27 (kk := ?_)
      refine gx_istore_n C _ dd_Mo_keep_28 (kk := ?_)
      exact loopA (am_n b) 0 (by omega)
    · have h18b : s0.2 ≤ 1000000000 := by
        rcases Nat.lt_or_ge 1000000000 s0.2 with c | c
        · rw [if_pos (Or.inr ((lN_e9 (by omega)).mpr c))] at h18
          exact absurd rfl h18
        · exact c
      refine gx_iconst (v := nI 1) C dd_Mo_keep_21 (kk := ?_)
      refine gx_goto C 26 dd_Mo_keep_22 (kk := ?_)
      refine gx_topi (nI (decide (am_sw b ≤ 1000000000) && am_fe (am_en b) 0).toNat) ?_ ?_
      · have hsw : am_sw b = s0.2 := by unfold am_sw; rw [hst]
        rw [hsw]
        rw [decide_eq_true (by omega)]
        rfl
      refine gx_istore_n C _ dd_Mo_keep_26 (kk := ?_)
      refine gx_iconst (v := nI 0) C dd_Mo_keep_27 (kk := ?_)
      refine gx_istore_n C _ dd_Mo_keep_28 (kk := ?_)
      exact loopA (am_n b) 0 (by omega)
