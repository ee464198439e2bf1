/-! the law: its cases -/
set_option maxRecDepth 20000 in
theorem lc_row {E : EG} {a a2 : Nat → Nat} {b L k kc nc : Nat} {xs : Nat → Int32} {Z : ZX} {w1 w2 : va_W} (C : CX E mLw qLw Z) (hX : SX Z b L xs) (hL : L ≤ 3072) (hk : 6 * k + 6 ≤ L) (hcl : kc ≤ 600000 ∧ nc ≤ 7302250) (hJ : JJ E a a2 w1 w2) (back : ∀ w1 w2 : va_W, JJ E a a2 w1 w2 → V E mLw qLw Z kc nc (w1 ++ w2) [(0, .ref b), (1, .ref (a 0)), (2, .ref (a2 0)), (3, .int (nI (6 * k)))] [] 1091) : V E mLw qLw Z kc nc (w1 ++ w2) [(0, .ref b), (1, .ref (a 0)), (2, .ref (a2 0)), (3, .int (nI (6 * k)))] [] 164 := by
  obtain ⟨⟨hl1, hl2⟩, ⟨f1, hf1⟩, ⟨f2, hf2⟩⟩ := hJ.len
  obtain ⟨pC, hC, h2⟩ := j_row hJ (xs (6 * k + 1)) (xs (6 * k + 2)) (xs (6 * k + 3))
  refine mr_aload_n C 165 dL_law_164 rfl rfl ?_
  refine mr_aload_n C 166 dL_law_165 rfl rfl ?_
  refine mr_iload_n C 167 dL_law_166 rfl rfl ?_
  refine mr_iconst C (nI 1) 168 dL_law_167 rfl rfl ?_
  refine mr_iadd C (nI (6 * k + 1)) 169 dL_law_168 rfl (nI_add _ _) ?_
  refine mr_sld C hX (6 * k + 1) 170 dL_law_169 rfl rfl (by omega) (by omega) ?_
  refine mr_aload_n C 171 dL_law_170 rfl rfl ?_
  refine mr_iload_n C 172 dL_law_171 rfl rfl ?_
  refine mr_iconst C (nI 2) 173 dL_law_172 rfl rfl ?_
  refine mr_iadd C (nI (6 * k + 2)) 174 dL_law_173 rfl (nI_add _ _) ?_
  refine mr_sld C hX (6 * k + 2) 175 dL_law_174 rfl rfl (by omega) (by omega) ?_
  refine mr_aload_n C 176 dL_law_175 rfl rfl ?_
  refine mr_iload_n C 177 dL_law_176 rfl rfl ?_
  refine mr_iconst C (nI 3) 178 dL_law_177 rfl rfl ?_
  refine mr_iadd C (nI (6 * k + 3)) 179 dL_law_178 rfl (nI_add _ _) ?_
  refine mr_sld C hX (6 * k + 3) 180 dL_law_179 rfl rfl (by omega) (by omega) ?_
  refine mr_callV C hC (List.range' 0 79) 0 7 183 dL_law_180 rfl mk_X7_row mi_X7_row ml_L_13 rfl rfl rfl (cut_X hl1) (nd_range 79 0) (Nat.le_of_ble_eq_true rfl) (Nat.le_of_ble_eq_true rfl) (Nat.le_of_ble_eq_true rfl) hcl (get_X hf1) rfl (fun r w hp => ?_)
  obtain ⟨z, rfl, hw, pM, hM, h3⟩ := h2 r w hp
  refine mr_w (put_X hl1 hw) ?_
  refine mr_aload_n C 184 dL_law_183 rfl rfl ?_
  refine mr_aload_n C 185 dL_law_184 rfl rfl ?_
  refine mr_iload_n C 186 dL_law_185 rfl rfl ?_
  refine mr_iconst C (nI 1) 187 dL_law_186 rfl rfl ?_
  refine mr_iadd C (nI (6 * k + 1)) 188 dL_law_187 rfl (nI_add _ _) ?_
  refine mr_sld C hX (6 * k + 1) 189 dL_law_188 rfl rfl (by omega) (by omega) ?_
  refine mr_aload_n C 190 dL_law_189 rfl rfl ?_
  refine mr_iload_n C 191 dL_law_190 rfl rfl ?_
  refine mr_iconst C (nI 2) 192 dL_law_191 rfl rfl ?_
  refine mr_iadd C (nI (6 * k + 2)) 193 dL_law_192 rfl (nI_add _ _) ?_
  refine mr_sld C hX (6 * k + 2) 194 dL_law_193 rfl rfl (by omega) (by omega) ?_
  refine mr_aload_n C 195 dL_law_194 rfl rfl ?_
  refine mr_iload_n C 196 dL_law_195 rfl rfl ?_
  refine mr_iconst C (nI 3) 197 dL_law_196 rfl rfl ?_
  refine mr_iadd C (nI (6 * k + 3)) 198 dL_law_197 rfl (nI_add _ _) ?_
  refine mr_sld C hX (6 * k + 3) 199 dL_law_198 rfl rfl (by omega) (by omega) ?_
  refine mr_callV C hM (List.range' 79 17) 79 8 202 dL_law_199 rfl mk_X8_row mi_X8_row ml_L_17 rfl rfl rfl (cut_Y hw hl2) (nd_range 17 79) (Nat.le_of_ble_eq_true rfl) (Nat.le_of_ble_eq_true rfl) (Nat.le_of_ble_eq_true rfl) hcl (get_Y hw hf2) rfl (fun r w3 hp3 => ?_)
  obtain ⟨rfl, hJ3⟩ := h3 r w3 hp3
  refine mr_w (put_Y hw hl2 hJ3.len.1.2) ?_
  exact mr_icmpeq C 1091 205 dL_law_202 (by decide) rfl (fun _ => back _ _ hJ3) (fun h => absurd rfl h)
set_option maxRecDepth 20000 in
theorem lc_set {E : EG} {a a2 : Nat → Nat} {b L k kc nc : Nat} {xs : Nat → Int32} {Z : ZX} {w1 w2 : va_W} (C : CX E mLw qLw Z) (hX : SX Z b L xs) (hL : L ≤ 3072) (hk : 6 * k + 6 ≤ L) (hcl : kc ≤ 600000 ∧ nc ≤ 7302250) (hJ : JJ E a a2 w1 w2) (back : ∀ w1 w2 : va_W, JJ E a a2 w1 w2 → V E mLw qLw Z kc nc (w1 ++ w2) [(0, .ref b), (1, .ref (a 0)), (2, .ref (a2 0)), (3, .int (nI (6 * k)))] [] 1091) : V E mLw qLw Z kc nc (w1 ++ w2) [(0, .ref b), (1, .ref (a 0)), (2, .ref (a2 0)), (3, .int (nI (6 * k)))] [] 207 := by
  obtain ⟨⟨hl1, hl2⟩, ⟨f1, hf1⟩, ⟨f2, hf2⟩⟩ := hJ.len
  obtain ⟨pC, hC, h2⟩ := j_set hJ (xs (6 * k + 1)) (xs (6 * k + 2)) (xs (6 * k + 3))
  refine mr_aload_n C 208 dL_law_207 rfl rfl ?_
  refine mr_aload_n C 209 dL_law_208 rfl rfl ?_
  refine mr_iload_n C 210 dL_law_209 rfl rfl ?_
  refine mr_iconst C (nI 1) 211 dL_law_210 rfl rfl ?_
  refine mr_iadd C (nI (6 * k + 1)) 212 dL_law_211 rfl (nI_add _ _) ?_
  refine mr_sld C hX (6 * k + 1) 213 dL_law_212 rfl rfl (by omega) (by omega) ?_
  refine mr_aload_n C 214 dL_law_213 rfl rfl ?_
  refine mr_iload_n C 215 dL_law_214 rfl rfl ?_
  refine mr_iconst C (nI 2) 216 dL_law_215 rfl rfl ?_
  refine mr_iadd C (nI (6 * k + 2)) 217 dL_law_216 rfl (nI_add _ _) ?_
  refine mr_sld C hX (6 * k + 2) 218 dL_law_217 rfl rfl (by omega) (by omega) ?_
  refine mr_aload_n C 219 dL_law_218 rfl rfl ?_
  refine mr_iload_n C 220 dL_law_219 rfl rfl ?_
  refine mr_iconst C (nI 3) 221 dL_law_220 rfl rfl ?_
  refine mr_iadd C (nI (6 * k + 3)) 222 dL_law_221 rfl (nI_add _ _) ?_
  refine mr_sld C hX (6 * k + 3) 223 dL_law_222 rfl rfl (by omega) (by omega) ?_
  refine mr_callV C hC (List.range' 0 79) 0 7 226 dL_law_223 rfl mk_X7_set mi_X7_set ml_L_18 rfl rfl rfl (cut_X hl1) (nd_range 79 0) (Nat.le_of_ble_eq_true rfl) (Nat.le_of_ble_eq_true rfl) (Nat.le_of_ble_eq_true rfl) hcl (get_X hf1) rfl (fun r w hp => ?_)
  obtain ⟨z, rfl, hw, pM, hM, h3⟩ := h2 r w hp
  refine mr_w (put_X hl1 hw) ?_
  refine mr_aload_n C 227 dL_law_226 rfl rfl ?_
  refine mr_aload_n C 228 dL_law_227 rfl rfl ?_
  refine mr_iload_n C 229 dL_law_228 rfl rfl ?_
  refine mr_iconst C (nI 1) 230 dL_law_229 rfl rfl ?_
  refine mr_iadd C (nI (6 * k + 1)) 231 dL_law_230 rfl (nI_add _ _) ?_
  refine mr_sld C hX (6 * k + 1) 232 dL_law_231 rfl rfl (by omega) (by omega) ?_
  refine mr_aload_n C 233 dL_law_232 rfl rfl ?_
  refine mr_iload_n C 234 dL_law_233 rfl rfl ?_
  refine mr_iconst C (nI 2) 235 dL_law_234 rfl rfl ?_
  refine mr_iadd C (nI (6 * k + 2)) 236 dL_law_235 rfl (nI_add _ _) ?_
  refine mr_sld C hX (6 * k + 2) 237 dL_law_236 rfl rfl (by omega) (by omega) ?_
  refine mr_aload_n C 238 dL_law_237 rfl rfl ?_
  refine mr_iload_n C 239 dL_law_238 rfl rfl ?_
  refine mr_iconst C (nI 3) 240 dL_law_239 rfl rfl ?_
  refine mr_iadd C (nI (6 * k + 3)) 241 dL_law_240 rfl (nI_add _ _) ?_
  refine mr_sld C hX (6 * k + 3) 242 dL_law_241 rfl rfl (by omega) (by omega) ?_
  refine mr_callV C hM (List.range' 79 17) 79 8 245 dL_law_242 rfl mk_X8_set mi_X8_set ml_L_21 rfl rfl rfl (cut_Y hw hl2) (nd_range 17 79) (Nat.le_of_ble_eq_true rfl) (Nat.le_of_ble_eq_true rfl) (Nat.le_of_ble_eq_true rfl) hcl (get_Y hw hf2) rfl (fun r w3 hp3 => ?_)
  obtain ⟨rfl, hJ3⟩ := h3 r w3 hp3
  refine mr_w (put_Y hw hl2 hJ3.len.1.2) ?_
  exact mr_icmpeq C 1091 248 dL_law_245 (by decide) rfl (fun _ => back _ _ hJ3) (fun h => absurd rfl h)
set_option maxRecDepth 20000 in
theorem lc_copy {E : EG} {a a2 : Nat → Nat} {b L k kc nc : Nat} {xs : Nat → Int32} {Z : ZX} {w1 w2 : va_W} (C : CX E mLw qLw Z) (hX : SX Z b L xs) (hL : L ≤ 3072) (hk : 6 * k + 6 ≤ L) (hcl : kc ≤ 600000 ∧ nc ≤ 7302250) (hJ : JJ E a a2 w1 w2) (back : ∀ w1 w2 : va_W, JJ E a a2 w1 w2 → V E mLw qLw Z kc nc (w1 ++ w2) [(0, .ref b), (1, .ref (a 0)), (2, .ref (a2 0)), (3, .int (nI (6 * k)))] [] 1091) : V E mLw qLw Z kc nc (w1 ++ w2) [(0, .ref b), (1, .ref (a 0)), (2, .ref (a2 0)), (3, .int (nI (6 * k)))] [] 250 := by
  obtain ⟨⟨hl1, hl2⟩, ⟨f1, hf1⟩, ⟨f2, hf2⟩⟩ := hJ.len
  obtain ⟨pC, hC, h2⟩ := j_copy hJ (xs (6 * k + 1)) (xs (6 * k + 2)) (xs (6 * k + 3)) (xs (6 * k + 4)) (xs (6 * k + 5))
  refine mr_aload_n C 251 dL_law_250 rfl rfl ?_
  refine mr_aload_n C 252 dL_law_251 rfl rfl ?_
  refine mr_iload_n C 253 dL_law_252 rfl rfl ?_
  refine mr_iconst C (nI 1) 254 dL_law_253 rfl rfl ?_
  refine mr_iadd C (nI (6 * k + 1)) 255 dL_law_254 rfl (nI_add _ _) ?_
  refine mr_sld C hX (6 * k + 1) 256 dL_law_255 rfl rfl (by omega) (by omega) ?_
  refine mr_aload_n C 257 dL_law_256 rfl rfl ?_
  refine mr_iload_n C 258 dL_law_257 rfl rfl ?_
  refine mr_iconst C (nI 2) 259 dL_law_258 rfl rfl ?_
  refine mr_iadd C (nI (6 * k + 2)) 260 dL_law_259 rfl (nI_add _ _) ?_
  refine mr_sld C hX (6 * k + 2) 261 dL_law_260 rfl rfl (by omega) (by omega) ?_
  refine mr_aload_n C 262 dL_law_261 rfl rfl ?_
  refine mr_iload_n C 263 dL_law_262 rfl rfl ?_
  refine mr_iconst C (nI 3) 264 dL_law_263 rfl rfl ?_
  refine mr_iadd C (nI (6 * k + 3)) 265 dL_law_264 rfl (nI_add _ _) ?_
  refine mr_sld C hX (6 * k + 3) 266 dL_law_265 rfl rfl (by omega) (by omega) ?_
  refine mr_aload_n C 267 dL_law_266 rfl rfl ?_
  refine mr_iload_n C 268 dL_law_267 rfl rfl ?_
  refine mr_iconst C (nI 4) 269 dL_law_268 rfl rfl ?_
  refine mr_iadd C (nI (6 * k + 4)) 270 dL_law_269 rfl (nI_add _ _) ?_
  refine mr_sld C hX (6 * k + 4) 271 dL_law_270 rfl rfl (by omega) (by omega) ?_
  refine mr_aload_n C 272 dL_law_271 rfl rfl ?_
  refine mr_iload_n C 273 dL_law_272 rfl rfl ?_
  refine mr_iconst C (nI 5) 274 dL_law_273 rfl rfl ?_
  refine mr_iadd C (nI (6 * k + 5)) 275 dL_law_274 rfl (nI_add _ _) ?_
  refine mr_sld C hX (6 * k + 5) 276 dL_law_275 rfl rfl (by omega) (by omega) ?_
  refine mr_callV C hC (List.range' 0 79) 0 7 279 dL_law_276 rfl mk_X7_copy mi_X7_copy ml_L_22 rfl rfl rfl (cut_X hl1) (nd_range 79 0) (Nat.le_of_ble_eq_true rfl) (Nat.le_of_ble_eq_true rfl) (Nat.le_of_ble_eq_true rfl) hcl (get_X hf1) rfl (fun r w hp => ?_)
  obtain ⟨z, rfl, hw, pM, hM, h3⟩ := h2 r w hp
  refine mr_w (put_X hl1 hw) ?_
  refine mr_aload_n C 280 dL_law_279 rfl rfl ?_
  refine mr_aload_n C 281 dL_law_280 rfl rfl ?_
  refine mr_iload_n C 282 dL_law_281 rfl rfl ?_
  refine mr_iconst C (nI 1) 283 dL_law_282 rfl rfl ?_
  refine mr_iadd C (nI (6 * k + 1)) 284 dL_law_283 rfl (nI_add _ _) ?_
  refine mr_sld C hX (6 * k + 1) 285 dL_law_284 rfl rfl (by omega) (by omega) ?_
  refine mr_aload_n C 286 dL_law_285 rfl rfl ?_
  refine mr_iload_n C 287 dL_law_286 rfl rfl ?_
  refine mr_iconst C (nI 2) 288 dL_law_287 rfl rfl ?_
  refine mr_iadd C (nI (6 * k + 2)) 289 dL_law_288 rfl (nI_add _ _) ?_
  refine mr_sld C hX (6 * k + 2) 290 dL_law_289 rfl rfl (by omega) (by omega) ?_
  refine mr_aload_n C 291 dL_law_290 rfl rfl ?_
  refine mr_iload_n C 292 dL_law_291 rfl rfl ?_
  refine mr_iconst C (nI 3) 293 dL_law_292 rfl rfl ?_
  refine mr_iadd C (nI (6 * k + 3)) 294 dL_law_293 rfl (nI_add _ _) ?_
  refine mr_sld C hX (6 * k + 3) 295 dL_law_294 rfl rfl (by omega) (by omega) ?_
  refine mr_aload_n C 296 dL_law_295 rfl rfl ?_
  refine mr_iload_n C 297 dL_law_296 rfl rfl ?_
  refine mr_iconst C (nI 4) 298 dL_law_297 rfl rfl ?_
  refine mr_iadd C (nI (6 * k + 4)) 299 dL_law_298 rfl (nI_add _ _) ?_
  refine mr_sld C hX (6 * k + 4) 300 dL_law_299 rfl rfl (by omega) (by omega) ?_
  refine mr_aload_n C 301 dL_law_300 rfl rfl ?_
  refine mr_iload_n C 302 dL_law_301 rfl rfl ?_
  refine mr_iconst C (nI 5) 303 dL_law_302 rfl rfl ?_
  refine mr_iadd C (nI (6 * k + 5)) 304 dL_law_303 rfl (nI_add _ _) ?_
  refine mr_sld C hX (6 * k + 5) 305 dL_law_304 rfl rfl (by omega) (by omega) ?_
  refine mr_callV C hM (List.range' 79 17) 79 8 308 dL_law_305 rfl mk_X8_copy mi_X8_copy ml_L_26 rfl rfl rfl (cut_Y hw hl2) (nd_range 17 79) (Nat.le_of_ble_eq_true rfl) (Nat.le_of_ble_eq_true rfl) (Nat.le_of_ble_eq_true rfl) hcl (get_Y hw hf2) rfl (fun r w3 hp3 => ?_)
  obtain ⟨rfl, hJ3⟩ := h3 r w3 hp3
  refine mr_w (put_Y hw hl2 hJ3.len.1.2) ?_
  exact mr_icmpeq C 1091 311 dL_law_308 (by decide) rfl (fun _ => back _ _ hJ3) (fun h => absurd rfl h)
set_option maxRecDepth 20000 in
theorem lc_drop {E : EG} {a a2 : Nat → Nat} {b L k kc nc : Nat} {xs : Nat → Int32} {Z : ZX} {w1 w2 : va_W} (C : CX E mLw qLw Z) (hX : SX Z b L xs) (hL : L ≤ 3072) (hk : 6 * k + 6 ≤ L) (hcl : kc ≤ 600000 ∧ nc ≤ 7302250) (hJ : JJ E a a2 w1 w2) (back : ∀ w1 w2 : va_W, JJ E a a2 w1 w2 → V E mLw qLw Z kc nc (w1 ++ w2) [(0, .ref b), (1, .ref (a 0)), (2, .ref (a2 0)), (3, .int (nI (6 * k)))] [] 1091) : V E mLw qLw Z kc nc (w1 ++ w2) [(0, .ref b), (1, .ref (a 0)), (2, .ref (a2 0)), (3, .int (nI (6 * k)))] [] 313 := by
  obtain ⟨⟨hl1, hl2⟩, ⟨f1, hf1⟩, ⟨f2, hf2⟩⟩ := hJ.len
  obtain ⟨pC, hC, h2⟩ := j_drop hJ (xs (6 * k + 1))
  refine mr_aload_n C 314 dL_law_313 rfl rfl ?_
  refine mr_aload_n C 315 dL_law_314 rfl rfl ?_
  refine mr_iload_n C 316 dL_law_315 rfl rfl ?_
  refine mr_iconst C (nI 1) 317 dL_law_316 rfl rfl ?_
  refine mr_iadd C (nI (6 * k + 1)) 318 dL_law_317 rfl (nI_add _ _) ?_
  refine mr_sld C hX (6 * k + 1) 319 dL_law_318 rfl rfl (by omega) (by omega) ?_
  refine mr_callV C hC (List.range' 0 79) 0 7 322 dL_law_319 rfl mk_X7_drop mi_X7_drop ml_L_27 rfl rfl rfl (cut_X hl1) (nd_range 79 0) (Nat.le_of_ble_eq_true rfl) (Nat.le_of_ble_eq_true rfl) (Nat.le_of_ble_eq_true rfl) hcl (get_X hf1) rfl (fun r w hp => ?_)
  obtain ⟨z, rfl, hw, pM, hM, h3⟩ := h2 r w hp
  refine mr_w (put_X hl1 hw) ?_
  refine mr_aload_n C 323 dL_law_322 rfl rfl ?_
  refine mr_aload_n C 324 dL_law_323 rfl rfl ?_
  refine mr_iload_n C 325 dL_law_324 rfl rfl ?_
  refine mr_iconst C (nI 1) 326 dL_law_325 rfl rfl ?_
  refine mr_iadd C (nI (6 * k + 1)) 327 dL_law_326 rfl (nI_add _ _) ?_
  refine mr_sld C hX (6 * k + 1) 328 dL_law_327 rfl rfl (by omega) (by omega) ?_
  refine mr_callV C hM (List.range' 79 17) 79 8 331 dL_law_328 rfl mk_X8_drop mi_X8_drop ml_L_31 rfl rfl rfl (cut_Y hw hl2) (nd_range 17 79) (Nat.le_of_ble_eq_true rfl) (Nat.le_of_ble_eq_true rfl) (Nat.le_of_ble_eq_true rfl) hcl (get_Y hw hf2) rfl (fun r w3 hp3 => ?_)
  obtain ⟨rfl, hJ3⟩ := h3 r w3 hp3
  refine mr_w (put_Y hw hl2 hJ3.len.1.2) ?_
  exact mr_icmpeq C 1091 334 dL_law_331 (by decide) rfl (fun _ => back _ _ hJ3) (fun h => absurd rfl h)
set_option maxRecDepth 20000 in
theorem lc_feed {E : EG} {a a2 : Nat → Nat} {b L k kc nc : Nat} {xs : Nat → Int32} {Z : ZX} {w1 w2 : va_W} (C : CX E mLw qLw Z) (hX : SX Z b L xs) (hL : L ≤ 3072) (hk : 6 * k + 6 ≤ L) (hcl : kc ≤ 600000 ∧ nc ≤ 7302250) (hJ : JJ E a a2 w1 w2) (back : ∀ w1 w2 : va_W, JJ E a a2 w1 w2 → V E mLw qLw Z kc nc (w1 ++ w2) [(0, .ref b), (1, .ref (a 0)), (2, .ref (a2 0)), (3, .int (nI (6 * k)))] [] 1091) : V E mLw qLw Z kc nc (w1 ++ w2) [(0, .ref b), (1, .ref (a 0)), (2, .ref (a2 0)), (3, .int (nI (6 * k)))] [] 336 := by
  obtain ⟨⟨hl1, hl2⟩, ⟨f1, hf1⟩, ⟨f2, hf2⟩⟩ := hJ.len
  obtain ⟨pC, hC, h2⟩ := j_feed hJ (((xs (6 * k + 1)).toInt64 <<< ((nI 32).toInt64 &&& 63)) ||| ((xs (6 * k + 2)).toInt64 &&& 4294967295)) (xs (6 * k + 3))
  refine mr_aload_n C 337 dL_law_336 rfl rfl ?_
  refine mr_aload_n C 338 dL_law_337 rfl rfl ?_
  refine mr_iload_n C 339 dL_law_338 rfl rfl ?_
  refine mr_iconst C (nI 1) 340 dL_law_339 rfl rfl ?_
  refine mr_iadd C (nI (6 * k + 1)) 341 dL_law_340 rfl (nI_add _ _) ?_
  refine mr_sld C hX (6 * k + 1) 342 dL_law_341 rfl rfl (by omega) (by omega) ?_
  refine mr_i2l C _ 343 dL_law_342 rfl rfl ?_
  refine mr_bipush C (nI 32) 345 dL_law_343 rfl rfl ?_
  refine mr_lshl C _ 346 dL_law_345 rfl rfl ?_
  refine mr_aload_n C 347 dL_law_346 rfl rfl ?_
  refine mr_iload_n C 348 dL_law_347 rfl rfl ?_
  refine mr_iconst C (nI 2) 349 dL_law_348 rfl rfl ?_
  refine mr_iadd C (nI (6 * k + 2)) 350 dL_law_349 rfl (nI_add _ _) ?_
  refine mr_sld C hX (6 * k + 2) 351 dL_law_350 rfl rfl (by omega) (by omega) ?_
  refine mr_i2l C _ 352 dL_law_351 rfl rfl ?_
  refine mr_ldc2 C 355 dL_law_352 rfl kc_L_32 ?_
  refine mr_land C _ 356 dL_law_355 rfl rfl ?_
  refine mr_lor C _ 357 dL_law_356 rfl rfl ?_
  refine mr_aload_n C 358 dL_law_357 rfl rfl ?_
  refine mr_iload_n C 359 dL_law_358 rfl rfl ?_
  refine mr_iconst C (nI 3) 360 dL_law_359 rfl rfl ?_
  refine mr_iadd C (nI (6 * k + 3)) 361 dL_law_360 rfl (nI_add _ _) ?_
  refine mr_sld C hX (6 * k + 3) 362 dL_law_361 rfl rfl (by omega) (by omega) ?_
  refine mr_callV C hC (List.range' 0 79) 0 7 365 dL_law_362 rfl mk_X7_feed mi_X7_feed ml_L_34 rfl rfl rfl (cut_X hl1) (nd_range 79 0) (Nat.le_of_ble_eq_true rfl) (Nat.le_of_ble_eq_true rfl) (Nat.le_of_ble_eq_true rfl) hcl (get_X hf1) rfl (fun r w hp => ?_)
  obtain ⟨z, rfl, hw, pM, hM, h3⟩ := h2 r w hp
  refine mr_w (put_X hl1 hw) ?_
  refine mr_aload_n C 366 dL_law_365 rfl rfl ?_
  refine mr_aload_n C 367 dL_law_366 rfl rfl ?_
  refine mr_iload_n C 368 dL_law_367 rfl rfl ?_
  refine mr_iconst C (nI 1) 369 dL_law_368 rfl rfl ?_
  refine mr_iadd C (nI (6 * k + 1)) 370 dL_law_369 rfl (nI_add _ _) ?_
  refine mr_sld C hX (6 * k + 1) 371 dL_law_370 rfl rfl (by omega) (by omega) ?_
  refine mr_i2l C _ 372 dL_law_371 rfl rfl ?_
  refine mr_bipush C (nI 32) 374 dL_law_372 rfl rfl ?_
  refine mr_lshl C _ 375 dL_law_374 rfl rfl ?_
  refine mr_aload_n C 376 dL_law_375 rfl rfl ?_
  refine mr_iload_n C 377 dL_law_376 rfl rfl ?_
  refine mr_iconst C (nI 2) 378 dL_law_377 rfl rfl ?_
  refine mr_iadd C (nI (6 * k + 2)) 379 dL_law_378 rfl (nI_add _ _) ?_
  refine mr_sld C hX (6 * k + 2) 380 dL_law_379 rfl rfl (by omega) (by omega) ?_
  refine mr_i2l C _ 381 dL_law_380 rfl rfl ?_
  refine mr_ldc2 C 384 dL_law_381 rfl kc_L_32 ?_
  refine mr_land C _ 385 dL_law_384 rfl rfl ?_
  refine mr_lor C _ 386 dL_law_385 rfl rfl ?_
  refine mr_aload_n C 387 dL_law_386 rfl rfl ?_
  refine mr_iload_n C 388 dL_law_387 rfl rfl ?_
  refine mr_iconst C (nI 3) 389 dL_law_388 rfl rfl ?_
  refine mr_iadd C (nI (6 * k + 3)) 390 dL_law_389 rfl (nI_add _ _) ?_
  refine mr_sld C hX (6 * k + 3) 391 dL_law_390 rfl rfl (by omega) (by omega) ?_
  refine mr_callV C hM (List.range' 79 17) 79 8 394 dL_law_391 rfl mk_X8_feed mi_X8_feed ml_L_38 rfl rfl rfl (cut_Y hw hl2) (nd_range 17 79) (Nat.le_of_ble_eq_true rfl) (Nat.le_of_ble_eq_true rfl) (Nat.le_of_ble_eq_true rfl) hcl (get_Y hw hf2) rfl (fun r w3 hp3 => ?_)
  obtain ⟨rfl, hJ3⟩ := h3 r w3 hp3
  refine mr_w (put_Y hw hl2 hJ3.len.1.2) ?_
  exact mr_icmpeq C 1091 397 dL_law_394 (by decide) rfl (fun _ => back _ _ hJ3) (fun h => absurd rfl h)
set_option maxRecDepth 20000 in
theorem lc_house {E : EG} {a a2 : Nat → Nat} {b L k kc nc : Nat} {xs : Nat → Int32} {Z : ZX} {w1 w2 : va_W} (C : CX E mLw qLw Z) (hX : SX Z b L xs) (hL : L ≤ 3072) (hk : 6 * k + 6 ≤ L) (hcl : kc ≤ 600000 ∧ nc ≤ 7302250) (hJ : JJ E a a2 w1 w2) (back : ∀ w1 w2 : va_W, JJ E a a2 w1 w2 → V E mLw qLw Z kc nc (w1 ++ w2) [(0, .ref b), (1, .ref (a 0)), (2, .ref (a2 0)), (3, .int (nI (6 * k)))] [] 1091) : V E mLw qLw Z kc nc (w1 ++ w2) [(0, .ref b), (1, .ref (a 0)), (2, .ref (a2 0)), (3, .int (nI (6 * k)))] [] 399 := by
  obtain ⟨⟨hl1, hl2⟩, ⟨f1, hf1⟩, ⟨f2, hf2⟩⟩ := hJ.len
  obtain ⟨pC, hC, h2⟩ := j_house hJ 
  refine mr_aload_n C 400 dL_law_399 rfl rfl ?_
  refine mr_callV C hC (List.range' 0 79) 0 7 403 dL_law_400 rfl mk_X7_house mi_X7_house ml_L_39 rfl rfl rfl (cut_X hl1) (nd_range 79 0) (Nat.le_of_ble_eq_true rfl) (Nat.le_of_ble_eq_true rfl) (Nat.le_of_ble_eq_true rfl) hcl (get_X hf1) rfl (fun r w hp => ?_)
  obtain ⟨z, rfl, hw, pM, hM, h3⟩ := h2 r w hp
  refine mr_w (put_X hl1 hw) ?_
  refine mr_aload_n C 404 dL_law_403 rfl rfl ?_
  refine mr_callV C hM (List.range' 79 17) 79 8 407 dL_law_404 rfl mk_X8_house mi_X8_house ml_L_43 rfl rfl rfl (cut_Y hw hl2) (nd_range 17 79) (Nat.le_of_ble_eq_true rfl) (Nat.le_of_ble_eq_true rfl) (Nat.le_of_ble_eq_true rfl) hcl (get_Y hw hf2) rfl (fun r w3 hp3 => ?_)
  obtain ⟨rfl, hJ3⟩ := h3 r w3 hp3
  refine mr_w (put_Y hw hl2 hJ3.len.1.2) ?_
  exact mr_icmpeq C 1091 410 dL_law_407 (by decide) rfl (fun _ => back _ _ hJ3) (fun h => absurd rfl h)
set_option maxRecDepth 20000 in
theorem lc_fault {E : EG} {a a2 : Nat → Nat} {b L k kc nc : Nat} {xs : Nat → Int32} {Z : ZX} {w1 w2 : va_W} (C : CX E mLw qLw Z) (hX : SX Z b L xs) (hL : L ≤ 3072) (hk : 6 * k + 6 ≤ L) (hcl : kc ≤ 600000 ∧ nc ≤ 7302250) (hJ : JJ E a a2 w1 w2) (back : ∀ w1 w2 : va_W, JJ E a a2 w1 w2 → V E mLw qLw Z kc nc (w1 ++ w2) [(0, .ref b), (1, .ref (a 0)), (2, .ref (a2 0)), (3, .int (nI (6 * k)))] [] 1091) : V E mLw qLw Z kc nc (w1 ++ w2) [(0, .ref b), (1, .ref (a 0)), (2, .ref (a2 0)), (3, .int (nI (6 * k)))] [] 412 := by
  obtain ⟨⟨hl1, hl2⟩, ⟨f1, hf1⟩, ⟨f2, hf2⟩⟩ := hJ.len
  obtain ⟨pC, hC, h2⟩ := j_fault hJ 
  refine mr_aload_n C 413 dL_law_412 rfl rfl ?_
  refine mr_callV C hC (List.range' 0 79) 0 7 416 dL_law_413 rfl mk_X7_fault mi_X7_fault ml_L_44 rfl rfl rfl (cut_X hl1) (nd_range 79 0) (Nat.le_of_ble_eq_true rfl) (Nat.le_of_ble_eq_true rfl) (Nat.le_of_ble_eq_true rfl) hcl (get_X hf1) rfl (fun r w hp => ?_)
  obtain ⟨z, rfl, hw, pM, hM, h3⟩ := h2 r w hp
  refine mr_w (put_X hl1 hw) ?_
  refine mr_aload_n C 417 dL_law_416 rfl rfl ?_
  refine mr_callV C hM (List.range' 79 17) 79 8 420 dL_law_417 rfl mk_X8_fault mi_X8_fault ml_L_47 rfl rfl rfl (cut_Y hw hl2) (nd_range 17 79) (Nat.le_of_ble_eq_true rfl) (Nat.le_of_ble_eq_true rfl) (Nat.le_of_ble_eq_true rfl) hcl (get_Y hw hf2) rfl (fun r w3 hp3 => ?_)
  obtain ⟨rfl, hJ3⟩ := h3 r w3 hp3
  refine mr_w (put_Y hw hl2 hJ3.len.1.2) ?_
  exact mr_icmpeq C 1091 423 dL_law_420 (by decide) rfl (fun _ => back _ _ hJ3) (fun h => absurd rfl h)
set_option maxRecDepth 20000 in
theorem lc_bell {E : EG} {a a2 : Nat → Nat} {b L k kc nc : Nat} {xs : Nat → Int32} {Z : ZX} {w1 w2 : va_W} (C : CX E mLw qLw Z) (hX : SX Z b L xs) (hL : L ≤ 3072) (hk : 6 * k + 6 ≤ L) (hcl : kc ≤ 600000 ∧ nc ≤ 7302250) (hJ : JJ E a a2 w1 w2) (back : ∀ w1 w2 : va_W, JJ E a a2 w1 w2 → V E mLw qLw Z kc nc (w1 ++ w2) [(0, .ref b), (1, .ref (a 0)), (2, .ref (a2 0)), (3, .int (nI (6 * k)))] [] 1091) : V E mLw qLw Z kc nc (w1 ++ w2) [(0, .ref b), (1, .ref (a 0)), (2, .ref (a2 0)), (3, .int (nI (6 * k)))] [] 425 := by
  obtain ⟨⟨hl1, hl2⟩, ⟨f1, hf1⟩, ⟨f2, hf2⟩⟩ := hJ.len
  obtain ⟨pC, hC, h2⟩ := j_bell hJ 
  refine mr_aload_n C 426 dL_law_425 rfl rfl ?_
  refine mr_callV C hC (List.range' 0 79) 0 7 429 dL_law_426 rfl mk_X7_bell mi_X7_bell ml_L_48 rfl rfl rfl (cut_X hl1) (nd_range 79 0) (Nat.le_of_ble_eq_true rfl) (Nat.le_of_ble_eq_true rfl) (Nat.le_of_ble_eq_true rfl) hcl (get_X hf1) rfl (fun r w hp => ?_)
  obtain ⟨z, rfl, hw, pM, hM, h3⟩ := h2 r w hp
  refine mr_w (put_X hl1 hw) ?_
  refine mr_aload_n C 430 dL_law_429 rfl rfl ?_
  refine mr_callV C hM (List.range' 79 17) 79 8 433 dL_law_430 rfl mk_X8_bell mi_X8_bell ml_L_51 rfl rfl rfl (cut_Y hw hl2) (nd_range 17 79) (Nat.le_of_ble_eq_true rfl) (Nat.le_of_ble_eq_true rfl) (Nat.le_of_ble_eq_true rfl) hcl (get_Y hw hf2) rfl (fun r w3 hp3 => ?_)
  obtain ⟨rfl, hJ3⟩ := h3 r w3 hp3
  refine mr_w (put_Y hw hl2 hJ3.len.1.2) ?_
  exact mr_icmpeq C 1091 436 dL_law_433 (by decide) rfl (fun _ => back _ _ hJ3) (fun h => absurd rfl h)
set_option maxRecDepth 20000 in
theorem lc_bells {E : EG} {a a2 : Nat → Nat} {b L k kc nc : Nat} {xs : Nat → Int32} {Z : ZX} {w1 w2 : va_W} (C : CX E mLw qLw Z) (hX : SX Z b L xs) (hL : L ≤ 3072) (hk : 6 * k + 6 ≤ L) (hcl : kc ≤ 600000 ∧ nc ≤ 7302250) (hJ : JJ E a a2 w1 w2) (back : ∀ w1 w2 : va_W, JJ E a a2 w1 w2 → V E mLw qLw Z kc nc (w1 ++ w2) [(0, .ref b), (1, .ref (a 0)), (2, .ref (a2 0)), (3, .int (nI (6 * k)))] [] 1091) : V E mLw qLw Z kc nc (w1 ++ w2) [(0, .ref b), (1, .ref (a 0)), (2, .ref (a2 0)), (3, .int (nI (6 * k)))] [] 438 := by
  obtain ⟨⟨hl1, hl2⟩, ⟨f1, hf1⟩, ⟨f2, hf2⟩⟩ := hJ.len
  obtain ⟨pC, hC, h2⟩ := j_bells hJ (xs (6 * k + 1)) (xs (6 * k + 2)) (xs (6 * k + 3))
  refine mr_aload_n C 439 dL_law_438 rfl rfl ?_
  refine mr_aload_n C 440 dL_law_439 rfl rfl ?_
  refine mr_iload_n C 441 dL_law_440 rfl rfl ?_
  refine mr_iconst C (nI 1) 442 dL_law_441 rfl rfl ?_
  refine mr_iadd C (nI (6 * k + 1)) 443 dL_law_442 rfl (nI_add _ _) ?_
  refine mr_sld C hX (6 * k + 1) 444 dL_law_443 rfl rfl (by omega) (by omega) ?_
  refine mr_aload_n C 445 dL_law_444 rfl rfl ?_
  refine mr_iload_n C 446 dL_law_445 rfl rfl ?_
  refine mr_iconst C (nI 2) 447 dL_law_446 rfl rfl ?_
  refine mr_iadd C (nI (6 * k + 2)) 448 dL_law_447 rfl (nI_add _ _) ?_
  refine mr_sld C hX (6 * k + 2) 449 dL_law_448 rfl rfl (by omega) (by omega) ?_
  refine mr_aload_n C 450 dL_law_449 rfl rfl ?_
  refine mr_iload_n C 451 dL_law_450 rfl rfl ?_
  refine mr_iconst C (nI 3) 452 dL_law_451 rfl rfl ?_
  refine mr_iadd C (nI (6 * k + 3)) 453 dL_law_452 rfl (nI_add _ _) ?_
  refine mr_sld C hX (6 * k + 3) 454 dL_law_453 rfl rfl (by omega) (by omega) ?_
  refine mr_callV C hC (List.range' 0 79) 0 7 457 dL_law_454 rfl mk_X7_bells mi_X7_bells ml_L_52 rfl rfl rfl (cut_X hl1) (nd_range 79 0) (Nat.le_of_ble_eq_true rfl) (Nat.le_of_ble_eq_true rfl) (Nat.le_of_ble_eq_true rfl) hcl (get_X hf1) rfl (fun r w hp => ?_)
  obtain ⟨z, rfl, hw, pM, hM, h3⟩ := h2 r w hp
  refine mr_w (put_X hl1 hw) ?_
  refine mr_aload_n C 458 dL_law_457 rfl rfl ?_
  refine mr_aload_n C 459 dL_law_458 rfl rfl ?_
  refine mr_iload_n C 460 dL_law_459 rfl rfl ?_
  refine mr_iconst C (nI 1) 461 dL_law_460 rfl rfl ?_
  refine mr_iadd C (nI (6 * k + 1)) 462 dL_law_461 rfl (nI_add _ _) ?_
  refine mr_sld C hX (6 * k + 1) 463 dL_law_462 rfl rfl (by omega) (by omega) ?_
  refine mr_aload_n C 464 dL_law_463 rfl rfl ?_
  refine mr_iload_n C 465 dL_law_464 rfl rfl ?_
  refine mr_iconst C (nI 2) 466 dL_law_465 rfl rfl ?_
  refine mr_iadd C (nI (6 * k + 2)) 467 dL_law_466 rfl (nI_add _ _) ?_
  refine mr_sld C hX (6 * k + 2) 468 dL_law_467 rfl rfl (by omega) (by omega) ?_
  refine mr_aload_n C 469 dL_law_468 rfl rfl ?_
  refine mr_iload_n C 470 dL_law_469 rfl rfl ?_
  refine mr_iconst C (nI 3) 471 dL_law_470 rfl rfl ?_
  refine mr_iadd C (nI (6 * k + 3)) 472 dL_law_471 rfl (nI_add _ _) ?_
  refine mr_sld C hX (6 * k + 3) 473 dL_law_472 rfl rfl (by omega) (by omega) ?_
  refine mr_callV C hM (List.range' 79 17) 79 8 476 dL_law_473 rfl mk_X8_bells mi_X8_bells ml_L_55 rfl rfl rfl (cut_Y hw hl2) (nd_range 17 79) (Nat.le_of_ble_eq_true rfl) (Nat.le_of_ble_eq_true rfl) (Nat.le_of_ble_eq_true rfl) hcl (get_Y hw hf2) rfl (fun r w3 hp3 => ?_)
  obtain ⟨rfl, hJ3⟩ := h3 r w3 hp3
  refine mr_w (put_Y hw hl2 hJ3.len.1.2) ?_
  exact mr_icmpeq C 1091 479 dL_law_476 (by decide) rfl (fun _ => back _ _ hJ3) (fun h => absurd rfl h)
set_option maxRecDepth 20000 in
theorem lc_door {E : EG} {a a2 : Nat → Nat} {b L k kc nc : Nat} {xs : Nat → Int32} {Z : ZX} {w1 w2 : va_W} (C : CX E mLw qLw Z) (hX : SX Z b L xs) (hL : L ≤ 3072) (hk : 6 * k + 6 ≤ L) (hcl : kc ≤ 600000 ∧ nc ≤ 7302250) (hJ : JJ E a a2 w1 w2) (back : ∀ w1 w2 : va_W, JJ E a a2 w1 w2 → V E mLw qLw Z kc nc (w1 ++ w2) [(0, .ref b), (1, .ref (a 0)), (2, .ref (a2 0)), (3, .int (nI (6 * k)))] [] 1091) : V E mLw qLw Z kc nc (w1 ++ w2) [(0, .ref b), (1, .ref (a 0)), (2, .ref (a2 0)), (3, .int (nI (6 * k)))] [] 481 := by
  obtain ⟨⟨hl1, hl2⟩, ⟨f1, hf1⟩, ⟨f2, hf2⟩⟩ := hJ.len
  obtain ⟨pC, hC, h2⟩ := j_door hJ (xs (6 * k + 1)) (xs (6 * k + 2)) (xs (6 * k + 3))
  refine mr_aload_n C 482 dL_law_481 rfl rfl ?_
  refine mr_aload_n C 483 dL_law_482 rfl rfl ?_
  refine mr_iload_n C 484 dL_law_483 rfl rfl ?_
  refine mr_iconst C (nI 1) 485 dL_law_484 rfl rfl ?_
  refine mr_iadd C (nI (6 * k + 1)) 486 dL_law_485 rfl (nI_add _ _) ?_
  refine mr_sld C hX (6 * k + 1) 487 dL_law_486 rfl rfl (by omega) (by omega) ?_
  refine mr_aload_n C 488 dL_law_487 rfl rfl ?_
  refine mr_iload_n C 489 dL_law_488 rfl rfl ?_
  refine mr_iconst C (nI 2) 490 dL_law_489 rfl rfl ?_
  refine mr_iadd C (nI (6 * k + 2)) 491 dL_law_490 rfl (nI_add _ _) ?_
  refine mr_sld C hX (6 * k + 2) 492 dL_law_491 rfl rfl (by omega) (by omega) ?_
  refine mr_aload_n C 493 dL_law_492 rfl rfl ?_
  refine mr_iload_n C 494 dL_law_493 rfl rfl ?_
  refine mr_iconst C (nI 3) 495 dL_law_494 rfl rfl ?_
  refine mr_iadd C (nI (6 * k + 3)) 496 dL_law_495 rfl (nI_add _ _) ?_
  refine mr_sld C hX (6 * k + 3) 497 dL_law_496 rfl rfl (by omega) (by omega) ?_
  refine mr_callV C hC (List.range' 0 79) 0 7 500 dL_law_497 rfl mk_X7_door mi_X7_door ml_L_56 rfl rfl rfl (cut_X hl1) (nd_range 79 0) (Nat.le_of_ble_eq_true rfl) (Nat.le_of_ble_eq_true rfl) (Nat.le_of_ble_eq_true rfl) hcl (get_X hf1) rfl (fun r w hp => ?_)
  obtain ⟨z, rfl, hw, pM, hM, h3⟩ := h2 r w hp
  refine mr_w (put_X hl1 hw) ?_
  refine mr_aload_n C 501 dL_law_500 rfl rfl ?_
  refine mr_aload_n C 502 dL_law_501 rfl rfl ?_
  refine mr_iload_n C 503 dL_law_502 rfl rfl ?_
  refine mr_iconst C (nI 1) 504 dL_law_503 rfl rfl ?_
  refine mr_iadd C (nI (6 * k + 1)) 505 dL_law_504 rfl (nI_add _ _) ?_
  refine mr_sld C hX (6 * k + 1) 506 dL_law_505 rfl rfl (by omega) (by omega) ?_
  refine mr_aload_n C 507 dL_law_506 rfl rfl ?_
  refine mr_iload_n C 508 dL_law_507 rfl rfl ?_
  refine mr_iconst C (nI 2) 509 dL_law_508 rfl rfl ?_
  refine mr_iadd C (nI (6 * k + 2)) 510 dL_law_509 rfl (nI_add _ _) ?_
  refine mr_sld C hX (6 * k + 2) 511 dL_law_510 rfl rfl (by omega) (by omega) ?_
  refine mr_aload_n C 512 dL_law_511 rfl rfl ?_
  refine mr_iload_n C 513 dL_law_512 rfl rfl ?_
  refine mr_iconst C (nI 3) 514 dL_law_513 rfl rfl ?_
  refine mr_iadd C (nI (6 * k + 3)) 515 dL_law_514 rfl (nI_add _ _) ?_
  refine mr_sld C hX (6 * k + 3) 516 dL_law_515 rfl rfl (by omega) (by omega) ?_
  refine mr_callV C hM (List.range' 79 17) 79 8 519 dL_law_516 rfl mk_X8_door mi_X8_door ml_L_59 rfl rfl rfl (cut_Y hw hl2) (nd_range 17 79) (Nat.le_of_ble_eq_true rfl) (Nat.le_of_ble_eq_true rfl) (Nat.le_of_ble_eq_true rfl) hcl (get_Y hw hf2) rfl (fun r w3 hp3 => ?_)
  obtain ⟨rfl, hJ3⟩ := h3 r w3 hp3
  refine mr_w (put_Y hw hl2 hJ3.len.1.2) ?_
  exact mr_icmpeq C 1091 522 dL_law_519 (by decide) rfl (fun _ => back _ _ hJ3) (fun h => absurd rfl h)
set_option maxRecDepth 20000 in
theorem lc_heads {E : EG} {a a2 : Nat → Nat} {b L k kc nc : Nat} {xs : Nat → Int32} {Z : ZX} {w1 w2 : va_W} (C : CX E mLw qLw Z) (hX : SX Z b L xs) (hL : L ≤ 3072) (hk : 6 * k + 6 ≤ L) (hcl : kc ≤ 600000 ∧ nc ≤ 7302250) (hJ : JJ E a a2 w1 w2) (back : ∀ w1 w2 : va_W, JJ E a a2 w1 w2 → V E mLw qLw Z kc nc (w1 ++ w2) [(0, .ref b), (1, .ref (a 0)), (2, .ref (a2 0)), (3, .int (nI (6 * k)))] [] 1091) : V E mLw qLw Z kc nc (w1 ++ w2) [(0, .ref b), (1, .ref (a 0)), (2, .ref (a2 0)), (3, .int (nI (6 * k)))] [] 524 := by
  obtain ⟨⟨hl1, hl2⟩, ⟨f1, hf1⟩, ⟨f2, hf2⟩⟩ := hJ.len
  obtain ⟨pC, hC, h2⟩ := j_heads hJ (xs (6 * k + 1)) (xs (6 * k + 2))
  refine mr_aload_n C 525 dL_law_524 rfl rfl ?_
  refine mr_aload_n C 526 dL_law_525 rfl rfl ?_
  refine mr_iload_n C 527 dL_law_526 rfl rfl ?_
  refine mr_iconst C (nI 1) 528 dL_law_527 rfl rfl ?_
  refine mr_iadd C (nI (6 * k + 1)) 529 dL_law_528 rfl (nI_add _ _) ?_
  refine mr_sld C hX (6 * k + 1) 530 dL_law_529 rfl rfl (by omega) (by omega) ?_
  refine mr_aload_n C 531 dL_law_530 rfl rfl ?_
  refine mr_iload_n C 532 dL_law_531 rfl rfl ?_
  refine mr_iconst C (nI 2) 533 dL_law_532 rfl rfl ?_
  refine mr_iadd C (nI (6 * k + 2)) 534 dL_law_533 rfl (nI_add _ _) ?_
  refine mr_sld C hX (6 * k + 2) 535 dL_law_534 rfl rfl (by omega) (by omega) ?_
  refine mr_callV C hC (List.range' 0 79) 0 7 538 dL_law_535 rfl mk_X7_heads mi_X7_heads ml_L_60 rfl rfl rfl (cut_X hl1) (nd_range 79 0) (Nat.le_of_ble_eq_true rfl) (Nat.le_of_ble_eq_true rfl) (Nat.le_of_ble_eq_true rfl) hcl (get_X hf1) rfl (fun r w hp => ?_)
  obtain ⟨z, rfl, hw, pM, hM, h3⟩ := h2 r w hp
  refine mr_w (put_X hl1 hw) ?_
  refine mr_aload_n C 539 dL_law_538 rfl rfl ?_
  refine mr_aload_n C 540 dL_law_539 rfl rfl ?_
  refine mr_iload_n C 541 dL_law_540 rfl rfl ?_
  refine mr_iconst C (nI 1) 542 dL_law_541 rfl rfl ?_
  refine mr_iadd C (nI (6 * k + 1)) 543 dL_law_542 rfl (nI_add _ _) ?_
  refine mr_sld C hX (6 * k + 1) 544 dL_law_543 rfl rfl (by omega) (by omega) ?_
  refine mr_aload_n C 545 dL_law_544 rfl rfl ?_
  refine mr_iload_n C 546 dL_law_545 rfl rfl ?_
  refine mr_iconst C (nI 2) 547 dL_law_546 rfl rfl ?_
  refine mr_iadd C (nI (6 * k + 2)) 548 dL_law_547 rfl (nI_add _ _) ?_
  refine mr_sld C hX (6 * k + 2) 549 dL_law_548 rfl rfl (by omega) (by omega) ?_
  refine mr_callV C hM (List.range' 79 17) 79 8 552 dL_law_549 rfl mk_X8_heads mi_X8_heads ml_L_64 rfl rfl rfl (cut_Y hw hl2) (nd_range 17 79) (Nat.le_of_ble_eq_true rfl) (Nat.le_of_ble_eq_true rfl) (Nat.le_of_ble_eq_true rfl) hcl (get_Y hw hf2) rfl (fun r w3 hp3 => ?_)
  obtain ⟨rfl, hJ3⟩ := h3 r w3 hp3
  refine mr_w (put_Y hw hl2 hJ3.len.1.2) ?_
  exact mr_icmpeq C 1091 555 dL_law_552 (by decide) rfl (fun _ => back _ _ hJ3) (fun h => absurd rfl h)
set_option maxRecDepth 20000 in
theorem lc_undo {E : EG} {a a2 : Nat → Nat} {b L k kc nc : Nat} {xs : Nat → Int32} {Z : ZX} {w1 w2 : va_W} (C : CX E mLw qLw Z) (hX : SX Z b L xs) (hL : L ≤ 3072) (hk : 6 * k + 6 ≤ L) (hcl : kc ≤ 600000 ∧ nc ≤ 7302250) (hJ : JJ E a a2 w1 w2) (back : ∀ w1 w2 : va_W, JJ E a a2 w1 w2 → V E mLw qLw Z kc nc (w1 ++ w2) [(0, .ref b), (1, .ref (a 0)), (2, .ref (a2 0)), (3, .int (nI (6 * k)))] [] 1091) : V E mLw qLw Z kc nc (w1 ++ w2) [(0, .ref b), (1, .ref (a 0)), (2, .ref (a2 0)), (3, .int (nI (6 * k)))] [] 557 := by
  obtain ⟨⟨hl1, hl2⟩, ⟨f1, hf1⟩, ⟨f2, hf2⟩⟩ := hJ.len
  obtain ⟨pC, hC, h2⟩ := j_undo hJ 
  refine mr_aload_n C 558 dL_law_557 rfl rfl ?_
  refine mr_callV C hC (List.range' 0 79) 0 7 561 dL_law_558 rfl mk_X7_undo mi_X7_undo ml_L_65 rfl rfl rfl (cut_X hl1) (nd_range 79 0) (Nat.le_of_ble_eq_true rfl) (Nat.le_of_ble_eq_true rfl) (Nat.le_of_ble_eq_true rfl) hcl (get_X hf1) rfl (fun r w hp => ?_)
  obtain ⟨z, rfl, hw, pM, hM, h3⟩ := h2 r w hp
  refine mr_w (put_X hl1 hw) ?_
  refine mr_aload_n C 562 dL_law_561 rfl rfl ?_
  refine mr_callV C hM (List.range' 79 17) 79 8 565 dL_law_562 rfl mk_X8_undo mi_X8_undo ml_L_68 rfl rfl rfl (cut_Y hw hl2) (nd_range 17 79) (Nat.le_of_ble_eq_true rfl) (Nat.le_of_ble_eq_true rfl) (Nat.le_of_ble_eq_true rfl) hcl (get_Y hw hf2) rfl (fun r w3 hp3 => ?_)
  obtain ⟨rfl, hJ3⟩ := h3 r w3 hp3
  refine mr_w (put_Y hw hl2 hJ3.len.1.2) ?_
  exact mr_icmpeq C 1091 568 dL_law_565 (by decide) rfl (fun _ => back _ _ hJ3) (fun h => absurd rfl h)
set_option maxRecDepth 20000 in
theorem lc_crowd {E : EG} {a a2 : Nat → Nat} {b L k kc nc : Nat} {xs : Nat → Int32} {Z : ZX} {w1 w2 : va_W} (C : CX E mLw qLw Z) (hX : SX Z b L xs) (hL : L ≤ 3072) (hk : 6 * k + 6 ≤ L) (hcl : kc ≤ 600000 ∧ nc ≤ 7302250) (hJ : JJ E a a2 w1 w2) (back : ∀ w1 w2 : va_W, JJ E a a2 w1 w2 → V E mLw qLw Z kc nc (w1 ++ w2) [(0, .ref b), (1, .ref (a 0)), (2, .ref (a2 0)), (3, .int (nI (6 * k)))] [] 1091) : V E mLw qLw Z kc nc (w1 ++ w2) [(0, .ref b), (1, .ref (a 0)), (2, .ref (a2 0)), (3, .int (nI (6 * k)))] [] 570 := by
  obtain ⟨⟨hl1, hl2⟩, ⟨f1, hf1⟩, ⟨f2, hf2⟩⟩ := hJ.len
  obtain ⟨pC, hC, h2⟩ := j_crowd hJ (xs (6 * k + 1)) (xs (6 * k + 2))
  refine mr_aload_n C 571 dL_law_570 rfl rfl ?_
  refine mr_aload_n C 572 dL_law_571 rfl rfl ?_
  refine mr_iload_n C 573 dL_law_572 rfl rfl ?_
  refine mr_iconst C (nI 1) 574 dL_law_573 rfl rfl ?_
  refine mr_iadd C (nI (6 * k + 1)) 575 dL_law_574 rfl (nI_add _ _) ?_
  refine mr_sld C hX (6 * k + 1) 576 dL_law_575 rfl rfl (by omega) (by omega) ?_
  refine mr_aload_n C 577 dL_law_576 rfl rfl ?_
  refine mr_iload_n C 578 dL_law_577 rfl rfl ?_
  refine mr_iconst C (nI 2) 579 dL_law_578 rfl rfl ?_
  refine mr_iadd C (nI (6 * k + 2)) 580 dL_law_579 rfl (nI_add _ _) ?_
  refine mr_sld C hX (6 * k + 2) 581 dL_law_580 rfl rfl (by omega) (by omega) ?_
  refine mr_callV C hC (List.range' 0 79) 0 7 584 dL_law_581 rfl mk_X7_crowd mi_X7_crowd ml_L_69 rfl rfl rfl (cut_X hl1) (nd_range 79 0) (Nat.le_of_ble_eq_true rfl) (Nat.le_of_ble_eq_true rfl) (Nat.le_of_ble_eq_true rfl) hcl (get_X hf1) rfl (fun r w hp => ?_)
  obtain ⟨z, rfl, hw, pM, hM, h3⟩ := h2 r w hp
  refine mr_w (put_X hl1 hw) ?_
  refine mr_aload_n C 585 dL_law_584 rfl rfl ?_
  refine mr_aload_n C 586 dL_law_585 rfl rfl ?_
  refine mr_iload_n C 587 dL_law_586 rfl rfl ?_
  refine mr_iconst C (nI 1) 588 dL_law_587 rfl rfl ?_
  refine mr_iadd C (nI (6 * k + 1)) 589 dL_law_588 rfl (nI_add _ _) ?_
  refine mr_sld C hX (6 * k + 1) 590 dL_law_589 rfl rfl (by omega) (by omega) ?_
  refine mr_aload_n C 591 dL_law_590 rfl rfl ?_
  refine mr_iload_n C 592 dL_law_591 rfl rfl ?_
  refine mr_iconst C (nI 2) 593 dL_law_592 rfl rfl ?_
  refine mr_iadd C (nI (6 * k + 2)) 594 dL_law_593 rfl (nI_add _ _) ?_
  refine mr_sld C hX (6 * k + 2) 595 dL_law_594 rfl rfl (by omega) (by omega) ?_
  refine mr_callV C hM (List.range' 79 17) 79 8 598 dL_law_595 rfl mk_X8_crowd mi_X8_crowd ml_L_72 rfl rfl rfl (cut_Y hw hl2) (nd_range 17 79) (Nat.le_of_ble_eq_true rfl) (Nat.le_of_ble_eq_true rfl) (Nat.le_of_ble_eq_true rfl) hcl (get_Y hw hf2) rfl (fun r w3 hp3 => ?_)
  obtain ⟨rfl, hJ3⟩ := h3 r w3 hp3
  refine mr_w (put_Y hw hl2 hJ3.len.1.2) ?_
  exact mr_icmpeq C 1091 601 dL_law_598 (by decide) rfl (fun _ => back _ _ hJ3) (fun h => absurd rfl h)
set_option maxRecDepth 20000 in
theorem lc_room {E : EG} {a a2 : Nat → Nat} {b L k kc nc : Nat} {xs : Nat → Int32} {Z : ZX} {w1 w2 : va_W} (C : CX E mLw qLw Z) (hX : SX Z b L xs) (hL : L ≤ 3072) (hk : 6 * k + 6 ≤ L) (hcl : kc ≤ 600000 ∧ nc ≤ 7302250) (hJ : JJ E a a2 w1 w2) (back : ∀ w1 w2 : va_W, JJ E a a2 w1 w2 → V E mLw qLw Z kc nc (w1 ++ w2) [(0, .ref b), (1, .ref (a 0)), (2, .ref (a2 0)), (3, .int (nI (6 * k)))] [] 1091) : V E mLw qLw Z kc nc (w1 ++ w2) [(0, .ref b), (1, .ref (a 0)), (2, .ref (a2 0)), (3, .int (nI (6 * k)))] [] 603 := by
  obtain ⟨⟨hl1, hl2⟩, ⟨f1, hf1⟩, ⟨f2, hf2⟩⟩ := hJ.len
  obtain ⟨pC, hC, h2⟩ := j_room hJ (xs (6 * k + 1)) (xs (6 * k + 2))
  refine mr_aload_n C 604 dL_law_603 rfl rfl ?_
  refine mr_aload_n C 605 dL_law_604 rfl rfl ?_
  refine mr_iload_n C 606 dL_law_605 rfl rfl ?_
  refine mr_iconst C (nI 1) 607 dL_law_606 rfl rfl ?_
  refine mr_iadd C (nI (6 * k + 1)) 608 dL_law_607 rfl (nI_add _ _) ?_
  refine mr_sld C hX (6 * k + 1) 609 dL_law_608 rfl rfl (by omega) (by omega) ?_
  refine mr_aload_n C 610 dL_law_609 rfl rfl ?_
  refine mr_iload_n C 611 dL_law_610 rfl rfl ?_
  refine mr_iconst C (nI 2) 612 dL_law_611 rfl rfl ?_
  refine mr_iadd C (nI (6 * k + 2)) 613 dL_law_612 rfl (nI_add _ _) ?_
  refine mr_sld C hX (6 * k + 2) 614 dL_law_613 rfl rfl (by omega) (by omega) ?_
  refine mr_callV C hC (List.range' 0 79) 0 7 617 dL_law_614 rfl mk_X7_room mi_X7_room ml_L_73 rfl rfl rfl (cut_X hl1) (nd_range 79 0) (Nat.le_of_ble_eq_true rfl) (Nat.le_of_ble_eq_true rfl) (Nat.le_of_ble_eq_true rfl) hcl (get_X hf1) rfl (fun r w hp => ?_)
  obtain ⟨z, rfl, hw, pM, hM, h3⟩ := h2 r w hp
  refine mr_w (put_X hl1 hw) ?_
  refine mr_aload_n C 618 dL_law_617 rfl rfl ?_
  refine mr_aload_n C 619 dL_law_618 rfl rfl ?_
  refine mr_iload_n C 620 dL_law_619 rfl rfl ?_
  refine mr_iconst C (nI 1) 621 dL_law_620 rfl rfl ?_
  refine mr_iadd C (nI (6 * k + 1)) 622 dL_law_621 rfl (nI_add _ _) ?_
  refine mr_sld C hX (6 * k + 1) 623 dL_law_622 rfl rfl (by omega) (by omega) ?_
  refine mr_aload_n C 624 dL_law_623 rfl rfl ?_
  refine mr_iload_n C 625 dL_law_624 rfl rfl ?_
  refine mr_iconst C (nI 2) 626 dL_law_625 rfl rfl ?_
  refine mr_iadd C (nI (6 * k + 2)) 627 dL_law_626 rfl (nI_add _ _) ?_
  refine mr_sld C hX (6 * k + 2) 628 dL_law_627 rfl rfl (by omega) (by omega) ?_
  refine mr_callV C hM (List.range' 79 17) 79 8 631 dL_law_628 rfl mk_X8_room mi_X8_room ml_L_76 rfl rfl rfl (cut_Y hw hl2) (nd_range 17 79) (Nat.le_of_ble_eq_true rfl) (Nat.le_of_ble_eq_true rfl) (Nat.le_of_ble_eq_true rfl) hcl (get_Y hw hf2) rfl (fun r w3 hp3 => ?_)
  obtain ⟨rfl, hJ3⟩ := h3 r w3 hp3
  refine mr_w (put_Y hw hl2 hJ3.len.1.2) ?_
  exact mr_icmpeq C 1091 634 dL_law_631 (by decide) rfl (fun _ => back _ _ hJ3) (fun h => absurd rfl h)
set_option maxRecDepth 20000 in
theorem lc_ahead {E : EG} {a a2 : Nat → Nat} {b L k kc nc : Nat} {xs : Nat → Int32} {Z : ZX} {w1 w2 : va_W} (C : CX E mLw qLw Z) (hX : SX Z b L xs) (hL : L ≤ 3072) (hk : 6 * k + 6 ≤ L) (hcl : kc ≤ 600000 ∧ nc ≤ 7302250) (hJ : JJ E a a2 w1 w2) (back : ∀ w1 w2 : va_W, JJ E a a2 w1 w2 → V E mLw qLw Z kc nc (w1 ++ w2) [(0, .ref b), (1, .ref (a 0)), (2, .ref (a2 0)), (3, .int (nI (6 * k)))] [] 1091) : V E mLw qLw Z kc nc (w1 ++ w2) [(0, .ref b), (1, .ref (a 0)), (2, .ref (a2 0)), (3, .int (nI (6 * k)))] [] 636 := by
  obtain ⟨⟨hl1, hl2⟩, ⟨f1, hf1⟩, ⟨f2, hf2⟩⟩ := hJ.len
  obtain ⟨pC, hC, h2⟩ := j_ahead hJ (xs (6 * k + 1)) (xs (6 * k + 2))
  refine mr_aload_n C 637 dL_law_636 rfl rfl ?_
  refine mr_aload_n C 638 dL_law_637 rfl rfl ?_
  refine mr_iload_n C 639 dL_law_638 rfl rfl ?_
  refine mr_iconst C (nI 1) 640 dL_law_639 rfl rfl ?_
  refine mr_iadd C (nI (6 * k + 1)) 641 dL_law_640 rfl (nI_add _ _) ?_
  refine mr_sld C hX (6 * k + 1) 642 dL_law_641 rfl rfl (by omega) (by omega) ?_
  refine mr_aload_n C 643 dL_law_642 rfl rfl ?_
  refine mr_iload_n C 644 dL_law_643 rfl rfl ?_
  refine mr_iconst C (nI 2) 645 dL_law_644 rfl rfl ?_
  refine mr_iadd C (nI (6 * k + 2)) 646 dL_law_645 rfl (nI_add _ _) ?_
  refine mr_sld C hX (6 * k + 2) 647 dL_law_646 rfl rfl (by omega) (by omega) ?_
  refine mr_callV C hC (List.range' 0 79) 0 7 650 dL_law_647 rfl mk_X7_ahead mi_X7_ahead ml_L_77 rfl rfl rfl (cut_X hl1) (nd_range 79 0) (Nat.le_of_ble_eq_true rfl) (Nat.le_of_ble_eq_true rfl) (Nat.le_of_ble_eq_true rfl) hcl (get_X hf1) rfl (fun r w hp => ?_)
  obtain ⟨z, rfl, hw, pM, hM, h3⟩ := h2 r w hp
  refine mr_w (put_X hl1 hw) ?_
  refine mr_aload_n C 651 dL_law_650 rfl rfl ?_
  refine mr_aload_n C 652 dL_law_651 rfl rfl ?_
  refine mr_iload_n C 653 dL_law_652 rfl rfl ?_
  refine mr_iconst C (nI 1) 654 dL_law_653 rfl rfl ?_
  refine mr_iadd C (nI (6 * k + 1)) 655 dL_law_654 rfl (nI_add _ _) ?_
  refine mr_sld C hX (6 * k + 1) 656 dL_law_655 rfl rfl (by omega) (by omega) ?_
  refine mr_aload_n C 657 dL_law_656 rfl rfl ?_
  refine mr_iload_n C 658 dL_law_657 rfl rfl ?_
  refine mr_iconst C (nI 2) 659 dL_law_658 rfl rfl ?_
  refine mr_iadd C (nI (6 * k + 2)) 660 dL_law_659 rfl (nI_add _ _) ?_
  refine mr_sld C hX (6 * k + 2) 661 dL_law_660 rfl rfl (by omega) (by omega) ?_
  refine mr_callV C hM (List.range' 79 17) 79 8 664 dL_law_661 rfl mk_X8_ahead mi_X8_ahead ml_L_80 rfl rfl rfl (cut_Y hw hl2) (nd_range 17 79) (Nat.le_of_ble_eq_true rfl) (Nat.le_of_ble_eq_true rfl) (Nat.le_of_ble_eq_true rfl) hcl (get_Y hw hf2) rfl (fun r w3 hp3 => ?_)
  obtain ⟨rfl, hJ3⟩ := h3 r w3 hp3
  refine mr_w (put_Y hw hl2 hJ3.len.1.2) ?_
  exact mr_icmpeq C 1091 667 dL_law_664 (by decide) rfl (fun _ => back _ _ hJ3) (fun h => absurd rfl h)
set_option maxRecDepth 20000 in
theorem lc_roomAhead {E : EG} {a a2 : Nat → Nat} {b L k kc nc : Nat} {xs : Nat → Int32} {Z : ZX} {w1 w2 : va_W} (C : CX E mLw qLw Z) (hX : SX Z b L xs) (hL : L ≤ 3072) (hk : 6 * k + 6 ≤ L) (hcl : kc ≤ 600000 ∧ nc ≤ 7302250) (hJ : JJ E a a2 w1 w2) (back : ∀ w1 w2 : va_W, JJ E a a2 w1 w2 → V E mLw qLw Z kc nc (w1 ++ w2) [(0, .ref b), (1, .ref (a 0)), (2, .ref (a2 0)), (3, .int (nI (6 * k)))] [] 1091) : V E mLw qLw Z kc nc (w1 ++ w2) [(0, .ref b), (1, .ref (a 0)), (2, .ref (a2 0)), (3, .int (nI (6 * k)))] [] 669 := by
  obtain ⟨⟨hl1, hl2⟩, ⟨f1, hf1⟩, ⟨f2, hf2⟩⟩ := hJ.len
  obtain ⟨pC, hC, h2⟩ := j_roomAhead hJ (xs (6 * k + 1)) (xs (6 * k + 2)) (xs (6 * k + 3))
  refine mr_aload_n C 670 dL_law_669 rfl rfl ?_
  refine mr_aload_n C 671 dL_law_670 rfl rfl ?_
  refine mr_iload_n C 672 dL_law_671 rfl rfl ?_
  refine mr_iconst C (nI 1) 673 dL_law_672 rfl rfl ?_
  refine mr_iadd C (nI (6 * k + 1)) 674 dL_law_673 rfl (nI_add _ _) ?_
  refine mr_sld C hX (6 * k + 1) 675 dL_law_674 rfl rfl (by omega) (by omega) ?_
  refine mr_aload_n C 676 dL_law_675 rfl rfl ?_
  refine mr_iload_n C 677 dL_law_676 rfl rfl ?_
  refine mr_iconst C (nI 2) 678 dL_law_677 rfl rfl ?_
  refine mr_iadd C (nI (6 * k + 2)) 679 dL_law_678 rfl (nI_add _ _) ?_
  refine mr_sld C hX (6 * k + 2) 680 dL_law_679 rfl rfl (by omega) (by omega) ?_
  refine mr_aload_n C 681 dL_law_680 rfl rfl ?_
  refine mr_iload_n C 682 dL_law_681 rfl rfl ?_
  refine mr_iconst C (nI 3) 683 dL_law_682 rfl rfl ?_
  refine mr_iadd C (nI (6 * k + 3)) 684 dL_law_683 rfl (nI_add _ _) ?_
  refine mr_sld C hX (6 * k + 3) 685 dL_law_684 rfl rfl (by omega) (by omega) ?_
  refine mr_callV C hC (List.range' 0 79) 0 7 688 dL_law_685 rfl mk_X7_roomAhead mi_X7_roomAhead ml_L_81 rfl rfl rfl (cut_X hl1) (nd_range 79 0) (Nat.le_of_ble_eq_true rfl) (Nat.le_of_ble_eq_true rfl) (Nat.le_of_ble_eq_true rfl) hcl (get_X hf1) rfl (fun r w hp => ?_)
  obtain ⟨z, rfl, hw, pM, hM, h3⟩ := h2 r w hp
  refine mr_w (put_X hl1 hw) ?_
  refine mr_aload_n C 689 dL_law_688 rfl rfl ?_
  refine mr_aload_n C 690 dL_law_689 rfl rfl ?_
  refine mr_iload_n C 691 dL_law_690 rfl rfl ?_
  refine mr_iconst C (nI 1) 692 dL_law_691 rfl rfl ?_
  refine mr_iadd C (nI (6 * k + 1)) 693 dL_law_692 rfl (nI_add _ _) ?_
  refine mr_sld C hX (6 * k + 1) 694 dL_law_693 rfl rfl (by omega) (by omega) ?_
  refine mr_aload_n C 695 dL_law_694 rfl rfl ?_
  refine mr_iload_n C 696 dL_law_695 rfl rfl ?_
  refine mr_iconst C (nI 2) 697 dL_law_696 rfl rfl ?_
  refine mr_iadd C (nI (6 * k + 2)) 698 dL_law_697 rfl (nI_add _ _) ?_
  refine mr_sld C hX (6 * k + 2) 699 dL_law_698 rfl rfl (by omega) (by omega) ?_
  refine mr_aload_n C 700 dL_law_699 rfl rfl ?_
  refine mr_iload_n C 701 dL_law_700 rfl rfl ?_
  refine mr_iconst C (nI 3) 702 dL_law_701 rfl rfl ?_
  refine mr_iadd C (nI (6 * k + 3)) 703 dL_law_702 rfl (nI_add _ _) ?_
  refine mr_sld C hX (6 * k + 3) 704 dL_law_703 rfl rfl (by omega) (by omega) ?_
  refine mr_callV C hM (List.range' 79 17) 79 8 707 dL_law_704 rfl mk_X8_roomAhead mi_X8_roomAhead ml_L_84 rfl rfl rfl (cut_Y hw hl2) (nd_range 17 79) (Nat.le_of_ble_eq_true rfl) (Nat.le_of_ble_eq_true rfl) (Nat.le_of_ble_eq_true rfl) hcl (get_Y hw hf2) rfl (fun r w3 hp3 => ?_)
  obtain ⟨rfl, hJ3⟩ := h3 r w3 hp3
  refine mr_w (put_Y hw hl2 hJ3.len.1.2) ?_
  exact mr_icmpeq C 1091 710 dL_law_707 (by decide) rfl (fun _ => back _ _ hJ3) (fun h => absurd rfl h)
set_option maxRecDepth 20000 in
theorem lc_rest {E : EG} {a a2 : Nat → Nat} {b L k kc nc : Nat} {xs : Nat → Int32} {Z : ZX} {w1 w2 : va_W} (C : CX E mLw qLw Z) (hX : SX Z b L xs) (hL : L ≤ 3072) (hk : 6 * k + 6 ≤ L) (hcl : kc ≤ 600000 ∧ nc ≤ 7302250) (hJ : JJ E a a2 w1 w2) (back : ∀ w1 w2 : va_W, JJ E a a2 w1 w2 → V E mLw qLw Z kc nc (w1 ++ w2) [(0, .ref b), (1, .ref (a 0)), (2, .ref (a2 0)), (3, .int (nI (6 * k)))] [] 1091) : V E mLw qLw Z kc nc (w1 ++ w2) [(0, .ref b), (1, .ref (a 0)), (2, .ref (a2 0)), (3, .int (nI (6 * k)))] [] 712 := by
  obtain ⟨⟨hl1, hl2⟩, ⟨f1, hf1⟩, ⟨f2, hf2⟩⟩ := hJ.len
  obtain ⟨pC, hC, h2⟩ := j_rest hJ (xs (6 * k + 1))
  refine mr_aload_n C 713 dL_law_712 rfl rfl ?_
  refine mr_aload_n C 714 dL_law_713 rfl rfl ?_
  refine mr_iload_n C 715 dL_law_714 rfl rfl ?_
  refine mr_iconst C (nI 1) 716 dL_law_715 rfl rfl ?_
  refine mr_iadd C (nI (6 * k + 1)) 717 dL_law_716 rfl (nI_add _ _) ?_
  refine mr_sld C hX (6 * k + 1) 718 dL_law_717 rfl rfl (by omega) (by omega) ?_
  refine mr_callV C hC (List.range' 0 79) 0 7 721 dL_law_718 rfl mk_X7_rest mi_X7_rest ml_L_85 rfl rfl rfl (cut_X hl1) (nd_range 79 0) (Nat.le_of_ble_eq_true rfl) (Nat.le_of_ble_eq_true rfl) (Nat.le_of_ble_eq_true rfl) hcl (get_X hf1) rfl (fun r w hp => ?_)
  obtain ⟨z, rfl, hw, pM, hM, h3⟩ := h2 r w hp
  refine mr_w (put_X hl1 hw) ?_
  refine mr_aload_n C 722 dL_law_721 rfl rfl ?_
  refine mr_aload_n C 723 dL_law_722 rfl rfl ?_
  refine mr_iload_n C 724 dL_law_723 rfl rfl ?_
  refine mr_iconst C (nI 1) 725 dL_law_724 rfl rfl ?_
  refine mr_iadd C (nI (6 * k + 1)) 726 dL_law_725 rfl (nI_add _ _) ?_
  refine mr_sld C hX (6 * k + 1) 727 dL_law_726 rfl rfl (by omega) (by omega) ?_
  refine mr_callV C hM (List.range' 79 17) 79 8 730 dL_law_727 rfl mk_X8_rest mi_X8_rest ml_L_88 rfl rfl rfl (cut_Y hw hl2) (nd_range 17 79) (Nat.le_of_ble_eq_true rfl) (Nat.le_of_ble_eq_true rfl) (Nat.le_of_ble_eq_true rfl) hcl (get_Y hw hf2) rfl (fun r w3 hp3 => ?_)
  obtain ⟨rfl, hJ3⟩ := h3 r w3 hp3
  refine mr_w (put_Y hw hl2 hJ3.len.1.2) ?_
  exact mr_icmpeq C 1091 733 dL_law_730 (by decide) rfl (fun _ => back _ _ hJ3) (fun h => absurd rfl h)
set_option maxRecDepth 20000 in
theorem lc_hired {E : EG} {a a2 : Nat → Nat} {b L k kc nc : Nat} {xs : Nat → Int32} {Z : ZX} {w1 w2 : va_W} (C : CX E mLw qLw Z) (hX : SX Z b L xs) (hL : L ≤ 3072) (hk : 6 * k + 6 ≤ L) (hcl : kc ≤ 600000 ∧ nc ≤ 7302250) (hJ : JJ E a a2 w1 w2) (back : ∀ w1 w2 : va_W, JJ E a a2 w1 w2 → V E mLw qLw Z kc nc (w1 ++ w2) [(0, .ref b), (1, .ref (a 0)), (2, .ref (a2 0)), (3, .int (nI (6 * k)))] [] 1091) : V E mLw qLw Z kc nc (w1 ++ w2) [(0, .ref b), (1, .ref (a 0)), (2, .ref (a2 0)), (3, .int (nI (6 * k)))] [] 735 := by
  obtain ⟨⟨hl1, hl2⟩, ⟨f1, hf1⟩, ⟨f2, hf2⟩⟩ := hJ.len
  obtain ⟨pC, hC, h2⟩ := j_hired hJ (xs (6 * k + 1)) (xs (6 * k + 2)) (xs (6 * k + 3))
  refine mr_aload_n C 736 dL_law_735 rfl rfl ?_
  refine mr_aload_n C 737 dL_law_736 rfl rfl ?_
  refine mr_iload_n C 738 dL_law_737 rfl rfl ?_
  refine mr_iconst C (nI 1) 739 dL_law_738 rfl rfl ?_
  refine mr_iadd C (nI (6 * k + 1)) 740 dL_law_739 rfl (nI_add _ _) ?_
  refine mr_sld C hX (6 * k + 1) 741 dL_law_740 rfl rfl (by omega) (by omega) ?_
  refine mr_aload_n C 742 dL_law_741 rfl rfl ?_
  refine mr_iload_n C 743 dL_law_742 rfl rfl ?_
  refine mr_iconst C (nI 2) 744 dL_law_743 rfl rfl ?_
  refine mr_iadd C (nI (6 * k + 2)) 745 dL_law_744 rfl (nI_add _ _) ?_
  refine mr_sld C hX (6 * k + 2) 746 dL_law_745 rfl rfl (by omega) (by omega) ?_
  refine mr_aload_n C 747 dL_law_746 rfl rfl ?_
  refine mr_iload_n C 748 dL_law_747 rfl rfl ?_
  refine mr_iconst C (nI 3) 749 dL_law_748 rfl rfl ?_
  refine mr_iadd C (nI (6 * k + 3)) 750 dL_law_749 rfl (nI_add _ _) ?_
  refine mr_sld C hX (6 * k + 3) 751 dL_law_750 rfl rfl (by omega) (by omega) ?_
  refine mr_callV C hC (List.range' 0 79) 0 7 754 dL_law_751 rfl mk_X7_hired mi_X7_hired ml_L_89 rfl rfl rfl (cut_X hl1) (nd_range 79 0) (Nat.le_of_ble_eq_true rfl) (Nat.le_of_ble_eq_true rfl) (Nat.le_of_ble_eq_true rfl) hcl (get_X hf1) rfl (fun r w hp => ?_)
  obtain ⟨z, rfl, hw, pM, hM, h3⟩ := h2 r w hp
  refine mr_w (put_X hl1 hw) ?_
  refine mr_aload_n C 755 dL_law_754 rfl rfl ?_
  refine mr_aload_n C 756 dL_law_755 rfl rfl ?_
  refine mr_iload_n C 757 dL_law_756 rfl rfl ?_
  refine mr_iconst C (nI 1) 758 dL_law_757 rfl rfl ?_
  refine mr_iadd C (nI (6 * k + 1)) 759 dL_law_758 rfl (nI_add _ _) ?_
  refine mr_sld C hX (6 * k + 1) 760 dL_law_759 rfl rfl (by omega) (by omega) ?_
  refine mr_aload_n C 761 dL_law_760 rfl rfl ?_
  refine mr_iload_n C 762 dL_law_761 rfl rfl ?_
  refine mr_iconst C (nI 2) 763 dL_law_762 rfl rfl ?_
  refine mr_iadd C (nI (6 * k + 2)) 764 dL_law_763 rfl (nI_add _ _) ?_
  refine mr_sld C hX (6 * k + 2) 765 dL_law_764 rfl rfl (by omega) (by omega) ?_
  refine mr_aload_n C 766 dL_law_765 rfl rfl ?_
  refine mr_iload_n C 767 dL_law_766 rfl rfl ?_
  refine mr_iconst C (nI 3) 768 dL_law_767 rfl rfl ?_
  refine mr_iadd C (nI (6 * k + 3)) 769 dL_law_768 rfl (nI_add _ _) ?_
  refine mr_sld C hX (6 * k + 3) 770 dL_law_769 rfl rfl (by omega) (by omega) ?_
  refine mr_callV C hM (List.range' 79 17) 79 8 773 dL_law_770 rfl mk_X8_hired mi_X8_hired ml_L_92 rfl rfl rfl (cut_Y hw hl2) (nd_range 17 79) (Nat.le_of_ble_eq_true rfl) (Nat.le_of_ble_eq_true rfl) (Nat.le_of_ble_eq_true rfl) hcl (get_Y hw hf2) rfl (fun r w3 hp3 => ?_)
  obtain ⟨rfl, hJ3⟩ := h3 r w3 hp3
  refine mr_w (put_Y hw hl2 hJ3.len.1.2) ?_
  exact mr_icmpeq C 1091 776 dL_law_773 (by decide) rfl (fun _ => back _ _ hJ3) (fun h => absurd rfl h)
set_option maxRecDepth 20000 in
theorem lc_empty {E : EG} {a a2 : Nat → Nat} {b L k kc nc : Nat} {xs : Nat → Int32} {Z : ZX} {w1 w2 : va_W} (C : CX E mLw qLw Z) (hX : SX Z b L xs) (hL : L ≤ 3072) (hk : 6 * k + 6 ≤ L) (hcl : kc ≤ 600000 ∧ nc ≤ 7302250) (hJ : JJ E a a2 w1 w2) (back : ∀ w1 w2 : va_W, JJ E a a2 w1 w2 → V E mLw qLw Z kc nc (w1 ++ w2) [(0, .ref b), (1, .ref (a 0)), (2, .ref (a2 0)), (3, .int (nI (6 * k)))] [] 1091) : V E mLw qLw Z kc nc (w1 ++ w2) [(0, .ref b), (1, .ref (a 0)), (2, .ref (a2 0)), (3, .int (nI (6 * k)))] [] 778 := by
  obtain ⟨⟨hl1, hl2⟩, ⟨f1, hf1⟩, ⟨f2, hf2⟩⟩ := hJ.len
  obtain ⟨pC, hC, h2⟩ := j_empty hJ (xs (6 * k + 1)) (xs (6 * k + 2)) (xs (6 * k + 3))
  refine mr_aload_n C 779 dL_law_778 rfl rfl ?_
  refine mr_aload_n C 780 dL_law_779 rfl rfl ?_
  refine mr_iload_n C 781 dL_law_780 rfl rfl ?_
  refine mr_iconst C (nI 1) 782 dL_law_781 rfl rfl ?_
  refine mr_iadd C (nI (6 * k + 1)) 783 dL_law_782 rfl (nI_add _ _) ?_
  refine mr_sld C hX (6 * k + 1) 784 dL_law_783 rfl rfl (by omega) (by omega) ?_
  refine mr_aload_n C 785 dL_law_784 rfl rfl ?_
  refine mr_iload_n C 786 dL_law_785 rfl rfl ?_
  refine mr_iconst C (nI 2) 787 dL_law_786 rfl rfl ?_
  refine mr_iadd C (nI (6 * k + 2)) 788 dL_law_787 rfl (nI_add _ _) ?_
  refine mr_sld C hX (6 * k + 2) 789 dL_law_788 rfl rfl (by omega) (by omega) ?_
  refine mr_aload_n C 790 dL_law_789 rfl rfl ?_
  refine mr_iload_n C 791 dL_law_790 rfl rfl ?_
  refine mr_iconst C (nI 3) 792 dL_law_791 rfl rfl ?_
  refine mr_iadd C (nI (6 * k + 3)) 793 dL_law_792 rfl (nI_add _ _) ?_
  refine mr_sld C hX (6 * k + 3) 794 dL_law_793 rfl rfl (by omega) (by omega) ?_
  refine mr_callV C hC (List.range' 0 79) 0 7 797 dL_law_794 rfl mk_X7_empty mi_X7_empty ml_L_93 rfl rfl rfl (cut_X hl1) (nd_range 79 0) (Nat.le_of_ble_eq_true rfl) (Nat.le_of_ble_eq_true rfl) (Nat.le_of_ble_eq_true rfl) hcl (get_X hf1) rfl (fun r w hp => ?_)
  obtain ⟨z, rfl, hw, pM, hM, h3⟩ := h2 r w hp
  refine mr_w (put_X hl1 hw) ?_
  refine mr_aload_n C 798 dL_law_797 rfl rfl ?_
  refine mr_aload_n C 799 dL_law_798 rfl rfl ?_
  refine mr_iload_n C 800 dL_law_799 rfl rfl ?_
  refine mr_iconst C (nI 1) 801 dL_law_800 rfl rfl ?_
  refine mr_iadd C (nI (6 * k + 1)) 802 dL_law_801 rfl (nI_add _ _) ?_
  refine mr_sld C hX (6 * k + 1) 803 dL_law_802 rfl rfl (by omega) (by omega) ?_
  refine mr_aload_n C 804 dL_law_803 rfl rfl ?_
  refine mr_iload_n C 805 dL_law_804 rfl rfl ?_
  refine mr_iconst C (nI 2) 806 dL_law_805 rfl rfl ?_
  refine mr_iadd C (nI (6 * k + 2)) 807 dL_law_806 rfl (nI_add _ _) ?_
  refine mr_sld C hX (6 * k + 2) 808 dL_law_807 rfl rfl (by omega) (by omega) ?_
  refine mr_aload_n C 809 dL_law_808 rfl rfl ?_
  refine mr_iload_n C 810 dL_law_809 rfl rfl ?_
  refine mr_iconst C (nI 3) 811 dL_law_810 rfl rfl ?_
  refine mr_iadd C (nI (6 * k + 3)) 812 dL_law_811 rfl (nI_add _ _) ?_
  refine mr_sld C hX (6 * k + 3) 813 dL_law_812 rfl rfl (by omega) (by omega) ?_
  refine mr_callV C hM (List.range' 79 17) 79 8 816 dL_law_813 rfl mk_X8_empty mi_X8_empty ml_L_96 rfl rfl rfl (cut_Y hw hl2) (nd_range 17 79) (Nat.le_of_ble_eq_true rfl) (Nat.le_of_ble_eq_true rfl) (Nat.le_of_ble_eq_true rfl) hcl (get_Y hw hf2) rfl (fun r w3 hp3 => ?_)
  obtain ⟨rfl, hJ3⟩ := h3 r w3 hp3
  refine mr_w (put_Y hw hl2 hJ3.len.1.2) ?_
  exact mr_icmpeq C 1091 819 dL_law_816 (by decide) rfl (fun _ => back _ _ hJ3) (fun h => absurd rfl h)
set_option maxRecDepth 20000 in
theorem lc_apart {E : EG} {a a2 : Nat → Nat} {b L k kc nc : Nat} {xs : Nat → Int32} {Z : ZX} {w1 w2 : va_W} (C : CX E mLw qLw Z) (hX : SX Z b L xs) (hL : L ≤ 3072) (hk : 6 * k + 6 ≤ L) (hcl : kc ≤ 600000 ∧ nc ≤ 7302250) (hJ : JJ E a a2 w1 w2) (back : ∀ w1 w2 : va_W, JJ E a a2 w1 w2 → V E mLw qLw Z kc nc (w1 ++ w2) [(0, .ref b), (1, .ref (a 0)), (2, .ref (a2 0)), (3, .int (nI (6 * k)))] [] 1091) : V E mLw qLw Z kc nc (w1 ++ w2) [(0, .ref b), (1, .ref (a 0)), (2, .ref (a2 0)), (3, .int (nI (6 * k)))] [] 821 := by
  obtain ⟨⟨hl1, hl2⟩, ⟨f1, hf1⟩, ⟨f2, hf2⟩⟩ := hJ.len
  obtain ⟨pC, hC, h2⟩ := j_apart hJ (xs (6 * k + 1)) (xs (6 * k + 2)) (xs (6 * k + 3))
  refine mr_aload_n C 822 dL_law_821 rfl rfl ?_
  refine mr_aload_n C 823 dL_law_822 rfl rfl ?_
  refine mr_iload_n C 824 dL_law_823 rfl rfl ?_
  refine mr_iconst C (nI 1) 825 dL_law_824 rfl rfl ?_
  refine mr_iadd C (nI (6 * k + 1)) 826 dL_law_825 rfl (nI_add _ _) ?_
  refine mr_sld C hX (6 * k + 1) 827 dL_law_826 rfl rfl (by omega) (by omega) ?_
  refine mr_aload_n C 828 dL_law_827 rfl rfl ?_
  refine mr_iload_n C 829 dL_law_828 rfl rfl ?_
  refine mr_iconst C (nI 2) 830 dL_law_829 rfl rfl ?_
  refine mr_iadd C (nI (6 * k + 2)) 831 dL_law_830 rfl (nI_add _ _) ?_
  refine mr_sld C hX (6 * k + 2) 832 dL_law_831 rfl rfl (by omega) (by omega) ?_
  refine mr_aload_n C 833 dL_law_832 rfl rfl ?_
  refine mr_iload_n C 834 dL_law_833 rfl rfl ?_
  refine mr_iconst C (nI 3) 835 dL_law_834 rfl rfl ?_
  refine mr_iadd C (nI (6 * k + 3)) 836 dL_law_835 rfl (nI_add _ _) ?_
  refine mr_sld C hX (6 * k + 3) 837 dL_law_836 rfl rfl (by omega) (by omega) ?_
  refine mr_callV C hC (List.range' 0 79) 0 7 840 dL_law_837 rfl mk_X7_apart mi_X7_apart ml_L_97 rfl rfl rfl (cut_X hl1) (nd_range 79 0) (Nat.le_of_ble_eq_true rfl) (Nat.le_of_ble_eq_true rfl) (Nat.le_of_ble_eq_true rfl) hcl (get_X hf1) rfl (fun r w hp => ?_)
  obtain ⟨z, rfl, hw, pM, hM, h3⟩ := h2 r w hp
  refine mr_w (put_X hl1 hw) ?_
  refine mr_aload_n C 841 dL_law_840 rfl rfl ?_
  refine mr_aload_n C 842 dL_law_841 rfl rfl ?_
  refine mr_iload_n C 843 dL_law_842 rfl rfl ?_
  refine mr_iconst C (nI 1) 844 dL_law_843 rfl rfl ?_
  refine mr_iadd C (nI (6 * k + 1)) 845 dL_law_844 rfl (nI_add _ _) ?_
  refine mr_sld C hX (6 * k + 1) 846 dL_law_845 rfl rfl (by omega) (by omega) ?_
  refine mr_aload_n C 847 dL_law_846 rfl rfl ?_
  refine mr_iload_n C 848 dL_law_847 rfl rfl ?_
  refine mr_iconst C (nI 2) 849 dL_law_848 rfl rfl ?_
  refine mr_iadd C (nI (6 * k + 2)) 850 dL_law_849 rfl (nI_add _ _) ?_
  refine mr_sld C hX (6 * k + 2) 851 dL_law_850 rfl rfl (by omega) (by omega) ?_
  refine mr_aload_n C 852 dL_law_851 rfl rfl ?_
  refine mr_iload_n C 853 dL_law_852 rfl rfl ?_
  refine mr_iconst C (nI 3) 854 dL_law_853 rfl rfl ?_
  refine mr_iadd C (nI (6 * k + 3)) 855 dL_law_854 rfl (nI_add _ _) ?_
  refine mr_sld C hX (6 * k + 3) 856 dL_law_855 rfl rfl (by omega) (by omega) ?_
  refine mr_callV C hM (List.range' 79 17) 79 8 859 dL_law_856 rfl mk_X8_apart mi_X8_apart ml_L_100 rfl rfl rfl (cut_Y hw hl2) (nd_range 17 79) (Nat.le_of_ble_eq_true rfl) (Nat.le_of_ble_eq_true rfl) (Nat.le_of_ble_eq_true rfl) hcl (get_Y hw hf2) rfl (fun r w3 hp3 => ?_)
  obtain ⟨rfl, hJ3⟩ := h3 r w3 hp3
  refine mr_w (put_Y hw hl2 hJ3.len.1.2) ?_
  exact mr_icmpeq C 1091 862 dL_law_859 (by decide) rfl (fun _ => back _ _ hJ3) (fun h => absurd rfl h)
set_option maxRecDepth 20000 in
theorem lc_began {E : EG} {a a2 : Nat → Nat} {b L k kc nc : Nat} {xs : Nat → Int32} {Z : ZX} {w1 w2 : va_W} (C : CX E mLw qLw Z) (hX : SX Z b L xs) (hL : L ≤ 3072) (hk : 6 * k + 6 ≤ L) (hcl : kc ≤ 600000 ∧ nc ≤ 7302250) (hJ : JJ E a a2 w1 w2) (back : ∀ w1 w2 : va_W, JJ E a a2 w1 w2 → V E mLw qLw Z kc nc (w1 ++ w2) [(0, .ref b), (1, .ref (a 0)), (2, .ref (a2 0)), (3, .int (nI (6 * k)))] [] 1091) : V E mLw qLw Z kc nc (w1 ++ w2) [(0, .ref b), (1, .ref (a 0)), (2, .ref (a2 0)), (3, .int (nI (6 * k)))] [] 864 := by
  obtain ⟨⟨hl1, hl2⟩, ⟨f1, hf1⟩, ⟨f2, hf2⟩⟩ := hJ.len
  obtain ⟨pC, hC, h2⟩ := j_began hJ (xs (6 * k + 1)) (xs (6 * k + 2))
  refine mr_aload_n C 865 dL_law_864 rfl rfl ?_
  refine mr_aload_n C 866 dL_law_865 rfl rfl ?_
  refine mr_iload_n C 867 dL_law_866 rfl rfl ?_
  refine mr_iconst C (nI 1) 868 dL_law_867 rfl rfl ?_
  refine mr_iadd C (nI (6 * k + 1)) 869 dL_law_868 rfl (nI_add _ _) ?_
  refine mr_sld C hX (6 * k + 1) 870 dL_law_869 rfl rfl (by omega) (by omega) ?_
  refine mr_aload_n C 871 dL_law_870 rfl rfl ?_
  refine mr_iload_n C 872 dL_law_871 rfl rfl ?_
  refine mr_iconst C (nI 2) 873 dL_law_872 rfl rfl ?_
  refine mr_iadd C (nI (6 * k + 2)) 874 dL_law_873 rfl (nI_add _ _) ?_
  refine mr_sld C hX (6 * k + 2) 875 dL_law_874 rfl rfl (by omega) (by omega) ?_
  refine mr_callV C hC (List.range' 0 79) 0 7 878 dL_law_875 rfl mk_X7_began mi_X7_began ml_L_101 rfl rfl rfl (cut_X hl1) (nd_range 79 0) (Nat.le_of_ble_eq_true rfl) (Nat.le_of_ble_eq_true rfl) (Nat.le_of_ble_eq_true rfl) hcl (get_X hf1) rfl (fun r w hp => ?_)
  obtain ⟨z, rfl, hw, pM, hM, h3⟩ := h2 r w hp
  refine mr_w (put_X hl1 hw) ?_
  refine mr_aload_n C 879 dL_law_878 rfl rfl ?_
  refine mr_aload_n C 880 dL_law_879 rfl rfl ?_
  refine mr_iload_n C 881 dL_law_880 rfl rfl ?_
  refine mr_iconst C (nI 1) 882 dL_law_881 rfl rfl ?_
  refine mr_iadd C (nI (6 * k + 1)) 883 dL_law_882 rfl (nI_add _ _) ?_
  refine mr_sld C hX (6 * k + 1) 884 dL_law_883 rfl rfl (by omega) (by omega) ?_
  refine mr_aload_n C 885 dL_law_884 rfl rfl ?_
  refine mr_iload_n C 886 dL_law_885 rfl rfl ?_
  refine mr_iconst C (nI 2) 887 dL_law_886 rfl rfl ?_
  refine mr_iadd C (nI (6 * k + 2)) 888 dL_law_887 rfl (nI_add _ _) ?_
  refine mr_sld C hX (6 * k + 2) 889 dL_law_888 rfl rfl (by omega) (by omega) ?_
  refine mr_callV C hM (List.range' 79 17) 79 8 892 dL_law_889 rfl mk_X8_began mi_X8_began ml_L_104 rfl rfl rfl (cut_Y hw hl2) (nd_range 17 79) (Nat.le_of_ble_eq_true rfl) (Nat.le_of_ble_eq_true rfl) (Nat.le_of_ble_eq_true rfl) hcl (get_Y hw hf2) rfl (fun r w3 hp3 => ?_)
  obtain ⟨rfl, hJ3⟩ := h3 r w3 hp3
  refine mr_w (put_Y hw hl2 hJ3.len.1.2) ?_
  exact mr_icmpeq C 1091 895 dL_law_892 (by decide) rfl (fun _ => back _ _ hJ3) (fun h => absurd rfl h)
set_option maxRecDepth 20000 in
theorem lc_image {E : EG} {a a2 : Nat → Nat} {b L k kc nc : Nat} {xs : Nat → Int32} {Z : ZX} {w1 w2 : va_W} (C : CX E mLw qLw Z) (hX : SX Z b L xs) (hL : L ≤ 3072) (hk : 6 * k + 6 ≤ L) (hcl : kc ≤ 600000 ∧ nc ≤ 7302250) (hJ : JJ E a a2 w1 w2) (back : ∀ w1 w2 : va_W, JJ E a a2 w1 w2 → V E mLw qLw Z kc nc (w1 ++ w2) [(0, .ref b), (1, .ref (a 0)), (2, .ref (a2 0)), (3, .int (nI (6 * k)))] [] 1091) : V E mLw qLw Z kc nc (w1 ++ w2) [(0, .ref b), (1, .ref (a 0)), (2, .ref (a2 0)), (3, .int (nI (6 * k)))] [] 897 := by
  obtain ⟨⟨hl1, hl2⟩, ⟨f1, hf1⟩, ⟨f2, hf2⟩⟩ := hJ.len
  obtain ⟨pC, hC, h2⟩ := j_image hJ (xs (6 * k + 1))
  refine mr_aload_n C 898 dL_law_897 rfl rfl ?_
  refine mr_aload_n C 899 dL_law_898 rfl rfl ?_
  refine mr_iload_n C 900 dL_law_899 rfl rfl ?_
  refine mr_iconst C (nI 1) 901 dL_law_900 rfl rfl ?_
  refine mr_iadd C (nI (6 * k + 1)) 902 dL_law_901 rfl (nI_add _ _) ?_
  refine mr_sld C hX (6 * k + 1) 903 dL_law_902 rfl rfl (by omega) (by omega) ?_
  refine mr_callV C hC (List.range' 0 79) 0 7 906 dL_law_903 rfl mk_X7_image mi_X7_image ml_L_105 rfl rfl rfl (cut_X hl1) (nd_range 79 0) (Nat.le_of_ble_eq_true rfl) (Nat.le_of_ble_eq_true rfl) (Nat.le_of_ble_eq_true rfl) hcl (get_X hf1) rfl (fun r w hp => ?_)
  obtain ⟨z, rfl, hw, pM, hM, h3⟩ := h2 r w hp
  refine mr_w (put_X hl1 hw) ?_
  refine mr_aload_n C 907 dL_law_906 rfl rfl ?_
  refine mr_aload_n C 908 dL_law_907 rfl rfl ?_
  refine mr_iload_n C 909 dL_law_908 rfl rfl ?_
  refine mr_iconst C (nI 1) 910 dL_law_909 rfl rfl ?_
  refine mr_iadd C (nI (6 * k + 1)) 911 dL_law_910 rfl (nI_add _ _) ?_
  refine mr_sld C hX (6 * k + 1) 912 dL_law_911 rfl rfl (by omega) (by omega) ?_
  refine mr_callV C hM (List.range' 79 17) 79 8 915 dL_law_912 rfl mk_X8_image mi_X8_image ml_L_108 rfl rfl rfl (cut_Y hw hl2) (nd_range 17 79) (Nat.le_of_ble_eq_true rfl) (Nat.le_of_ble_eq_true rfl) (Nat.le_of_ble_eq_true rfl) hcl (get_Y hw hf2) rfl (fun r w3 hp3 => ?_)
  obtain ⟨rfl, hJ3⟩ := h3 r w3 hp3
  refine mr_w (put_Y hw hl2 hJ3.len.1.2) ?_
  exact mr_icmpeq C 1091 918 dL_law_915 (by decide) rfl (fun _ => back _ _ hJ3) (fun h => absurd rfl h)
set_option maxRecDepth 20000 in
theorem lc_restore {E : EG} {a a2 : Nat → Nat} {b L k kc nc : Nat} {xs : Nat → Int32} {Z : ZX} {w1 w2 : va_W} (C : CX E mLw qLw Z) (hX : SX Z b L xs) (hL : L ≤ 3072) (hk : 6 * k + 6 ≤ L) (hcl : kc ≤ 600000 ∧ nc ≤ 7302250) (hJ : JJ E a a2 w1 w2) (back : ∀ w1 w2 : va_W, JJ E a a2 w1 w2 → V E mLw qLw Z kc nc (w1 ++ w2) [(0, .ref b), (1, .ref (a 0)), (2, .ref (a2 0)), (3, .int (nI (6 * k)))] [] 1091) : V E mLw qLw Z kc nc (w1 ++ w2) [(0, .ref b), (1, .ref (a 0)), (2, .ref (a2 0)), (3, .int (nI (6 * k)))] [] 920 := by
  obtain ⟨⟨hl1, hl2⟩, ⟨f1, hf1⟩, ⟨f2, hf2⟩⟩ := hJ.len
  obtain ⟨pC, hC, h2⟩ := j_restore hJ (xs (6 * k + 1))
  refine mr_aload_n C 921 dL_law_920 rfl rfl ?_
  refine mr_aload_n C 922 dL_law_921 rfl rfl ?_
  refine mr_iload_n C 923 dL_law_922 rfl rfl ?_
  refine mr_iconst C (nI 1) 924 dL_law_923 rfl rfl ?_
  refine mr_iadd C (nI (6 * k + 1)) 925 dL_law_924 rfl (nI_add _ _) ?_
  refine mr_sld C hX (6 * k + 1) 926 dL_law_925 rfl rfl (by omega) (by omega) ?_
  refine mr_callV C hC (List.range' 0 79) 0 7 929 dL_law_926 rfl mk_X7_restore mi_X7_restore ml_L_109 rfl rfl rfl (cut_X hl1) (nd_range 79 0) (Nat.le_of_ble_eq_true rfl) (Nat.le_of_ble_eq_true rfl) (Nat.le_of_ble_eq_true rfl) hcl (get_X hf1) rfl (fun r w hp => ?_)
  obtain ⟨z, rfl, hw, pM, hM, h3⟩ := h2 r w hp
  refine mr_w (put_X hl1 hw) ?_
  refine mr_aload_n C 930 dL_law_929 rfl rfl ?_
  refine mr_aload_n C 931 dL_law_930 rfl rfl ?_
  refine mr_iload_n C 932 dL_law_931 rfl rfl ?_
  refine mr_iconst C (nI 1) 933 dL_law_932 rfl rfl ?_
  refine mr_iadd C (nI (6 * k + 1)) 934 dL_law_933 rfl (nI_add _ _) ?_
  refine mr_sld C hX (6 * k + 1) 935 dL_law_934 rfl rfl (by omega) (by omega) ?_
  refine mr_callV C hM (List.range' 79 17) 79 8 938 dL_law_935 rfl mk_X8_restore mi_X8_restore ml_L_112 rfl rfl rfl (cut_Y hw hl2) (nd_range 17 79) (Nat.le_of_ble_eq_true rfl) (Nat.le_of_ble_eq_true rfl) (Nat.le_of_ble_eq_true rfl) hcl (get_Y hw hf2) rfl (fun r w3 hp3 => ?_)
  obtain ⟨rfl, hJ3⟩ := h3 r w3 hp3
  refine mr_w (put_Y hw hl2 hJ3.len.1.2) ?_
  exact mr_icmpeq C 1091 941 dL_law_938 (by decide) rfl (fun _ => back _ _ hJ3) (fun h => absurd rfl h)
set_option maxRecDepth 20000 in
theorem lc_kind {E : EG} {a a2 : Nat → Nat} {b L k kc nc : Nat} {xs : Nat → Int32} {Z : ZX} {w1 w2 : va_W} (C : CX E mLw qLw Z) (hX : SX Z b L xs) (hL : L ≤ 3072) (hk : 6 * k + 6 ≤ L) (hcl : kc ≤ 600000 ∧ nc ≤ 7302250) (hJ : JJ E a a2 w1 w2) (back : ∀ w1 w2 : va_W, JJ E a a2 w1 w2 → V E mLw qLw Z kc nc (w1 ++ w2) [(0, .ref b), (1, .ref (a 0)), (2, .ref (a2 0)), (3, .int (nI (6 * k)))] [] 1091) : V E mLw qLw Z kc nc (w1 ++ w2) [(0, .ref b), (1, .ref (a 0)), (2, .ref (a2 0)), (3, .int (nI (6 * k)))] [] 943 := by
  obtain ⟨⟨hl1, hl2⟩, ⟨f1, hf1⟩, ⟨f2, hf2⟩⟩ := hJ.len
  obtain ⟨pC, hC, h2⟩ := j_kind hJ (xs (6 * k + 1))
  refine mr_aload_n C 944 dL_law_943 rfl rfl ?_
  refine mr_aload_n C 945 dL_law_944 rfl rfl ?_
  refine mr_iload_n C 946 dL_law_945 rfl rfl ?_
  refine mr_iconst C (nI 1) 947 dL_law_946 rfl rfl ?_
  refine mr_iadd C (nI (6 * k + 1)) 948 dL_law_947 rfl (nI_add _ _) ?_
  refine mr_sld C hX (6 * k + 1) 949 dL_law_948 rfl rfl (by omega) (by omega) ?_
  refine mr_callV C hC (List.range' 0 79) 0 7 952 dL_law_949 rfl mk_X7_kind mi_X7_kind ml_L_113 rfl rfl rfl (cut_X hl1) (nd_range 79 0) (Nat.le_of_ble_eq_true rfl) (Nat.le_of_ble_eq_true rfl) (Nat.le_of_ble_eq_true rfl) hcl (get_X hf1) rfl (fun r w hp => ?_)
  obtain ⟨z, rfl, hw, pM, hM, h3⟩ := h2 r w hp
  refine mr_w (put_X hl1 hw) ?_
  refine mr_aload_n C 953 dL_law_952 rfl rfl ?_
  refine mr_aload_n C 954 dL_law_953 rfl rfl ?_
  refine mr_iload_n C 955 dL_law_954 rfl rfl ?_
  refine mr_iconst C (nI 1) 956 dL_law_955 rfl rfl ?_
  refine mr_iadd C (nI (6 * k + 1)) 957 dL_law_956 rfl (nI_add _ _) ?_
  refine mr_sld C hX (6 * k + 1) 958 dL_law_957 rfl rfl (by omega) (by omega) ?_
  refine mr_callV C hM (List.range' 79 17) 79 8 961 dL_law_958 rfl mk_X8_kind mi_X8_kind ml_L_116 rfl rfl rfl (cut_Y hw hl2) (nd_range 17 79) (Nat.le_of_ble_eq_true rfl) (Nat.le_of_ble_eq_true rfl) (Nat.le_of_ble_eq_true rfl) hcl (get_Y hw hf2) rfl (fun r w3 hp3 => ?_)
  obtain ⟨rfl, hJ3⟩ := h3 r w3 hp3
  refine mr_w (put_Y hw hl2 hJ3.len.1.2) ?_
  exact mr_icmpeq C 1091 964 dL_law_961 (by decide) rfl (fun _ => back _ _ hJ3) (fun h => absurd rfl h)
set_option maxRecDepth 20000 in
theorem lc_as {E : EG} {a a2 : Nat → Nat} {b L k kc nc : Nat} {xs : Nat → Int32} {Z : ZX} {w1 w2 : va_W} (C : CX E mLw qLw Z) (hX : SX Z b L xs) (hL : L ≤ 3072) (hk : 6 * k + 6 ≤ L) (hcl : kc ≤ 600000 ∧ nc ≤ 7302250) (hJ : JJ E a a2 w1 w2) (back : ∀ w1 w2 : va_W, JJ E a a2 w1 w2 → V E mLw qLw Z kc nc (w1 ++ w2) [(0, .ref b), (1, .ref (a 0)), (2, .ref (a2 0)), (3, .int (nI (6 * k)))] [] 1091) : V E mLw qLw Z kc nc (w1 ++ w2) [(0, .ref b), (1, .ref (a 0)), (2, .ref (a2 0)), (3, .int (nI (6 * k)))] [] 966 := by
  obtain ⟨⟨hl1, hl2⟩, ⟨f1, hf1⟩, ⟨f2, hf2⟩⟩ := hJ.len
  obtain ⟨pC, hC, h2⟩ := j_as hJ (xs (6 * k + 1)) (xs (6 * k + 2))
  refine mr_aload_n C 967 dL_law_966 rfl rfl ?_
  refine mr_aload_n C 968 dL_law_967 rfl rfl ?_
  refine mr_iload_n C 969 dL_law_968 rfl rfl ?_
  refine mr_iconst C (nI 1) 970 dL_law_969 rfl rfl ?_
  refine mr_iadd C (nI (6 * k + 1)) 971 dL_law_970 rfl (nI_add _ _) ?_
  refine mr_sld C hX (6 * k + 1) 972 dL_law_971 rfl rfl (by omega) (by omega) ?_
  refine mr_aload_n C 973 dL_law_972 rfl rfl ?_
  refine mr_iload_n C 974 dL_law_973 rfl rfl ?_
  refine mr_iconst C (nI 2) 975 dL_law_974 rfl rfl ?_
  refine mr_iadd C (nI (6 * k + 2)) 976 dL_law_975 rfl (nI_add _ _) ?_
  refine mr_sld C hX (6 * k + 2) 977 dL_law_976 rfl rfl (by omega) (by omega) ?_
  refine mr_callV C hC (List.range' 0 79) 0 7 980 dL_law_977 rfl mk_X7_as mi_X7_as ml_L_117 rfl rfl rfl (cut_X hl1) (nd_range 79 0) (Nat.le_of_ble_eq_true rfl) (Nat.le_of_ble_eq_true rfl) (Nat.le_of_ble_eq_true rfl) hcl (get_X hf1) rfl (fun r w hp => ?_)
  obtain ⟨z, rfl, hw, pM, hM, h3⟩ := h2 r w hp
  refine mr_w (put_X hl1 hw) ?_
  refine mr_aload_n C 981 dL_law_980 rfl rfl ?_
  refine mr_aload_n C 982 dL_law_981 rfl rfl ?_
  refine mr_iload_n C 983 dL_law_982 rfl rfl ?_
  refine mr_iconst C (nI 1) 984 dL_law_983 rfl rfl ?_
  refine mr_iadd C (nI (6 * k + 1)) 985 dL_law_984 rfl (nI_add _ _) ?_
  refine mr_sld C hX (6 * k + 1) 986 dL_law_985 rfl rfl (by omega) (by omega) ?_
  refine mr_aload_n C 987 dL_law_986 rfl rfl ?_
  refine mr_iload_n C 988 dL_law_987 rfl rfl ?_
  refine mr_iconst C (nI 2) 989 dL_law_988 rfl rfl ?_
  refine mr_iadd C (nI (6 * k + 2)) 990 dL_law_989 rfl (nI_add _ _) ?_
  refine mr_sld C hX (6 * k + 2) 991 dL_law_990 rfl rfl (by omega) (by omega) ?_
  refine mr_callV C hM (List.range' 79 17) 79 8 994 dL_law_991 rfl mk_X8_as mi_X8_as ml_L_120 rfl rfl rfl (cut_Y hw hl2) (nd_range 17 79) (Nat.le_of_ble_eq_true rfl) (Nat.le_of_ble_eq_true rfl) (Nat.le_of_ble_eq_true rfl) hcl (get_Y hw hf2) rfl (fun r w3 hp3 => ?_)
  obtain ⟨rfl, hJ3⟩ := h3 r w3 hp3
  refine mr_w (put_Y hw hl2 hJ3.len.1.2) ?_
  exact mr_icmpeq C 1091 997 dL_law_994 (by decide) rfl (fun _ => back _ _ hJ3) (fun h => absurd rfl h)
set_option maxRecDepth 20000 in
theorem lc_ask {E : EG} {a a2 : Nat → Nat} {b L k kc nc : Nat} {xs : Nat → Int32} {Z : ZX} {w1 w2 : va_W} (C : CX E mLw qLw Z) (hX : SX Z b L xs) (hL : L ≤ 3072) (hk : 6 * k + 6 ≤ L) (hcl : kc ≤ 600000 ∧ nc ≤ 7302250) (hJ : JJ E a a2 w1 w2) (back : ∀ w1 w2 : va_W, JJ E a a2 w1 w2 → V E mLw qLw Z kc nc (w1 ++ w2) [(0, .ref b), (1, .ref (a 0)), (2, .ref (a2 0)), (3, .int (nI (6 * k)))] [] 1091) : V E mLw qLw Z kc nc (w1 ++ w2) [(0, .ref b), (1, .ref (a 0)), (2, .ref (a2 0)), (3, .int (nI (6 * k)))] [] 999 := by
  obtain ⟨⟨hl1, hl2⟩, ⟨f1, hf1⟩, ⟨f2, hf2⟩⟩ := hJ.len
  obtain ⟨pC, hC, h2⟩ := j_ask hJ (xs (6 * k + 1)) (xs (6 * k + 2))
  refine mr_aload_n C 1000 dL_law_999 rfl rfl ?_
  refine mr_aload_n C 1001 dL_law_1000 rfl rfl ?_
  refine mr_iload_n C 1002 dL_law_1001 rfl rfl ?_
  refine mr_iconst C (nI 1) 1003 dL_law_1002 rfl rfl ?_
  refine mr_iadd C (nI (6 * k + 1)) 1004 dL_law_1003 rfl (nI_add _ _) ?_
  refine mr_sld C hX (6 * k + 1) 1005 dL_law_1004 rfl rfl (by omega) (by omega) ?_
  refine mr_aload_n C 1006 dL_law_1005 rfl rfl ?_
  refine mr_iload_n C 1007 dL_law_1006 rfl rfl ?_
  refine mr_iconst C (nI 2) 1008 dL_law_1007 rfl rfl ?_
  refine mr_iadd C (nI (6 * k + 2)) 1009 dL_law_1008 rfl (nI_add _ _) ?_
  refine mr_sld C hX (6 * k + 2) 1010 dL_law_1009 rfl rfl (by omega) (by omega) ?_
  refine mr_callV C hC (List.range' 0 79) 0 7 1013 dL_law_1010 rfl mk_X7_ask mi_X7_ask ml_L_121 rfl rfl rfl (cut_X hl1) (nd_range 79 0) (Nat.le_of_ble_eq_true rfl) (Nat.le_of_ble_eq_true rfl) (Nat.le_of_ble_eq_true rfl) hcl (get_X hf1) rfl (fun r w hp => ?_)
  obtain ⟨z, rfl, hw, pM, hM, h3⟩ := h2 r w hp
  refine mr_w (put_X hl1 hw) ?_
  refine mr_aload_n C 1014 dL_law_1013 rfl rfl ?_
  refine mr_aload_n C 1015 dL_law_1014 rfl rfl ?_
  refine mr_iload_n C 1016 dL_law_1015 rfl rfl ?_
  refine mr_iconst C (nI 1) 1017 dL_law_1016 rfl rfl ?_
  refine mr_iadd C (nI (6 * k + 1)) 1018 dL_law_1017 rfl (nI_add _ _) ?_
  refine mr_sld C hX (6 * k + 1) 1019 dL_law_1018 rfl rfl (by omega) (by omega) ?_
  refine mr_aload_n C 1020 dL_law_1019 rfl rfl ?_
  refine mr_iload_n C 1021 dL_law_1020 rfl rfl ?_
  refine mr_iconst C (nI 2) 1022 dL_law_1021 rfl rfl ?_
  refine mr_iadd C (nI (6 * k + 2)) 1023 dL_law_1022 rfl (nI_add _ _) ?_
  refine mr_sld C hX (6 * k + 2) 1024 dL_law_1023 rfl rfl (by omega) (by omega) ?_
  refine mr_callV C hM (List.range' 79 17) 79 8 1027 dL_law_1024 rfl mk_X8_ask mi_X8_ask ml_L_124 rfl rfl rfl (cut_Y hw hl2) (nd_range 17 79) (Nat.le_of_ble_eq_true rfl) (Nat.le_of_ble_eq_true rfl) (Nat.le_of_ble_eq_true rfl) hcl (get_Y hw hf2) rfl (fun r w3 hp3 => ?_)
  obtain ⟨rfl, hJ3⟩ := h3 r w3 hp3
  refine mr_w (put_Y hw hl2 hJ3.len.1.2) ?_
  exact mr_icmpeq C 1091 1030 dL_law_1027 (by decide) rfl (fun _ => back _ _ hJ3) (fun h => absurd rfl h)
set_option maxRecDepth 20000 in
theorem lc_trace {E : EG} {a a2 : Nat → Nat} {b L k kc nc : Nat} {xs : Nat → Int32} {Z : ZX} {w1 w2 : va_W} (C : CX E mLw qLw Z) (hX : SX Z b L xs) (hL : L ≤ 3072) (hk : 6 * k + 6 ≤ L) (hcl : kc ≤ 600000 ∧ nc ≤ 7302250) (hJ : JJ E a a2 w1 w2) (back : ∀ w1 w2 : va_W, JJ E a a2 w1 w2 → V E mLw qLw Z kc nc (w1 ++ w2) [(0, .ref b), (1, .ref (a 0)), (2, .ref (a2 0)), (3, .int (nI (6 * k)))] [] 1091) : V E mLw qLw Z kc nc (w1 ++ w2) [(0, .ref b), (1, .ref (a 0)), (2, .ref (a2 0)), (3, .int (nI (6 * k)))] [] 1032 := by
  obtain ⟨⟨hl1, hl2⟩, ⟨f1, hf1⟩, ⟨f2, hf2⟩⟩ := hJ.len
  obtain ⟨pC, hC, h2⟩ := j_trace hJ (xs (6 * k + 1))
  refine mr_aload_n C 1033 dL_law_1032 rfl rfl ?_
  refine mr_aload_n C 1034 dL_law_1033 rfl rfl ?_
  refine mr_iload_n C 1035 dL_law_1034 rfl rfl ?_
  refine mr_iconst C (nI 1) 1036 dL_law_1035 rfl rfl ?_
  refine mr_iadd C (nI (6 * k + 1)) 1037 dL_law_1036 rfl (nI_add _ _) ?_
  refine mr_sld C hX (6 * k + 1) 1038 dL_law_1037 rfl rfl (by omega) (by omega) ?_
  refine mr_callV C hC (List.range' 0 79) 0 7 1041 dL_law_1038 rfl mk_X7_trace mi_X7_trace ml_L_125 rfl rfl rfl (cut_X hl1) (nd_range 79 0) (Nat.le_of_ble_eq_true rfl) (Nat.le_of_ble_eq_true rfl) (Nat.le_of_ble_eq_true rfl) hcl (get_X hf1) rfl (fun r w hp => ?_)
  obtain ⟨z, rfl, hw, pM, hM, h3⟩ := h2 r w hp
  refine mr_w (put_X hl1 hw) ?_
  refine mr_aload_n C 1042 dL_law_1041 rfl rfl ?_
  refine mr_aload_n C 1043 dL_law_1042 rfl rfl ?_
  refine mr_iload_n C 1044 dL_law_1043 rfl rfl ?_
  refine mr_iconst C (nI 1) 1045 dL_law_1044 rfl rfl ?_
  refine mr_iadd C (nI (6 * k + 1)) 1046 dL_law_1045 rfl (nI_add _ _) ?_
  refine mr_sld C hX (6 * k + 1) 1047 dL_law_1046 rfl rfl (by omega) (by omega) ?_
  refine mr_callV C hM (List.range' 79 17) 79 8 1050 dL_law_1047 rfl mk_X8_trace mi_X8_trace ml_L_128 rfl rfl rfl (cut_Y hw hl2) (nd_range 17 79) (Nat.le_of_ble_eq_true rfl) (Nat.le_of_ble_eq_true rfl) (Nat.le_of_ble_eq_true rfl) hcl (get_Y hw hf2) rfl (fun r w3 hp3 => ?_)
  obtain ⟨rfl, hJ3⟩ := h3 r w3 hp3
  refine mr_w (put_Y hw hl2 hJ3.len.1.2) ?_
  exact mr_icmpeq C 1091 1053 dL_law_1050 (by decide) rfl (fun _ => back _ _ hJ3) (fun h => absurd rfl h)
set_option maxRecDepth 20000 in
theorem lc_count {E : EG} {a a2 : Nat → Nat} {b L k kc nc : Nat} {xs : Nat → Int32} {Z : ZX} {w1 w2 : va_W} (C : CX E mLw qLw Z) (hX : SX Z b L xs) (hL : L ≤ 3072) (hk : 6 * k + 6 ≤ L) (hcl : kc ≤ 600000 ∧ nc ≤ 7302250) (hJ : JJ E a a2 w1 w2) (back : ∀ w1 w2 : va_W, JJ E a a2 w1 w2 → V E mLw qLw Z kc nc (w1 ++ w2) [(0, .ref b), (1, .ref (a 0)), (2, .ref (a2 0)), (3, .int (nI (6 * k)))] [] 1091) : V E mLw qLw Z kc nc (w1 ++ w2) [(0, .ref b), (1, .ref (a 0)), (2, .ref (a2 0)), (3, .int (nI (6 * k)))] [] 1055 := by
  obtain ⟨⟨hl1, hl2⟩, ⟨f1, hf1⟩, ⟨f2, hf2⟩⟩ := hJ.len
  obtain ⟨pC, hC, h2⟩ := j_count hJ (xs (6 * k + 1))
  refine mr_aload_n C 1056 dL_law_1055 rfl rfl ?_
  refine mr_aload_n C 1057 dL_law_1056 rfl rfl ?_
  refine mr_iload_n C 1058 dL_law_1057 rfl rfl ?_
  refine mr_iconst C (nI 1) 1059 dL_law_1058 rfl rfl ?_
  refine mr_iadd C (nI (6 * k + 1)) 1060 dL_law_1059 rfl (nI_add _ _) ?_
  refine mr_sld C hX (6 * k + 1) 1061 dL_law_1060 rfl rfl (by omega) (by omega) ?_
  refine mr_callV C hC (List.range' 0 79) 0 7 1064 dL_law_1061 rfl mk_X7_count mi_X7_count ml_L_129 rfl rfl rfl (cut_X hl1) (nd_range 79 0) (Nat.le_of_ble_eq_true rfl) (Nat.le_of_ble_eq_true rfl) (Nat.le_of_ble_eq_true rfl) hcl (get_X hf1) rfl (fun r w hp => ?_)
  obtain ⟨z, rfl, hw, pM, hM, h3⟩ := h2 r w hp
  refine mr_w (put_X hl1 hw) ?_
  refine mr_aload_n C 1065 dL_law_1064 rfl rfl ?_
  refine mr_aload_n C 1066 dL_law_1065 rfl rfl ?_
  refine mr_iload_n C 1067 dL_law_1066 rfl rfl ?_
  refine mr_iconst C (nI 1) 1068 dL_law_1067 rfl rfl ?_
  refine mr_iadd C (nI (6 * k + 1)) 1069 dL_law_1068 rfl (nI_add _ _) ?_
  refine mr_sld C hX (6 * k + 1) 1070 dL_law_1069 rfl rfl (by omega) (by omega) ?_
  refine mr_callV C hM (List.range' 79 17) 79 8 1073 dL_law_1070 rfl mk_X8_count mi_X8_count ml_L_132 rfl rfl rfl (cut_Y hw hl2) (nd_range 17 79) (Nat.le_of_ble_eq_true rfl) (Nat.le_of_ble_eq_true rfl) (Nat.le_of_ble_eq_true rfl) hcl (get_Y hw hf2) rfl (fun r w3 hp3 => ?_)
  obtain ⟨rfl, hJ3⟩ := h3 r w3 hp3
  refine mr_w (put_Y hw hl2 hJ3.len.1.2) ?_
  exact mr_icmpeq C 1091 1076 dL_law_1073 (by decide) rfl (fun _ => back _ _ hJ3) (fun h => absurd rfl h)
set_option maxRecDepth 20000 in
theorem lc_status {E : EG} {a a2 : Nat → Nat} {b L k kc nc : Nat} {xs : Nat → Int32} {Z : ZX} {w1 w2 : va_W} (C : CX E mLw qLw Z) (hX : SX Z b L xs) (hL : L ≤ 3072) (hk : 6 * k + 6 ≤ L) (hcl : kc ≤ 600000 ∧ nc ≤ 7302250) (hJ : JJ E a a2 w1 w2) (back : ∀ w1 w2 : va_W, JJ E a a2 w1 w2 → V E mLw qLw Z kc nc (w1 ++ w2) [(0, .ref b), (1, .ref (a 0)), (2, .ref (a2 0)), (3, .int (nI (6 * k)))] [] 1091) : V E mLw qLw Z kc nc (w1 ++ w2) [(0, .ref b), (1, .ref (a 0)), (2, .ref (a2 0)), (3, .int (nI (6 * k)))] [] 1078 := by
  obtain ⟨⟨hl1, hl2⟩, ⟨f1, hf1⟩, ⟨f2, hf2⟩⟩ := hJ.len
  obtain ⟨pC, hC, h2⟩ := j_status hJ 
  refine mr_aload_n C 1079 dL_law_1078 rfl rfl ?_
  refine mr_callV C hC (List.range' 0 79) 0 7 1082 dL_law_1079 rfl mk_X7_status mi_X7_status ml_L_133 rfl rfl rfl (cut_X hl1) (nd_range 79 0) (Nat.le_of_ble_eq_true rfl) (Nat.le_of_ble_eq_true rfl) (Nat.le_of_ble_eq_true rfl) hcl (get_X hf1) rfl (fun r w hp => ?_)
  obtain ⟨z, rfl, hw, pM, hM, h3⟩ := h2 r w hp
  refine mr_w (put_X hl1 hw) ?_
  refine mr_aload_n C 1083 dL_law_1082 rfl rfl ?_
  refine mr_callV C hM (List.range' 79 17) 79 8 1086 dL_law_1083 rfl mk_X8_status mi_X8_status ml_L_136 rfl rfl rfl (cut_Y hw hl2) (nd_range 17 79) (Nat.le_of_ble_eq_true rfl) (Nat.le_of_ble_eq_true rfl) (Nat.le_of_ble_eq_true rfl) hcl (get_Y hw hf2) rfl (fun r w3 hp3 => ?_)
  obtain ⟨rfl, hJ3⟩ := h3 r w3 hp3
  refine mr_w (put_Y hw hl2 hJ3.len.1.2) ?_
  exact mr_icmpeq C 1091 1089 dL_law_1086 (by decide) rfl (fun _ => back _ _ hJ3) (fun h => absurd rfl h)
